section
set_option maxHeartbeats 4000000 in
set_option maxRecDepth 100000 in
theorem g_X8_take_N (l : Launch) (D : va_G) (E : Nat → Nat) (xh : Nat) (xa : Nat → Nat) (xtrialRule : Nat) (xdropRule : Nat) (xtoday : Int32) (xf1 : Nat → Int32) (xf3 : Nat → Option Nat) (p0 : Int32) (sz : Nat) (hi_x : (0 ≤ xtoday.toInt ∧ xtoday.toInt ≤ 399)) (hn0 : ¬ (0 ≤ p0.toInt ∧ p0.toInt ≤ 15 ∧ ((xf1 (p0).toNatClampNeg).toInt = 0 ∨ (xf1 (p0).toNatClampNeg).toInt = 1))) : Met l yX8_take (wl yX8_take cX8_take 3 (some .int)) (RM 2 0 0) (mu_P D E [.ref xh, .int p0] [(xh, .inr (8, G8 xa xtrialRule xdropRule xtoday)), ((xa 1), .inl (E 0, 16, .inl xf1)), ((xa 3), .inl (E 3, 16, .inr (.inr (.inr (.inr xf3)))))] sz) (va_Qi (fun (r : Int32) (u : (Nat → Int32)) => (KM xf1 u) ∧ ((r.toInt = -1 ∧ ¬ (0 ≤ p0.toInt ∧ p0.toInt ≤ 15) ∧ u = xf1) ∨ ((0 ≤ p0.toInt ∧ p0.toInt ≤ 15) ∧ (xf1 (p0).toNatClampNeg).toInt = -5 ∧ r.toInt = -2 ∧ u = xf1) ∨ ((0 ≤ p0.toInt ∧ p0.toInt ≤ 15) ∧ (xf1 (p0).toNatClampNeg).toInt ≠ -5 ∧ r.toInt = 1 ∧ u = upd xf1 (p0).toNatClampNeg (-5)))) (mu_B D (va_A [(xh, .inr (8, G8 xa xtrialRule xdropRule xtoday)), ((xa 1), .inl (E 0, 16, .inl xf1)), ((xa 3), .inl (E 3, 16, .inr (.inr (.inr (.inr xf3)))))] sz) (fun (u : (Nat → Int32)) => [(xh, .inr (8, G8 xa xtrialRule xdropRule xtoday)), ((xa 1), .inl (E 0, 16, .inl u)), ((xa 3), .inl (E 3, 16, .inr (.inr (.inr (.inr xf3)))))])) (va_A [(xh, .inr (8, G8 xa xtrialRule xdropRule xtoday)), ((xa 1), .inl (E 0, 16, .inl xf1)), ((xa 3), .inl (E 3, 16, .inr (.inr (.inr (.inr xf3)))))] sz)) 0 0 (va_A [(xh, .inr (8, G8 xa xtrialRule xdropRule xtoday)), ((xa 1), .inl (E 0, 16, .inl xf1)), ((xa 3), .inl (E 3, 16, .inr (.inr (.inr (.inr xf3)))))] sz) := by
  refine Met.ofW (cc := cX8_take) (maxL := 3) (ret := (some .int)) (by decide) rfl ?_
  intro p e s m args below meth c s₁ B hml hv
  obtain ⟨rfl, hsz, hP, hK, hD0⟩ := hv
  have hx := B.exec; have hb := B.bytes; have hr := B.returns
  have hts := atoms_spec (ws := wl yX8_take cX8_take 3 (some .int)) B.pre
  have htb : ∀ w ∈ tb, w.before _ s = true := fun w h => hts w (List.mem_cons_of_mem _ h)
  have hown : s.vm.findClass RX8 = some m.cls := findClass_of_methodNamed B.named
  have hlocks := B.notSynchronized
  subst hsz
  have hD := hD0.self (sz := s.heap.size)
  generalize hAe : va_A [(xh, .inr (8, G8 xa xtrialRule xdropRule xtoday)), ((xa 1), .inl (E 0, 16, .inl xf1)), ((xa 3), .inl (E 3, 16, .inr (.inr (.inr (.inr xf3)))))] s.heap.size = A at hD ⊢
  have hA : ∀ q : Nat, s.heap.size ≤ q → A q := fun q h => by rw [← hAe]; exact Or.inr h
  have hS : va_S A s.heap s.heap [] := va_S.rf
  have hP : va_P D vwCl [(xh, .inr (8, G8 xa xtrialRule xdropRule xtoday)), ((xa 1), .inl (E 0, 16, .inl xf1)), ((xa 3), .inl (E 3, 16, .inr (.inr (.inr (.inr xf3)))))] s.heap := hP
  have hl := lv_entry ([.ref xh, .int p0]) (n := 3) (Nat.le_of_ble_eq_true rfl)
  rw [lg_entry_eq]
  generalize (lg_sl ([.ref xh, .int p0]) ++ List.replicate (3 - (lg_sl ([.ref xh, .int p0])).length) Slot.unset).toArray = ls at hl ⊢
  have hl : lv_has ls 3 [(0, .ref xh), (1, .int p0)] := hl
  have lo_p0 := i_lo p0; have hi_p0 := i_hi p0
  refine lv_iload_n hx hb dX8_take_0 rfl (lv_at hl 1 rfl) ?_
  refine callRS (rest := []) (As := [.int p0]) hx hb hml hown htb hK (g_X8_isPlace l D E p0 ) ok_X8_isPlace k_333 k_334 k_1 k_335 ⟨(Nat.le_of_ble_eq_true rfl), (Nat.le_of_ble_eq_true rfl)⟩ ⟨(Nat.le_of_ble_eq_true rfl), (Nat.le_of_ble_eq_true rfl)⟩ hl.1 (Nat.le_of_ble_eq_true rfl) rfl rfl dX8_take_1 (hP.sub (ws' := ([] : va_W)) [] rfl) (fun r_1 hw_2 => ?_)
  rcases hw_2 with ⟨hr_1, hw_2⟩ | ⟨hr_1, hw_2⟩
  ·
    refine W_top (y := .int 1) (by rw [hr_1]) ?_
    refine lv_if_ne (tgt := 9) hx hb dX8_take_4 (by decide) (fun c_4 => ?_) (fun c_4 => absurd c_4 (by decide))
    refine lv_aload_n hx hb dX8_take_9 rfl (lv_at hl 0 rfl) ?_
    refine va_get (D := D) (ci := 8) (v := .ref (xa 1)) (C := RX8) (T := TX8) (N := 14) hx hb htb iX8 hown hK.1 hP 0 rfl rfl 1 (by decide) (htb _ k_273) (fun _ h9 => h9) rfl dX8_take_10 ?_
    refine lv_iload_n hx hb dX8_take_13 rfl (lv_at hl 1 rfl) ?_
    refine va_iald hx hb hK.1 hP 1 0 rfl rfl (g_in rfl (by omega) (by omega)) dX8_take_14 ?_
    refine lv_topi (fun z_5 ez_5 => ?_)
    have kz_5 := congrArg Int32.toInt ez_5
    refine lv_bipush (v := (-5)) hx hb dX8_take_15 (by decide) ?_
    refine lv_icmp_ne (tgt := 23) hx hb dX8_take_17 (by decide) (fun c_6 => ?_) (fun c_6 => ?_)
    ·
      have ic_6 : z_5.toInt ≠ -5 := mt (g_eq rfl t_m5).mpr c_6
      clear c_6
      refine lv_aload_n hx hb dX8_take_23 rfl (lv_at hl 0 rfl) ?_
      refine lv_iload_n hx hb dX8_take_24 rfl (lv_at hl 1 rfl) ?_
      refine rn_call (runRV (rest := []) (As := [.int p0]) hx hb hml hown htb (g_X8_watchAt_N l D E xh xa xtrialRule xdropRule xtoday xf1 xf3 p0 (by (try dsimp only); omega) hn0) ok_X8_watchAt k_369 k_371 ks_1 k_1 k_372 ⟨(Nat.le_of_ble_eq_true rfl), (Nat.le_of_ble_eq_true rfl)⟩ ⟨(Nat.le_of_ble_eq_true rfl), (Nat.le_of_ble_eq_true rfl)⟩ hl.1 (Nat.le_of_ble_eq_true rfl) rfl rfl dX8_take_25 (prV (hP.sub (ws' := [(xh, .inr (8, G8 xa xtrialRule xdropRule xtoday)), ((xa 1), .inl (E 0, 16, .inl xf1)), ((xa 3), .inl (E 3, 16, .inr (.inr (.inr (.inr xf3)))))]) [0, 1, 2] rfl) hK rfl rfl 0 rfl)) ?_
      refine lv_astore_nN (lv' := [(2, .null), (0, .ref xh), (1, .int p0)]) hx hb dX8_take_28 rfl hl (by decide) rfl (fun ls hl => ?_)
      refine lv_aload_nN hx hb dX8_take_29 rfl (lv_at hl 0 rfl) ?_
      refine lv_ifnullN (tgt := 48) hx hb dX8_take_30 (by decide) ?_
      refine lv_aload_n hx hb dX8_take_48 rfl (lv_at hl 1 rfl) ?_
      refine va_get (D := D) (ci := 8) (v := .ref (xa 1)) (C := RX8) (T := TX8) (N := 14) hx hb htb iX8 hown hK.1 hP 0 rfl rfl 1 (by decide) (htb _ k_273) (fun _ h9 => h9) rfl dX8_take_49 ?_
      refine lv_iload_n hx hb dX8_take_52 rfl (lv_at hl 2 rfl) ?_
      refine lv_bipush (v := (-5)) hx hb dX8_take_53 (by decide) ?_
      refine va_iast hx hb hK.1 hP hD hS 1 0 rfl rfl (g_in rfl (by omega) (by omega)) dX8_take_55 (fun H locs hP hD hS => ?_)
      have hP : va_P D vwCl [(xh, .inr (8, G8 xa xtrialRule xdropRule xtoday)), ((xa 1), .inl (E 0, 16, .inl (upd xf1 (p0 : Int32).toNatClampNeg (-5)))), ((xa 3), .inl (E 3, 16, .inr (.inr (.inr (.inr xf3)))))] H := hP
      have hD := toW hP hD rfl
      refine lv_iconst (v := 1) hx hb dX8_take_56 (by decide) ?_
      have hP9 := hP.sub (ws' := [(xh, .inr (8, G8 xa xtrialRule xdropRule xtoday)), ((xa 1), .inl (E 0, 16, .inl (upd xf1 (p0 : Int32).toNatClampNeg (-5)))), ((xa 3), .inl (E 3, 16, .inr (.inr (.inr (.inr xf3)))))]) [0, 1, 2] rfl
      have hD9 := hD.sub (ws' := [(xh, .inr (8, G8 xa xtrialRule xdropRule xtoday)), ((xa 1), .inl (E 0, 16, .inl (upd xf1 (p0 : Int32).toNatClampNeg (-5)))), ((xa 3), .inl (E 3, 16, .inr (.inr (.inr (.inr xf3)))))]) [0, 1, 2] (by decide) rfl
      exact W.iret (v := 1) hx hb hr (fun t ht hW => ⟨⟨1, (upd xf1 (p0 : Int32).toNatClampNeg (-5)), rfl, ⟨(KM_u (by decide)), (by have hl0 := t_1; (try dsimp only); first | exact Or.inl ⟨by omega, by omega, rfl⟩ | exact Or.inr (Or.inl ⟨by omega, by omega, by omega, rfl⟩) | exact Or.inr (Or.inr ⟨by omega, by omega, by omega, rfl⟩))⟩, by rw [ht]; exact hP9, hD9⟩, hS.F ht⟩) hS.2.2 dX8_take_57
    ·
      have ic_6 : z_5.toInt = -5 := (g_eq rfl t_m5).mp c_6
      clear c_6
      refine lv_bipush (v := (-2)) hx hb dX8_take_20 (by decide) ?_
      have hP9 := hP.sub (ws' := [(xh, .inr (8, G8 xa xtrialRule xdropRule xtoday)), ((xa 1), .inl (E 0, 16, .inl xf1)), ((xa 3), .inl (E 3, 16, .inr (.inr (.inr (.inr xf3)))))]) [0, 1, 2] rfl
      have hD9 := hD.sub (ws' := [(xh, .inr (8, G8 xa xtrialRule xdropRule xtoday)), ((xa 1), .inl (E 0, 16, .inl xf1)), ((xa 3), .inl (E 3, 16, .inr (.inr (.inr (.inr xf3)))))]) [0, 1, 2] (by decide) rfl
      exact W.iret (v := (-2)) hx hb hr (fun t ht hW => ⟨⟨(-2), xf1, rfl, ⟨KM_r, (by have hl0 := t_m2; (try dsimp only); first | exact Or.inl ⟨by omega, by omega, rfl⟩ | exact Or.inr (Or.inl ⟨by omega, by omega, by omega, rfl⟩) | exact Or.inr (Or.inr ⟨by omega, by omega, by omega, rfl⟩))⟩, by rw [ht]; exact hP9, hD9⟩, hS.F ht⟩) hS.2.2 dX8_take_22
  ·
    refine W_top (y := .int 0) (by rw [hr_1]) ?_
    refine lv_if_ne (tgt := 9) hx hb dX8_take_4 (by decide) (fun c_10 => absurd (by decide) c_10) (fun c_10 => ?_)
    refine lv_iconst (v := (-1)) hx hb dX8_take_7 (by decide) ?_
    have hP9 := hP.sub (ws' := [(xh, .inr (8, G8 xa xtrialRule xdropRule xtoday)), ((xa 1), .inl (E 0, 16, .inl xf1)), ((xa 3), .inl (E 3, 16, .inr (.inr (.inr (.inr xf3)))))]) [0, 1, 2] rfl
    have hD9 := hD.sub (ws' := [(xh, .inr (8, G8 xa xtrialRule xdropRule xtoday)), ((xa 1), .inl (E 0, 16, .inl xf1)), ((xa 3), .inl (E 3, 16, .inr (.inr (.inr (.inr xf3)))))]) [0, 1, 2] (by decide) rfl
    exact W.iret (v := (-1)) hx hb hr (fun t ht hW => ⟨⟨(-1), xf1, rfl, ⟨KM_r, (by have hl0 := t_m1; (try dsimp only); first | exact Or.inl ⟨by omega, by omega, rfl⟩ | exact Or.inr (Or.inl ⟨by omega, by omega, by omega, rfl⟩) | exact Or.inr (Or.inr ⟨by omega, by omega, by omega, rfl⟩))⟩, by rw [ht]; exact hP9, hD9⟩, hS.F ht⟩) hS.2.2 dX8_take_8
set_option maxHeartbeats 4000000 in
set_option maxRecDepth 100000 in
theorem g_X8_take_W (l : Launch) (D : va_G) (E : Nat → Nat) (xh : Nat) (xa : Nat → Nat) (xtrialRule : Nat) (xdropRule : Nat) (xtoday : Int32) (xf1 : Nat → Int32) (xf3 : Nat → Option Nat) (wh : Nat) (wa : Nat → Nat) (wf3 : Nat → Int32) (p0 : Int32) (sz : Nat) (hi_x : (0 ≤ xtoday.toInt ∧ xtoday.toInt ≤ 399)) (hk0 : (0 ≤ p0.toInt ∧ p0.toInt ≤ 15 ∧ ((xf1 (p0).toNatClampNeg).toInt = 0 ∨ (xf1 (p0).toNatClampNeg).toInt = 1))) (hw0 : xf3 (p0).toNatClampNeg = some wh) : Met l yX8_take (wl yX8_take cX8_take 3 (some .int)) (RM 2 0 0) (mu_P D E [.ref xh, .int p0] [(xh, .inr (8, G8 xa xtrialRule xdropRule xtoday)), ((xa 1), .inl (E 0, 16, .inl xf1)), ((xa 3), .inl (E 3, 16, .inr (.inr (.inr (.inr xf3))))), (wh, .inr (7, G7 wa)), ((wa 3), .inl (E 0, 400, .inl wf3))] sz) (va_Qi (fun (r : Int32) (u : (Nat → Int32)) => (KM xf1 u) ∧ (((wf3 (xtoday).toNatClampNeg).toInt ≠ -1 ∧ r.toInt = -4 ∧ u = xf1) ∨ ((wf3 (xtoday).toNatClampNeg).toInt = -1 ∧ r.toInt = 1 ∧ u = upd xf1 (p0).toNatClampNeg (-5)))) (mu_B D (va_A [(xh, .inr (8, G8 xa xtrialRule xdropRule xtoday)), ((xa 1), .inl (E 0, 16, .inl xf1)), ((xa 3), .inl (E 3, 16, .inr (.inr (.inr (.inr xf3))))), (wh, .inr (7, G7 wa)), ((wa 3), .inl (E 0, 400, .inl wf3))] sz) (fun (u : (Nat → Int32)) => [(xh, .inr (8, G8 xa xtrialRule xdropRule xtoday)), ((xa 1), .inl (E 0, 16, .inl u)), ((xa 3), .inl (E 3, 16, .inr (.inr (.inr (.inr xf3))))), (wh, .inr (7, G7 wa)), ((wa 3), .inl (E 0, 400, .inl wf3))])) (va_A [(xh, .inr (8, G8 xa xtrialRule xdropRule xtoday)), ((xa 1), .inl (E 0, 16, .inl xf1)), ((xa 3), .inl (E 3, 16, .inr (.inr (.inr (.inr xf3))))), (wh, .inr (7, G7 wa)), ((wa 3), .inl (E 0, 400, .inl wf3))] sz)) 0 0 (va_A [(xh, .inr (8, G8 xa xtrialRule xdropRule xtoday)), ((xa 1), .inl (E 0, 16, .inl xf1)), ((xa 3), .inl (E 3, 16, .inr (.inr (.inr (.inr xf3))))), (wh, .inr (7, G7 wa)), ((wa 3), .inl (E 0, 400, .inl wf3))] sz) := by
  refine Met.ofW (cc := cX8_take) (maxL := 3) (ret := (some .int)) (by decide) rfl ?_
  intro p e s m args below meth c s₁ B hml hv
  obtain ⟨rfl, hsz, hP, hK, hD0⟩ := hv
  have hx := B.exec; have hb := B.bytes; have hr := B.returns
  have hts := atoms_spec (ws := wl yX8_take cX8_take 3 (some .int)) B.pre
  have htb : ∀ w ∈ tb, w.before _ s = true := fun w h => hts w (List.mem_cons_of_mem _ h)
  have hown : s.vm.findClass RX8 = some m.cls := findClass_of_methodNamed B.named
  have hlocks := B.notSynchronized
  subst hsz
  have hD := hD0.self (sz := s.heap.size)
  generalize hAe : va_A [(xh, .inr (8, G8 xa xtrialRule xdropRule xtoday)), ((xa 1), .inl (E 0, 16, .inl xf1)), ((xa 3), .inl (E 3, 16, .inr (.inr (.inr (.inr xf3))))), (wh, .inr (7, G7 wa)), ((wa 3), .inl (E 0, 400, .inl wf3))] s.heap.size = A at hD ⊢
  have hA : ∀ q : Nat, s.heap.size ≤ q → A q := fun q h => by rw [← hAe]; exact Or.inr h
  have hS : va_S A s.heap s.heap [] := va_S.rf
  have hP : va_P D vwCl [(xh, .inr (8, G8 xa xtrialRule xdropRule xtoday)), ((xa 1), .inl (E 0, 16, .inl xf1)), ((xa 3), .inl (E 3, 16, .inr (.inr (.inr (.inr xf3))))), (wh, .inr (7, G7 wa)), ((wa 3), .inl (E 0, 400, .inl wf3))] s.heap := hP
  have hl := lv_entry ([.ref xh, .int p0]) (n := 3) (Nat.le_of_ble_eq_true rfl)
  rw [lg_entry_eq]
  generalize (lg_sl ([.ref xh, .int p0]) ++ List.replicate (3 - (lg_sl ([.ref xh, .int p0])).length) Slot.unset).toArray = ls at hl ⊢
  have hl : lv_has ls 3 [(0, .ref xh), (1, .int p0)] := hl
  have lo_p0 := i_lo p0; have hi_p0 := i_hi p0
  refine lv_iload_n hx hb dX8_take_0 rfl (lv_at hl 1 rfl) ?_
  refine callRS (rest := []) (As := [.int p0]) hx hb hml hown htb hK (g_X8_isPlace l D E p0 ) ok_X8_isPlace k_333 k_334 k_1 k_335 ⟨(Nat.le_of_ble_eq_true rfl), (Nat.le_of_ble_eq_true rfl)⟩ ⟨(Nat.le_of_ble_eq_true rfl), (Nat.le_of_ble_eq_true rfl)⟩ hl.1 (Nat.le_of_ble_eq_true rfl) rfl rfl dX8_take_1 (hP.sub (ws' := ([] : va_W)) [] rfl) (fun r_1 hw_2 => ?_)
  rcases hw_2 with ⟨hr_1, hw_2⟩ | ⟨hr_1, hw_2⟩
  ·
    refine W_top (y := .int 1) (by rw [hr_1]) ?_
    refine lv_if_ne (tgt := 9) hx hb dX8_take_4 (by decide) (fun c_4 => ?_) (fun c_4 => absurd c_4 (by decide))
    refine lv_aload_n hx hb dX8_take_9 rfl (lv_at hl 0 rfl) ?_
    refine va_get (D := D) (ci := 8) (v := .ref (xa 1)) (C := RX8) (T := TX8) (N := 14) hx hb htb iX8 hown hK.1 hP 0 rfl rfl 1 (by decide) (htb _ k_273) (fun _ h9 => h9) rfl dX8_take_10 ?_
    refine lv_iload_n hx hb dX8_take_13 rfl (lv_at hl 1 rfl) ?_
    refine va_iald hx hb hK.1 hP 1 0 rfl rfl (g_in rfl (by omega) (by omega)) dX8_take_14 ?_
    refine lv_topi (fun z_5 ez_5 => ?_)
    have kz_5 := congrArg Int32.toInt ez_5
    refine lv_bipush (v := (-5)) hx hb dX8_take_15 (by decide) ?_
    refine lv_icmp_ne (tgt := 23) hx hb dX8_take_17 (by decide) (fun c_6 => ?_) (fun c_6 => ?_)
    ·
      have ic_6 : z_5.toInt ≠ -5 := mt (g_eq rfl t_m5).mpr c_6
      clear c_6
      refine lv_aload_n hx hb dX8_take_23 rfl (lv_at hl 0 rfl) ?_
      refine lv_iload_n hx hb dX8_take_24 rfl (lv_at hl 1 rfl) ?_
      refine rr_call (runRV (rest := []) (As := [.int p0]) hx hb hml hown htb (g_X8_watchAt_W l D E xh xa xtrialRule xdropRule xtoday xf1 xf3 wh wa p0 (by (try dsimp only); omega) hk0 hw0) ok_X8_watchAt k_369 k_371 ks_1 k_1 k_372 ⟨(Nat.le_of_ble_eq_true rfl), (Nat.le_of_ble_eq_true rfl)⟩ ⟨(Nat.le_of_ble_eq_true rfl), (Nat.le_of_ble_eq_true rfl)⟩ hl.1 (Nat.le_of_ble_eq_true rfl) rfl rfl dX8_take_25 (prV (hP.sub (ws' := [(xh, .inr (8, G8 xa xtrialRule xdropRule xtoday)), ((xa 1), .inl (E 0, 16, .inl xf1)), ((xa 3), .inl (E 3, 16, .inr (.inr (.inr (.inr xf3))))), (wh, .inr (7, G7 wa))]) [0, 1, 2, 3] rfl) hK rfl rfl 0 rfl)) ?_
      refine lv_astore_n (lv' := [(2, .ref wh), (0, .ref xh), (1, .int p0)]) hx hb dX8_take_28 rfl hl (by decide) rfl (fun ls hl => ?_)
      refine lv_aload_n hx hb dX8_take_29 rfl (lv_at hl 0 rfl) ?_
      refine lv_ifnull hx hb dX8_take_30 ?_
      refine lv_aload_n hx hb dX8_take_33 rfl (lv_at hl 0 rfl) ?_
      refine lv_aload_n hx hb dX8_take_34 rfl (lv_at hl 1 rfl) ?_
      refine va_get (D := D) (ci := 8) (v := .int xtoday) (C := RX8) (T := TX8) (N := 14) hx hb htb iX8 hown hK.1 hP 0 rfl rfl 13 (by decide) (htb _ k_285) (fun _ h9 => h9) rfl dX8_take_35 ?_
      refine callRV (rest := []) (As := [.int xtoday]) hx hb hml hown htb hK (g_X7_holderOn l D E wh wa wf3 xtoday ) ok_X7_holderOn k_373 k_374 k_375 k_10 k_376 ⟨(Nat.le_of_ble_eq_true rfl), (Nat.le_of_ble_eq_true rfl)⟩ ⟨(Nat.le_of_ble_eq_true rfl), (Nat.le_of_ble_eq_true rfl)⟩ hl.1 (Nat.le_of_ble_eq_true rfl) rfl rfl dX8_take_38 (hP.sub (ws' := [(wh, .inr (7, G7 wa)), ((wa 3), .inl (E 0, 400, .inl wf3))]) [3, 4] rfl) rfl rfl 0 rfl (fun r_10 hw_11 => ?_)
      have hw_11R : r_10.toInt = (wf3 (xtoday).toNatClampNeg).toInt := by rcases hw_11 with h9 | h9 <;> first | exact congrArg Int32.toInt h9.2 | (exfalso; omega)
      refine lv_iconst (v := (-1)) hx hb dX8_take_41 (by decide) ?_
      refine lv_icmp_eq (tgt := 48) hx hb dX8_take_42 (by decide) (fun c_13 => ?_) (fun c_13 => ?_)
      ·
        have ic_13 : r_10.toInt = -1 := (g_eq rfl t_m1).mp c_13
        clear c_13
        refine lv_aload_n hx hb dX8_take_48 rfl (lv_at hl 1 rfl) ?_
        refine va_get (D := D) (ci := 8) (v := .ref (xa 1)) (C := RX8) (T := TX8) (N := 14) hx hb htb iX8 hown hK.1 hP 0 rfl rfl 1 (by decide) (htb _ k_273) (fun _ h9 => h9) rfl dX8_take_49 ?_
        refine lv_iload_n hx hb dX8_take_52 rfl (lv_at hl 2 rfl) ?_
        refine lv_bipush (v := (-5)) hx hb dX8_take_53 (by decide) ?_
        refine va_iast hx hb hK.1 hP hD hS 1 0 rfl rfl (g_in rfl (by omega) (by omega)) dX8_take_55 (fun H locs hP hD hS => ?_)
        have hP : va_P D vwCl [(xh, .inr (8, G8 xa xtrialRule xdropRule xtoday)), ((xa 1), .inl (E 0, 16, .inl (upd xf1 (p0 : Int32).toNatClampNeg (-5)))), ((xa 3), .inl (E 3, 16, .inr (.inr (.inr (.inr xf3))))), (wh, .inr (7, G7 wa)), ((wa 3), .inl (E 0, 400, .inl wf3))] H := hP
        have hD := toW hP hD rfl
        refine lv_iconst (v := 1) hx hb dX8_take_56 (by decide) ?_
        have hP9 := hP.sub (ws' := [(xh, .inr (8, G8 xa xtrialRule xdropRule xtoday)), ((xa 1), .inl (E 0, 16, .inl (upd xf1 (p0 : Int32).toNatClampNeg (-5)))), ((xa 3), .inl (E 3, 16, .inr (.inr (.inr (.inr xf3))))), (wh, .inr (7, G7 wa)), ((wa 3), .inl (E 0, 400, .inl wf3))]) [0, 1, 2, 3, 4] rfl
        have hD9 := hD.sub (ws' := [(xh, .inr (8, G8 xa xtrialRule xdropRule xtoday)), ((xa 1), .inl (E 0, 16, .inl (upd xf1 (p0 : Int32).toNatClampNeg (-5)))), ((xa 3), .inl (E 3, 16, .inr (.inr (.inr (.inr xf3))))), (wh, .inr (7, G7 wa)), ((wa 3), .inl (E 0, 400, .inl wf3))]) [0, 1, 2, 3, 4] (by decide) rfl
        exact W.iret (v := 1) hx hb hr (fun t ht hW => ⟨⟨1, (upd xf1 (p0 : Int32).toNatClampNeg (-5)), rfl, ⟨(KM_u (by decide)), (by have hl0 := t_1; (try dsimp only); first | exact Or.inl ⟨by omega, by omega, rfl⟩ | exact Or.inr ⟨by omega, by omega, rfl⟩)⟩, by rw [ht]; exact hP9, hD9⟩, hS.F ht⟩) hS.2.2 dX8_take_57
      ·
        have ic_13 : r_10.toInt ≠ -1 := mt (g_eq rfl t_m1).mpr c_13
        clear c_13
        refine lv_bipush (v := (-4)) hx hb dX8_take_45 (by decide) ?_
        have hP9 := hP.sub (ws' := [(xh, .inr (8, G8 xa xtrialRule xdropRule xtoday)), ((xa 1), .inl (E 0, 16, .inl xf1)), ((xa 3), .inl (E 3, 16, .inr (.inr (.inr (.inr xf3))))), (wh, .inr (7, G7 wa)), ((wa 3), .inl (E 0, 400, .inl wf3))]) [0, 1, 2, 3, 4] rfl
        have hD9 := hD.sub (ws' := [(xh, .inr (8, G8 xa xtrialRule xdropRule xtoday)), ((xa 1), .inl (E 0, 16, .inl xf1)), ((xa 3), .inl (E 3, 16, .inr (.inr (.inr (.inr xf3))))), (wh, .inr (7, G7 wa)), ((wa 3), .inl (E 0, 400, .inl wf3))]) [0, 1, 2, 3, 4] (by decide) rfl
        exact W.iret (v := (-4)) hx hb hr (fun t ht hW => ⟨⟨(-4), xf1, rfl, ⟨KM_r, (by have hl0 := t_m4; (try dsimp only); first | exact Or.inl ⟨by omega, by omega, rfl⟩ | exact Or.inr ⟨by omega, by omega, rfl⟩)⟩, by rw [ht]; exact hP9, hD9⟩, hS.F ht⟩) hS.2.2 dX8_take_47
    ·
      have ic_6 : z_5.toInt = -5 := (g_eq rfl t_m5).mp c_6
      clear c_6
      refine lv_bipush (v := (-2)) hx hb dX8_take_20 (by decide) ?_
      have hP9 := hP.sub (ws' := [(xh, .inr (8, G8 xa xtrialRule xdropRule xtoday)), ((xa 1), .inl (E 0, 16, .inl xf1)), ((xa 3), .inl (E 3, 16, .inr (.inr (.inr (.inr xf3))))), (wh, .inr (7, G7 wa)), ((wa 3), .inl (E 0, 400, .inl wf3))]) [0, 1, 2, 3, 4] rfl
      have hD9 := hD.sub (ws' := [(xh, .inr (8, G8 xa xtrialRule xdropRule xtoday)), ((xa 1), .inl (E 0, 16, .inl xf1)), ((xa 3), .inl (E 3, 16, .inr (.inr (.inr (.inr xf3))))), (wh, .inr (7, G7 wa)), ((wa 3), .inl (E 0, 400, .inl wf3))]) [0, 1, 2, 3, 4] (by decide) rfl
      exact W.iret (v := (-2)) hx hb hr (fun t ht hW => ⟨⟨(-2), xf1, rfl, ⟨KM_r, (by have hl0 := t_m2; (try dsimp only); first | exact Or.inl ⟨by omega, by omega, rfl⟩ | exact Or.inr ⟨by omega, by omega, rfl⟩)⟩, by rw [ht]; exact hP9, hD9⟩, hS.F ht⟩) hS.2.2 dX8_take_22
  ·
    refine W_top (y := .int 0) (by rw [hr_1]) ?_
    refine lv_if_ne (tgt := 9) hx hb dX8_take_4 (by decide) (fun c_14 => absurd (by decide) c_14) (fun c_14 => ?_)
    refine lv_iconst (v := (-1)) hx hb dX8_take_7 (by decide) ?_
    have hP9 := hP.sub (ws' := [(xh, .inr (8, G8 xa xtrialRule xdropRule xtoday)), ((xa 1), .inl (E 0, 16, .inl xf1)), ((xa 3), .inl (E 3, 16, .inr (.inr (.inr (.inr xf3))))), (wh, .inr (7, G7 wa)), ((wa 3), .inl (E 0, 400, .inl wf3))]) [0, 1, 2, 3, 4] rfl
    have hD9 := hD.sub (ws' := [(xh, .inr (8, G8 xa xtrialRule xdropRule xtoday)), ((xa 1), .inl (E 0, 16, .inl xf1)), ((xa 3), .inl (E 3, 16, .inr (.inr (.inr (.inr xf3))))), (wh, .inr (7, G7 wa)), ((wa 3), .inl (E 0, 400, .inl wf3))]) [0, 1, 2, 3, 4] (by decide) rfl
    exact W.iret (v := (-1)) hx hb hr (fun t ht hW => ⟨⟨(-1), xf1, rfl, ⟨KM_r, (by have hl0 := t_m1; (try dsimp only); first | exact Or.inl ⟨by omega, by omega, rfl⟩ | exact Or.inr ⟨by omega, by omega, rfl⟩)⟩, by rw [ht]; exact hP9, hD9⟩, hS.F ht⟩) hS.2.2 dX8_take_8
set_option maxHeartbeats 4000000 in
set_option maxRecDepth 100000 in
theorem g_X8_compare_N (l : Launch) (D : va_G) (E : Nat → Nat) (xh : Nat) (xa : Nat → Nat) (xtrialRule : Nat) (xdropRule : Nat) (xtoday : Int32) (xf1 : Nat → Int32) (xf3 : Nat → Option Nat) (p0 : Int32) (p1 : Int32) (p2 : Int32) (p3 : Int32) (hi_x : (0 ≤ xtoday.toInt ∧ xtoday.toInt ≤ 399)) (hn0 : ¬ (0 ≤ p0.toInt ∧ p0.toInt ≤ 15 ∧ ((xf1 (p0).toNatClampNeg).toInt = 0 ∨ (xf1 (p0).toNatClampNeg).toInt = 1))) : Met l yX8_compare (wl yX8_compare cX8_compare 6 (some .int)) (RM 2 0 0) (rd_P D E [.ref xh, .int p0, .int p1, .int p2, .int p3] [(xh, .inr (8, G8 xa xtrialRule xdropRule xtoday)), ((xa 1), .inl (E 0, 16, .inl xf1)), ((xa 3), .inl (E 3, 16, .inr (.inr (.inr (.inr xf3)))))]) (rd_Q (fun r => ((r.toInt = -1 ∧ ¬ ((0 ≤ p0.toInt ∧ p0.toInt ≤ 15) ∧ ((0 ≤ p1.toInt ∧ p1.toInt ≤ xtoday.toInt) ∧ (-100000 ≤ p2.toInt ∧ p2.toInt ≤ 100000) ∧ (0 ≤ p3.toInt ∧ p3.toInt ≤ 5)))) ∨ (((0 ≤ p0.toInt ∧ p0.toInt ≤ 15) ∧ ((0 ≤ p1.toInt ∧ p1.toInt ≤ xtoday.toInt) ∧ (-100000 ≤ p2.toInt ∧ p2.toInt ≤ 100000) ∧ (0 ≤ p3.toInt ∧ p3.toInt ≤ 5))) ∧ (((xf1 (p0).toNatClampNeg).toInt = -5 ∧ r.toInt = -2) ∨ ((xf1 (p0).toNatClampNeg).toInt ≠ -5 ∧ r.toInt = -3)))))) 0 0 (fun _ => False) := by
  refine Met.ofW (cc := cX8_compare) (maxL := 6) (ret := (some .int)) (by decide) rfl ?_
  intro p e s m args below meth c s₁ B hml hv
  obtain ⟨rfl, hP, hK⟩ := hv
  have hx := B.exec; have hb := B.bytes; have hr := B.returns
  have hts := atoms_spec (ws := wl yX8_compare cX8_compare 6 (some .int)) B.pre
  have htb : ∀ w ∈ tb, w.before _ s = true := fun w h => hts w (List.mem_cons_of_mem _ h)
  have hown : s.vm.findClass RX8 = some m.cls := findClass_of_methodNamed B.named
  have hlocks := B.notSynchronized
  have hP : va_P D vwCl [(xh, .inr (8, G8 xa xtrialRule xdropRule xtoday)), ((xa 1), .inl (E 0, 16, .inl xf1)), ((xa 3), .inl (E 3, 16, .inr (.inr (.inr (.inr xf3)))))] s.heap := hP
  have hl := lv_entry ([.ref xh, .int p0, .int p1, .int p2, .int p3]) (n := 6) (Nat.le_of_ble_eq_true rfl)
  rw [lg_entry_eq]
  generalize (lg_sl ([.ref xh, .int p0, .int p1, .int p2, .int p3]) ++ List.replicate (6 - (lg_sl ([.ref xh, .int p0, .int p1, .int p2, .int p3])).length) Slot.unset).toArray = ls at hl ⊢
  have hl : lv_has ls 6 [(0, .ref xh), (1, .int p0), (2, .int p1), (3, .int p2), (4, .int p3)] := hl
  have lo_p0 := i_lo p0; have hi_p0 := i_hi p0
  have lo_p1 := i_lo p1; have hi_p1 := i_hi p1
  have lo_p2 := i_lo p2; have hi_p2 := i_hi p2
  have lo_p3 := i_lo p3; have hi_p3 := i_hi p3
  refine lv_iload_n hx hb dX8_compare_0 rfl (lv_at hl 1 rfl) ?_
  refine callRS (rest := []) (As := [.int p0]) hx hb hml hown htb hK (g_X8_isPlace l D E p0 ) ok_X8_isPlace k_333 k_334 k_1 k_335 ⟨(Nat.le_of_ble_eq_true rfl), (Nat.le_of_ble_eq_true rfl)⟩ ⟨(Nat.le_of_ble_eq_true rfl), (Nat.le_of_ble_eq_true rfl)⟩ hl.1 (Nat.le_of_ble_eq_true rfl) rfl rfl dX8_compare_1 (hP.sub (ws' := ([] : va_W)) [] rfl) (fun r_1 hw_2 => ?_)
  rcases hw_2 with ⟨hr_1, hw_2⟩ | ⟨hr_1, hw_2⟩
  ·
    refine W_top (y := .int 1) (by rw [hr_1]) ?_
    refine lv_if_eq (tgt := 36) hx hb dX8_compare_4 (by decide) (fun c_4 => absurd c_4 (by decide)) (fun c_4 => ?_)
    refine lv_aload_n hx hb dX8_compare_7 rfl (lv_at hl 0 rfl) ?_
    refine lv_iload_n hx hb dX8_compare_8 rfl (lv_at hl 2 rfl) ?_
    refine callRV (rest := []) (As := [.int p1]) hx hb hml hown htb hK (g_X8_isPast l D E xh xa xtrialRule xdropRule xtoday p1 (by (try dsimp only); omega)) ok_X8_isPast k_391 k_393 ks_2 k_1 k_394 ⟨(Nat.le_of_ble_eq_true rfl), (Nat.le_of_ble_eq_true rfl)⟩ ⟨(Nat.le_of_ble_eq_true rfl), (Nat.le_of_ble_eq_true rfl)⟩ hl.1 (Nat.le_of_ble_eq_true rfl) rfl rfl dX8_compare_9 (hP.sub (ws' := [(xh, .inr (8, G8 xa xtrialRule xdropRule xtoday))]) [0] rfl) rfl rfl 0 rfl (fun r_5 hw_6 => ?_)
    rcases hw_6 with ⟨hr_5, hw_6⟩ | ⟨hr_5, hw_6⟩
    ·
      refine W_top (y := .int 1) (by rw [hr_5]) ?_
      refine lv_if_eq (tgt := 36) hx hb dX8_compare_12 (by decide) (fun c_8 => absurd c_8 (by decide)) (fun c_8 => ?_)
      refine lv_iload_n hx hb dX8_compare_15 rfl (lv_at hl 3 rfl) ?_
      refine lv_ldc hx hb hown (htb _ k_395) dX8_compare_16 ?_
      refine callRS (rest := []) (As := [.int p2, .int 100000]) hx hb hml hown htb hK (g_X8_isWithin l D E p2 100000 (by decide)) ok_X8_isWithin k_326 k_327 k_1 k_328 ⟨(Nat.le_of_ble_eq_true rfl), (Nat.le_of_ble_eq_true rfl)⟩ ⟨(Nat.le_of_ble_eq_true rfl), (Nat.le_of_ble_eq_true rfl)⟩ hl.1 (Nat.le_of_ble_eq_true rfl) rfl rfl dX8_compare_18 (hP.sub (ws' := ([] : va_W)) [] rfl) (fun r_9 hw_10 => ?_)
      try simp only [t_100000] at hw_10
      rcases hw_10 with ⟨hr_9, hw_10⟩ | ⟨hr_9, hw_10⟩
      ·
        try simp only [t_100000] at hw_10
        refine W_top (y := .int 1) (by rw [hr_9]) ?_
        refine lv_if_eq (tgt := 36) hx hb dX8_compare_21 (by decide) (fun c_12 => absurd c_12 (by decide)) (fun c_12 => ?_)
        refine lv_iload hx hb dX8_compare_24 (lv_at hl 4 rfl) ?_
        refine lv_if_lt (tgt := 36) hx hb dX8_compare_26 (by decide) (fun c_13 => ?_) (fun c_13 => ?_)
        ·
          have ic_13 : p3.toInt < 0 := by first | exact (g_lt rfl t_0).mp c_13 | (have h := mt (g_le t_0 rfl).mpr c_13; omega)
          clear c_13
          refine lv_iconst (v := (-1)) hx hb dX8_compare_36 (by decide) ?_
          exact W.iret (v := (-1)) hx hb hr (fun t ht hW => ⟨(-1), rfl, (by have hl0 := t_m1; (try dsimp only); first | exact Or.inl ⟨by omega, by omega⟩ | exact Or.inr ⟨by omega, by omega⟩), ht⟩) (fun q h => by cases h) dX8_compare_37
        ·
          have ic_13 : 0 ≤ p3.toInt := by first | exact (g_le t_0 rfl).mp c_13 | (have h := mt (g_lt rfl t_0).mpr c_13; omega)
          clear c_13
          refine lv_iload hx hb dX8_compare_29 (lv_at hl 4 rfl) ?_
          refine lv_bipush (v := 6) hx hb dX8_compare_31 (by decide) ?_
          refine lv_icmp_lt (tgt := 38) hx hb dX8_compare_33 (by decide) (fun c_14 => ?_) (fun c_14 => ?_)
          ·
            have ic_14 : p3.toInt < 6 := by first | exact (g_lt rfl t_6).mp c_14 | (have h := mt (g_le t_6 rfl).mpr c_14; omega)
            clear c_14
            refine lv_aload_n hx hb dX8_compare_38 rfl (lv_at hl 0 rfl) ?_
            refine lv_iload_n hx hb dX8_compare_39 rfl (lv_at hl 1 rfl) ?_
            refine rn_call (runRV (rest := []) (As := [.int p0]) hx hb hml hown htb (g_X8_watchAt_N l D E xh xa xtrialRule xdropRule xtoday xf1 xf3 p0 (by (try dsimp only); omega) hn0) ok_X8_watchAt k_369 k_371 ks_1 k_1 k_372 ⟨(Nat.le_of_ble_eq_true rfl), (Nat.le_of_ble_eq_true rfl)⟩ ⟨(Nat.le_of_ble_eq_true rfl), (Nat.le_of_ble_eq_true rfl)⟩ hl.1 (Nat.le_of_ble_eq_true rfl) rfl rfl dX8_compare_40 (prV (hP.sub (ws' := [(xh, .inr (8, G8 xa xtrialRule xdropRule xtoday)), ((xa 1), .inl (E 0, 16, .inl xf1)), ((xa 3), .inl (E 3, 16, .inr (.inr (.inr (.inr xf3)))))]) [0, 1, 2] rfl) hK rfl rfl 0 rfl)) ?_
            refine lv_astoreN (lv' := [(5, .null), (0, .ref xh), (1, .int p0), (2, .int p1), (3, .int p2), (4, .int p3)]) hx hb dX8_compare_43 hl (by decide) rfl (fun ls hl => ?_)
            refine lv_aloadN hx hb dX8_compare_45 (lv_at hl 0 rfl) ?_
            refine lv_ifnonnullN hx hb dX8_compare_47 ?_
            refine lv_aload_n hx hb dX8_compare_50 rfl (lv_at hl 1 rfl) ?_
            refine lv_iload_n hx hb dX8_compare_51 rfl (lv_at hl 2 rfl) ?_
            refine callRV (rest := []) (As := [.int p0]) hx hb hml hown htb hK (g_X8_lackAt l D E xh xa xtrialRule xdropRule xtoday xf1 p0 (by (try dsimp only); omega)) ok_X8_lackAt k_396 k_398 ks_3 k_1 k_399 ⟨(Nat.le_of_ble_eq_true rfl), (Nat.le_of_ble_eq_true rfl)⟩ ⟨(Nat.le_of_ble_eq_true rfl), (Nat.le_of_ble_eq_true rfl)⟩ hl.1 (Nat.le_of_ble_eq_true rfl) rfl rfl dX8_compare_52 (hP.sub (ws' := [(xh, .inr (8, G8 xa xtrialRule xdropRule xtoday)), ((xa 1), .inl (E 0, 16, .inl xf1))]) [0, 1] rfl) rfl rfl 0 rfl (fun r_18 hw_19 => ?_)
            exact W.iret (v := r_18) hx hb hr (fun t ht hW => ⟨r_18, rfl, (by (try dsimp only); first | exact Or.inl ⟨by omega, by omega⟩ | exact Or.inr ⟨by omega, by omega⟩), ht⟩) (fun q h => by cases h) dX8_compare_55
          ·
            have ic_14 : 6 ≤ p3.toInt := by first | exact (g_le t_6 rfl).mp c_14 | (have h := mt (g_lt rfl t_6).mpr c_14; omega)
            clear c_14
            refine lv_iconst (v := (-1)) hx hb dX8_compare_36 (by decide) ?_
            exact W.iret (v := (-1)) hx hb hr (fun t ht hW => ⟨(-1), rfl, (by have hl0 := t_m1; (try dsimp only); first | exact Or.inl ⟨by omega, by omega⟩ | exact Or.inr ⟨by omega, by omega⟩), ht⟩) (fun q h => by cases h) dX8_compare_37
      ·
        try simp only [t_100000] at hw_10
        refine W_top (y := .int 0) (by rw [hr_9]) ?_
        refine lv_if_eq (tgt := 36) hx hb dX8_compare_21 (by decide) (fun c_21 => ?_) (fun c_21 => absurd (by decide) c_21)
        refine lv_iconst (v := (-1)) hx hb dX8_compare_36 (by decide) ?_
        exact W.iret (v := (-1)) hx hb hr (fun t ht hW => ⟨(-1), rfl, (by have hl0 := t_m1; (try dsimp only); first | exact Or.inl ⟨by omega, by omega⟩ | exact Or.inr ⟨by omega, by omega⟩), ht⟩) (fun q h => by cases h) dX8_compare_37
    ·
      refine W_top (y := .int 0) (by rw [hr_5]) ?_
      refine lv_if_eq (tgt := 36) hx hb dX8_compare_12 (by decide) (fun c_22 => ?_) (fun c_22 => absurd (by decide) c_22)
      refine lv_iconst (v := (-1)) hx hb dX8_compare_36 (by decide) ?_
      exact W.iret (v := (-1)) hx hb hr (fun t ht hW => ⟨(-1), rfl, (by have hl0 := t_m1; (try dsimp only); first | exact Or.inl ⟨by omega, by omega⟩ | exact Or.inr ⟨by omega, by omega⟩), ht⟩) (fun q h => by cases h) dX8_compare_37
  ·
    refine W_top (y := .int 0) (by rw [hr_1]) ?_
    refine lv_if_eq (tgt := 36) hx hb dX8_compare_4 (by decide) (fun c_23 => ?_) (fun c_23 => absurd (by decide) c_23)
    refine lv_iconst (v := (-1)) hx hb dX8_compare_36 (by decide) ?_
    exact W.iret (v := (-1)) hx hb hr (fun t ht hW => ⟨(-1), rfl, (by have hl0 := t_m1; (try dsimp only); first | exact Or.inl ⟨by omega, by omega⟩ | exact Or.inr ⟨by omega, by omega⟩), ht⟩) (fun q h => by cases h) dX8_compare_37
set_option maxHeartbeats 4000000 in
set_option maxRecDepth 100000 in
theorem g_X8_compare_W (l : Launch) (D : va_G) (E : Nat → Nat) (xh : Nat) (xa : Nat → Nat) (xtrialRule : Nat) (xdropRule : Nat) (xtoday : Int32) (xf1 : Nat → Int32) (xf3 : Nat → Option Nat) (wh : Nat) (wa : Nat → Nat) (wf0 : Nat → Int32) (wf1 : Nat → Int32) (wf3 : Nat → Int32) (p0 : Int32) (p1 : Int32) (p2 : Int32) (p3 : Int32) (sz : Nat) (hi_x : (0 ≤ xtoday.toInt ∧ xtoday.toInt ≤ 399)) (hk0 : (0 ≤ p0.toInt ∧ p0.toInt ≤ 15 ∧ ((xf1 (p0).toNatClampNeg).toInt = 0 ∨ (xf1 (p0).toNatClampNeg).toInt = 1))) (hw0 : xf3 (p0).toNatClampNeg = some wh) : Met l yX8_compare (wl yX8_compare cX8_compare 6 (some .int)) (RM 2 0 0) (mu_P D E [.ref xh, .int p0, .int p1, .int p2, .int p3] [(xh, .inr (8, G8 xa xtrialRule xdropRule xtoday)), ((xa 1), .inl (E 0, 16, .inl xf1)), ((xa 3), .inl (E 3, 16, .inr (.inr (.inr (.inr xf3))))), (wh, .inr (7, G7 wa)), ((wa 0), .inl (E 0, 400, .inl wf0)), ((wa 1), .inl (E 0, 400, .inl wf1)), ((wa 3), .inl (E 0, 400, .inl wf3))] sz) (va_Qi (fun (r : Int32) (u : (Nat → Int32) × (Nat → Int32)) => ((¬ ((0 ≤ p1.toInt ∧ p1.toInt ≤ xtoday.toInt) ∧ (-100000 ≤ p2.toInt ∧ p2.toInt ≤ 100000) ∧ (0 ≤ p3.toInt ∧ p3.toInt ≤ 5)) ∧ r.toInt = -1 ∧ u.1 = wf0 ∧ u.2 = wf1) ∨ (((0 ≤ p1.toInt ∧ p1.toInt ≤ xtoday.toInt) ∧ (-100000 ≤ p2.toInt ∧ p2.toInt ≤ 100000) ∧ (0 ≤ p3.toInt ∧ p3.toInt ≤ 5)) ∧ ((wf1 (p1).toNatClampNeg).toInt ≠ -1 ∨ (wf3 (p1).toNatClampNeg).toInt ≠ -1) ∧ r.toInt = -4 ∧ u.1 = wf0 ∧ u.2 = wf1) ∨ (((0 ≤ p1.toInt ∧ p1.toInt ≤ xtoday.toInt) ∧ (-100000 ≤ p2.toInt ∧ p2.toInt ≤ 100000) ∧ (0 ≤ p3.toInt ∧ p3.toInt ≤ 5)) ∧ ¬ ((wf1 (p1).toNatClampNeg).toInt ≠ -1 ∨ (wf3 (p1).toNatClampNeg).toInt ≠ -1) ∧ r.toInt = 1 ∧ u.1 = upd wf0 (p1).toNatClampNeg p2 ∧ u.2 = upd wf1 (p1).toNatClampNeg p3))) (mu_B D (va_A [(xh, .inr (8, G8 xa xtrialRule xdropRule xtoday)), ((xa 1), .inl (E 0, 16, .inl xf1)), ((xa 3), .inl (E 3, 16, .inr (.inr (.inr (.inr xf3))))), (wh, .inr (7, G7 wa)), ((wa 0), .inl (E 0, 400, .inl wf0)), ((wa 1), .inl (E 0, 400, .inl wf1)), ((wa 3), .inl (E 0, 400, .inl wf3))] sz) (fun (u : (Nat → Int32) × (Nat → Int32)) => [(xh, .inr (8, G8 xa xtrialRule xdropRule xtoday)), ((xa 1), .inl (E 0, 16, .inl xf1)), ((xa 3), .inl (E 3, 16, .inr (.inr (.inr (.inr xf3))))), (wh, .inr (7, G7 wa)), ((wa 0), .inl (E 0, 400, .inl u.1)), ((wa 1), .inl (E 0, 400, .inl u.2)), ((wa 3), .inl (E 0, 400, .inl wf3))])) (va_A [(xh, .inr (8, G8 xa xtrialRule xdropRule xtoday)), ((xa 1), .inl (E 0, 16, .inl xf1)), ((xa 3), .inl (E 3, 16, .inr (.inr (.inr (.inr xf3))))), (wh, .inr (7, G7 wa)), ((wa 0), .inl (E 0, 400, .inl wf0)), ((wa 1), .inl (E 0, 400, .inl wf1)), ((wa 3), .inl (E 0, 400, .inl wf3))] sz)) 0 0 (va_A [(xh, .inr (8, G8 xa xtrialRule xdropRule xtoday)), ((xa 1), .inl (E 0, 16, .inl xf1)), ((xa 3), .inl (E 3, 16, .inr (.inr (.inr (.inr xf3))))), (wh, .inr (7, G7 wa)), ((wa 0), .inl (E 0, 400, .inl wf0)), ((wa 1), .inl (E 0, 400, .inl wf1)), ((wa 3), .inl (E 0, 400, .inl wf3))] sz) := by
  refine Met.ofW (cc := cX8_compare) (maxL := 6) (ret := (some .int)) (by decide) rfl ?_
  intro p e s m args below meth c s₁ B hml hv
  obtain ⟨rfl, hsz, hP, hK, hD0⟩ := hv
  have hx := B.exec; have hb := B.bytes; have hr := B.returns
  have hts := atoms_spec (ws := wl yX8_compare cX8_compare 6 (some .int)) B.pre
  have htb : ∀ w ∈ tb, w.before _ s = true := fun w h => hts w (List.mem_cons_of_mem _ h)
  have hown : s.vm.findClass RX8 = some m.cls := findClass_of_methodNamed B.named
  have hlocks := B.notSynchronized
  subst hsz
  have hD := hD0.self (sz := s.heap.size)
  generalize hAe : va_A [(xh, .inr (8, G8 xa xtrialRule xdropRule xtoday)), ((xa 1), .inl (E 0, 16, .inl xf1)), ((xa 3), .inl (E 3, 16, .inr (.inr (.inr (.inr xf3))))), (wh, .inr (7, G7 wa)), ((wa 0), .inl (E 0, 400, .inl wf0)), ((wa 1), .inl (E 0, 400, .inl wf1)), ((wa 3), .inl (E 0, 400, .inl wf3))] s.heap.size = A at hD ⊢
  have hA : ∀ q : Nat, s.heap.size ≤ q → A q := fun q h => by rw [← hAe]; exact Or.inr h
  have hS : va_S A s.heap s.heap [] := va_S.rf
  have hP : va_P D vwCl [(xh, .inr (8, G8 xa xtrialRule xdropRule xtoday)), ((xa 1), .inl (E 0, 16, .inl xf1)), ((xa 3), .inl (E 3, 16, .inr (.inr (.inr (.inr xf3))))), (wh, .inr (7, G7 wa)), ((wa 0), .inl (E 0, 400, .inl wf0)), ((wa 1), .inl (E 0, 400, .inl wf1)), ((wa 3), .inl (E 0, 400, .inl wf3))] s.heap := hP
  have hl := lv_entry ([.ref xh, .int p0, .int p1, .int p2, .int p3]) (n := 6) (Nat.le_of_ble_eq_true rfl)
  rw [lg_entry_eq]
  generalize (lg_sl ([.ref xh, .int p0, .int p1, .int p2, .int p3]) ++ List.replicate (6 - (lg_sl ([.ref xh, .int p0, .int p1, .int p2, .int p3])).length) Slot.unset).toArray = ls at hl ⊢
  have hl : lv_has ls 6 [(0, .ref xh), (1, .int p0), (2, .int p1), (3, .int p2), (4, .int p3)] := hl
  have lo_p0 := i_lo p0; have hi_p0 := i_hi p0
  have lo_p1 := i_lo p1; have hi_p1 := i_hi p1
  have lo_p2 := i_lo p2; have hi_p2 := i_hi p2
  have lo_p3 := i_lo p3; have hi_p3 := i_hi p3
  refine lv_iload_n hx hb dX8_compare_0 rfl (lv_at hl 1 rfl) ?_
  refine callRS (rest := []) (As := [.int p0]) hx hb hml hown htb hK (g_X8_isPlace l D E p0 ) ok_X8_isPlace k_333 k_334 k_1 k_335 ⟨(Nat.le_of_ble_eq_true rfl), (Nat.le_of_ble_eq_true rfl)⟩ ⟨(Nat.le_of_ble_eq_true rfl), (Nat.le_of_ble_eq_true rfl)⟩ hl.1 (Nat.le_of_ble_eq_true rfl) rfl rfl dX8_compare_1 (hP.sub (ws' := ([] : va_W)) [] rfl) (fun r_1 hw_2 => ?_)
  rcases hw_2 with ⟨hr_1, hw_2⟩ | ⟨hr_1, hw_2⟩
  ·
    refine W_top (y := .int 1) (by rw [hr_1]) ?_
    refine lv_if_eq (tgt := 36) hx hb dX8_compare_4 (by decide) (fun c_4 => absurd c_4 (by decide)) (fun c_4 => ?_)
    refine lv_aload_n hx hb dX8_compare_7 rfl (lv_at hl 0 rfl) ?_
    refine lv_iload_n hx hb dX8_compare_8 rfl (lv_at hl 2 rfl) ?_
    refine callRV (rest := []) (As := [.int p1]) hx hb hml hown htb hK (g_X8_isPast l D E xh xa xtrialRule xdropRule xtoday p1 (by (try dsimp only); omega)) ok_X8_isPast k_391 k_393 ks_2 k_1 k_394 ⟨(Nat.le_of_ble_eq_true rfl), (Nat.le_of_ble_eq_true rfl)⟩ ⟨(Nat.le_of_ble_eq_true rfl), (Nat.le_of_ble_eq_true rfl)⟩ hl.1 (Nat.le_of_ble_eq_true rfl) rfl rfl dX8_compare_9 (hP.sub (ws' := [(xh, .inr (8, G8 xa xtrialRule xdropRule xtoday))]) [0] rfl) rfl rfl 0 rfl (fun r_5 hw_6 => ?_)
    rcases hw_6 with ⟨hr_5, hw_6⟩ | ⟨hr_5, hw_6⟩
    ·
      refine W_top (y := .int 1) (by rw [hr_5]) ?_
      refine lv_if_eq (tgt := 36) hx hb dX8_compare_12 (by decide) (fun c_8 => absurd c_8 (by decide)) (fun c_8 => ?_)
      refine lv_iload_n hx hb dX8_compare_15 rfl (lv_at hl 3 rfl) ?_
      refine lv_ldc hx hb hown (htb _ k_395) dX8_compare_16 ?_
      refine callRS (rest := []) (As := [.int p2, .int 100000]) hx hb hml hown htb hK (g_X8_isWithin l D E p2 100000 (by decide)) ok_X8_isWithin k_326 k_327 k_1 k_328 ⟨(Nat.le_of_ble_eq_true rfl), (Nat.le_of_ble_eq_true rfl)⟩ ⟨(Nat.le_of_ble_eq_true rfl), (Nat.le_of_ble_eq_true rfl)⟩ hl.1 (Nat.le_of_ble_eq_true rfl) rfl rfl dX8_compare_18 (hP.sub (ws' := ([] : va_W)) [] rfl) (fun r_9 hw_10 => ?_)
      try simp only [t_100000] at hw_10
      rcases hw_10 with ⟨hr_9, hw_10⟩ | ⟨hr_9, hw_10⟩
      ·
        try simp only [t_100000] at hw_10
        refine W_top (y := .int 1) (by rw [hr_9]) ?_
        refine lv_if_eq (tgt := 36) hx hb dX8_compare_21 (by decide) (fun c_12 => absurd c_12 (by decide)) (fun c_12 => ?_)
        refine lv_iload hx hb dX8_compare_24 (lv_at hl 4 rfl) ?_
        refine lv_if_lt (tgt := 36) hx hb dX8_compare_26 (by decide) (fun c_13 => ?_) (fun c_13 => ?_)
        ·
          have ic_13 : p3.toInt < 0 := by first | exact (g_lt rfl t_0).mp c_13 | (have h := mt (g_le t_0 rfl).mpr c_13; omega)
          clear c_13
          refine lv_iconst (v := (-1)) hx hb dX8_compare_36 (by decide) ?_
          have hP9 := hP.sub (ws' := [(xh, .inr (8, G8 xa xtrialRule xdropRule xtoday)), ((xa 1), .inl (E 0, 16, .inl xf1)), ((xa 3), .inl (E 3, 16, .inr (.inr (.inr (.inr xf3))))), (wh, .inr (7, G7 wa)), ((wa 0), .inl (E 0, 400, .inl wf0)), ((wa 1), .inl (E 0, 400, .inl wf1)), ((wa 3), .inl (E 0, 400, .inl wf3))]) [0, 1, 2, 3, 4, 5, 6] rfl
          have hD9 := hD.sub (ws' := [(xh, .inr (8, G8 xa xtrialRule xdropRule xtoday)), ((xa 1), .inl (E 0, 16, .inl xf1)), ((xa 3), .inl (E 3, 16, .inr (.inr (.inr (.inr xf3))))), (wh, .inr (7, G7 wa)), ((wa 0), .inl (E 0, 400, .inl wf0)), ((wa 1), .inl (E 0, 400, .inl wf1)), ((wa 3), .inl (E 0, 400, .inl wf3))]) [0, 1, 2, 3, 4, 5, 6] (by decide) rfl
          exact W.iret (v := (-1)) hx hb hr (fun t ht hW => ⟨⟨(-1), (wf0, wf1), rfl, (by have hl0 := t_m1; (try dsimp only); first | exact Or.inl ⟨by omega, by omega, rfl, rfl⟩ | exact Or.inr (Or.inl ⟨by omega, by omega, by omega, rfl, rfl⟩) | exact Or.inr (Or.inr ⟨by omega, by omega, by omega, by assumption, by assumption⟩)), by rw [ht]; exact hP9, hD9⟩, hS.F ht⟩) hS.2.2 dX8_compare_37
        ·
          have ic_13 : 0 ≤ p3.toInt := by first | exact (g_le t_0 rfl).mp c_13 | (have h := mt (g_lt rfl t_0).mpr c_13; omega)
          clear c_13
          refine lv_iload hx hb dX8_compare_29 (lv_at hl 4 rfl) ?_
          refine lv_bipush (v := 6) hx hb dX8_compare_31 (by decide) ?_
          refine lv_icmp_lt (tgt := 38) hx hb dX8_compare_33 (by decide) (fun c_14 => ?_) (fun c_14 => ?_)
          ·
            have ic_14 : p3.toInt < 6 := by first | exact (g_lt rfl t_6).mp c_14 | (have h := mt (g_le t_6 rfl).mpr c_14; omega)
            clear c_14
            refine lv_aload_n hx hb dX8_compare_38 rfl (lv_at hl 0 rfl) ?_
            refine lv_iload_n hx hb dX8_compare_39 rfl (lv_at hl 1 rfl) ?_
            refine rr_call (runRV (rest := []) (As := [.int p0]) hx hb hml hown htb (g_X8_watchAt_W l D E xh xa xtrialRule xdropRule xtoday xf1 xf3 wh wa p0 (by (try dsimp only); omega) hk0 hw0) ok_X8_watchAt k_369 k_371 ks_1 k_1 k_372 ⟨(Nat.le_of_ble_eq_true rfl), (Nat.le_of_ble_eq_true rfl)⟩ ⟨(Nat.le_of_ble_eq_true rfl), (Nat.le_of_ble_eq_true rfl)⟩ hl.1 (Nat.le_of_ble_eq_true rfl) rfl rfl dX8_compare_40 (prV (hP.sub (ws' := [(xh, .inr (8, G8 xa xtrialRule xdropRule xtoday)), ((xa 1), .inl (E 0, 16, .inl xf1)), ((xa 3), .inl (E 3, 16, .inr (.inr (.inr (.inr xf3))))), (wh, .inr (7, G7 wa))]) [0, 1, 2, 3] rfl) hK rfl rfl 0 rfl)) ?_
            refine lv_astore (lv' := [(5, .ref wh), (0, .ref xh), (1, .int p0), (2, .int p1), (3, .int p2), (4, .int p3)]) hx hb dX8_compare_43 hl (by decide) rfl (fun ls hl => ?_)
            refine lv_aload hx hb dX8_compare_45 (lv_at hl 0 rfl) ?_
            refine lv_ifnonnull (tgt := 56) hx hb dX8_compare_47 (by decide) ?_
            refine lv_aload hx hb dX8_compare_56 (lv_at hl 0 rfl) ?_
            refine lv_iload_n hx hb dX8_compare_58 rfl (lv_at hl 3 rfl) ?_
            refine callRV (rest := []) (As := [.int p1]) hx hb hml hown htb hK (g_X7_isCompared l D E wh wa wf1 p1 ) ok_X7_isCompared k_400 k_401 k_402 k_10 k_403 ⟨(Nat.le_of_ble_eq_true rfl), (Nat.le_of_ble_eq_true rfl)⟩ ⟨(Nat.le_of_ble_eq_true rfl), (Nat.le_of_ble_eq_true rfl)⟩ hl.1 (Nat.le_of_ble_eq_true rfl) rfl rfl dX8_compare_59 (hP.sub (ws' := [(wh, .inr (7, G7 wa)), ((wa 1), .inl (E 0, 400, .inl wf1))]) [3, 5] rfl) rfl rfl 0 rfl (fun r_18 hw_19 => ?_)
            refine lv_if_ne (tgt := 75) hx hb dX8_compare_62 (by decide) (fun c_21 => ?_) (fun c_21 => ?_)
            ·
              have ic_21 : r_18.toInt ≠ 0 := mt (g_eq rfl t_0).mpr c_21
              clear c_21
              refine lv_bipush (v := (-4)) hx hb dX8_compare_75 (by decide) ?_
              have hP9 := hP.sub (ws' := [(xh, .inr (8, G8 xa xtrialRule xdropRule xtoday)), ((xa 1), .inl (E 0, 16, .inl xf1)), ((xa 3), .inl (E 3, 16, .inr (.inr (.inr (.inr xf3))))), (wh, .inr (7, G7 wa)), ((wa 0), .inl (E 0, 400, .inl wf0)), ((wa 1), .inl (E 0, 400, .inl wf1)), ((wa 3), .inl (E 0, 400, .inl wf3))]) [0, 1, 2, 3, 4, 5, 6] rfl
              have hD9 := hD.sub (ws' := [(xh, .inr (8, G8 xa xtrialRule xdropRule xtoday)), ((xa 1), .inl (E 0, 16, .inl xf1)), ((xa 3), .inl (E 3, 16, .inr (.inr (.inr (.inr xf3))))), (wh, .inr (7, G7 wa)), ((wa 0), .inl (E 0, 400, .inl wf0)), ((wa 1), .inl (E 0, 400, .inl wf1)), ((wa 3), .inl (E 0, 400, .inl wf3))]) [0, 1, 2, 3, 4, 5, 6] (by decide) rfl
              exact W.iret (v := (-4)) hx hb hr (fun t ht hW => ⟨⟨(-4), (wf0, wf1), rfl, (by have hl0 := t_m4; (try dsimp only); first | exact Or.inl ⟨by omega, by omega, rfl, rfl⟩ | exact Or.inr (Or.inl ⟨by omega, by omega, by omega, rfl, rfl⟩) | exact Or.inr (Or.inr ⟨by omega, by omega, by omega, by assumption, by assumption⟩)), by rw [ht]; exact hP9, hD9⟩, hS.F ht⟩) hS.2.2 dX8_compare_77
            ·
              have ic_21 : r_18.toInt = 0 := (g_eq rfl t_0).mp c_21
              clear c_21
              refine lv_aload hx hb dX8_compare_65 (lv_at hl 0 rfl) ?_
              refine lv_iload_n hx hb dX8_compare_67 rfl (lv_at hl 3 rfl) ?_
              refine callRV (rest := []) (As := [.int p1]) hx hb hml hown htb hK (g_X7_holderOn l D E wh wa wf3 p1 ) ok_X7_holderOn k_373 k_374 k_375 k_10 k_376 ⟨(Nat.le_of_ble_eq_true rfl), (Nat.le_of_ble_eq_true rfl)⟩ ⟨(Nat.le_of_ble_eq_true rfl), (Nat.le_of_ble_eq_true rfl)⟩ hl.1 (Nat.le_of_ble_eq_true rfl) rfl rfl dX8_compare_68 (hP.sub (ws' := [(wh, .inr (7, G7 wa)), ((wa 3), .inl (E 0, 400, .inl wf3))]) [3, 6] rfl) rfl rfl 0 rfl (fun r_22 hw_23 => ?_)
              have hw_23R : r_22.toInt = (wf3 (p1).toNatClampNeg).toInt := by rcases hw_23 with h9 | h9 <;> first | exact congrArg Int32.toInt h9.2 | (exfalso; omega)
              refine lv_iconst (v := (-1)) hx hb dX8_compare_71 (by decide) ?_
              refine lv_icmp_eq (tgt := 78) hx hb dX8_compare_72 (by decide) (fun c_25 => ?_) (fun c_25 => ?_)
              ·
                have ic_25 : r_22.toInt = -1 := (g_eq rfl t_m1).mp c_25
                clear c_25
                refine lv_aload hx hb dX8_compare_78 (lv_at hl 0 rfl) ?_
                refine lv_iload_n hx hb dX8_compare_80 rfl (lv_at hl 3 rfl) ?_
                refine lv_iload_n hx hb dX8_compare_81 rfl (lv_at hl 4 rfl) ?_
                refine lv_iload hx hb dX8_compare_82 (lv_at hl 5 rfl) ?_
                have hPc := hP.sub (ws' := [(wh, .inr (7, G7 wa)), ((wa 0), .inl (E 0, 400, .inl wf0)), ((wa 1), .inl (E 0, 400, .inl wf1))]) [3, 4, 5] rfl
                have hDc := hD.sub (ws' := [(wh, .inr (7, G7 wa)), ((wa 0), .inl (E 0, 400, .inl wf0)), ((wa 1), .inl (E 0, 400, .inl wf1))]) [3, 4, 5] (by decide) rfl
                refine aft_v (runMV (rest := []) (As := [.int p1, .int p2, .int p3]) hx hb hml hown htb hK (g_X7_tell l D E wh wa wf0 wf1 p1 p2 p3 _ ) ok_X7_tell k_404 k_405 k_406 k_10 k_407 ⟨(Nat.le_of_ble_eq_true rfl), (Nat.le_of_ble_eq_true rfl)⟩ ⟨(Nat.le_of_ble_eq_true rfl), (Nat.le_of_ble_eq_true rfl)⟩ hl.1 (Nat.le_of_ble_eq_true rfl) rfl rfl dX8_compare_84 hPc hDc rfl rfl 0 rfl) hP hD hS hA [3, 4, 5] [0, 1, 2, 6] (wr := [(xh, .inr (8, G8 xa xtrialRule xdropRule xtoday)), ((xa 1), .inl (E 0, 16, .inl xf1)), ((xa 3), .inl (E 3, 16, .inr (.inr (.inr (.inr xf3))))), ((wa 3), .inl (E 0, 400, .inl wf3))]) rfl rfl (by decide) (by decide) (fun u_28 H locs hw_27 hP hD hS => ?_)
                clear hPc hDc
                obtain ⟨w_29, w_30⟩ := u_28
                try dsimp only at hw_27
                have hP : va_P D vwCl [(xh, .inr (8, G8 xa xtrialRule xdropRule xtoday)), ((xa 1), .inl (E 0, 16, .inl xf1)), ((xa 3), .inl (E 3, 16, .inr (.inr (.inr (.inr xf3))))), ((wa 3), .inl (E 0, 400, .inl wf3)), (wh, .inr (7, G7 wa)), ((wa 0), .inl (E 0, 400, .inl w_29)), ((wa 1), .inl (E 0, 400, .inl w_30))] H := hP
                have hD := toW hP hD rfl
                have hw_27A : w_29 = upd wf0 (p1).toNatClampNeg p2 := by rcases hw_27 with h9 | h9 <;> first | exact h9.2.1 | (exfalso; omega)
                have hw_27B : w_30 = upd wf1 (p1).toNatClampNeg p3 := by rcases hw_27 with h9 | h9 <;> first | exact h9.2.2 | (exfalso; omega)
                refine lv_iconst (v := 1) hx hb dX8_compare_87 (by decide) ?_
                have hP9 := hP.sub (ws' := [(xh, .inr (8, G8 xa xtrialRule xdropRule xtoday)), ((xa 1), .inl (E 0, 16, .inl xf1)), ((xa 3), .inl (E 3, 16, .inr (.inr (.inr (.inr xf3))))), (wh, .inr (7, G7 wa)), ((wa 0), .inl (E 0, 400, .inl w_29)), ((wa 1), .inl (E 0, 400, .inl w_30)), ((wa 3), .inl (E 0, 400, .inl wf3))]) [0, 1, 2, 4, 5, 6, 3] rfl
                have hD9 := hD.sub (ws' := [(xh, .inr (8, G8 xa xtrialRule xdropRule xtoday)), ((xa 1), .inl (E 0, 16, .inl xf1)), ((xa 3), .inl (E 3, 16, .inr (.inr (.inr (.inr xf3))))), (wh, .inr (7, G7 wa)), ((wa 0), .inl (E 0, 400, .inl w_29)), ((wa 1), .inl (E 0, 400, .inl w_30)), ((wa 3), .inl (E 0, 400, .inl wf3))]) [0, 1, 2, 4, 5, 6, 3] (by decide) rfl
                exact W.iret (v := 1) hx hb hr (fun t ht hW => ⟨⟨1, (w_29, w_30), rfl, (by have hl0 := t_1; (try dsimp only); first | exact Or.inl ⟨by omega, by omega, rfl, rfl⟩ | exact Or.inr (Or.inl ⟨by omega, by omega, by omega, rfl, rfl⟩) | exact Or.inr (Or.inr ⟨by omega, by omega, by omega, by assumption, by assumption⟩)), by rw [ht]; exact hP9, hD9⟩, hS.F ht⟩) hS.2.2 dX8_compare_88
              ·
                have ic_25 : r_22.toInt ≠ -1 := mt (g_eq rfl t_m1).mpr c_25
                clear c_25
                refine lv_bipush (v := (-4)) hx hb dX8_compare_75 (by decide) ?_
                have hP9 := hP.sub (ws' := [(xh, .inr (8, G8 xa xtrialRule xdropRule xtoday)), ((xa 1), .inl (E 0, 16, .inl xf1)), ((xa 3), .inl (E 3, 16, .inr (.inr (.inr (.inr xf3))))), (wh, .inr (7, G7 wa)), ((wa 0), .inl (E 0, 400, .inl wf0)), ((wa 1), .inl (E 0, 400, .inl wf1)), ((wa 3), .inl (E 0, 400, .inl wf3))]) [0, 1, 2, 3, 4, 5, 6] rfl
                have hD9 := hD.sub (ws' := [(xh, .inr (8, G8 xa xtrialRule xdropRule xtoday)), ((xa 1), .inl (E 0, 16, .inl xf1)), ((xa 3), .inl (E 3, 16, .inr (.inr (.inr (.inr xf3))))), (wh, .inr (7, G7 wa)), ((wa 0), .inl (E 0, 400, .inl wf0)), ((wa 1), .inl (E 0, 400, .inl wf1)), ((wa 3), .inl (E 0, 400, .inl wf3))]) [0, 1, 2, 3, 4, 5, 6] (by decide) rfl
                exact W.iret (v := (-4)) hx hb hr (fun t ht hW => ⟨⟨(-4), (wf0, wf1), rfl, (by have hl0 := t_m4; (try dsimp only); first | exact Or.inl ⟨by omega, by omega, rfl, rfl⟩ | exact Or.inr (Or.inl ⟨by omega, by omega, by omega, rfl, rfl⟩) | exact Or.inr (Or.inr ⟨by omega, by omega, by omega, by assumption, by assumption⟩)), by rw [ht]; exact hP9, hD9⟩, hS.F ht⟩) hS.2.2 dX8_compare_77
          ·
            have ic_14 : 6 ≤ p3.toInt := by first | exact (g_le t_6 rfl).mp c_14 | (have h := mt (g_lt rfl t_6).mpr c_14; omega)
            clear c_14
            refine lv_iconst (v := (-1)) hx hb dX8_compare_36 (by decide) ?_
            have hP9 := hP.sub (ws' := [(xh, .inr (8, G8 xa xtrialRule xdropRule xtoday)), ((xa 1), .inl (E 0, 16, .inl xf1)), ((xa 3), .inl (E 3, 16, .inr (.inr (.inr (.inr xf3))))), (wh, .inr (7, G7 wa)), ((wa 0), .inl (E 0, 400, .inl wf0)), ((wa 1), .inl (E 0, 400, .inl wf1)), ((wa 3), .inl (E 0, 400, .inl wf3))]) [0, 1, 2, 3, 4, 5, 6] rfl
            have hD9 := hD.sub (ws' := [(xh, .inr (8, G8 xa xtrialRule xdropRule xtoday)), ((xa 1), .inl (E 0, 16, .inl xf1)), ((xa 3), .inl (E 3, 16, .inr (.inr (.inr (.inr xf3))))), (wh, .inr (7, G7 wa)), ((wa 0), .inl (E 0, 400, .inl wf0)), ((wa 1), .inl (E 0, 400, .inl wf1)), ((wa 3), .inl (E 0, 400, .inl wf3))]) [0, 1, 2, 3, 4, 5, 6] (by decide) rfl
            exact W.iret (v := (-1)) hx hb hr (fun t ht hW => ⟨⟨(-1), (wf0, wf1), rfl, (by have hl0 := t_m1; (try dsimp only); first | exact Or.inl ⟨by omega, by omega, rfl, rfl⟩ | exact Or.inr (Or.inl ⟨by omega, by omega, by omega, rfl, rfl⟩) | exact Or.inr (Or.inr ⟨by omega, by omega, by omega, by assumption, by assumption⟩)), by rw [ht]; exact hP9, hD9⟩, hS.F ht⟩) hS.2.2 dX8_compare_37
      ·
        try simp only [t_100000] at hw_10
        refine W_top (y := .int 0) (by rw [hr_9]) ?_
        refine lv_if_eq (tgt := 36) hx hb dX8_compare_21 (by decide) (fun c_31 => ?_) (fun c_31 => absurd (by decide) c_31)
        refine lv_iconst (v := (-1)) hx hb dX8_compare_36 (by decide) ?_
        have hP9 := hP.sub (ws' := [(xh, .inr (8, G8 xa xtrialRule xdropRule xtoday)), ((xa 1), .inl (E 0, 16, .inl xf1)), ((xa 3), .inl (E 3, 16, .inr (.inr (.inr (.inr xf3))))), (wh, .inr (7, G7 wa)), ((wa 0), .inl (E 0, 400, .inl wf0)), ((wa 1), .inl (E 0, 400, .inl wf1)), ((wa 3), .inl (E 0, 400, .inl wf3))]) [0, 1, 2, 3, 4, 5, 6] rfl
        have hD9 := hD.sub (ws' := [(xh, .inr (8, G8 xa xtrialRule xdropRule xtoday)), ((xa 1), .inl (E 0, 16, .inl xf1)), ((xa 3), .inl (E 3, 16, .inr (.inr (.inr (.inr xf3))))), (wh, .inr (7, G7 wa)), ((wa 0), .inl (E 0, 400, .inl wf0)), ((wa 1), .inl (E 0, 400, .inl wf1)), ((wa 3), .inl (E 0, 400, .inl wf3))]) [0, 1, 2, 3, 4, 5, 6] (by decide) rfl
        exact W.iret (v := (-1)) hx hb hr (fun t ht hW => ⟨⟨(-1), (wf0, wf1), rfl, (by have hl0 := t_m1; (try dsimp only); first | exact Or.inl ⟨by omega, by omega, rfl, rfl⟩ | exact Or.inr (Or.inl ⟨by omega, by omega, by omega, rfl, rfl⟩) | exact Or.inr (Or.inr ⟨by omega, by omega, by omega, by assumption, by assumption⟩)), by rw [ht]; exact hP9, hD9⟩, hS.F ht⟩) hS.2.2 dX8_compare_37
    ·
      refine W_top (y := .int 0) (by rw [hr_5]) ?_
      refine lv_if_eq (tgt := 36) hx hb dX8_compare_12 (by decide) (fun c_32 => ?_) (fun c_32 => absurd (by decide) c_32)
      refine lv_iconst (v := (-1)) hx hb dX8_compare_36 (by decide) ?_
      have hP9 := hP.sub (ws' := [(xh, .inr (8, G8 xa xtrialRule xdropRule xtoday)), ((xa 1), .inl (E 0, 16, .inl xf1)), ((xa 3), .inl (E 3, 16, .inr (.inr (.inr (.inr xf3))))), (wh, .inr (7, G7 wa)), ((wa 0), .inl (E 0, 400, .inl wf0)), ((wa 1), .inl (E 0, 400, .inl wf1)), ((wa 3), .inl (E 0, 400, .inl wf3))]) [0, 1, 2, 3, 4, 5, 6] rfl
      have hD9 := hD.sub (ws' := [(xh, .inr (8, G8 xa xtrialRule xdropRule xtoday)), ((xa 1), .inl (E 0, 16, .inl xf1)), ((xa 3), .inl (E 3, 16, .inr (.inr (.inr (.inr xf3))))), (wh, .inr (7, G7 wa)), ((wa 0), .inl (E 0, 400, .inl wf0)), ((wa 1), .inl (E 0, 400, .inl wf1)), ((wa 3), .inl (E 0, 400, .inl wf3))]) [0, 1, 2, 3, 4, 5, 6] (by decide) rfl
      exact W.iret (v := (-1)) hx hb hr (fun t ht hW => ⟨⟨(-1), (wf0, wf1), rfl, (by have hl0 := t_m1; (try dsimp only); first | exact Or.inl ⟨by omega, by omega, rfl, rfl⟩ | exact Or.inr (Or.inl ⟨by omega, by omega, by omega, rfl, rfl⟩) | exact Or.inr (Or.inr ⟨by omega, by omega, by omega, by assumption, by assumption⟩)), by rw [ht]; exact hP9, hD9⟩, hS.F ht⟩) hS.2.2 dX8_compare_37
  ·
    refine W_top (y := .int 0) (by rw [hr_1]) ?_
    refine lv_if_eq (tgt := 36) hx hb dX8_compare_4 (by decide) (fun c_33 => ?_) (fun c_33 => absurd (by decide) c_33)
    refine lv_iconst (v := (-1)) hx hb dX8_compare_36 (by decide) ?_
    have hP9 := hP.sub (ws' := [(xh, .inr (8, G8 xa xtrialRule xdropRule xtoday)), ((xa 1), .inl (E 0, 16, .inl xf1)), ((xa 3), .inl (E 3, 16, .inr (.inr (.inr (.inr xf3))))), (wh, .inr (7, G7 wa)), ((wa 0), .inl (E 0, 400, .inl wf0)), ((wa 1), .inl (E 0, 400, .inl wf1)), ((wa 3), .inl (E 0, 400, .inl wf3))]) [0, 1, 2, 3, 4, 5, 6] rfl
    have hD9 := hD.sub (ws' := [(xh, .inr (8, G8 xa xtrialRule xdropRule xtoday)), ((xa 1), .inl (E 0, 16, .inl xf1)), ((xa 3), .inl (E 3, 16, .inr (.inr (.inr (.inr xf3))))), (wh, .inr (7, G7 wa)), ((wa 0), .inl (E 0, 400, .inl wf0)), ((wa 1), .inl (E 0, 400, .inl wf1)), ((wa 3), .inl (E 0, 400, .inl wf3))]) [0, 1, 2, 3, 4, 5, 6] (by decide) rfl
    exact W.iret (v := (-1)) hx hb hr (fun t ht hW => ⟨⟨(-1), (wf0, wf1), rfl, (by have hl0 := t_m1; (try dsimp only); first | exact Or.inl ⟨by omega, by omega, rfl, rfl⟩ | exact Or.inr (Or.inl ⟨by omega, by omega, by omega, rfl, rfl⟩) | exact Or.inr (Or.inr ⟨by omega, by omega, by omega, by assumption, by assumption⟩)), by rw [ht]; exact hP9, hD9⟩, hS.F ht⟩) hS.2.2 dX8_compare_37
set_option maxHeartbeats 4000000 in
set_option maxRecDepth 100000 in
theorem g_X8_error_N (l : Launch) (D : va_G) (E : Nat → Nat) (xh : Nat) (xa : Nat → Nat) (xtrialRule : Nat) (xdropRule : Nat) (xtoday : Int32) (xf1 : Nat → Int32) (xf3 : Nat → Option Nat) (p0 : Int32) (p1 : Int32) (p2 : Int32) (hi_x : (0 ≤ xtoday.toInt ∧ xtoday.toInt ≤ 399)) (hn0 : ¬ (0 ≤ p0.toInt ∧ p0.toInt ≤ 15 ∧ ((xf1 (p0).toNatClampNeg).toInt = 0 ∨ (xf1 (p0).toNatClampNeg).toInt = 1))) : Met l yX8_error (wl yX8_error cX8_error 5 (some .int)) (RM 2 0 0) (rd_P D E [.ref xh, .int p0, .int p1, .int p2] [(xh, .inr (8, G8 xa xtrialRule xdropRule xtoday)), ((xa 1), .inl (E 0, 16, .inl xf1)), ((xa 3), .inl (E 3, 16, .inr (.inr (.inr (.inr xf3)))))]) (rd_Q (fun r => ((r.toInt = -2000000000)))) 0 0 (fun _ => False) := by
  refine Met.ofW (cc := cX8_error) (maxL := 5) (ret := (some .int)) (by decide) rfl ?_
  intro p e s m args below meth c s₁ B hml hv
  obtain ⟨rfl, hP, hK⟩ := hv
  have hx := B.exec; have hb := B.bytes; have hr := B.returns
  have hts := atoms_spec (ws := wl yX8_error cX8_error 5 (some .int)) B.pre
  have htb : ∀ w ∈ tb, w.before _ s = true := fun w h => hts w (List.mem_cons_of_mem _ h)
  have hown : s.vm.findClass RX8 = some m.cls := findClass_of_methodNamed B.named
  have hlocks := B.notSynchronized
  have hP : va_P D vwCl [(xh, .inr (8, G8 xa xtrialRule xdropRule xtoday)), ((xa 1), .inl (E 0, 16, .inl xf1)), ((xa 3), .inl (E 3, 16, .inr (.inr (.inr (.inr xf3)))))] s.heap := hP
  have hl := lv_entry ([.ref xh, .int p0, .int p1, .int p2]) (n := 5) (Nat.le_of_ble_eq_true rfl)
  rw [lg_entry_eq]
  generalize (lg_sl ([.ref xh, .int p0, .int p1, .int p2]) ++ List.replicate (5 - (lg_sl ([.ref xh, .int p0, .int p1, .int p2])).length) Slot.unset).toArray = ls at hl ⊢
  have hl : lv_has ls 5 [(0, .ref xh), (1, .int p0), (2, .int p1), (3, .int p2)] := hl
  have lo_p0 := i_lo p0; have hi_p0 := i_hi p0
  have lo_p1 := i_lo p1; have hi_p1 := i_hi p1
  have lo_p2 := i_lo p2; have hi_p2 := i_hi p2
  refine lv_aload_n hx hb dX8_error_0 rfl (lv_at hl 0 rfl) ?_
  refine lv_iload_n hx hb dX8_error_1 rfl (lv_at hl 1 rfl) ?_
  refine rn_call (runRV (rest := []) (As := [.int p0]) hx hb hml hown htb (g_X8_watchAt_N l D E xh xa xtrialRule xdropRule xtoday xf1 xf3 p0 (by (try dsimp only); omega) hn0) ok_X8_watchAt k_369 k_371 ks_1 k_1 k_372 ⟨(Nat.le_of_ble_eq_true rfl), (Nat.le_of_ble_eq_true rfl)⟩ ⟨(Nat.le_of_ble_eq_true rfl), (Nat.le_of_ble_eq_true rfl)⟩ hl.1 (Nat.le_of_ble_eq_true rfl) rfl rfl dX8_error_2 (prV (hP.sub (ws' := [(xh, .inr (8, G8 xa xtrialRule xdropRule xtoday)), ((xa 1), .inl (E 0, 16, .inl xf1)), ((xa 3), .inl (E 3, 16, .inr (.inr (.inr (.inr xf3)))))]) [0, 1, 2] rfl) hK rfl rfl 0 rfl)) ?_
  refine lv_astoreN (lv' := [(4, .null), (0, .ref xh), (1, .int p0), (2, .int p1), (3, .int p2)]) hx hb dX8_error_5 hl (by decide) rfl (fun ls hl => ?_)
  refine lv_aloadN hx hb dX8_error_7 (lv_at hl 0 rfl) ?_
  refine lv_ifnullN (tgt := 26) hx hb dX8_error_9 (by decide) ?_
  refine lv_ldc hx hb hown (htb _ k_386) dX8_error_26 ?_
  exact W.iret (v := (-2000000000)) hx hb hr (fun t ht hW => ⟨(-2000000000), rfl, (by have hl0 := t_m2000000000; (try dsimp only); first | exact (by omega)), ht⟩) (fun q h => by cases h) dX8_error_28
set_option maxHeartbeats 4000000 in
set_option maxRecDepth 100000 in
theorem g_X8_error_W (l : Launch) (D : va_G) (E : Nat → Nat) (xh : Nat) (xa : Nat → Nat) (xtrialRule : Nat) (xdropRule : Nat) (xtoday : Int32) (xf1 : Nat → Int32) (xf3 : Nat → Option Nat) (wh : Nat) (wa : Nat → Nat) (wf0 : Nat → Int32) (wf1 : Nat → Int32) (oa : Nat → Nat) (osize : Int32) (of0 : Nat → Int32) (of1 : Nat → Int32) (of2 : Nat → Int32) (of3 : Nat → Int32) (of4 : Nat → Int32) (p0 : Int32) (p1 : Int32) (p2 : Int32) (hi_x : (0 ≤ xtoday.toInt ∧ xtoday.toInt ≤ 399)) (hi_o : (0 ≤ osize.toInt ∧ osize.toInt ≤ 60)) (hk0 : (0 ≤ p0.toInt ∧ p0.toInt ≤ 15 ∧ ((xf1 (p0).toNatClampNeg).toInt = 0 ∨ (xf1 (p0).toNatClampNeg).toInt = 1))) (hw0 : xf3 (p0).toNatClampNeg = some wh) : Met l yX8_error (wl yX8_error cX8_error 5 (some .int)) (RM 3 0 0) (rd_P D E [.ref xh, .int p0, .int p1, .int p2] [(xh, .inr (8, G8 xa xtrialRule xdropRule xtoday)), ((xa 1), .inl (E 0, 16, .inl xf1)), ((xa 3), .inl (E 3, 16, .inr (.inr (.inr (.inr xf3))))), (wh, .inr (7, G7 wa)), ((wa 0), .inl (E 0, 400, .inl wf0)), ((wa 1), .inl (E 0, 400, .inl wf1)), ((xa 6), .inr (2, G2 oa osize)), ((oa 0), .inl (E 0, 60, .inl of0)), ((oa 1), .inl (E 0, 60, .inl of1)), ((oa 2), .inl (E 0, 60, .inl of2)), ((oa 3), .inl (E 0, 60, .inl of3)), ((oa 4), .inl (E 0, 60, .inl of4))]) (rd_Q (fun r => ((((0 ≤ p1.toInt ∧ p1.toInt ≤ 399) ∧ (-1 ≤ p2.toInt ∧ p2.toInt ≤ 399)) ∧ r = eX wf0 wf1 of0 of1 of2 of3 of4 osize p1 p2) ∨ (¬ ((0 ≤ p1.toInt ∧ p1.toInt ≤ 399) ∧ (-1 ≤ p2.toInt ∧ p2.toInt ≤ 399)) ∧ r.toInt = -2000000000)))) 0 0 (fun _ => False) := by
  refine Met.ofW (cc := cX8_error) (maxL := 5) (ret := (some .int)) (by decide) rfl ?_
  intro p e s m args below meth c s₁ B hml hv
  obtain ⟨rfl, hP, hK⟩ := hv
  have hx := B.exec; have hb := B.bytes; have hr := B.returns
  have hts := atoms_spec (ws := wl yX8_error cX8_error 5 (some .int)) B.pre
  have htb : ∀ w ∈ tb, w.before _ s = true := fun w h => hts w (List.mem_cons_of_mem _ h)
  have hown : s.vm.findClass RX8 = some m.cls := findClass_of_methodNamed B.named
  have hlocks := B.notSynchronized
  have hP : va_P D vwCl [(xh, .inr (8, G8 xa xtrialRule xdropRule xtoday)), ((xa 1), .inl (E 0, 16, .inl xf1)), ((xa 3), .inl (E 3, 16, .inr (.inr (.inr (.inr xf3))))), (wh, .inr (7, G7 wa)), ((wa 0), .inl (E 0, 400, .inl wf0)), ((wa 1), .inl (E 0, 400, .inl wf1)), ((xa 6), .inr (2, G2 oa osize)), ((oa 0), .inl (E 0, 60, .inl of0)), ((oa 1), .inl (E 0, 60, .inl of1)), ((oa 2), .inl (E 0, 60, .inl of2)), ((oa 3), .inl (E 0, 60, .inl of3)), ((oa 4), .inl (E 0, 60, .inl of4))] s.heap := hP
  have hl := lv_entry ([.ref xh, .int p0, .int p1, .int p2]) (n := 5) (Nat.le_of_ble_eq_true rfl)
  rw [lg_entry_eq]
  generalize (lg_sl ([.ref xh, .int p0, .int p1, .int p2]) ++ List.replicate (5 - (lg_sl ([.ref xh, .int p0, .int p1, .int p2])).length) Slot.unset).toArray = ls at hl ⊢
  have hl : lv_has ls 5 [(0, .ref xh), (1, .int p0), (2, .int p1), (3, .int p2)] := hl
  have lo_p0 := i_lo p0; have hi_p0 := i_hi p0
  have lo_p1 := i_lo p1; have hi_p1 := i_hi p1
  have lo_p2 := i_lo p2; have hi_p2 := i_hi p2
  refine lv_aload_n hx hb dX8_error_0 rfl (lv_at hl 0 rfl) ?_
  refine lv_iload_n hx hb dX8_error_1 rfl (lv_at hl 1 rfl) ?_
  refine rr_call (runRV (rest := []) (As := [.int p0]) hx hb hml hown htb (g_X8_watchAt_W l D E xh xa xtrialRule xdropRule xtoday xf1 xf3 wh wa p0 (by (try dsimp only); omega) hk0 hw0) ok_X8_watchAt k_369 k_371 ks_1 k_1 k_372 ⟨(Nat.le_of_ble_eq_true rfl), (Nat.le_of_ble_eq_true rfl)⟩ ⟨(Nat.le_of_ble_eq_true rfl), (Nat.le_of_ble_eq_true rfl)⟩ hl.1 (Nat.le_of_ble_eq_true rfl) rfl rfl dX8_error_2 (prV (hP.sub (ws' := [(xh, .inr (8, G8 xa xtrialRule xdropRule xtoday)), ((xa 1), .inl (E 0, 16, .inl xf1)), ((xa 3), .inl (E 3, 16, .inr (.inr (.inr (.inr xf3))))), (wh, .inr (7, G7 wa))]) [0, 1, 2, 3] rfl) hK rfl rfl 0 rfl)) ?_
  refine lv_astore (lv' := [(4, .ref wh), (0, .ref xh), (1, .int p0), (2, .int p1), (3, .int p2)]) hx hb dX8_error_5 hl (by decide) rfl (fun ls hl => ?_)
  refine lv_aload hx hb dX8_error_7 (lv_at hl 0 rfl) ?_
  refine lv_ifnull hx hb dX8_error_9 ?_
  refine lv_iload_n hx hb dX8_error_12 rfl (lv_at hl 3 rfl) ?_
  refine callRS (rest := []) (As := [.int p1]) hx hb hml hown htb hK (g_X8_isDay l D E p1 ) ok_X8_isDay k_323 k_324 k_1 k_325 ⟨(Nat.le_of_ble_eq_true rfl), (Nat.le_of_ble_eq_true rfl)⟩ ⟨(Nat.le_of_ble_eq_true rfl), (Nat.le_of_ble_eq_true rfl)⟩ hl.1 (Nat.le_of_ble_eq_true rfl) rfl rfl dX8_error_13 (hP.sub (ws' := ([] : va_W)) [] rfl) (fun r_4 hw_5 => ?_)
  rcases hw_5 with ⟨hr_4, hw_5⟩ | ⟨hr_4, hw_5⟩
  ·
    refine W_top (y := .int 1) (by rw [hr_4]) ?_
    refine lv_if_eq (tgt := 26) hx hb dX8_error_16 (by decide) (fun c_7 => absurd c_7 (by decide)) (fun c_7 => ?_)
    refine lv_iload_n hx hb dX8_error_19 rfl (lv_at hl 4 rfl) ?_
    refine callRS (rest := []) (As := [.int p2]) hx hb hml hown htb hK (g_X8_isKnowledge l D E p2 ) ok_X8_isKnowledge k_412 k_413 k_1 k_414 ⟨(Nat.le_of_ble_eq_true rfl), (Nat.le_of_ble_eq_true rfl)⟩ ⟨(Nat.le_of_ble_eq_true rfl), (Nat.le_of_ble_eq_true rfl)⟩ hl.1 (Nat.le_of_ble_eq_true rfl) rfl rfl dX8_error_20 (hP.sub (ws' := ([] : va_W)) [] rfl) (fun r_8 hw_9 => ?_)
    rcases hw_9 with ⟨hr_8, hw_9⟩ | ⟨hr_8, hw_9⟩
    ·
      refine W_top (y := .int 1) (by rw [hr_8]) ?_
      refine lv_if_ne (tgt := 29) hx hb dX8_error_23 (by decide) (fun c_11 => ?_) (fun c_11 => absurd c_11 (by decide))
      refine lv_aload hx hb dX8_error_29 (lv_at hl 0 rfl) ?_
      refine lv_iload_n hx hb dX8_error_31 rfl (lv_at hl 3 rfl) ?_
      refine lv_aload_n hx hb dX8_error_32 rfl (lv_at hl 1 rfl) ?_
      refine va_get (D := D) (ci := 8) (v := .ref (xa 6)) (C := RX8) (T := TX8) (N := 14) hx hb htb iX8 hown hK.1 hP 0 rfl rfl 6 (by decide) (htb _ k_278) (fun _ h9 => h9) rfl dX8_error_33 ?_
      refine lv_iload_n hx hb dX8_error_36 rfl (lv_at hl 4 rfl) ?_
      refine callRV (rest := []) (As := [.int p1, .ref (xa 6), .int p2]) hx hb hml hown htb hK (g_X7_errorAsKnown l D E wh wa wf0 wf1 (xa 6) oa osize of0 of1 of2 of3 of4 p1 p2 (by (try dsimp only); omega)) ok_X7_errorAsKnown k_415 k_416 k_417 k_10 k_418 ⟨(Nat.le_of_ble_eq_true rfl), (Nat.le_of_ble_eq_true rfl)⟩ ⟨(Nat.le_of_ble_eq_true rfl), (Nat.le_of_ble_eq_true rfl)⟩ hl.1 (Nat.le_of_ble_eq_true rfl) rfl rfl dX8_error_37 (hP.sub (ws' := [(wh, .inr (7, G7 wa)), ((wa 0), .inl (E 0, 400, .inl wf0)), ((wa 1), .inl (E 0, 400, .inl wf1)), ((xa 6), .inr (2, G2 oa osize)), ((oa 0), .inl (E 0, 60, .inl of0)), ((oa 1), .inl (E 0, 60, .inl of1)), ((oa 2), .inl (E 0, 60, .inl of2)), ((oa 3), .inl (E 0, 60, .inl of3)), ((oa 4), .inl (E 0, 60, .inl of4))]) [3, 4, 5, 6, 7, 8, 9, 10, 11] rfl) rfl rfl 0 rfl (fun r_12 hw_13 => ?_)
      exact W.iret (v := r_12) hx hb hr (fun t ht hW => ⟨r_12, rfl, (by (try dsimp only); first | exact Or.inl ⟨by omega, by assumption⟩ | exact Or.inr ⟨by omega, by omega⟩), ht⟩) (fun q h => by cases h) dX8_error_40
    ·
      refine W_top (y := .int 0) (by rw [hr_8]) ?_
      refine lv_if_ne (tgt := 29) hx hb dX8_error_23 (by decide) (fun c_15 => absurd (by decide) c_15) (fun c_15 => ?_)
      refine lv_ldc hx hb hown (htb _ k_386) dX8_error_26 ?_
      exact W.iret (v := (-2000000000)) hx hb hr (fun t ht hW => ⟨(-2000000000), rfl, (by have hl0 := t_m2000000000; (try dsimp only); first | exact Or.inl ⟨by omega, by assumption⟩ | exact Or.inr ⟨by omega, by omega⟩), ht⟩) (fun q h => by cases h) dX8_error_28
  ·
    refine W_top (y := .int 0) (by rw [hr_4]) ?_
    refine lv_if_eq (tgt := 26) hx hb dX8_error_16 (by decide) (fun c_16 => ?_) (fun c_16 => absurd (by decide) c_16)
    refine lv_ldc hx hb hown (htb _ k_386) dX8_error_26 ?_
    exact W.iret (v := (-2000000000)) hx hb hr (fun t ht hW => ⟨(-2000000000), rfl, (by have hl0 := t_m2000000000; (try dsimp only); first | exact Or.inl ⟨by omega, by assumption⟩ | exact Or.inr ⟨by omega, by omega⟩), ht⟩) (fun q h => by cases h) dX8_error_28
set_option maxHeartbeats 4000000 in
set_option maxRecDepth 100000 in
theorem g_X8_rate_N (l : Launch) (D : va_G) (E : Nat → Nat) (xh : Nat) (xa : Nat → Nat) (xtrialRule : Nat) (xdropRule : Nat) (xtoday : Int32) (xf1 : Nat → Int32) (xf3 : Nat → Option Nat) (p0 : Int32) (p1 : Int32) (p2 : Int32) (hi_x : (0 ≤ xtoday.toInt ∧ xtoday.toInt ≤ 399)) (hn0 : ¬ (0 ≤ p0.toInt ∧ p0.toInt ≤ 15 ∧ ((xf1 (p0).toNatClampNeg).toInt = 0 ∨ (xf1 (p0).toNatClampNeg).toInt = 1))) : Met l yX8_rate (wl yX8_rate cX8_rate 5 (some .int)) (RM 2 0 0) (rd_P D E [.ref xh, .int p0, .int p1, .int p2] [(xh, .inr (8, G8 xa xtrialRule xdropRule xtoday)), ((xa 1), .inl (E 0, 16, .inl xf1)), ((xa 3), .inl (E 3, 16, .inr (.inr (.inr (.inr xf3)))))]) (rd_Q (fun r => ((r.toInt = -2000000000)))) 0 0 (fun _ => False) := by
  refine Met.ofW (cc := cX8_rate) (maxL := 5) (ret := (some .int)) (by decide) rfl ?_
  intro p e s m args below meth c s₁ B hml hv
  obtain ⟨rfl, hP, hK⟩ := hv
  have hx := B.exec; have hb := B.bytes; have hr := B.returns
  have hts := atoms_spec (ws := wl yX8_rate cX8_rate 5 (some .int)) B.pre
  have htb : ∀ w ∈ tb, w.before _ s = true := fun w h => hts w (List.mem_cons_of_mem _ h)
  have hown : s.vm.findClass RX8 = some m.cls := findClass_of_methodNamed B.named
  have hlocks := B.notSynchronized
  have hP : va_P D vwCl [(xh, .inr (8, G8 xa xtrialRule xdropRule xtoday)), ((xa 1), .inl (E 0, 16, .inl xf1)), ((xa 3), .inl (E 3, 16, .inr (.inr (.inr (.inr xf3)))))] s.heap := hP
  have hl := lv_entry ([.ref xh, .int p0, .int p1, .int p2]) (n := 5) (Nat.le_of_ble_eq_true rfl)
  rw [lg_entry_eq]
  generalize (lg_sl ([.ref xh, .int p0, .int p1, .int p2]) ++ List.replicate (5 - (lg_sl ([.ref xh, .int p0, .int p1, .int p2])).length) Slot.unset).toArray = ls at hl ⊢
  have hl : lv_has ls 5 [(0, .ref xh), (1, .int p0), (2, .int p1), (3, .int p2)] := hl
  have lo_p0 := i_lo p0; have hi_p0 := i_hi p0
  have lo_p1 := i_lo p1; have hi_p1 := i_hi p1
  have lo_p2 := i_lo p2; have hi_p2 := i_hi p2
  refine lv_aload_n hx hb dX8_rate_0 rfl (lv_at hl 0 rfl) ?_
  refine lv_iload_n hx hb dX8_rate_1 rfl (lv_at hl 1 rfl) ?_
  refine rn_call (runRV (rest := []) (As := [.int p0]) hx hb hml hown htb (g_X8_watchAt_N l D E xh xa xtrialRule xdropRule xtoday xf1 xf3 p0 (by (try dsimp only); omega) hn0) ok_X8_watchAt k_369 k_371 ks_1 k_1 k_372 ⟨(Nat.le_of_ble_eq_true rfl), (Nat.le_of_ble_eq_true rfl)⟩ ⟨(Nat.le_of_ble_eq_true rfl), (Nat.le_of_ble_eq_true rfl)⟩ hl.1 (Nat.le_of_ble_eq_true rfl) rfl rfl dX8_rate_2 (prV (hP.sub (ws' := [(xh, .inr (8, G8 xa xtrialRule xdropRule xtoday)), ((xa 1), .inl (E 0, 16, .inl xf1)), ((xa 3), .inl (E 3, 16, .inr (.inr (.inr (.inr xf3)))))]) [0, 1, 2] rfl) hK rfl rfl 0 rfl)) ?_
  refine lv_astoreN (lv' := [(4, .null), (0, .ref xh), (1, .int p0), (2, .int p1), (3, .int p2)]) hx hb dX8_rate_5 hl (by decide) rfl (fun ls hl => ?_)
  refine lv_aloadN hx hb dX8_rate_7 (lv_at hl 0 rfl) ?_
  refine lv_ifnullN (tgt := 26) hx hb dX8_rate_9 (by decide) ?_
  refine lv_ldc hx hb hown (htb _ k_386) dX8_rate_26 ?_
  exact W.iret (v := (-2000000000)) hx hb hr (fun t ht hW => ⟨(-2000000000), rfl, (by have hl0 := t_m2000000000; (try dsimp only); first | exact (by omega)), ht⟩) (fun q h => by cases h) dX8_rate_28
set_option maxHeartbeats 4000000 in
set_option maxRecDepth 100000 in
theorem g_X8_rate_W (l : Launch) (D : va_G) (E : Nat → Nat) (xh : Nat) (xa : Nat → Nat) (xtrialRule : Nat) (xdropRule : Nat) (xtoday : Int32) (xf1 : Nat → Int32) (xf3 : Nat → Option Nat) (wh : Nat) (wa : Nat → Nat) (wf0 : Nat → Int32) (wf1 : Nat → Int32) (wf2 : Nat → Int32) (oa : Nat → Nat) (osize : Int32) (of0 : Nat → Int32) (of1 : Nat → Int32) (of2 : Nat → Int32) (of3 : Nat → Int32) (of4 : Nat → Int32) (p0 : Int32) (p1 : Int32) (p2 : Int32) (hi_x : (0 ≤ xtoday.toInt ∧ xtoday.toInt ≤ 399)) (hi_o : (0 ≤ osize.toInt ∧ osize.toInt ≤ 60)) (hk0 : (0 ≤ p0.toInt ∧ p0.toInt ≤ 15 ∧ ((xf1 (p0).toNatClampNeg).toInt = 0 ∨ (xf1 (p0).toNatClampNeg).toInt = 1))) (hw0 : xf3 (p0).toNatClampNeg = some wh) : Met l yX8_rate (wl yX8_rate cX8_rate 5 (some .int)) (RM 4 0 0) (rd_P D E [.ref xh, .int p0, .int p1, .int p2] [(xh, .inr (8, G8 xa xtrialRule xdropRule xtoday)), ((xa 1), .inl (E 0, 16, .inl xf1)), ((xa 3), .inl (E 3, 16, .inr (.inr (.inr (.inr xf3))))), (wh, .inr (7, G7 wa)), ((wa 0), .inl (E 0, 400, .inl wf0)), ((wa 1), .inl (E 0, 400, .inl wf1)), ((wa 2), .inl (E 0, 400, .inl wf2)), ((xa 6), .inr (2, G2 oa osize)), ((oa 0), .inl (E 0, 60, .inl of0)), ((oa 1), .inl (E 0, 60, .inl of1)), ((oa 2), .inl (E 0, 60, .inl of2)), ((oa 3), .inl (E 0, 60, .inl of3)), ((oa 4), .inl (E 0, 60, .inl of4))]) (rd_Q (fun r => ((((0 ≤ p1.toInt ∧ p1.toInt ≤ 399) ∧ (-1 ≤ p2.toInt ∧ p2.toInt ≤ 399)) ∧ r = rX wf0 wf1 wf2 of0 of1 of2 of3 of4 osize p1 p2) ∨ (¬ ((0 ≤ p1.toInt ∧ p1.toInt ≤ 399) ∧ (-1 ≤ p2.toInt ∧ p2.toInt ≤ 399)) ∧ r.toInt = -2000000000)))) 0 0 (fun _ => False) := by
  refine Met.ofW (cc := cX8_rate) (maxL := 5) (ret := (some .int)) (by decide) rfl ?_
  intro p e s m args below meth c s₁ B hml hv
  obtain ⟨rfl, hP, hK⟩ := hv
  have hx := B.exec; have hb := B.bytes; have hr := B.returns
  have hts := atoms_spec (ws := wl yX8_rate cX8_rate 5 (some .int)) B.pre
  have htb : ∀ w ∈ tb, w.before _ s = true := fun w h => hts w (List.mem_cons_of_mem _ h)
  have hown : s.vm.findClass RX8 = some m.cls := findClass_of_methodNamed B.named
  have hlocks := B.notSynchronized
  have hP : va_P D vwCl [(xh, .inr (8, G8 xa xtrialRule xdropRule xtoday)), ((xa 1), .inl (E 0, 16, .inl xf1)), ((xa 3), .inl (E 3, 16, .inr (.inr (.inr (.inr xf3))))), (wh, .inr (7, G7 wa)), ((wa 0), .inl (E 0, 400, .inl wf0)), ((wa 1), .inl (E 0, 400, .inl wf1)), ((wa 2), .inl (E 0, 400, .inl wf2)), ((xa 6), .inr (2, G2 oa osize)), ((oa 0), .inl (E 0, 60, .inl of0)), ((oa 1), .inl (E 0, 60, .inl of1)), ((oa 2), .inl (E 0, 60, .inl of2)), ((oa 3), .inl (E 0, 60, .inl of3)), ((oa 4), .inl (E 0, 60, .inl of4))] s.heap := hP
  have hl := lv_entry ([.ref xh, .int p0, .int p1, .int p2]) (n := 5) (Nat.le_of_ble_eq_true rfl)
  rw [lg_entry_eq]
  generalize (lg_sl ([.ref xh, .int p0, .int p1, .int p2]) ++ List.replicate (5 - (lg_sl ([.ref xh, .int p0, .int p1, .int p2])).length) Slot.unset).toArray = ls at hl ⊢
  have hl : lv_has ls 5 [(0, .ref xh), (1, .int p0), (2, .int p1), (3, .int p2)] := hl
  have lo_p0 := i_lo p0; have hi_p0 := i_hi p0
  have lo_p1 := i_lo p1; have hi_p1 := i_hi p1
  have lo_p2 := i_lo p2; have hi_p2 := i_hi p2
  refine lv_aload_n hx hb dX8_rate_0 rfl (lv_at hl 0 rfl) ?_
  refine lv_iload_n hx hb dX8_rate_1 rfl (lv_at hl 1 rfl) ?_
  refine rr_call (runRV (rest := []) (As := [.int p0]) hx hb hml hown htb (g_X8_watchAt_W l D E xh xa xtrialRule xdropRule xtoday xf1 xf3 wh wa p0 (by (try dsimp only); omega) hk0 hw0) ok_X8_watchAt k_369 k_371 ks_1 k_1 k_372 ⟨(Nat.le_of_ble_eq_true rfl), (Nat.le_of_ble_eq_true rfl)⟩ ⟨(Nat.le_of_ble_eq_true rfl), (Nat.le_of_ble_eq_true rfl)⟩ hl.1 (Nat.le_of_ble_eq_true rfl) rfl rfl dX8_rate_2 (prV (hP.sub (ws' := [(xh, .inr (8, G8 xa xtrialRule xdropRule xtoday)), ((xa 1), .inl (E 0, 16, .inl xf1)), ((xa 3), .inl (E 3, 16, .inr (.inr (.inr (.inr xf3))))), (wh, .inr (7, G7 wa))]) [0, 1, 2, 3] rfl) hK rfl rfl 0 rfl)) ?_
  refine lv_astore (lv' := [(4, .ref wh), (0, .ref xh), (1, .int p0), (2, .int p1), (3, .int p2)]) hx hb dX8_rate_5 hl (by decide) rfl (fun ls hl => ?_)
  refine lv_aload hx hb dX8_rate_7 (lv_at hl 0 rfl) ?_
  refine lv_ifnull hx hb dX8_rate_9 ?_
  refine lv_iload_n hx hb dX8_rate_12 rfl (lv_at hl 3 rfl) ?_
  refine callRS (rest := []) (As := [.int p1]) hx hb hml hown htb hK (g_X8_isDay l D E p1 ) ok_X8_isDay k_323 k_324 k_1 k_325 ⟨(Nat.le_of_ble_eq_true rfl), (Nat.le_of_ble_eq_true rfl)⟩ ⟨(Nat.le_of_ble_eq_true rfl), (Nat.le_of_ble_eq_true rfl)⟩ hl.1 (Nat.le_of_ble_eq_true rfl) rfl rfl dX8_rate_13 (hP.sub (ws' := ([] : va_W)) [] rfl) (fun r_4 hw_5 => ?_)
  rcases hw_5 with ⟨hr_4, hw_5⟩ | ⟨hr_4, hw_5⟩
  ·
    refine W_top (y := .int 1) (by rw [hr_4]) ?_
    refine lv_if_eq (tgt := 26) hx hb dX8_rate_16 (by decide) (fun c_7 => absurd c_7 (by decide)) (fun c_7 => ?_)
    refine lv_iload_n hx hb dX8_rate_19 rfl (lv_at hl 4 rfl) ?_
    refine callRS (rest := []) (As := [.int p2]) hx hb hml hown htb hK (g_X8_isKnowledge l D E p2 ) ok_X8_isKnowledge k_412 k_413 k_1 k_414 ⟨(Nat.le_of_ble_eq_true rfl), (Nat.le_of_ble_eq_true rfl)⟩ ⟨(Nat.le_of_ble_eq_true rfl), (Nat.le_of_ble_eq_true rfl)⟩ hl.1 (Nat.le_of_ble_eq_true rfl) rfl rfl dX8_rate_20 (hP.sub (ws' := ([] : va_W)) [] rfl) (fun r_8 hw_9 => ?_)
    rcases hw_9 with ⟨hr_8, hw_9⟩ | ⟨hr_8, hw_9⟩
    ·
      refine W_top (y := .int 1) (by rw [hr_8]) ?_
      refine lv_if_ne (tgt := 29) hx hb dX8_rate_23 (by decide) (fun c_11 => ?_) (fun c_11 => absurd c_11 (by decide))
      refine lv_aload hx hb dX8_rate_29 (lv_at hl 0 rfl) ?_
      refine lv_iload_n hx hb dX8_rate_31 rfl (lv_at hl 3 rfl) ?_
      refine lv_aload_n hx hb dX8_rate_32 rfl (lv_at hl 1 rfl) ?_
      refine va_get (D := D) (ci := 8) (v := .ref (xa 6)) (C := RX8) (T := TX8) (N := 14) hx hb htb iX8 hown hK.1 hP 0 rfl rfl 6 (by decide) (htb _ k_278) (fun _ h9 => h9) rfl dX8_rate_33 ?_
      refine lv_iload_n hx hb dX8_rate_36 rfl (lv_at hl 4 rfl) ?_
      refine callRV (rest := []) (As := [.int p1, .ref (xa 6), .int p2]) hx hb hml hown htb hK (g_X7_rateAsKnown l D E wh wa wf0 wf1 wf2 (xa 6) oa osize of0 of1 of2 of3 of4 p1 p2 (by (try dsimp only); omega) (by (try dsimp only); omega)) ok_X7_rateAsKnown k_429 k_430 k_431 k_10 k_432 ⟨(Nat.le_of_ble_eq_true rfl), (Nat.le_of_ble_eq_true rfl)⟩ ⟨(Nat.le_of_ble_eq_true rfl), (Nat.le_of_ble_eq_true rfl)⟩ hl.1 (Nat.le_of_ble_eq_true rfl) rfl rfl dX8_rate_37 (hP.sub (ws' := [(wh, .inr (7, G7 wa)), ((wa 0), .inl (E 0, 400, .inl wf0)), ((wa 1), .inl (E 0, 400, .inl wf1)), ((wa 2), .inl (E 0, 400, .inl wf2)), ((xa 6), .inr (2, G2 oa osize)), ((oa 0), .inl (E 0, 60, .inl of0)), ((oa 1), .inl (E 0, 60, .inl of1)), ((oa 2), .inl (E 0, 60, .inl of2)), ((oa 3), .inl (E 0, 60, .inl of3)), ((oa 4), .inl (E 0, 60, .inl of4))]) [3, 4, 5, 6, 7, 8, 9, 10, 11, 12] rfl) rfl rfl 0 rfl (fun r_12 hw_13 => ?_)
      exact W.iret (v := r_12) hx hb hr (fun t ht hW => ⟨r_12, rfl, (by (try dsimp only); first | exact Or.inl ⟨by omega, by assumption⟩ | exact Or.inr ⟨by omega, by omega⟩), ht⟩) (fun q h => by cases h) dX8_rate_40
    ·
      refine W_top (y := .int 0) (by rw [hr_8]) ?_
      refine lv_if_ne (tgt := 29) hx hb dX8_rate_23 (by decide) (fun c_15 => absurd (by decide) c_15) (fun c_15 => ?_)
      refine lv_ldc hx hb hown (htb _ k_386) dX8_rate_26 ?_
      exact W.iret (v := (-2000000000)) hx hb hr (fun t ht hW => ⟨(-2000000000), rfl, (by have hl0 := t_m2000000000; (try dsimp only); first | exact Or.inl ⟨by omega, by assumption⟩ | exact Or.inr ⟨by omega, by omega⟩), ht⟩) (fun q h => by cases h) dX8_rate_28
  ·
    refine W_top (y := .int 0) (by rw [hr_4]) ?_
    refine lv_if_eq (tgt := 26) hx hb dX8_rate_16 (by decide) (fun c_16 => ?_) (fun c_16 => absurd (by decide) c_16)
    refine lv_ldc hx hb hown (htb _ k_386) dX8_rate_26 ?_
    exact W.iret (v := (-2000000000)) hx hb hr (fun t ht hW => ⟨(-2000000000), rfl, (by have hl0 := t_m2000000000; (try dsimp only); first | exact Or.inl ⟨by omega, by assumption⟩ | exact Or.inr ⟨by omega, by omega⟩), ht⟩) (fun q h => by cases h) dX8_rate_28
set_option maxHeartbeats 4000000 in
set_option maxRecDepth 100000 in
theorem g_X8_markOn_N (l : Launch) (D : va_G) (E : Nat → Nat) (xh : Nat) (xa : Nat → Nat) (xtrialRule : Nat) (xdropRule : Nat) (xtoday : Int32) (xf1 : Nat → Int32) (xf3 : Nat → Option Nat) (p0 : Int32) (p1 : Int32) (p2 : Int32) (hi_x : (0 ≤ xtoday.toInt ∧ xtoday.toInt ≤ 399)) (hn0 : ¬ (0 ≤ p0.toInt ∧ p0.toInt ≤ 15 ∧ ((xf1 (p0).toNatClampNeg).toInt = 0 ∨ (xf1 (p0).toNatClampNeg).toInt = 1))) : Met l yX8_markOn (wl yX8_markOn cX8_markOn 5 (some .int)) (RM 2 0 0) (rd_P D E [.ref xh, .int p0, .int p1, .int p2] [(xh, .inr (8, G8 xa xtrialRule xdropRule xtoday)), ((xa 1), .inl (E 0, 16, .inl xf1)), ((xa 3), .inl (E 3, 16, .inr (.inr (.inr (.inr xf3)))))]) (rd_Q (fun r => ((r.toInt = -1 ∧ ¬ ((0 ≤ p0.toInt ∧ p0.toInt ≤ 15) ∧ (0 ≤ p1.toInt ∧ p1.toInt ≤ xtoday.toInt))) ∨ (((0 ≤ p0.toInt ∧ p0.toInt ≤ 15) ∧ (0 ≤ p1.toInt ∧ p1.toInt ≤ xtoday.toInt)) ∧ (((xf1 (p0).toNatClampNeg).toInt = -5 ∧ r.toInt = -2) ∨ ((xf1 (p0).toNatClampNeg).toInt ≠ -5 ∧ r.toInt = -3)))))) 0 0 (fun _ => False) := by
  refine Met.ofW (cc := cX8_markOn) (maxL := 5) (ret := (some .int)) (by decide) rfl ?_
  intro p e s m args below meth c s₁ B hml hv
  obtain ⟨rfl, hP, hK⟩ := hv
  have hx := B.exec; have hb := B.bytes; have hr := B.returns
  have hts := atoms_spec (ws := wl yX8_markOn cX8_markOn 5 (some .int)) B.pre
  have htb : ∀ w ∈ tb, w.before _ s = true := fun w h => hts w (List.mem_cons_of_mem _ h)
  have hown : s.vm.findClass RX8 = some m.cls := findClass_of_methodNamed B.named
  have hlocks := B.notSynchronized
  have hP : va_P D vwCl [(xh, .inr (8, G8 xa xtrialRule xdropRule xtoday)), ((xa 1), .inl (E 0, 16, .inl xf1)), ((xa 3), .inl (E 3, 16, .inr (.inr (.inr (.inr xf3)))))] s.heap := hP
  have hl := lv_entry ([.ref xh, .int p0, .int p1, .int p2]) (n := 5) (Nat.le_of_ble_eq_true rfl)
  rw [lg_entry_eq]
  generalize (lg_sl ([.ref xh, .int p0, .int p1, .int p2]) ++ List.replicate (5 - (lg_sl ([.ref xh, .int p0, .int p1, .int p2])).length) Slot.unset).toArray = ls at hl ⊢
  have hl : lv_has ls 5 [(0, .ref xh), (1, .int p0), (2, .int p1), (3, .int p2)] := hl
  have lo_p0 := i_lo p0; have hi_p0 := i_hi p0
  have lo_p1 := i_lo p1; have hi_p1 := i_hi p1
  have lo_p2 := i_lo p2; have hi_p2 := i_hi p2
  refine lv_iload_n hx hb dX8_markOn_0 rfl (lv_at hl 1 rfl) ?_
  refine callRS (rest := []) (As := [.int p0]) hx hb hml hown htb hK (g_X8_isPlace l D E p0 ) ok_X8_isPlace k_333 k_334 k_1 k_335 ⟨(Nat.le_of_ble_eq_true rfl), (Nat.le_of_ble_eq_true rfl)⟩ ⟨(Nat.le_of_ble_eq_true rfl), (Nat.le_of_ble_eq_true rfl)⟩ hl.1 (Nat.le_of_ble_eq_true rfl) rfl rfl dX8_markOn_1 (hP.sub (ws' := ([] : va_W)) [] rfl) (fun r_1 hw_2 => ?_)
  rcases hw_2 with ⟨hr_1, hw_2⟩ | ⟨hr_1, hw_2⟩
  ·
    refine W_top (y := .int 1) (by rw [hr_1]) ?_
    refine lv_if_eq (tgt := 15) hx hb dX8_markOn_4 (by decide) (fun c_4 => absurd c_4 (by decide)) (fun c_4 => ?_)
    refine lv_aload_n hx hb dX8_markOn_7 rfl (lv_at hl 0 rfl) ?_
    refine lv_iload_n hx hb dX8_markOn_8 rfl (lv_at hl 2 rfl) ?_
    refine callRV (rest := []) (As := [.int p1]) hx hb hml hown htb hK (g_X8_isPast l D E xh xa xtrialRule xdropRule xtoday p1 (by (try dsimp only); omega)) ok_X8_isPast k_391 k_393 ks_2 k_1 k_394 ⟨(Nat.le_of_ble_eq_true rfl), (Nat.le_of_ble_eq_true rfl)⟩ ⟨(Nat.le_of_ble_eq_true rfl), (Nat.le_of_ble_eq_true rfl)⟩ hl.1 (Nat.le_of_ble_eq_true rfl) rfl rfl dX8_markOn_9 (hP.sub (ws' := [(xh, .inr (8, G8 xa xtrialRule xdropRule xtoday))]) [0] rfl) rfl rfl 0 rfl (fun r_5 hw_6 => ?_)
    rcases hw_6 with ⟨hr_5, hw_6⟩ | ⟨hr_5, hw_6⟩
    ·
      refine W_top (y := .int 1) (by rw [hr_5]) ?_
      refine lv_if_ne (tgt := 17) hx hb dX8_markOn_12 (by decide) (fun c_8 => ?_) (fun c_8 => absurd c_8 (by decide))
      refine lv_aload_n hx hb dX8_markOn_17 rfl (lv_at hl 0 rfl) ?_
      refine lv_iload_n hx hb dX8_markOn_18 rfl (lv_at hl 1 rfl) ?_
      refine rn_call (runRV (rest := []) (As := [.int p0]) hx hb hml hown htb (g_X8_watchAt_N l D E xh xa xtrialRule xdropRule xtoday xf1 xf3 p0 (by (try dsimp only); omega) hn0) ok_X8_watchAt k_369 k_371 ks_1 k_1 k_372 ⟨(Nat.le_of_ble_eq_true rfl), (Nat.le_of_ble_eq_true rfl)⟩ ⟨(Nat.le_of_ble_eq_true rfl), (Nat.le_of_ble_eq_true rfl)⟩ hl.1 (Nat.le_of_ble_eq_true rfl) rfl rfl dX8_markOn_19 (prV (hP.sub (ws' := [(xh, .inr (8, G8 xa xtrialRule xdropRule xtoday)), ((xa 1), .inl (E 0, 16, .inl xf1)), ((xa 3), .inl (E 3, 16, .inr (.inr (.inr (.inr xf3)))))]) [0, 1, 2] rfl) hK rfl rfl 0 rfl)) ?_
      refine lv_astoreN (lv' := [(4, .null), (0, .ref xh), (1, .int p0), (2, .int p1), (3, .int p2)]) hx hb dX8_markOn_22 hl (by decide) rfl (fun ls hl => ?_)
      refine lv_aloadN hx hb dX8_markOn_24 (lv_at hl 0 rfl) ?_
      refine lv_ifnonnullN hx hb dX8_markOn_26 ?_
      refine lv_aload_n hx hb dX8_markOn_29 rfl (lv_at hl 1 rfl) ?_
      refine lv_iload_n hx hb dX8_markOn_30 rfl (lv_at hl 2 rfl) ?_
      refine callRV (rest := []) (As := [.int p0]) hx hb hml hown htb hK (g_X8_lackAt l D E xh xa xtrialRule xdropRule xtoday xf1 p0 (by (try dsimp only); omega)) ok_X8_lackAt k_396 k_398 ks_3 k_1 k_399 ⟨(Nat.le_of_ble_eq_true rfl), (Nat.le_of_ble_eq_true rfl)⟩ ⟨(Nat.le_of_ble_eq_true rfl), (Nat.le_of_ble_eq_true rfl)⟩ hl.1 (Nat.le_of_ble_eq_true rfl) rfl rfl dX8_markOn_31 (hP.sub (ws' := [(xh, .inr (8, G8 xa xtrialRule xdropRule xtoday)), ((xa 1), .inl (E 0, 16, .inl xf1))]) [0, 1] rfl) rfl rfl 0 rfl (fun r_12 hw_13 => ?_)
      exact W.iret (v := r_12) hx hb hr (fun t ht hW => ⟨r_12, rfl, (by (try dsimp only); first | exact Or.inl ⟨by omega, by omega⟩ | exact Or.inr ⟨by omega, by omega⟩), ht⟩) (fun q h => by cases h) dX8_markOn_34
    ·
      refine W_top (y := .int 0) (by rw [hr_5]) ?_
      refine lv_if_ne (tgt := 17) hx hb dX8_markOn_12 (by decide) (fun c_15 => absurd (by decide) c_15) (fun c_15 => ?_)
      refine lv_iconst (v := (-1)) hx hb dX8_markOn_15 (by decide) ?_
      exact W.iret (v := (-1)) hx hb hr (fun t ht hW => ⟨(-1), rfl, (by have hl0 := t_m1; (try dsimp only); first | exact Or.inl ⟨by omega, by omega⟩ | exact Or.inr ⟨by omega, by omega⟩), ht⟩) (fun q h => by cases h) dX8_markOn_16
  ·
    refine W_top (y := .int 0) (by rw [hr_1]) ?_
    refine lv_if_eq (tgt := 15) hx hb dX8_markOn_4 (by decide) (fun c_16 => ?_) (fun c_16 => absurd (by decide) c_16)
    refine lv_iconst (v := (-1)) hx hb dX8_markOn_15 (by decide) ?_
    exact W.iret (v := (-1)) hx hb hr (fun t ht hW => ⟨(-1), rfl, (by have hl0 := t_m1; (try dsimp only); first | exact Or.inl ⟨by omega, by omega⟩ | exact Or.inr ⟨by omega, by omega⟩), ht⟩) (fun q h => by cases h) dX8_markOn_16
set_option maxHeartbeats 4000000 in
set_option maxRecDepth 100000 in
theorem g_X8_markOn_W (l : Launch) (D : va_G) (E : Nat → Nat) (xh : Nat) (xa : Nat → Nat) (xtrialRule : Nat) (xdropRule : Nat) (xtoday : Int32) (xf1 : Nat → Int32) (xf3 : Nat → Option Nat) (wh : Nat) (wa : Nat → Nat) (wf2 : Nat → Int32) (p0 : Int32) (p1 : Int32) (p2 : Int32) (sz : Nat) (hi_x : (0 ≤ xtoday.toInt ∧ xtoday.toInt ≤ 399)) (hk0 : (0 ≤ p0.toInt ∧ p0.toInt ≤ 15 ∧ ((xf1 (p0).toNatClampNeg).toInt = 0 ∨ (xf1 (p0).toNatClampNeg).toInt = 1))) (hw0 : xf3 (p0).toNatClampNeg = some wh) : Met l yX8_markOn (wl yX8_markOn cX8_markOn 5 (some .int)) (RM 3 0 0) (mu_P D E [.ref xh, .int p0, .int p1, .int p2] [(xh, .inr (8, G8 xa xtrialRule xdropRule xtoday)), ((xa 1), .inl (E 0, 16, .inl xf1)), ((xa 3), .inl (E 3, 16, .inr (.inr (.inr (.inr xf3))))), (wh, .inr (7, G7 wa)), ((wa 2), .inl (E 0, 400, .inl wf2))] sz) (va_Qi (fun (r : Int32) (u : (Nat → Int32)) => ((¬ (0 ≤ p1.toInt ∧ p1.toInt ≤ xtoday.toInt) ∧ r.toInt = -1 ∧ u = wf2) ∨ ((0 ≤ p1.toInt ∧ p1.toInt ≤ xtoday.toInt) ∧ ((wf2 (p1).toNatClampNeg) &&& p2).toInt ≠ 0 ∧ r.toInt = 0 ∧ u = wf2) ∨ ((0 ≤ p1.toInt ∧ p1.toInt ≤ xtoday.toInt) ∧ ¬ ((wf2 (p1).toNatClampNeg) &&& p2).toInt ≠ 0 ∧ r.toInt = 1 ∧ u = upd wf2 (p1).toNatClampNeg ((wf2 (p1).toNatClampNeg) ||| p2)))) (mu_B D (va_A [(xh, .inr (8, G8 xa xtrialRule xdropRule xtoday)), ((xa 1), .inl (E 0, 16, .inl xf1)), ((xa 3), .inl (E 3, 16, .inr (.inr (.inr (.inr xf3))))), (wh, .inr (7, G7 wa)), ((wa 2), .inl (E 0, 400, .inl wf2))] sz) (fun (u : (Nat → Int32)) => [(xh, .inr (8, G8 xa xtrialRule xdropRule xtoday)), ((xa 1), .inl (E 0, 16, .inl xf1)), ((xa 3), .inl (E 3, 16, .inr (.inr (.inr (.inr xf3))))), (wh, .inr (7, G7 wa)), ((wa 2), .inl (E 0, 400, .inl u))])) (va_A [(xh, .inr (8, G8 xa xtrialRule xdropRule xtoday)), ((xa 1), .inl (E 0, 16, .inl xf1)), ((xa 3), .inl (E 3, 16, .inr (.inr (.inr (.inr xf3))))), (wh, .inr (7, G7 wa)), ((wa 2), .inl (E 0, 400, .inl wf2))] sz)) 0 0 (va_A [(xh, .inr (8, G8 xa xtrialRule xdropRule xtoday)), ((xa 1), .inl (E 0, 16, .inl xf1)), ((xa 3), .inl (E 3, 16, .inr (.inr (.inr (.inr xf3))))), (wh, .inr (7, G7 wa)), ((wa 2), .inl (E 0, 400, .inl wf2))] sz) := by
  refine Met.ofW (cc := cX8_markOn) (maxL := 5) (ret := (some .int)) (by decide) rfl ?_
  intro p e s m args below meth c s₁ B hml hv
  obtain ⟨rfl, hsz, hP, hK, hD0⟩ := hv
  have hx := B.exec; have hb := B.bytes; have hr := B.returns
  have hts := atoms_spec (ws := wl yX8_markOn cX8_markOn 5 (some .int)) B.pre
  have htb : ∀ w ∈ tb, w.before _ s = true := fun w h => hts w (List.mem_cons_of_mem _ h)
  have hown : s.vm.findClass RX8 = some m.cls := findClass_of_methodNamed B.named
  have hlocks := B.notSynchronized
  subst hsz
  have hD := hD0.self (sz := s.heap.size)
  generalize hAe : va_A [(xh, .inr (8, G8 xa xtrialRule xdropRule xtoday)), ((xa 1), .inl (E 0, 16, .inl xf1)), ((xa 3), .inl (E 3, 16, .inr (.inr (.inr (.inr xf3))))), (wh, .inr (7, G7 wa)), ((wa 2), .inl (E 0, 400, .inl wf2))] s.heap.size = A at hD ⊢
  have hA : ∀ q : Nat, s.heap.size ≤ q → A q := fun q h => by rw [← hAe]; exact Or.inr h
  have hS : va_S A s.heap s.heap [] := va_S.rf
  have hP : va_P D vwCl [(xh, .inr (8, G8 xa xtrialRule xdropRule xtoday)), ((xa 1), .inl (E 0, 16, .inl xf1)), ((xa 3), .inl (E 3, 16, .inr (.inr (.inr (.inr xf3))))), (wh, .inr (7, G7 wa)), ((wa 2), .inl (E 0, 400, .inl wf2))] s.heap := hP
  have hl := lv_entry ([.ref xh, .int p0, .int p1, .int p2]) (n := 5) (Nat.le_of_ble_eq_true rfl)
  rw [lg_entry_eq]
  generalize (lg_sl ([.ref xh, .int p0, .int p1, .int p2]) ++ List.replicate (5 - (lg_sl ([.ref xh, .int p0, .int p1, .int p2])).length) Slot.unset).toArray = ls at hl ⊢
  have hl : lv_has ls 5 [(0, .ref xh), (1, .int p0), (2, .int p1), (3, .int p2)] := hl
  have lo_p0 := i_lo p0; have hi_p0 := i_hi p0
  have lo_p1 := i_lo p1; have hi_p1 := i_hi p1
  have lo_p2 := i_lo p2; have hi_p2 := i_hi p2
  refine lv_iload_n hx hb dX8_markOn_0 rfl (lv_at hl 1 rfl) ?_
  refine callRS (rest := []) (As := [.int p0]) hx hb hml hown htb hK (g_X8_isPlace l D E p0 ) ok_X8_isPlace k_333 k_334 k_1 k_335 ⟨(Nat.le_of_ble_eq_true rfl), (Nat.le_of_ble_eq_true rfl)⟩ ⟨(Nat.le_of_ble_eq_true rfl), (Nat.le_of_ble_eq_true rfl)⟩ hl.1 (Nat.le_of_ble_eq_true rfl) rfl rfl dX8_markOn_1 (hP.sub (ws' := ([] : va_W)) [] rfl) (fun r_1 hw_2 => ?_)
  rcases hw_2 with ⟨hr_1, hw_2⟩ | ⟨hr_1, hw_2⟩
  ·
    refine W_top (y := .int 1) (by rw [hr_1]) ?_
    refine lv_if_eq (tgt := 15) hx hb dX8_markOn_4 (by decide) (fun c_4 => absurd c_4 (by decide)) (fun c_4 => ?_)
    refine lv_aload_n hx hb dX8_markOn_7 rfl (lv_at hl 0 rfl) ?_
    refine lv_iload_n hx hb dX8_markOn_8 rfl (lv_at hl 2 rfl) ?_
    refine callRV (rest := []) (As := [.int p1]) hx hb hml hown htb hK (g_X8_isPast l D E xh xa xtrialRule xdropRule xtoday p1 (by (try dsimp only); omega)) ok_X8_isPast k_391 k_393 ks_2 k_1 k_394 ⟨(Nat.le_of_ble_eq_true rfl), (Nat.le_of_ble_eq_true rfl)⟩ ⟨(Nat.le_of_ble_eq_true rfl), (Nat.le_of_ble_eq_true rfl)⟩ hl.1 (Nat.le_of_ble_eq_true rfl) rfl rfl dX8_markOn_9 (hP.sub (ws' := [(xh, .inr (8, G8 xa xtrialRule xdropRule xtoday))]) [0] rfl) rfl rfl 0 rfl (fun r_5 hw_6 => ?_)
    rcases hw_6 with ⟨hr_5, hw_6⟩ | ⟨hr_5, hw_6⟩
    ·
      refine W_top (y := .int 1) (by rw [hr_5]) ?_
      refine lv_if_ne (tgt := 17) hx hb dX8_markOn_12 (by decide) (fun c_8 => ?_) (fun c_8 => absurd c_8 (by decide))
      refine lv_aload_n hx hb dX8_markOn_17 rfl (lv_at hl 0 rfl) ?_
      refine lv_iload_n hx hb dX8_markOn_18 rfl (lv_at hl 1 rfl) ?_
      refine rr_call (runRV (rest := []) (As := [.int p0]) hx hb hml hown htb (g_X8_watchAt_W l D E xh xa xtrialRule xdropRule xtoday xf1 xf3 wh wa p0 (by (try dsimp only); omega) hk0 hw0) ok_X8_watchAt k_369 k_371 ks_1 k_1 k_372 ⟨(Nat.le_of_ble_eq_true rfl), (Nat.le_of_ble_eq_true rfl)⟩ ⟨(Nat.le_of_ble_eq_true rfl), (Nat.le_of_ble_eq_true rfl)⟩ hl.1 (Nat.le_of_ble_eq_true rfl) rfl rfl dX8_markOn_19 (prV (hP.sub (ws' := [(xh, .inr (8, G8 xa xtrialRule xdropRule xtoday)), ((xa 1), .inl (E 0, 16, .inl xf1)), ((xa 3), .inl (E 3, 16, .inr (.inr (.inr (.inr xf3))))), (wh, .inr (7, G7 wa))]) [0, 1, 2, 3] rfl) hK rfl rfl 0 rfl)) ?_
      refine lv_astore (lv' := [(4, .ref wh), (0, .ref xh), (1, .int p0), (2, .int p1), (3, .int p2)]) hx hb dX8_markOn_22 hl (by decide) rfl (fun ls hl => ?_)
      refine lv_aload hx hb dX8_markOn_24 (lv_at hl 0 rfl) ?_
      refine lv_ifnonnull (tgt := 35) hx hb dX8_markOn_26 (by decide) ?_
      refine lv_aload hx hb dX8_markOn_35 (lv_at hl 0 rfl) ?_
      refine lv_iload_n hx hb dX8_markOn_37 rfl (lv_at hl 3 rfl) ?_
      refine lv_iload_n hx hb dX8_markOn_38 rfl (lv_at hl 4 rfl) ?_
      have hPc := hP.sub (ws' := [(wh, .inr (7, G7 wa)), ((wa 2), .inl (E 0, 400, .inl wf2))]) [3, 4] rfl
      have hDc := hD.sub (ws' := [(wh, .inr (7, G7 wa)), ((wa 2), .inl (E 0, 400, .inl wf2))]) [3, 4] (by decide) rfl
      refine aft_i (runMV (rest := []) (As := [.int p1, .int p2]) hx hb hml hown htb hK (g_X7_addMark l D E wh wa wf2 p1 p2 _ ) ok_X7_addMark k_451 k_452 k_453 k_10 k_454 ⟨(Nat.le_of_ble_eq_true rfl), (Nat.le_of_ble_eq_true rfl)⟩ ⟨(Nat.le_of_ble_eq_true rfl), (Nat.le_of_ble_eq_true rfl)⟩ hl.1 (Nat.le_of_ble_eq_true rfl) rfl rfl dX8_markOn_39 hPc hDc rfl rfl 0 rfl) hP hD hS hA [3, 4] [0, 1, 2] (wr := [(xh, .inr (8, G8 xa xtrialRule xdropRule xtoday)), ((xa 1), .inl (E 0, 16, .inl xf1)), ((xa 3), .inl (E 3, 16, .inr (.inr (.inr (.inr xf3)))))]) rfl rfl (by decide) (by decide) (fun r_12 u_14 H locs hw_13 hP hD hS => ?_)
      clear hPc hDc
      have hP : va_P D vwCl [(xh, .inr (8, G8 xa xtrialRule xdropRule xtoday)), ((xa 1), .inl (E 0, 16, .inl xf1)), ((xa 3), .inl (E 3, 16, .inr (.inr (.inr (.inr xf3))))), (wh, .inr (7, G7 wa)), ((wa 2), .inl (E 0, 400, .inl u_14))] H := hP
      have hD := toW hP hD rfl
      have hw_13M : (r_12.toInt = 1 ∧ ((wf2 (p1).toNatClampNeg) &&& p2).toInt = 0 ∧ u_14 = upd wf2 (p1).toNatClampNeg ((wf2 (p1).toNatClampNeg) ||| p2)) ∨ (r_12.toInt = 0 ∧ ((wf2 (p1).toNatClampNeg) &&& p2).toInt ≠ 0 ∧ u_14 = wf2) := by rcases hw_13 with ⟨h1, h2, h3, h4⟩ | ⟨h1, h2, h3⟩; exact Or.inl ⟨h1, by omega, h4⟩; exact Or.inr ⟨h1, by have := h2 (by omega); omega, h3⟩
      clear hw_13
      refine lv_if_eq (tgt := 49) hx hb dX8_markOn_42 (by decide) (fun c_15 => ?_) (fun c_15 => ?_)
      ·
        have ic_15 : r_12.toInt = 0 := (g_eq rfl t_0).mp c_15
        clear c_15
        refine lv_iconst (v := 0) hx hb dX8_markOn_49 (by decide) ?_
        have hP9 := hP.sub (ws' := [(xh, .inr (8, G8 xa xtrialRule xdropRule xtoday)), ((xa 1), .inl (E 0, 16, .inl xf1)), ((xa 3), .inl (E 3, 16, .inr (.inr (.inr (.inr xf3))))), (wh, .inr (7, G7 wa)), ((wa 2), .inl (E 0, 400, .inl u_14))]) [0, 1, 2, 3, 4] rfl
        have hD9 := hD.sub (ws' := [(xh, .inr (8, G8 xa xtrialRule xdropRule xtoday)), ((xa 1), .inl (E 0, 16, .inl xf1)), ((xa 3), .inl (E 3, 16, .inr (.inr (.inr (.inr xf3))))), (wh, .inr (7, G7 wa)), ((wa 2), .inl (E 0, 400, .inl u_14))]) [0, 1, 2, 3, 4] (by decide) rfl
        exact W.iret (v := 0) hx hb hr (fun t ht hW => ⟨⟨0, u_14, rfl, (by have hl0 := t_0; rcases hw_13M with ⟨h1, h2, h3⟩ | ⟨h1, h2, h3⟩ <;> first | (exfalso; omega) | exact Or.inr (Or.inr ⟨by omega, by omega, by omega, h3⟩) | exact Or.inr (Or.inl ⟨by omega, by omega, by omega, h3⟩)), by rw [ht]; exact hP9, hD9⟩, hS.F ht⟩) hS.2.2 dX8_markOn_50
      ·
        have ic_15 : r_12.toInt ≠ 0 := mt (g_eq rfl t_0).mpr c_15
        clear c_15
        refine lv_iconst (v := 1) hx hb dX8_markOn_45 (by decide) ?_
        refine lv_goto (tgt := 50) hx hb dX8_markOn_46 (by decide) ?_
        have hP9 := hP.sub (ws' := [(xh, .inr (8, G8 xa xtrialRule xdropRule xtoday)), ((xa 1), .inl (E 0, 16, .inl xf1)), ((xa 3), .inl (E 3, 16, .inr (.inr (.inr (.inr xf3))))), (wh, .inr (7, G7 wa)), ((wa 2), .inl (E 0, 400, .inl u_14))]) [0, 1, 2, 3, 4] rfl
        have hD9 := hD.sub (ws' := [(xh, .inr (8, G8 xa xtrialRule xdropRule xtoday)), ((xa 1), .inl (E 0, 16, .inl xf1)), ((xa 3), .inl (E 3, 16, .inr (.inr (.inr (.inr xf3))))), (wh, .inr (7, G7 wa)), ((wa 2), .inl (E 0, 400, .inl u_14))]) [0, 1, 2, 3, 4] (by decide) rfl
        exact W.iret (v := 1) hx hb hr (fun t ht hW => ⟨⟨1, u_14, rfl, (by have hl0 := t_1; rcases hw_13M with ⟨h1, h2, h3⟩ | ⟨h1, h2, h3⟩ <;> first | (exfalso; omega) | exact Or.inr (Or.inr ⟨by omega, by omega, by omega, h3⟩) | exact Or.inr (Or.inl ⟨by omega, by omega, by omega, h3⟩)), by rw [ht]; exact hP9, hD9⟩, hS.F ht⟩) hS.2.2 dX8_markOn_50
    ·
      refine W_top (y := .int 0) (by rw [hr_5]) ?_
      refine lv_if_ne (tgt := 17) hx hb dX8_markOn_12 (by decide) (fun c_16 => absurd (by decide) c_16) (fun c_16 => ?_)
      refine lv_iconst (v := (-1)) hx hb dX8_markOn_15 (by decide) ?_
      have hP9 := hP.sub (ws' := [(xh, .inr (8, G8 xa xtrialRule xdropRule xtoday)), ((xa 1), .inl (E 0, 16, .inl xf1)), ((xa 3), .inl (E 3, 16, .inr (.inr (.inr (.inr xf3))))), (wh, .inr (7, G7 wa)), ((wa 2), .inl (E 0, 400, .inl wf2))]) [0, 1, 2, 3, 4] rfl
      have hD9 := hD.sub (ws' := [(xh, .inr (8, G8 xa xtrialRule xdropRule xtoday)), ((xa 1), .inl (E 0, 16, .inl xf1)), ((xa 3), .inl (E 3, 16, .inr (.inr (.inr (.inr xf3))))), (wh, .inr (7, G7 wa)), ((wa 2), .inl (E 0, 400, .inl wf2))]) [0, 1, 2, 3, 4] (by decide) rfl
      exact W.iret (v := (-1)) hx hb hr (fun t ht hW => ⟨⟨(-1), wf2, rfl, (by have hl0 := t_m1; exact Or.inl ⟨by omega, by omega, rfl⟩), by rw [ht]; exact hP9, hD9⟩, hS.F ht⟩) hS.2.2 dX8_markOn_16
  ·
    refine W_top (y := .int 0) (by rw [hr_1]) ?_
    refine lv_if_eq (tgt := 15) hx hb dX8_markOn_4 (by decide) (fun c_17 => ?_) (fun c_17 => absurd (by decide) c_17)
    refine lv_iconst (v := (-1)) hx hb dX8_markOn_15 (by decide) ?_
    have hP9 := hP.sub (ws' := [(xh, .inr (8, G8 xa xtrialRule xdropRule xtoday)), ((xa 1), .inl (E 0, 16, .inl xf1)), ((xa 3), .inl (E 3, 16, .inr (.inr (.inr (.inr xf3))))), (wh, .inr (7, G7 wa)), ((wa 2), .inl (E 0, 400, .inl wf2))]) [0, 1, 2, 3, 4] rfl
    have hD9 := hD.sub (ws' := [(xh, .inr (8, G8 xa xtrialRule xdropRule xtoday)), ((xa 1), .inl (E 0, 16, .inl xf1)), ((xa 3), .inl (E 3, 16, .inr (.inr (.inr (.inr xf3))))), (wh, .inr (7, G7 wa)), ((wa 2), .inl (E 0, 400, .inl wf2))]) [0, 1, 2, 3, 4] (by decide) rfl
    exact W.iret (v := (-1)) hx hb hr (fun t ht hW => ⟨⟨(-1), wf2, rfl, (by have hl0 := t_m1; exact Or.inl ⟨by omega, by omega, rfl⟩), by rw [ht]; exact hP9, hD9⟩, hS.F ht⟩) hS.2.2 dX8_markOn_16
set_option maxHeartbeats 4000000 in
set_option maxRecDepth 100000 in
theorem g_X8_repair_N (l : Launch) (D : va_G) (E : Nat → Nat) (xh : Nat) (xa : Nat → Nat) (xtrialRule : Nat) (xdropRule : Nat) (xtoday : Int32) (xf1 : Nat → Int32) (xf3 : Nat → Option Nat) (p0 : Int32) (p1 : Int32) (hi_x : (0 ≤ xtoday.toInt ∧ xtoday.toInt ≤ 399)) (hn0 : ¬ (0 ≤ p0.toInt ∧ p0.toInt ≤ 15 ∧ ((xf1 (p0).toNatClampNeg).toInt = 0 ∨ (xf1 (p0).toNatClampNeg).toInt = 1))) : Met l yX8_repair (wl yX8_repair cX8_repair 3 (some .int)) (RM 3 0 0) (rd_P D E [.ref xh, .int p0, .int p1] [(xh, .inr (8, G8 xa xtrialRule xdropRule xtoday)), ((xa 1), .inl (E 0, 16, .inl xf1)), ((xa 3), .inl (E 3, 16, .inr (.inr (.inr (.inr xf3)))))]) (rd_Q (fun r => ((r.toInt = -1 ∧ ¬ ((0 ≤ p0.toInt ∧ p0.toInt ≤ 15) ∧ (0 ≤ p1.toInt ∧ p1.toInt ≤ xtoday.toInt))) ∨ (((0 ≤ p0.toInt ∧ p0.toInt ≤ 15) ∧ (0 ≤ p1.toInt ∧ p1.toInt ≤ xtoday.toInt)) ∧ (((xf1 (p0).toNatClampNeg).toInt = -5 ∧ r.toInt = -2) ∨ ((xf1 (p0).toNatClampNeg).toInt ≠ -5 ∧ r.toInt = -3)))))) 0 0 (fun _ => False) := by
  refine Met.ofW (cc := cX8_repair) (maxL := 3) (ret := (some .int)) (by decide) rfl ?_
  intro p e s m args below meth c s₁ B hml hv
  obtain ⟨rfl, hP, hK⟩ := hv
  have hx := B.exec; have hb := B.bytes; have hr := B.returns
  have hts := atoms_spec (ws := wl yX8_repair cX8_repair 3 (some .int)) B.pre
  have htb : ∀ w ∈ tb, w.before _ s = true := fun w h => hts w (List.mem_cons_of_mem _ h)
  have hown : s.vm.findClass RX8 = some m.cls := findClass_of_methodNamed B.named
  have hlocks := B.notSynchronized
  have hP : va_P D vwCl [(xh, .inr (8, G8 xa xtrialRule xdropRule xtoday)), ((xa 1), .inl (E 0, 16, .inl xf1)), ((xa 3), .inl (E 3, 16, .inr (.inr (.inr (.inr xf3)))))] s.heap := hP
  have hl := lv_entry ([.ref xh, .int p0, .int p1]) (n := 3) (Nat.le_of_ble_eq_true rfl)
  rw [lg_entry_eq]
  generalize (lg_sl ([.ref xh, .int p0, .int p1]) ++ List.replicate (3 - (lg_sl ([.ref xh, .int p0, .int p1])).length) Slot.unset).toArray = ls at hl ⊢
  have hl : lv_has ls 3 [(0, .ref xh), (1, .int p0), (2, .int p1)] := hl
  have lo_p0 := i_lo p0; have hi_p0 := i_hi p0
  have lo_p1 := i_lo p1; have hi_p1 := i_hi p1
  refine lv_aload_n hx hb dX8_repair_0 rfl (lv_at hl 0 rfl) ?_
  refine lv_iload_n hx hb dX8_repair_1 rfl (lv_at hl 1 rfl) ?_
  refine lv_iload_n hx hb dX8_repair_2 rfl (lv_at hl 2 rfl) ?_
  refine lv_iconst (v := 1) hx hb dX8_repair_3 (by decide) ?_
  refine callRV (rest := []) (As := [.int p0, .int p1, .int 1]) hx hb hml hown htb hK (g_X8_markOn_N l D E xh xa xtrialRule xdropRule xtoday xf1 xf3 p0 p1 1 (by (try dsimp only); omega) hn0) ok_X8_markOn k_447 k_449 ks_4 k_1 k_450 ⟨(Nat.le_of_ble_eq_true rfl), (Nat.le_of_ble_eq_true rfl)⟩ ⟨(Nat.le_of_ble_eq_true rfl), (Nat.le_of_ble_eq_true rfl)⟩ hl.1 (Nat.le_of_ble_eq_true rfl) rfl rfl dX8_repair_4 (hP.sub (ws' := [(xh, .inr (8, G8 xa xtrialRule xdropRule xtoday)), ((xa 1), .inl (E 0, 16, .inl xf1)), ((xa 3), .inl (E 3, 16, .inr (.inr (.inr (.inr xf3)))))]) [0, 1, 2] rfl) rfl rfl 0 rfl (fun r_1 hw_2 => ?_)
  try simp only [t_1] at hw_2
  exact W.iret (v := r_1) hx hb hr (fun t ht hW => ⟨r_1, rfl, hw_2, ht⟩) (fun q h => by cases h) dX8_repair_7
set_option maxHeartbeats 4000000 in
set_option maxRecDepth 100000 in
theorem g_X8_repair_W (l : Launch) (D : va_G) (E : Nat → Nat) (xh : Nat) (xa : Nat → Nat) (xtrialRule : Nat) (xdropRule : Nat) (xtoday : Int32) (xf1 : Nat → Int32) (xf3 : Nat → Option Nat) (wh : Nat) (wa : Nat → Nat) (wf2 : Nat → Int32) (p0 : Int32) (p1 : Int32) (sz : Nat) (hi_x : (0 ≤ xtoday.toInt ∧ xtoday.toInt ≤ 399)) (hk0 : (0 ≤ p0.toInt ∧ p0.toInt ≤ 15 ∧ ((xf1 (p0).toNatClampNeg).toInt = 0 ∨ (xf1 (p0).toNatClampNeg).toInt = 1))) (hw0 : xf3 (p0).toNatClampNeg = some wh) : Met l yX8_repair (wl yX8_repair cX8_repair 3 (some .int)) (RM 4 0 0) (mu_P D E [.ref xh, .int p0, .int p1] [(xh, .inr (8, G8 xa xtrialRule xdropRule xtoday)), ((xa 1), .inl (E 0, 16, .inl xf1)), ((xa 3), .inl (E 3, 16, .inr (.inr (.inr (.inr xf3))))), (wh, .inr (7, G7 wa)), ((wa 2), .inl (E 0, 400, .inl wf2))] sz) (va_Qi (fun (r : Int32) (u : (Nat → Int32)) => ((¬ (0 ≤ p1.toInt ∧ p1.toInt ≤ xtoday.toInt) ∧ r.toInt = -1 ∧ u = wf2) ∨ ((0 ≤ p1.toInt ∧ p1.toInt ≤ xtoday.toInt) ∧ ((wf2 (p1).toNatClampNeg) &&& 1).toInt ≠ 0 ∧ r.toInt = 0 ∧ u = wf2) ∨ ((0 ≤ p1.toInt ∧ p1.toInt ≤ xtoday.toInt) ∧ ¬ ((wf2 (p1).toNatClampNeg) &&& 1).toInt ≠ 0 ∧ r.toInt = 1 ∧ u = upd wf2 (p1).toNatClampNeg ((wf2 (p1).toNatClampNeg) ||| 1)))) (mu_B D (va_A [(xh, .inr (8, G8 xa xtrialRule xdropRule xtoday)), ((xa 1), .inl (E 0, 16, .inl xf1)), ((xa 3), .inl (E 3, 16, .inr (.inr (.inr (.inr xf3))))), (wh, .inr (7, G7 wa)), ((wa 2), .inl (E 0, 400, .inl wf2))] sz) (fun (u : (Nat → Int32)) => [(xh, .inr (8, G8 xa xtrialRule xdropRule xtoday)), ((xa 1), .inl (E 0, 16, .inl xf1)), ((xa 3), .inl (E 3, 16, .inr (.inr (.inr (.inr xf3))))), (wh, .inr (7, G7 wa)), ((wa 2), .inl (E 0, 400, .inl u))])) (va_A [(xh, .inr (8, G8 xa xtrialRule xdropRule xtoday)), ((xa 1), .inl (E 0, 16, .inl xf1)), ((xa 3), .inl (E 3, 16, .inr (.inr (.inr (.inr xf3))))), (wh, .inr (7, G7 wa)), ((wa 2), .inl (E 0, 400, .inl wf2))] sz)) 0 0 (va_A [(xh, .inr (8, G8 xa xtrialRule xdropRule xtoday)), ((xa 1), .inl (E 0, 16, .inl xf1)), ((xa 3), .inl (E 3, 16, .inr (.inr (.inr (.inr xf3))))), (wh, .inr (7, G7 wa)), ((wa 2), .inl (E 0, 400, .inl wf2))] sz) := by
  refine Met.ofW (cc := cX8_repair) (maxL := 3) (ret := (some .int)) (by decide) rfl ?_
  intro p e s m args below meth c s₁ B hml hv
  obtain ⟨rfl, hsz, hP, hK, hD0⟩ := hv
  have hx := B.exec; have hb := B.bytes; have hr := B.returns
  have hts := atoms_spec (ws := wl yX8_repair cX8_repair 3 (some .int)) B.pre
  have htb : ∀ w ∈ tb, w.before _ s = true := fun w h => hts w (List.mem_cons_of_mem _ h)
  have hown : s.vm.findClass RX8 = some m.cls := findClass_of_methodNamed B.named
  have hlocks := B.notSynchronized
  subst hsz
  have hD := hD0.self (sz := s.heap.size)
  generalize hAe : va_A [(xh, .inr (8, G8 xa xtrialRule xdropRule xtoday)), ((xa 1), .inl (E 0, 16, .inl xf1)), ((xa 3), .inl (E 3, 16, .inr (.inr (.inr (.inr xf3))))), (wh, .inr (7, G7 wa)), ((wa 2), .inl (E 0, 400, .inl wf2))] s.heap.size = A at hD ⊢
  have hA : ∀ q : Nat, s.heap.size ≤ q → A q := fun q h => by rw [← hAe]; exact Or.inr h
  have hS : va_S A s.heap s.heap [] := va_S.rf
  have hP : va_P D vwCl [(xh, .inr (8, G8 xa xtrialRule xdropRule xtoday)), ((xa 1), .inl (E 0, 16, .inl xf1)), ((xa 3), .inl (E 3, 16, .inr (.inr (.inr (.inr xf3))))), (wh, .inr (7, G7 wa)), ((wa 2), .inl (E 0, 400, .inl wf2))] s.heap := hP
  have hl := lv_entry ([.ref xh, .int p0, .int p1]) (n := 3) (Nat.le_of_ble_eq_true rfl)
  rw [lg_entry_eq]
  generalize (lg_sl ([.ref xh, .int p0, .int p1]) ++ List.replicate (3 - (lg_sl ([.ref xh, .int p0, .int p1])).length) Slot.unset).toArray = ls at hl ⊢
  have hl : lv_has ls 3 [(0, .ref xh), (1, .int p0), (2, .int p1)] := hl
  have lo_p0 := i_lo p0; have hi_p0 := i_hi p0
  have lo_p1 := i_lo p1; have hi_p1 := i_hi p1
  refine lv_aload_n hx hb dX8_repair_0 rfl (lv_at hl 0 rfl) ?_
  refine lv_iload_n hx hb dX8_repair_1 rfl (lv_at hl 1 rfl) ?_
  refine lv_iload_n hx hb dX8_repair_2 rfl (lv_at hl 2 rfl) ?_
  refine lv_iconst (v := 1) hx hb dX8_repair_3 (by decide) ?_
  have hPc := hP.sub (ws' := [(xh, .inr (8, G8 xa xtrialRule xdropRule xtoday)), ((xa 1), .inl (E 0, 16, .inl xf1)), ((xa 3), .inl (E 3, 16, .inr (.inr (.inr (.inr xf3))))), (wh, .inr (7, G7 wa)), ((wa 2), .inl (E 0, 400, .inl wf2))]) [0, 1, 2, 3, 4] rfl
  have hDc := hD.sub (ws' := [(xh, .inr (8, G8 xa xtrialRule xdropRule xtoday)), ((xa 1), .inl (E 0, 16, .inl xf1)), ((xa 3), .inl (E 3, 16, .inr (.inr (.inr (.inr xf3))))), (wh, .inr (7, G7 wa)), ((wa 2), .inl (E 0, 400, .inl wf2))]) [0, 1, 2, 3, 4] (by decide) rfl
  refine aft_i (runMV (rest := []) (As := [.int p0, .int p1, .int 1]) hx hb hml hown htb hK (g_X8_markOn_W l D E xh xa xtrialRule xdropRule xtoday xf1 xf3 wh wa wf2 p0 p1 1 _ (by (try dsimp only); omega) hk0 hw0) ok_X8_markOn k_447 k_449 ks_4 k_1 k_450 ⟨(Nat.le_of_ble_eq_true rfl), (Nat.le_of_ble_eq_true rfl)⟩ ⟨(Nat.le_of_ble_eq_true rfl), (Nat.le_of_ble_eq_true rfl)⟩ hl.1 (Nat.le_of_ble_eq_true rfl) rfl rfl dX8_repair_4 hPc hDc rfl rfl 0 rfl) hP hD hS hA [0, 1, 2, 3, 4] [] (wr := ([] : va_W)) rfl rfl (by decide) (by decide) (fun r_1 u_3 H locs hw_2 hP hD hS => ?_)
  clear hPc hDc
  have hP : va_P D vwCl [(xh, .inr (8, G8 xa xtrialRule xdropRule xtoday)), ((xa 1), .inl (E 0, 16, .inl xf1)), ((xa 3), .inl (E 3, 16, .inr (.inr (.inr (.inr xf3))))), (wh, .inr (7, G7 wa)), ((wa 2), .inl (E 0, 400, .inl u_3))] H := hP
  have hD := toW hP hD rfl
  try simp only [t_1] at hw_2
  have hP9 := hP.sub (ws' := [(xh, .inr (8, G8 xa xtrialRule xdropRule xtoday)), ((xa 1), .inl (E 0, 16, .inl xf1)), ((xa 3), .inl (E 3, 16, .inr (.inr (.inr (.inr xf3))))), (wh, .inr (7, G7 wa)), ((wa 2), .inl (E 0, 400, .inl u_3))]) [0, 1, 2, 3, 4] rfl
  have hD9 := hD.sub (ws' := [(xh, .inr (8, G8 xa xtrialRule xdropRule xtoday)), ((xa 1), .inl (E 0, 16, .inl xf1)), ((xa 3), .inl (E 3, 16, .inr (.inr (.inr (.inr xf3))))), (wh, .inr (7, G7 wa)), ((wa 2), .inl (E 0, 400, .inl u_3))]) [0, 1, 2, 3, 4] (by decide) rfl
  exact W.iret (v := r_1) hx hb hr (fun t ht hW => ⟨⟨r_1, u_3, rfl, hw_2, by rw [ht]; exact hP9, hD9⟩, hS.F ht⟩) hS.2.2 dX8_repair_7
set_option maxHeartbeats 4000000 in
set_option maxRecDepth 100000 in
theorem g_X8_late_N (l : Launch) (D : va_G) (E : Nat → Nat) (xh : Nat) (xa : Nat → Nat) (xtrialRule : Nat) (xdropRule : Nat) (xtoday : Int32) (xf1 : Nat → Int32) (xf3 : Nat → Option Nat) (p0 : Int32) (p1 : Int32) (hi_x : (0 ≤ xtoday.toInt ∧ xtoday.toInt ≤ 399)) (hn0 : ¬ (0 ≤ p0.toInt ∧ p0.toInt ≤ 15 ∧ ((xf1 (p0).toNatClampNeg).toInt = 0 ∨ (xf1 (p0).toNatClampNeg).toInt = 1))) : Met l yX8_late (wl yX8_late cX8_late 3 (some .int)) (RM 3 0 0) (rd_P D E [.ref xh, .int p0, .int p1] [(xh, .inr (8, G8 xa xtrialRule xdropRule xtoday)), ((xa 1), .inl (E 0, 16, .inl xf1)), ((xa 3), .inl (E 3, 16, .inr (.inr (.inr (.inr xf3)))))]) (rd_Q (fun r => ((r.toInt = -1 ∧ ¬ ((0 ≤ p0.toInt ∧ p0.toInt ≤ 15) ∧ (0 ≤ p1.toInt ∧ p1.toInt ≤ xtoday.toInt))) ∨ (((0 ≤ p0.toInt ∧ p0.toInt ≤ 15) ∧ (0 ≤ p1.toInt ∧ p1.toInt ≤ xtoday.toInt)) ∧ (((xf1 (p0).toNatClampNeg).toInt = -5 ∧ r.toInt = -2) ∨ ((xf1 (p0).toNatClampNeg).toInt ≠ -5 ∧ r.toInt = -3)))))) 0 0 (fun _ => False) := by
  refine Met.ofW (cc := cX8_late) (maxL := 3) (ret := (some .int)) (by decide) rfl ?_
  intro p e s m args below meth c s₁ B hml hv
  obtain ⟨rfl, hP, hK⟩ := hv
  have hx := B.exec; have hb := B.bytes; have hr := B.returns
  have hts := atoms_spec (ws := wl yX8_late cX8_late 3 (some .int)) B.pre
  have htb : ∀ w ∈ tb, w.before _ s = true := fun w h => hts w (List.mem_cons_of_mem _ h)
  have hown : s.vm.findClass RX8 = some m.cls := findClass_of_methodNamed B.named
  have hlocks := B.notSynchronized
  have hP : va_P D vwCl [(xh, .inr (8, G8 xa xtrialRule xdropRule xtoday)), ((xa 1), .inl (E 0, 16, .inl xf1)), ((xa 3), .inl (E 3, 16, .inr (.inr (.inr (.inr xf3)))))] s.heap := hP
  have hl := lv_entry ([.ref xh, .int p0, .int p1]) (n := 3) (Nat.le_of_ble_eq_true rfl)
  rw [lg_entry_eq]
  generalize (lg_sl ([.ref xh, .int p0, .int p1]) ++ List.replicate (3 - (lg_sl ([.ref xh, .int p0, .int p1])).length) Slot.unset).toArray = ls at hl ⊢
  have hl : lv_has ls 3 [(0, .ref xh), (1, .int p0), (2, .int p1)] := hl
  have lo_p0 := i_lo p0; have hi_p0 := i_hi p0
  have lo_p1 := i_lo p1; have hi_p1 := i_hi p1
  refine lv_aload_n hx hb dX8_late_0 rfl (lv_at hl 0 rfl) ?_
  refine lv_iload_n hx hb dX8_late_1 rfl (lv_at hl 1 rfl) ?_
  refine lv_iload_n hx hb dX8_late_2 rfl (lv_at hl 2 rfl) ?_
  refine lv_iconst (v := 2) hx hb dX8_late_3 (by decide) ?_
  refine callRV (rest := []) (As := [.int p0, .int p1, .int 2]) hx hb hml hown htb hK (g_X8_markOn_N l D E xh xa xtrialRule xdropRule xtoday xf1 xf3 p0 p1 2 (by (try dsimp only); omega) hn0) ok_X8_markOn k_447 k_449 ks_4 k_1 k_450 ⟨(Nat.le_of_ble_eq_true rfl), (Nat.le_of_ble_eq_true rfl)⟩ ⟨(Nat.le_of_ble_eq_true rfl), (Nat.le_of_ble_eq_true rfl)⟩ hl.1 (Nat.le_of_ble_eq_true rfl) rfl rfl dX8_late_4 (hP.sub (ws' := [(xh, .inr (8, G8 xa xtrialRule xdropRule xtoday)), ((xa 1), .inl (E 0, 16, .inl xf1)), ((xa 3), .inl (E 3, 16, .inr (.inr (.inr (.inr xf3)))))]) [0, 1, 2] rfl) rfl rfl 0 rfl (fun r_1 hw_2 => ?_)
  try simp only [t_2] at hw_2
  exact W.iret (v := r_1) hx hb hr (fun t ht hW => ⟨r_1, rfl, hw_2, ht⟩) (fun q h => by cases h) dX8_late_7
set_option maxHeartbeats 4000000 in
set_option maxRecDepth 100000 in
theorem g_X8_late_W (l : Launch) (D : va_G) (E : Nat → Nat) (xh : Nat) (xa : Nat → Nat) (xtrialRule : Nat) (xdropRule : Nat) (xtoday : Int32) (xf1 : Nat → Int32) (xf3 : Nat → Option Nat) (wh : Nat) (wa : Nat → Nat) (wf2 : Nat → Int32) (p0 : Int32) (p1 : Int32) (sz : Nat) (hi_x : (0 ≤ xtoday.toInt ∧ xtoday.toInt ≤ 399)) (hk0 : (0 ≤ p0.toInt ∧ p0.toInt ≤ 15 ∧ ((xf1 (p0).toNatClampNeg).toInt = 0 ∨ (xf1 (p0).toNatClampNeg).toInt = 1))) (hw0 : xf3 (p0).toNatClampNeg = some wh) : Met l yX8_late (wl yX8_late cX8_late 3 (some .int)) (RM 4 0 0) (mu_P D E [.ref xh, .int p0, .int p1] [(xh, .inr (8, G8 xa xtrialRule xdropRule xtoday)), ((xa 1), .inl (E 0, 16, .inl xf1)), ((xa 3), .inl (E 3, 16, .inr (.inr (.inr (.inr xf3))))), (wh, .inr (7, G7 wa)), ((wa 2), .inl (E 0, 400, .inl wf2))] sz) (va_Qi (fun (r : Int32) (u : (Nat → Int32)) => ((¬ (0 ≤ p1.toInt ∧ p1.toInt ≤ xtoday.toInt) ∧ r.toInt = -1 ∧ u = wf2) ∨ ((0 ≤ p1.toInt ∧ p1.toInt ≤ xtoday.toInt) ∧ ((wf2 (p1).toNatClampNeg) &&& 2).toInt ≠ 0 ∧ r.toInt = 0 ∧ u = wf2) ∨ ((0 ≤ p1.toInt ∧ p1.toInt ≤ xtoday.toInt) ∧ ¬ ((wf2 (p1).toNatClampNeg) &&& 2).toInt ≠ 0 ∧ r.toInt = 1 ∧ u = upd wf2 (p1).toNatClampNeg ((wf2 (p1).toNatClampNeg) ||| 2)))) (mu_B D (va_A [(xh, .inr (8, G8 xa xtrialRule xdropRule xtoday)), ((xa 1), .inl (E 0, 16, .inl xf1)), ((xa 3), .inl (E 3, 16, .inr (.inr (.inr (.inr xf3))))), (wh, .inr (7, G7 wa)), ((wa 2), .inl (E 0, 400, .inl wf2))] sz) (fun (u : (Nat → Int32)) => [(xh, .inr (8, G8 xa xtrialRule xdropRule xtoday)), ((xa 1), .inl (E 0, 16, .inl xf1)), ((xa 3), .inl (E 3, 16, .inr (.inr (.inr (.inr xf3))))), (wh, .inr (7, G7 wa)), ((wa 2), .inl (E 0, 400, .inl u))])) (va_A [(xh, .inr (8, G8 xa xtrialRule xdropRule xtoday)), ((xa 1), .inl (E 0, 16, .inl xf1)), ((xa 3), .inl (E 3, 16, .inr (.inr (.inr (.inr xf3))))), (wh, .inr (7, G7 wa)), ((wa 2), .inl (E 0, 400, .inl wf2))] sz)) 0 0 (va_A [(xh, .inr (8, G8 xa xtrialRule xdropRule xtoday)), ((xa 1), .inl (E 0, 16, .inl xf1)), ((xa 3), .inl (E 3, 16, .inr (.inr (.inr (.inr xf3))))), (wh, .inr (7, G7 wa)), ((wa 2), .inl (E 0, 400, .inl wf2))] sz) := by
  refine Met.ofW (cc := cX8_late) (maxL := 3) (ret := (some .int)) (by decide) rfl ?_
  intro p e s m args below meth c s₁ B hml hv
  obtain ⟨rfl, hsz, hP, hK, hD0⟩ := hv
  have hx := B.exec; have hb := B.bytes; have hr := B.returns
  have hts := atoms_spec (ws := wl yX8_late cX8_late 3 (some .int)) B.pre
  have htb : ∀ w ∈ tb, w.before _ s = true := fun w h => hts w (List.mem_cons_of_mem _ h)
  have hown : s.vm.findClass RX8 = some m.cls := findClass_of_methodNamed B.named
  have hlocks := B.notSynchronized
  subst hsz
  have hD := hD0.self (sz := s.heap.size)
  generalize hAe : va_A [(xh, .inr (8, G8 xa xtrialRule xdropRule xtoday)), ((xa 1), .inl (E 0, 16, .inl xf1)), ((xa 3), .inl (E 3, 16, .inr (.inr (.inr (.inr xf3))))), (wh, .inr (7, G7 wa)), ((wa 2), .inl (E 0, 400, .inl wf2))] s.heap.size = A at hD ⊢
  have hA : ∀ q : Nat, s.heap.size ≤ q → A q := fun q h => by rw [← hAe]; exact Or.inr h
  have hS : va_S A s.heap s.heap [] := va_S.rf
  have hP : va_P D vwCl [(xh, .inr (8, G8 xa xtrialRule xdropRule xtoday)), ((xa 1), .inl (E 0, 16, .inl xf1)), ((xa 3), .inl (E 3, 16, .inr (.inr (.inr (.inr xf3))))), (wh, .inr (7, G7 wa)), ((wa 2), .inl (E 0, 400, .inl wf2))] s.heap := hP
  have hl := lv_entry ([.ref xh, .int p0, .int p1]) (n := 3) (Nat.le_of_ble_eq_true rfl)
  rw [lg_entry_eq]
  generalize (lg_sl ([.ref xh, .int p0, .int p1]) ++ List.replicate (3 - (lg_sl ([.ref xh, .int p0, .int p1])).length) Slot.unset).toArray = ls at hl ⊢
  have hl : lv_has ls 3 [(0, .ref xh), (1, .int p0), (2, .int p1)] := hl
  have lo_p0 := i_lo p0; have hi_p0 := i_hi p0
  have lo_p1 := i_lo p1; have hi_p1 := i_hi p1
  refine lv_aload_n hx hb dX8_late_0 rfl (lv_at hl 0 rfl) ?_
  refine lv_iload_n hx hb dX8_late_1 rfl (lv_at hl 1 rfl) ?_
  refine lv_iload_n hx hb dX8_late_2 rfl (lv_at hl 2 rfl) ?_
  refine lv_iconst (v := 2) hx hb dX8_late_3 (by decide) ?_
  have hPc := hP.sub (ws' := [(xh, .inr (8, G8 xa xtrialRule xdropRule xtoday)), ((xa 1), .inl (E 0, 16, .inl xf1)), ((xa 3), .inl (E 3, 16, .inr (.inr (.inr (.inr xf3))))), (wh, .inr (7, G7 wa)), ((wa 2), .inl (E 0, 400, .inl wf2))]) [0, 1, 2, 3, 4] rfl
  have hDc := hD.sub (ws' := [(xh, .inr (8, G8 xa xtrialRule xdropRule xtoday)), ((xa 1), .inl (E 0, 16, .inl xf1)), ((xa 3), .inl (E 3, 16, .inr (.inr (.inr (.inr xf3))))), (wh, .inr (7, G7 wa)), ((wa 2), .inl (E 0, 400, .inl wf2))]) [0, 1, 2, 3, 4] (by decide) rfl
  refine aft_i (runMV (rest := []) (As := [.int p0, .int p1, .int 2]) hx hb hml hown htb hK (g_X8_markOn_W l D E xh xa xtrialRule xdropRule xtoday xf1 xf3 wh wa wf2 p0 p1 2 _ (by (try dsimp only); omega) hk0 hw0) ok_X8_markOn k_447 k_449 ks_4 k_1 k_450 ⟨(Nat.le_of_ble_eq_true rfl), (Nat.le_of_ble_eq_true rfl)⟩ ⟨(Nat.le_of_ble_eq_true rfl), (Nat.le_of_ble_eq_true rfl)⟩ hl.1 (Nat.le_of_ble_eq_true rfl) rfl rfl dX8_late_4 hPc hDc rfl rfl 0 rfl) hP hD hS hA [0, 1, 2, 3, 4] [] (wr := ([] : va_W)) rfl rfl (by decide) (by decide) (fun r_1 u_3 H locs hw_2 hP hD hS => ?_)
  clear hPc hDc
  have hP : va_P D vwCl [(xh, .inr (8, G8 xa xtrialRule xdropRule xtoday)), ((xa 1), .inl (E 0, 16, .inl xf1)), ((xa 3), .inl (E 3, 16, .inr (.inr (.inr (.inr xf3))))), (wh, .inr (7, G7 wa)), ((wa 2), .inl (E 0, 400, .inl u_3))] H := hP
  have hD := toW hP hD rfl
  try simp only [t_2] at hw_2
  have hP9 := hP.sub (ws' := [(xh, .inr (8, G8 xa xtrialRule xdropRule xtoday)), ((xa 1), .inl (E 0, 16, .inl xf1)), ((xa 3), .inl (E 3, 16, .inr (.inr (.inr (.inr xf3))))), (wh, .inr (7, G7 wa)), ((wa 2), .inl (E 0, 400, .inl u_3))]) [0, 1, 2, 3, 4] rfl
  have hD9 := hD.sub (ws' := [(xh, .inr (8, G8 xa xtrialRule xdropRule xtoday)), ((xa 1), .inl (E 0, 16, .inl xf1)), ((xa 3), .inl (E 3, 16, .inr (.inr (.inr (.inr xf3))))), (wh, .inr (7, G7 wa)), ((wa 2), .inl (E 0, 400, .inl u_3))]) [0, 1, 2, 3, 4] (by decide) rfl
  exact W.iret (v := r_1) hx hb hr (fun t ht hW => ⟨⟨r_1, u_3, rfl, hw_2, by rw [ht]; exact hP9, hD9⟩, hS.F ht⟩) hS.2.2 dX8_late_7
set_option maxHeartbeats 4000000 in
set_option maxRecDepth 100000 in
theorem g_X8_age_N (l : Launch) (D : va_G) (E : Nat → Nat) (xh : Nat) (xa : Nat → Nat) (xtrialRule : Nat) (xdropRule : Nat) (xtoday : Int32) (xf1 : Nat → Int32) (xf3 : Nat → Option Nat) (p0 : Int32) (p1 : Int32) (hi_x : (0 ≤ xtoday.toInt ∧ xtoday.toInt ≤ 399)) (hn0 : ¬ (0 ≤ p0.toInt ∧ p0.toInt ≤ 15 ∧ ((xf1 (p0).toNatClampNeg).toInt = 0 ∨ (xf1 (p0).toNatClampNeg).toInt = 1))) : Met l yX8_age (wl yX8_age cX8_age 4 (some .int)) (RM 2 0 0) (rd_P D E [.ref xh, .int p0, .int p1] [(xh, .inr (8, G8 xa xtrialRule xdropRule xtoday)), ((xa 1), .inl (E 0, 16, .inl xf1)), ((xa 3), .inl (E 3, 16, .inr (.inr (.inr (.inr xf3)))))]) (rd_Q (fun r => ((r.toInt = -1 ∧ ¬ ((0 ≤ p0.toInt ∧ p0.toInt ≤ 15) ∧ (0 ≤ p1.toInt ∧ p1.toInt ≤ 399))) ∨ (((0 ≤ p0.toInt ∧ p0.toInt ≤ 15) ∧ (0 ≤ p1.toInt ∧ p1.toInt ≤ 399)) ∧ (((xf1 (p0).toNatClampNeg).toInt = -5 ∧ r.toInt = -2) ∨ ((xf1 (p0).toNatClampNeg).toInt ≠ -5 ∧ r.toInt = -3)))))) 0 0 (fun _ => False) := by
  refine Met.ofW (cc := cX8_age) (maxL := 4) (ret := (some .int)) (by decide) rfl ?_
  intro p e s m args below meth c s₁ B hml hv
  obtain ⟨rfl, hP, hK⟩ := hv
  have hx := B.exec; have hb := B.bytes; have hr := B.returns
  have hts := atoms_spec (ws := wl yX8_age cX8_age 4 (some .int)) B.pre
  have htb : ∀ w ∈ tb, w.before _ s = true := fun w h => hts w (List.mem_cons_of_mem _ h)
  have hown : s.vm.findClass RX8 = some m.cls := findClass_of_methodNamed B.named
  have hlocks := B.notSynchronized
  have hP : va_P D vwCl [(xh, .inr (8, G8 xa xtrialRule xdropRule xtoday)), ((xa 1), .inl (E 0, 16, .inl xf1)), ((xa 3), .inl (E 3, 16, .inr (.inr (.inr (.inr xf3)))))] s.heap := hP
  have hl := lv_entry ([.ref xh, .int p0, .int p1]) (n := 4) (Nat.le_of_ble_eq_true rfl)
  rw [lg_entry_eq]
  generalize (lg_sl ([.ref xh, .int p0, .int p1]) ++ List.replicate (4 - (lg_sl ([.ref xh, .int p0, .int p1])).length) Slot.unset).toArray = ls at hl ⊢
  have hl : lv_has ls 4 [(0, .ref xh), (1, .int p0), (2, .int p1)] := hl
  have lo_p0 := i_lo p0; have hi_p0 := i_hi p0
  have lo_p1 := i_lo p1; have hi_p1 := i_hi p1
  refine lv_iload_n hx hb dX8_age_0 rfl (lv_at hl 1 rfl) ?_
  refine callRS (rest := []) (As := [.int p0]) hx hb hml hown htb hK (g_X8_isPlace l D E p0 ) ok_X8_isPlace k_333 k_334 k_1 k_335 ⟨(Nat.le_of_ble_eq_true rfl), (Nat.le_of_ble_eq_true rfl)⟩ ⟨(Nat.le_of_ble_eq_true rfl), (Nat.le_of_ble_eq_true rfl)⟩ hl.1 (Nat.le_of_ble_eq_true rfl) rfl rfl dX8_age_1 (hP.sub (ws' := ([] : va_W)) [] rfl) (fun r_1 hw_2 => ?_)
  rcases hw_2 with ⟨hr_1, hw_2⟩ | ⟨hr_1, hw_2⟩
  ·
    refine W_top (y := .int 1) (by rw [hr_1]) ?_
    refine lv_if_eq (tgt := 14) hx hb dX8_age_4 (by decide) (fun c_4 => absurd c_4 (by decide)) (fun c_4 => ?_)
    refine lv_iload_n hx hb dX8_age_7 rfl (lv_at hl 2 rfl) ?_
    refine callRS (rest := []) (As := [.int p1]) hx hb hml hown htb hK (g_X8_isDay l D E p1 ) ok_X8_isDay k_323 k_324 k_1 k_325 ⟨(Nat.le_of_ble_eq_true rfl), (Nat.le_of_ble_eq_true rfl)⟩ ⟨(Nat.le_of_ble_eq_true rfl), (Nat.le_of_ble_eq_true rfl)⟩ hl.1 (Nat.le_of_ble_eq_true rfl) rfl rfl dX8_age_8 (hP.sub (ws' := ([] : va_W)) [] rfl) (fun r_5 hw_6 => ?_)
    rcases hw_6 with ⟨hr_5, hw_6⟩ | ⟨hr_5, hw_6⟩
    ·
      refine W_top (y := .int 1) (by rw [hr_5]) ?_
      refine lv_if_ne (tgt := 16) hx hb dX8_age_11 (by decide) (fun c_8 => ?_) (fun c_8 => absurd c_8 (by decide))
      refine lv_aload_n hx hb dX8_age_16 rfl (lv_at hl 0 rfl) ?_
      refine lv_iload_n hx hb dX8_age_17 rfl (lv_at hl 1 rfl) ?_
      refine rn_call (runRV (rest := []) (As := [.int p0]) hx hb hml hown htb (g_X8_watchAt_N l D E xh xa xtrialRule xdropRule xtoday xf1 xf3 p0 (by (try dsimp only); omega) hn0) ok_X8_watchAt k_369 k_371 ks_1 k_1 k_372 ⟨(Nat.le_of_ble_eq_true rfl), (Nat.le_of_ble_eq_true rfl)⟩ ⟨(Nat.le_of_ble_eq_true rfl), (Nat.le_of_ble_eq_true rfl)⟩ hl.1 (Nat.le_of_ble_eq_true rfl) rfl rfl dX8_age_18 (prV (hP.sub (ws' := [(xh, .inr (8, G8 xa xtrialRule xdropRule xtoday)), ((xa 1), .inl (E 0, 16, .inl xf1)), ((xa 3), .inl (E 3, 16, .inr (.inr (.inr (.inr xf3)))))]) [0, 1, 2] rfl) hK rfl rfl 0 rfl)) ?_
      refine lv_astore_nN (lv' := [(3, .null), (0, .ref xh), (1, .int p0), (2, .int p1)]) hx hb dX8_age_21 rfl hl (by decide) rfl (fun ls hl => ?_)
      refine lv_aload_nN hx hb dX8_age_22 rfl (lv_at hl 0 rfl) ?_
      refine lv_ifnonnullN hx hb dX8_age_23 ?_
      refine lv_aload_n hx hb dX8_age_26 rfl (lv_at hl 1 rfl) ?_
      refine lv_iload_n hx hb dX8_age_27 rfl (lv_at hl 2 rfl) ?_
      refine callRV (rest := []) (As := [.int p0]) hx hb hml hown htb hK (g_X8_lackAt l D E xh xa xtrialRule xdropRule xtoday xf1 p0 (by (try dsimp only); omega)) ok_X8_lackAt k_396 k_398 ks_3 k_1 k_399 ⟨(Nat.le_of_ble_eq_true rfl), (Nat.le_of_ble_eq_true rfl)⟩ ⟨(Nat.le_of_ble_eq_true rfl), (Nat.le_of_ble_eq_true rfl)⟩ hl.1 (Nat.le_of_ble_eq_true rfl) rfl rfl dX8_age_28 (hP.sub (ws' := [(xh, .inr (8, G8 xa xtrialRule xdropRule xtoday)), ((xa 1), .inl (E 0, 16, .inl xf1))]) [0, 1] rfl) rfl rfl 0 rfl (fun r_12 hw_13 => ?_)
      refine lv_goto (tgt := 39) hx hb dX8_age_31 (by decide) ?_
      exact W.iret (v := r_12) hx hb hr (fun t ht hW => ⟨r_12, rfl, (by (try dsimp only); first | exact Or.inl ⟨by omega, by omega⟩ | exact Or.inr ⟨by omega, by omega⟩), ht⟩) (fun q h => by cases h) dX8_age_39
    ·
      refine W_top (y := .int 0) (by rw [hr_5]) ?_
      refine lv_if_ne (tgt := 16) hx hb dX8_age_11 (by decide) (fun c_15 => absurd (by decide) c_15) (fun c_15 => ?_)
      refine lv_iconst (v := (-1)) hx hb dX8_age_14 (by decide) ?_
      exact W.iret (v := (-1)) hx hb hr (fun t ht hW => ⟨(-1), rfl, (by have hl0 := t_m1; (try dsimp only); first | exact Or.inl ⟨by omega, by omega⟩ | exact Or.inr ⟨by omega, by omega⟩), ht⟩) (fun q h => by cases h) dX8_age_15
  ·
    refine W_top (y := .int 0) (by rw [hr_1]) ?_
    refine lv_if_eq (tgt := 14) hx hb dX8_age_4 (by decide) (fun c_16 => ?_) (fun c_16 => absurd (by decide) c_16)
    refine lv_iconst (v := (-1)) hx hb dX8_age_14 (by decide) ?_
    exact W.iret (v := (-1)) hx hb hr (fun t ht hW => ⟨(-1), rfl, (by have hl0 := t_m1; (try dsimp only); first | exact Or.inl ⟨by omega, by omega⟩ | exact Or.inr ⟨by omega, by omega⟩), ht⟩) (fun q h => by cases h) dX8_age_15
set_option maxHeartbeats 4000000 in
set_option maxRecDepth 100000 in
theorem g_X8_age_W (l : Launch) (D : va_G) (E : Nat → Nat) (xh : Nat) (xa : Nat → Nat) (xtrialRule : Nat) (xdropRule : Nat) (xtoday : Int32) (xf1 : Nat → Int32) (xf3 : Nat → Option Nat) (wh : Nat) (wa : Nat → Nat) (wf2 : Nat → Int32) (p0 : Int32) (p1 : Int32) (hi_x : (0 ≤ xtoday.toInt ∧ xtoday.toInt ≤ 399)) (hk0 : (0 ≤ p0.toInt ∧ p0.toInt ≤ 15 ∧ ((xf1 (p0).toNatClampNeg).toInt = 0 ∨ (xf1 (p0).toNatClampNeg).toInt = 1))) (hw0 : xf3 (p0).toNatClampNeg = some wh) : Met l yX8_age (wl yX8_age cX8_age 4 (some .int)) (RM 3 0 0) (rd_P D E [.ref xh, .int p0, .int p1] [(xh, .inr (8, G8 xa xtrialRule xdropRule xtoday)), ((xa 1), .inl (E 0, 16, .inl xf1)), ((xa 3), .inl (E 3, 16, .inr (.inr (.inr (.inr xf3))))), (wh, .inr (7, G7 wa)), ((wa 2), .inl (E 0, 400, .inl wf2))]) (rd_Q (fun r => ((¬ (0 ≤ p1.toInt ∧ p1.toInt ≤ 399) ∧ r.toInt = -1) ∨ ((0 ≤ p1.toInt ∧ p1.toInt ≤ 399) ∧ r.toInt = ageN wf2 (p1.toInt).toNat)))) 0 0 (fun _ => False) := by
  refine Met.ofW (cc := cX8_age) (maxL := 4) (ret := (some .int)) (by decide) rfl ?_
  intro p e s m args below meth c s₁ B hml hv
  obtain ⟨rfl, hP, hK⟩ := hv
  have hx := B.exec; have hb := B.bytes; have hr := B.returns
  have hts := atoms_spec (ws := wl yX8_age cX8_age 4 (some .int)) B.pre
  have htb : ∀ w ∈ tb, w.before _ s = true := fun w h => hts w (List.mem_cons_of_mem _ h)
  have hown : s.vm.findClass RX8 = some m.cls := findClass_of_methodNamed B.named
  have hlocks := B.notSynchronized
  have hP : va_P D vwCl [(xh, .inr (8, G8 xa xtrialRule xdropRule xtoday)), ((xa 1), .inl (E 0, 16, .inl xf1)), ((xa 3), .inl (E 3, 16, .inr (.inr (.inr (.inr xf3))))), (wh, .inr (7, G7 wa)), ((wa 2), .inl (E 0, 400, .inl wf2))] s.heap := hP
  have hl := lv_entry ([.ref xh, .int p0, .int p1]) (n := 4) (Nat.le_of_ble_eq_true rfl)
  rw [lg_entry_eq]
  generalize (lg_sl ([.ref xh, .int p0, .int p1]) ++ List.replicate (4 - (lg_sl ([.ref xh, .int p0, .int p1])).length) Slot.unset).toArray = ls at hl ⊢
  have hl : lv_has ls 4 [(0, .ref xh), (1, .int p0), (2, .int p1)] := hl
  have lo_p0 := i_lo p0; have hi_p0 := i_hi p0
  have lo_p1 := i_lo p1; have hi_p1 := i_hi p1
  refine lv_iload_n hx hb dX8_age_0 rfl (lv_at hl 1 rfl) ?_
  refine callRS (rest := []) (As := [.int p0]) hx hb hml hown htb hK (g_X8_isPlace l D E p0 ) ok_X8_isPlace k_333 k_334 k_1 k_335 ⟨(Nat.le_of_ble_eq_true rfl), (Nat.le_of_ble_eq_true rfl)⟩ ⟨(Nat.le_of_ble_eq_true rfl), (Nat.le_of_ble_eq_true rfl)⟩ hl.1 (Nat.le_of_ble_eq_true rfl) rfl rfl dX8_age_1 (hP.sub (ws' := ([] : va_W)) [] rfl) (fun r_1 hw_2 => ?_)
  rcases hw_2 with ⟨hr_1, hw_2⟩ | ⟨hr_1, hw_2⟩
  ·
    refine W_top (y := .int 1) (by rw [hr_1]) ?_
    refine lv_if_eq (tgt := 14) hx hb dX8_age_4 (by decide) (fun c_4 => absurd c_4 (by decide)) (fun c_4 => ?_)
    refine lv_iload_n hx hb dX8_age_7 rfl (lv_at hl 2 rfl) ?_
    refine callRS (rest := []) (As := [.int p1]) hx hb hml hown htb hK (g_X8_isDay l D E p1 ) ok_X8_isDay k_323 k_324 k_1 k_325 ⟨(Nat.le_of_ble_eq_true rfl), (Nat.le_of_ble_eq_true rfl)⟩ ⟨(Nat.le_of_ble_eq_true rfl), (Nat.le_of_ble_eq_true rfl)⟩ hl.1 (Nat.le_of_ble_eq_true rfl) rfl rfl dX8_age_8 (hP.sub (ws' := ([] : va_W)) [] rfl) (fun r_5 hw_6 => ?_)
    rcases hw_6 with ⟨hr_5, hw_6⟩ | ⟨hr_5, hw_6⟩
    ·
      refine W_top (y := .int 1) (by rw [hr_5]) ?_
      refine lv_if_ne (tgt := 16) hx hb dX8_age_11 (by decide) (fun c_8 => ?_) (fun c_8 => absurd c_8 (by decide))
      refine lv_aload_n hx hb dX8_age_16 rfl (lv_at hl 0 rfl) ?_
      refine lv_iload_n hx hb dX8_age_17 rfl (lv_at hl 1 rfl) ?_
      refine rr_call (runRV (rest := []) (As := [.int p0]) hx hb hml hown htb (g_X8_watchAt_W l D E xh xa xtrialRule xdropRule xtoday xf1 xf3 wh wa p0 (by (try dsimp only); omega) hk0 hw0) ok_X8_watchAt k_369 k_371 ks_1 k_1 k_372 ⟨(Nat.le_of_ble_eq_true rfl), (Nat.le_of_ble_eq_true rfl)⟩ ⟨(Nat.le_of_ble_eq_true rfl), (Nat.le_of_ble_eq_true rfl)⟩ hl.1 (Nat.le_of_ble_eq_true rfl) rfl rfl dX8_age_18 (prV (hP.sub (ws' := [(xh, .inr (8, G8 xa xtrialRule xdropRule xtoday)), ((xa 1), .inl (E 0, 16, .inl xf1)), ((xa 3), .inl (E 3, 16, .inr (.inr (.inr (.inr xf3))))), (wh, .inr (7, G7 wa))]) [0, 1, 2, 3] rfl) hK rfl rfl 0 rfl)) ?_
      refine lv_astore_n (lv' := [(3, .ref wh), (0, .ref xh), (1, .int p0), (2, .int p1)]) hx hb dX8_age_21 rfl hl (by decide) rfl (fun ls hl => ?_)
      refine lv_aload_n hx hb dX8_age_22 rfl (lv_at hl 0 rfl) ?_
      refine lv_ifnonnull (tgt := 34) hx hb dX8_age_23 (by decide) ?_
      refine lv_aload_n hx hb dX8_age_34 rfl (lv_at hl 0 rfl) ?_
      refine lv_iload_n hx hb dX8_age_35 rfl (lv_at hl 3 rfl) ?_
      refine callRV (rest := []) (As := [.int p1]) hx hb hml hown htb hK (g_X7_ageOn l D E wh wa wf2 p1 (by (try dsimp only); omega)) ok_X7_ageOn k_463 k_464 k_465 k_10 k_466 ⟨(Nat.le_of_ble_eq_true rfl), (Nat.le_of_ble_eq_true rfl)⟩ ⟨(Nat.le_of_ble_eq_true rfl), (Nat.le_of_ble_eq_true rfl)⟩ hl.1 (Nat.le_of_ble_eq_true rfl) rfl rfl dX8_age_36 (hP.sub (ws' := [(wh, .inr (7, G7 wa)), ((wa 2), .inl (E 0, 400, .inl wf2))]) [3, 4] rfl) rfl rfl 0 rfl (fun r_12 hw_13 => ?_)
      exact W.iret (v := r_12) hx hb hr (fun t ht hW => ⟨r_12, rfl, (by (try dsimp only); first | exact Or.inl ⟨by omega, by omega⟩ | exact Or.inr ⟨by omega, by assumption⟩), ht⟩) (fun q h => by cases h) dX8_age_39
    ·
      refine W_top (y := .int 0) (by rw [hr_5]) ?_
      refine lv_if_ne (tgt := 16) hx hb dX8_age_11 (by decide) (fun c_15 => absurd (by decide) c_15) (fun c_15 => ?_)
      refine lv_iconst (v := (-1)) hx hb dX8_age_14 (by decide) ?_
      exact W.iret (v := (-1)) hx hb hr (fun t ht hW => ⟨(-1), rfl, (by have hl0 := t_m1; (try dsimp only); first | exact Or.inl ⟨by omega, by omega⟩ | exact Or.inr ⟨by omega, by assumption⟩), ht⟩) (fun q h => by cases h) dX8_age_15
  ·
    refine W_top (y := .int 0) (by rw [hr_1]) ?_
    refine lv_if_eq (tgt := 14) hx hb dX8_age_4 (by decide) (fun c_16 => ?_) (fun c_16 => absurd (by decide) c_16)
    refine lv_iconst (v := (-1)) hx hb dX8_age_14 (by decide) ?_
    exact W.iret (v := (-1)) hx hb hr (fun t ht hW => ⟨(-1), rfl, (by have hl0 := t_m1; (try dsimp only); first | exact Or.inl ⟨by omega, by omega⟩ | exact Or.inr ⟨by omega, by assumption⟩), ht⟩) (fun q h => by cases h) dX8_age_15
set_option maxHeartbeats 4000000 in
set_option maxRecDepth 100000 in
theorem g_X8_changed_N (l : Launch) (D : va_G) (E : Nat → Nat) (xh : Nat) (xa : Nat → Nat) (xtrialRule : Nat) (xdropRule : Nat) (xtoday : Int32) (xf1 : Nat → Int32) (xf3 : Nat → Option Nat) (p0 : Int32) (p1 : Int32) (p2 : Int32) (p3 : Int32) (hi_x : (0 ≤ xtoday.toInt ∧ xtoday.toInt ≤ 399)) (hn0 : ¬ (0 ≤ p0.toInt ∧ p0.toInt ≤ 15 ∧ ((xf1 (p0).toNatClampNeg).toInt = 0 ∨ (xf1 (p0).toNatClampNeg).toInt = 1))) : Met l yX8_changed (wl yX8_changed cX8_changed 8 (some .int)) (RM 2 0 0) (rd_P D E [.ref xh, .int p0, .int p1, .int p2, .int p3] [(xh, .inr (8, G8 xa xtrialRule xdropRule xtoday)), ((xa 1), .inl (E 0, 16, .inl xf1)), ((xa 3), .inl (E 3, 16, .inr (.inr (.inr (.inr xf3)))))]) (rd_Q (fun r => ((r.toInt = -1 ∧ ¬ ((0 ≤ p0.toInt ∧ p0.toInt ≤ 15) ∧ ((0 ≤ p1.toInt ∧ p2.toInt ≤ 399 ∧ p1.toInt < p2.toInt ∧ p2.toInt - p1.toInt ≤ 60) ∧ (-1 ≤ p3.toInt ∧ p3.toInt ≤ 399)))) ∨ (((0 ≤ p0.toInt ∧ p0.toInt ≤ 15) ∧ ((0 ≤ p1.toInt ∧ p2.toInt ≤ 399 ∧ p1.toInt < p2.toInt ∧ p2.toInt - p1.toInt ≤ 60) ∧ (-1 ≤ p3.toInt ∧ p3.toInt ≤ 399))) ∧ (((xf1 (p0).toNatClampNeg).toInt = -5 ∧ r.toInt = -2) ∨ ((xf1 (p0).toNatClampNeg).toInt ≠ -5 ∧ r.toInt = -3)))))) 0 0 (fun _ => False) := by
  refine Met.ofW (cc := cX8_changed) (maxL := 8) (ret := (some .int)) (by decide) rfl ?_
  intro p e s m args below meth c s₁ B hml hv
  obtain ⟨rfl, hP, hK⟩ := hv
  have hx := B.exec; have hb := B.bytes; have hr := B.returns
  have hts := atoms_spec (ws := wl yX8_changed cX8_changed 8 (some .int)) B.pre
  have htb : ∀ w ∈ tb, w.before _ s = true := fun w h => hts w (List.mem_cons_of_mem _ h)
  have hown : s.vm.findClass RX8 = some m.cls := findClass_of_methodNamed B.named
  have hlocks := B.notSynchronized
  have hP : va_P D vwCl [(xh, .inr (8, G8 xa xtrialRule xdropRule xtoday)), ((xa 1), .inl (E 0, 16, .inl xf1)), ((xa 3), .inl (E 3, 16, .inr (.inr (.inr (.inr xf3)))))] s.heap := hP
  have hl := lv_entry ([.ref xh, .int p0, .int p1, .int p2, .int p3]) (n := 8) (Nat.le_of_ble_eq_true rfl)
  rw [lg_entry_eq]
  generalize (lg_sl ([.ref xh, .int p0, .int p1, .int p2, .int p3]) ++ List.replicate (8 - (lg_sl ([.ref xh, .int p0, .int p1, .int p2, .int p3])).length) Slot.unset).toArray = ls at hl ⊢
  have hl : lv_has ls 8 [(0, .ref xh), (1, .int p0), (2, .int p1), (3, .int p2), (4, .int p3)] := hl
  have lo_p0 := i_lo p0; have hi_p0 := i_hi p0
  have lo_p1 := i_lo p1; have hi_p1 := i_hi p1
  have lo_p2 := i_lo p2; have hi_p2 := i_hi p2
  have lo_p3 := i_lo p3; have hi_p3 := i_hi p3
  refine lv_iload_n hx hb dX8_changed_0 rfl (lv_at hl 1 rfl) ?_
  refine callRS (rest := []) (As := [.int p0]) hx hb hml hown htb hK (g_X8_isPlace l D E p0 ) ok_X8_isPlace k_333 k_334 k_1 k_335 ⟨(Nat.le_of_ble_eq_true rfl), (Nat.le_of_ble_eq_true rfl)⟩ ⟨(Nat.le_of_ble_eq_true rfl), (Nat.le_of_ble_eq_true rfl)⟩ hl.1 (Nat.le_of_ble_eq_true rfl) rfl rfl dX8_changed_1 (hP.sub (ws' := ([] : va_W)) [] rfl) (fun r_1 hw_2 => ?_)
  rcases hw_2 with ⟨hr_1, hw_2⟩ | ⟨hr_1, hw_2⟩
  ·
    refine W_top (y := .int 1) (by rw [hr_1]) ?_
    refine lv_if_eq (tgt := 23) hx hb dX8_changed_4 (by decide) (fun c_4 => absurd c_4 (by decide)) (fun c_4 => ?_)
    refine lv_iload_n hx hb dX8_changed_7 rfl (lv_at hl 2 rfl) ?_
    refine lv_iload_n hx hb dX8_changed_8 rfl (lv_at hl 3 rfl) ?_
    refine callRS (rest := []) (As := [.int p1, .int p2]) hx hb hml hown htb hK (g_X8_isStretch l D E p1 p2 ) ok_X8_isStretch k_479 k_480 k_1 k_481 ⟨(Nat.le_of_ble_eq_true rfl), (Nat.le_of_ble_eq_true rfl)⟩ ⟨(Nat.le_of_ble_eq_true rfl), (Nat.le_of_ble_eq_true rfl)⟩ hl.1 (Nat.le_of_ble_eq_true rfl) rfl rfl dX8_changed_9 (hP.sub (ws' := ([] : va_W)) [] rfl) (fun r_5 hw_6 => ?_)
    rcases hw_6 with ⟨hr_5, hw_6⟩ | ⟨hr_5, hw_6⟩
    ·
      refine W_top (y := .int 1) (by rw [hr_5]) ?_
      refine lv_if_eq (tgt := 23) hx hb dX8_changed_12 (by decide) (fun c_8 => absurd c_8 (by decide)) (fun c_8 => ?_)
      refine lv_iload hx hb dX8_changed_15 (lv_at hl 4 rfl) ?_
      refine callRS (rest := []) (As := [.int p3]) hx hb hml hown htb hK (g_X8_isKnowledge l D E p3 ) ok_X8_isKnowledge k_412 k_413 k_1 k_414 ⟨(Nat.le_of_ble_eq_true rfl), (Nat.le_of_ble_eq_true rfl)⟩ ⟨(Nat.le_of_ble_eq_true rfl), (Nat.le_of_ble_eq_true rfl)⟩ hl.1 (Nat.le_of_ble_eq_true rfl) rfl rfl dX8_changed_17 (hP.sub (ws' := ([] : va_W)) [] rfl) (fun r_9 hw_10 => ?_)
      rcases hw_10 with ⟨hr_9, hw_10⟩ | ⟨hr_9, hw_10⟩
      ·
        refine W_top (y := .int 1) (by rw [hr_9]) ?_
        refine lv_if_ne (tgt := 25) hx hb dX8_changed_20 (by decide) (fun c_12 => ?_) (fun c_12 => absurd c_12 (by decide))
        refine lv_aload_n hx hb dX8_changed_25 rfl (lv_at hl 0 rfl) ?_
        refine lv_iload_n hx hb dX8_changed_26 rfl (lv_at hl 1 rfl) ?_
        refine rn_call (runRV (rest := []) (As := [.int p0]) hx hb hml hown htb (g_X8_watchAt_N l D E xh xa xtrialRule xdropRule xtoday xf1 xf3 p0 (by (try dsimp only); omega) hn0) ok_X8_watchAt k_369 k_371 ks_1 k_1 k_372 ⟨(Nat.le_of_ble_eq_true rfl), (Nat.le_of_ble_eq_true rfl)⟩ ⟨(Nat.le_of_ble_eq_true rfl), (Nat.le_of_ble_eq_true rfl)⟩ hl.1 (Nat.le_of_ble_eq_true rfl) rfl rfl dX8_changed_27 (prV (hP.sub (ws' := [(xh, .inr (8, G8 xa xtrialRule xdropRule xtoday)), ((xa 1), .inl (E 0, 16, .inl xf1)), ((xa 3), .inl (E 3, 16, .inr (.inr (.inr (.inr xf3)))))]) [0, 1, 2] rfl) hK rfl rfl 0 rfl)) ?_
        refine lv_astoreN (lv' := [(5, .null), (0, .ref xh), (1, .int p0), (2, .int p1), (3, .int p2), (4, .int p3)]) hx hb dX8_changed_30 hl (by decide) rfl (fun ls hl => ?_)
        refine lv_aloadN hx hb dX8_changed_32 (lv_at hl 0 rfl) ?_
        refine lv_ifnonnullN hx hb dX8_changed_34 ?_
        refine lv_aload_n hx hb dX8_changed_37 rfl (lv_at hl 1 rfl) ?_
        refine lv_iload_n hx hb dX8_changed_38 rfl (lv_at hl 2 rfl) ?_
        refine callRV (rest := []) (As := [.int p0]) hx hb hml hown htb hK (g_X8_lackAt l D E xh xa xtrialRule xdropRule xtoday xf1 p0 (by (try dsimp only); omega)) ok_X8_lackAt k_396 k_398 ks_3 k_1 k_399 ⟨(Nat.le_of_ble_eq_true rfl), (Nat.le_of_ble_eq_true rfl)⟩ ⟨(Nat.le_of_ble_eq_true rfl), (Nat.le_of_ble_eq_true rfl)⟩ hl.1 (Nat.le_of_ble_eq_true rfl) rfl rfl dX8_changed_39 (hP.sub (ws' := [(xh, .inr (8, G8 xa xtrialRule xdropRule xtoday)), ((xa 1), .inl (E 0, 16, .inl xf1))]) [0, 1] rfl) rfl rfl 0 rfl (fun r_16 hw_17 => ?_)
        exact W.iret (v := r_16) hx hb hr (fun t ht hW => ⟨r_16, rfl, (by (try dsimp only); first | exact Or.inl ⟨by omega, by omega⟩ | exact Or.inr ⟨by omega, by omega⟩), ht⟩) (fun q h => by cases h) dX8_changed_42
      ·
        refine W_top (y := .int 0) (by rw [hr_9]) ?_
        refine lv_if_ne (tgt := 25) hx hb dX8_changed_20 (by decide) (fun c_19 => absurd (by decide) c_19) (fun c_19 => ?_)
        refine lv_iconst (v := (-1)) hx hb dX8_changed_23 (by decide) ?_
        exact W.iret (v := (-1)) hx hb hr (fun t ht hW => ⟨(-1), rfl, (by have hl0 := t_m1; (try dsimp only); first | exact Or.inl ⟨by omega, by omega⟩ | exact Or.inr ⟨by omega, by omega⟩), ht⟩) (fun q h => by cases h) dX8_changed_24
    ·
      refine W_top (y := .int 0) (by rw [hr_5]) ?_
      refine lv_if_eq (tgt := 23) hx hb dX8_changed_12 (by decide) (fun c_20 => ?_) (fun c_20 => absurd (by decide) c_20)
      refine lv_iconst (v := (-1)) hx hb dX8_changed_23 (by decide) ?_
      exact W.iret (v := (-1)) hx hb hr (fun t ht hW => ⟨(-1), rfl, (by have hl0 := t_m1; (try dsimp only); first | exact Or.inl ⟨by omega, by omega⟩ | exact Or.inr ⟨by omega, by omega⟩), ht⟩) (fun q h => by cases h) dX8_changed_24
  ·
    refine W_top (y := .int 0) (by rw [hr_1]) ?_
    refine lv_if_eq (tgt := 23) hx hb dX8_changed_4 (by decide) (fun c_21 => ?_) (fun c_21 => absurd (by decide) c_21)
    refine lv_iconst (v := (-1)) hx hb dX8_changed_23 (by decide) ?_
    exact W.iret (v := (-1)) hx hb hr (fun t ht hW => ⟨(-1), rfl, (by have hl0 := t_m1; (try dsimp only); first | exact Or.inl ⟨by omega, by omega⟩ | exact Or.inr ⟨by omega, by omega⟩), ht⟩) (fun q h => by cases h) dX8_changed_24
set_option maxHeartbeats 4000000 in
set_option maxRecDepth 100000 in
theorem g_X8_changed_W (l : Launch) (D : va_G) (E : Nat → Nat) (xh : Nat) (xa : Nat → Nat) (xtrialRule : Nat) (xdropRule : Nat) (xtoday : Int32) (xf1 : Nat → Int32) (xf3 : Nat → Option Nat) (wh : Nat) (wa : Nat → Nat) (wf0 : Nat → Int32) (wf1 : Nat → Int32) (wf2 : Nat → Int32) (oa : Nat → Nat) (osize : Int32) (of0 : Nat → Int32) (of1 : Nat → Int32) (of2 : Nat → Int32) (of3 : Nat → Int32) (of4 : Nat → Int32) (p0 : Int32) (p1 : Int32) (p2 : Int32) (p3 : Int32) (hi_x : (0 ≤ xtoday.toInt ∧ xtoday.toInt ≤ 399)) (hi_o : (0 ≤ osize.toInt ∧ osize.toInt ≤ 60)) (hk0 : (0 ≤ p0.toInt ∧ p0.toInt ≤ 15 ∧ ((xf1 (p0).toNatClampNeg).toInt = 0 ∨ (xf1 (p0).toNatClampNeg).toInt = 1))) (hw0 : xf3 (p0).toNatClampNeg = some wh) : Met l yX8_changed (wl yX8_changed cX8_changed 8 (some .int)) (RM 4 0 0) (rd_P D E [.ref xh, .int p0, .int p1, .int p2, .int p3] [(xh, .inr (8, G8 xa xtrialRule xdropRule xtoday)), ((xa 1), .inl (E 0, 16, .inl xf1)), ((xa 3), .inl (E 3, 16, .inr (.inr (.inr (.inr xf3))))), (wh, .inr (7, G7 wa)), ((wa 0), .inl (E 0, 400, .inl wf0)), ((wa 1), .inl (E 0, 400, .inl wf1)), ((wa 2), .inl (E 0, 400, .inl wf2)), ((xa 6), .inr (2, G2 oa osize)), ((oa 0), .inl (E 0, 60, .inl of0)), ((oa 1), .inl (E 0, 60, .inl of1)), ((oa 2), .inl (E 0, 60, .inl of2)), ((oa 3), .inl (E 0, 60, .inl of3)), ((oa 4), .inl (E 0, 60, .inl of4))]) (rd_Q (fun r => ((¬ ((0 ≤ p1.toInt ∧ p2.toInt ≤ 399 ∧ p1.toInt < p2.toInt ∧ p2.toInt - p1.toInt ≤ 60) ∧ (-1 ≤ p3.toInt ∧ p3.toInt ≤ 399)) ∧ r.toInt = -1) ∨ (((0 ≤ p1.toInt ∧ p2.toInt ≤ 399 ∧ p1.toInt < p2.toInt ∧ p2.toInt - p1.toInt ≤ 60) ∧ (-1 ≤ p3.toInt ∧ p3.toInt ≤ 399)) ∧ r.toInt = chN (fun d => rX wf0 wf1 wf2 of0 of1 of2 of3 of4 osize d p3) (fun d => rX wf0 wf1 wf2 of0 of1 of2 of3 of4 osize d (-1)) p1 (p2.toInt - p1.toInt).toNat)))) 0 0 (fun _ => False) := by
  refine Met.ofW (cc := cX8_changed) (maxL := 8) (ret := (some .int)) (by decide) rfl ?_
  intro p e s m args below meth c s₁ B hml hv
  obtain ⟨rfl, hP, hK⟩ := hv
  have hx := B.exec; have hb := B.bytes; have hr := B.returns
  have hts := atoms_spec (ws := wl yX8_changed cX8_changed 8 (some .int)) B.pre
  have htb : ∀ w ∈ tb, w.before _ s = true := fun w h => hts w (List.mem_cons_of_mem _ h)
  have hown : s.vm.findClass RX8 = some m.cls := findClass_of_methodNamed B.named
  have hlocks := B.notSynchronized
  have hP : va_P D vwCl [(xh, .inr (8, G8 xa xtrialRule xdropRule xtoday)), ((xa 1), .inl (E 0, 16, .inl xf1)), ((xa 3), .inl (E 3, 16, .inr (.inr (.inr (.inr xf3))))), (wh, .inr (7, G7 wa)), ((wa 0), .inl (E 0, 400, .inl wf0)), ((wa 1), .inl (E 0, 400, .inl wf1)), ((wa 2), .inl (E 0, 400, .inl wf2)), ((xa 6), .inr (2, G2 oa osize)), ((oa 0), .inl (E 0, 60, .inl of0)), ((oa 1), .inl (E 0, 60, .inl of1)), ((oa 2), .inl (E 0, 60, .inl of2)), ((oa 3), .inl (E 0, 60, .inl of3)), ((oa 4), .inl (E 0, 60, .inl of4))] s.heap := hP
  have hl := lv_entry ([.ref xh, .int p0, .int p1, .int p2, .int p3]) (n := 8) (Nat.le_of_ble_eq_true rfl)
  rw [lg_entry_eq]
  generalize (lg_sl ([.ref xh, .int p0, .int p1, .int p2, .int p3]) ++ List.replicate (8 - (lg_sl ([.ref xh, .int p0, .int p1, .int p2, .int p3])).length) Slot.unset).toArray = ls at hl ⊢
  have hl : lv_has ls 8 [(0, .ref xh), (1, .int p0), (2, .int p1), (3, .int p2), (4, .int p3)] := hl
  have lo_p0 := i_lo p0; have hi_p0 := i_hi p0
  have lo_p1 := i_lo p1; have hi_p1 := i_hi p1
  have lo_p2 := i_lo p2; have hi_p2 := i_hi p2
  have lo_p3 := i_lo p3; have hi_p3 := i_hi p3
  refine lv_iload_n hx hb dX8_changed_0 rfl (lv_at hl 1 rfl) ?_
  refine callRS (rest := []) (As := [.int p0]) hx hb hml hown htb hK (g_X8_isPlace l D E p0 ) ok_X8_isPlace k_333 k_334 k_1 k_335 ⟨(Nat.le_of_ble_eq_true rfl), (Nat.le_of_ble_eq_true rfl)⟩ ⟨(Nat.le_of_ble_eq_true rfl), (Nat.le_of_ble_eq_true rfl)⟩ hl.1 (Nat.le_of_ble_eq_true rfl) rfl rfl dX8_changed_1 (hP.sub (ws' := ([] : va_W)) [] rfl) (fun r_1 hw_2 => ?_)
  rcases hw_2 with ⟨hr_1, hw_2⟩ | ⟨hr_1, hw_2⟩
  ·
    refine W_top (y := .int 1) (by rw [hr_1]) ?_
    refine lv_if_eq (tgt := 23) hx hb dX8_changed_4 (by decide) (fun c_4 => absurd c_4 (by decide)) (fun c_4 => ?_)
    refine lv_iload_n hx hb dX8_changed_7 rfl (lv_at hl 2 rfl) ?_
    refine lv_iload_n hx hb dX8_changed_8 rfl (lv_at hl 3 rfl) ?_
    refine callRS (rest := []) (As := [.int p1, .int p2]) hx hb hml hown htb hK (g_X8_isStretch l D E p1 p2 ) ok_X8_isStretch k_479 k_480 k_1 k_481 ⟨(Nat.le_of_ble_eq_true rfl), (Nat.le_of_ble_eq_true rfl)⟩ ⟨(Nat.le_of_ble_eq_true rfl), (Nat.le_of_ble_eq_true rfl)⟩ hl.1 (Nat.le_of_ble_eq_true rfl) rfl rfl dX8_changed_9 (hP.sub (ws' := ([] : va_W)) [] rfl) (fun r_5 hw_6 => ?_)
    rcases hw_6 with ⟨hr_5, hw_6⟩ | ⟨hr_5, hw_6⟩
    ·
      refine W_top (y := .int 1) (by rw [hr_5]) ?_
      refine lv_if_eq (tgt := 23) hx hb dX8_changed_12 (by decide) (fun c_8 => absurd c_8 (by decide)) (fun c_8 => ?_)
      refine lv_iload hx hb dX8_changed_15 (lv_at hl 4 rfl) ?_
      refine callRS (rest := []) (As := [.int p3]) hx hb hml hown htb hK (g_X8_isKnowledge l D E p3 ) ok_X8_isKnowledge k_412 k_413 k_1 k_414 ⟨(Nat.le_of_ble_eq_true rfl), (Nat.le_of_ble_eq_true rfl)⟩ ⟨(Nat.le_of_ble_eq_true rfl), (Nat.le_of_ble_eq_true rfl)⟩ hl.1 (Nat.le_of_ble_eq_true rfl) rfl rfl dX8_changed_17 (hP.sub (ws' := ([] : va_W)) [] rfl) (fun r_9 hw_10 => ?_)
      rcases hw_10 with ⟨hr_9, hw_10⟩ | ⟨hr_9, hw_10⟩
      ·
        refine W_top (y := .int 1) (by rw [hr_9]) ?_
        refine lv_if_ne (tgt := 25) hx hb dX8_changed_20 (by decide) (fun c_12 => ?_) (fun c_12 => absurd c_12 (by decide))
        refine lv_aload_n hx hb dX8_changed_25 rfl (lv_at hl 0 rfl) ?_
        refine lv_iload_n hx hb dX8_changed_26 rfl (lv_at hl 1 rfl) ?_
        refine rr_call (runRV (rest := []) (As := [.int p0]) hx hb hml hown htb (g_X8_watchAt_W l D E xh xa xtrialRule xdropRule xtoday xf1 xf3 wh wa p0 (by (try dsimp only); omega) hk0 hw0) ok_X8_watchAt k_369 k_371 ks_1 k_1 k_372 ⟨(Nat.le_of_ble_eq_true rfl), (Nat.le_of_ble_eq_true rfl)⟩ ⟨(Nat.le_of_ble_eq_true rfl), (Nat.le_of_ble_eq_true rfl)⟩ hl.1 (Nat.le_of_ble_eq_true rfl) rfl rfl dX8_changed_27 (prV (hP.sub (ws' := [(xh, .inr (8, G8 xa xtrialRule xdropRule xtoday)), ((xa 1), .inl (E 0, 16, .inl xf1)), ((xa 3), .inl (E 3, 16, .inr (.inr (.inr (.inr xf3))))), (wh, .inr (7, G7 wa))]) [0, 1, 2, 3] rfl) hK rfl rfl 0 rfl)) ?_
        refine lv_astore (lv' := [(5, .ref wh), (0, .ref xh), (1, .int p0), (2, .int p1), (3, .int p2), (4, .int p3)]) hx hb dX8_changed_30 hl (by decide) rfl (fun ls hl => ?_)
        refine lv_aload hx hb dX8_changed_32 (lv_at hl 0 rfl) ?_
        refine lv_ifnonnull (tgt := 43) hx hb dX8_changed_34 (by decide) ?_
        refine lv_iconst (v := 0) hx hb dX8_changed_43 (by decide) ?_
        refine lv_istore (lv' := [(6, .int 0), (5, .ref wh), (0, .ref xh), (1, .int p0), (2, .int p1), (3, .int p2), (4, .int p3)]) hx hb dX8_changed_44 hl (by decide) rfl (fun ls hl => ?_)
        refine lv_iload_n hx hb dX8_changed_46 rfl (lv_at hl 4 rfl) ?_
        refine lv_istore (lv' := [(7, .int p1), (6, .int 0), (5, .ref wh), (0, .ref xh), (1, .int p0), (2, .int p1), (3, .int p2), (4, .int p3)]) hx hb dX8_changed_47 hl (by decide) rfl (fun ls hl => ?_)
        have loop_16 : ∀ (N_18 : Nat) (L7_49 : Int32) (L6_49 : Int32)  (ls : Array Slot), p2.toInt - L7_49.toInt < (N_18 : Int) → (p1.toInt ≤ L7_49.toInt ∧ L7_49.toInt ≤ p2.toInt ∧ 0 ≤ L6_49.toInt ∧ L6_49.toInt ≤ L7_49.toInt - p1.toInt) → (L6_49.toInt = chN (fun d => rX wf0 wf1 wf2 of0 of1 of2 of3 of4 osize d p3) (fun d => rX wf0 wf1 wf2 of0 of1 of2 of3 of4 osize d (-1)) p1 (L7_49.toInt - p1.toInt).toNat) → lv_has ls 8 [(7, .int L7_49), (6, .int L6_49), (5, .ref wh), (0, .ref xh), (1, .int p0), (2, .int p1), (3, .int p2), (4, .int p3)] → W p l e (headSpec (wl yX8_changed cX8_changed 8 (some .int)) (RM 4 0 0)).room s m [Value.ref xh, .int p0, .int p1, .int p2, .int p3].toArray below meth c s.heap [] 0 0 (MQ below (rd_Q (fun r => ((¬ ((0 ≤ p1.toInt ∧ p2.toInt ≤ 399 ∧ p1.toInt < p2.toInt ∧ p2.toInt - p1.toInt ≤ 60) ∧ (-1 ≤ p3.toInt ∧ p3.toInt ≤ 399)) ∧ r.toInt = -1) ∨ (((0 ≤ p1.toInt ∧ p2.toInt ≤ 399 ∧ p1.toInt < p2.toInt ∧ p2.toInt - p1.toInt ≤ 60) ∧ (-1 ≤ p3.toInt ∧ p3.toInt ≤ 399)) ∧ r.toInt = chN (fun d => rX wf0 wf1 wf2 of0 of1 of2 of3 of4 osize d p3) (fun d => rX wf0 wf1 wf2 of0 of1 of2 of3 of4 osize d (-1)) p1 (p2.toInt - p1.toInt).toNat)))) [Value.ref xh, .int p0, .int p1, .int p2, .int p3].toArray s 0 0 (fun _ => False)) (F0 m 49 ls []) := by
          intro N_18
          induction N_18 with
          | zero => intro L7_49 L6_49  ls hm v0_49 v1_49 _; exfalso; omega
          | succ N_18 ih_17 =>
            intro L7_49 L6_49 ls hm v0_49 v1_49 hl
            have lo_L7_49 := i_lo L7_49; have hi_L7_49 := i_hi L7_49
            have lo_L6_49 := i_lo L6_49; have hi_L6_49 := i_hi L6_49
            refine lv_iload hx hb dX8_changed_49 (lv_at hl 0 rfl) ?_
            refine lv_iload_n hx hb dX8_changed_51 rfl (lv_at hl 6 rfl) ?_
            refine lv_icmp_ge (tgt := 92) hx hb dX8_changed_52 (by decide) (fun c_19 => ?_) (fun c_19 => ?_)
            ·
              have ic_19 : p2.toInt ≤ L7_49.toInt := by first | exact (g_le rfl rfl).mp c_19 | (have h := mt (g_lt rfl rfl).mpr c_19; omega)
              clear c_19
              refine lv_iload hx hb dX8_changed_92 (lv_at hl 1 rfl) ?_
              exact W.iret (v := L6_49) hx hb hr (fun t ht hW => ⟨L6_49, rfl, (by (try dsimp only); first | exact Or.inl ⟨by omega, by omega⟩ | exact Or.inr ⟨by omega, by rw [show (p2.toInt - p1.toInt).toNat = (L7_49.toInt - p1.toInt).toNat by omega]; assumption⟩), ht⟩) (fun q h => by cases h) dX8_changed_94
            ·
              have ic_19 : L7_49.toInt < p2.toInt := by first | exact (g_lt rfl rfl).mp c_19 | (have h := mt (g_le rfl rfl).mpr c_19; omega)
              clear c_19
              refine lv_aload hx hb dX8_changed_55 (lv_at hl 2 rfl) ?_
              refine lv_iload hx hb dX8_changed_57 (lv_at hl 0 rfl) ?_
              refine lv_aload_n hx hb dX8_changed_59 rfl (lv_at hl 3 rfl) ?_
              refine va_get (D := D) (ci := 8) (v := .ref (xa 6)) (C := RX8) (T := TX8) (N := 14) hx hb htb iX8 hown hK.1 hP 0 rfl rfl 6 (by decide) (htb _ k_278) (fun _ h9 => h9) rfl dX8_changed_60 ?_
              refine lv_iload hx hb dX8_changed_63 (lv_at hl 7 rfl) ?_
              refine callRV (rest := []) (As := [.int L7_49, .ref (xa 6), .int p3]) hx hb hml hown htb hK (g_X7_rateAsKnown l D E wh wa wf0 wf1 wf2 (xa 6) oa osize of0 of1 of2 of3 of4 L7_49 p3 (by (try dsimp only); omega) (by (try dsimp only); omega)) ok_X7_rateAsKnown k_429 k_430 k_431 k_10 k_432 ⟨(Nat.le_of_ble_eq_true rfl), (Nat.le_of_ble_eq_true rfl)⟩ ⟨(Nat.le_of_ble_eq_true rfl), (Nat.le_of_ble_eq_true rfl)⟩ hl.1 (Nat.le_of_ble_eq_true rfl) rfl rfl dX8_changed_65 (hP.sub (ws' := [(wh, .inr (7, G7 wa)), ((wa 0), .inl (E 0, 400, .inl wf0)), ((wa 1), .inl (E 0, 400, .inl wf1)), ((wa 2), .inl (E 0, 400, .inl wf2)), ((xa 6), .inr (2, G2 oa osize)), ((oa 0), .inl (E 0, 60, .inl of0)), ((oa 1), .inl (E 0, 60, .inl of1)), ((oa 2), .inl (E 0, 60, .inl of2)), ((oa 3), .inl (E 0, 60, .inl of3)), ((oa 4), .inl (E 0, 60, .inl of4))]) [3, 4, 5, 6, 7, 8, 9, 10, 11, 12] rfl) rfl rfl 0 rfl (fun r_20 hw_21 => ?_)
              refine lv_aload hx hb dX8_changed_68 (lv_at hl 2 rfl) ?_
              refine lv_iload hx hb dX8_changed_70 (lv_at hl 0 rfl) ?_
              refine lv_aload_n hx hb dX8_changed_72 rfl (lv_at hl 3 rfl) ?_
              refine va_get (D := D) (ci := 8) (v := .ref (xa 6)) (C := RX8) (T := TX8) (N := 14) hx hb htb iX8 hown hK.1 hP 0 rfl rfl 6 (by decide) (htb _ k_278) (fun _ h9 => h9) rfl dX8_changed_73 ?_
              refine lv_iconst (v := (-1)) hx hb dX8_changed_76 (by decide) ?_
              refine callRV (rest := [.int r_20]) (As := [.int L7_49, .ref (xa 6), .int (-1)]) hx hb hml hown htb hK (g_X7_rateAsKnown l D E wh wa wf0 wf1 wf2 (xa 6) oa osize of0 of1 of2 of3 of4 L7_49 (-1) (by (try dsimp only); omega) (by have h0 := t_m1; (try dsimp only); omega)) ok_X7_rateAsKnown k_429 k_430 k_431 k_10 k_432 ⟨(Nat.le_of_ble_eq_true rfl), (Nat.le_of_ble_eq_true rfl)⟩ ⟨(Nat.le_of_ble_eq_true rfl), (Nat.le_of_ble_eq_true rfl)⟩ hl.1 (Nat.le_of_ble_eq_true rfl) rfl rfl dX8_changed_77 (hP.sub (ws' := [(wh, .inr (7, G7 wa)), ((wa 0), .inl (E 0, 400, .inl wf0)), ((wa 1), .inl (E 0, 400, .inl wf1)), ((wa 2), .inl (E 0, 400, .inl wf2)), ((xa 6), .inr (2, G2 oa osize)), ((oa 0), .inl (E 0, 60, .inl of0)), ((oa 1), .inl (E 0, 60, .inl of1)), ((oa 2), .inl (E 0, 60, .inl of2)), ((oa 3), .inl (E 0, 60, .inl of3)), ((oa 4), .inl (E 0, 60, .inl of4))]) [3, 4, 5, 6, 7, 8, 9, 10, 11, 12] rfl) rfl rfl 0 rfl (fun r_23 hw_24 => ?_)
              try simp only [t_m1] at hw_24
              refine lv_icmp_eq (tgt := 86) hx hb dX8_changed_80 (by decide) (fun c_26 => ?_) (fun c_26 => ?_)
              ·
                have ic_26 : r_20.toInt = r_23.toInt := (g_eq rfl rfl).mp c_26
                clear c_26
                obtain ⟨z_27, ez_27⟩ : ∃ y : Int32, y = L7_49 + 1 := ⟨_, rfl⟩
                have jz_27 : z_27.toInt = L7_49.toInt + 1 := by rw [ez_27]; exact g_add rfl t_1 (by omega) (by omega)
                refine lv_iinc (v := z_27) (lv' := [(7, .int z_27), (6, .int L6_49), (5, .ref wh), (0, .ref xh), (1, .int p0), (2, .int p1), (3, .int p2), (4, .int p3)]) hx hb dX8_changed_86 hl (k := 0) rfl (by rw [ez_27]; rfl) (by decide) rfl (fun ls hl => ?_)
                refine lv_goto (tgt := 49) hx hb dX8_changed_89 (by decide) ?_
                exact ih_17 z_27 L6_49 _ (by (try dsimp only); omega) (by (try dsimp only); omega) (by have hs := chN_step (A := (fun d => rX wf0 wf1 wf2 of0 of1 of2 of3 of4 osize d p3)) (B := (fun d => rX wf0 wf1 wf2 of0 of1 of2 of3 of4 osize d (-1))) (p := p1) (L := L7_49) (z := z_27) (by omega) (by omega) jz_27; rw [hs]; simp only [← hw_21, ← hw_24]; split <;> omega) (lv_sub hl [0, 1, 2, 3, 4, 5, 6, 7] rfl)
              ·
                have ic_26 : r_20.toInt ≠ r_23.toInt := mt (g_eq rfl rfl).mpr c_26
                clear c_26
                obtain ⟨z_28, ez_28⟩ : ∃ y : Int32, y = L6_49 + 1 := ⟨_, rfl⟩
                have jz_28 : z_28.toInt = L6_49.toInt + 1 := by rw [ez_28]; exact g_add rfl t_1 (by omega) (by omega)
                refine lv_iinc (v := z_28) (lv' := [(6, .int z_28), (7, .int L7_49), (5, .ref wh), (0, .ref xh), (1, .int p0), (2, .int p1), (3, .int p2), (4, .int p3)]) hx hb dX8_changed_83 hl (k := 1) rfl (by rw [ez_28]; rfl) (by decide) rfl (fun ls hl => ?_)
                obtain ⟨z_29, ez_29⟩ : ∃ y : Int32, y = L7_49 + 1 := ⟨_, rfl⟩
                have jz_29 : z_29.toInt = L7_49.toInt + 1 := by rw [ez_29]; exact g_add rfl t_1 (by omega) (by omega)
                refine lv_iinc (v := z_29) (lv' := [(7, .int z_29), (6, .int z_28), (5, .ref wh), (0, .ref xh), (1, .int p0), (2, .int p1), (3, .int p2), (4, .int p3)]) hx hb dX8_changed_86 hl (k := 1) rfl (by rw [ez_29]; rfl) (by decide) rfl (fun ls hl => ?_)
                refine lv_goto (tgt := 49) hx hb dX8_changed_89 (by decide) ?_
                exact ih_17 z_29 z_28 _ (by (try dsimp only); omega) (by (try dsimp only); omega) (by have hs := chN_step (A := (fun d => rX wf0 wf1 wf2 of0 of1 of2 of3 of4 osize d p3)) (B := (fun d => rX wf0 wf1 wf2 of0 of1 of2 of3 of4 osize d (-1))) (p := p1) (L := L7_49) (z := z_29) (by omega) (by omega) jz_29; rw [hs]; simp only [← hw_21, ← hw_24]; split <;> omega) (lv_sub hl [0, 1, 2, 3, 4, 5, 6, 7] rfl)
        exact loop_16 400 p1 0 _ (by have h0 := t_0; (try dsimp only); omega) (by have h0 := t_0; (try dsimp only); omega) (by have h0 := t_0; rw [show (p1.toInt - p1.toInt).toNat = 0 by omega, h0]; rfl)  (lv_sub hl [0, 1, 2, 3, 4, 5, 6, 7] rfl)
      ·
        refine W_top (y := .int 0) (by rw [hr_9]) ?_
        refine lv_if_ne (tgt := 25) hx hb dX8_changed_20 (by decide) (fun c_30 => absurd (by decide) c_30) (fun c_30 => ?_)
        refine lv_iconst (v := (-1)) hx hb dX8_changed_23 (by decide) ?_
        exact W.iret (v := (-1)) hx hb hr (fun t ht hW => ⟨(-1), rfl, (by have hl0 := t_m1; (try dsimp only); first | exact Or.inl ⟨by omega, by omega⟩ | exact Or.inr ⟨by omega, by rw [show (p2.toInt - p1.toInt).toNat = (L7_49.toInt - p1.toInt).toNat by omega]; assumption⟩), ht⟩) (fun q h => by cases h) dX8_changed_24
    ·
      refine W_top (y := .int 0) (by rw [hr_5]) ?_
      refine lv_if_eq (tgt := 23) hx hb dX8_changed_12 (by decide) (fun c_31 => ?_) (fun c_31 => absurd (by decide) c_31)
      refine lv_iconst (v := (-1)) hx hb dX8_changed_23 (by decide) ?_
      exact W.iret (v := (-1)) hx hb hr (fun t ht hW => ⟨(-1), rfl, (by have hl0 := t_m1; (try dsimp only); first | exact Or.inl ⟨by omega, by omega⟩ | exact Or.inr ⟨by omega, by rw [show (p2.toInt - p1.toInt).toNat = (L7_49.toInt - p1.toInt).toNat by omega]; assumption⟩), ht⟩) (fun q h => by cases h) dX8_changed_24
  ·
    refine W_top (y := .int 0) (by rw [hr_1]) ?_
    refine lv_if_eq (tgt := 23) hx hb dX8_changed_4 (by decide) (fun c_32 => ?_) (fun c_32 => absurd (by decide) c_32)
    refine lv_iconst (v := (-1)) hx hb dX8_changed_23 (by decide) ?_
    exact W.iret (v := (-1)) hx hb hr (fun t ht hW => ⟨(-1), rfl, (by have hl0 := t_m1; (try dsimp only); first | exact Or.inl ⟨by omega, by omega⟩ | exact Or.inr ⟨by omega, by rw [show (p2.toInt - p1.toInt).toNat = (L7_49.toInt - p1.toInt).toNat by omega]; assumption⟩), ht⟩) (fun q h => by cases h) dX8_changed_24
set_option maxHeartbeats 4000000 in
set_option maxRecDepth 100000 in
theorem g_X8_lend_N (l : Launch) (D : va_G) (E : Nat → Nat) (xh : Nat) (xa : Nat → Nat) (xtrialRule : Nat) (xdropRule : Nat) (xtoday : Int32) (xf1 : Nat → Int32) (xf3 : Nat → Option Nat) (p0 : Int32) (p1 : Int32) (hi_x : (0 ≤ xtoday.toInt ∧ xtoday.toInt ≤ 399)) (hn0 : ¬ (0 ≤ p0.toInt ∧ p0.toInt ≤ 15 ∧ ((xf1 (p0).toNatClampNeg).toInt = 0 ∨ (xf1 (p0).toNatClampNeg).toInt = 1))) : Met l yX8_lend (wl yX8_lend cX8_lend 4 (some .int)) (RM 2 0 0) (rd_P D E [.ref xh, .int p0, .int p1] [(xh, .inr (8, G8 xa xtrialRule xdropRule xtoday)), ((xa 1), .inl (E 0, 16, .inl xf1)), ((xa 3), .inl (E 3, 16, .inr (.inr (.inr (.inr xf3)))))]) (rd_Q (fun r => ((r.toInt = -1 ∧ ¬ ((0 ≤ p0.toInt ∧ p0.toInt ≤ 15) ∧ (0 ≤ p1.toInt ∧ p1.toInt ≤ 19))) ∨ (((0 ≤ p0.toInt ∧ p0.toInt ≤ 15) ∧ (0 ≤ p1.toInt ∧ p1.toInt ≤ 19)) ∧ (((xf1 (p0).toNatClampNeg).toInt = -5 ∧ r.toInt = -2) ∨ ((xf1 (p0).toNatClampNeg).toInt ≠ -5 ∧ r.toInt = -3)))))) 0 0 (fun _ => False) := by
  refine Met.ofW (cc := cX8_lend) (maxL := 4) (ret := (some .int)) (by decide) rfl ?_
  intro p e s m args below meth c s₁ B hml hv
  obtain ⟨rfl, hP, hK⟩ := hv
  have hx := B.exec; have hb := B.bytes; have hr := B.returns
  have hts := atoms_spec (ws := wl yX8_lend cX8_lend 4 (some .int)) B.pre
  have htb : ∀ w ∈ tb, w.before _ s = true := fun w h => hts w (List.mem_cons_of_mem _ h)
  have hown : s.vm.findClass RX8 = some m.cls := findClass_of_methodNamed B.named
  have hlocks := B.notSynchronized
  have hP : va_P D vwCl [(xh, .inr (8, G8 xa xtrialRule xdropRule xtoday)), ((xa 1), .inl (E 0, 16, .inl xf1)), ((xa 3), .inl (E 3, 16, .inr (.inr (.inr (.inr xf3)))))] s.heap := hP
  have hl := lv_entry ([.ref xh, .int p0, .int p1]) (n := 4) (Nat.le_of_ble_eq_true rfl)
  rw [lg_entry_eq]
  generalize (lg_sl ([.ref xh, .int p0, .int p1]) ++ List.replicate (4 - (lg_sl ([.ref xh, .int p0, .int p1])).length) Slot.unset).toArray = ls at hl ⊢
  have hl : lv_has ls 4 [(0, .ref xh), (1, .int p0), (2, .int p1)] := hl
  have lo_p0 := i_lo p0; have hi_p0 := i_hi p0
  have lo_p1 := i_lo p1; have hi_p1 := i_hi p1
  refine lv_iload_n hx hb dX8_lend_0 rfl (lv_at hl 1 rfl) ?_
  refine callRS (rest := []) (As := [.int p0]) hx hb hml hown htb hK (g_X8_isPlace l D E p0 ) ok_X8_isPlace k_333 k_334 k_1 k_335 ⟨(Nat.le_of_ble_eq_true rfl), (Nat.le_of_ble_eq_true rfl)⟩ ⟨(Nat.le_of_ble_eq_true rfl), (Nat.le_of_ble_eq_true rfl)⟩ hl.1 (Nat.le_of_ble_eq_true rfl) rfl rfl dX8_lend_1 (hP.sub (ws' := ([] : va_W)) [] rfl) (fun r_1 hw_2 => ?_)
  rcases hw_2 with ⟨hr_1, hw_2⟩ | ⟨hr_1, hw_2⟩
  ·
    refine W_top (y := .int 1) (by rw [hr_1]) ?_
    refine lv_if_eq (tgt := 17) hx hb dX8_lend_4 (by decide) (fun c_4 => absurd c_4 (by decide)) (fun c_4 => ?_)
    refine lv_iload_n hx hb dX8_lend_7 rfl (lv_at hl 2 rfl) ?_
    refine lv_if_lt (tgt := 17) hx hb dX8_lend_8 (by decide) (fun c_5 => ?_) (fun c_5 => ?_)
    ·
      have ic_5 : p1.toInt < 0 := by first | exact (g_lt rfl t_0).mp c_5 | (have h := mt (g_le t_0 rfl).mpr c_5; omega)
      clear c_5
      refine lv_iconst (v := (-1)) hx hb dX8_lend_17 (by decide) ?_
      exact W.iret (v := (-1)) hx hb hr (fun t ht hW => ⟨(-1), rfl, (by have hl0 := t_m1; (try dsimp only); first | exact Or.inl ⟨by omega, by omega⟩ | exact Or.inr ⟨by omega, by omega⟩), ht⟩) (fun q h => by cases h) dX8_lend_18
    ·
      have ic_5 : 0 ≤ p1.toInt := by first | exact (g_le t_0 rfl).mp c_5 | (have h := mt (g_lt rfl t_0).mpr c_5; omega)
      clear c_5
      refine lv_iload_n hx hb dX8_lend_11 rfl (lv_at hl 2 rfl) ?_
      refine lv_bipush (v := 20) hx hb dX8_lend_12 (by decide) ?_
      refine lv_icmp_lt (tgt := 19) hx hb dX8_lend_14 (by decide) (fun c_6 => ?_) (fun c_6 => ?_)
      ·
        have ic_6 : p1.toInt < 20 := by first | exact (g_lt rfl t_20).mp c_6 | (have h := mt (g_le t_20 rfl).mpr c_6; omega)
        clear c_6
        refine lv_aload_n hx hb dX8_lend_19 rfl (lv_at hl 0 rfl) ?_
        refine lv_iload_n hx hb dX8_lend_20 rfl (lv_at hl 1 rfl) ?_
        refine rn_call (runRV (rest := []) (As := [.int p0]) hx hb hml hown htb (g_X8_watchAt_N l D E xh xa xtrialRule xdropRule xtoday xf1 xf3 p0 (by (try dsimp only); omega) hn0) ok_X8_watchAt k_369 k_371 ks_1 k_1 k_372 ⟨(Nat.le_of_ble_eq_true rfl), (Nat.le_of_ble_eq_true rfl)⟩ ⟨(Nat.le_of_ble_eq_true rfl), (Nat.le_of_ble_eq_true rfl)⟩ hl.1 (Nat.le_of_ble_eq_true rfl) rfl rfl dX8_lend_21 (prV (hP.sub (ws' := [(xh, .inr (8, G8 xa xtrialRule xdropRule xtoday)), ((xa 1), .inl (E 0, 16, .inl xf1)), ((xa 3), .inl (E 3, 16, .inr (.inr (.inr (.inr xf3)))))]) [0, 1, 2] rfl) hK rfl rfl 0 rfl)) ?_
        refine lv_astore_nN (lv' := [(3, .null), (0, .ref xh), (1, .int p0), (2, .int p1)]) hx hb dX8_lend_24 rfl hl (by decide) rfl (fun ls hl => ?_)
        refine lv_aload_nN hx hb dX8_lend_25 rfl (lv_at hl 0 rfl) ?_
        refine lv_ifnonnullN hx hb dX8_lend_26 ?_
        refine lv_aload_n hx hb dX8_lend_29 rfl (lv_at hl 1 rfl) ?_
        refine lv_iload_n hx hb dX8_lend_30 rfl (lv_at hl 2 rfl) ?_
        refine callRV (rest := []) (As := [.int p0]) hx hb hml hown htb hK (g_X8_lackAt l D E xh xa xtrialRule xdropRule xtoday xf1 p0 (by (try dsimp only); omega)) ok_X8_lackAt k_396 k_398 ks_3 k_1 k_399 ⟨(Nat.le_of_ble_eq_true rfl), (Nat.le_of_ble_eq_true rfl)⟩ ⟨(Nat.le_of_ble_eq_true rfl), (Nat.le_of_ble_eq_true rfl)⟩ hl.1 (Nat.le_of_ble_eq_true rfl) rfl rfl dX8_lend_31 (hP.sub (ws' := [(xh, .inr (8, G8 xa xtrialRule xdropRule xtoday)), ((xa 1), .inl (E 0, 16, .inl xf1))]) [0, 1] rfl) rfl rfl 0 rfl (fun r_10 hw_11 => ?_)
        exact W.iret (v := r_10) hx hb hr (fun t ht hW => ⟨r_10, rfl, (by (try dsimp only); first | exact Or.inl ⟨by omega, by omega⟩ | exact Or.inr ⟨by omega, by omega⟩), ht⟩) (fun q h => by cases h) dX8_lend_34
      ·
        have ic_6 : 20 ≤ p1.toInt := by first | exact (g_le t_20 rfl).mp c_6 | (have h := mt (g_lt rfl t_20).mpr c_6; omega)
        clear c_6
        refine lv_iconst (v := (-1)) hx hb dX8_lend_17 (by decide) ?_
        exact W.iret (v := (-1)) hx hb hr (fun t ht hW => ⟨(-1), rfl, (by have hl0 := t_m1; (try dsimp only); first | exact Or.inl ⟨by omega, by omega⟩ | exact Or.inr ⟨by omega, by omega⟩), ht⟩) (fun q h => by cases h) dX8_lend_18
  ·
    refine W_top (y := .int 0) (by rw [hr_1]) ?_
    refine lv_if_eq (tgt := 17) hx hb dX8_lend_4 (by decide) (fun c_13 => ?_) (fun c_13 => absurd (by decide) c_13)
    refine lv_iconst (v := (-1)) hx hb dX8_lend_17 (by decide) ?_
    exact W.iret (v := (-1)) hx hb hr (fun t ht hW => ⟨(-1), rfl, (by have hl0 := t_m1; (try dsimp only); first | exact Or.inl ⟨by omega, by omega⟩ | exact Or.inr ⟨by omega, by omega⟩), ht⟩) (fun q h => by cases h) dX8_lend_18
set_option maxHeartbeats 4000000 in
set_option maxRecDepth 100000 in
theorem g_X8_lend_W (l : Launch) (D : va_G) (E : Nat → Nat) (xh : Nat) (xa : Nat → Nat) (xtrialRule : Nat) (xdropRule : Nat) (xtoday : Int32) (xf1 : Nat → Int32) (xf3 : Nat → Option Nat) (wh : Nat) (wa : Nat → Nat) (wf3 : Nat → Int32) (p0 : Int32) (p1 : Int32) (sz : Nat) (hi_x : (0 ≤ xtoday.toInt ∧ xtoday.toInt ≤ 399)) (hk0 : (0 ≤ p0.toInt ∧ p0.toInt ≤ 15 ∧ ((xf1 (p0).toNatClampNeg).toInt = 0 ∨ (xf1 (p0).toNatClampNeg).toInt = 1))) (hw0 : xf3 (p0).toNatClampNeg = some wh) : Met l yX8_lend (wl yX8_lend cX8_lend 4 (some .int)) (RM 2 0 0) (mu_P D E [.ref xh, .int p0, .int p1] [(xh, .inr (8, G8 xa xtrialRule xdropRule xtoday)), ((xa 1), .inl (E 0, 16, .inl xf1)), ((xa 3), .inl (E 3, 16, .inr (.inr (.inr (.inr xf3))))), (wh, .inr (7, G7 wa)), ((wa 3), .inl (E 0, 400, .inl wf3))] sz) (va_Qi (fun (r : Int32) (u : (Nat → Int32)) => ((¬ (0 ≤ p1.toInt ∧ p1.toInt ≤ 19) ∧ r.toInt = -1 ∧ u = wf3) ∨ ((0 ≤ p1.toInt ∧ p1.toInt ≤ 19) ∧ (wf3 (xtoday).toNatClampNeg).toInt ≠ -1 ∧ r.toInt = -4 ∧ u = wf3) ∨ ((0 ≤ p1.toInt ∧ p1.toInt ≤ 19) ∧ (wf3 (xtoday).toNatClampNeg).toInt = -1 ∧ r.toInt = 1 ∧ GIV wf3 u xtoday.toInt p1))) (mu_B D (va_A [(xh, .inr (8, G8 xa xtrialRule xdropRule xtoday)), ((xa 1), .inl (E 0, 16, .inl xf1)), ((xa 3), .inl (E 3, 16, .inr (.inr (.inr (.inr xf3))))), (wh, .inr (7, G7 wa)), ((wa 3), .inl (E 0, 400, .inl wf3))] sz) (fun (u : (Nat → Int32)) => [(xh, .inr (8, G8 xa xtrialRule xdropRule xtoday)), ((xa 1), .inl (E 0, 16, .inl xf1)), ((xa 3), .inl (E 3, 16, .inr (.inr (.inr (.inr xf3))))), (wh, .inr (7, G7 wa)), ((wa 3), .inl (E 0, 400, .inl u))])) (va_A [(xh, .inr (8, G8 xa xtrialRule xdropRule xtoday)), ((xa 1), .inl (E 0, 16, .inl xf1)), ((xa 3), .inl (E 3, 16, .inr (.inr (.inr (.inr xf3))))), (wh, .inr (7, G7 wa)), ((wa 3), .inl (E 0, 400, .inl wf3))] sz)) 0 0 (va_A [(xh, .inr (8, G8 xa xtrialRule xdropRule xtoday)), ((xa 1), .inl (E 0, 16, .inl xf1)), ((xa 3), .inl (E 3, 16, .inr (.inr (.inr (.inr xf3))))), (wh, .inr (7, G7 wa)), ((wa 3), .inl (E 0, 400, .inl wf3))] sz) := by
  refine Met.ofW (cc := cX8_lend) (maxL := 4) (ret := (some .int)) (by decide) rfl ?_
  intro p e s m args below meth c s₁ B hml hv
  obtain ⟨rfl, hsz, hP, hK, hD0⟩ := hv
  have hx := B.exec; have hb := B.bytes; have hr := B.returns
  have hts := atoms_spec (ws := wl yX8_lend cX8_lend 4 (some .int)) B.pre
  have htb : ∀ w ∈ tb, w.before _ s = true := fun w h => hts w (List.mem_cons_of_mem _ h)
  have hown : s.vm.findClass RX8 = some m.cls := findClass_of_methodNamed B.named
  have hlocks := B.notSynchronized
  subst hsz
  have hD := hD0.self (sz := s.heap.size)
  generalize hAe : va_A [(xh, .inr (8, G8 xa xtrialRule xdropRule xtoday)), ((xa 1), .inl (E 0, 16, .inl xf1)), ((xa 3), .inl (E 3, 16, .inr (.inr (.inr (.inr xf3))))), (wh, .inr (7, G7 wa)), ((wa 3), .inl (E 0, 400, .inl wf3))] s.heap.size = A at hD ⊢
  have hA : ∀ q : Nat, s.heap.size ≤ q → A q := fun q h => by rw [← hAe]; exact Or.inr h
  have hS : va_S A s.heap s.heap [] := va_S.rf
  have hP : va_P D vwCl [(xh, .inr (8, G8 xa xtrialRule xdropRule xtoday)), ((xa 1), .inl (E 0, 16, .inl xf1)), ((xa 3), .inl (E 3, 16, .inr (.inr (.inr (.inr xf3))))), (wh, .inr (7, G7 wa)), ((wa 3), .inl (E 0, 400, .inl wf3))] s.heap := hP
  have hl := lv_entry ([.ref xh, .int p0, .int p1]) (n := 4) (Nat.le_of_ble_eq_true rfl)
  rw [lg_entry_eq]
  generalize (lg_sl ([.ref xh, .int p0, .int p1]) ++ List.replicate (4 - (lg_sl ([.ref xh, .int p0, .int p1])).length) Slot.unset).toArray = ls at hl ⊢
  have hl : lv_has ls 4 [(0, .ref xh), (1, .int p0), (2, .int p1)] := hl
  have lo_p0 := i_lo p0; have hi_p0 := i_hi p0
  have lo_p1 := i_lo p1; have hi_p1 := i_hi p1
  refine lv_iload_n hx hb dX8_lend_0 rfl (lv_at hl 1 rfl) ?_
  refine callRS (rest := []) (As := [.int p0]) hx hb hml hown htb hK (g_X8_isPlace l D E p0 ) ok_X8_isPlace k_333 k_334 k_1 k_335 ⟨(Nat.le_of_ble_eq_true rfl), (Nat.le_of_ble_eq_true rfl)⟩ ⟨(Nat.le_of_ble_eq_true rfl), (Nat.le_of_ble_eq_true rfl)⟩ hl.1 (Nat.le_of_ble_eq_true rfl) rfl rfl dX8_lend_1 (hP.sub (ws' := ([] : va_W)) [] rfl) (fun r_1 hw_2 => ?_)
  rcases hw_2 with ⟨hr_1, hw_2⟩ | ⟨hr_1, hw_2⟩
  ·
    refine W_top (y := .int 1) (by rw [hr_1]) ?_
    refine lv_if_eq (tgt := 17) hx hb dX8_lend_4 (by decide) (fun c_4 => absurd c_4 (by decide)) (fun c_4 => ?_)
    refine lv_iload_n hx hb dX8_lend_7 rfl (lv_at hl 2 rfl) ?_
    refine lv_if_lt (tgt := 17) hx hb dX8_lend_8 (by decide) (fun c_5 => ?_) (fun c_5 => ?_)
    ·
      have ic_5 : p1.toInt < 0 := by first | exact (g_lt rfl t_0).mp c_5 | (have h := mt (g_le t_0 rfl).mpr c_5; omega)
      clear c_5
      refine lv_iconst (v := (-1)) hx hb dX8_lend_17 (by decide) ?_
      have hP9 := hP.sub (ws' := [(xh, .inr (8, G8 xa xtrialRule xdropRule xtoday)), ((xa 1), .inl (E 0, 16, .inl xf1)), ((xa 3), .inl (E 3, 16, .inr (.inr (.inr (.inr xf3))))), (wh, .inr (7, G7 wa)), ((wa 3), .inl (E 0, 400, .inl wf3))]) [0, 1, 2, 3, 4] rfl
      have hD9 := hD.sub (ws' := [(xh, .inr (8, G8 xa xtrialRule xdropRule xtoday)), ((xa 1), .inl (E 0, 16, .inl xf1)), ((xa 3), .inl (E 3, 16, .inr (.inr (.inr (.inr xf3))))), (wh, .inr (7, G7 wa)), ((wa 3), .inl (E 0, 400, .inl wf3))]) [0, 1, 2, 3, 4] (by decide) rfl
      exact W.iret (v := (-1)) hx hb hr (fun t ht hW => ⟨⟨(-1), wf3, rfl, (by have hl0 := t_m1; (try dsimp only); first | exact Or.inl ⟨by omega, by omega, rfl⟩ | exact Or.inr (Or.inl ⟨by omega, by omega, by omega, rfl⟩) | exact Or.inr (Or.inr ⟨by omega, by omega, by omega, by assumption⟩)), by rw [ht]; exact hP9, hD9⟩, hS.F ht⟩) hS.2.2 dX8_lend_18
    ·
      have ic_5 : 0 ≤ p1.toInt := by first | exact (g_le t_0 rfl).mp c_5 | (have h := mt (g_lt rfl t_0).mpr c_5; omega)
      clear c_5
      refine lv_iload_n hx hb dX8_lend_11 rfl (lv_at hl 2 rfl) ?_
      refine lv_bipush (v := 20) hx hb dX8_lend_12 (by decide) ?_
      refine lv_icmp_lt (tgt := 19) hx hb dX8_lend_14 (by decide) (fun c_6 => ?_) (fun c_6 => ?_)
      ·
        have ic_6 : p1.toInt < 20 := by first | exact (g_lt rfl t_20).mp c_6 | (have h := mt (g_le t_20 rfl).mpr c_6; omega)
        clear c_6
        refine lv_aload_n hx hb dX8_lend_19 rfl (lv_at hl 0 rfl) ?_
        refine lv_iload_n hx hb dX8_lend_20 rfl (lv_at hl 1 rfl) ?_
        refine rr_call (runRV (rest := []) (As := [.int p0]) hx hb hml hown htb (g_X8_watchAt_W l D E xh xa xtrialRule xdropRule xtoday xf1 xf3 wh wa p0 (by (try dsimp only); omega) hk0 hw0) ok_X8_watchAt k_369 k_371 ks_1 k_1 k_372 ⟨(Nat.le_of_ble_eq_true rfl), (Nat.le_of_ble_eq_true rfl)⟩ ⟨(Nat.le_of_ble_eq_true rfl), (Nat.le_of_ble_eq_true rfl)⟩ hl.1 (Nat.le_of_ble_eq_true rfl) rfl rfl dX8_lend_21 (prV (hP.sub (ws' := [(xh, .inr (8, G8 xa xtrialRule xdropRule xtoday)), ((xa 1), .inl (E 0, 16, .inl xf1)), ((xa 3), .inl (E 3, 16, .inr (.inr (.inr (.inr xf3))))), (wh, .inr (7, G7 wa))]) [0, 1, 2, 3] rfl) hK rfl rfl 0 rfl)) ?_
        refine lv_astore_n (lv' := [(3, .ref wh), (0, .ref xh), (1, .int p0), (2, .int p1)]) hx hb dX8_lend_24 rfl hl (by decide) rfl (fun ls hl => ?_)
        refine lv_aload_n hx hb dX8_lend_25 rfl (lv_at hl 0 rfl) ?_
        refine lv_ifnonnull (tgt := 35) hx hb dX8_lend_26 (by decide) ?_
        refine lv_aload_n hx hb dX8_lend_35 rfl (lv_at hl 0 rfl) ?_
        refine lv_aload_n hx hb dX8_lend_36 rfl (lv_at hl 1 rfl) ?_
        refine va_get (D := D) (ci := 8) (v := .int xtoday) (C := RX8) (T := TX8) (N := 14) hx hb htb iX8 hown hK.1 hP 0 rfl rfl 13 (by decide) (htb _ k_285) (fun _ h9 => h9) rfl dX8_lend_37 ?_
        refine callRV (rest := []) (As := [.int xtoday]) hx hb hml hown htb hK (g_X7_holderOn l D E wh wa wf3 xtoday ) ok_X7_holderOn k_373 k_374 k_375 k_10 k_376 ⟨(Nat.le_of_ble_eq_true rfl), (Nat.le_of_ble_eq_true rfl)⟩ ⟨(Nat.le_of_ble_eq_true rfl), (Nat.le_of_ble_eq_true rfl)⟩ hl.1 (Nat.le_of_ble_eq_true rfl) rfl rfl dX8_lend_40 (hP.sub (ws' := [(wh, .inr (7, G7 wa)), ((wa 3), .inl (E 0, 400, .inl wf3))]) [3, 4] rfl) rfl rfl 0 rfl (fun r_10 hw_11 => ?_)
        have hw_11R : r_10.toInt = (wf3 (xtoday).toNatClampNeg).toInt := by rcases hw_11 with h9 | h9 <;> first | exact congrArg Int32.toInt h9.2 | (exfalso; omega)
        refine lv_iconst (v := (-1)) hx hb dX8_lend_43 (by decide) ?_
        refine lv_icmp_eq (tgt := 50) hx hb dX8_lend_44 (by decide) (fun c_13 => ?_) (fun c_13 => ?_)
        ·
          have ic_13 : r_10.toInt = -1 := (g_eq rfl t_m1).mp c_13
          clear c_13
          refine lv_aload_n hx hb dX8_lend_50 rfl (lv_at hl 0 rfl) ?_
          refine lv_iload_n hx hb dX8_lend_51 rfl (lv_at hl 3 rfl) ?_
          refine lv_aload_n hx hb dX8_lend_52 rfl (lv_at hl 1 rfl) ?_
          refine va_get (D := D) (ci := 8) (v := .int xtoday) (C := RX8) (T := TX8) (N := 14) hx hb htb iX8 hown hK.1 hP 0 rfl rfl 13 (by decide) (htb _ k_285) (fun _ h9 => h9) rfl dX8_lend_53 ?_
          have hPc := hP.sub (ws' := [(wh, .inr (7, G7 wa)), ((wa 3), .inl (E 0, 400, .inl wf3))]) [3, 4] rfl
          have hDc := hD.sub (ws' := [(wh, .inr (7, G7 wa)), ((wa 3), .inl (E 0, 400, .inl wf3))]) [3, 4] (by decide) rfl
          refine aft_v (runMV (rest := []) (As := [.int p1, .int xtoday]) hx hb hml hown htb hK (g_X7_giveTo l D E wh wa wf3 p1 xtoday _ (by (try dsimp only); omega)) ok_X7_giveTo k_803 k_804 k_805 k_10 k_806 ⟨(Nat.le_of_ble_eq_true rfl), (Nat.le_of_ble_eq_true rfl)⟩ ⟨(Nat.le_of_ble_eq_true rfl), (Nat.le_of_ble_eq_true rfl)⟩ hl.1 (Nat.le_of_ble_eq_true rfl) rfl rfl dX8_lend_56 hPc hDc rfl rfl 0 rfl) hP hD hS hA [3, 4] [0, 1, 2] (wr := [(xh, .inr (8, G8 xa xtrialRule xdropRule xtoday)), ((xa 1), .inl (E 0, 16, .inl xf1)), ((xa 3), .inl (E 3, 16, .inr (.inr (.inr (.inr xf3)))))]) rfl rfl (by decide) (by decide) (fun u_16 H locs hw_15 hP hD hS => ?_)
          clear hPc hDc
          have hP : va_P D vwCl [(xh, .inr (8, G8 xa xtrialRule xdropRule xtoday)), ((xa 1), .inl (E 0, 16, .inl xf1)), ((xa 3), .inl (E 3, 16, .inr (.inr (.inr (.inr xf3))))), (wh, .inr (7, G7 wa)), ((wa 3), .inl (E 0, 400, .inl u_16))] H := hP
          have hD := toW hP hD rfl
          refine lv_iconst (v := 1) hx hb dX8_lend_59 (by decide) ?_
          have hP9 := hP.sub (ws' := [(xh, .inr (8, G8 xa xtrialRule xdropRule xtoday)), ((xa 1), .inl (E 0, 16, .inl xf1)), ((xa 3), .inl (E 3, 16, .inr (.inr (.inr (.inr xf3))))), (wh, .inr (7, G7 wa)), ((wa 3), .inl (E 0, 400, .inl u_16))]) [0, 1, 2, 3, 4] rfl
          have hD9 := hD.sub (ws' := [(xh, .inr (8, G8 xa xtrialRule xdropRule xtoday)), ((xa 1), .inl (E 0, 16, .inl xf1)), ((xa 3), .inl (E 3, 16, .inr (.inr (.inr (.inr xf3))))), (wh, .inr (7, G7 wa)), ((wa 3), .inl (E 0, 400, .inl u_16))]) [0, 1, 2, 3, 4] (by decide) rfl
          exact W.iret (v := 1) hx hb hr (fun t ht hW => ⟨⟨1, u_16, rfl, (by have hl0 := t_1; (try dsimp only); first | exact Or.inl ⟨by omega, by omega, rfl⟩ | exact Or.inr (Or.inl ⟨by omega, by omega, by omega, rfl⟩) | exact Or.inr (Or.inr ⟨by omega, by omega, by omega, by assumption⟩)), by rw [ht]; exact hP9, hD9⟩, hS.F ht⟩) hS.2.2 dX8_lend_60
        ·
          have ic_13 : r_10.toInt ≠ -1 := mt (g_eq rfl t_m1).mpr c_13
          clear c_13
          refine lv_bipush (v := (-4)) hx hb dX8_lend_47 (by decide) ?_
          have hP9 := hP.sub (ws' := [(xh, .inr (8, G8 xa xtrialRule xdropRule xtoday)), ((xa 1), .inl (E 0, 16, .inl xf1)), ((xa 3), .inl (E 3, 16, .inr (.inr (.inr (.inr xf3))))), (wh, .inr (7, G7 wa)), ((wa 3), .inl (E 0, 400, .inl wf3))]) [0, 1, 2, 3, 4] rfl
          have hD9 := hD.sub (ws' := [(xh, .inr (8, G8 xa xtrialRule xdropRule xtoday)), ((xa 1), .inl (E 0, 16, .inl xf1)), ((xa 3), .inl (E 3, 16, .inr (.inr (.inr (.inr xf3))))), (wh, .inr (7, G7 wa)), ((wa 3), .inl (E 0, 400, .inl wf3))]) [0, 1, 2, 3, 4] (by decide) rfl
          exact W.iret (v := (-4)) hx hb hr (fun t ht hW => ⟨⟨(-4), wf3, rfl, (by have hl0 := t_m4; (try dsimp only); first | exact Or.inl ⟨by omega, by omega, rfl⟩ | exact Or.inr (Or.inl ⟨by omega, by omega, by omega, rfl⟩) | exact Or.inr (Or.inr ⟨by omega, by omega, by omega, by assumption⟩)), by rw [ht]; exact hP9, hD9⟩, hS.F ht⟩) hS.2.2 dX8_lend_49
      ·
        have ic_6 : 20 ≤ p1.toInt := by first | exact (g_le t_20 rfl).mp c_6 | (have h := mt (g_lt rfl t_20).mpr c_6; omega)
        clear c_6
        refine lv_iconst (v := (-1)) hx hb dX8_lend_17 (by decide) ?_
        have hP9 := hP.sub (ws' := [(xh, .inr (8, G8 xa xtrialRule xdropRule xtoday)), ((xa 1), .inl (E 0, 16, .inl xf1)), ((xa 3), .inl (E 3, 16, .inr (.inr (.inr (.inr xf3))))), (wh, .inr (7, G7 wa)), ((wa 3), .inl (E 0, 400, .inl wf3))]) [0, 1, 2, 3, 4] rfl
        have hD9 := hD.sub (ws' := [(xh, .inr (8, G8 xa xtrialRule xdropRule xtoday)), ((xa 1), .inl (E 0, 16, .inl xf1)), ((xa 3), .inl (E 3, 16, .inr (.inr (.inr (.inr xf3))))), (wh, .inr (7, G7 wa)), ((wa 3), .inl (E 0, 400, .inl wf3))]) [0, 1, 2, 3, 4] (by decide) rfl
        exact W.iret (v := (-1)) hx hb hr (fun t ht hW => ⟨⟨(-1), wf3, rfl, (by have hl0 := t_m1; (try dsimp only); first | exact Or.inl ⟨by omega, by omega, rfl⟩ | exact Or.inr (Or.inl ⟨by omega, by omega, by omega, rfl⟩) | exact Or.inr (Or.inr ⟨by omega, by omega, by omega, by assumption⟩)), by rw [ht]; exact hP9, hD9⟩, hS.F ht⟩) hS.2.2 dX8_lend_18
  ·
    refine W_top (y := .int 0) (by rw [hr_1]) ?_
    refine lv_if_eq (tgt := 17) hx hb dX8_lend_4 (by decide) (fun c_17 => ?_) (fun c_17 => absurd (by decide) c_17)
    refine lv_iconst (v := (-1)) hx hb dX8_lend_17 (by decide) ?_
    have hP9 := hP.sub (ws' := [(xh, .inr (8, G8 xa xtrialRule xdropRule xtoday)), ((xa 1), .inl (E 0, 16, .inl xf1)), ((xa 3), .inl (E 3, 16, .inr (.inr (.inr (.inr xf3))))), (wh, .inr (7, G7 wa)), ((wa 3), .inl (E 0, 400, .inl wf3))]) [0, 1, 2, 3, 4] rfl
    have hD9 := hD.sub (ws' := [(xh, .inr (8, G8 xa xtrialRule xdropRule xtoday)), ((xa 1), .inl (E 0, 16, .inl xf1)), ((xa 3), .inl (E 3, 16, .inr (.inr (.inr (.inr xf3))))), (wh, .inr (7, G7 wa)), ((wa 3), .inl (E 0, 400, .inl wf3))]) [0, 1, 2, 3, 4] (by decide) rfl
    exact W.iret (v := (-1)) hx hb hr (fun t ht hW => ⟨⟨(-1), wf3, rfl, (by have hl0 := t_m1; (try dsimp only); first | exact Or.inl ⟨by omega, by omega, rfl⟩ | exact Or.inr (Or.inl ⟨by omega, by omega, by omega, rfl⟩) | exact Or.inr (Or.inr ⟨by omega, by omega, by omega, by assumption⟩)), by rw [ht]; exact hP9, hD9⟩, hS.F ht⟩) hS.2.2 dX8_lend_18
set_option maxHeartbeats 4000000 in
set_option maxRecDepth 100000 in
theorem g_X8_home_N (l : Launch) (D : va_G) (E : Nat → Nat) (xh : Nat) (xa : Nat → Nat) (xtrialRule : Nat) (xdropRule : Nat) (xtoday : Int32) (xf1 : Nat → Int32) (xf3 : Nat → Option Nat) (p0 : Int32) (hi_x : (0 ≤ xtoday.toInt ∧ xtoday.toInt ≤ 399)) (hn0 : ¬ (0 ≤ p0.toInt ∧ p0.toInt ≤ 15 ∧ ((xf1 (p0).toNatClampNeg).toInt = 0 ∨ (xf1 (p0).toNatClampNeg).toInt = 1))) : Met l yX8_home (wl yX8_home cX8_home 4 (some .int)) (RM 2 0 0) (rd_P D E [.ref xh, .int p0] [(xh, .inr (8, G8 xa xtrialRule xdropRule xtoday)), ((xa 1), .inl (E 0, 16, .inl xf1)), ((xa 3), .inl (E 3, 16, .inr (.inr (.inr (.inr xf3)))))]) (rd_Q (fun r => ((r.toInt = -1 ∧ ¬ ((0 ≤ p0.toInt ∧ p0.toInt ≤ 15))) ∨ (((0 ≤ p0.toInt ∧ p0.toInt ≤ 15)) ∧ (((xf1 (p0).toNatClampNeg).toInt = -5 ∧ r.toInt = -2) ∨ ((xf1 (p0).toNatClampNeg).toInt ≠ -5 ∧ r.toInt = -3)))))) 0 0 (fun _ => False) := by
  refine Met.ofW (cc := cX8_home) (maxL := 4) (ret := (some .int)) (by decide) rfl ?_
  intro p e s m args below meth c s₁ B hml hv
  obtain ⟨rfl, hP, hK⟩ := hv
  have hx := B.exec; have hb := B.bytes; have hr := B.returns
  have hts := atoms_spec (ws := wl yX8_home cX8_home 4 (some .int)) B.pre
  have htb : ∀ w ∈ tb, w.before _ s = true := fun w h => hts w (List.mem_cons_of_mem _ h)
  have hown : s.vm.findClass RX8 = some m.cls := findClass_of_methodNamed B.named
  have hlocks := B.notSynchronized
  have hP : va_P D vwCl [(xh, .inr (8, G8 xa xtrialRule xdropRule xtoday)), ((xa 1), .inl (E 0, 16, .inl xf1)), ((xa 3), .inl (E 3, 16, .inr (.inr (.inr (.inr xf3)))))] s.heap := hP
  have hl := lv_entry ([.ref xh, .int p0]) (n := 4) (Nat.le_of_ble_eq_true rfl)
  rw [lg_entry_eq]
  generalize (lg_sl ([.ref xh, .int p0]) ++ List.replicate (4 - (lg_sl ([.ref xh, .int p0])).length) Slot.unset).toArray = ls at hl ⊢
  have hl : lv_has ls 4 [(0, .ref xh), (1, .int p0)] := hl
  have lo_p0 := i_lo p0; have hi_p0 := i_hi p0
  refine lv_iload_n hx hb dX8_home_0 rfl (lv_at hl 1 rfl) ?_
  refine callRS (rest := []) (As := [.int p0]) hx hb hml hown htb hK (g_X8_isPlace l D E p0 ) ok_X8_isPlace k_333 k_334 k_1 k_335 ⟨(Nat.le_of_ble_eq_true rfl), (Nat.le_of_ble_eq_true rfl)⟩ ⟨(Nat.le_of_ble_eq_true rfl), (Nat.le_of_ble_eq_true rfl)⟩ hl.1 (Nat.le_of_ble_eq_true rfl) rfl rfl dX8_home_1 (hP.sub (ws' := ([] : va_W)) [] rfl) (fun r_1 hw_2 => ?_)
  rcases hw_2 with ⟨hr_1, hw_2⟩ | ⟨hr_1, hw_2⟩
  ·
    refine W_top (y := .int 1) (by rw [hr_1]) ?_
    refine lv_if_ne (tgt := 9) hx hb dX8_home_4 (by decide) (fun c_4 => ?_) (fun c_4 => absurd c_4 (by decide))
    refine lv_aload_n hx hb dX8_home_9 rfl (lv_at hl 0 rfl) ?_
    refine lv_iload_n hx hb dX8_home_10 rfl (lv_at hl 1 rfl) ?_
    refine rn_call (runRV (rest := []) (As := [.int p0]) hx hb hml hown htb (g_X8_watchAt_N l D E xh xa xtrialRule xdropRule xtoday xf1 xf3 p0 (by (try dsimp only); omega) hn0) ok_X8_watchAt k_369 k_371 ks_1 k_1 k_372 ⟨(Nat.le_of_ble_eq_true rfl), (Nat.le_of_ble_eq_true rfl)⟩ ⟨(Nat.le_of_ble_eq_true rfl), (Nat.le_of_ble_eq_true rfl)⟩ hl.1 (Nat.le_of_ble_eq_true rfl) rfl rfl dX8_home_11 (prV (hP.sub (ws' := [(xh, .inr (8, G8 xa xtrialRule xdropRule xtoday)), ((xa 1), .inl (E 0, 16, .inl xf1)), ((xa 3), .inl (E 3, 16, .inr (.inr (.inr (.inr xf3)))))]) [0, 1, 2] rfl) hK rfl rfl 0 rfl)) ?_
    refine lv_astore_nN (lv' := [(2, .null), (0, .ref xh), (1, .int p0)]) hx hb dX8_home_14 rfl hl (by decide) rfl (fun ls hl => ?_)
    refine lv_aload_nN hx hb dX8_home_15 rfl (lv_at hl 0 rfl) ?_
    refine lv_ifnonnullN hx hb dX8_home_16 ?_
    refine lv_aload_n hx hb dX8_home_19 rfl (lv_at hl 1 rfl) ?_
    refine lv_iload_n hx hb dX8_home_20 rfl (lv_at hl 2 rfl) ?_
    refine callRV (rest := []) (As := [.int p0]) hx hb hml hown htb hK (g_X8_lackAt l D E xh xa xtrialRule xdropRule xtoday xf1 p0 (by (try dsimp only); omega)) ok_X8_lackAt k_396 k_398 ks_3 k_1 k_399 ⟨(Nat.le_of_ble_eq_true rfl), (Nat.le_of_ble_eq_true rfl)⟩ ⟨(Nat.le_of_ble_eq_true rfl), (Nat.le_of_ble_eq_true rfl)⟩ hl.1 (Nat.le_of_ble_eq_true rfl) rfl rfl dX8_home_21 (hP.sub (ws' := [(xh, .inr (8, G8 xa xtrialRule xdropRule xtoday)), ((xa 1), .inl (E 0, 16, .inl xf1))]) [0, 1] rfl) rfl rfl 0 rfl (fun r_8 hw_9 => ?_)
    exact W.iret (v := r_8) hx hb hr (fun t ht hW => ⟨r_8, rfl, (by (try dsimp only); first | exact Or.inl ⟨by omega, by omega⟩ | exact Or.inr ⟨by omega, by omega⟩), ht⟩) (fun q h => by cases h) dX8_home_24
  ·
    refine W_top (y := .int 0) (by rw [hr_1]) ?_
    refine lv_if_ne (tgt := 9) hx hb dX8_home_4 (by decide) (fun c_11 => absurd (by decide) c_11) (fun c_11 => ?_)
    refine lv_iconst (v := (-1)) hx hb dX8_home_7 (by decide) ?_
    exact W.iret (v := (-1)) hx hb hr (fun t ht hW => ⟨(-1), rfl, (by have hl0 := t_m1; (try dsimp only); first | exact Or.inl ⟨by omega, by omega⟩ | exact Or.inr ⟨by omega, by omega⟩), ht⟩) (fun q h => by cases h) dX8_home_8
set_option maxHeartbeats 4000000 in
set_option maxRecDepth 100000 in
theorem g_X8_home_W (l : Launch) (D : va_G) (E : Nat → Nat) (xh : Nat) (xa : Nat → Nat) (xtrialRule : Nat) (xdropRule : Nat) (xtoday : Int32) (xf1 : Nat → Int32) (xf3 : Nat → Option Nat) (wh : Nat) (wa : Nat → Nat) (wf3 : Nat → Int32) (p0 : Int32) (sz : Nat) (hi_x : (0 ≤ xtoday.toInt ∧ xtoday.toInt ≤ 399)) (hk0 : (0 ≤ p0.toInt ∧ p0.toInt ≤ 15 ∧ ((xf1 (p0).toNatClampNeg).toInt = 0 ∨ (xf1 (p0).toNatClampNeg).toInt = 1))) (hw0 : xf3 (p0).toNatClampNeg = some wh) : Met l yX8_home (wl yX8_home cX8_home 4 (some .int)) (RM 2 0 0) (mu_P D E [.ref xh, .int p0] [(xh, .inr (8, G8 xa xtrialRule xdropRule xtoday)), ((xa 1), .inl (E 0, 16, .inl xf1)), ((xa 3), .inl (E 3, 16, .inr (.inr (.inr (.inr xf3))))), (wh, .inr (7, G7 wa)), ((wa 3), .inl (E 0, 400, .inl wf3))] sz) (va_Qi (fun (r : Int32) (u : (Nat → Int32)) => ((¬ (0 ≤ (wf3 (xtoday).toNatClampNeg).toInt ∧ (wf3 (xtoday).toNatClampNeg).toInt ≤ 19) ∧ r.toInt = -4 ∧ u = wf3) ∨ ((0 ≤ (wf3 (xtoday).toNatClampNeg).toInt ∧ (wf3 (xtoday).toNatClampNeg).toInt ≤ 19) ∧ r.toInt = 1 ∧ GIV wf3 u xtoday.toInt (-1)))) (mu_B D (va_A [(xh, .inr (8, G8 xa xtrialRule xdropRule xtoday)), ((xa 1), .inl (E 0, 16, .inl xf1)), ((xa 3), .inl (E 3, 16, .inr (.inr (.inr (.inr xf3))))), (wh, .inr (7, G7 wa)), ((wa 3), .inl (E 0, 400, .inl wf3))] sz) (fun (u : (Nat → Int32)) => [(xh, .inr (8, G8 xa xtrialRule xdropRule xtoday)), ((xa 1), .inl (E 0, 16, .inl xf1)), ((xa 3), .inl (E 3, 16, .inr (.inr (.inr (.inr xf3))))), (wh, .inr (7, G7 wa)), ((wa 3), .inl (E 0, 400, .inl u))])) (va_A [(xh, .inr (8, G8 xa xtrialRule xdropRule xtoday)), ((xa 1), .inl (E 0, 16, .inl xf1)), ((xa 3), .inl (E 3, 16, .inr (.inr (.inr (.inr xf3))))), (wh, .inr (7, G7 wa)), ((wa 3), .inl (E 0, 400, .inl wf3))] sz)) 0 0 (va_A [(xh, .inr (8, G8 xa xtrialRule xdropRule xtoday)), ((xa 1), .inl (E 0, 16, .inl xf1)), ((xa 3), .inl (E 3, 16, .inr (.inr (.inr (.inr xf3))))), (wh, .inr (7, G7 wa)), ((wa 3), .inl (E 0, 400, .inl wf3))] sz) := by
  refine Met.ofW (cc := cX8_home) (maxL := 4) (ret := (some .int)) (by decide) rfl ?_
  intro p e s m args below meth c s₁ B hml hv
  obtain ⟨rfl, hsz, hP, hK, hD0⟩ := hv
  have hx := B.exec; have hb := B.bytes; have hr := B.returns
  have hts := atoms_spec (ws := wl yX8_home cX8_home 4 (some .int)) B.pre
  have htb : ∀ w ∈ tb, w.before _ s = true := fun w h => hts w (List.mem_cons_of_mem _ h)
  have hown : s.vm.findClass RX8 = some m.cls := findClass_of_methodNamed B.named
  have hlocks := B.notSynchronized
  subst hsz
  have hD := hD0.self (sz := s.heap.size)
  generalize hAe : va_A [(xh, .inr (8, G8 xa xtrialRule xdropRule xtoday)), ((xa 1), .inl (E 0, 16, .inl xf1)), ((xa 3), .inl (E 3, 16, .inr (.inr (.inr (.inr xf3))))), (wh, .inr (7, G7 wa)), ((wa 3), .inl (E 0, 400, .inl wf3))] s.heap.size = A at hD ⊢
  have hA : ∀ q : Nat, s.heap.size ≤ q → A q := fun q h => by rw [← hAe]; exact Or.inr h
  have hS : va_S A s.heap s.heap [] := va_S.rf
  have hP : va_P D vwCl [(xh, .inr (8, G8 xa xtrialRule xdropRule xtoday)), ((xa 1), .inl (E 0, 16, .inl xf1)), ((xa 3), .inl (E 3, 16, .inr (.inr (.inr (.inr xf3))))), (wh, .inr (7, G7 wa)), ((wa 3), .inl (E 0, 400, .inl wf3))] s.heap := hP
  have hl := lv_entry ([.ref xh, .int p0]) (n := 4) (Nat.le_of_ble_eq_true rfl)
  rw [lg_entry_eq]
  generalize (lg_sl ([.ref xh, .int p0]) ++ List.replicate (4 - (lg_sl ([.ref xh, .int p0])).length) Slot.unset).toArray = ls at hl ⊢
  have hl : lv_has ls 4 [(0, .ref xh), (1, .int p0)] := hl
  have lo_p0 := i_lo p0; have hi_p0 := i_hi p0
  refine lv_iload_n hx hb dX8_home_0 rfl (lv_at hl 1 rfl) ?_
  refine callRS (rest := []) (As := [.int p0]) hx hb hml hown htb hK (g_X8_isPlace l D E p0 ) ok_X8_isPlace k_333 k_334 k_1 k_335 ⟨(Nat.le_of_ble_eq_true rfl), (Nat.le_of_ble_eq_true rfl)⟩ ⟨(Nat.le_of_ble_eq_true rfl), (Nat.le_of_ble_eq_true rfl)⟩ hl.1 (Nat.le_of_ble_eq_true rfl) rfl rfl dX8_home_1 (hP.sub (ws' := ([] : va_W)) [] rfl) (fun r_1 hw_2 => ?_)
  rcases hw_2 with ⟨hr_1, hw_2⟩ | ⟨hr_1, hw_2⟩
  ·
    refine W_top (y := .int 1) (by rw [hr_1]) ?_
    refine lv_if_ne (tgt := 9) hx hb dX8_home_4 (by decide) (fun c_4 => ?_) (fun c_4 => absurd c_4 (by decide))
    refine lv_aload_n hx hb dX8_home_9 rfl (lv_at hl 0 rfl) ?_
    refine lv_iload_n hx hb dX8_home_10 rfl (lv_at hl 1 rfl) ?_
    refine rr_call (runRV (rest := []) (As := [.int p0]) hx hb hml hown htb (g_X8_watchAt_W l D E xh xa xtrialRule xdropRule xtoday xf1 xf3 wh wa p0 (by (try dsimp only); omega) hk0 hw0) ok_X8_watchAt k_369 k_371 ks_1 k_1 k_372 ⟨(Nat.le_of_ble_eq_true rfl), (Nat.le_of_ble_eq_true rfl)⟩ ⟨(Nat.le_of_ble_eq_true rfl), (Nat.le_of_ble_eq_true rfl)⟩ hl.1 (Nat.le_of_ble_eq_true rfl) rfl rfl dX8_home_11 (prV (hP.sub (ws' := [(xh, .inr (8, G8 xa xtrialRule xdropRule xtoday)), ((xa 1), .inl (E 0, 16, .inl xf1)), ((xa 3), .inl (E 3, 16, .inr (.inr (.inr (.inr xf3))))), (wh, .inr (7, G7 wa))]) [0, 1, 2, 3] rfl) hK rfl rfl 0 rfl)) ?_
    refine lv_astore_n (lv' := [(2, .ref wh), (0, .ref xh), (1, .int p0)]) hx hb dX8_home_14 rfl hl (by decide) rfl (fun ls hl => ?_)
    refine lv_aload_n hx hb dX8_home_15 rfl (lv_at hl 0 rfl) ?_
    refine lv_ifnonnull (tgt := 25) hx hb dX8_home_16 (by decide) ?_
    refine lv_aload_n hx hb dX8_home_25 rfl (lv_at hl 0 rfl) ?_
    refine lv_aload_n hx hb dX8_home_26 rfl (lv_at hl 1 rfl) ?_
    refine va_get (D := D) (ci := 8) (v := .int xtoday) (C := RX8) (T := TX8) (N := 14) hx hb htb iX8 hown hK.1 hP 0 rfl rfl 13 (by decide) (htb _ k_285) (fun _ h9 => h9) rfl dX8_home_27 ?_
    refine callRV (rest := []) (As := [.int xtoday]) hx hb hml hown htb hK (g_X7_holderOn l D E wh wa wf3 xtoday ) ok_X7_holderOn k_373 k_374 k_375 k_10 k_376 ⟨(Nat.le_of_ble_eq_true rfl), (Nat.le_of_ble_eq_true rfl)⟩ ⟨(Nat.le_of_ble_eq_true rfl), (Nat.le_of_ble_eq_true rfl)⟩ hl.1 (Nat.le_of_ble_eq_true rfl) rfl rfl dX8_home_30 (hP.sub (ws' := [(wh, .inr (7, G7 wa)), ((wa 3), .inl (E 0, 400, .inl wf3))]) [3, 4] rfl) rfl rfl 0 rfl (fun r_8 hw_9 => ?_)
    have hw_9R : r_8.toInt = (wf3 (xtoday).toNatClampNeg).toInt := by rcases hw_9 with h9 | h9 <;> first | exact congrArg Int32.toInt h9.2 | (exfalso; omega)
    refine lv_istore_n (lv' := [(3, .int r_8), (2, .ref wh), (0, .ref xh), (1, .int p0)]) hx hb dX8_home_33 rfl hl (by decide) rfl (fun ls hl => ?_)
    refine lv_iload_n hx hb dX8_home_34 rfl (lv_at hl 0 rfl) ?_
    refine lv_if_lt (tgt := 44) hx hb dX8_home_35 (by decide) (fun c_11 => ?_) (fun c_11 => ?_)
    ·
      have ic_11 : r_8.toInt < 0 := by first | exact (g_lt rfl t_0).mp c_11 | (have h := mt (g_le t_0 rfl).mpr c_11; omega)
      clear c_11
      refine lv_bipush (v := (-4)) hx hb dX8_home_44 (by decide) ?_
      have hP9 := hP.sub (ws' := [(xh, .inr (8, G8 xa xtrialRule xdropRule xtoday)), ((xa 1), .inl (E 0, 16, .inl xf1)), ((xa 3), .inl (E 3, 16, .inr (.inr (.inr (.inr xf3))))), (wh, .inr (7, G7 wa)), ((wa 3), .inl (E 0, 400, .inl wf3))]) [0, 1, 2, 3, 4] rfl
      have hD9 := hD.sub (ws' := [(xh, .inr (8, G8 xa xtrialRule xdropRule xtoday)), ((xa 1), .inl (E 0, 16, .inl xf1)), ((xa 3), .inl (E 3, 16, .inr (.inr (.inr (.inr xf3))))), (wh, .inr (7, G7 wa)), ((wa 3), .inl (E 0, 400, .inl wf3))]) [0, 1, 2, 3, 4] (by decide) rfl
      exact W.iret (v := (-4)) hx hb hr (fun t ht hW => ⟨⟨(-4), wf3, rfl, (by have hl0 := t_m4; (try dsimp only); first | exact Or.inl ⟨by omega, by omega, rfl⟩ | exact Or.inr ⟨by omega, by omega, by assumption⟩), by rw [ht]; exact hP9, hD9⟩, hS.F ht⟩) hS.2.2 dX8_home_46
    ·
      have ic_11 : 0 ≤ r_8.toInt := by first | exact (g_le t_0 rfl).mp c_11 | (have h := mt (g_lt rfl t_0).mpr c_11; omega)
      clear c_11
      refine lv_iload_n hx hb dX8_home_38 rfl (lv_at hl 0 rfl) ?_
      refine lv_bipush (v := 20) hx hb dX8_home_39 (by decide) ?_
      refine lv_icmp_lt (tgt := 47) hx hb dX8_home_41 (by decide) (fun c_12 => ?_) (fun c_12 => ?_)
      ·
        have ic_12 : r_8.toInt < 20 := by first | exact (g_lt rfl t_20).mp c_12 | (have h := mt (g_le t_20 rfl).mpr c_12; omega)
        clear c_12
        refine lv_aload_n hx hb dX8_home_47 rfl (lv_at hl 1 rfl) ?_
        refine lv_iconst (v := (-1)) hx hb dX8_home_48 (by decide) ?_
        refine lv_aload_n hx hb dX8_home_49 rfl (lv_at hl 2 rfl) ?_
        refine va_get (D := D) (ci := 8) (v := .int xtoday) (C := RX8) (T := TX8) (N := 14) hx hb htb iX8 hown hK.1 hP 0 rfl rfl 13 (by decide) (htb _ k_285) (fun _ h9 => h9) rfl dX8_home_50 ?_
        have hPc := hP.sub (ws' := [(wh, .inr (7, G7 wa)), ((wa 3), .inl (E 0, 400, .inl wf3))]) [3, 4] rfl
        have hDc := hD.sub (ws' := [(wh, .inr (7, G7 wa)), ((wa 3), .inl (E 0, 400, .inl wf3))]) [3, 4] (by decide) rfl
        refine aft_v (runMV (rest := []) (As := [.int (-1), .int xtoday]) hx hb hml hown htb hK (g_X7_giveTo l D E wh wa wf3 (-1) xtoday _ (by have h0 := t_m1; (try dsimp only); omega)) ok_X7_giveTo k_803 k_804 k_805 k_10 k_806 ⟨(Nat.le_of_ble_eq_true rfl), (Nat.le_of_ble_eq_true rfl)⟩ ⟨(Nat.le_of_ble_eq_true rfl), (Nat.le_of_ble_eq_true rfl)⟩ hl.1 (Nat.le_of_ble_eq_true rfl) rfl rfl dX8_home_53 hPc hDc rfl rfl 0 rfl) hP hD hS hA [3, 4] [0, 1, 2] (wr := [(xh, .inr (8, G8 xa xtrialRule xdropRule xtoday)), ((xa 1), .inl (E 0, 16, .inl xf1)), ((xa 3), .inl (E 3, 16, .inr (.inr (.inr (.inr xf3)))))]) rfl rfl (by decide) (by decide) (fun u_15 H locs hw_14 hP hD hS => ?_)
        clear hPc hDc
        have hP : va_P D vwCl [(xh, .inr (8, G8 xa xtrialRule xdropRule xtoday)), ((xa 1), .inl (E 0, 16, .inl xf1)), ((xa 3), .inl (E 3, 16, .inr (.inr (.inr (.inr xf3))))), (wh, .inr (7, G7 wa)), ((wa 3), .inl (E 0, 400, .inl u_15))] H := hP
        have hD := toW hP hD rfl
        try simp only [t_m1] at hw_14
        refine lv_iconst (v := 1) hx hb dX8_home_56 (by decide) ?_
        have hP9 := hP.sub (ws' := [(xh, .inr (8, G8 xa xtrialRule xdropRule xtoday)), ((xa 1), .inl (E 0, 16, .inl xf1)), ((xa 3), .inl (E 3, 16, .inr (.inr (.inr (.inr xf3))))), (wh, .inr (7, G7 wa)), ((wa 3), .inl (E 0, 400, .inl u_15))]) [0, 1, 2, 3, 4] rfl
        have hD9 := hD.sub (ws' := [(xh, .inr (8, G8 xa xtrialRule xdropRule xtoday)), ((xa 1), .inl (E 0, 16, .inl xf1)), ((xa 3), .inl (E 3, 16, .inr (.inr (.inr (.inr xf3))))), (wh, .inr (7, G7 wa)), ((wa 3), .inl (E 0, 400, .inl u_15))]) [0, 1, 2, 3, 4] (by decide) rfl
        exact W.iret (v := 1) hx hb hr (fun t ht hW => ⟨⟨1, u_15, rfl, (by have hl0 := t_1; (try dsimp only); first | exact Or.inl ⟨by omega, by omega, rfl⟩ | exact Or.inr ⟨by omega, by omega, by assumption⟩), by rw [ht]; exact hP9, hD9⟩, hS.F ht⟩) hS.2.2 dX8_home_57
      ·
        have ic_12 : 20 ≤ r_8.toInt := by first | exact (g_le t_20 rfl).mp c_12 | (have h := mt (g_lt rfl t_20).mpr c_12; omega)
        clear c_12
        refine lv_bipush (v := (-4)) hx hb dX8_home_44 (by decide) ?_
        have hP9 := hP.sub (ws' := [(xh, .inr (8, G8 xa xtrialRule xdropRule xtoday)), ((xa 1), .inl (E 0, 16, .inl xf1)), ((xa 3), .inl (E 3, 16, .inr (.inr (.inr (.inr xf3))))), (wh, .inr (7, G7 wa)), ((wa 3), .inl (E 0, 400, .inl wf3))]) [0, 1, 2, 3, 4] rfl
        have hD9 := hD.sub (ws' := [(xh, .inr (8, G8 xa xtrialRule xdropRule xtoday)), ((xa 1), .inl (E 0, 16, .inl xf1)), ((xa 3), .inl (E 3, 16, .inr (.inr (.inr (.inr xf3))))), (wh, .inr (7, G7 wa)), ((wa 3), .inl (E 0, 400, .inl wf3))]) [0, 1, 2, 3, 4] (by decide) rfl
        exact W.iret (v := (-4)) hx hb hr (fun t ht hW => ⟨⟨(-4), wf3, rfl, (by have hl0 := t_m4; (try dsimp only); first | exact Or.inl ⟨by omega, by omega, rfl⟩ | exact Or.inr ⟨by omega, by omega, by assumption⟩), by rw [ht]; exact hP9, hD9⟩, hS.F ht⟩) hS.2.2 dX8_home_46
  ·
    refine W_top (y := .int 0) (by rw [hr_1]) ?_
    refine lv_if_ne (tgt := 9) hx hb dX8_home_4 (by decide) (fun c_16 => absurd (by decide) c_16) (fun c_16 => ?_)
    refine lv_iconst (v := (-1)) hx hb dX8_home_7 (by decide) ?_
    have hP9 := hP.sub (ws' := [(xh, .inr (8, G8 xa xtrialRule xdropRule xtoday)), ((xa 1), .inl (E 0, 16, .inl xf1)), ((xa 3), .inl (E 3, 16, .inr (.inr (.inr (.inr xf3))))), (wh, .inr (7, G7 wa)), ((wa 3), .inl (E 0, 400, .inl wf3))]) [0, 1, 2, 3, 4] rfl
    have hD9 := hD.sub (ws' := [(xh, .inr (8, G8 xa xtrialRule xdropRule xtoday)), ((xa 1), .inl (E 0, 16, .inl xf1)), ((xa 3), .inl (E 3, 16, .inr (.inr (.inr (.inr xf3))))), (wh, .inr (7, G7 wa)), ((wa 3), .inl (E 0, 400, .inl wf3))]) [0, 1, 2, 3, 4] (by decide) rfl
    exact W.iret (v := (-1)) hx hb hr (fun t ht hW => ⟨⟨(-1), wf3, rfl, (by have hl0 := t_m1; (try dsimp only); first | exact Or.inl ⟨by omega, by omega, rfl⟩ | exact Or.inr ⟨by omega, by omega, by assumption⟩), by rw [ht]; exact hP9, hD9⟩, hS.F ht⟩) hS.2.2 dX8_home_8
set_option maxHeartbeats 4000000 in
set_option maxRecDepth 100000 in
theorem g_X8_holder_N (l : Launch) (D : va_G) (E : Nat → Nat) (xh : Nat) (xa : Nat → Nat) (xtrialRule : Nat) (xdropRule : Nat) (xtoday : Int32) (xf1 : Nat → Int32) (xf3 : Nat → Option Nat) (p0 : Int32) (p1 : Int32) (hi_x : (0 ≤ xtoday.toInt ∧ xtoday.toInt ≤ 399)) (hn0 : ¬ (0 ≤ p0.toInt ∧ p0.toInt ≤ 15 ∧ ((xf1 (p0).toNatClampNeg).toInt = 0 ∨ (xf1 (p0).toNatClampNeg).toInt = 1))) : Met l yX8_holder (wl yX8_holder cX8_holder 4 (some .int)) (RM 2 0 0) (rd_P D E [.ref xh, .int p0, .int p1] [(xh, .inr (8, G8 xa xtrialRule xdropRule xtoday)), ((xa 1), .inl (E 0, 16, .inl xf1)), ((xa 3), .inl (E 3, 16, .inr (.inr (.inr (.inr xf3)))))]) (rd_Q (fun r => ((r.toInt = -2000000000)))) 0 0 (fun _ => False) := by
  refine Met.ofW (cc := cX8_holder) (maxL := 4) (ret := (some .int)) (by decide) rfl ?_
  intro p e s m args below meth c s₁ B hml hv
  obtain ⟨rfl, hP, hK⟩ := hv
  have hx := B.exec; have hb := B.bytes; have hr := B.returns
  have hts := atoms_spec (ws := wl yX8_holder cX8_holder 4 (some .int)) B.pre
  have htb : ∀ w ∈ tb, w.before _ s = true := fun w h => hts w (List.mem_cons_of_mem _ h)
  have hown : s.vm.findClass RX8 = some m.cls := findClass_of_methodNamed B.named
  have hlocks := B.notSynchronized
  have hP : va_P D vwCl [(xh, .inr (8, G8 xa xtrialRule xdropRule xtoday)), ((xa 1), .inl (E 0, 16, .inl xf1)), ((xa 3), .inl (E 3, 16, .inr (.inr (.inr (.inr xf3)))))] s.heap := hP
  have hl := lv_entry ([.ref xh, .int p0, .int p1]) (n := 4) (Nat.le_of_ble_eq_true rfl)
  rw [lg_entry_eq]
  generalize (lg_sl ([.ref xh, .int p0, .int p1]) ++ List.replicate (4 - (lg_sl ([.ref xh, .int p0, .int p1])).length) Slot.unset).toArray = ls at hl ⊢
  have hl : lv_has ls 4 [(0, .ref xh), (1, .int p0), (2, .int p1)] := hl
  have lo_p0 := i_lo p0; have hi_p0 := i_hi p0
  have lo_p1 := i_lo p1; have hi_p1 := i_hi p1
  refine lv_aload_n hx hb dX8_holder_0 rfl (lv_at hl 0 rfl) ?_
  refine lv_iload_n hx hb dX8_holder_1 rfl (lv_at hl 1 rfl) ?_
  refine rn_call (runRV (rest := []) (As := [.int p0]) hx hb hml hown htb (g_X8_watchAt_N l D E xh xa xtrialRule xdropRule xtoday xf1 xf3 p0 (by (try dsimp only); omega) hn0) ok_X8_watchAt k_369 k_371 ks_1 k_1 k_372 ⟨(Nat.le_of_ble_eq_true rfl), (Nat.le_of_ble_eq_true rfl)⟩ ⟨(Nat.le_of_ble_eq_true rfl), (Nat.le_of_ble_eq_true rfl)⟩ hl.1 (Nat.le_of_ble_eq_true rfl) rfl rfl dX8_holder_2 (prV (hP.sub (ws' := [(xh, .inr (8, G8 xa xtrialRule xdropRule xtoday)), ((xa 1), .inl (E 0, 16, .inl xf1)), ((xa 3), .inl (E 3, 16, .inr (.inr (.inr (.inr xf3)))))]) [0, 1, 2] rfl) hK rfl rfl 0 rfl)) ?_
  refine lv_astore_nN (lv' := [(3, .null), (0, .ref xh), (1, .int p0), (2, .int p1)]) hx hb dX8_holder_5 rfl hl (by decide) rfl (fun ls hl => ?_)
  refine lv_aload_nN hx hb dX8_holder_6 rfl (lv_at hl 0 rfl) ?_
  refine lv_ifnullN (tgt := 18) hx hb dX8_holder_7 (by decide) ?_
  refine lv_ldc hx hb hown (htb _ k_386) dX8_holder_18 ?_
  refine lv_goto (tgt := 28) hx hb dX8_holder_20 (by decide) ?_
  exact W.iret (v := (-2000000000)) hx hb hr (fun t ht hW => ⟨(-2000000000), rfl, (by have hl0 := t_m2000000000; (try dsimp only); first | exact (by omega)), ht⟩) (fun q h => by cases h) dX8_holder_28
set_option maxHeartbeats 4000000 in
set_option maxRecDepth 100000 in
theorem g_X8_holder_W (l : Launch) (D : va_G) (E : Nat → Nat) (xh : Nat) (xa : Nat → Nat) (xtrialRule : Nat) (xdropRule : Nat) (xtoday : Int32) (xf1 : Nat → Int32) (xf3 : Nat → Option Nat) (wh : Nat) (wa : Nat → Nat) (wf3 : Nat → Int32) (p0 : Int32) (p1 : Int32) (hi_x : (0 ≤ xtoday.toInt ∧ xtoday.toInt ≤ 399)) (hk0 : (0 ≤ p0.toInt ∧ p0.toInt ≤ 15 ∧ ((xf1 (p0).toNatClampNeg).toInt = 0 ∨ (xf1 (p0).toNatClampNeg).toInt = 1))) (hw0 : xf3 (p0).toNatClampNeg = some wh) : Met l yX8_holder (wl yX8_holder cX8_holder 4 (some .int)) (RM 2 0 0) (rd_P D E [.ref xh, .int p0, .int p1] [(xh, .inr (8, G8 xa xtrialRule xdropRule xtoday)), ((xa 1), .inl (E 0, 16, .inl xf1)), ((xa 3), .inl (E 3, 16, .inr (.inr (.inr (.inr xf3))))), (wh, .inr (7, G7 wa)), ((wa 3), .inl (E 0, 400, .inl wf3))]) (rd_Q (fun r => (((0 ≤ p1.toInt ∧ p1.toInt ≤ xtoday.toInt) ∧ r.toInt = (wf3 (p1).toNatClampNeg).toInt) ∨ (¬ (0 ≤ p1.toInt ∧ p1.toInt ≤ xtoday.toInt) ∧ r.toInt = -2000000000)))) 0 0 (fun _ => False) := by
  refine Met.ofW (cc := cX8_holder) (maxL := 4) (ret := (some .int)) (by decide) rfl ?_
  intro p e s m args below meth c s₁ B hml hv
  obtain ⟨rfl, hP, hK⟩ := hv
  have hx := B.exec; have hb := B.bytes; have hr := B.returns
  have hts := atoms_spec (ws := wl yX8_holder cX8_holder 4 (some .int)) B.pre
  have htb : ∀ w ∈ tb, w.before _ s = true := fun w h => hts w (List.mem_cons_of_mem _ h)
  have hown : s.vm.findClass RX8 = some m.cls := findClass_of_methodNamed B.named
  have hlocks := B.notSynchronized
  have hP : va_P D vwCl [(xh, .inr (8, G8 xa xtrialRule xdropRule xtoday)), ((xa 1), .inl (E 0, 16, .inl xf1)), ((xa 3), .inl (E 3, 16, .inr (.inr (.inr (.inr xf3))))), (wh, .inr (7, G7 wa)), ((wa 3), .inl (E 0, 400, .inl wf3))] s.heap := hP
  have hl := lv_entry ([.ref xh, .int p0, .int p1]) (n := 4) (Nat.le_of_ble_eq_true rfl)
  rw [lg_entry_eq]
  generalize (lg_sl ([.ref xh, .int p0, .int p1]) ++ List.replicate (4 - (lg_sl ([.ref xh, .int p0, .int p1])).length) Slot.unset).toArray = ls at hl ⊢
  have hl : lv_has ls 4 [(0, .ref xh), (1, .int p0), (2, .int p1)] := hl
  have lo_p0 := i_lo p0; have hi_p0 := i_hi p0
  have lo_p1 := i_lo p1; have hi_p1 := i_hi p1
  refine lv_aload_n hx hb dX8_holder_0 rfl (lv_at hl 0 rfl) ?_
  refine lv_iload_n hx hb dX8_holder_1 rfl (lv_at hl 1 rfl) ?_
  refine rr_call (runRV (rest := []) (As := [.int p0]) hx hb hml hown htb (g_X8_watchAt_W l D E xh xa xtrialRule xdropRule xtoday xf1 xf3 wh wa p0 (by (try dsimp only); omega) hk0 hw0) ok_X8_watchAt k_369 k_371 ks_1 k_1 k_372 ⟨(Nat.le_of_ble_eq_true rfl), (Nat.le_of_ble_eq_true rfl)⟩ ⟨(Nat.le_of_ble_eq_true rfl), (Nat.le_of_ble_eq_true rfl)⟩ hl.1 (Nat.le_of_ble_eq_true rfl) rfl rfl dX8_holder_2 (prV (hP.sub (ws' := [(xh, .inr (8, G8 xa xtrialRule xdropRule xtoday)), ((xa 1), .inl (E 0, 16, .inl xf1)), ((xa 3), .inl (E 3, 16, .inr (.inr (.inr (.inr xf3))))), (wh, .inr (7, G7 wa))]) [0, 1, 2, 3] rfl) hK rfl rfl 0 rfl)) ?_
  refine lv_astore_n (lv' := [(3, .ref wh), (0, .ref xh), (1, .int p0), (2, .int p1)]) hx hb dX8_holder_5 rfl hl (by decide) rfl (fun ls hl => ?_)
  refine lv_aload_n hx hb dX8_holder_6 rfl (lv_at hl 0 rfl) ?_
  refine lv_ifnull hx hb dX8_holder_7 ?_
  refine lv_aload_n hx hb dX8_holder_10 rfl (lv_at hl 1 rfl) ?_
  refine lv_iload_n hx hb dX8_holder_11 rfl (lv_at hl 3 rfl) ?_
  refine callRV (rest := []) (As := [.int p1]) hx hb hml hown htb hK (g_X8_isPast l D E xh xa xtrialRule xdropRule xtoday p1 (by (try dsimp only); omega)) ok_X8_isPast k_391 k_393 ks_2 k_1 k_394 ⟨(Nat.le_of_ble_eq_true rfl), (Nat.le_of_ble_eq_true rfl)⟩ ⟨(Nat.le_of_ble_eq_true rfl), (Nat.le_of_ble_eq_true rfl)⟩ hl.1 (Nat.le_of_ble_eq_true rfl) rfl rfl dX8_holder_12 (hP.sub (ws' := [(xh, .inr (8, G8 xa xtrialRule xdropRule xtoday))]) [0] rfl) rfl rfl 0 rfl (fun r_4 hw_5 => ?_)
  rcases hw_5 with ⟨hr_4, hw_5⟩ | ⟨hr_4, hw_5⟩
  ·
    refine W_top (y := .int 1) (by rw [hr_4]) ?_
    refine lv_if_ne (tgt := 23) hx hb dX8_holder_15 (by decide) (fun c_7 => ?_) (fun c_7 => absurd c_7 (by decide))
    refine lv_aload_n hx hb dX8_holder_23 rfl (lv_at hl 0 rfl) ?_
    refine lv_iload_n hx hb dX8_holder_24 rfl (lv_at hl 3 rfl) ?_
    refine callRV (rest := []) (As := [.int p1]) hx hb hml hown htb hK (g_X7_holderOn l D E wh wa wf3 p1 ) ok_X7_holderOn k_373 k_374 k_375 k_10 k_376 ⟨(Nat.le_of_ble_eq_true rfl), (Nat.le_of_ble_eq_true rfl)⟩ ⟨(Nat.le_of_ble_eq_true rfl), (Nat.le_of_ble_eq_true rfl)⟩ hl.1 (Nat.le_of_ble_eq_true rfl) rfl rfl dX8_holder_25 (hP.sub (ws' := [(wh, .inr (7, G7 wa)), ((wa 3), .inl (E 0, 400, .inl wf3))]) [3, 4] rfl) rfl rfl 0 rfl (fun r_8 hw_9 => ?_)
    have hw_9R : r_8.toInt = (wf3 (p1).toNatClampNeg).toInt := by rcases hw_9 with h9 | h9 <;> first | exact congrArg Int32.toInt h9.2 | (exfalso; omega)
    exact W.iret (v := r_8) hx hb hr (fun t ht hW => ⟨r_8, rfl, (by (try dsimp only); first | exact Or.inl ⟨by omega, by omega⟩ | exact Or.inr ⟨by omega, by omega⟩), ht⟩) (fun q h => by cases h) dX8_holder_28
  ·
    refine W_top (y := .int 0) (by rw [hr_4]) ?_
    refine lv_if_ne (tgt := 23) hx hb dX8_holder_15 (by decide) (fun c_11 => absurd (by decide) c_11) (fun c_11 => ?_)
    refine lv_ldc hx hb hown (htb _ k_386) dX8_holder_18 ?_
    refine lv_goto (tgt := 28) hx hb dX8_holder_20 (by decide) ?_
    exact W.iret (v := (-2000000000)) hx hb hr (fun t ht hW => ⟨(-2000000000), rfl, (by have hl0 := t_m2000000000; (try dsimp only); first | exact Or.inl ⟨by omega, by omega⟩ | exact Or.inr ⟨by omega, by omega⟩), ht⟩) (fun q h => by cases h) dX8_holder_28
set_option maxHeartbeats 4000000 in
set_option maxRecDepth 100000 in
theorem g_X8_away_N (l : Launch) (D : va_G) (E : Nat → Nat) (xh : Nat) (xa : Nat → Nat) (xtrialRule : Nat) (xdropRule : Nat) (xtoday : Int32) (xf1 : Nat → Int32) (xf3 : Nat → Option Nat) (p0 : Int32) (hi_x : (0 ≤ xtoday.toInt ∧ xtoday.toInt ≤ 399)) (hn0 : ¬ (0 ≤ p0.toInt ∧ p0.toInt ≤ 15 ∧ ((xf1 (p0).toNatClampNeg).toInt = 0 ∨ (xf1 (p0).toNatClampNeg).toInt = 1))) : Met l yX8_away (wl yX8_away cX8_away 3 (some .int)) (RM 2 0 0) (rd_P D E [.ref xh, .int p0] [(xh, .inr (8, G8 xa xtrialRule xdropRule xtoday)), ((xa 1), .inl (E 0, 16, .inl xf1)), ((xa 3), .inl (E 3, 16, .inr (.inr (.inr (.inr xf3)))))]) (rd_Q (fun r => ((r.toInt = -1 ∧ ¬ ((0 ≤ p0.toInt ∧ p0.toInt ≤ 15))) ∨ (((0 ≤ p0.toInt ∧ p0.toInt ≤ 15)) ∧ (((xf1 (p0).toNatClampNeg).toInt = -5 ∧ r.toInt = -2) ∨ ((xf1 (p0).toNatClampNeg).toInt ≠ -5 ∧ r.toInt = -3)))))) 0 0 (fun _ => False) := by
  refine Met.ofW (cc := cX8_away) (maxL := 3) (ret := (some .int)) (by decide) rfl ?_
  intro p e s m args below meth c s₁ B hml hv
  obtain ⟨rfl, hP, hK⟩ := hv
  have hx := B.exec; have hb := B.bytes; have hr := B.returns
  have hts := atoms_spec (ws := wl yX8_away cX8_away 3 (some .int)) B.pre
  have htb : ∀ w ∈ tb, w.before _ s = true := fun w h => hts w (List.mem_cons_of_mem _ h)
  have hown : s.vm.findClass RX8 = some m.cls := findClass_of_methodNamed B.named
  have hlocks := B.notSynchronized
  have hP : va_P D vwCl [(xh, .inr (8, G8 xa xtrialRule xdropRule xtoday)), ((xa 1), .inl (E 0, 16, .inl xf1)), ((xa 3), .inl (E 3, 16, .inr (.inr (.inr (.inr xf3)))))] s.heap := hP
  have hl := lv_entry ([.ref xh, .int p0]) (n := 3) (Nat.le_of_ble_eq_true rfl)
  rw [lg_entry_eq]
  generalize (lg_sl ([.ref xh, .int p0]) ++ List.replicate (3 - (lg_sl ([.ref xh, .int p0])).length) Slot.unset).toArray = ls at hl ⊢
  have hl : lv_has ls 3 [(0, .ref xh), (1, .int p0)] := hl
  have lo_p0 := i_lo p0; have hi_p0 := i_hi p0
  refine lv_iload_n hx hb dX8_away_0 rfl (lv_at hl 1 rfl) ?_
  refine callRS (rest := []) (As := [.int p0]) hx hb hml hown htb hK (g_X8_isPlace l D E p0 ) ok_X8_isPlace k_333 k_334 k_1 k_335 ⟨(Nat.le_of_ble_eq_true rfl), (Nat.le_of_ble_eq_true rfl)⟩ ⟨(Nat.le_of_ble_eq_true rfl), (Nat.le_of_ble_eq_true rfl)⟩ hl.1 (Nat.le_of_ble_eq_true rfl) rfl rfl dX8_away_1 (hP.sub (ws' := ([] : va_W)) [] rfl) (fun r_1 hw_2 => ?_)
  rcases hw_2 with ⟨hr_1, hw_2⟩ | ⟨hr_1, hw_2⟩
  ·
    refine W_top (y := .int 1) (by rw [hr_1]) ?_
    refine lv_if_ne (tgt := 9) hx hb dX8_away_4 (by decide) (fun c_4 => ?_) (fun c_4 => absurd c_4 (by decide))
    refine lv_aload_n hx hb dX8_away_9 rfl (lv_at hl 0 rfl) ?_
    refine lv_iload_n hx hb dX8_away_10 rfl (lv_at hl 1 rfl) ?_
    refine rn_call (runRV (rest := []) (As := [.int p0]) hx hb hml hown htb (g_X8_watchAt_N l D E xh xa xtrialRule xdropRule xtoday xf1 xf3 p0 (by (try dsimp only); omega) hn0) ok_X8_watchAt k_369 k_371 ks_1 k_1 k_372 ⟨(Nat.le_of_ble_eq_true rfl), (Nat.le_of_ble_eq_true rfl)⟩ ⟨(Nat.le_of_ble_eq_true rfl), (Nat.le_of_ble_eq_true rfl)⟩ hl.1 (Nat.le_of_ble_eq_true rfl) rfl rfl dX8_away_11 (prV (hP.sub (ws' := [(xh, .inr (8, G8 xa xtrialRule xdropRule xtoday)), ((xa 1), .inl (E 0, 16, .inl xf1)), ((xa 3), .inl (E 3, 16, .inr (.inr (.inr (.inr xf3)))))]) [0, 1, 2] rfl) hK rfl rfl 0 rfl)) ?_
    refine lv_astore_nN (lv' := [(2, .null), (0, .ref xh), (1, .int p0)]) hx hb dX8_away_14 rfl hl (by decide) rfl (fun ls hl => ?_)
    refine lv_aload_nN hx hb dX8_away_15 rfl (lv_at hl 0 rfl) ?_
    refine lv_ifnonnullN hx hb dX8_away_16 ?_
    refine lv_aload_n hx hb dX8_away_19 rfl (lv_at hl 1 rfl) ?_
    refine lv_iload_n hx hb dX8_away_20 rfl (lv_at hl 2 rfl) ?_
    refine callRV (rest := []) (As := [.int p0]) hx hb hml hown htb hK (g_X8_lackAt l D E xh xa xtrialRule xdropRule xtoday xf1 p0 (by (try dsimp only); omega)) ok_X8_lackAt k_396 k_398 ks_3 k_1 k_399 ⟨(Nat.le_of_ble_eq_true rfl), (Nat.le_of_ble_eq_true rfl)⟩ ⟨(Nat.le_of_ble_eq_true rfl), (Nat.le_of_ble_eq_true rfl)⟩ hl.1 (Nat.le_of_ble_eq_true rfl) rfl rfl dX8_away_21 (hP.sub (ws' := [(xh, .inr (8, G8 xa xtrialRule xdropRule xtoday)), ((xa 1), .inl (E 0, 16, .inl xf1))]) [0, 1] rfl) rfl rfl 0 rfl (fun r_8 hw_9 => ?_)
    refine lv_goto (tgt := 35) hx hb dX8_away_24 (by decide) ?_
    exact W.iret (v := r_8) hx hb hr (fun t ht hW => ⟨r_8, rfl, (by (try dsimp only); first | exact Or.inl ⟨by omega, by omega⟩ | exact Or.inr ⟨by omega, by omega⟩), ht⟩) (fun q h => by cases h) dX8_away_35
  ·
    refine W_top (y := .int 0) (by rw [hr_1]) ?_
    refine lv_if_ne (tgt := 9) hx hb dX8_away_4 (by decide) (fun c_11 => absurd (by decide) c_11) (fun c_11 => ?_)
    refine lv_iconst (v := (-1)) hx hb dX8_away_7 (by decide) ?_
    exact W.iret (v := (-1)) hx hb hr (fun t ht hW => ⟨(-1), rfl, (by have hl0 := t_m1; (try dsimp only); first | exact Or.inl ⟨by omega, by omega⟩ | exact Or.inr ⟨by omega, by omega⟩), ht⟩) (fun q h => by cases h) dX8_away_8
set_option maxHeartbeats 4000000 in
set_option maxRecDepth 100000 in
theorem g_X8_away_W (l : Launch) (D : va_G) (E : Nat → Nat) (xh : Nat) (xa : Nat → Nat) (xtrialRule : Nat) (xdropRule : Nat) (xtoday : Int32) (xf1 : Nat → Int32) (xf3 : Nat → Option Nat) (wh : Nat) (wa : Nat → Nat) (wf3 : Nat → Int32) (p0 : Int32) (hi_x : (0 ≤ xtoday.toInt ∧ xtoday.toInt ≤ 399)) (hk0 : (0 ≤ p0.toInt ∧ p0.toInt ≤ 15 ∧ ((xf1 (p0).toNatClampNeg).toInt = 0 ∨ (xf1 (p0).toNatClampNeg).toInt = 1))) (hw0 : xf3 (p0).toNatClampNeg = some wh) : Met l yX8_away (wl yX8_away cX8_away 3 (some .int)) (RM 2 0 0) (rd_P D E [.ref xh, .int p0] [(xh, .inr (8, G8 xa xtrialRule xdropRule xtoday)), ((xa 1), .inl (E 0, 16, .inl xf1)), ((xa 3), .inl (E 3, 16, .inr (.inr (.inr (.inr xf3))))), (wh, .inr (7, G7 wa)), ((wa 3), .inl (E 0, 400, .inl wf3))]) (rd_Q (fun r => ((r.toInt = awN wf3 (xtoday.toInt + 1).toNat)))) 0 0 (fun _ => False) := by
  refine Met.ofW (cc := cX8_away) (maxL := 3) (ret := (some .int)) (by decide) rfl ?_
  intro p e s m args below meth c s₁ B hml hv
  obtain ⟨rfl, hP, hK⟩ := hv
  have hx := B.exec; have hb := B.bytes; have hr := B.returns
  have hts := atoms_spec (ws := wl yX8_away cX8_away 3 (some .int)) B.pre
  have htb : ∀ w ∈ tb, w.before _ s = true := fun w h => hts w (List.mem_cons_of_mem _ h)
  have hown : s.vm.findClass RX8 = some m.cls := findClass_of_methodNamed B.named
  have hlocks := B.notSynchronized
  have hP : va_P D vwCl [(xh, .inr (8, G8 xa xtrialRule xdropRule xtoday)), ((xa 1), .inl (E 0, 16, .inl xf1)), ((xa 3), .inl (E 3, 16, .inr (.inr (.inr (.inr xf3))))), (wh, .inr (7, G7 wa)), ((wa 3), .inl (E 0, 400, .inl wf3))] s.heap := hP
  have hl := lv_entry ([.ref xh, .int p0]) (n := 3) (Nat.le_of_ble_eq_true rfl)
  rw [lg_entry_eq]
  generalize (lg_sl ([.ref xh, .int p0]) ++ List.replicate (3 - (lg_sl ([.ref xh, .int p0])).length) Slot.unset).toArray = ls at hl ⊢
  have hl : lv_has ls 3 [(0, .ref xh), (1, .int p0)] := hl
  have lo_p0 := i_lo p0; have hi_p0 := i_hi p0
  refine lv_iload_n hx hb dX8_away_0 rfl (lv_at hl 1 rfl) ?_
  refine callRS (rest := []) (As := [.int p0]) hx hb hml hown htb hK (g_X8_isPlace l D E p0 ) ok_X8_isPlace k_333 k_334 k_1 k_335 ⟨(Nat.le_of_ble_eq_true rfl), (Nat.le_of_ble_eq_true rfl)⟩ ⟨(Nat.le_of_ble_eq_true rfl), (Nat.le_of_ble_eq_true rfl)⟩ hl.1 (Nat.le_of_ble_eq_true rfl) rfl rfl dX8_away_1 (hP.sub (ws' := ([] : va_W)) [] rfl) (fun r_1 hw_2 => ?_)
  rcases hw_2 with ⟨hr_1, hw_2⟩ | ⟨hr_1, hw_2⟩
  ·
    refine W_top (y := .int 1) (by rw [hr_1]) ?_
    refine lv_if_ne (tgt := 9) hx hb dX8_away_4 (by decide) (fun c_4 => ?_) (fun c_4 => absurd c_4 (by decide))
    refine lv_aload_n hx hb dX8_away_9 rfl (lv_at hl 0 rfl) ?_
    refine lv_iload_n hx hb dX8_away_10 rfl (lv_at hl 1 rfl) ?_
    refine rr_call (runRV (rest := []) (As := [.int p0]) hx hb hml hown htb (g_X8_watchAt_W l D E xh xa xtrialRule xdropRule xtoday xf1 xf3 wh wa p0 (by (try dsimp only); omega) hk0 hw0) ok_X8_watchAt k_369 k_371 ks_1 k_1 k_372 ⟨(Nat.le_of_ble_eq_true rfl), (Nat.le_of_ble_eq_true rfl)⟩ ⟨(Nat.le_of_ble_eq_true rfl), (Nat.le_of_ble_eq_true rfl)⟩ hl.1 (Nat.le_of_ble_eq_true rfl) rfl rfl dX8_away_11 (prV (hP.sub (ws' := [(xh, .inr (8, G8 xa xtrialRule xdropRule xtoday)), ((xa 1), .inl (E 0, 16, .inl xf1)), ((xa 3), .inl (E 3, 16, .inr (.inr (.inr (.inr xf3))))), (wh, .inr (7, G7 wa))]) [0, 1, 2, 3] rfl) hK rfl rfl 0 rfl)) ?_
    refine lv_astore_n (lv' := [(2, .ref wh), (0, .ref xh), (1, .int p0)]) hx hb dX8_away_14 rfl hl (by decide) rfl (fun ls hl => ?_)
    refine lv_aload_n hx hb dX8_away_15 rfl (lv_at hl 0 rfl) ?_
    refine lv_ifnonnull (tgt := 27) hx hb dX8_away_16 (by decide) ?_
    refine lv_aload_n hx hb dX8_away_27 rfl (lv_at hl 0 rfl) ?_
    refine lv_aload_n hx hb dX8_away_28 rfl (lv_at hl 1 rfl) ?_
    refine va_get (D := D) (ci := 8) (v := .int xtoday) (C := RX8) (T := TX8) (N := 14) hx hb htb iX8 hown hK.1 hP 0 rfl rfl 13 (by decide) (htb _ k_285) (fun _ h9 => h9) rfl dX8_away_29 ?_
    refine callRV (rest := []) (As := [.int xtoday]) hx hb hml hown htb hK (g_X7_daysAway l D E wh wa wf3 xtoday (by (try dsimp only); omega)) ok_X7_daysAway k_937 k_938 k_939 k_10 k_940 ⟨(Nat.le_of_ble_eq_true rfl), (Nat.le_of_ble_eq_true rfl)⟩ ⟨(Nat.le_of_ble_eq_true rfl), (Nat.le_of_ble_eq_true rfl)⟩ hl.1 (Nat.le_of_ble_eq_true rfl) rfl rfl dX8_away_32 (hP.sub (ws' := [(wh, .inr (7, G7 wa)), ((wa 3), .inl (E 0, 400, .inl wf3))]) [3, 4] rfl) rfl rfl 0 rfl (fun r_8 hw_9 => ?_)
    exact W.iret (v := r_8) hx hb hr (fun t ht hW => ⟨r_8, rfl, (by (try dsimp only); first | exact (by first | assumption | (exfalso; omega))), ht⟩) (fun q h => by cases h) dX8_away_35
  ·
    refine W_top (y := .int 0) (by rw [hr_1]) ?_
    refine lv_if_ne (tgt := 9) hx hb dX8_away_4 (by decide) (fun c_11 => absurd (by decide) c_11) (fun c_11 => ?_)
    refine lv_iconst (v := (-1)) hx hb dX8_away_7 (by decide) ?_
    exact W.iret (v := (-1)) hx hb hr (fun t ht hW => ⟨(-1), rfl, (by have hl0 := t_m1; (try dsimp only); first | exact (by first | assumption | (exfalso; omega))), ht⟩) (fun q h => by cases h) dX8_away_8
end
section
set_option maxHeartbeats 4000000 in
set_option maxRecDepth 100000 in
theorem g_X8_fitLaw_W (l : Launch) (D : va_G) (E : Nat → Nat) (xh : Nat) (xa : Nat → Nat) (xtrialRule : Nat) (xdropRule : Nat) (xtoday : Int32) (xf0 : Nat → Int32) (xf1 : Nat → Int32) (xf2 : Nat → Int32) (xf3 : Nat → Option Nat) (wh : Nat) (wa : Nat → Nat) (wf0 : Nat → Int32) (wf1 : Nat → Int32) (wf2 : Nat → Int32) (oa : Nat → Nat) (osize : Int32) (of0 : Nat → Int32) (of1 : Nat → Int32) (of2 : Nat → Int32) (of3 : Nat → Int32) (of4 : Nat → Int32) (ra : Nat → Nat) (rsize : Int32) (rf0 : Nat → Int32) (rf1 : Nat → Int32) (fa : Nat → Nat) (fn : Int64) (fsumR : Int64) (fsumW : Int64) (fsumA : Int64) (fsumWW : Int64) (fsumAA : Int64) (fsumWA : Int64) (fsumWR : Int64) (fsumAR : Int64) (fdivisor : Int64) (fbyWarmth : Int64) (fbyAge : Int64) (fform : Int32) (fwhole : Int64) (frest : Int64) (p0 : Int32) (p1 : Int32) (p2 : Int32) (sz : Nat) (hi_x : (0 ≤ xtoday.toInt ∧ xtoday.toInt ≤ 399)) (hi_o : (0 ≤ osize.toInt ∧ osize.toInt ≤ 60)) (hi_r : (0 ≤ rsize.toInt ∧ rsize.toInt ≤ 60)) (hr_r0 : ∀ k : Nat, k < 60 → 0 ≤ (rf0 k).toInt ∧ (rf0 k).toInt ≤ 399) (hk0 : (0 ≤ p0.toInt ∧ p0.toInt ≤ 15 ∧ ((xf1 (p0).toNatClampNeg).toInt = 0 ∨ (xf1 (p0).toNatClampNeg).toInt = 1))) (hw0 : xf3 (p0).toNatClampNeg = some wh) (g1 : 0 ≤ p1.toInt ∧ p1.toInt ≤ 399 ∧ p2.toInt ≤ 399 ∧ p2.toInt - p1.toInt ≤ 60) : Met l yX8_fitLaw (wl yX8_fitLaw cX8_fitLaw 8 none) (RM 4 0 0) (mu_P D E [.ref xh, .int p0, .int p1, .int p2] [(xh, .inr (8, G8 xa xtrialRule xdropRule xtoday)), ((xa 0), .inl (E 0, 400, .inl xf0)), ((xa 1), .inl (E 0, 16, .inl xf1)), ((xa 2), .inl (E 0, 16, .inl xf2)), ((xa 3), .inl (E 3, 16, .inr (.inr (.inr (.inr xf3))))), (wh, .inr (7, G7 wa)), ((wa 0), .inl (E 0, 400, .inl wf0)), ((wa 1), .inl (E 0, 400, .inl wf1)), ((wa 2), .inl (E 0, 400, .inl wf2)), ((xa 6), .inr (2, G2 oa osize)), ((oa 0), .inl (E 0, 60, .inl of0)), ((oa 1), .inl (E 0, 60, .inl of1)), ((oa 2), .inl (E 0, 60, .inl of2)), ((oa 3), .inl (E 0, 60, .inl of3)), ((oa 4), .inl (E 0, 60, .inl of4)), ((xa 7), .inr (3, G3 ra rsize)), ((ra 0), .inl (E 0, 60, .inl rf0)), ((ra 1), .inl (E 0, 60, .inl rf1)), ((xa 8), .inr (1, G1 fa fn fsumR fsumW fsumA fsumWW fsumAA fsumWA fsumWR fsumAR fdivisor fbyWarmth fbyAge fform fwhole frest))] sz) (va_Qv (fun (u : (Int64) × (Int64) × (Int64) × (Int32) × (Int64) × (Int64) × (Int64) × (Int64) × (Int64) × (Int64) × (Int64) × (Int64) × (Int64) × (Nat → Int32) × (Nat → Int32) × (Int32)) => (∀ k : Nat, k < 60 → 0 ≤ (u.2.2.2.2.2.2.2.2.2.2.2.2.2.1 k).toInt ∧ (u.2.2.2.2.2.2.2.2.2.2.2.2.2.1 k).toInt ≤ 399) ∧ (0 ≤ u.2.2.2.2.2.2.2.2.2.2.2.2.2.2.2.toInt ∧ u.2.2.2.2.2.2.2.2.2.2.2.2.2.2.2.toInt ≤ 60) ∧ (((u.2.2.2.2.1, u.2.2.2.2.2.2.2.2.1, u.2.2.2.2.2.2.2.2.2.1, u.2.2.2.2.2.1, u.2.2.2.2.2.2.2.2.2.2.2.2.1, u.2.2.2.2.2.2.1, u.2.2.2.2.2.2.2.2.2.2.1, u.2.2.2.2.2.2.2.2.2.2.2.1, u.2.2.2.2.2.2.2.1) : S9) = fold9 (fun d => wmF xf1 xf2 xf0 p0 d) (fun d => agX wf2 d) (-100) (rateL (rXn wf0 wf1 wf2 of0 of1 of2 of3 of4 osize) p1 (p2.toInt - p1.toInt).toNat)) ∧ (((u.2.2.2.1, u.2.2.1, u.2.1, u.1) : Int32 × Int64 × Int64 × Int64) = solX (fold9 (fun d => wmF xf1 xf2 xf0 p0 d) (fun d => agX wf2 d) (-100) (rateL (rXn wf0 wf1 wf2 of0 of1 of2 of3 of4 osize) p1 (p2.toInt - p1.toInt).toNat)))) (mu_B D (va_A [(xh, .inr (8, G8 xa xtrialRule xdropRule xtoday)), ((xa 0), .inl (E 0, 400, .inl xf0)), ((xa 1), .inl (E 0, 16, .inl xf1)), ((xa 2), .inl (E 0, 16, .inl xf2)), ((xa 3), .inl (E 3, 16, .inr (.inr (.inr (.inr xf3))))), (wh, .inr (7, G7 wa)), ((wa 0), .inl (E 0, 400, .inl wf0)), ((wa 1), .inl (E 0, 400, .inl wf1)), ((wa 2), .inl (E 0, 400, .inl wf2)), ((xa 6), .inr (2, G2 oa osize)), ((oa 0), .inl (E 0, 60, .inl of0)), ((oa 1), .inl (E 0, 60, .inl of1)), ((oa 2), .inl (E 0, 60, .inl of2)), ((oa 3), .inl (E 0, 60, .inl of3)), ((oa 4), .inl (E 0, 60, .inl of4)), ((xa 7), .inr (3, G3 ra rsize)), ((ra 0), .inl (E 0, 60, .inl rf0)), ((ra 1), .inl (E 0, 60, .inl rf1)), ((xa 8), .inr (1, G1 fa fn fsumR fsumW fsumA fsumWW fsumAA fsumWA fsumWR fsumAR fdivisor fbyWarmth fbyAge fform fwhole frest))] sz) (fun (u : (Int64) × (Int64) × (Int64) × (Int32) × (Int64) × (Int64) × (Int64) × (Int64) × (Int64) × (Int64) × (Int64) × (Int64) × (Int64) × (Nat → Int32) × (Nat → Int32) × (Int32)) => [(xh, .inr (8, G8 xa xtrialRule xdropRule xtoday)), ((xa 0), .inl (E 0, 400, .inl xf0)), ((xa 1), .inl (E 0, 16, .inl xf1)), ((xa 2), .inl (E 0, 16, .inl xf2)), ((xa 3), .inl (E 3, 16, .inr (.inr (.inr (.inr xf3))))), (wh, .inr (7, G7 wa)), ((wa 0), .inl (E 0, 400, .inl wf0)), ((wa 1), .inl (E 0, 400, .inl wf1)), ((wa 2), .inl (E 0, 400, .inl wf2)), ((xa 6), .inr (2, G2 oa osize)), ((oa 0), .inl (E 0, 60, .inl of0)), ((oa 1), .inl (E 0, 60, .inl of1)), ((oa 2), .inl (E 0, 60, .inl of2)), ((oa 3), .inl (E 0, 60, .inl of3)), ((oa 4), .inl (E 0, 60, .inl of4)), ((xa 7), .inr (3, G3 ra u.2.2.2.2.2.2.2.2.2.2.2.2.2.2.2)), ((ra 0), .inl (E 0, 60, .inl u.2.2.2.2.2.2.2.2.2.2.2.2.2.1)), ((ra 1), .inl (E 0, 60, .inl u.2.2.2.2.2.2.2.2.2.2.2.2.2.2.1)), ((xa 8), .inr (1, G1 fa u.2.2.2.2.1 u.2.2.2.2.2.2.2.2.1 u.2.2.2.2.2.2.2.2.2.1 u.2.2.2.2.2.1 u.2.2.2.2.2.2.2.2.2.2.2.2.1 u.2.2.2.2.2.2.1 u.2.2.2.2.2.2.2.2.2.2.1 u.2.2.2.2.2.2.2.2.2.2.2.1 u.2.2.2.2.2.2.2.1 u.2.2.1 u.2.1 u.1 u.2.2.2.1 fwhole frest))])) (va_A [(xh, .inr (8, G8 xa xtrialRule xdropRule xtoday)), ((xa 0), .inl (E 0, 400, .inl xf0)), ((xa 1), .inl (E 0, 16, .inl xf1)), ((xa 2), .inl (E 0, 16, .inl xf2)), ((xa 3), .inl (E 3, 16, .inr (.inr (.inr (.inr xf3))))), (wh, .inr (7, G7 wa)), ((wa 0), .inl (E 0, 400, .inl wf0)), ((wa 1), .inl (E 0, 400, .inl wf1)), ((wa 2), .inl (E 0, 400, .inl wf2)), ((xa 6), .inr (2, G2 oa osize)), ((oa 0), .inl (E 0, 60, .inl of0)), ((oa 1), .inl (E 0, 60, .inl of1)), ((oa 2), .inl (E 0, 60, .inl of2)), ((oa 3), .inl (E 0, 60, .inl of3)), ((oa 4), .inl (E 0, 60, .inl of4)), ((xa 7), .inr (3, G3 ra rsize)), ((ra 0), .inl (E 0, 60, .inl rf0)), ((ra 1), .inl (E 0, 60, .inl rf1)), ((xa 8), .inr (1, G1 fa fn fsumR fsumW fsumA fsumWW fsumAA fsumWA fsumWR fsumAR fdivisor fbyWarmth fbyAge fform fwhole frest))] sz)) 0 0 (va_A [(xh, .inr (8, G8 xa xtrialRule xdropRule xtoday)), ((xa 0), .inl (E 0, 400, .inl xf0)), ((xa 1), .inl (E 0, 16, .inl xf1)), ((xa 2), .inl (E 0, 16, .inl xf2)), ((xa 3), .inl (E 3, 16, .inr (.inr (.inr (.inr xf3))))), (wh, .inr (7, G7 wa)), ((wa 0), .inl (E 0, 400, .inl wf0)), ((wa 1), .inl (E 0, 400, .inl wf1)), ((wa 2), .inl (E 0, 400, .inl wf2)), ((xa 6), .inr (2, G2 oa osize)), ((oa 0), .inl (E 0, 60, .inl of0)), ((oa 1), .inl (E 0, 60, .inl of1)), ((oa 2), .inl (E 0, 60, .inl of2)), ((oa 3), .inl (E 0, 60, .inl of3)), ((oa 4), .inl (E 0, 60, .inl of4)), ((xa 7), .inr (3, G3 ra rsize)), ((ra 0), .inl (E 0, 60, .inl rf0)), ((ra 1), .inl (E 0, 60, .inl rf1)), ((xa 8), .inr (1, G1 fa fn fsumR fsumW fsumA fsumWW fsumAA fsumWA fsumWR fsumAR fdivisor fbyWarmth fbyAge fform fwhole frest))] sz) := by
  refine Met.ofW (cc := cX8_fitLaw) (maxL := 8) (ret := none) (by decide) rfl ?_
  intro p e s m args below meth c s₁ B hml hv
  obtain ⟨rfl, hsz, hP, hK, hD0⟩ := hv
  have hx := B.exec; have hb := B.bytes; have hr := B.returns
  have hts := atoms_spec (ws := wl yX8_fitLaw cX8_fitLaw 8 none) B.pre
  have htb : ∀ w ∈ tb, w.before _ s = true := fun w h => hts w (List.mem_cons_of_mem _ h)
  have hown : s.vm.findClass RX8 = some m.cls := findClass_of_methodNamed B.named
  have hlocks := B.notSynchronized
  subst hsz
  have hD := hD0.self (sz := s.heap.size)
  generalize hAe : va_A [(xh, .inr (8, G8 xa xtrialRule xdropRule xtoday)), ((xa 0), .inl (E 0, 400, .inl xf0)), ((xa 1), .inl (E 0, 16, .inl xf1)), ((xa 2), .inl (E 0, 16, .inl xf2)), ((xa 3), .inl (E 3, 16, .inr (.inr (.inr (.inr xf3))))), (wh, .inr (7, G7 wa)), ((wa 0), .inl (E 0, 400, .inl wf0)), ((wa 1), .inl (E 0, 400, .inl wf1)), ((wa 2), .inl (E 0, 400, .inl wf2)), ((xa 6), .inr (2, G2 oa osize)), ((oa 0), .inl (E 0, 60, .inl of0)), ((oa 1), .inl (E 0, 60, .inl of1)), ((oa 2), .inl (E 0, 60, .inl of2)), ((oa 3), .inl (E 0, 60, .inl of3)), ((oa 4), .inl (E 0, 60, .inl of4)), ((xa 7), .inr (3, G3 ra rsize)), ((ra 0), .inl (E 0, 60, .inl rf0)), ((ra 1), .inl (E 0, 60, .inl rf1)), ((xa 8), .inr (1, G1 fa fn fsumR fsumW fsumA fsumWW fsumAA fsumWA fsumWR fsumAR fdivisor fbyWarmth fbyAge fform fwhole frest))] s.heap.size = A at hD ⊢
  have hA : ∀ q : Nat, s.heap.size ≤ q → A q := fun q h => by rw [← hAe]; exact Or.inr h
  have hS : va_S A s.heap s.heap [] := va_S.rf
  have hP : va_P D vwCl [(xh, .inr (8, G8 xa xtrialRule xdropRule xtoday)), ((xa 0), .inl (E 0, 400, .inl xf0)), ((xa 1), .inl (E 0, 16, .inl xf1)), ((xa 2), .inl (E 0, 16, .inl xf2)), ((xa 3), .inl (E 3, 16, .inr (.inr (.inr (.inr xf3))))), (wh, .inr (7, G7 wa)), ((wa 0), .inl (E 0, 400, .inl wf0)), ((wa 1), .inl (E 0, 400, .inl wf1)), ((wa 2), .inl (E 0, 400, .inl wf2)), ((xa 6), .inr (2, G2 oa osize)), ((oa 0), .inl (E 0, 60, .inl of0)), ((oa 1), .inl (E 0, 60, .inl of1)), ((oa 2), .inl (E 0, 60, .inl of2)), ((oa 3), .inl (E 0, 60, .inl of3)), ((oa 4), .inl (E 0, 60, .inl of4)), ((xa 7), .inr (3, G3 ra rsize)), ((ra 0), .inl (E 0, 60, .inl rf0)), ((ra 1), .inl (E 0, 60, .inl rf1)), ((xa 8), .inr (1, G1 fa fn fsumR fsumW fsumA fsumWW fsumAA fsumWA fsumWR fsumAR fdivisor fbyWarmth fbyAge fform fwhole frest))] s.heap := hP
  have hl := lv_entry ([.ref xh, .int p0, .int p1, .int p2]) (n := 8) (Nat.le_of_ble_eq_true rfl)
  rw [lg_entry_eq]
  generalize (lg_sl ([.ref xh, .int p0, .int p1, .int p2]) ++ List.replicate (8 - (lg_sl ([.ref xh, .int p0, .int p1, .int p2])).length) Slot.unset).toArray = ls at hl ⊢
  have hl : lv_has ls 8 [(0, .ref xh), (1, .int p0), (2, .int p1), (3, .int p2)] := hl
  have lo_p0 := i_lo p0; have hi_p0 := i_hi p0
  have lo_p1 := i_lo p1; have hi_p1 := i_hi p1
  have lo_p2 := i_lo p2; have hi_p2 := i_hi p2
  refine lv_aload_n hx hb dX8_fitLaw_0 rfl (lv_at hl 0 rfl) ?_
  refine va_get (D := D) (ci := 8) (v := .ref (xa 8)) (C := RX8) (T := TX8) (N := 14) hx hb htb iX8 hown hK.1 hP 0 rfl rfl 8 (by decide) (htb _ k_280) (fun _ h9 => h9) rfl dX8_fitLaw_1 ?_
  have hPc := hP.sub (ws' := [((xa 8), .inr (1, G1 fa fn fsumR fsumW fsumA fsumWW fsumAA fsumWA fsumWR fsumAR fdivisor fbyWarmth fbyAge fform fwhole frest))]) [18] rfl
  have hDc := hD.sub (ws' := [((xa 8), .inr (1, G1 fa fn fsumR fsumW fsumA fsumWW fsumAA fsumWA fsumWR fsumAR fdivisor fbyWarmth fbyAge fform fwhole frest))]) [18] (by decide) rfl
  refine aft_v (runMV (rest := []) (As := []) hx hb hml hown htb hK (g_X1_clear l D E (xa 8) fa fn fsumR fsumW fsumA fsumWW fsumAA fsumWA fsumWR fsumAR fdivisor fbyWarmth fbyAge fform fwhole frest _ ) ok_X1_clear k_494 k_495 k_496 k_4 k_497 ⟨(Nat.le_of_ble_eq_true rfl), (Nat.le_of_ble_eq_true rfl)⟩ ⟨(Nat.le_of_ble_eq_true rfl), (Nat.le_of_ble_eq_true rfl)⟩ hl.1 (Nat.le_of_ble_eq_true rfl) rfl rfl dX8_fitLaw_4 hPc hDc rfl rfl 0 rfl) hP hD hS hA [18] [0, 1, 2, 3, 4, 5, 6, 7, 8, 9, 10, 11, 12, 13, 14, 15, 16, 17] (wr := [(xh, .inr (8, G8 xa xtrialRule xdropRule xtoday)), ((xa 0), .inl (E 0, 400, .inl xf0)), ((xa 1), .inl (E 0, 16, .inl xf1)), ((xa 2), .inl (E 0, 16, .inl xf2)), ((xa 3), .inl (E 3, 16, .inr (.inr (.inr (.inr xf3))))), (wh, .inr (7, G7 wa)), ((wa 0), .inl (E 0, 400, .inl wf0)), ((wa 1), .inl (E 0, 400, .inl wf1)), ((wa 2), .inl (E 0, 400, .inl wf2)), ((xa 6), .inr (2, G2 oa osize)), ((oa 0), .inl (E 0, 60, .inl of0)), ((oa 1), .inl (E 0, 60, .inl of1)), ((oa 2), .inl (E 0, 60, .inl of2)), ((oa 3), .inl (E 0, 60, .inl of3)), ((oa 4), .inl (E 0, 60, .inl of4)), ((xa 7), .inr (3, G3 ra rsize)), ((ra 0), .inl (E 0, 60, .inl rf0)), ((ra 1), .inl (E 0, 60, .inl rf1))]) rfl rfl (by decide) (by decide) (fun u_3 H locs hw_2 hP hD hS => ?_)
  clear hPc hDc
  obtain ⟨w_4, w_5, w_6, w_7, w_8, w_9, w_10, w_11, w_12⟩ := u_3
  try dsimp only at hw_2
  have hP : va_P D vwCl [(xh, .inr (8, G8 xa xtrialRule xdropRule xtoday)), ((xa 0), .inl (E 0, 400, .inl xf0)), ((xa 1), .inl (E 0, 16, .inl xf1)), ((xa 2), .inl (E 0, 16, .inl xf2)), ((xa 3), .inl (E 3, 16, .inr (.inr (.inr (.inr xf3))))), (wh, .inr (7, G7 wa)), ((wa 0), .inl (E 0, 400, .inl wf0)), ((wa 1), .inl (E 0, 400, .inl wf1)), ((wa 2), .inl (E 0, 400, .inl wf2)), ((xa 6), .inr (2, G2 oa osize)), ((oa 0), .inl (E 0, 60, .inl of0)), ((oa 1), .inl (E 0, 60, .inl of1)), ((oa 2), .inl (E 0, 60, .inl of2)), ((oa 3), .inl (E 0, 60, .inl of3)), ((oa 4), .inl (E 0, 60, .inl of4)), ((xa 7), .inr (3, G3 ra rsize)), ((ra 0), .inl (E 0, 60, .inl rf0)), ((ra 1), .inl (E 0, 60, .inl rf1)), ((xa 8), .inr (1, G1 fa w_4 w_8 w_9 w_5 w_12 w_6 w_10 w_11 w_7 fdivisor fbyWarmth fbyAge fform fwhole frest))] H := hP
  have hD := toW hP hD rfl
  refine lv_aload_n hx hb dX8_fitLaw_7 rfl (lv_at hl 0 rfl) ?_
  refine lv_iload_n hx hb dX8_fitLaw_8 rfl (lv_at hl 1 rfl) ?_
  refine rr_call (runRV (rest := []) (As := [.int p0]) hx hb hml hown htb (g_X8_watchAt_W l D E xh xa xtrialRule xdropRule xtoday xf1 xf3 wh wa p0 (by (try dsimp only); omega) hk0 hw0) ok_X8_watchAt k_369 k_371 ks_1 k_1 k_372 ⟨(Nat.le_of_ble_eq_true rfl), (Nat.le_of_ble_eq_true rfl)⟩ ⟨(Nat.le_of_ble_eq_true rfl), (Nat.le_of_ble_eq_true rfl)⟩ hl.1 (Nat.le_of_ble_eq_true rfl) rfl rfl dX8_fitLaw_9 (prV (hP.sub (ws' := [(xh, .inr (8, G8 xa xtrialRule xdropRule xtoday)), ((xa 1), .inl (E 0, 16, .inl xf1)), ((xa 3), .inl (E 3, 16, .inr (.inr (.inr (.inr xf3))))), (wh, .inr (7, G7 wa))]) [0, 2, 4, 5] rfl) hK rfl rfl 0 rfl)) ?_
  refine lv_astore (lv' := [(4, .ref wh), (0, .ref xh), (1, .int p0), (2, .int p1), (3, .int p2)]) hx hb dX8_fitLaw_12 hl (by decide) rfl (fun ls hl => ?_)
  refine lv_aload hx hb dX8_fitLaw_14 (lv_at hl 0 rfl) ?_
  refine lv_ifnonnull (tgt := 20) hx hb dX8_fitLaw_16 (by decide) ?_
  refine lv_aload_n hx hb dX8_fitLaw_20 rfl (lv_at hl 1 rfl) ?_
  refine va_get (D := D) (ci := 8) (v := .ref (xa 7)) (C := RX8) (T := TX8) (N := 14) hx hb htb iX8 hown hK.1 hP 0 rfl rfl 7 (by decide) (htb _ k_279) (fun _ h9 => h9) rfl dX8_fitLaw_21 ?_
  refine lv_aload hx hb dX8_fitLaw_24 (lv_at hl 0 rfl) ?_
  refine lv_aload_n hx hb dX8_fitLaw_26 rfl (lv_at hl 1 rfl) ?_
  refine va_get (D := D) (ci := 8) (v := .ref (xa 6)) (C := RX8) (T := TX8) (N := 14) hx hb htb iX8 hown hK.1 hP 0 rfl rfl 6 (by decide) (htb _ k_278) (fun _ h9 => h9) rfl dX8_fitLaw_27 ?_
  refine lv_iload_n hx hb dX8_fitLaw_30 rfl (lv_at hl 3 rfl) ?_
  refine lv_iload_n hx hb dX8_fitLaw_31 rfl (lv_at hl 4 rfl) ?_
  have hPc := hP.sub (ws' := [((xa 7), .inr (3, G3 ra rsize)), ((ra 0), .inl (E 0, 60, .inl rf0)), ((ra 1), .inl (E 0, 60, .inl rf1)), (wh, .inr (7, G7 wa)), ((wa 0), .inl (E 0, 400, .inl wf0)), ((wa 1), .inl (E 0, 400, .inl wf1)), ((wa 2), .inl (E 0, 400, .inl wf2)), ((xa 6), .inr (2, G2 oa osize)), ((oa 0), .inl (E 0, 60, .inl of0)), ((oa 1), .inl (E 0, 60, .inl of1)), ((oa 2), .inl (E 0, 60, .inl of2)), ((oa 3), .inl (E 0, 60, .inl of3)), ((oa 4), .inl (E 0, 60, .inl of4))]) [15, 16, 17, 5, 6, 7, 8, 9, 10, 11, 12, 13, 14] rfl
  have hDc := hD.sub (ws' := [((xa 7), .inr (3, G3 ra rsize)), ((ra 0), .inl (E 0, 60, .inl rf0)), ((ra 1), .inl (E 0, 60, .inl rf1)), (wh, .inr (7, G7 wa)), ((wa 0), .inl (E 0, 400, .inl wf0)), ((wa 1), .inl (E 0, 400, .inl wf1)), ((wa 2), .inl (E 0, 400, .inl wf2)), ((xa 6), .inr (2, G2 oa osize)), ((oa 0), .inl (E 0, 60, .inl of0)), ((oa 1), .inl (E 0, 60, .inl of1)), ((oa 2), .inl (E 0, 60, .inl of2)), ((oa 3), .inl (E 0, 60, .inl of3)), ((oa 4), .inl (E 0, 60, .inl of4))]) [15, 16, 17, 5, 6, 7, 8, 9, 10, 11, 12, 13, 14] (by decide) rfl
  refine aft_v (runMV (rest := []) (As := [.ref wh, .ref (xa 6), .int p1, .int p2]) hx hb hml hown htb hK (g_X3_gather l D E (xa 7) ra rsize rf0 rf1 wh wa wf0 wf1 wf2 (xa 6) oa osize of0 of1 of2 of3 of4 p1 p2 _ (by (try dsimp only); omega) hr_r0 (by (try dsimp only); omega) (by (try dsimp only); omega)) ok_X3_gather k_498 k_499 k_500 k_3 k_501 ⟨(Nat.le_of_ble_eq_true rfl), (Nat.le_of_ble_eq_true rfl)⟩ ⟨(Nat.le_of_ble_eq_true rfl), (Nat.le_of_ble_eq_true rfl)⟩ hl.1 (Nat.le_of_ble_eq_true rfl) rfl rfl dX8_fitLaw_32 hPc hDc rfl rfl 0 rfl) hP hD hS hA [15, 16, 17, 5, 6, 7, 8, 9, 10, 11, 12, 13, 14] [0, 1, 2, 3, 4, 18] (wr := [(xh, .inr (8, G8 xa xtrialRule xdropRule xtoday)), ((xa 0), .inl (E 0, 400, .inl xf0)), ((xa 1), .inl (E 0, 16, .inl xf1)), ((xa 2), .inl (E 0, 16, .inl xf2)), ((xa 3), .inl (E 3, 16, .inr (.inr (.inr (.inr xf3))))), ((xa 8), .inr (1, G1 fa w_4 w_8 w_9 w_5 w_12 w_6 w_10 w_11 w_7 fdivisor fbyWarmth fbyAge fform fwhole frest))]) rfl rfl (by decide) (by decide) (fun u_18 H locs hw_17 hP hD hS => ?_)
  clear hPc hDc
  obtain ⟨w_19, w_20, w_21⟩ := u_18
  try dsimp only at hw_17
  have hP : va_P D vwCl [(xh, .inr (8, G8 xa xtrialRule xdropRule xtoday)), ((xa 0), .inl (E 0, 400, .inl xf0)), ((xa 1), .inl (E 0, 16, .inl xf1)), ((xa 2), .inl (E 0, 16, .inl xf2)), ((xa 3), .inl (E 3, 16, .inr (.inr (.inr (.inr xf3))))), ((xa 8), .inr (1, G1 fa w_4 w_8 w_9 w_5 w_12 w_6 w_10 w_11 w_7 fdivisor fbyWarmth fbyAge fform fwhole frest)), ((xa 7), .inr (3, G3 ra w_21)), ((ra 0), .inl (E 0, 60, .inl w_19)), ((ra 1), .inl (E 0, 60, .inl w_20)), (wh, .inr (7, G7 wa)), ((wa 0), .inl (E 0, 400, .inl wf0)), ((wa 1), .inl (E 0, 400, .inl wf1)), ((wa 2), .inl (E 0, 400, .inl wf2)), ((xa 6), .inr (2, G2 oa osize)), ((oa 0), .inl (E 0, 60, .inl of0)), ((oa 1), .inl (E 0, 60, .inl of1)), ((oa 2), .inl (E 0, 60, .inl of2)), ((oa 3), .inl (E 0, 60, .inl of3)), ((oa 4), .inl (E 0, 60, .inl of4))] H := hP
  have hD := toW hP hD rfl
  obtain ⟨hw_17_0, hw_17_1, hw_17_2⟩ := hw_17
  refine lv_iconst (v := 0) hx hb dX8_fitLaw_35 (by decide) ?_
  refine lv_istore (lv' := [(5, .int 0), (4, .ref wh), (0, .ref xh), (1, .int p0), (2, .int p1), (3, .int p2)]) hx hb dX8_fitLaw_36 hl (by decide) rfl (fun ls hl => ?_)
  have loop_22 : ∀ (N_24 : Nat) (L5_38 : Int32) (fn_38 : Int64) (fsumR_38 : Int64) (fsumW_38 : Int64) (fsumA_38 : Int64) (fsumWW_38 : Int64) (fsumAA_38 : Int64) (fsumWA_38 : Int64) (fsumWR_38 : Int64) (fsumAR_38 : Int64) (H : Heap) (locs : List Loc) (ls : Array Slot), w_21.toInt - L5_38.toInt < (N_24 : Int) → (0 ≤ L5_38.toInt ∧ L5_38.toInt ≤ w_21.toInt) → (((fn_38, fsumR_38, fsumW_38, fsumA_38, fsumWW_38, fsumAA_38, fsumWA_38, fsumWR_38, fsumAR_38) : S9) = fold9 (fun d => wmF xf1 xf2 xf0 p0 d) (fun d => agX wf2 d) (-100) (List.take (L5_38).toNatClampNeg (rateL (rXn wf0 wf1 wf2 of0 of1 of2 of3 of4 osize) p1 (p2.toInt - p1.toInt).toNat))) → va_P D vwCl [(xh, .inr (8, G8 xa xtrialRule xdropRule xtoday)), ((xa 0), .inl (E 0, 400, .inl xf0)), ((xa 1), .inl (E 0, 16, .inl xf1)), ((xa 2), .inl (E 0, 16, .inl xf2)), ((xa 3), .inl (E 3, 16, .inr (.inr (.inr (.inr xf3))))), ((xa 8), .inr (1, G1 fa fn_38 fsumR_38 fsumW_38 fsumA_38 fsumWW_38 fsumAA_38 fsumWA_38 fsumWR_38 fsumAR_38 fdivisor fbyWarmth fbyAge fform fwhole frest)), ((xa 7), .inr (3, G3 ra w_21)), ((ra 0), .inl (E 0, 60, .inl w_19)), ((ra 1), .inl (E 0, 60, .inl w_20)), (wh, .inr (7, G7 wa)), ((wa 0), .inl (E 0, 400, .inl wf0)), ((wa 1), .inl (E 0, 400, .inl wf1)), ((wa 2), .inl (E 0, 400, .inl wf2)), ((xa 6), .inr (2, G2 oa osize)), ((oa 0), .inl (E 0, 60, .inl of0)), ((oa 1), .inl (E 0, 60, .inl of1)), ((oa 2), .inl (E 0, 60, .inl of2)), ((oa 3), .inl (E 0, 60, .inl of3)), ((oa 4), .inl (E 0, 60, .inl of4))] H → va_D A [(xh, .inr (8, G8 xa xtrialRule xdropRule xtoday)), ((xa 0), .inl (E 0, 400, .inl xf0)), ((xa 1), .inl (E 0, 16, .inl xf1)), ((xa 2), .inl (E 0, 16, .inl xf2)), ((xa 3), .inl (E 3, 16, .inr (.inr (.inr (.inr xf3))))), ((xa 8), .inr (1, G1 fa fn_38 fsumR_38 fsumW_38 fsumA_38 fsumWW_38 fsumAA_38 fsumWA_38 fsumWR_38 fsumAR_38 fdivisor fbyWarmth fbyAge fform fwhole frest)), ((xa 7), .inr (3, G3 ra w_21)), ((ra 0), .inl (E 0, 60, .inl w_19)), ((ra 1), .inl (E 0, 60, .inl w_20)), (wh, .inr (7, G7 wa)), ((wa 0), .inl (E 0, 400, .inl wf0)), ((wa 1), .inl (E 0, 400, .inl wf1)), ((wa 2), .inl (E 0, 400, .inl wf2)), ((xa 6), .inr (2, G2 oa osize)), ((oa 0), .inl (E 0, 60, .inl of0)), ((oa 1), .inl (E 0, 60, .inl of1)), ((oa 2), .inl (E 0, 60, .inl of2)), ((oa 3), .inl (E 0, 60, .inl of3)), ((oa 4), .inl (E 0, 60, .inl of4))] → va_S A s.heap H locs → lv_has ls 8 [(5, .int L5_38), (4, .ref wh), (0, .ref xh), (1, .int p0), (2, .int p1), (3, .int p2)] → W p l e (headSpec (wl yX8_fitLaw cX8_fitLaw 8 none) (RM 4 0 0)).room s m [Value.ref xh, .int p0, .int p1, .int p2].toArray below meth c H locs 0 0 (MQ below (va_Qv (fun (u : (Int64) × (Int64) × (Int64) × (Int32) × (Int64) × (Int64) × (Int64) × (Int64) × (Int64) × (Int64) × (Int64) × (Int64) × (Int64) × (Nat → Int32) × (Nat → Int32) × (Int32)) => (∀ k : Nat, k < 60 → 0 ≤ (u.2.2.2.2.2.2.2.2.2.2.2.2.2.1 k).toInt ∧ (u.2.2.2.2.2.2.2.2.2.2.2.2.2.1 k).toInt ≤ 399) ∧ (0 ≤ u.2.2.2.2.2.2.2.2.2.2.2.2.2.2.2.toInt ∧ u.2.2.2.2.2.2.2.2.2.2.2.2.2.2.2.toInt ≤ 60) ∧ (((u.2.2.2.2.1, u.2.2.2.2.2.2.2.2.1, u.2.2.2.2.2.2.2.2.2.1, u.2.2.2.2.2.1, u.2.2.2.2.2.2.2.2.2.2.2.2.1, u.2.2.2.2.2.2.1, u.2.2.2.2.2.2.2.2.2.2.1, u.2.2.2.2.2.2.2.2.2.2.2.1, u.2.2.2.2.2.2.2.1) : S9) = fold9 (fun d => wmF xf1 xf2 xf0 p0 d) (fun d => agX wf2 d) (-100) (rateL (rXn wf0 wf1 wf2 of0 of1 of2 of3 of4 osize) p1 (p2.toInt - p1.toInt).toNat)) ∧ (((u.2.2.2.1, u.2.2.1, u.2.1, u.1) : Int32 × Int64 × Int64 × Int64) = solX (fold9 (fun d => wmF xf1 xf2 xf0 p0 d) (fun d => agX wf2 d) (-100) (rateL (rXn wf0 wf1 wf2 of0 of1 of2 of3 of4 osize) p1 (p2.toInt - p1.toInt).toNat)))) (mu_B D A (fun (u : (Int64) × (Int64) × (Int64) × (Int32) × (Int64) × (Int64) × (Int64) × (Int64) × (Int64) × (Int64) × (Int64) × (Int64) × (Int64) × (Nat → Int32) × (Nat → Int32) × (Int32)) => [(xh, .inr (8, G8 xa xtrialRule xdropRule xtoday)), ((xa 0), .inl (E 0, 400, .inl xf0)), ((xa 1), .inl (E 0, 16, .inl xf1)), ((xa 2), .inl (E 0, 16, .inl xf2)), ((xa 3), .inl (E 3, 16, .inr (.inr (.inr (.inr xf3))))), (wh, .inr (7, G7 wa)), ((wa 0), .inl (E 0, 400, .inl wf0)), ((wa 1), .inl (E 0, 400, .inl wf1)), ((wa 2), .inl (E 0, 400, .inl wf2)), ((xa 6), .inr (2, G2 oa osize)), ((oa 0), .inl (E 0, 60, .inl of0)), ((oa 1), .inl (E 0, 60, .inl of1)), ((oa 2), .inl (E 0, 60, .inl of2)), ((oa 3), .inl (E 0, 60, .inl of3)), ((oa 4), .inl (E 0, 60, .inl of4)), ((xa 7), .inr (3, G3 ra u.2.2.2.2.2.2.2.2.2.2.2.2.2.2.2)), ((ra 0), .inl (E 0, 60, .inl u.2.2.2.2.2.2.2.2.2.2.2.2.2.1)), ((ra 1), .inl (E 0, 60, .inl u.2.2.2.2.2.2.2.2.2.2.2.2.2.2.1)), ((xa 8), .inr (1, G1 fa u.2.2.2.2.1 u.2.2.2.2.2.2.2.2.1 u.2.2.2.2.2.2.2.2.2.1 u.2.2.2.2.2.1 u.2.2.2.2.2.2.2.2.2.2.2.2.1 u.2.2.2.2.2.2.1 u.2.2.2.2.2.2.2.2.2.2.1 u.2.2.2.2.2.2.2.2.2.2.2.1 u.2.2.2.2.2.2.2.1 u.2.2.1 u.2.1 u.1 u.2.2.2.1 fwhole frest))])) A) [Value.ref xh, .int p0, .int p1, .int p2].toArray s 0 0 A) (F0 m 38 ls []) := by
    intro N_24
    induction N_24 with
    | zero => intro L5_38 fn_38 fsumR_38 fsumW_38 fsumA_38 fsumWW_38 fsumAA_38 fsumWA_38 fsumWR_38 fsumAR_38 H locs ls hm v0_38 v1_38 _ _ _ _; exfalso; omega
    | succ N_24 ih_23 =>
      intro L5_38 fn_38 fsumR_38 fsumW_38 fsumA_38 fsumWW_38 fsumAA_38 fsumWA_38 fsumWR_38 fsumAR_38 H locs ls hm v0_38 v1_38 hP hD hS hl
      have lo_L5_38 := i_lo L5_38; have hi_L5_38 := i_hi L5_38
      refine lv_iload hx hb dX8_fitLaw_38 (lv_at hl 0 rfl) ?_
      refine lv_aload_n hx hb dX8_fitLaw_40 rfl (lv_at hl 2 rfl) ?_
      refine va_get (D := D) (ci := 8) (v := .ref (xa 7)) (C := RX8) (T := TX8) (N := 14) hx hb htb iX8 hown hK.1 hP 0 rfl rfl 7 (by decide) (htb _ k_279) (fun _ h9 => h9) rfl dX8_fitLaw_41 ?_
      refine va_getN (D := D) (ci := 3) (v := .int w_21) (C := RX3) (T := TX3) (N := 4) hx hb htb iX3 hown hK.1 hP 6 rfl rfl 3 (by decide) (va_Nw.use rfl (hK.2.1 (Cond.fieldLinkNest RX8 311 "SeaWatches$Rates" "size" "I" "SeaWatches") (by decide +kernel))) (fun _ h9 => h9) rfl dX8_fitLaw_44 ?_
      refine lv_icmp_ge (tgt := 113) hx hb dX8_fitLaw_47 (by decide) (fun c_25 => ?_) (fun c_25 => ?_)
      ·
        have ic_25 : w_21.toInt ≤ L5_38.toInt := by first | exact (g_le rfl rfl).mp c_25 | (have h := mt (g_lt rfl rfl).mpr c_25; omega)
        clear c_25
        refine lv_aload_n hx hb dX8_fitLaw_113 rfl (lv_at hl 2 rfl) ?_
        refine va_get (D := D) (ci := 8) (v := .ref (xa 8)) (C := RX8) (T := TX8) (N := 14) hx hb htb iX8 hown hK.1 hP 0 rfl rfl 8 (by decide) (htb _ k_280) (fun _ h9 => h9) rfl dX8_fitLaw_114 ?_
        have hPc := hP.sub (ws' := [((xa 8), .inr (1, G1 fa fn_38 fsumR_38 fsumW_38 fsumA_38 fsumWW_38 fsumAA_38 fsumWA_38 fsumWR_38 fsumAR_38 fdivisor fbyWarmth fbyAge fform fwhole frest))]) [5] rfl
        have hDc := hD.sub (ws' := [((xa 8), .inr (1, G1 fa fn_38 fsumR_38 fsumW_38 fsumA_38 fsumWW_38 fsumAA_38 fsumWA_38 fsumWR_38 fsumAR_38 fdivisor fbyWarmth fbyAge fform fwhole frest))]) [5] (by decide) rfl
        refine aft_v (runMV (rest := []) (As := []) hx hb hml hown htb hK (g_X1_solve l D E (xa 8) fa fn_38 fsumR_38 fsumW_38 fsumA_38 fsumWW_38 fsumAA_38 fsumWA_38 fsumWR_38 fsumAR_38 fdivisor fbyWarmth fbyAge fform fwhole frest _ ) ok_X1_solve k_513 k_514 k_515 k_4 k_516 ⟨(Nat.le_of_ble_eq_true rfl), (Nat.le_of_ble_eq_true rfl)⟩ ⟨(Nat.le_of_ble_eq_true rfl), (Nat.le_of_ble_eq_true rfl)⟩ hl.1 (Nat.le_of_ble_eq_true rfl) rfl rfl dX8_fitLaw_117 hPc hDc rfl rfl 0 rfl) hP hD hS hA [5] [0, 1, 2, 3, 4, 6, 7, 8, 9, 10, 11, 12, 13, 14, 15, 16, 17, 18] (wr := [(xh, .inr (8, G8 xa xtrialRule xdropRule xtoday)), ((xa 0), .inl (E 0, 400, .inl xf0)), ((xa 1), .inl (E 0, 16, .inl xf1)), ((xa 2), .inl (E 0, 16, .inl xf2)), ((xa 3), .inl (E 3, 16, .inr (.inr (.inr (.inr xf3))))), ((xa 7), .inr (3, G3 ra w_21)), ((ra 0), .inl (E 0, 60, .inl w_19)), ((ra 1), .inl (E 0, 60, .inl w_20)), (wh, .inr (7, G7 wa)), ((wa 0), .inl (E 0, 400, .inl wf0)), ((wa 1), .inl (E 0, 400, .inl wf1)), ((wa 2), .inl (E 0, 400, .inl wf2)), ((xa 6), .inr (2, G2 oa osize)), ((oa 0), .inl (E 0, 60, .inl of0)), ((oa 1), .inl (E 0, 60, .inl of1)), ((oa 2), .inl (E 0, 60, .inl of2)), ((oa 3), .inl (E 0, 60, .inl of3)), ((oa 4), .inl (E 0, 60, .inl of4))]) rfl rfl (by decide) (by decide) (fun u_28 H locs hw_27 hP hD hS => ?_)
        clear hPc hDc
        obtain ⟨w_29, w_30, w_31, w_32⟩ := u_28
        try dsimp only at hw_27
        have hP : va_P D vwCl [(xh, .inr (8, G8 xa xtrialRule xdropRule xtoday)), ((xa 0), .inl (E 0, 400, .inl xf0)), ((xa 1), .inl (E 0, 16, .inl xf1)), ((xa 2), .inl (E 0, 16, .inl xf2)), ((xa 3), .inl (E 3, 16, .inr (.inr (.inr (.inr xf3))))), ((xa 7), .inr (3, G3 ra w_21)), ((ra 0), .inl (E 0, 60, .inl w_19)), ((ra 1), .inl (E 0, 60, .inl w_20)), (wh, .inr (7, G7 wa)), ((wa 0), .inl (E 0, 400, .inl wf0)), ((wa 1), .inl (E 0, 400, .inl wf1)), ((wa 2), .inl (E 0, 400, .inl wf2)), ((xa 6), .inr (2, G2 oa osize)), ((oa 0), .inl (E 0, 60, .inl of0)), ((oa 1), .inl (E 0, 60, .inl of1)), ((oa 2), .inl (E 0, 60, .inl of2)), ((oa 3), .inl (E 0, 60, .inl of3)), ((oa 4), .inl (E 0, 60, .inl of4)), ((xa 8), .inr (1, G1 fa fn_38 fsumR_38 fsumW_38 fsumA_38 fsumWW_38 fsumAA_38 fsumWA_38 fsumWR_38 fsumAR_38 w_31 w_30 w_29 w_32 fwhole frest))] H := hP
        have hD := toW hP hD rfl
        have hP9 := hP.sub (ws' := [(xh, .inr (8, G8 xa xtrialRule xdropRule xtoday)), ((xa 0), .inl (E 0, 400, .inl xf0)), ((xa 1), .inl (E 0, 16, .inl xf1)), ((xa 2), .inl (E 0, 16, .inl xf2)), ((xa 3), .inl (E 3, 16, .inr (.inr (.inr (.inr xf3))))), (wh, .inr (7, G7 wa)), ((wa 0), .inl (E 0, 400, .inl wf0)), ((wa 1), .inl (E 0, 400, .inl wf1)), ((wa 2), .inl (E 0, 400, .inl wf2)), ((xa 6), .inr (2, G2 oa osize)), ((oa 0), .inl (E 0, 60, .inl of0)), ((oa 1), .inl (E 0, 60, .inl of1)), ((oa 2), .inl (E 0, 60, .inl of2)), ((oa 3), .inl (E 0, 60, .inl of3)), ((oa 4), .inl (E 0, 60, .inl of4)), ((xa 7), .inr (3, G3 ra w_21)), ((ra 0), .inl (E 0, 60, .inl w_19)), ((ra 1), .inl (E 0, 60, .inl w_20)), ((xa 8), .inr (1, G1 fa fn_38 fsumR_38 fsumW_38 fsumA_38 fsumWW_38 fsumAA_38 fsumWA_38 fsumWR_38 fsumAR_38 w_31 w_30 w_29 w_32 fwhole frest))]) [0, 1, 2, 3, 4, 8, 9, 10, 11, 12, 13, 14, 15, 16, 17, 5, 6, 7, 18] rfl
        have hD9 := hD.sub (ws' := [(xh, .inr (8, G8 xa xtrialRule xdropRule xtoday)), ((xa 0), .inl (E 0, 400, .inl xf0)), ((xa 1), .inl (E 0, 16, .inl xf1)), ((xa 2), .inl (E 0, 16, .inl xf2)), ((xa 3), .inl (E 3, 16, .inr (.inr (.inr (.inr xf3))))), (wh, .inr (7, G7 wa)), ((wa 0), .inl (E 0, 400, .inl wf0)), ((wa 1), .inl (E 0, 400, .inl wf1)), ((wa 2), .inl (E 0, 400, .inl wf2)), ((xa 6), .inr (2, G2 oa osize)), ((oa 0), .inl (E 0, 60, .inl of0)), ((oa 1), .inl (E 0, 60, .inl of1)), ((oa 2), .inl (E 0, 60, .inl of2)), ((oa 3), .inl (E 0, 60, .inl of3)), ((oa 4), .inl (E 0, 60, .inl of4)), ((xa 7), .inr (3, G3 ra w_21)), ((ra 0), .inl (E 0, 60, .inl w_19)), ((ra 1), .inl (E 0, 60, .inl w_20)), ((xa 8), .inr (1, G1 fa fn_38 fsumR_38 fsumW_38 fsumA_38 fsumWW_38 fsumAA_38 fsumWA_38 fsumWR_38 fsumAR_38 w_31 w_30 w_29 w_32 fwhole frest))]) [0, 1, 2, 3, 4, 8, 9, 10, 11, 12, 13, 14, 15, 16, 17, 5, 6, 7, 18] (by decide) rfl
        exact W.vret hx hb hr (fun t ht hW => ⟨⟨(w_29, w_30, w_31, w_32, fn_38, fsumA_38, fsumAA_38, fsumAR_38, fsumR_38, fsumW_38, fsumWA_38, fsumWR_38, fsumWW_38, w_19, w_20, w_21), rfl, ⟨hw_17_0, (by (try dsimp only); omega), (by (try dsimp only); rw [← fold9_all hw_17_2 (i := (L5_38).toNatClampNeg) (by have c1 := i_clamp0 (x := L5_38) (by omega); omega)]; exact v1_38), (hw_27.trans (congrArg solX (by (try dsimp only); rw [← fold9_all hw_17_2 (i := (L5_38).toNatClampNeg) (by have c1 := i_clamp0 (x := L5_38) (by omega); omega)]; exact v1_38)))⟩, by rw [ht]; exact hP9, hD9⟩, hS.F ht⟩) hS.2.2 dX8_fitLaw_120
      ·
        have ic_25 : L5_38.toInt < w_21.toInt := by first | exact (g_lt rfl rfl).mp c_25 | (have h := mt (g_le rfl rfl).mpr c_25; omega)
        clear c_25
        refine lv_aload_n hx hb dX8_fitLaw_50 rfl (lv_at hl 2 rfl) ?_
        refine va_get (D := D) (ci := 8) (v := .ref (xa 7)) (C := RX8) (T := TX8) (N := 14) hx hb htb iX8 hown hK.1 hP 0 rfl rfl 7 (by decide) (htb _ k_279) (fun _ h9 => h9) rfl dX8_fitLaw_51 ?_
        refine va_getN (D := D) (ci := 3) (v := .ref (ra 0)) (C := RX3) (T := TX3) (N := 4) hx hb htb iX3 hown hK.1 hP 6 rfl rfl 0 (by decide) (va_Nw.use rfl (hK.2.1 (Cond.fieldLinkNest RX8 312 "SeaWatches$Rates" "days" "[I" "SeaWatches") (by decide +kernel))) (fun _ h9 => h9) rfl dX8_fitLaw_54 ?_
        refine lv_iload hx hb dX8_fitLaw_57 (lv_at hl 0 rfl) ?_
        refine va_iald hx hb hK.1 hP 7 0 rfl rfl (g_in rfl (by omega) (by omega)) dX8_fitLaw_59 ?_
        refine lv_topi (fun z_33 ez_33 => ?_)
        have kz_33 := congrArg Int32.toInt ez_33
        have jz_33 : 0 ≤ z_33.toInt ∧ z_33.toInt ≤ 399 := by rw [ez_33]; exact hw_17_0 _ (g_ix rfl (by omega) (by omega))
        refine lv_istore (lv' := [(6, .int z_33), (5, .int L5_38), (4, .ref wh), (0, .ref xh), (1, .int p0), (2, .int p1), (3, .int p2)]) hx hb dX8_fitLaw_60 hl (by decide) rfl (fun ls hl => ?_)
        refine lv_aload_n hx hb dX8_fitLaw_62 rfl (lv_at hl 3 rfl) ?_
        refine lv_iload_n hx hb dX8_fitLaw_63 rfl (lv_at hl 4 rfl) ?_
        refine lv_iload hx hb dX8_fitLaw_64 (lv_at hl 0 rfl) ?_
        refine callRV (rest := []) (As := [.int p0, .int z_33]) hx hb hml hown htb hK (g_X8_warmthFor l D E xh xa xtrialRule xdropRule xtoday xf0 xf1 xf2 p0 z_33 (by (try dsimp only); omega)) ok_X8_warmthFor k_505 k_507 ks_7 k_1 k_508 ⟨(Nat.le_of_ble_eq_true rfl), (Nat.le_of_ble_eq_true rfl)⟩ ⟨(Nat.le_of_ble_eq_true rfl), (Nat.le_of_ble_eq_true rfl)⟩ hl.1 (Nat.le_of_ble_eq_true rfl) rfl rfl dX8_fitLaw_66 (hP.sub (ws' := [(xh, .inr (8, G8 xa xtrialRule xdropRule xtoday)), ((xa 0), .inl (E 0, 400, .inl xf0)), ((xa 1), .inl (E 0, 16, .inl xf1)), ((xa 2), .inl (E 0, 16, .inl xf2))]) [0, 1, 2, 3] rfl) rfl rfl 0 rfl (fun r_34 hw_35 => ?_)
        refine lv_istore (lv' := [(7, .int r_34), (6, .int z_33), (5, .int L5_38), (4, .ref wh), (0, .ref xh), (1, .int p0), (2, .int p1), (3, .int p2)]) hx hb dX8_fitLaw_69 hl (by decide) rfl (fun ls hl => ?_)
        refine lv_iload hx hb dX8_fitLaw_71 (lv_at hl 0 rfl) ?_
        refine lv_bipush (v := (-100)) hx hb dX8_fitLaw_73 (by decide) ?_
        refine lv_icmp_eq (tgt := 107) hx hb dX8_fitLaw_75 (by decide) (fun c_37 => ?_) (fun c_37 => ?_)
        ·
          have ic_37 : r_34.toInt = -100 := (g_eq rfl t_m100).mp c_37
          clear c_37
          obtain ⟨z_38, ez_38⟩ : ∃ y : Int32, y = L5_38 + 1 := ⟨_, rfl⟩
          have jz_38 : z_38.toInt = L5_38.toInt + 1 := by rw [ez_38]; exact g_add rfl t_1 (by omega) (by omega)
          refine lv_iinc (v := z_38) (lv' := [(5, .int z_38), (7, .int r_34), (6, .int z_33), (4, .ref wh), (0, .ref xh), (1, .int p0), (2, .int p1), (3, .int p2)]) hx hb dX8_fitLaw_107 hl (k := 2) rfl (by rw [ez_38]; rfl) (by decide) rfl (fun ls hl => ?_)
          refine lv_goto (tgt := 38) hx hb dX8_fitLaw_110 (by decide) ?_
          exact ih_23 z_38 fn_38 fsumR_38 fsumW_38 fsumA_38 fsumWW_38 fsumAA_38 fsumWA_38 fsumWR_38 fsumAR_38 _ _ _ (by (try dsimp only); omega) (by (try dsimp only); omega) (by rw [clampS (by omega) jz_38, fold9_take hw_17_2 (by have c1 := i_clamp0 (x := L5_38) (by omega); omega)]; rw [step9_p (by (try dsimp only); rw [← ez_33, ← (hw_35.resolve_left (fun h9 => h9.1 (by omega))).2]; omega)]; exact v1_38) hP hD hS (lv_sub hl [0, 3, 4, 5, 6, 7] rfl)
        ·
          have ic_37 : r_34.toInt ≠ -100 := mt (g_eq rfl t_m100).mpr c_37
          clear c_37
          refine lv_aload_n hx hb dX8_fitLaw_78 rfl (lv_at hl 4 rfl) ?_
          refine va_get (D := D) (ci := 8) (v := .ref (xa 8)) (C := RX8) (T := TX8) (N := 14) hx hb htb iX8 hown hK.1 hP 0 rfl rfl 8 (by decide) (htb _ k_280) (fun _ h9 => h9) rfl dX8_fitLaw_79 ?_
          refine lv_aload_n hx hb dX8_fitLaw_82 rfl (lv_at hl 4 rfl) ?_
          refine va_get (D := D) (ci := 8) (v := .ref (xa 7)) (C := RX8) (T := TX8) (N := 14) hx hb htb iX8 hown hK.1 hP 0 rfl rfl 7 (by decide) (htb _ k_279) (fun _ h9 => h9) rfl dX8_fitLaw_83 ?_
          refine va_getN (D := D) (ci := 3) (v := .ref (ra 1)) (C := RX3) (T := TX3) (N := 4) hx hb htb iX3 hown hK.1 hP 6 rfl rfl 1 (by decide) (va_Nw.use rfl (hK.2.1 (Cond.fieldLinkNest RX8 318 "SeaWatches$Rates" "values" "[I" "SeaWatches") (by decide +kernel))) (fun _ h9 => h9) rfl dX8_fitLaw_86 ?_
          refine lv_iload hx hb dX8_fitLaw_89 (lv_at hl 2 rfl) ?_
          refine va_iald hx hb hK.1 hP 8 0 rfl rfl (g_in rfl (by omega) (by omega)) dX8_fitLaw_91 ?_
          refine lv_topi (fun z_39 ez_39 => ?_)
          have kz_39 := congrArg Int32.toInt ez_39
          obtain ⟨z_40, ez_40⟩ : ∃ y : Int64, (z_39 : Int32).toInt64 = y := ⟨_, rfl⟩
          refine lv_i2l hx hb dX8_fitLaw_92 ez_40 ?_
          refine lv_iload hx hb dX8_fitLaw_93 (lv_at hl 0 rfl) ?_
          obtain ⟨z_41, ez_41⟩ : ∃ y : Int64, (r_34 : Int32).toInt64 = y := ⟨_, rfl⟩
          refine lv_i2l hx hb dX8_fitLaw_95 ez_41 ?_
          refine lv_aload hx hb dX8_fitLaw_96 (lv_at hl 3 rfl) ?_
          refine lv_iload hx hb dX8_fitLaw_98 (lv_at hl 1 rfl) ?_
          refine callRV (rest := [.long z_41, .long z_40, .ref (xa 8)]) (As := [.int z_33]) hx hb hml hown htb hK (g_X7_ageOn l D E wh wa wf2 z_33 (by (try dsimp only); omega)) ok_X7_ageOn k_463 k_464 k_465 k_10 k_466 ⟨(Nat.le_of_ble_eq_true rfl), (Nat.le_of_ble_eq_true rfl)⟩ ⟨(Nat.le_of_ble_eq_true rfl), (Nat.le_of_ble_eq_true rfl)⟩ hl.1 (Nat.le_of_ble_eq_true rfl) rfl rfl dX8_fitLaw_100 (hP.sub (ws' := [(wh, .inr (7, G7 wa)), ((wa 2), .inl (E 0, 400, .inl wf2))]) [9, 12] rfl) rfl rfl 0 rfl (fun r_42 hw_43 => ?_)
          obtain ⟨z_45, ez_45⟩ : ∃ y : Int64, (r_42 : Int32).toInt64 = y := ⟨_, rfl⟩
          refine lv_i2l hx hb dX8_fitLaw_103 ez_45 ?_
          have hPc := hP.sub (ws' := [((xa 8), .inr (1, G1 fa fn_38 fsumR_38 fsumW_38 fsumA_38 fsumWW_38 fsumAA_38 fsumWA_38 fsumWR_38 fsumAR_38 fdivisor fbyWarmth fbyAge fform fwhole frest))]) [5] rfl
          have hDc := hD.sub (ws' := [((xa 8), .inr (1, G1 fa fn_38 fsumR_38 fsumW_38 fsumA_38 fsumWW_38 fsumAA_38 fsumWA_38 fsumWR_38 fsumAR_38 fdivisor fbyWarmth fbyAge fform fwhole frest))]) [5] (by decide) rfl
          refine aft_v (runMV (rest := []) (As := [.long z_40, .long z_41, .long z_45]) hx hb hml hown htb hK (g_X1_add l D E (xa 8) fa fn_38 fsumR_38 fsumW_38 fsumA_38 fsumWW_38 fsumAA_38 fsumWA_38 fsumWR_38 fsumAR_38 fdivisor fbyWarmth fbyAge fform fwhole frest z_40 z_41 z_45 _ ) ok_X1_add k_509 k_510 k_511 k_4 k_512 ⟨(Nat.le_of_ble_eq_true rfl), (Nat.le_of_ble_eq_true rfl)⟩ ⟨(Nat.le_of_ble_eq_true rfl), (Nat.le_of_ble_eq_true rfl)⟩ hl.1 (Nat.le_of_ble_eq_true rfl) rfl rfl dX8_fitLaw_104 hPc hDc rfl rfl 0 rfl) hP hD hS hA [5] [0, 1, 2, 3, 4, 6, 7, 8, 9, 10, 11, 12, 13, 14, 15, 16, 17, 18] (wr := [(xh, .inr (8, G8 xa xtrialRule xdropRule xtoday)), ((xa 0), .inl (E 0, 400, .inl xf0)), ((xa 1), .inl (E 0, 16, .inl xf1)), ((xa 2), .inl (E 0, 16, .inl xf2)), ((xa 3), .inl (E 3, 16, .inr (.inr (.inr (.inr xf3))))), ((xa 7), .inr (3, G3 ra w_21)), ((ra 0), .inl (E 0, 60, .inl w_19)), ((ra 1), .inl (E 0, 60, .inl w_20)), (wh, .inr (7, G7 wa)), ((wa 0), .inl (E 0, 400, .inl wf0)), ((wa 1), .inl (E 0, 400, .inl wf1)), ((wa 2), .inl (E 0, 400, .inl wf2)), ((xa 6), .inr (2, G2 oa osize)), ((oa 0), .inl (E 0, 60, .inl of0)), ((oa 1), .inl (E 0, 60, .inl of1)), ((oa 2), .inl (E 0, 60, .inl of2)), ((oa 3), .inl (E 0, 60, .inl of3)), ((oa 4), .inl (E 0, 60, .inl of4))]) rfl rfl (by decide) (by decide) (fun u_48 H locs hw_47 hP hD hS => ?_)
          clear hPc hDc
          obtain ⟨w_49, w_50, w_51, w_52, w_53, w_54, w_55, w_56, w_57⟩ := u_48
          try dsimp only at hw_47
          have hP : va_P D vwCl [(xh, .inr (8, G8 xa xtrialRule xdropRule xtoday)), ((xa 0), .inl (E 0, 400, .inl xf0)), ((xa 1), .inl (E 0, 16, .inl xf1)), ((xa 2), .inl (E 0, 16, .inl xf2)), ((xa 3), .inl (E 3, 16, .inr (.inr (.inr (.inr xf3))))), ((xa 7), .inr (3, G3 ra w_21)), ((ra 0), .inl (E 0, 60, .inl w_19)), ((ra 1), .inl (E 0, 60, .inl w_20)), (wh, .inr (7, G7 wa)), ((wa 0), .inl (E 0, 400, .inl wf0)), ((wa 1), .inl (E 0, 400, .inl wf1)), ((wa 2), .inl (E 0, 400, .inl wf2)), ((xa 6), .inr (2, G2 oa osize)), ((oa 0), .inl (E 0, 60, .inl of0)), ((oa 1), .inl (E 0, 60, .inl of1)), ((oa 2), .inl (E 0, 60, .inl of2)), ((oa 3), .inl (E 0, 60, .inl of3)), ((oa 4), .inl (E 0, 60, .inl of4)), ((xa 8), .inr (1, G1 fa w_49 w_53 w_54 w_50 w_57 w_51 w_55 w_56 w_52 fdivisor fbyWarmth fbyAge fform fwhole frest))] H := hP
          have hD := toW hP hD rfl
          obtain ⟨z_58, ez_58⟩ : ∃ y : Int32, y = L5_38 + 1 := ⟨_, rfl⟩
          have jz_58 : z_58.toInt = L5_38.toInt + 1 := by rw [ez_58]; exact g_add rfl t_1 (by omega) (by omega)
          refine lv_iinc (v := z_58) (lv' := [(5, .int z_58), (7, .int r_34), (6, .int z_33), (4, .ref wh), (0, .ref xh), (1, .int p0), (2, .int p1), (3, .int p2)]) hx hb dX8_fitLaw_107 hl (k := 2) rfl (by rw [ez_58]; rfl) (by decide) rfl (fun ls hl => ?_)
          refine lv_goto (tgt := 38) hx hb dX8_fitLaw_110 (by decide) ?_
          have hP := hP.sub (ws' := [(xh, .inr (8, G8 xa xtrialRule xdropRule xtoday)), ((xa 0), .inl (E 0, 400, .inl xf0)), ((xa 1), .inl (E 0, 16, .inl xf1)), ((xa 2), .inl (E 0, 16, .inl xf2)), ((xa 3), .inl (E 3, 16, .inr (.inr (.inr (.inr xf3))))), ((xa 8), .inr (1, G1 fa w_49 w_53 w_54 w_50 w_57 w_51 w_55 w_56 w_52 fdivisor fbyWarmth fbyAge fform fwhole frest)), ((xa 7), .inr (3, G3 ra w_21)), ((ra 0), .inl (E 0, 60, .inl w_19)), ((ra 1), .inl (E 0, 60, .inl w_20)), (wh, .inr (7, G7 wa)), ((wa 0), .inl (E 0, 400, .inl wf0)), ((wa 1), .inl (E 0, 400, .inl wf1)), ((wa 2), .inl (E 0, 400, .inl wf2)), ((xa 6), .inr (2, G2 oa osize)), ((oa 0), .inl (E 0, 60, .inl of0)), ((oa 1), .inl (E 0, 60, .inl of1)), ((oa 2), .inl (E 0, 60, .inl of2)), ((oa 3), .inl (E 0, 60, .inl of3)), ((oa 4), .inl (E 0, 60, .inl of4))]) [0, 1, 2, 3, 4, 18, 5, 6, 7, 8, 9, 10, 11, 12, 13, 14, 15, 16, 17] rfl
          have hD := hD.sub (ws' := [(xh, .inr (8, G8 xa xtrialRule xdropRule xtoday)), ((xa 0), .inl (E 0, 400, .inl xf0)), ((xa 1), .inl (E 0, 16, .inl xf1)), ((xa 2), .inl (E 0, 16, .inl xf2)), ((xa 3), .inl (E 3, 16, .inr (.inr (.inr (.inr xf3))))), ((xa 8), .inr (1, G1 fa w_49 w_53 w_54 w_50 w_57 w_51 w_55 w_56 w_52 fdivisor fbyWarmth fbyAge fform fwhole frest)), ((xa 7), .inr (3, G3 ra w_21)), ((ra 0), .inl (E 0, 60, .inl w_19)), ((ra 1), .inl (E 0, 60, .inl w_20)), (wh, .inr (7, G7 wa)), ((wa 0), .inl (E 0, 400, .inl wf0)), ((wa 1), .inl (E 0, 400, .inl wf1)), ((wa 2), .inl (E 0, 400, .inl wf2)), ((xa 6), .inr (2, G2 oa osize)), ((oa 0), .inl (E 0, 60, .inl of0)), ((oa 1), .inl (E 0, 60, .inl of1)), ((oa 2), .inl (E 0, 60, .inl of2)), ((oa 3), .inl (E 0, 60, .inl of3)), ((oa 4), .inl (E 0, 60, .inl of4))]) [0, 1, 2, 3, 4, 18, 5, 6, 7, 8, 9, 10, 11, 12, 13, 14, 15, 16, 17] (by decide) rfl
          exact ih_23 z_58 w_49 w_53 w_54 w_50 w_57 w_51 w_55 w_56 w_52 _ _ _ (by (try dsimp only); omega) (by (try dsimp only); omega) (by rw [clampS (by omega) jz_58, fold9_take hw_17_2 (by have c1 := i_clamp0 (x := L5_38) (by omega); omega)]; rw [step9_n (by (try dsimp only); rw [← ez_33, ← (hw_35.resolve_left (fun h9 => h9.1 (by omega))).2]; omega)]; (try dsimp only); rw [← ez_33, ← (hw_35.resolve_left (fun h9 => h9.1 (by omega))).2, ← ez_39, ← agX_of hw_43 (by omega), ← v1_38, hw_47]; subst_vars; rfl) hP hD hS (lv_sub hl [0, 3, 4, 5, 6, 7] rfl)
  exact loop_22 61 0 w_4 w_8 w_9 w_5 w_12 w_6 w_10 w_11 w_7 _ _ _ (by have h0 := t_0; (try dsimp only); omega) (by have h0 := t_0; (try dsimp only); omega) (by rw [clamp_0]; exact hw_2) hP hD hS (lv_sub hl [0, 1, 2, 3, 4, 5] rfl)
set_option maxHeartbeats 4000000 in
set_option maxRecDepth 100000 in
theorem g_X8_law_N (l : Launch) (D : va_G) (E : Nat → Nat) (xh : Nat) (xa : Nat → Nat) (xtrialRule : Nat) (xdropRule : Nat) (xtoday : Int32) (xf1 : Nat → Int32) (xf3 : Nat → Option Nat) (p0 : Int32) (p1 : Int32) (p2 : Int32) (hi_x : (0 ≤ xtoday.toInt ∧ xtoday.toInt ≤ 399)) (hn0 : ¬ (0 ≤ p0.toInt ∧ p0.toInt ≤ 15 ∧ ((xf1 (p0).toNatClampNeg).toInt = 0 ∨ (xf1 (p0).toNatClampNeg).toInt = 1))) : Met l yX8_law (wl yX8_law cX8_law 5 (some .int)) (RM 3 0 0) (rd_P D E [.ref xh, .int p0, .int p1, .int p2] [(xh, .inr (8, G8 xa xtrialRule xdropRule xtoday)), ((xa 1), .inl (E 0, 16, .inl xf1)), ((xa 3), .inl (E 3, 16, .inr (.inr (.inr (.inr xf3)))))]) (rd_Q (fun r => ((r.toInt = -1 ∧ ¬ ((0 ≤ p0.toInt ∧ p0.toInt ≤ 15) ∧ (0 ≤ p1.toInt ∧ p2.toInt ≤ 399 ∧ p1.toInt < p2.toInt ∧ p2.toInt - p1.toInt ≤ 60))) ∨ (((0 ≤ p0.toInt ∧ p0.toInt ≤ 15) ∧ (0 ≤ p1.toInt ∧ p2.toInt ≤ 399 ∧ p1.toInt < p2.toInt ∧ p2.toInt - p1.toInt ≤ 60)) ∧ (((xf1 (p0).toNatClampNeg).toInt = -5 ∧ r.toInt = -2) ∨ ((xf1 (p0).toNatClampNeg).toInt ≠ -5 ∧ r.toInt = -3)))))) 0 0 (fun _ => False) := by
  refine Met.ofW (cc := cX8_law) (maxL := 5) (ret := (some .int)) (by decide) rfl ?_
  intro p e s m args below meth c s₁ B hml hv
  obtain ⟨rfl, hP, hK⟩ := hv
  have hx := B.exec; have hb := B.bytes; have hr := B.returns
  have hts := atoms_spec (ws := wl yX8_law cX8_law 5 (some .int)) B.pre
  have htb : ∀ w ∈ tb, w.before _ s = true := fun w h => hts w (List.mem_cons_of_mem _ h)
  have hown : s.vm.findClass RX8 = some m.cls := findClass_of_methodNamed B.named
  have hlocks := B.notSynchronized
  have hP : va_P D vwCl [(xh, .inr (8, G8 xa xtrialRule xdropRule xtoday)), ((xa 1), .inl (E 0, 16, .inl xf1)), ((xa 3), .inl (E 3, 16, .inr (.inr (.inr (.inr xf3)))))] s.heap := hP
  have hl := lv_entry ([.ref xh, .int p0, .int p1, .int p2]) (n := 5) (Nat.le_of_ble_eq_true rfl)
  rw [lg_entry_eq]
  generalize (lg_sl ([.ref xh, .int p0, .int p1, .int p2]) ++ List.replicate (5 - (lg_sl ([.ref xh, .int p0, .int p1, .int p2])).length) Slot.unset).toArray = ls at hl ⊢
  have hl : lv_has ls 5 [(0, .ref xh), (1, .int p0), (2, .int p1), (3, .int p2)] := hl
  have lo_p0 := i_lo p0; have hi_p0 := i_hi p0
  have lo_p1 := i_lo p1; have hi_p1 := i_hi p1
  have lo_p2 := i_lo p2; have hi_p2 := i_hi p2
  refine lv_aload_n hx hb dX8_law_0 rfl (lv_at hl 0 rfl) ?_
  refine lv_iload_n hx hb dX8_law_1 rfl (lv_at hl 1 rfl) ?_
  refine lv_iload_n hx hb dX8_law_2 rfl (lv_at hl 2 rfl) ?_
  refine lv_iload_n hx hb dX8_law_3 rfl (lv_at hl 3 rfl) ?_
  refine callRV (rest := []) (As := [.int p0, .int p1, .int p2]) hx hb hml hown htb hK (g_X8_refusalOfStretch_N l D E xh xa xtrialRule xdropRule xtoday xf1 xf3 p0 p1 p2 (by (try dsimp only); omega) hn0) ok_X8_refusalOfStretch k_486 k_488 ks_5 k_1 k_489 ⟨(Nat.le_of_ble_eq_true rfl), (Nat.le_of_ble_eq_true rfl)⟩ ⟨(Nat.le_of_ble_eq_true rfl), (Nat.le_of_ble_eq_true rfl)⟩ hl.1 (Nat.le_of_ble_eq_true rfl) rfl rfl dX8_law_4 (hP.sub (ws' := [(xh, .inr (8, G8 xa xtrialRule xdropRule xtoday)), ((xa 1), .inl (E 0, 16, .inl xf1)), ((xa 3), .inl (E 3, 16, .inr (.inr (.inr (.inr xf3)))))]) [0, 1, 2] rfl) rfl rfl 0 rfl (fun r_1 hw_2 => ?_)
  refine lv_istore (lv' := [(4, .int r_1), (0, .ref xh), (1, .int p0), (2, .int p1), (3, .int p2)]) hx hb dX8_law_7 hl (by decide) rfl (fun ls hl => ?_)
  refine lv_iload hx hb dX8_law_9 (lv_at hl 0 rfl) ?_
  refine lv_if_eq (tgt := 17) hx hb dX8_law_11 (by decide) (fun c_4 => ?_) (fun c_4 => ?_)
  ·
    have ic_4 : r_1.toInt = 0 := (g_eq rfl t_0).mp c_4
    clear c_4
    refine lv_aload_n hx hb dX8_law_17 rfl (lv_at hl 1 rfl) ?_
    refine lv_iload_n hx hb dX8_law_18 rfl (lv_at hl 2 rfl) ?_
    refine lv_iload_n hx hb dX8_law_19 rfl (lv_at hl 3 rfl) ?_
    refine lv_iload_n hx hb dX8_law_20 rfl (lv_at hl 4 rfl) ?_
    exfalso; omega
  ·
    have ic_4 : r_1.toInt ≠ 0 := mt (g_eq rfl t_0).mpr c_4
    clear c_4
    refine lv_iload hx hb dX8_law_14 (lv_at hl 0 rfl) ?_
    exact W.iret (v := r_1) hx hb hr (fun t ht hW => ⟨r_1, rfl, hw_2, ht⟩) (fun q h => by cases h) dX8_law_16
set_option maxHeartbeats 4000000 in
set_option maxRecDepth 100000 in
theorem g_X8_law_W (l : Launch) (D : va_G) (E : Nat → Nat) (xh : Nat) (xa : Nat → Nat) (xtrialRule : Nat) (xdropRule : Nat) (xtoday : Int32) (xf0 : Nat → Int32) (xf1 : Nat → Int32) (xf2 : Nat → Int32) (xf3 : Nat → Option Nat) (wh : Nat) (wa : Nat → Nat) (wf0 : Nat → Int32) (wf1 : Nat → Int32) (wf2 : Nat → Int32) (oa : Nat → Nat) (osize : Int32) (of0 : Nat → Int32) (of1 : Nat → Int32) (of2 : Nat → Int32) (of3 : Nat → Int32) (of4 : Nat → Int32) (ra : Nat → Nat) (rsize : Int32) (rf0 : Nat → Int32) (rf1 : Nat → Int32) (fa : Nat → Nat) (fn : Int64) (fsumR : Int64) (fsumW : Int64) (fsumA : Int64) (fsumWW : Int64) (fsumAA : Int64) (fsumWA : Int64) (fsumWR : Int64) (fsumAR : Int64) (fdivisor : Int64) (fbyWarmth : Int64) (fbyAge : Int64) (fform : Int32) (fwhole : Int64) (frest : Int64) (p0 : Int32) (p1 : Int32) (p2 : Int32) (sz : Nat) (hi_x : (0 ≤ xtoday.toInt ∧ xtoday.toInt ≤ 399)) (hi_o : (0 ≤ osize.toInt ∧ osize.toInt ≤ 60)) (hi_r : (0 ≤ rsize.toInt ∧ rsize.toInt ≤ 60)) (hr_r0 : ∀ k : Nat, k < 60 → 0 ≤ (rf0 k).toInt ∧ (rf0 k).toInt ≤ 399) (hk0 : (0 ≤ p0.toInt ∧ p0.toInt ≤ 15 ∧ ((xf1 (p0).toNatClampNeg).toInt = 0 ∨ (xf1 (p0).toNatClampNeg).toInt = 1))) (hw0 : xf3 (p0).toNatClampNeg = some wh) : Met l yX8_law (wl yX8_law cX8_law 5 (some .int)) (RM 5 0 0) (mu_P D E [.ref xh, .int p0, .int p1, .int p2] [(xh, .inr (8, G8 xa xtrialRule xdropRule xtoday)), ((xa 0), .inl (E 0, 400, .inl xf0)), ((xa 1), .inl (E 0, 16, .inl xf1)), ((xa 2), .inl (E 0, 16, .inl xf2)), ((xa 3), .inl (E 3, 16, .inr (.inr (.inr (.inr xf3))))), (wh, .inr (7, G7 wa)), ((wa 0), .inl (E 0, 400, .inl wf0)), ((wa 1), .inl (E 0, 400, .inl wf1)), ((wa 2), .inl (E 0, 400, .inl wf2)), ((xa 6), .inr (2, G2 oa osize)), ((oa 0), .inl (E 0, 60, .inl of0)), ((oa 1), .inl (E 0, 60, .inl of1)), ((oa 2), .inl (E 0, 60, .inl of2)), ((oa 3), .inl (E 0, 60, .inl of3)), ((oa 4), .inl (E 0, 60, .inl of4)), ((xa 7), .inr (3, G3 ra rsize)), ((ra 0), .inl (E 0, 60, .inl rf0)), ((ra 1), .inl (E 0, 60, .inl rf1)), ((xa 8), .inr (1, G1 fa fn fsumR fsumW fsumA fsumWW fsumAA fsumWA fsumWR fsumAR fdivisor fbyWarmth fbyAge fform fwhole frest))] sz) (va_Qi (fun (r : Int32) (u : (Int64) × (Int64) × (Int64) × (Int32) × (Int64) × (Int64) × (Int64) × (Int64) × (Int64) × (Int64) × (Int64) × (Int64) × (Int64) × (Nat → Int32) × (Nat → Int32) × (Int32)) => (∀ k : Nat, k < 60 → 0 ≤ (u.2.2.2.2.2.2.2.2.2.2.2.2.2.1 k).toInt ∧ (u.2.2.2.2.2.2.2.2.2.2.2.2.2.1 k).toInt ≤ 399) ∧ (0 ≤ u.2.2.2.2.2.2.2.2.2.2.2.2.2.2.2.toInt ∧ u.2.2.2.2.2.2.2.2.2.2.2.2.2.2.2.toInt ≤ 60) ∧ ((r.toInt = -1 ∧ ¬ (0 ≤ p1.toInt ∧ p2.toInt ≤ 399 ∧ p1.toInt < p2.toInt ∧ p2.toInt - p1.toInt ≤ 60)) ∨ ((0 ≤ p1.toInt ∧ p2.toInt ≤ 399 ∧ p1.toInt < p2.toInt ∧ p2.toInt - p1.toInt ≤ 60) ∧ r = (fold9 (fun d => wmF xf1 xf2 xf0 p0 d) (fun d => agX wf2 d) (-100) (rateL (rXn wf0 wf1 wf2 of0 of1 of2 of3 of4 osize) p1 (p2.toInt - p1.toInt).toNat)).1.toInt32))) (mu_B D (va_A [(xh, .inr (8, G8 xa xtrialRule xdropRule xtoday)), ((xa 0), .inl (E 0, 400, .inl xf0)), ((xa 1), .inl (E 0, 16, .inl xf1)), ((xa 2), .inl (E 0, 16, .inl xf2)), ((xa 3), .inl (E 3, 16, .inr (.inr (.inr (.inr xf3))))), (wh, .inr (7, G7 wa)), ((wa 0), .inl (E 0, 400, .inl wf0)), ((wa 1), .inl (E 0, 400, .inl wf1)), ((wa 2), .inl (E 0, 400, .inl wf2)), ((xa 6), .inr (2, G2 oa osize)), ((oa 0), .inl (E 0, 60, .inl of0)), ((oa 1), .inl (E 0, 60, .inl of1)), ((oa 2), .inl (E 0, 60, .inl of2)), ((oa 3), .inl (E 0, 60, .inl of3)), ((oa 4), .inl (E 0, 60, .inl of4)), ((xa 7), .inr (3, G3 ra rsize)), ((ra 0), .inl (E 0, 60, .inl rf0)), ((ra 1), .inl (E 0, 60, .inl rf1)), ((xa 8), .inr (1, G1 fa fn fsumR fsumW fsumA fsumWW fsumAA fsumWA fsumWR fsumAR fdivisor fbyWarmth fbyAge fform fwhole frest))] sz) (fun (u : (Int64) × (Int64) × (Int64) × (Int32) × (Int64) × (Int64) × (Int64) × (Int64) × (Int64) × (Int64) × (Int64) × (Int64) × (Int64) × (Nat → Int32) × (Nat → Int32) × (Int32)) => [(xh, .inr (8, G8 xa xtrialRule xdropRule xtoday)), ((xa 0), .inl (E 0, 400, .inl xf0)), ((xa 1), .inl (E 0, 16, .inl xf1)), ((xa 2), .inl (E 0, 16, .inl xf2)), ((xa 3), .inl (E 3, 16, .inr (.inr (.inr (.inr xf3))))), (wh, .inr (7, G7 wa)), ((wa 0), .inl (E 0, 400, .inl wf0)), ((wa 1), .inl (E 0, 400, .inl wf1)), ((wa 2), .inl (E 0, 400, .inl wf2)), ((xa 6), .inr (2, G2 oa osize)), ((oa 0), .inl (E 0, 60, .inl of0)), ((oa 1), .inl (E 0, 60, .inl of1)), ((oa 2), .inl (E 0, 60, .inl of2)), ((oa 3), .inl (E 0, 60, .inl of3)), ((oa 4), .inl (E 0, 60, .inl of4)), ((xa 7), .inr (3, G3 ra u.2.2.2.2.2.2.2.2.2.2.2.2.2.2.2)), ((ra 0), .inl (E 0, 60, .inl u.2.2.2.2.2.2.2.2.2.2.2.2.2.1)), ((ra 1), .inl (E 0, 60, .inl u.2.2.2.2.2.2.2.2.2.2.2.2.2.2.1)), ((xa 8), .inr (1, G1 fa u.2.2.2.2.1 u.2.2.2.2.2.2.2.2.1 u.2.2.2.2.2.2.2.2.2.1 u.2.2.2.2.2.1 u.2.2.2.2.2.2.2.2.2.2.2.2.1 u.2.2.2.2.2.2.1 u.2.2.2.2.2.2.2.2.2.2.1 u.2.2.2.2.2.2.2.2.2.2.2.1 u.2.2.2.2.2.2.2.1 u.2.2.1 u.2.1 u.1 u.2.2.2.1 fwhole frest))])) (va_A [(xh, .inr (8, G8 xa xtrialRule xdropRule xtoday)), ((xa 0), .inl (E 0, 400, .inl xf0)), ((xa 1), .inl (E 0, 16, .inl xf1)), ((xa 2), .inl (E 0, 16, .inl xf2)), ((xa 3), .inl (E 3, 16, .inr (.inr (.inr (.inr xf3))))), (wh, .inr (7, G7 wa)), ((wa 0), .inl (E 0, 400, .inl wf0)), ((wa 1), .inl (E 0, 400, .inl wf1)), ((wa 2), .inl (E 0, 400, .inl wf2)), ((xa 6), .inr (2, G2 oa osize)), ((oa 0), .inl (E 0, 60, .inl of0)), ((oa 1), .inl (E 0, 60, .inl of1)), ((oa 2), .inl (E 0, 60, .inl of2)), ((oa 3), .inl (E 0, 60, .inl of3)), ((oa 4), .inl (E 0, 60, .inl of4)), ((xa 7), .inr (3, G3 ra rsize)), ((ra 0), .inl (E 0, 60, .inl rf0)), ((ra 1), .inl (E 0, 60, .inl rf1)), ((xa 8), .inr (1, G1 fa fn fsumR fsumW fsumA fsumWW fsumAA fsumWA fsumWR fsumAR fdivisor fbyWarmth fbyAge fform fwhole frest))] sz)) 0 0 (va_A [(xh, .inr (8, G8 xa xtrialRule xdropRule xtoday)), ((xa 0), .inl (E 0, 400, .inl xf0)), ((xa 1), .inl (E 0, 16, .inl xf1)), ((xa 2), .inl (E 0, 16, .inl xf2)), ((xa 3), .inl (E 3, 16, .inr (.inr (.inr (.inr xf3))))), (wh, .inr (7, G7 wa)), ((wa 0), .inl (E 0, 400, .inl wf0)), ((wa 1), .inl (E 0, 400, .inl wf1)), ((wa 2), .inl (E 0, 400, .inl wf2)), ((xa 6), .inr (2, G2 oa osize)), ((oa 0), .inl (E 0, 60, .inl of0)), ((oa 1), .inl (E 0, 60, .inl of1)), ((oa 2), .inl (E 0, 60, .inl of2)), ((oa 3), .inl (E 0, 60, .inl of3)), ((oa 4), .inl (E 0, 60, .inl of4)), ((xa 7), .inr (3, G3 ra rsize)), ((ra 0), .inl (E 0, 60, .inl rf0)), ((ra 1), .inl (E 0, 60, .inl rf1)), ((xa 8), .inr (1, G1 fa fn fsumR fsumW fsumA fsumWW fsumAA fsumWA fsumWR fsumAR fdivisor fbyWarmth fbyAge fform fwhole frest))] sz) := by
  refine Met.ofW (cc := cX8_law) (maxL := 5) (ret := (some .int)) (by decide) rfl ?_
  intro p e s m args below meth c s₁ B hml hv
  obtain ⟨rfl, hsz, hP, hK, hD0⟩ := hv
  have hx := B.exec; have hb := B.bytes; have hr := B.returns
  have hts := atoms_spec (ws := wl yX8_law cX8_law 5 (some .int)) B.pre
  have htb : ∀ w ∈ tb, w.before _ s = true := fun w h => hts w (List.mem_cons_of_mem _ h)
  have hown : s.vm.findClass RX8 = some m.cls := findClass_of_methodNamed B.named
  have hlocks := B.notSynchronized
  subst hsz
  have hD := hD0.self (sz := s.heap.size)
  generalize hAe : va_A [(xh, .inr (8, G8 xa xtrialRule xdropRule xtoday)), ((xa 0), .inl (E 0, 400, .inl xf0)), ((xa 1), .inl (E 0, 16, .inl xf1)), ((xa 2), .inl (E 0, 16, .inl xf2)), ((xa 3), .inl (E 3, 16, .inr (.inr (.inr (.inr xf3))))), (wh, .inr (7, G7 wa)), ((wa 0), .inl (E 0, 400, .inl wf0)), ((wa 1), .inl (E 0, 400, .inl wf1)), ((wa 2), .inl (E 0, 400, .inl wf2)), ((xa 6), .inr (2, G2 oa osize)), ((oa 0), .inl (E 0, 60, .inl of0)), ((oa 1), .inl (E 0, 60, .inl of1)), ((oa 2), .inl (E 0, 60, .inl of2)), ((oa 3), .inl (E 0, 60, .inl of3)), ((oa 4), .inl (E 0, 60, .inl of4)), ((xa 7), .inr (3, G3 ra rsize)), ((ra 0), .inl (E 0, 60, .inl rf0)), ((ra 1), .inl (E 0, 60, .inl rf1)), ((xa 8), .inr (1, G1 fa fn fsumR fsumW fsumA fsumWW fsumAA fsumWA fsumWR fsumAR fdivisor fbyWarmth fbyAge fform fwhole frest))] s.heap.size = A at hD ⊢
  have hA : ∀ q : Nat, s.heap.size ≤ q → A q := fun q h => by rw [← hAe]; exact Or.inr h
  have hS : va_S A s.heap s.heap [] := va_S.rf
  have hP : va_P D vwCl [(xh, .inr (8, G8 xa xtrialRule xdropRule xtoday)), ((xa 0), .inl (E 0, 400, .inl xf0)), ((xa 1), .inl (E 0, 16, .inl xf1)), ((xa 2), .inl (E 0, 16, .inl xf2)), ((xa 3), .inl (E 3, 16, .inr (.inr (.inr (.inr xf3))))), (wh, .inr (7, G7 wa)), ((wa 0), .inl (E 0, 400, .inl wf0)), ((wa 1), .inl (E 0, 400, .inl wf1)), ((wa 2), .inl (E 0, 400, .inl wf2)), ((xa 6), .inr (2, G2 oa osize)), ((oa 0), .inl (E 0, 60, .inl of0)), ((oa 1), .inl (E 0, 60, .inl of1)), ((oa 2), .inl (E 0, 60, .inl of2)), ((oa 3), .inl (E 0, 60, .inl of3)), ((oa 4), .inl (E 0, 60, .inl of4)), ((xa 7), .inr (3, G3 ra rsize)), ((ra 0), .inl (E 0, 60, .inl rf0)), ((ra 1), .inl (E 0, 60, .inl rf1)), ((xa 8), .inr (1, G1 fa fn fsumR fsumW fsumA fsumWW fsumAA fsumWA fsumWR fsumAR fdivisor fbyWarmth fbyAge fform fwhole frest))] s.heap := hP
  have hl := lv_entry ([.ref xh, .int p0, .int p1, .int p2]) (n := 5) (Nat.le_of_ble_eq_true rfl)
  rw [lg_entry_eq]
  generalize (lg_sl ([.ref xh, .int p0, .int p1, .int p2]) ++ List.replicate (5 - (lg_sl ([.ref xh, .int p0, .int p1, .int p2])).length) Slot.unset).toArray = ls at hl ⊢
  have hl : lv_has ls 5 [(0, .ref xh), (1, .int p0), (2, .int p1), (3, .int p2)] := hl
  have lo_p0 := i_lo p0; have hi_p0 := i_hi p0
  have lo_p1 := i_lo p1; have hi_p1 := i_hi p1
  have lo_p2 := i_lo p2; have hi_p2 := i_hi p2
  refine lv_aload_n hx hb dX8_law_0 rfl (lv_at hl 0 rfl) ?_
  refine lv_iload_n hx hb dX8_law_1 rfl (lv_at hl 1 rfl) ?_
  refine lv_iload_n hx hb dX8_law_2 rfl (lv_at hl 2 rfl) ?_
  refine lv_iload_n hx hb dX8_law_3 rfl (lv_at hl 3 rfl) ?_
  refine callRV (rest := []) (As := [.int p0, .int p1, .int p2]) hx hb hml hown htb hK (g_X8_refusalOfStretch_W l D E xh xa xtrialRule xdropRule xtoday xf1 xf3 wh wa p0 p1 p2 (by (try dsimp only); omega) hk0 hw0) ok_X8_refusalOfStretch k_486 k_488 ks_5 k_1 k_489 ⟨(Nat.le_of_ble_eq_true rfl), (Nat.le_of_ble_eq_true rfl)⟩ ⟨(Nat.le_of_ble_eq_true rfl), (Nat.le_of_ble_eq_true rfl)⟩ hl.1 (Nat.le_of_ble_eq_true rfl) rfl rfl dX8_law_4 (hP.sub (ws' := [(xh, .inr (8, G8 xa xtrialRule xdropRule xtoday)), ((xa 1), .inl (E 0, 16, .inl xf1)), ((xa 3), .inl (E 3, 16, .inr (.inr (.inr (.inr xf3))))), (wh, .inr (7, G7 wa))]) [0, 2, 4, 5] rfl) rfl rfl 0 rfl (fun r_1 hw_2 => ?_)
  refine lv_istore (lv' := [(4, .int r_1), (0, .ref xh), (1, .int p0), (2, .int p1), (3, .int p2)]) hx hb dX8_law_7 hl (by decide) rfl (fun ls hl => ?_)
  refine lv_iload hx hb dX8_law_9 (lv_at hl 0 rfl) ?_
  refine lv_if_eq (tgt := 17) hx hb dX8_law_11 (by decide) (fun c_4 => ?_) (fun c_4 => ?_)
  ·
    have ic_4 : r_1.toInt = 0 := (g_eq rfl t_0).mp c_4
    clear c_4
    refine lv_aload_n hx hb dX8_law_17 rfl (lv_at hl 1 rfl) ?_
    refine lv_iload_n hx hb dX8_law_18 rfl (lv_at hl 2 rfl) ?_
    refine lv_iload_n hx hb dX8_law_19 rfl (lv_at hl 3 rfl) ?_
    refine lv_iload_n hx hb dX8_law_20 rfl (lv_at hl 4 rfl) ?_
    have hPc := hP.sub (ws' := [(xh, .inr (8, G8 xa xtrialRule xdropRule xtoday)), ((xa 0), .inl (E 0, 400, .inl xf0)), ((xa 1), .inl (E 0, 16, .inl xf1)), ((xa 2), .inl (E 0, 16, .inl xf2)), ((xa 3), .inl (E 3, 16, .inr (.inr (.inr (.inr xf3))))), (wh, .inr (7, G7 wa)), ((wa 0), .inl (E 0, 400, .inl wf0)), ((wa 1), .inl (E 0, 400, .inl wf1)), ((wa 2), .inl (E 0, 400, .inl wf2)), ((xa 6), .inr (2, G2 oa osize)), ((oa 0), .inl (E 0, 60, .inl of0)), ((oa 1), .inl (E 0, 60, .inl of1)), ((oa 2), .inl (E 0, 60, .inl of2)), ((oa 3), .inl (E 0, 60, .inl of3)), ((oa 4), .inl (E 0, 60, .inl of4)), ((xa 7), .inr (3, G3 ra rsize)), ((ra 0), .inl (E 0, 60, .inl rf0)), ((ra 1), .inl (E 0, 60, .inl rf1)), ((xa 8), .inr (1, G1 fa fn fsumR fsumW fsumA fsumWW fsumAA fsumWA fsumWR fsumAR fdivisor fbyWarmth fbyAge fform fwhole frest))]) [0, 1, 2, 3, 4, 5, 6, 7, 8, 9, 10, 11, 12, 13, 14, 15, 16, 17, 18] rfl
    have hDc := hD.sub (ws' := [(xh, .inr (8, G8 xa xtrialRule xdropRule xtoday)), ((xa 0), .inl (E 0, 400, .inl xf0)), ((xa 1), .inl (E 0, 16, .inl xf1)), ((xa 2), .inl (E 0, 16, .inl xf2)), ((xa 3), .inl (E 3, 16, .inr (.inr (.inr (.inr xf3))))), (wh, .inr (7, G7 wa)), ((wa 0), .inl (E 0, 400, .inl wf0)), ((wa 1), .inl (E 0, 400, .inl wf1)), ((wa 2), .inl (E 0, 400, .inl wf2)), ((xa 6), .inr (2, G2 oa osize)), ((oa 0), .inl (E 0, 60, .inl of0)), ((oa 1), .inl (E 0, 60, .inl of1)), ((oa 2), .inl (E 0, 60, .inl of2)), ((oa 3), .inl (E 0, 60, .inl of3)), ((oa 4), .inl (E 0, 60, .inl of4)), ((xa 7), .inr (3, G3 ra rsize)), ((ra 0), .inl (E 0, 60, .inl rf0)), ((ra 1), .inl (E 0, 60, .inl rf1)), ((xa 8), .inr (1, G1 fa fn fsumR fsumW fsumA fsumWW fsumAA fsumWA fsumWR fsumAR fdivisor fbyWarmth fbyAge fform fwhole frest))]) [0, 1, 2, 3, 4, 5, 6, 7, 8, 9, 10, 11, 12, 13, 14, 15, 16, 17, 18] (by decide) rfl
    refine aft_v (runMV (rest := []) (As := [.int p0, .int p1, .int p2]) hx hb hml hown htb hK (g_X8_fitLaw_W l D E xh xa xtrialRule xdropRule xtoday xf0 xf1 xf2 xf3 wh wa wf0 wf1 wf2 oa osize of0 of1 of2 of3 of4 ra rsize rf0 rf1 fa fn fsumR fsumW fsumA fsumWW fsumAA fsumWA fsumWR fsumAR fdivisor fbyWarmth fbyAge fform fwhole frest p0 p1 p2 _ (by (try dsimp only); omega) (by (try dsimp only); omega) (by (try dsimp only); omega) hr_r0 hk0 hw0 (by (try dsimp only); omega)) ok_X8_fitLaw k_490 k_492 ks_6 k_1 k_493 ⟨(Nat.le_of_ble_eq_true rfl), (Nat.le_of_ble_eq_true rfl)⟩ ⟨(Nat.le_of_ble_eq_true rfl), (Nat.le_of_ble_eq_true rfl)⟩ hl.1 (Nat.le_of_ble_eq_true rfl) rfl rfl dX8_law_21 hPc hDc rfl rfl 0 rfl) hP hD hS hA [0, 1, 2, 3, 4, 5, 6, 7, 8, 9, 10, 11, 12, 13, 14, 15, 16, 17, 18] [] (wr := ([] : va_W)) rfl rfl (by decide) (by decide) (fun u_7 H locs hw_6 hP hD hS => ?_)
    clear hPc hDc
    obtain ⟨w_8, w_9, w_10, w_11, w_12, w_13, w_14, w_15, w_16, w_17, w_18, w_19, w_20, w_21, w_22, w_23⟩ := u_7
    try dsimp only at hw_6
    have hP : va_P D vwCl [(xh, .inr (8, G8 xa xtrialRule xdropRule xtoday)), ((xa 0), .inl (E 0, 400, .inl xf0)), ((xa 1), .inl (E 0, 16, .inl xf1)), ((xa 2), .inl (E 0, 16, .inl xf2)), ((xa 3), .inl (E 3, 16, .inr (.inr (.inr (.inr xf3))))), (wh, .inr (7, G7 wa)), ((wa 0), .inl (E 0, 400, .inl wf0)), ((wa 1), .inl (E 0, 400, .inl wf1)), ((wa 2), .inl (E 0, 400, .inl wf2)), ((xa 6), .inr (2, G2 oa osize)), ((oa 0), .inl (E 0, 60, .inl of0)), ((oa 1), .inl (E 0, 60, .inl of1)), ((oa 2), .inl (E 0, 60, .inl of2)), ((oa 3), .inl (E 0, 60, .inl of3)), ((oa 4), .inl (E 0, 60, .inl of4)), ((xa 7), .inr (3, G3 ra w_23)), ((ra 0), .inl (E 0, 60, .inl w_21)), ((ra 1), .inl (E 0, 60, .inl w_22)), ((xa 8), .inr (1, G1 fa w_12 w_16 w_17 w_13 w_20 w_14 w_18 w_19 w_15 w_10 w_9 w_8 w_11 fwhole frest))] H := hP
    have hD := toW hP hD rfl
    obtain ⟨hw_6_0, hw_6_1, hw_6_2, hw_6_3⟩ := hw_6
    refine lv_aload_n hx hb dX8_law_24 rfl (lv_at hl 1 rfl) ?_
    refine va_get (D := D) (ci := 8) (v := .ref (xa 8)) (C := RX8) (T := TX8) (N := 14) hx hb htb iX8 hown hK.1 hP 0 rfl rfl 8 (by decide) (htb _ k_280) (fun _ h9 => h9) rfl dX8_law_25 ?_
    refine callRV (rest := []) (As := []) hx hb hml hown htb hK (g_X1_size l D E (xa 8) fa w_12 w_16 w_17 w_13 w_20 w_14 w_18 w_19 w_15 w_10 w_9 w_8 w_11 fwhole frest ) ok_X1_size k_521 k_522 k_523 k_4 k_524 ⟨(Nat.le_of_ble_eq_true rfl), (Nat.le_of_ble_eq_true rfl)⟩ ⟨(Nat.le_of_ble_eq_true rfl), (Nat.le_of_ble_eq_true rfl)⟩ hl.1 (Nat.le_of_ble_eq_true rfl) rfl rfl dX8_law_28 (hP.sub (ws' := [((xa 8), .inr (1, G1 fa w_12 w_16 w_17 w_13 w_20 w_14 w_18 w_19 w_15 w_10 w_9 w_8 w_11 fwhole frest))]) [18] rfl) rfl rfl 0 rfl (fun r_24 hw_25 => ?_)
    have hP9 := hP.sub (ws' := [(xh, .inr (8, G8 xa xtrialRule xdropRule xtoday)), ((xa 0), .inl (E 0, 400, .inl xf0)), ((xa 1), .inl (E 0, 16, .inl xf1)), ((xa 2), .inl (E 0, 16, .inl xf2)), ((xa 3), .inl (E 3, 16, .inr (.inr (.inr (.inr xf3))))), (wh, .inr (7, G7 wa)), ((wa 0), .inl (E 0, 400, .inl wf0)), ((wa 1), .inl (E 0, 400, .inl wf1)), ((wa 2), .inl (E 0, 400, .inl wf2)), ((xa 6), .inr (2, G2 oa osize)), ((oa 0), .inl (E 0, 60, .inl of0)), ((oa 1), .inl (E 0, 60, .inl of1)), ((oa 2), .inl (E 0, 60, .inl of2)), ((oa 3), .inl (E 0, 60, .inl of3)), ((oa 4), .inl (E 0, 60, .inl of4)), ((xa 7), .inr (3, G3 ra w_23)), ((ra 0), .inl (E 0, 60, .inl w_21)), ((ra 1), .inl (E 0, 60, .inl w_22)), ((xa 8), .inr (1, G1 fa w_12 w_16 w_17 w_13 w_20 w_14 w_18 w_19 w_15 w_10 w_9 w_8 w_11 fwhole frest))]) [0, 1, 2, 3, 4, 5, 6, 7, 8, 9, 10, 11, 12, 13, 14, 15, 16, 17, 18] rfl
    have hD9 := hD.sub (ws' := [(xh, .inr (8, G8 xa xtrialRule xdropRule xtoday)), ((xa 0), .inl (E 0, 400, .inl xf0)), ((xa 1), .inl (E 0, 16, .inl xf1)), ((xa 2), .inl (E 0, 16, .inl xf2)), ((xa 3), .inl (E 3, 16, .inr (.inr (.inr (.inr xf3))))), (wh, .inr (7, G7 wa)), ((wa 0), .inl (E 0, 400, .inl wf0)), ((wa 1), .inl (E 0, 400, .inl wf1)), ((wa 2), .inl (E 0, 400, .inl wf2)), ((xa 6), .inr (2, G2 oa osize)), ((oa 0), .inl (E 0, 60, .inl of0)), ((oa 1), .inl (E 0, 60, .inl of1)), ((oa 2), .inl (E 0, 60, .inl of2)), ((oa 3), .inl (E 0, 60, .inl of3)), ((oa 4), .inl (E 0, 60, .inl of4)), ((xa 7), .inr (3, G3 ra w_23)), ((ra 0), .inl (E 0, 60, .inl w_21)), ((ra 1), .inl (E 0, 60, .inl w_22)), ((xa 8), .inr (1, G1 fa w_12 w_16 w_17 w_13 w_20 w_14 w_18 w_19 w_15 w_10 w_9 w_8 w_11 fwhole frest))]) [0, 1, 2, 3, 4, 5, 6, 7, 8, 9, 10, 11, 12, 13, 14, 15, 16, 17, 18] (by decide) rfl
    exact W.iret (v := r_24) hx hb hr (fun t ht hW => ⟨⟨r_24, (w_8, w_9, w_10, w_11, w_12, w_13, w_14, w_15, w_16, w_17, w_18, w_19, w_20, w_21, w_22, w_23), rfl, ⟨hw_6_0, (by (try dsimp only); omega), (Or.inr ⟨by have h9 := hw_2; omega, by rw [← hw_6_2]; exact hw_25⟩)⟩, by rw [ht]; exact hP9, hD9⟩, hS.F ht⟩) hS.2.2 dX8_law_31
  ·
    have ic_4 : r_1.toInt ≠ 0 := mt (g_eq rfl t_0).mpr c_4
    clear c_4
    refine lv_iload hx hb dX8_law_14 (lv_at hl 0 rfl) ?_
    have hP9 := hP.sub (ws' := [(xh, .inr (8, G8 xa xtrialRule xdropRule xtoday)), ((xa 0), .inl (E 0, 400, .inl xf0)), ((xa 1), .inl (E 0, 16, .inl xf1)), ((xa 2), .inl (E 0, 16, .inl xf2)), ((xa 3), .inl (E 3, 16, .inr (.inr (.inr (.inr xf3))))), (wh, .inr (7, G7 wa)), ((wa 0), .inl (E 0, 400, .inl wf0)), ((wa 1), .inl (E 0, 400, .inl wf1)), ((wa 2), .inl (E 0, 400, .inl wf2)), ((xa 6), .inr (2, G2 oa osize)), ((oa 0), .inl (E 0, 60, .inl of0)), ((oa 1), .inl (E 0, 60, .inl of1)), ((oa 2), .inl (E 0, 60, .inl of2)), ((oa 3), .inl (E 0, 60, .inl of3)), ((oa 4), .inl (E 0, 60, .inl of4)), ((xa 7), .inr (3, G3 ra rsize)), ((ra 0), .inl (E 0, 60, .inl rf0)), ((ra 1), .inl (E 0, 60, .inl rf1)), ((xa 8), .inr (1, G1 fa fn fsumR fsumW fsumA fsumWW fsumAA fsumWA fsumWR fsumAR fdivisor fbyWarmth fbyAge fform fwhole frest))]) [0, 1, 2, 3, 4, 5, 6, 7, 8, 9, 10, 11, 12, 13, 14, 15, 16, 17, 18] rfl
    have hD9 := hD.sub (ws' := [(xh, .inr (8, G8 xa xtrialRule xdropRule xtoday)), ((xa 0), .inl (E 0, 400, .inl xf0)), ((xa 1), .inl (E 0, 16, .inl xf1)), ((xa 2), .inl (E 0, 16, .inl xf2)), ((xa 3), .inl (E 3, 16, .inr (.inr (.inr (.inr xf3))))), (wh, .inr (7, G7 wa)), ((wa 0), .inl (E 0, 400, .inl wf0)), ((wa 1), .inl (E 0, 400, .inl wf1)), ((wa 2), .inl (E 0, 400, .inl wf2)), ((xa 6), .inr (2, G2 oa osize)), ((oa 0), .inl (E 0, 60, .inl of0)), ((oa 1), .inl (E 0, 60, .inl of1)), ((oa 2), .inl (E 0, 60, .inl of2)), ((oa 3), .inl (E 0, 60, .inl of3)), ((oa 4), .inl (E 0, 60, .inl of4)), ((xa 7), .inr (3, G3 ra rsize)), ((ra 0), .inl (E 0, 60, .inl rf0)), ((ra 1), .inl (E 0, 60, .inl rf1)), ((xa 8), .inr (1, G1 fa fn fsumR fsumW fsumA fsumWW fsumAA fsumWA fsumWR fsumAR fdivisor fbyWarmth fbyAge fform fwhole frest))]) [0, 1, 2, 3, 4, 5, 6, 7, 8, 9, 10, 11, 12, 13, 14, 15, 16, 17, 18] (by decide) rfl
    exact W.iret (v := r_1) hx hb hr (fun t ht hW => ⟨⟨r_1, (fbyAge, fbyWarmth, fdivisor, fform, fn, fsumA, fsumAA, fsumAR, fsumR, fsumW, fsumWA, fsumWR, fsumWW, rf0, rf1, rsize), rfl, ⟨hr_r0, (by (try dsimp only); omega), (by rcases hw_2 with h9 | h9 <;> first | (exfalso; omega) | exact Or.inl ⟨by omega, by omega⟩)⟩, by rw [ht]; exact hP9, hD9⟩, hS.F ht⟩) hS.2.2 dX8_law_16
set_option maxHeartbeats 4000000 in
set_option maxRecDepth 100000 in
theorem g_X8_terms_N (l : Launch) (D : va_G) (E : Nat → Nat) (xh : Nat) (xa : Nat → Nat) (xtrialRule : Nat) (xdropRule : Nat) (xtoday : Int32) (xf1 : Nat → Int32) (xf3 : Nat → Option Nat) (p0 : Int32) (p1 : Int32) (p2 : Int32) (hi_x : (0 ≤ xtoday.toInt ∧ xtoday.toInt ≤ 399)) (hn0 : ¬ (0 ≤ p0.toInt ∧ p0.toInt ≤ 15 ∧ ((xf1 (p0).toNatClampNeg).toInt = 0 ∨ (xf1 (p0).toNatClampNeg).toInt = 1))) : Met l yX8_terms (wl yX8_terms cX8_terms 5 (some .int)) (RM 3 0 0) (rd_P D E [.ref xh, .int p0, .int p1, .int p2] [(xh, .inr (8, G8 xa xtrialRule xdropRule xtoday)), ((xa 1), .inl (E 0, 16, .inl xf1)), ((xa 3), .inl (E 3, 16, .inr (.inr (.inr (.inr xf3)))))]) (rd_Q (fun r => ((r.toInt = -1 ∧ ¬ ((0 ≤ p0.toInt ∧ p0.toInt ≤ 15) ∧ (0 ≤ p1.toInt ∧ p2.toInt ≤ 399 ∧ p1.toInt < p2.toInt ∧ p2.toInt - p1.toInt ≤ 60))) ∨ (((0 ≤ p0.toInt ∧ p0.toInt ≤ 15) ∧ (0 ≤ p1.toInt ∧ p2.toInt ≤ 399 ∧ p1.toInt < p2.toInt ∧ p2.toInt - p1.toInt ≤ 60)) ∧ (((xf1 (p0).toNatClampNeg).toInt = -5 ∧ r.toInt = -2) ∨ ((xf1 (p0).toNatClampNeg).toInt ≠ -5 ∧ r.toInt = -3)))))) 0 0 (fun _ => False) := by
  refine Met.ofW (cc := cX8_terms) (maxL := 5) (ret := (some .int)) (by decide) rfl ?_
  intro p e s m args below meth c s₁ B hml hv
  obtain ⟨rfl, hP, hK⟩ := hv
  have hx := B.exec; have hb := B.bytes; have hr := B.returns
  have hts := atoms_spec (ws := wl yX8_terms cX8_terms 5 (some .int)) B.pre
  have htb : ∀ w ∈ tb, w.before _ s = true := fun w h => hts w (List.mem_cons_of_mem _ h)
  have hown : s.vm.findClass RX8 = some m.cls := findClass_of_methodNamed B.named
  have hlocks := B.notSynchronized
  have hP : va_P D vwCl [(xh, .inr (8, G8 xa xtrialRule xdropRule xtoday)), ((xa 1), .inl (E 0, 16, .inl xf1)), ((xa 3), .inl (E 3, 16, .inr (.inr (.inr (.inr xf3)))))] s.heap := hP
  have hl := lv_entry ([.ref xh, .int p0, .int p1, .int p2]) (n := 5) (Nat.le_of_ble_eq_true rfl)
  rw [lg_entry_eq]
  generalize (lg_sl ([.ref xh, .int p0, .int p1, .int p2]) ++ List.replicate (5 - (lg_sl ([.ref xh, .int p0, .int p1, .int p2])).length) Slot.unset).toArray = ls at hl ⊢
  have hl : lv_has ls 5 [(0, .ref xh), (1, .int p0), (2, .int p1), (3, .int p2)] := hl
  have lo_p0 := i_lo p0; have hi_p0 := i_hi p0
  have lo_p1 := i_lo p1; have hi_p1 := i_hi p1
  have lo_p2 := i_lo p2; have hi_p2 := i_hi p2
  refine lv_aload_n hx hb dX8_terms_0 rfl (lv_at hl 0 rfl) ?_
  refine lv_iload_n hx hb dX8_terms_1 rfl (lv_at hl 1 rfl) ?_
  refine lv_iload_n hx hb dX8_terms_2 rfl (lv_at hl 2 rfl) ?_
  refine lv_iload_n hx hb dX8_terms_3 rfl (lv_at hl 3 rfl) ?_
  refine callRV (rest := []) (As := [.int p0, .int p1, .int p2]) hx hb hml hown htb hK (g_X8_refusalOfStretch_N l D E xh xa xtrialRule xdropRule xtoday xf1 xf3 p0 p1 p2 (by (try dsimp only); omega) hn0) ok_X8_refusalOfStretch k_486 k_488 ks_5 k_1 k_489 ⟨(Nat.le_of_ble_eq_true rfl), (Nat.le_of_ble_eq_true rfl)⟩ ⟨(Nat.le_of_ble_eq_true rfl), (Nat.le_of_ble_eq_true rfl)⟩ hl.1 (Nat.le_of_ble_eq_true rfl) rfl rfl dX8_terms_4 (hP.sub (ws' := [(xh, .inr (8, G8 xa xtrialRule xdropRule xtoday)), ((xa 1), .inl (E 0, 16, .inl xf1)), ((xa 3), .inl (E 3, 16, .inr (.inr (.inr (.inr xf3)))))]) [0, 1, 2] rfl) rfl rfl 0 rfl (fun r_1 hw_2 => ?_)
  refine lv_istore (lv' := [(4, .int r_1), (0, .ref xh), (1, .int p0), (2, .int p1), (3, .int p2)]) hx hb dX8_terms_7 hl (by decide) rfl (fun ls hl => ?_)
  refine lv_iload hx hb dX8_terms_9 (lv_at hl 0 rfl) ?_
  refine lv_if_eq (tgt := 17) hx hb dX8_terms_11 (by decide) (fun c_4 => ?_) (fun c_4 => ?_)
  ·
    have ic_4 : r_1.toInt = 0 := (g_eq rfl t_0).mp c_4
    clear c_4
    refine lv_aload_n hx hb dX8_terms_17 rfl (lv_at hl 1 rfl) ?_
    refine lv_iload_n hx hb dX8_terms_18 rfl (lv_at hl 2 rfl) ?_
    refine lv_iload_n hx hb dX8_terms_19 rfl (lv_at hl 3 rfl) ?_
    refine lv_iload_n hx hb dX8_terms_20 rfl (lv_at hl 4 rfl) ?_
    exfalso; omega
  ·
    have ic_4 : r_1.toInt ≠ 0 := mt (g_eq rfl t_0).mpr c_4
    clear c_4
    refine lv_iload hx hb dX8_terms_14 (lv_at hl 0 rfl) ?_
    exact W.iret (v := r_1) hx hb hr (fun t ht hW => ⟨r_1, rfl, hw_2, ht⟩) (fun q h => by cases h) dX8_terms_16
set_option maxHeartbeats 4000000 in
set_option maxRecDepth 100000 in
theorem g_X8_terms_W (l : Launch) (D : va_G) (E : Nat → Nat) (xh : Nat) (xa : Nat → Nat) (xtrialRule : Nat) (xdropRule : Nat) (xtoday : Int32) (xf0 : Nat → Int32) (xf1 : Nat → Int32) (xf2 : Nat → Int32) (xf3 : Nat → Option Nat) (wh : Nat) (wa : Nat → Nat) (wf0 : Nat → Int32) (wf1 : Nat → Int32) (wf2 : Nat → Int32) (oa : Nat → Nat) (osize : Int32) (of0 : Nat → Int32) (of1 : Nat → Int32) (of2 : Nat → Int32) (of3 : Nat → Int32) (of4 : Nat → Int32) (ra : Nat → Nat) (rsize : Int32) (rf0 : Nat → Int32) (rf1 : Nat → Int32) (fa : Nat → Nat) (fn : Int64) (fsumR : Int64) (fsumW : Int64) (fsumA : Int64) (fsumWW : Int64) (fsumAA : Int64) (fsumWA : Int64) (fsumWR : Int64) (fsumAR : Int64) (fdivisor : Int64) (fbyWarmth : Int64) (fbyAge : Int64) (fform : Int32) (fwhole : Int64) (frest : Int64) (p0 : Int32) (p1 : Int32) (p2 : Int32) (sz : Nat) (hi_x : (0 ≤ xtoday.toInt ∧ xtoday.toInt ≤ 399)) (hi_o : (0 ≤ osize.toInt ∧ osize.toInt ≤ 60)) (hi_r : (0 ≤ rsize.toInt ∧ rsize.toInt ≤ 60)) (hr_r0 : ∀ k : Nat, k < 60 → 0 ≤ (rf0 k).toInt ∧ (rf0 k).toInt ≤ 399) (hk0 : (0 ≤ p0.toInt ∧ p0.toInt ≤ 15 ∧ ((xf1 (p0).toNatClampNeg).toInt = 0 ∨ (xf1 (p0).toNatClampNeg).toInt = 1))) (hw0 : xf3 (p0).toNatClampNeg = some wh) : Met l yX8_terms (wl yX8_terms cX8_terms 5 (some .int)) (RM 5 0 0) (mu_P D E [.ref xh, .int p0, .int p1, .int p2] [(xh, .inr (8, G8 xa xtrialRule xdropRule xtoday)), ((xa 0), .inl (E 0, 400, .inl xf0)), ((xa 1), .inl (E 0, 16, .inl xf1)), ((xa 2), .inl (E 0, 16, .inl xf2)), ((xa 3), .inl (E 3, 16, .inr (.inr (.inr (.inr xf3))))), (wh, .inr (7, G7 wa)), ((wa 0), .inl (E 0, 400, .inl wf0)), ((wa 1), .inl (E 0, 400, .inl wf1)), ((wa 2), .inl (E 0, 400, .inl wf2)), ((xa 6), .inr (2, G2 oa osize)), ((oa 0), .inl (E 0, 60, .inl of0)), ((oa 1), .inl (E 0, 60, .inl of1)), ((oa 2), .inl (E 0, 60, .inl of2)), ((oa 3), .inl (E 0, 60, .inl of3)), ((oa 4), .inl (E 0, 60, .inl of4)), ((xa 7), .inr (3, G3 ra rsize)), ((ra 0), .inl (E 0, 60, .inl rf0)), ((ra 1), .inl (E 0, 60, .inl rf1)), ((xa 8), .inr (1, G1 fa fn fsumR fsumW fsumA fsumWW fsumAA fsumWA fsumWR fsumAR fdivisor fbyWarmth fbyAge fform fwhole frest))] sz) (va_Qi (fun (r : Int32) (u : (Int64) × (Int64) × (Int64) × (Int32) × (Int64) × (Int64) × (Int64) × (Int64) × (Int64) × (Int64) × (Int64) × (Int64) × (Int64) × (Nat → Int32) × (Nat → Int32) × (Int32)) => (∀ k : Nat, k < 60 → 0 ≤ (u.2.2.2.2.2.2.2.2.2.2.2.2.2.1 k).toInt ∧ (u.2.2.2.2.2.2.2.2.2.2.2.2.2.1 k).toInt ≤ 399) ∧ (0 ≤ u.2.2.2.2.2.2.2.2.2.2.2.2.2.2.2.toInt ∧ u.2.2.2.2.2.2.2.2.2.2.2.2.2.2.2.toInt ≤ 60) ∧ ((r.toInt = -1 ∧ ¬ (0 ≤ p1.toInt ∧ p2.toInt ≤ 399 ∧ p1.toInt < p2.toInt ∧ p2.toInt - p1.toInt ≤ 60)) ∨ ((0 ≤ p1.toInt ∧ p2.toInt ≤ 399 ∧ p1.toInt < p2.toInt ∧ p2.toInt - p1.toInt ≤ 60) ∧ (((fold9 (fun d => wmF xf1 xf2 xf0 p0 d) (fun d => agX wf2 d) (-100) (rateL (rXn wf0 wf1 wf2 of0 of1 of2 of3 of4 osize) p1 (p2.toInt - p1.toInt).toNat)).1.toInt32.toInt = 0 ∧ r.toInt = -4) ∨ ((fold9 (fun d => wmF xf1 xf2 xf0 p0 d) (fun d => agX wf2 d) (-100) (rateL (rXn wf0 wf1 wf2 of0 of1 of2 of3 of4 osize) p1 (p2.toInt - p1.toInt).toNat)).1.toInt32.toInt ≠ 0 ∧ r = (solX (fold9 (fun d => wmF xf1 xf2 xf0 p0 d) (fun d => agX wf2 d) (-100) (rateL (rXn wf0 wf1 wf2 of0 of1 of2 of3 of4 osize) p1 (p2.toInt - p1.toInt).toNat))).1))))) (mu_B D (va_A [(xh, .inr (8, G8 xa xtrialRule xdropRule xtoday)), ((xa 0), .inl (E 0, 400, .inl xf0)), ((xa 1), .inl (E 0, 16, .inl xf1)), ((xa 2), .inl (E 0, 16, .inl xf2)), ((xa 3), .inl (E 3, 16, .inr (.inr (.inr (.inr xf3))))), (wh, .inr (7, G7 wa)), ((wa 0), .inl (E 0, 400, .inl wf0)), ((wa 1), .inl (E 0, 400, .inl wf1)), ((wa 2), .inl (E 0, 400, .inl wf2)), ((xa 6), .inr (2, G2 oa osize)), ((oa 0), .inl (E 0, 60, .inl of0)), ((oa 1), .inl (E 0, 60, .inl of1)), ((oa 2), .inl (E 0, 60, .inl of2)), ((oa 3), .inl (E 0, 60, .inl of3)), ((oa 4), .inl (E 0, 60, .inl of4)), ((xa 7), .inr (3, G3 ra rsize)), ((ra 0), .inl (E 0, 60, .inl rf0)), ((ra 1), .inl (E 0, 60, .inl rf1)), ((xa 8), .inr (1, G1 fa fn fsumR fsumW fsumA fsumWW fsumAA fsumWA fsumWR fsumAR fdivisor fbyWarmth fbyAge fform fwhole frest))] sz) (fun (u : (Int64) × (Int64) × (Int64) × (Int32) × (Int64) × (Int64) × (Int64) × (Int64) × (Int64) × (Int64) × (Int64) × (Int64) × (Int64) × (Nat → Int32) × (Nat → Int32) × (Int32)) => [(xh, .inr (8, G8 xa xtrialRule xdropRule xtoday)), ((xa 0), .inl (E 0, 400, .inl xf0)), ((xa 1), .inl (E 0, 16, .inl xf1)), ((xa 2), .inl (E 0, 16, .inl xf2)), ((xa 3), .inl (E 3, 16, .inr (.inr (.inr (.inr xf3))))), (wh, .inr (7, G7 wa)), ((wa 0), .inl (E 0, 400, .inl wf0)), ((wa 1), .inl (E 0, 400, .inl wf1)), ((wa 2), .inl (E 0, 400, .inl wf2)), ((xa 6), .inr (2, G2 oa osize)), ((oa 0), .inl (E 0, 60, .inl of0)), ((oa 1), .inl (E 0, 60, .inl of1)), ((oa 2), .inl (E 0, 60, .inl of2)), ((oa 3), .inl (E 0, 60, .inl of3)), ((oa 4), .inl (E 0, 60, .inl of4)), ((xa 7), .inr (3, G3 ra u.2.2.2.2.2.2.2.2.2.2.2.2.2.2.2)), ((ra 0), .inl (E 0, 60, .inl u.2.2.2.2.2.2.2.2.2.2.2.2.2.1)), ((ra 1), .inl (E 0, 60, .inl u.2.2.2.2.2.2.2.2.2.2.2.2.2.2.1)), ((xa 8), .inr (1, G1 fa u.2.2.2.2.1 u.2.2.2.2.2.2.2.2.1 u.2.2.2.2.2.2.2.2.2.1 u.2.2.2.2.2.1 u.2.2.2.2.2.2.2.2.2.2.2.2.1 u.2.2.2.2.2.2.1 u.2.2.2.2.2.2.2.2.2.2.1 u.2.2.2.2.2.2.2.2.2.2.2.1 u.2.2.2.2.2.2.2.1 u.2.2.1 u.2.1 u.1 u.2.2.2.1 fwhole frest))])) (va_A [(xh, .inr (8, G8 xa xtrialRule xdropRule xtoday)), ((xa 0), .inl (E 0, 400, .inl xf0)), ((xa 1), .inl (E 0, 16, .inl xf1)), ((xa 2), .inl (E 0, 16, .inl xf2)), ((xa 3), .inl (E 3, 16, .inr (.inr (.inr (.inr xf3))))), (wh, .inr (7, G7 wa)), ((wa 0), .inl (E 0, 400, .inl wf0)), ((wa 1), .inl (E 0, 400, .inl wf1)), ((wa 2), .inl (E 0, 400, .inl wf2)), ((xa 6), .inr (2, G2 oa osize)), ((oa 0), .inl (E 0, 60, .inl of0)), ((oa 1), .inl (E 0, 60, .inl of1)), ((oa 2), .inl (E 0, 60, .inl of2)), ((oa 3), .inl (E 0, 60, .inl of3)), ((oa 4), .inl (E 0, 60, .inl of4)), ((xa 7), .inr (3, G3 ra rsize)), ((ra 0), .inl (E 0, 60, .inl rf0)), ((ra 1), .inl (E 0, 60, .inl rf1)), ((xa 8), .inr (1, G1 fa fn fsumR fsumW fsumA fsumWW fsumAA fsumWA fsumWR fsumAR fdivisor fbyWarmth fbyAge fform fwhole frest))] sz)) 0 0 (va_A [(xh, .inr (8, G8 xa xtrialRule xdropRule xtoday)), ((xa 0), .inl (E 0, 400, .inl xf0)), ((xa 1), .inl (E 0, 16, .inl xf1)), ((xa 2), .inl (E 0, 16, .inl xf2)), ((xa 3), .inl (E 3, 16, .inr (.inr (.inr (.inr xf3))))), (wh, .inr (7, G7 wa)), ((wa 0), .inl (E 0, 400, .inl wf0)), ((wa 1), .inl (E 0, 400, .inl wf1)), ((wa 2), .inl (E 0, 400, .inl wf2)), ((xa 6), .inr (2, G2 oa osize)), ((oa 0), .inl (E 0, 60, .inl of0)), ((oa 1), .inl (E 0, 60, .inl of1)), ((oa 2), .inl (E 0, 60, .inl of2)), ((oa 3), .inl (E 0, 60, .inl of3)), ((oa 4), .inl (E 0, 60, .inl of4)), ((xa 7), .inr (3, G3 ra rsize)), ((ra 0), .inl (E 0, 60, .inl rf0)), ((ra 1), .inl (E 0, 60, .inl rf1)), ((xa 8), .inr (1, G1 fa fn fsumR fsumW fsumA fsumWW fsumAA fsumWA fsumWR fsumAR fdivisor fbyWarmth fbyAge fform fwhole frest))] sz) := by
  refine Met.ofW (cc := cX8_terms) (maxL := 5) (ret := (some .int)) (by decide) rfl ?_
  intro p e s m args below meth c s₁ B hml hv
  obtain ⟨rfl, hsz, hP, hK, hD0⟩ := hv
  have hx := B.exec; have hb := B.bytes; have hr := B.returns
  have hts := atoms_spec (ws := wl yX8_terms cX8_terms 5 (some .int)) B.pre
  have htb : ∀ w ∈ tb, w.before _ s = true := fun w h => hts w (List.mem_cons_of_mem _ h)
  have hown : s.vm.findClass RX8 = some m.cls := findClass_of_methodNamed B.named
  have hlocks := B.notSynchronized
  subst hsz
  have hD := hD0.self (sz := s.heap.size)
  generalize hAe : va_A [(xh, .inr (8, G8 xa xtrialRule xdropRule xtoday)), ((xa 0), .inl (E 0, 400, .inl xf0)), ((xa 1), .inl (E 0, 16, .inl xf1)), ((xa 2), .inl (E 0, 16, .inl xf2)), ((xa 3), .inl (E 3, 16, .inr (.inr (.inr (.inr xf3))))), (wh, .inr (7, G7 wa)), ((wa 0), .inl (E 0, 400, .inl wf0)), ((wa 1), .inl (E 0, 400, .inl wf1)), ((wa 2), .inl (E 0, 400, .inl wf2)), ((xa 6), .inr (2, G2 oa osize)), ((oa 0), .inl (E 0, 60, .inl of0)), ((oa 1), .inl (E 0, 60, .inl of1)), ((oa 2), .inl (E 0, 60, .inl of2)), ((oa 3), .inl (E 0, 60, .inl of3)), ((oa 4), .inl (E 0, 60, .inl of4)), ((xa 7), .inr (3, G3 ra rsize)), ((ra 0), .inl (E 0, 60, .inl rf0)), ((ra 1), .inl (E 0, 60, .inl rf1)), ((xa 8), .inr (1, G1 fa fn fsumR fsumW fsumA fsumWW fsumAA fsumWA fsumWR fsumAR fdivisor fbyWarmth fbyAge fform fwhole frest))] s.heap.size = A at hD ⊢
  have hA : ∀ q : Nat, s.heap.size ≤ q → A q := fun q h => by rw [← hAe]; exact Or.inr h
  have hS : va_S A s.heap s.heap [] := va_S.rf
  have hP : va_P D vwCl [(xh, .inr (8, G8 xa xtrialRule xdropRule xtoday)), ((xa 0), .inl (E 0, 400, .inl xf0)), ((xa 1), .inl (E 0, 16, .inl xf1)), ((xa 2), .inl (E 0, 16, .inl xf2)), ((xa 3), .inl (E 3, 16, .inr (.inr (.inr (.inr xf3))))), (wh, .inr (7, G7 wa)), ((wa 0), .inl (E 0, 400, .inl wf0)), ((wa 1), .inl (E 0, 400, .inl wf1)), ((wa 2), .inl (E 0, 400, .inl wf2)), ((xa 6), .inr (2, G2 oa osize)), ((oa 0), .inl (E 0, 60, .inl of0)), ((oa 1), .inl (E 0, 60, .inl of1)), ((oa 2), .inl (E 0, 60, .inl of2)), ((oa 3), .inl (E 0, 60, .inl of3)), ((oa 4), .inl (E 0, 60, .inl of4)), ((xa 7), .inr (3, G3 ra rsize)), ((ra 0), .inl (E 0, 60, .inl rf0)), ((ra 1), .inl (E 0, 60, .inl rf1)), ((xa 8), .inr (1, G1 fa fn fsumR fsumW fsumA fsumWW fsumAA fsumWA fsumWR fsumAR fdivisor fbyWarmth fbyAge fform fwhole frest))] s.heap := hP
  have hl := lv_entry ([.ref xh, .int p0, .int p1, .int p2]) (n := 5) (Nat.le_of_ble_eq_true rfl)
  rw [lg_entry_eq]
  generalize (lg_sl ([.ref xh, .int p0, .int p1, .int p2]) ++ List.replicate (5 - (lg_sl ([.ref xh, .int p0, .int p1, .int p2])).length) Slot.unset).toArray = ls at hl ⊢
  have hl : lv_has ls 5 [(0, .ref xh), (1, .int p0), (2, .int p1), (3, .int p2)] := hl
  have lo_p0 := i_lo p0; have hi_p0 := i_hi p0
  have lo_p1 := i_lo p1; have hi_p1 := i_hi p1
  have lo_p2 := i_lo p2; have hi_p2 := i_hi p2
  refine lv_aload_n hx hb dX8_terms_0 rfl (lv_at hl 0 rfl) ?_
  refine lv_iload_n hx hb dX8_terms_1 rfl (lv_at hl 1 rfl) ?_
  refine lv_iload_n hx hb dX8_terms_2 rfl (lv_at hl 2 rfl) ?_
  refine lv_iload_n hx hb dX8_terms_3 rfl (lv_at hl 3 rfl) ?_
  refine callRV (rest := []) (As := [.int p0, .int p1, .int p2]) hx hb hml hown htb hK (g_X8_refusalOfStretch_W l D E xh xa xtrialRule xdropRule xtoday xf1 xf3 wh wa p0 p1 p2 (by (try dsimp only); omega) hk0 hw0) ok_X8_refusalOfStretch k_486 k_488 ks_5 k_1 k_489 ⟨(Nat.le_of_ble_eq_true rfl), (Nat.le_of_ble_eq_true rfl)⟩ ⟨(Nat.le_of_ble_eq_true rfl), (Nat.le_of_ble_eq_true rfl)⟩ hl.1 (Nat.le_of_ble_eq_true rfl) rfl rfl dX8_terms_4 (hP.sub (ws' := [(xh, .inr (8, G8 xa xtrialRule xdropRule xtoday)), ((xa 1), .inl (E 0, 16, .inl xf1)), ((xa 3), .inl (E 3, 16, .inr (.inr (.inr (.inr xf3))))), (wh, .inr (7, G7 wa))]) [0, 2, 4, 5] rfl) rfl rfl 0 rfl (fun r_1 hw_2 => ?_)
  refine lv_istore (lv' := [(4, .int r_1), (0, .ref xh), (1, .int p0), (2, .int p1), (3, .int p2)]) hx hb dX8_terms_7 hl (by decide) rfl (fun ls hl => ?_)
  refine lv_iload hx hb dX8_terms_9 (lv_at hl 0 rfl) ?_
  refine lv_if_eq (tgt := 17) hx hb dX8_terms_11 (by decide) (fun c_4 => ?_) (fun c_4 => ?_)
  ·
    have ic_4 : r_1.toInt = 0 := (g_eq rfl t_0).mp c_4
    clear c_4
    refine lv_aload_n hx hb dX8_terms_17 rfl (lv_at hl 1 rfl) ?_
    refine lv_iload_n hx hb dX8_terms_18 rfl (lv_at hl 2 rfl) ?_
    refine lv_iload_n hx hb dX8_terms_19 rfl (lv_at hl 3 rfl) ?_
    refine lv_iload_n hx hb dX8_terms_20 rfl (lv_at hl 4 rfl) ?_
    have hPc := hP.sub (ws' := [(xh, .inr (8, G8 xa xtrialRule xdropRule xtoday)), ((xa 0), .inl (E 0, 400, .inl xf0)), ((xa 1), .inl (E 0, 16, .inl xf1)), ((xa 2), .inl (E 0, 16, .inl xf2)), ((xa 3), .inl (E 3, 16, .inr (.inr (.inr (.inr xf3))))), (wh, .inr (7, G7 wa)), ((wa 0), .inl (E 0, 400, .inl wf0)), ((wa 1), .inl (E 0, 400, .inl wf1)), ((wa 2), .inl (E 0, 400, .inl wf2)), ((xa 6), .inr (2, G2 oa osize)), ((oa 0), .inl (E 0, 60, .inl of0)), ((oa 1), .inl (E 0, 60, .inl of1)), ((oa 2), .inl (E 0, 60, .inl of2)), ((oa 3), .inl (E 0, 60, .inl of3)), ((oa 4), .inl (E 0, 60, .inl of4)), ((xa 7), .inr (3, G3 ra rsize)), ((ra 0), .inl (E 0, 60, .inl rf0)), ((ra 1), .inl (E 0, 60, .inl rf1)), ((xa 8), .inr (1, G1 fa fn fsumR fsumW fsumA fsumWW fsumAA fsumWA fsumWR fsumAR fdivisor fbyWarmth fbyAge fform fwhole frest))]) [0, 1, 2, 3, 4, 5, 6, 7, 8, 9, 10, 11, 12, 13, 14, 15, 16, 17, 18] rfl
    have hDc := hD.sub (ws' := [(xh, .inr (8, G8 xa xtrialRule xdropRule xtoday)), ((xa 0), .inl (E 0, 400, .inl xf0)), ((xa 1), .inl (E 0, 16, .inl xf1)), ((xa 2), .inl (E 0, 16, .inl xf2)), ((xa 3), .inl (E 3, 16, .inr (.inr (.inr (.inr xf3))))), (wh, .inr (7, G7 wa)), ((wa 0), .inl (E 0, 400, .inl wf0)), ((wa 1), .inl (E 0, 400, .inl wf1)), ((wa 2), .inl (E 0, 400, .inl wf2)), ((xa 6), .inr (2, G2 oa osize)), ((oa 0), .inl (E 0, 60, .inl of0)), ((oa 1), .inl (E 0, 60, .inl of1)), ((oa 2), .inl (E 0, 60, .inl of2)), ((oa 3), .inl (E 0, 60, .inl of3)), ((oa 4), .inl (E 0, 60, .inl of4)), ((xa 7), .inr (3, G3 ra rsize)), ((ra 0), .inl (E 0, 60, .inl rf0)), ((ra 1), .inl (E 0, 60, .inl rf1)), ((xa 8), .inr (1, G1 fa fn fsumR fsumW fsumA fsumWW fsumAA fsumWA fsumWR fsumAR fdivisor fbyWarmth fbyAge fform fwhole frest))]) [0, 1, 2, 3, 4, 5, 6, 7, 8, 9, 10, 11, 12, 13, 14, 15, 16, 17, 18] (by decide) rfl
    refine aft_v (runMV (rest := []) (As := [.int p0, .int p1, .int p2]) hx hb hml hown htb hK (g_X8_fitLaw_W l D E xh xa xtrialRule xdropRule xtoday xf0 xf1 xf2 xf3 wh wa wf0 wf1 wf2 oa osize of0 of1 of2 of3 of4 ra rsize rf0 rf1 fa fn fsumR fsumW fsumA fsumWW fsumAA fsumWA fsumWR fsumAR fdivisor fbyWarmth fbyAge fform fwhole frest p0 p1 p2 _ (by (try dsimp only); omega) (by (try dsimp only); omega) (by (try dsimp only); omega) hr_r0 hk0 hw0 (by (try dsimp only); omega)) ok_X8_fitLaw k_490 k_492 ks_6 k_1 k_493 ⟨(Nat.le_of_ble_eq_true rfl), (Nat.le_of_ble_eq_true rfl)⟩ ⟨(Nat.le_of_ble_eq_true rfl), (Nat.le_of_ble_eq_true rfl)⟩ hl.1 (Nat.le_of_ble_eq_true rfl) rfl rfl dX8_terms_21 hPc hDc rfl rfl 0 rfl) hP hD hS hA [0, 1, 2, 3, 4, 5, 6, 7, 8, 9, 10, 11, 12, 13, 14, 15, 16, 17, 18] [] (wr := ([] : va_W)) rfl rfl (by decide) (by decide) (fun u_7 H locs hw_6 hP hD hS => ?_)
    clear hPc hDc
    obtain ⟨w_8, w_9, w_10, w_11, w_12, w_13, w_14, w_15, w_16, w_17, w_18, w_19, w_20, w_21, w_22, w_23⟩ := u_7
    try dsimp only at hw_6
    have hP : va_P D vwCl [(xh, .inr (8, G8 xa xtrialRule xdropRule xtoday)), ((xa 0), .inl (E 0, 400, .inl xf0)), ((xa 1), .inl (E 0, 16, .inl xf1)), ((xa 2), .inl (E 0, 16, .inl xf2)), ((xa 3), .inl (E 3, 16, .inr (.inr (.inr (.inr xf3))))), (wh, .inr (7, G7 wa)), ((wa 0), .inl (E 0, 400, .inl wf0)), ((wa 1), .inl (E 0, 400, .inl wf1)), ((wa 2), .inl (E 0, 400, .inl wf2)), ((xa 6), .inr (2, G2 oa osize)), ((oa 0), .inl (E 0, 60, .inl of0)), ((oa 1), .inl (E 0, 60, .inl of1)), ((oa 2), .inl (E 0, 60, .inl of2)), ((oa 3), .inl (E 0, 60, .inl of3)), ((oa 4), .inl (E 0, 60, .inl of4)), ((xa 7), .inr (3, G3 ra w_23)), ((ra 0), .inl (E 0, 60, .inl w_21)), ((ra 1), .inl (E 0, 60, .inl w_22)), ((xa 8), .inr (1, G1 fa w_12 w_16 w_17 w_13 w_20 w_14 w_18 w_19 w_15 w_10 w_9 w_8 w_11 fwhole frest))] H := hP
    have hD := toW hP hD rfl
    obtain ⟨hw_6_0, hw_6_1, hw_6_2, hw_6_3⟩ := hw_6
    refine lv_aload_n hx hb dX8_terms_24 rfl (lv_at hl 1 rfl) ?_
    refine va_get (D := D) (ci := 8) (v := .ref (xa 8)) (C := RX8) (T := TX8) (N := 14) hx hb htb iX8 hown hK.1 hP 0 rfl rfl 8 (by decide) (htb _ k_280) (fun _ h9 => h9) rfl dX8_terms_25 ?_
    refine callRV (rest := []) (As := []) hx hb hml hown htb hK (g_X1_size l D E (xa 8) fa w_12 w_16 w_17 w_13 w_20 w_14 w_18 w_19 w_15 w_10 w_9 w_8 w_11 fwhole frest ) ok_X1_size k_521 k_522 k_523 k_4 k_524 ⟨(Nat.le_of_ble_eq_true rfl), (Nat.le_of_ble_eq_true rfl)⟩ ⟨(Nat.le_of_ble_eq_true rfl), (Nat.le_of_ble_eq_true rfl)⟩ hl.1 (Nat.le_of_ble_eq_true rfl) rfl rfl dX8_terms_28 (hP.sub (ws' := [((xa 8), .inr (1, G1 fa w_12 w_16 w_17 w_13 w_20 w_14 w_18 w_19 w_15 w_10 w_9 w_8 w_11 fwhole frest))]) [18] rfl) rfl rfl 0 rfl (fun r_24 hw_25 => ?_)
    refine lv_if_ne (tgt := 39) hx hb dX8_terms_31 (by decide) (fun c_27 => ?_) (fun c_27 => ?_)
    ·
      have ic_27 : r_24.toInt ≠ 0 := mt (g_eq rfl t_0).mpr c_27
      clear c_27
      refine lv_aload_n hx hb dX8_terms_39 rfl (lv_at hl 1 rfl) ?_
      refine va_get (D := D) (ci := 8) (v := .ref (xa 8)) (C := RX8) (T := TX8) (N := 14) hx hb htb iX8 hown hK.1 hP 0 rfl rfl 8 (by decide) (htb _ k_280) (fun _ h9 => h9) rfl dX8_terms_40 ?_
      refine callRV (rest := []) (As := []) hx hb hml hown htb hK (g_X1_form l D E (xa 8) fa w_12 w_16 w_17 w_13 w_20 w_14 w_18 w_19 w_15 w_10 w_9 w_8 w_11 fwhole frest ) ok_X1_form k_529 k_530 k_531 k_4 k_532 ⟨(Nat.le_of_ble_eq_true rfl), (Nat.le_of_ble_eq_true rfl)⟩ ⟨(Nat.le_of_ble_eq_true rfl), (Nat.le_of_ble_eq_true rfl)⟩ hl.1 (Nat.le_of_ble_eq_true rfl) rfl rfl dX8_terms_43 (hP.sub (ws' := [((xa 8), .inr (1, G1 fa w_12 w_16 w_17 w_13 w_20 w_14 w_18 w_19 w_15 w_10 w_9 w_8 w_11 fwhole frest))]) [18] rfl) rfl rfl 0 rfl (fun r_28 hw_29 => ?_)
      have hP9 := hP.sub (ws' := [(xh, .inr (8, G8 xa xtrialRule xdropRule xtoday)), ((xa 0), .inl (E 0, 400, .inl xf0)), ((xa 1), .inl (E 0, 16, .inl xf1)), ((xa 2), .inl (E 0, 16, .inl xf2)), ((xa 3), .inl (E 3, 16, .inr (.inr (.inr (.inr xf3))))), (wh, .inr (7, G7 wa)), ((wa 0), .inl (E 0, 400, .inl wf0)), ((wa 1), .inl (E 0, 400, .inl wf1)), ((wa 2), .inl (E 0, 400, .inl wf2)), ((xa 6), .inr (2, G2 oa osize)), ((oa 0), .inl (E 0, 60, .inl of0)), ((oa 1), .inl (E 0, 60, .inl of1)), ((oa 2), .inl (E 0, 60, .inl of2)), ((oa 3), .inl (E 0, 60, .inl of3)), ((oa 4), .inl (E 0, 60, .inl of4)), ((xa 7), .inr (3, G3 ra w_23)), ((ra 0), .inl (E 0, 60, .inl w_21)), ((ra 1), .inl (E 0, 60, .inl w_22)), ((xa 8), .inr (1, G1 fa w_12 w_16 w_17 w_13 w_20 w_14 w_18 w_19 w_15 w_10 w_9 w_8 w_11 fwhole frest))]) [0, 1, 2, 3, 4, 5, 6, 7, 8, 9, 10, 11, 12, 13, 14, 15, 16, 17, 18] rfl
      have hD9 := hD.sub (ws' := [(xh, .inr (8, G8 xa xtrialRule xdropRule xtoday)), ((xa 0), .inl (E 0, 400, .inl xf0)), ((xa 1), .inl (E 0, 16, .inl xf1)), ((xa 2), .inl (E 0, 16, .inl xf2)), ((xa 3), .inl (E 3, 16, .inr (.inr (.inr (.inr xf3))))), (wh, .inr (7, G7 wa)), ((wa 0), .inl (E 0, 400, .inl wf0)), ((wa 1), .inl (E 0, 400, .inl wf1)), ((wa 2), .inl (E 0, 400, .inl wf2)), ((xa 6), .inr (2, G2 oa osize)), ((oa 0), .inl (E 0, 60, .inl of0)), ((oa 1), .inl (E 0, 60, .inl of1)), ((oa 2), .inl (E 0, 60, .inl of2)), ((oa 3), .inl (E 0, 60, .inl of3)), ((oa 4), .inl (E 0, 60, .inl of4)), ((xa 7), .inr (3, G3 ra w_23)), ((ra 0), .inl (E 0, 60, .inl w_21)), ((ra 1), .inl (E 0, 60, .inl w_22)), ((xa 8), .inr (1, G1 fa w_12 w_16 w_17 w_13 w_20 w_14 w_18 w_19 w_15 w_10 w_9 w_8 w_11 fwhole frest))]) [0, 1, 2, 3, 4, 5, 6, 7, 8, 9, 10, 11, 12, 13, 14, 15, 16, 17, 18] (by decide) rfl
      exact W.iret (v := r_28) hx hb hr (fun t ht hW => ⟨⟨r_28, (w_8, w_9, w_10, w_11, w_12, w_13, w_14, w_15, w_16, w_17, w_18, w_19, w_20, w_21, w_22, w_23), rfl, ⟨hw_6_0, (by (try dsimp only); omega), (Or.inr ⟨by have h9 := hw_2; omega, Or.inr ⟨by rw [← hw_6_2]; (try dsimp only); rw [← hw_25]; omega, by rw [hw_29]; exact (congrArg Prod.fst hw_6_3)⟩⟩)⟩, by rw [ht]; exact hP9, hD9⟩, hS.F ht⟩) hS.2.2 dX8_terms_46
    ·
      have ic_27 : r_24.toInt = 0 := (g_eq rfl t_0).mp c_27
      clear c_27
      refine lv_bipush (v := (-4)) hx hb dX8_terms_34 (by decide) ?_
      refine lv_goto (tgt := 46) hx hb dX8_terms_36 (by decide) ?_
      have hP9 := hP.sub (ws' := [(xh, .inr (8, G8 xa xtrialRule xdropRule xtoday)), ((xa 0), .inl (E 0, 400, .inl xf0)), ((xa 1), .inl (E 0, 16, .inl xf1)), ((xa 2), .inl (E 0, 16, .inl xf2)), ((xa 3), .inl (E 3, 16, .inr (.inr (.inr (.inr xf3))))), (wh, .inr (7, G7 wa)), ((wa 0), .inl (E 0, 400, .inl wf0)), ((wa 1), .inl (E 0, 400, .inl wf1)), ((wa 2), .inl (E 0, 400, .inl wf2)), ((xa 6), .inr (2, G2 oa osize)), ((oa 0), .inl (E 0, 60, .inl of0)), ((oa 1), .inl (E 0, 60, .inl of1)), ((oa 2), .inl (E 0, 60, .inl of2)), ((oa 3), .inl (E 0, 60, .inl of3)), ((oa 4), .inl (E 0, 60, .inl of4)), ((xa 7), .inr (3, G3 ra w_23)), ((ra 0), .inl (E 0, 60, .inl w_21)), ((ra 1), .inl (E 0, 60, .inl w_22)), ((xa 8), .inr (1, G1 fa w_12 w_16 w_17 w_13 w_20 w_14 w_18 w_19 w_15 w_10 w_9 w_8 w_11 fwhole frest))]) [0, 1, 2, 3, 4, 5, 6, 7, 8, 9, 10, 11, 12, 13, 14, 15, 16, 17, 18] rfl
      have hD9 := hD.sub (ws' := [(xh, .inr (8, G8 xa xtrialRule xdropRule xtoday)), ((xa 0), .inl (E 0, 400, .inl xf0)), ((xa 1), .inl (E 0, 16, .inl xf1)), ((xa 2), .inl (E 0, 16, .inl xf2)), ((xa 3), .inl (E 3, 16, .inr (.inr (.inr (.inr xf3))))), (wh, .inr (7, G7 wa)), ((wa 0), .inl (E 0, 400, .inl wf0)), ((wa 1), .inl (E 0, 400, .inl wf1)), ((wa 2), .inl (E 0, 400, .inl wf2)), ((xa 6), .inr (2, G2 oa osize)), ((oa 0), .inl (E 0, 60, .inl of0)), ((oa 1), .inl (E 0, 60, .inl of1)), ((oa 2), .inl (E 0, 60, .inl of2)), ((oa 3), .inl (E 0, 60, .inl of3)), ((oa 4), .inl (E 0, 60, .inl of4)), ((xa 7), .inr (3, G3 ra w_23)), ((ra 0), .inl (E 0, 60, .inl w_21)), ((ra 1), .inl (E 0, 60, .inl w_22)), ((xa 8), .inr (1, G1 fa w_12 w_16 w_17 w_13 w_20 w_14 w_18 w_19 w_15 w_10 w_9 w_8 w_11 fwhole frest))]) [0, 1, 2, 3, 4, 5, 6, 7, 8, 9, 10, 11, 12, 13, 14, 15, 16, 17, 18] (by decide) rfl
      exact W.iret (v := (-4)) hx hb hr (fun t ht hW => ⟨⟨(-4), (w_8, w_9, w_10, w_11, w_12, w_13, w_14, w_15, w_16, w_17, w_18, w_19, w_20, w_21, w_22, w_23), rfl, ⟨hw_6_0, (by (try dsimp only); omega), (Or.inr ⟨by have h9 := hw_2; omega, Or.inl ⟨by rw [← hw_6_2]; (try dsimp only); rw [← hw_25]; omega, by decide⟩⟩)⟩, by rw [ht]; exact hP9, hD9⟩, hS.F ht⟩) hS.2.2 dX8_terms_46
  ·
    have ic_4 : r_1.toInt ≠ 0 := mt (g_eq rfl t_0).mpr c_4
    clear c_4
    refine lv_iload hx hb dX8_terms_14 (lv_at hl 0 rfl) ?_
    have hP9 := hP.sub (ws' := [(xh, .inr (8, G8 xa xtrialRule xdropRule xtoday)), ((xa 0), .inl (E 0, 400, .inl xf0)), ((xa 1), .inl (E 0, 16, .inl xf1)), ((xa 2), .inl (E 0, 16, .inl xf2)), ((xa 3), .inl (E 3, 16, .inr (.inr (.inr (.inr xf3))))), (wh, .inr (7, G7 wa)), ((wa 0), .inl (E 0, 400, .inl wf0)), ((wa 1), .inl (E 0, 400, .inl wf1)), ((wa 2), .inl (E 0, 400, .inl wf2)), ((xa 6), .inr (2, G2 oa osize)), ((oa 0), .inl (E 0, 60, .inl of0)), ((oa 1), .inl (E 0, 60, .inl of1)), ((oa 2), .inl (E 0, 60, .inl of2)), ((oa 3), .inl (E 0, 60, .inl of3)), ((oa 4), .inl (E 0, 60, .inl of4)), ((xa 7), .inr (3, G3 ra rsize)), ((ra 0), .inl (E 0, 60, .inl rf0)), ((ra 1), .inl (E 0, 60, .inl rf1)), ((xa 8), .inr (1, G1 fa fn fsumR fsumW fsumA fsumWW fsumAA fsumWA fsumWR fsumAR fdivisor fbyWarmth fbyAge fform fwhole frest))]) [0, 1, 2, 3, 4, 5, 6, 7, 8, 9, 10, 11, 12, 13, 14, 15, 16, 17, 18] rfl
    have hD9 := hD.sub (ws' := [(xh, .inr (8, G8 xa xtrialRule xdropRule xtoday)), ((xa 0), .inl (E 0, 400, .inl xf0)), ((xa 1), .inl (E 0, 16, .inl xf1)), ((xa 2), .inl (E 0, 16, .inl xf2)), ((xa 3), .inl (E 3, 16, .inr (.inr (.inr (.inr xf3))))), (wh, .inr (7, G7 wa)), ((wa 0), .inl (E 0, 400, .inl wf0)), ((wa 1), .inl (E 0, 400, .inl wf1)), ((wa 2), .inl (E 0, 400, .inl wf2)), ((xa 6), .inr (2, G2 oa osize)), ((oa 0), .inl (E 0, 60, .inl of0)), ((oa 1), .inl (E 0, 60, .inl of1)), ((oa 2), .inl (E 0, 60, .inl of2)), ((oa 3), .inl (E 0, 60, .inl of3)), ((oa 4), .inl (E 0, 60, .inl of4)), ((xa 7), .inr (3, G3 ra rsize)), ((ra 0), .inl (E 0, 60, .inl rf0)), ((ra 1), .inl (E 0, 60, .inl rf1)), ((xa 8), .inr (1, G1 fa fn fsumR fsumW fsumA fsumWW fsumAA fsumWA fsumWR fsumAR fdivisor fbyWarmth fbyAge fform fwhole frest))]) [0, 1, 2, 3, 4, 5, 6, 7, 8, 9, 10, 11, 12, 13, 14, 15, 16, 17, 18] (by decide) rfl
    exact W.iret (v := r_1) hx hb hr (fun t ht hW => ⟨⟨r_1, (fbyAge, fbyWarmth, fdivisor, fform, fn, fsumA, fsumAA, fsumAR, fsumR, fsumW, fsumWA, fsumWR, fsumWW, rf0, rf1, rsize), rfl, ⟨hr_r0, (by (try dsimp only); omega), (by rcases hw_2 with h9 | h9 <;> first | (exfalso; omega) | exact Or.inl ⟨by omega, by omega⟩)⟩, by rw [ht]; exact hP9, hD9⟩, hS.F ht⟩) hS.2.2 dX8_terms_16
set_option maxHeartbeats 4000000 in
set_option maxRecDepth 100000 in
theorem g_X8_foretold_N (l : Launch) (D : va_G) (E : Nat → Nat) (xh : Nat) (xa : Nat → Nat) (xtrialRule : Nat) (xdropRule : Nat) (xtoday : Int32) (xf1 : Nat → Int32) (xf3 : Nat → Option Nat) (p0 : Int32) (p1 : Int32) (p2 : Int32) (p3 : Int32) (p4 : Int32) (hi_x : (0 ≤ xtoday.toInt ∧ xtoday.toInt ≤ 399)) (hn0 : ¬ (0 ≤ p0.toInt ∧ p0.toInt ≤ 15 ∧ ((xf1 (p0).toNatClampNeg).toInt = 0 ∨ (xf1 (p0).toNatClampNeg).toInt = 1))) : Met l yX8_foretold (wl yX8_foretold cX8_foretold 8 (some .int)) (RM 3 0 0) (rd_P D E [.ref xh, .int p0, .int p1, .int p2, .int p3, .int p4] [(xh, .inr (8, G8 xa xtrialRule xdropRule xtoday)), ((xa 1), .inl (E 0, 16, .inl xf1)), ((xa 3), .inl (E 3, 16, .inr (.inr (.inr (.inr xf3)))))]) (rd_Q (fun r => True)) 0 0 (fun _ => False) := by
  refine Met.ofW (cc := cX8_foretold) (maxL := 8) (ret := (some .int)) (by decide) rfl ?_
  intro p e s m args below meth c s₁ B hml hv
  obtain ⟨rfl, hP, hK⟩ := hv
  have hx := B.exec; have hb := B.bytes; have hr := B.returns
  have hts := atoms_spec (ws := wl yX8_foretold cX8_foretold 8 (some .int)) B.pre
  have htb : ∀ w ∈ tb, w.before _ s = true := fun w h => hts w (List.mem_cons_of_mem _ h)
  have hown : s.vm.findClass RX8 = some m.cls := findClass_of_methodNamed B.named
  have hlocks := B.notSynchronized
  have hP : va_P D vwCl [(xh, .inr (8, G8 xa xtrialRule xdropRule xtoday)), ((xa 1), .inl (E 0, 16, .inl xf1)), ((xa 3), .inl (E 3, 16, .inr (.inr (.inr (.inr xf3)))))] s.heap := hP
  have hl := lv_entry ([.ref xh, .int p0, .int p1, .int p2, .int p3, .int p4]) (n := 8) (Nat.le_of_ble_eq_true rfl)
  rw [lg_entry_eq]
  generalize (lg_sl ([.ref xh, .int p0, .int p1, .int p2, .int p3, .int p4]) ++ List.replicate (8 - (lg_sl ([.ref xh, .int p0, .int p1, .int p2, .int p3, .int p4])).length) Slot.unset).toArray = ls at hl ⊢
  have hl : lv_has ls 8 [(0, .ref xh), (1, .int p0), (2, .int p1), (3, .int p2), (4, .int p3), (5, .int p4)] := hl
  have lo_p0 := i_lo p0; have hi_p0 := i_hi p0
  have lo_p1 := i_lo p1; have hi_p1 := i_hi p1
  have lo_p2 := i_lo p2; have hi_p2 := i_hi p2
  have lo_p3 := i_lo p3; have hi_p3 := i_hi p3
  have lo_p4 := i_lo p4; have hi_p4 := i_hi p4
  refine lv_aload_n hx hb dX8_foretold_0 rfl (lv_at hl 0 rfl) ?_
  refine lv_iload_n hx hb dX8_foretold_1 rfl (lv_at hl 1 rfl) ?_
  refine lv_iload_n hx hb dX8_foretold_2 rfl (lv_at hl 2 rfl) ?_
  refine lv_iload_n hx hb dX8_foretold_3 rfl (lv_at hl 3 rfl) ?_
  refine callRV (rest := []) (As := [.int p0, .int p1, .int p2]) hx hb hml hown htb hK (g_X8_refusalOfStretch_N l D E xh xa xtrialRule xdropRule xtoday xf1 xf3 p0 p1 p2 (by (try dsimp only); omega) hn0) ok_X8_refusalOfStretch k_486 k_488 ks_5 k_1 k_489 ⟨(Nat.le_of_ble_eq_true rfl), (Nat.le_of_ble_eq_true rfl)⟩ ⟨(Nat.le_of_ble_eq_true rfl), (Nat.le_of_ble_eq_true rfl)⟩ hl.1 (Nat.le_of_ble_eq_true rfl) rfl rfl dX8_foretold_4 (hP.sub (ws' := [(xh, .inr (8, G8 xa xtrialRule xdropRule xtoday)), ((xa 1), .inl (E 0, 16, .inl xf1)), ((xa 3), .inl (E 3, 16, .inr (.inr (.inr (.inr xf3)))))]) [0, 1, 2] rfl) rfl rfl 0 rfl (fun r_1 hw_2 => ?_)
  refine lv_if_ne (tgt := 28) hx hb dX8_foretold_7 (by decide) (fun c_4 => ?_) (fun c_4 => ?_)
  ·
    have ic_4 : r_1.toInt ≠ 0 := mt (g_eq rfl t_0).mpr c_4
    clear c_4
    refine lv_ldc hx hb hown (htb _ k_386) dX8_foretold_28 ?_
    exact W.iret (v := (-2000000000)) hx hb hr (fun t ht hW => ⟨(-2000000000), rfl, trivial, ht⟩) (fun q h => by cases h) dX8_foretold_30
  ·
    have ic_4 : r_1.toInt = 0 := (g_eq rfl t_0).mp c_4
    clear c_4
    refine lv_iload hx hb dX8_foretold_10 (lv_at hl 4 rfl) ?_
    refine lv_bipush (v := 50) hx hb dX8_foretold_12 (by decide) ?_
    refine callRS (rest := []) (As := [.int p3, .int 50]) hx hb hml hown htb hK (g_X8_isWithin l D E p3 50 (by decide)) ok_X8_isWithin k_326 k_327 k_1 k_328 ⟨(Nat.le_of_ble_eq_true rfl), (Nat.le_of_ble_eq_true rfl)⟩ ⟨(Nat.le_of_ble_eq_true rfl), (Nat.le_of_ble_eq_true rfl)⟩ hl.1 (Nat.le_of_ble_eq_true rfl) rfl rfl dX8_foretold_14 (hP.sub (ws' := ([] : va_W)) [] rfl) (fun r_5 hw_6 => ?_)
    try simp only [t_50] at hw_6
    rcases hw_6 with ⟨hr_5, hw_6⟩ | ⟨hr_5, hw_6⟩
    ·
      try simp only [t_50] at hw_6
      refine W_top (y := .int 1) (by rw [hr_5]) ?_
      refine lv_if_eq (tgt := 28) hx hb dX8_foretold_17 (by decide) (fun c_8 => absurd c_8 (by decide)) (fun c_8 => ?_)
      refine lv_iload hx hb dX8_foretold_20 (lv_at hl 5 rfl) ?_
      refine callRS (rest := []) (As := [.int p4]) hx hb hml hown htb hK (g_X8_isDay l D E p4 ) ok_X8_isDay k_323 k_324 k_1 k_325 ⟨(Nat.le_of_ble_eq_true rfl), (Nat.le_of_ble_eq_true rfl)⟩ ⟨(Nat.le_of_ble_eq_true rfl), (Nat.le_of_ble_eq_true rfl)⟩ hl.1 (Nat.le_of_ble_eq_true rfl) rfl rfl dX8_foretold_22 (hP.sub (ws' := ([] : va_W)) [] rfl) (fun r_9 hw_10 => ?_)
      rcases hw_10 with ⟨hr_9, hw_10⟩ | ⟨hr_9, hw_10⟩
      ·
        refine W_top (y := .int 1) (by rw [hr_9]) ?_
        refine lv_if_ne (tgt := 31) hx hb dX8_foretold_25 (by decide) (fun c_12 => ?_) (fun c_12 => absurd c_12 (by decide))
        refine lv_aload_n hx hb dX8_foretold_31 rfl (lv_at hl 0 rfl) ?_
        refine lv_iload_n hx hb dX8_foretold_32 rfl (lv_at hl 1 rfl) ?_
        refine lv_iload_n hx hb dX8_foretold_33 rfl (lv_at hl 2 rfl) ?_
        refine lv_iload_n hx hb dX8_foretold_34 rfl (lv_at hl 3 rfl) ?_
        exfalso; omega
      ·
        refine W_top (y := .int 0) (by rw [hr_9]) ?_
        refine lv_if_ne (tgt := 31) hx hb dX8_foretold_25 (by decide) (fun c_13 => absurd (by decide) c_13) (fun c_13 => ?_)
        refine lv_ldc hx hb hown (htb _ k_386) dX8_foretold_28 ?_
        exact W.iret (v := (-2000000000)) hx hb hr (fun t ht hW => ⟨(-2000000000), rfl, trivial, ht⟩) (fun q h => by cases h) dX8_foretold_30
    ·
      try simp only [t_50] at hw_6
      refine W_top (y := .int 0) (by rw [hr_5]) ?_
      refine lv_if_eq (tgt := 28) hx hb dX8_foretold_17 (by decide) (fun c_14 => ?_) (fun c_14 => absurd (by decide) c_14)
      refine lv_ldc hx hb hown (htb _ k_386) dX8_foretold_28 ?_
      exact W.iret (v := (-2000000000)) hx hb hr (fun t ht hW => ⟨(-2000000000), rfl, trivial, ht⟩) (fun q h => by cases h) dX8_foretold_30
set_option maxHeartbeats 4000000 in
set_option maxRecDepth 100000 in
theorem g_X8_foretold_W (l : Launch) (D : va_G) (E : Nat → Nat) (xh : Nat) (xa : Nat → Nat) (xtrialRule : Nat) (xdropRule : Nat) (xtoday : Int32) (xf0 : Nat → Int32) (xf1 : Nat → Int32) (xf2 : Nat → Int32) (xf3 : Nat → Option Nat) (wh : Nat) (wa : Nat → Nat) (wf0 : Nat → Int32) (wf1 : Nat → Int32) (wf2 : Nat → Int32) (oa : Nat → Nat) (osize : Int32) (of0 : Nat → Int32) (of1 : Nat → Int32) (of2 : Nat → Int32) (of3 : Nat → Int32) (of4 : Nat → Int32) (ra : Nat → Nat) (rsize : Int32) (rf0 : Nat → Int32) (rf1 : Nat → Int32) (fa : Nat → Nat) (fn : Int64) (fsumR : Int64) (fsumW : Int64) (fsumA : Int64) (fsumWW : Int64) (fsumAA : Int64) (fsumWA : Int64) (fsumWR : Int64) (fsumAR : Int64) (fdivisor : Int64) (fbyWarmth : Int64) (fbyAge : Int64) (fform : Int32) (fwhole : Int64) (frest : Int64) (p0 : Int32) (p1 : Int32) (p2 : Int32) (p3 : Int32) (p4 : Int32) (sz : Nat) (hi_x : (0 ≤ xtoday.toInt ∧ xtoday.toInt ≤ 399)) (hi_o : (0 ≤ osize.toInt ∧ osize.toInt ≤ 60)) (hi_r : (0 ≤ rsize.toInt ∧ rsize.toInt ≤ 60)) (hr_r0 : ∀ k : Nat, k < 60 → 0 ≤ (rf0 k).toInt ∧ (rf0 k).toInt ≤ 399) (hk0 : (0 ≤ p0.toInt ∧ p0.toInt ≤ 15 ∧ ((xf1 (p0).toNatClampNeg).toInt = 0 ∨ (xf1 (p0).toNatClampNeg).toInt = 1))) (hw0 : xf3 (p0).toNatClampNeg = some wh) : Met l yX8_foretold (wl yX8_foretold cX8_foretold 8 (some .int)) (RM 5 0 0) (mu_P D E [.ref xh, .int p0, .int p1, .int p2, .int p3, .int p4] [(xh, .inr (8, G8 xa xtrialRule xdropRule xtoday)), ((xa 0), .inl (E 0, 400, .inl xf0)), ((xa 1), .inl (E 0, 16, .inl xf1)), ((xa 2), .inl (E 0, 16, .inl xf2)), ((xa 3), .inl (E 3, 16, .inr (.inr (.inr (.inr xf3))))), (wh, .inr (7, G7 wa)), ((wa 0), .inl (E 0, 400, .inl wf0)), ((wa 1), .inl (E 0, 400, .inl wf1)), ((wa 2), .inl (E 0, 400, .inl wf2)), ((xa 6), .inr (2, G2 oa osize)), ((oa 0), .inl (E 0, 60, .inl of0)), ((oa 1), .inl (E 0, 60, .inl of1)), ((oa 2), .inl (E 0, 60, .inl of2)), ((oa 3), .inl (E 0, 60, .inl of3)), ((oa 4), .inl (E 0, 60, .inl of4)), ((xa 7), .inr (3, G3 ra rsize)), ((ra 0), .inl (E 0, 60, .inl rf0)), ((ra 1), .inl (E 0, 60, .inl rf1)), ((xa 8), .inr (1, G1 fa fn fsumR fsumW fsumA fsumWW fsumAA fsumWA fsumWR fsumAR fdivisor fbyWarmth fbyAge fform fwhole frest))] sz) (va_Qi (fun (r : Int32) (u : (Int64) × (Int64) × (Int64) × (Int32) × (Int64) × (Int64) × (Int64) × (Int64) × (Int64) × (Int64) × (Int64) × (Int64) × (Int64) × (Int64) × (Int64) × (Nat → Int32) × (Nat → Int32) × (Int32)) => (∀ k : Nat, k < 60 → 0 ≤ (u.2.2.2.2.2.2.2.2.2.2.2.2.2.2.2.1 k).toInt ∧ (u.2.2.2.2.2.2.2.2.2.2.2.2.2.2.2.1 k).toInt ≤ 399) ∧ (0 ≤ u.2.2.2.2.2.2.2.2.2.2.2.2.2.2.2.2.2.toInt ∧ u.2.2.2.2.2.2.2.2.2.2.2.2.2.2.2.2.2.toInt ≤ 60)) (mu_B D (va_A [(xh, .inr (8, G8 xa xtrialRule xdropRule xtoday)), ((xa 0), .inl (E 0, 400, .inl xf0)), ((xa 1), .inl (E 0, 16, .inl xf1)), ((xa 2), .inl (E 0, 16, .inl xf2)), ((xa 3), .inl (E 3, 16, .inr (.inr (.inr (.inr xf3))))), (wh, .inr (7, G7 wa)), ((wa 0), .inl (E 0, 400, .inl wf0)), ((wa 1), .inl (E 0, 400, .inl wf1)), ((wa 2), .inl (E 0, 400, .inl wf2)), ((xa 6), .inr (2, G2 oa osize)), ((oa 0), .inl (E 0, 60, .inl of0)), ((oa 1), .inl (E 0, 60, .inl of1)), ((oa 2), .inl (E 0, 60, .inl of2)), ((oa 3), .inl (E 0, 60, .inl of3)), ((oa 4), .inl (E 0, 60, .inl of4)), ((xa 7), .inr (3, G3 ra rsize)), ((ra 0), .inl (E 0, 60, .inl rf0)), ((ra 1), .inl (E 0, 60, .inl rf1)), ((xa 8), .inr (1, G1 fa fn fsumR fsumW fsumA fsumWW fsumAA fsumWA fsumWR fsumAR fdivisor fbyWarmth fbyAge fform fwhole frest))] sz) (fun (u : (Int64) × (Int64) × (Int64) × (Int32) × (Int64) × (Int64) × (Int64) × (Int64) × (Int64) × (Int64) × (Int64) × (Int64) × (Int64) × (Int64) × (Int64) × (Nat → Int32) × (Nat → Int32) × (Int32)) => [(xh, .inr (8, G8 xa xtrialRule xdropRule xtoday)), ((xa 0), .inl (E 0, 400, .inl xf0)), ((xa 1), .inl (E 0, 16, .inl xf1)), ((xa 2), .inl (E 0, 16, .inl xf2)), ((xa 3), .inl (E 3, 16, .inr (.inr (.inr (.inr xf3))))), (wh, .inr (7, G7 wa)), ((wa 0), .inl (E 0, 400, .inl wf0)), ((wa 1), .inl (E 0, 400, .inl wf1)), ((wa 2), .inl (E 0, 400, .inl wf2)), ((xa 6), .inr (2, G2 oa osize)), ((oa 0), .inl (E 0, 60, .inl of0)), ((oa 1), .inl (E 0, 60, .inl of1)), ((oa 2), .inl (E 0, 60, .inl of2)), ((oa 3), .inl (E 0, 60, .inl of3)), ((oa 4), .inl (E 0, 60, .inl of4)), ((xa 7), .inr (3, G3 ra u.2.2.2.2.2.2.2.2.2.2.2.2.2.2.2.2.2)), ((ra 0), .inl (E 0, 60, .inl u.2.2.2.2.2.2.2.2.2.2.2.2.2.2.2.1)), ((ra 1), .inl (E 0, 60, .inl u.2.2.2.2.2.2.2.2.2.2.2.2.2.2.2.2.1)), ((xa 8), .inr (1, G1 fa u.2.2.2.2.1 u.2.2.2.2.2.2.2.2.2.1 u.2.2.2.2.2.2.2.2.2.2.1 u.2.2.2.2.2.2.1 u.2.2.2.2.2.2.2.2.2.2.2.2.2.1 u.2.2.2.2.2.2.2.1 u.2.2.2.2.2.2.2.2.2.2.2.1 u.2.2.2.2.2.2.2.2.2.2.2.2.1 u.2.2.2.2.2.2.2.2.1 u.2.2.1 u.2.1 u.1 u.2.2.2.1 u.2.2.2.2.2.2.2.2.2.2.2.2.2.2.1 u.2.2.2.2.2.1))])) (va_A [(xh, .inr (8, G8 xa xtrialRule xdropRule xtoday)), ((xa 0), .inl (E 0, 400, .inl xf0)), ((xa 1), .inl (E 0, 16, .inl xf1)), ((xa 2), .inl (E 0, 16, .inl xf2)), ((xa 3), .inl (E 3, 16, .inr (.inr (.inr (.inr xf3))))), (wh, .inr (7, G7 wa)), ((wa 0), .inl (E 0, 400, .inl wf0)), ((wa 1), .inl (E 0, 400, .inl wf1)), ((wa 2), .inl (E 0, 400, .inl wf2)), ((xa 6), .inr (2, G2 oa osize)), ((oa 0), .inl (E 0, 60, .inl of0)), ((oa 1), .inl (E 0, 60, .inl of1)), ((oa 2), .inl (E 0, 60, .inl of2)), ((oa 3), .inl (E 0, 60, .inl of3)), ((oa 4), .inl (E 0, 60, .inl of4)), ((xa 7), .inr (3, G3 ra rsize)), ((ra 0), .inl (E 0, 60, .inl rf0)), ((ra 1), .inl (E 0, 60, .inl rf1)), ((xa 8), .inr (1, G1 fa fn fsumR fsumW fsumA fsumWW fsumAA fsumWA fsumWR fsumAR fdivisor fbyWarmth fbyAge fform fwhole frest))] sz)) 0 0 (va_A [(xh, .inr (8, G8 xa xtrialRule xdropRule xtoday)), ((xa 0), .inl (E 0, 400, .inl xf0)), ((xa 1), .inl (E 0, 16, .inl xf1)), ((xa 2), .inl (E 0, 16, .inl xf2)), ((xa 3), .inl (E 3, 16, .inr (.inr (.inr (.inr xf3))))), (wh, .inr (7, G7 wa)), ((wa 0), .inl (E 0, 400, .inl wf0)), ((wa 1), .inl (E 0, 400, .inl wf1)), ((wa 2), .inl (E 0, 400, .inl wf2)), ((xa 6), .inr (2, G2 oa osize)), ((oa 0), .inl (E 0, 60, .inl of0)), ((oa 1), .inl (E 0, 60, .inl of1)), ((oa 2), .inl (E 0, 60, .inl of2)), ((oa 3), .inl (E 0, 60, .inl of3)), ((oa 4), .inl (E 0, 60, .inl of4)), ((xa 7), .inr (3, G3 ra rsize)), ((ra 0), .inl (E 0, 60, .inl rf0)), ((ra 1), .inl (E 0, 60, .inl rf1)), ((xa 8), .inr (1, G1 fa fn fsumR fsumW fsumA fsumWW fsumAA fsumWA fsumWR fsumAR fdivisor fbyWarmth fbyAge fform fwhole frest))] sz) := by
  refine Met.ofW (cc := cX8_foretold) (maxL := 8) (ret := (some .int)) (by decide) rfl ?_
  intro p e s m args below meth c s₁ B hml hv
  obtain ⟨rfl, hsz, hP, hK, hD0⟩ := hv
  have hx := B.exec; have hb := B.bytes; have hr := B.returns
  have hts := atoms_spec (ws := wl yX8_foretold cX8_foretold 8 (some .int)) B.pre
  have htb : ∀ w ∈ tb, w.before _ s = true := fun w h => hts w (List.mem_cons_of_mem _ h)
  have hown : s.vm.findClass RX8 = some m.cls := findClass_of_methodNamed B.named
  have hlocks := B.notSynchronized
  subst hsz
  have hD := hD0.self (sz := s.heap.size)
  generalize hAe : va_A [(xh, .inr (8, G8 xa xtrialRule xdropRule xtoday)), ((xa 0), .inl (E 0, 400, .inl xf0)), ((xa 1), .inl (E 0, 16, .inl xf1)), ((xa 2), .inl (E 0, 16, .inl xf2)), ((xa 3), .inl (E 3, 16, .inr (.inr (.inr (.inr xf3))))), (wh, .inr (7, G7 wa)), ((wa 0), .inl (E 0, 400, .inl wf0)), ((wa 1), .inl (E 0, 400, .inl wf1)), ((wa 2), .inl (E 0, 400, .inl wf2)), ((xa 6), .inr (2, G2 oa osize)), ((oa 0), .inl (E 0, 60, .inl of0)), ((oa 1), .inl (E 0, 60, .inl of1)), ((oa 2), .inl (E 0, 60, .inl of2)), ((oa 3), .inl (E 0, 60, .inl of3)), ((oa 4), .inl (E 0, 60, .inl of4)), ((xa 7), .inr (3, G3 ra rsize)), ((ra 0), .inl (E 0, 60, .inl rf0)), ((ra 1), .inl (E 0, 60, .inl rf1)), ((xa 8), .inr (1, G1 fa fn fsumR fsumW fsumA fsumWW fsumAA fsumWA fsumWR fsumAR fdivisor fbyWarmth fbyAge fform fwhole frest))] s.heap.size = A at hD ⊢
  have hA : ∀ q : Nat, s.heap.size ≤ q → A q := fun q h => by rw [← hAe]; exact Or.inr h
  have hS : va_S A s.heap s.heap [] := va_S.rf
  have hP : va_P D vwCl [(xh, .inr (8, G8 xa xtrialRule xdropRule xtoday)), ((xa 0), .inl (E 0, 400, .inl xf0)), ((xa 1), .inl (E 0, 16, .inl xf1)), ((xa 2), .inl (E 0, 16, .inl xf2)), ((xa 3), .inl (E 3, 16, .inr (.inr (.inr (.inr xf3))))), (wh, .inr (7, G7 wa)), ((wa 0), .inl (E 0, 400, .inl wf0)), ((wa 1), .inl (E 0, 400, .inl wf1)), ((wa 2), .inl (E 0, 400, .inl wf2)), ((xa 6), .inr (2, G2 oa osize)), ((oa 0), .inl (E 0, 60, .inl of0)), ((oa 1), .inl (E 0, 60, .inl of1)), ((oa 2), .inl (E 0, 60, .inl of2)), ((oa 3), .inl (E 0, 60, .inl of3)), ((oa 4), .inl (E 0, 60, .inl of4)), ((xa 7), .inr (3, G3 ra rsize)), ((ra 0), .inl (E 0, 60, .inl rf0)), ((ra 1), .inl (E 0, 60, .inl rf1)), ((xa 8), .inr (1, G1 fa fn fsumR fsumW fsumA fsumWW fsumAA fsumWA fsumWR fsumAR fdivisor fbyWarmth fbyAge fform fwhole frest))] s.heap := hP
  have hl := lv_entry ([.ref xh, .int p0, .int p1, .int p2, .int p3, .int p4]) (n := 8) (Nat.le_of_ble_eq_true rfl)
  rw [lg_entry_eq]
  generalize (lg_sl ([.ref xh, .int p0, .int p1, .int p2, .int p3, .int p4]) ++ List.replicate (8 - (lg_sl ([.ref xh, .int p0, .int p1, .int p2, .int p3, .int p4])).length) Slot.unset).toArray = ls at hl ⊢
  have hl : lv_has ls 8 [(0, .ref xh), (1, .int p0), (2, .int p1), (3, .int p2), (4, .int p3), (5, .int p4)] := hl
  have lo_p0 := i_lo p0; have hi_p0 := i_hi p0
  have lo_p1 := i_lo p1; have hi_p1 := i_hi p1
  have lo_p2 := i_lo p2; have hi_p2 := i_hi p2
  have lo_p3 := i_lo p3; have hi_p3 := i_hi p3
  have lo_p4 := i_lo p4; have hi_p4 := i_hi p4
  refine lv_aload_n hx hb dX8_foretold_0 rfl (lv_at hl 0 rfl) ?_
  refine lv_iload_n hx hb dX8_foretold_1 rfl (lv_at hl 1 rfl) ?_
  refine lv_iload_n hx hb dX8_foretold_2 rfl (lv_at hl 2 rfl) ?_
  refine lv_iload_n hx hb dX8_foretold_3 rfl (lv_at hl 3 rfl) ?_
  refine callRV (rest := []) (As := [.int p0, .int p1, .int p2]) hx hb hml hown htb hK (g_X8_refusalOfStretch_W l D E xh xa xtrialRule xdropRule xtoday xf1 xf3 wh wa p0 p1 p2 (by (try dsimp only); omega) hk0 hw0) ok_X8_refusalOfStretch k_486 k_488 ks_5 k_1 k_489 ⟨(Nat.le_of_ble_eq_true rfl), (Nat.le_of_ble_eq_true rfl)⟩ ⟨(Nat.le_of_ble_eq_true rfl), (Nat.le_of_ble_eq_true rfl)⟩ hl.1 (Nat.le_of_ble_eq_true rfl) rfl rfl dX8_foretold_4 (hP.sub (ws' := [(xh, .inr (8, G8 xa xtrialRule xdropRule xtoday)), ((xa 1), .inl (E 0, 16, .inl xf1)), ((xa 3), .inl (E 3, 16, .inr (.inr (.inr (.inr xf3))))), (wh, .inr (7, G7 wa))]) [0, 2, 4, 5] rfl) rfl rfl 0 rfl (fun r_1 hw_2 => ?_)
  refine lv_if_ne (tgt := 28) hx hb dX8_foretold_7 (by decide) (fun c_4 => ?_) (fun c_4 => ?_)
  ·
    have ic_4 : r_1.toInt ≠ 0 := mt (g_eq rfl t_0).mpr c_4
    clear c_4
    refine lv_ldc hx hb hown (htb _ k_386) dX8_foretold_28 ?_
    have hP9 := hP.sub (ws' := [(xh, .inr (8, G8 xa xtrialRule xdropRule xtoday)), ((xa 0), .inl (E 0, 400, .inl xf0)), ((xa 1), .inl (E 0, 16, .inl xf1)), ((xa 2), .inl (E 0, 16, .inl xf2)), ((xa 3), .inl (E 3, 16, .inr (.inr (.inr (.inr xf3))))), (wh, .inr (7, G7 wa)), ((wa 0), .inl (E 0, 400, .inl wf0)), ((wa 1), .inl (E 0, 400, .inl wf1)), ((wa 2), .inl (E 0, 400, .inl wf2)), ((xa 6), .inr (2, G2 oa osize)), ((oa 0), .inl (E 0, 60, .inl of0)), ((oa 1), .inl (E 0, 60, .inl of1)), ((oa 2), .inl (E 0, 60, .inl of2)), ((oa 3), .inl (E 0, 60, .inl of3)), ((oa 4), .inl (E 0, 60, .inl of4)), ((xa 7), .inr (3, G3 ra rsize)), ((ra 0), .inl (E 0, 60, .inl rf0)), ((ra 1), .inl (E 0, 60, .inl rf1)), ((xa 8), .inr (1, G1 fa fn fsumR fsumW fsumA fsumWW fsumAA fsumWA fsumWR fsumAR fdivisor fbyWarmth fbyAge fform fwhole frest))]) [0, 1, 2, 3, 4, 5, 6, 7, 8, 9, 10, 11, 12, 13, 14, 15, 16, 17, 18] rfl
    have hD9 := hD.sub (ws' := [(xh, .inr (8, G8 xa xtrialRule xdropRule xtoday)), ((xa 0), .inl (E 0, 400, .inl xf0)), ((xa 1), .inl (E 0, 16, .inl xf1)), ((xa 2), .inl (E 0, 16, .inl xf2)), ((xa 3), .inl (E 3, 16, .inr (.inr (.inr (.inr xf3))))), (wh, .inr (7, G7 wa)), ((wa 0), .inl (E 0, 400, .inl wf0)), ((wa 1), .inl (E 0, 400, .inl wf1)), ((wa 2), .inl (E 0, 400, .inl wf2)), ((xa 6), .inr (2, G2 oa osize)), ((oa 0), .inl (E 0, 60, .inl of0)), ((oa 1), .inl (E 0, 60, .inl of1)), ((oa 2), .inl (E 0, 60, .inl of2)), ((oa 3), .inl (E 0, 60, .inl of3)), ((oa 4), .inl (E 0, 60, .inl of4)), ((xa 7), .inr (3, G3 ra rsize)), ((ra 0), .inl (E 0, 60, .inl rf0)), ((ra 1), .inl (E 0, 60, .inl rf1)), ((xa 8), .inr (1, G1 fa fn fsumR fsumW fsumA fsumWW fsumAA fsumWA fsumWR fsumAR fdivisor fbyWarmth fbyAge fform fwhole frest))]) [0, 1, 2, 3, 4, 5, 6, 7, 8, 9, 10, 11, 12, 13, 14, 15, 16, 17, 18] (by decide) rfl
    exact W.iret (v := (-2000000000)) hx hb hr (fun t ht hW => ⟨⟨(-2000000000), (fbyAge, fbyWarmth, fdivisor, fform, fn, frest, fsumA, fsumAA, fsumAR, fsumR, fsumW, fsumWA, fsumWR, fsumWW, fwhole, rf0, rf1, rsize), rfl, ⟨hr_r0, (by (try dsimp only); omega)⟩, by rw [ht]; exact hP9, hD9⟩, hS.F ht⟩) hS.2.2 dX8_foretold_30
  ·
    have ic_4 : r_1.toInt = 0 := (g_eq rfl t_0).mp c_4
    clear c_4
    refine lv_iload hx hb dX8_foretold_10 (lv_at hl 4 rfl) ?_
    refine lv_bipush (v := 50) hx hb dX8_foretold_12 (by decide) ?_
    refine callRS (rest := []) (As := [.int p3, .int 50]) hx hb hml hown htb hK (g_X8_isWithin l D E p3 50 (by decide)) ok_X8_isWithin k_326 k_327 k_1 k_328 ⟨(Nat.le_of_ble_eq_true rfl), (Nat.le_of_ble_eq_true rfl)⟩ ⟨(Nat.le_of_ble_eq_true rfl), (Nat.le_of_ble_eq_true rfl)⟩ hl.1 (Nat.le_of_ble_eq_true rfl) rfl rfl dX8_foretold_14 (hP.sub (ws' := ([] : va_W)) [] rfl) (fun r_5 hw_6 => ?_)
    try simp only [t_50] at hw_6
    rcases hw_6 with ⟨hr_5, hw_6⟩ | ⟨hr_5, hw_6⟩
    ·
      try simp only [t_50] at hw_6
      refine W_top (y := .int 1) (by rw [hr_5]) ?_
      refine lv_if_eq (tgt := 28) hx hb dX8_foretold_17 (by decide) (fun c_8 => absurd c_8 (by decide)) (fun c_8 => ?_)
      refine lv_iload hx hb dX8_foretold_20 (lv_at hl 5 rfl) ?_
      refine callRS (rest := []) (As := [.int p4]) hx hb hml hown htb hK (g_X8_isDay l D E p4 ) ok_X8_isDay k_323 k_324 k_1 k_325 ⟨(Nat.le_of_ble_eq_true rfl), (Nat.le_of_ble_eq_true rfl)⟩ ⟨(Nat.le_of_ble_eq_true rfl), (Nat.le_of_ble_eq_true rfl)⟩ hl.1 (Nat.le_of_ble_eq_true rfl) rfl rfl dX8_foretold_22 (hP.sub (ws' := ([] : va_W)) [] rfl) (fun r_9 hw_10 => ?_)
      rcases hw_10 with ⟨hr_9, hw_10⟩ | ⟨hr_9, hw_10⟩
      ·
        refine W_top (y := .int 1) (by rw [hr_9]) ?_
        refine lv_if_ne (tgt := 31) hx hb dX8_foretold_25 (by decide) (fun c_12 => ?_) (fun c_12 => absurd c_12 (by decide))
        refine lv_aload_n hx hb dX8_foretold_31 rfl (lv_at hl 0 rfl) ?_
        refine lv_iload_n hx hb dX8_foretold_32 rfl (lv_at hl 1 rfl) ?_
        refine lv_iload_n hx hb dX8_foretold_33 rfl (lv_at hl 2 rfl) ?_
        refine lv_iload_n hx hb dX8_foretold_34 rfl (lv_at hl 3 rfl) ?_
        have hPc := hP.sub (ws' := [(xh, .inr (8, G8 xa xtrialRule xdropRule xtoday)), ((xa 0), .inl (E 0, 400, .inl xf0)), ((xa 1), .inl (E 0, 16, .inl xf1)), ((xa 2), .inl (E 0, 16, .inl xf2)), ((xa 3), .inl (E 3, 16, .inr (.inr (.inr (.inr xf3))))), (wh, .inr (7, G7 wa)), ((wa 0), .inl (E 0, 400, .inl wf0)), ((wa 1), .inl (E 0, 400, .inl wf1)), ((wa 2), .inl (E 0, 400, .inl wf2)), ((xa 6), .inr (2, G2 oa osize)), ((oa 0), .inl (E 0, 60, .inl of0)), ((oa 1), .inl (E 0, 60, .inl of1)), ((oa 2), .inl (E 0, 60, .inl of2)), ((oa 3), .inl (E 0, 60, .inl of3)), ((oa 4), .inl (E 0, 60, .inl of4)), ((xa 7), .inr (3, G3 ra rsize)), ((ra 0), .inl (E 0, 60, .inl rf0)), ((ra 1), .inl (E 0, 60, .inl rf1)), ((xa 8), .inr (1, G1 fa fn fsumR fsumW fsumA fsumWW fsumAA fsumWA fsumWR fsumAR fdivisor fbyWarmth fbyAge fform fwhole frest))]) [0, 1, 2, 3, 4, 5, 6, 7, 8, 9, 10, 11, 12, 13, 14, 15, 16, 17, 18] rfl
        have hDc := hD.sub (ws' := [(xh, .inr (8, G8 xa xtrialRule xdropRule xtoday)), ((xa 0), .inl (E 0, 400, .inl xf0)), ((xa 1), .inl (E 0, 16, .inl xf1)), ((xa 2), .inl (E 0, 16, .inl xf2)), ((xa 3), .inl (E 3, 16, .inr (.inr (.inr (.inr xf3))))), (wh, .inr (7, G7 wa)), ((wa 0), .inl (E 0, 400, .inl wf0)), ((wa 1), .inl (E 0, 400, .inl wf1)), ((wa 2), .inl (E 0, 400, .inl wf2)), ((xa 6), .inr (2, G2 oa osize)), ((oa 0), .inl (E 0, 60, .inl of0)), ((oa 1), .inl (E 0, 60, .inl of1)), ((oa 2), .inl (E 0, 60, .inl of2)), ((oa 3), .inl (E 0, 60, .inl of3)), ((oa 4), .inl (E 0, 60, .inl of4)), ((xa 7), .inr (3, G3 ra rsize)), ((ra 0), .inl (E 0, 60, .inl rf0)), ((ra 1), .inl (E 0, 60, .inl rf1)), ((xa 8), .inr (1, G1 fa fn fsumR fsumW fsumA fsumWW fsumAA fsumWA fsumWR fsumAR fdivisor fbyWarmth fbyAge fform fwhole frest))]) [0, 1, 2, 3, 4, 5, 6, 7, 8, 9, 10, 11, 12, 13, 14, 15, 16, 17, 18] (by decide) rfl
        refine aft_v (runMV (rest := []) (As := [.int p0, .int p1, .int p2]) hx hb hml hown htb hK (g_X8_fitLaw_W l D E xh xa xtrialRule xdropRule xtoday xf0 xf1 xf2 xf3 wh wa wf0 wf1 wf2 oa osize of0 of1 of2 of3 of4 ra rsize rf0 rf1 fa fn fsumR fsumW fsumA fsumWW fsumAA fsumWA fsumWR fsumAR fdivisor fbyWarmth fbyAge fform fwhole frest p0 p1 p2 _ (by (try dsimp only); omega) (by (try dsimp only); omega) (by (try dsimp only); omega) hr_r0 hk0 hw0 (by (try dsimp only); omega)) ok_X8_fitLaw k_490 k_492 ks_6 k_1 k_493 ⟨(Nat.le_of_ble_eq_true rfl), (Nat.le_of_ble_eq_true rfl)⟩ ⟨(Nat.le_of_ble_eq_true rfl), (Nat.le_of_ble_eq_true rfl)⟩ hl.1 (Nat.le_of_ble_eq_true rfl) rfl rfl dX8_foretold_35 hPc hDc rfl rfl 0 rfl) hP hD hS hA [0, 1, 2, 3, 4, 5, 6, 7, 8, 9, 10, 11, 12, 13, 14, 15, 16, 17, 18] [] (wr := ([] : va_W)) rfl rfl (by decide) (by decide) (fun u_15 H locs hw_14 hP hD hS => ?_)
        clear hPc hDc
        obtain ⟨w_16, w_17, w_18, w_19, w_20, w_21, w_22, w_23, w_24, w_25, w_26, w_27, w_28, w_29, w_30, w_31⟩ := u_15
        try dsimp only at hw_14
        have hP : va_P D vwCl [(xh, .inr (8, G8 xa xtrialRule xdropRule xtoday)), ((xa 0), .inl (E 0, 400, .inl xf0)), ((xa 1), .inl (E 0, 16, .inl xf1)), ((xa 2), .inl (E 0, 16, .inl xf2)), ((xa 3), .inl (E 3, 16, .inr (.inr (.inr (.inr xf3))))), (wh, .inr (7, G7 wa)), ((wa 0), .inl (E 0, 400, .inl wf0)), ((wa 1), .inl (E 0, 400, .inl wf1)), ((wa 2), .inl (E 0, 400, .inl wf2)), ((xa 6), .inr (2, G2 oa osize)), ((oa 0), .inl (E 0, 60, .inl of0)), ((oa 1), .inl (E 0, 60, .inl of1)), ((oa 2), .inl (E 0, 60, .inl of2)), ((oa 3), .inl (E 0, 60, .inl of3)), ((oa 4), .inl (E 0, 60, .inl of4)), ((xa 7), .inr (3, G3 ra w_31)), ((ra 0), .inl (E 0, 60, .inl w_29)), ((ra 1), .inl (E 0, 60, .inl w_30)), ((xa 8), .inr (1, G1 fa w_20 w_24 w_25 w_21 w_28 w_22 w_26 w_27 w_23 w_18 w_17 w_16 w_19 fwhole frest))] H := hP
        have hD := toW hP hD rfl
        obtain ⟨hw_14_0, hw_14_1, hw_14_2, hw_14_3⟩ := hw_14
        refine lv_aload_n hx hb dX8_foretold_38 rfl (lv_at hl 0 rfl) ?_
        refine va_get (D := D) (ci := 8) (v := .ref (xa 8)) (C := RX8) (T := TX8) (N := 14) hx hb htb iX8 hown hK.1 hP 0 rfl rfl 8 (by decide) (htb _ k_280) (fun _ h9 => h9) rfl dX8_foretold_39 ?_
        refine callRV (rest := []) (As := []) hx hb hml hown htb hK (g_X1_size l D E (xa 8) fa w_20 w_24 w_25 w_21 w_28 w_22 w_26 w_27 w_23 w_18 w_17 w_16 w_19 fwhole frest ) ok_X1_size k_521 k_522 k_523 k_4 k_524 ⟨(Nat.le_of_ble_eq_true rfl), (Nat.le_of_ble_eq_true rfl)⟩ ⟨(Nat.le_of_ble_eq_true rfl), (Nat.le_of_ble_eq_true rfl)⟩ hl.1 (Nat.le_of_ble_eq_true rfl) rfl rfl dX8_foretold_42 (hP.sub (ws' := [((xa 8), .inr (1, G1 fa w_20 w_24 w_25 w_21 w_28 w_22 w_26 w_27 w_23 w_18 w_17 w_16 w_19 fwhole frest))]) [18] rfl) rfl rfl 0 rfl (fun r_32 hw_33 => ?_)
        refine lv_if_ne (tgt := 51) hx hb dX8_foretold_45 (by decide) (fun c_35 => ?_) (fun c_35 => ?_)
        ·
          have ic_35 : r_32.toInt ≠ 0 := mt (g_eq rfl t_0).mpr c_35
          clear c_35
          refine lv_aload_n hx hb dX8_foretold_51 rfl (lv_at hl 0 rfl) ?_
          refine va_get (D := D) (ci := 8) (v := .ref (xa 8)) (C := RX8) (T := TX8) (N := 14) hx hb htb iX8 hown hK.1 hP 0 rfl rfl 8 (by decide) (htb _ k_280) (fun _ h9 => h9) rfl dX8_foretold_52 ?_
          refine lv_iload hx hb dX8_foretold_55 (lv_at hl 4 rfl) ?_
          refine lv_iload hx hb dX8_foretold_57 (lv_at hl 5 rfl) ?_
          have hPc := hP.sub (ws' := [((xa 8), .inr (1, G1 fa w_20 w_24 w_25 w_21 w_28 w_22 w_26 w_27 w_23 w_18 w_17 w_16 w_19 fwhole frest))]) [18] rfl
          have hDc := hD.sub (ws' := [((xa 8), .inr (1, G1 fa w_20 w_24 w_25 w_21 w_28 w_22 w_26 w_27 w_23 w_18 w_17 w_16 w_19 fwhole frest))]) [18] (by decide) rfl
          refine aft_l (runMV (rest := []) (As := [.int p3, .int p4]) hx hb hml hown htb hK (g_X1_thousandfold l D E (xa 8) fa w_20 w_24 w_25 w_21 w_28 w_22 w_26 w_27 w_23 w_18 w_17 w_16 w_19 fwhole frest p3 p4 _ ) ok_X1_thousandfold k_537 k_538 k_539 k_4 k_540 ⟨(Nat.le_of_ble_eq_true rfl), (Nat.le_of_ble_eq_true rfl)⟩ ⟨(Nat.le_of_ble_eq_true rfl), (Nat.le_of_ble_eq_true rfl)⟩ hl.1 (Nat.le_of_ble_eq_true rfl) rfl rfl dX8_foretold_59 hPc hDc rfl rfl 0 rfl) hP hD hS hA [18] [0, 1, 2, 3, 4, 5, 6, 7, 8, 9, 10, 11, 12, 13, 14, 15, 16, 17] (wr := [(xh, .inr (8, G8 xa xtrialRule xdropRule xtoday)), ((xa 0), .inl (E 0, 400, .inl xf0)), ((xa 1), .inl (E 0, 16, .inl xf1)), ((xa 2), .inl (E 0, 16, .inl xf2)), ((xa 3), .inl (E 3, 16, .inr (.inr (.inr (.inr xf3))))), (wh, .inr (7, G7 wa)), ((wa 0), .inl (E 0, 400, .inl wf0)), ((wa 1), .inl (E 0, 400, .inl wf1)), ((wa 2), .inl (E 0, 400, .inl wf2)), ((xa 6), .inr (2, G2 oa osize)), ((oa 0), .inl (E 0, 60, .inl of0)), ((oa 1), .inl (E 0, 60, .inl of1)), ((oa 2), .inl (E 0, 60, .inl of2)), ((oa 3), .inl (E 0, 60, .inl of3)), ((oa 4), .inl (E 0, 60, .inl of4)), ((xa 7), .inr (3, G3 ra w_31)), ((ra 0), .inl (E 0, 60, .inl w_29)), ((ra 1), .inl (E 0, 60, .inl w_30))]) rfl rfl (by decide) (by decide) (fun r_36 u_38 H locs hw_37 hP hD hS => ?_)
          clear hPc hDc
          obtain ⟨w_39, w_40⟩ := u_38
          try dsimp only at hw_37
          have hP : va_P D vwCl [(xh, .inr (8, G8 xa xtrialRule xdropRule xtoday)), ((xa 0), .inl (E 0, 400, .inl xf0)), ((xa 1), .inl (E 0, 16, .inl xf1)), ((xa 2), .inl (E 0, 16, .inl xf2)), ((xa 3), .inl (E 3, 16, .inr (.inr (.inr (.inr xf3))))), (wh, .inr (7, G7 wa)), ((wa 0), .inl (E 0, 400, .inl wf0)), ((wa 1), .inl (E 0, 400, .inl wf1)), ((wa 2), .inl (E 0, 400, .inl wf2)), ((xa 6), .inr (2, G2 oa osize)), ((oa 0), .inl (E 0, 60, .inl of0)), ((oa 1), .inl (E 0, 60, .inl of1)), ((oa 2), .inl (E 0, 60, .inl of2)), ((oa 3), .inl (E 0, 60, .inl of3)), ((oa 4), .inl (E 0, 60, .inl of4)), ((xa 7), .inr (3, G3 ra w_31)), ((ra 0), .inl (E 0, 60, .inl w_29)), ((ra 1), .inl (E 0, 60, .inl w_30)), ((xa 8), .inr (1, G1 fa w_20 w_24 w_25 w_21 w_28 w_22 w_26 w_27 w_23 w_18 w_17 w_16 w_19 w_40 w_39))] H := hP
          have hD := toW hP hD rfl
          refine lv_lstore (lv' := [(6, .long r_36), (0, .ref xh), (1, .int p0), (2, .int p1), (3, .int p2), (4, .int p3), (5, .int p4)]) hx hb dX8_foretold_62 hl (by decide) rfl (fun ls hl => ?_)
          refine lv_lload hx hb dX8_foretold_64 (lv_at hl 0 rfl) ?_
          refine lv_ldc2 hx hb hown (htb _ k_556) dX8_foretold_66 ?_
          refine W.lcmp hx hb dX8_foretold_69 ?_
          refine lv_topi (fun z_41 ez_41 => ?_)
          refine lv_if_gt (tgt := 82) hx hb dX8_foretold_70 (by decide) (fun c_42 => ?_) (fun c_42 => ?_)
          ·
            have lc_43 : ¬ (r_36 : Int64) = ((2000000000) : Int64) := lc_gt (by rw [← ez_41]; first | exact Or.inl c_42 | exact Or.inr c_42)
            refine lv_ldc hx hb hown (htb _ k_386) dX8_foretold_82 ?_
            have hP9 := hP.sub (ws' := [(xh, .inr (8, G8 xa xtrialRule xdropRule xtoday)), ((xa 0), .inl (E 0, 400, .inl xf0)), ((xa 1), .inl (E 0, 16, .inl xf1)), ((xa 2), .inl (E 0, 16, .inl xf2)), ((xa 3), .inl (E 3, 16, .inr (.inr (.inr (.inr xf3))))), (wh, .inr (7, G7 wa)), ((wa 0), .inl (E 0, 400, .inl wf0)), ((wa 1), .inl (E 0, 400, .inl wf1)), ((wa 2), .inl (E 0, 400, .inl wf2)), ((xa 6), .inr (2, G2 oa osize)), ((oa 0), .inl (E 0, 60, .inl of0)), ((oa 1), .inl (E 0, 60, .inl of1)), ((oa 2), .inl (E 0, 60, .inl of2)), ((oa 3), .inl (E 0, 60, .inl of3)), ((oa 4), .inl (E 0, 60, .inl of4)), ((xa 7), .inr (3, G3 ra w_31)), ((ra 0), .inl (E 0, 60, .inl w_29)), ((ra 1), .inl (E 0, 60, .inl w_30)), ((xa 8), .inr (1, G1 fa w_20 w_24 w_25 w_21 w_28 w_22 w_26 w_27 w_23 w_18 w_17 w_16 w_19 w_40 w_39))]) [0, 1, 2, 3, 4, 5, 6, 7, 8, 9, 10, 11, 12, 13, 14, 15, 16, 17, 18] rfl
            have hD9 := hD.sub (ws' := [(xh, .inr (8, G8 xa xtrialRule xdropRule xtoday)), ((xa 0), .inl (E 0, 400, .inl xf0)), ((xa 1), .inl (E 0, 16, .inl xf1)), ((xa 2), .inl (E 0, 16, .inl xf2)), ((xa 3), .inl (E 3, 16, .inr (.inr (.inr (.inr xf3))))), (wh, .inr (7, G7 wa)), ((wa 0), .inl (E 0, 400, .inl wf0)), ((wa 1), .inl (E 0, 400, .inl wf1)), ((wa 2), .inl (E 0, 400, .inl wf2)), ((xa 6), .inr (2, G2 oa osize)), ((oa 0), .inl (E 0, 60, .inl of0)), ((oa 1), .inl (E 0, 60, .inl of1)), ((oa 2), .inl (E 0, 60, .inl of2)), ((oa 3), .inl (E 0, 60, .inl of3)), ((oa 4), .inl (E 0, 60, .inl of4)), ((xa 7), .inr (3, G3 ra w_31)), ((ra 0), .inl (E 0, 60, .inl w_29)), ((ra 1), .inl (E 0, 60, .inl w_30)), ((xa 8), .inr (1, G1 fa w_20 w_24 w_25 w_21 w_28 w_22 w_26 w_27 w_23 w_18 w_17 w_16 w_19 w_40 w_39))]) [0, 1, 2, 3, 4, 5, 6, 7, 8, 9, 10, 11, 12, 13, 14, 15, 16, 17, 18] (by decide) rfl
            exact W.iret (v := (-2000000000)) hx hb hr (fun t ht hW => ⟨⟨(-2000000000), (w_16, w_17, w_18, w_19, w_20, w_39, w_21, w_22, w_23, w_24, w_25, w_26, w_27, w_28, w_40, w_29, w_30, w_31), rfl, ⟨hw_14_0, (by (try dsimp only); omega)⟩, by rw [ht]; exact hP9, hD9⟩, hS.F ht⟩) hS.2.2 dX8_foretold_84
          ·
            refine lv_lload hx hb dX8_foretold_73 (lv_at hl 0 rfl) ?_
            refine lv_ldc2 hx hb hown (htb _ k_557) dX8_foretold_75 ?_
            refine W.lcmp hx hb dX8_foretold_78 ?_
            refine lv_topi (fun z_45 ez_45 => ?_)
            refine lv_if_ge (tgt := 85) hx hb dX8_foretold_79 (by decide) (fun c_46 => ?_) (fun c_46 => ?_)
            ·
              refine lv_lload hx hb dX8_foretold_85 (lv_at hl 0 rfl) ?_
              obtain ⟨z_48, ez_48⟩ : ∃ y : Int32, (r_36 : Int64).toInt32 = y := ⟨_, rfl⟩
              refine lv_l2i hx hb dX8_foretold_87 ez_48 ?_
              have hP9 := hP.sub (ws' := [(xh, .inr (8, G8 xa xtrialRule xdropRule xtoday)), ((xa 0), .inl (E 0, 400, .inl xf0)), ((xa 1), .inl (E 0, 16, .inl xf1)), ((xa 2), .inl (E 0, 16, .inl xf2)), ((xa 3), .inl (E 3, 16, .inr (.inr (.inr (.inr xf3))))), (wh, .inr (7, G7 wa)), ((wa 0), .inl (E 0, 400, .inl wf0)), ((wa 1), .inl (E 0, 400, .inl wf1)), ((wa 2), .inl (E 0, 400, .inl wf2)), ((xa 6), .inr (2, G2 oa osize)), ((oa 0), .inl (E 0, 60, .inl of0)), ((oa 1), .inl (E 0, 60, .inl of1)), ((oa 2), .inl (E 0, 60, .inl of2)), ((oa 3), .inl (E 0, 60, .inl of3)), ((oa 4), .inl (E 0, 60, .inl of4)), ((xa 7), .inr (3, G3 ra w_31)), ((ra 0), .inl (E 0, 60, .inl w_29)), ((ra 1), .inl (E 0, 60, .inl w_30)), ((xa 8), .inr (1, G1 fa w_20 w_24 w_25 w_21 w_28 w_22 w_26 w_27 w_23 w_18 w_17 w_16 w_19 w_40 w_39))]) [0, 1, 2, 3, 4, 5, 6, 7, 8, 9, 10, 11, 12, 13, 14, 15, 16, 17, 18] rfl
              have hD9 := hD.sub (ws' := [(xh, .inr (8, G8 xa xtrialRule xdropRule xtoday)), ((xa 0), .inl (E 0, 400, .inl xf0)), ((xa 1), .inl (E 0, 16, .inl xf1)), ((xa 2), .inl (E 0, 16, .inl xf2)), ((xa 3), .inl (E 3, 16, .inr (.inr (.inr (.inr xf3))))), (wh, .inr (7, G7 wa)), ((wa 0), .inl (E 0, 400, .inl wf0)), ((wa 1), .inl (E 0, 400, .inl wf1)), ((wa 2), .inl (E 0, 400, .inl wf2)), ((xa 6), .inr (2, G2 oa osize)), ((oa 0), .inl (E 0, 60, .inl of0)), ((oa 1), .inl (E 0, 60, .inl of1)), ((oa 2), .inl (E 0, 60, .inl of2)), ((oa 3), .inl (E 0, 60, .inl of3)), ((oa 4), .inl (E 0, 60, .inl of4)), ((xa 7), .inr (3, G3 ra w_31)), ((ra 0), .inl (E 0, 60, .inl w_29)), ((ra 1), .inl (E 0, 60, .inl w_30)), ((xa 8), .inr (1, G1 fa w_20 w_24 w_25 w_21 w_28 w_22 w_26 w_27 w_23 w_18 w_17 w_16 w_19 w_40 w_39))]) [0, 1, 2, 3, 4, 5, 6, 7, 8, 9, 10, 11, 12, 13, 14, 15, 16, 17, 18] (by decide) rfl
              exact W.iret (v := z_48) hx hb hr (fun t ht hW => ⟨⟨z_48, (w_16, w_17, w_18, w_19, w_20, w_39, w_21, w_22, w_23, w_24, w_25, w_26, w_27, w_28, w_40, w_29, w_30, w_31), rfl, ⟨hw_14_0, (by (try dsimp only); omega)⟩, by rw [ht]; exact hP9, hD9⟩, hS.F ht⟩) hS.2.2 dX8_foretold_88
            ·
              refine lv_ldc hx hb hown (htb _ k_386) dX8_foretold_82 ?_
              have hP9 := hP.sub (ws' := [(xh, .inr (8, G8 xa xtrialRule xdropRule xtoday)), ((xa 0), .inl (E 0, 400, .inl xf0)), ((xa 1), .inl (E 0, 16, .inl xf1)), ((xa 2), .inl (E 0, 16, .inl xf2)), ((xa 3), .inl (E 3, 16, .inr (.inr (.inr (.inr xf3))))), (wh, .inr (7, G7 wa)), ((wa 0), .inl (E 0, 400, .inl wf0)), ((wa 1), .inl (E 0, 400, .inl wf1)), ((wa 2), .inl (E 0, 400, .inl wf2)), ((xa 6), .inr (2, G2 oa osize)), ((oa 0), .inl (E 0, 60, .inl of0)), ((oa 1), .inl (E 0, 60, .inl of1)), ((oa 2), .inl (E 0, 60, .inl of2)), ((oa 3), .inl (E 0, 60, .inl of3)), ((oa 4), .inl (E 0, 60, .inl of4)), ((xa 7), .inr (3, G3 ra w_31)), ((ra 0), .inl (E 0, 60, .inl w_29)), ((ra 1), .inl (E 0, 60, .inl w_30)), ((xa 8), .inr (1, G1 fa w_20 w_24 w_25 w_21 w_28 w_22 w_26 w_27 w_23 w_18 w_17 w_16 w_19 w_40 w_39))]) [0, 1, 2, 3, 4, 5, 6, 7, 8, 9, 10, 11, 12, 13, 14, 15, 16, 17, 18] rfl
              have hD9 := hD.sub (ws' := [(xh, .inr (8, G8 xa xtrialRule xdropRule xtoday)), ((xa 0), .inl (E 0, 400, .inl xf0)), ((xa 1), .inl (E 0, 16, .inl xf1)), ((xa 2), .inl (E 0, 16, .inl xf2)), ((xa 3), .inl (E 3, 16, .inr (.inr (.inr (.inr xf3))))), (wh, .inr (7, G7 wa)), ((wa 0), .inl (E 0, 400, .inl wf0)), ((wa 1), .inl (E 0, 400, .inl wf1)), ((wa 2), .inl (E 0, 400, .inl wf2)), ((xa 6), .inr (2, G2 oa osize)), ((oa 0), .inl (E 0, 60, .inl of0)), ((oa 1), .inl (E 0, 60, .inl of1)), ((oa 2), .inl (E 0, 60, .inl of2)), ((oa 3), .inl (E 0, 60, .inl of3)), ((oa 4), .inl (E 0, 60, .inl of4)), ((xa 7), .inr (3, G3 ra w_31)), ((ra 0), .inl (E 0, 60, .inl w_29)), ((ra 1), .inl (E 0, 60, .inl w_30)), ((xa 8), .inr (1, G1 fa w_20 w_24 w_25 w_21 w_28 w_22 w_26 w_27 w_23 w_18 w_17 w_16 w_19 w_40 w_39))]) [0, 1, 2, 3, 4, 5, 6, 7, 8, 9, 10, 11, 12, 13, 14, 15, 16, 17, 18] (by decide) rfl
              exact W.iret (v := (-2000000000)) hx hb hr (fun t ht hW => ⟨⟨(-2000000000), (w_16, w_17, w_18, w_19, w_20, w_39, w_21, w_22, w_23, w_24, w_25, w_26, w_27, w_28, w_40, w_29, w_30, w_31), rfl, ⟨hw_14_0, (by (try dsimp only); omega)⟩, by rw [ht]; exact hP9, hD9⟩, hS.F ht⟩) hS.2.2 dX8_foretold_84
        ·
          have ic_35 : r_32.toInt = 0 := (g_eq rfl t_0).mp c_35
          clear c_35
          refine lv_ldc hx hb hown (htb _ k_386) dX8_foretold_48 ?_
          have hP9 := hP.sub (ws' := [(xh, .inr (8, G8 xa xtrialRule xdropRule xtoday)), ((xa 0), .inl (E 0, 400, .inl xf0)), ((xa 1), .inl (E 0, 16, .inl xf1)), ((xa 2), .inl (E 0, 16, .inl xf2)), ((xa 3), .inl (E 3, 16, .inr (.inr (.inr (.inr xf3))))), (wh, .inr (7, G7 wa)), ((wa 0), .inl (E 0, 400, .inl wf0)), ((wa 1), .inl (E 0, 400, .inl wf1)), ((wa 2), .inl (E 0, 400, .inl wf2)), ((xa 6), .inr (2, G2 oa osize)), ((oa 0), .inl (E 0, 60, .inl of0)), ((oa 1), .inl (E 0, 60, .inl of1)), ((oa 2), .inl (E 0, 60, .inl of2)), ((oa 3), .inl (E 0, 60, .inl of3)), ((oa 4), .inl (E 0, 60, .inl of4)), ((xa 7), .inr (3, G3 ra w_31)), ((ra 0), .inl (E 0, 60, .inl w_29)), ((ra 1), .inl (E 0, 60, .inl w_30)), ((xa 8), .inr (1, G1 fa w_20 w_24 w_25 w_21 w_28 w_22 w_26 w_27 w_23 w_18 w_17 w_16 w_19 fwhole frest))]) [0, 1, 2, 3, 4, 5, 6, 7, 8, 9, 10, 11, 12, 13, 14, 15, 16, 17, 18] rfl
          have hD9 := hD.sub (ws' := [(xh, .inr (8, G8 xa xtrialRule xdropRule xtoday)), ((xa 0), .inl (E 0, 400, .inl xf0)), ((xa 1), .inl (E 0, 16, .inl xf1)), ((xa 2), .inl (E 0, 16, .inl xf2)), ((xa 3), .inl (E 3, 16, .inr (.inr (.inr (.inr xf3))))), (wh, .inr (7, G7 wa)), ((wa 0), .inl (E 0, 400, .inl wf0)), ((wa 1), .inl (E 0, 400, .inl wf1)), ((wa 2), .inl (E 0, 400, .inl wf2)), ((xa 6), .inr (2, G2 oa osize)), ((oa 0), .inl (E 0, 60, .inl of0)), ((oa 1), .inl (E 0, 60, .inl of1)), ((oa 2), .inl (E 0, 60, .inl of2)), ((oa 3), .inl (E 0, 60, .inl of3)), ((oa 4), .inl (E 0, 60, .inl of4)), ((xa 7), .inr (3, G3 ra w_31)), ((ra 0), .inl (E 0, 60, .inl w_29)), ((ra 1), .inl (E 0, 60, .inl w_30)), ((xa 8), .inr (1, G1 fa w_20 w_24 w_25 w_21 w_28 w_22 w_26 w_27 w_23 w_18 w_17 w_16 w_19 fwhole frest))]) [0, 1, 2, 3, 4, 5, 6, 7, 8, 9, 10, 11, 12, 13, 14, 15, 16, 17, 18] (by decide) rfl
          exact W.iret (v := (-2000000000)) hx hb hr (fun t ht hW => ⟨⟨(-2000000000), (w_16, w_17, w_18, w_19, w_20, frest, w_21, w_22, w_23, w_24, w_25, w_26, w_27, w_28, fwhole, w_29, w_30, w_31), rfl, ⟨hw_14_0, (by (try dsimp only); omega)⟩, by rw [ht]; exact hP9, hD9⟩, hS.F ht⟩) hS.2.2 dX8_foretold_50
      ·
        refine W_top (y := .int 0) (by rw [hr_9]) ?_
        refine lv_if_ne (tgt := 31) hx hb dX8_foretold_25 (by decide) (fun c_50 => absurd (by decide) c_50) (fun c_50 => ?_)
        refine lv_ldc hx hb hown (htb _ k_386) dX8_foretold_28 ?_
        have hP9 := hP.sub (ws' := [(xh, .inr (8, G8 xa xtrialRule xdropRule xtoday)), ((xa 0), .inl (E 0, 400, .inl xf0)), ((xa 1), .inl (E 0, 16, .inl xf1)), ((xa 2), .inl (E 0, 16, .inl xf2)), ((xa 3), .inl (E 3, 16, .inr (.inr (.inr (.inr xf3))))), (wh, .inr (7, G7 wa)), ((wa 0), .inl (E 0, 400, .inl wf0)), ((wa 1), .inl (E 0, 400, .inl wf1)), ((wa 2), .inl (E 0, 400, .inl wf2)), ((xa 6), .inr (2, G2 oa osize)), ((oa 0), .inl (E 0, 60, .inl of0)), ((oa 1), .inl (E 0, 60, .inl of1)), ((oa 2), .inl (E 0, 60, .inl of2)), ((oa 3), .inl (E 0, 60, .inl of3)), ((oa 4), .inl (E 0, 60, .inl of4)), ((xa 7), .inr (3, G3 ra rsize)), ((ra 0), .inl (E 0, 60, .inl rf0)), ((ra 1), .inl (E 0, 60, .inl rf1)), ((xa 8), .inr (1, G1 fa fn fsumR fsumW fsumA fsumWW fsumAA fsumWA fsumWR fsumAR fdivisor fbyWarmth fbyAge fform fwhole frest))]) [0, 1, 2, 3, 4, 5, 6, 7, 8, 9, 10, 11, 12, 13, 14, 15, 16, 17, 18] rfl
        have hD9 := hD.sub (ws' := [(xh, .inr (8, G8 xa xtrialRule xdropRule xtoday)), ((xa 0), .inl (E 0, 400, .inl xf0)), ((xa 1), .inl (E 0, 16, .inl xf1)), ((xa 2), .inl (E 0, 16, .inl xf2)), ((xa 3), .inl (E 3, 16, .inr (.inr (.inr (.inr xf3))))), (wh, .inr (7, G7 wa)), ((wa 0), .inl (E 0, 400, .inl wf0)), ((wa 1), .inl (E 0, 400, .inl wf1)), ((wa 2), .inl (E 0, 400, .inl wf2)), ((xa 6), .inr (2, G2 oa osize)), ((oa 0), .inl (E 0, 60, .inl of0)), ((oa 1), .inl (E 0, 60, .inl of1)), ((oa 2), .inl (E 0, 60, .inl of2)), ((oa 3), .inl (E 0, 60, .inl of3)), ((oa 4), .inl (E 0, 60, .inl of4)), ((xa 7), .inr (3, G3 ra rsize)), ((ra 0), .inl (E 0, 60, .inl rf0)), ((ra 1), .inl (E 0, 60, .inl rf1)), ((xa 8), .inr (1, G1 fa fn fsumR fsumW fsumA fsumWW fsumAA fsumWA fsumWR fsumAR fdivisor fbyWarmth fbyAge fform fwhole frest))]) [0, 1, 2, 3, 4, 5, 6, 7, 8, 9, 10, 11, 12, 13, 14, 15, 16, 17, 18] (by decide) rfl
        exact W.iret (v := (-2000000000)) hx hb hr (fun t ht hW => ⟨⟨(-2000000000), (fbyAge, fbyWarmth, fdivisor, fform, fn, frest, fsumA, fsumAA, fsumAR, fsumR, fsumW, fsumWA, fsumWR, fsumWW, fwhole, rf0, rf1, rsize), rfl, ⟨hr_r0, (by (try dsimp only); omega)⟩, by rw [ht]; exact hP9, hD9⟩, hS.F ht⟩) hS.2.2 dX8_foretold_30
    ·
      try simp only [t_50] at hw_6
      refine W_top (y := .int 0) (by rw [hr_5]) ?_
      refine lv_if_eq (tgt := 28) hx hb dX8_foretold_17 (by decide) (fun c_51 => ?_) (fun c_51 => absurd (by decide) c_51)
      refine lv_ldc hx hb hown (htb _ k_386) dX8_foretold_28 ?_
      have hP9 := hP.sub (ws' := [(xh, .inr (8, G8 xa xtrialRule xdropRule xtoday)), ((xa 0), .inl (E 0, 400, .inl xf0)), ((xa 1), .inl (E 0, 16, .inl xf1)), ((xa 2), .inl (E 0, 16, .inl xf2)), ((xa 3), .inl (E 3, 16, .inr (.inr (.inr (.inr xf3))))), (wh, .inr (7, G7 wa)), ((wa 0), .inl (E 0, 400, .inl wf0)), ((wa 1), .inl (E 0, 400, .inl wf1)), ((wa 2), .inl (E 0, 400, .inl wf2)), ((xa 6), .inr (2, G2 oa osize)), ((oa 0), .inl (E 0, 60, .inl of0)), ((oa 1), .inl (E 0, 60, .inl of1)), ((oa 2), .inl (E 0, 60, .inl of2)), ((oa 3), .inl (E 0, 60, .inl of3)), ((oa 4), .inl (E 0, 60, .inl of4)), ((xa 7), .inr (3, G3 ra rsize)), ((ra 0), .inl (E 0, 60, .inl rf0)), ((ra 1), .inl (E 0, 60, .inl rf1)), ((xa 8), .inr (1, G1 fa fn fsumR fsumW fsumA fsumWW fsumAA fsumWA fsumWR fsumAR fdivisor fbyWarmth fbyAge fform fwhole frest))]) [0, 1, 2, 3, 4, 5, 6, 7, 8, 9, 10, 11, 12, 13, 14, 15, 16, 17, 18] rfl
      have hD9 := hD.sub (ws' := [(xh, .inr (8, G8 xa xtrialRule xdropRule xtoday)), ((xa 0), .inl (E 0, 400, .inl xf0)), ((xa 1), .inl (E 0, 16, .inl xf1)), ((xa 2), .inl (E 0, 16, .inl xf2)), ((xa 3), .inl (E 3, 16, .inr (.inr (.inr (.inr xf3))))), (wh, .inr (7, G7 wa)), ((wa 0), .inl (E 0, 400, .inl wf0)), ((wa 1), .inl (E 0, 400, .inl wf1)), ((wa 2), .inl (E 0, 400, .inl wf2)), ((xa 6), .inr (2, G2 oa osize)), ((oa 0), .inl (E 0, 60, .inl of0)), ((oa 1), .inl (E 0, 60, .inl of1)), ((oa 2), .inl (E 0, 60, .inl of2)), ((oa 3), .inl (E 0, 60, .inl of3)), ((oa 4), .inl (E 0, 60, .inl of4)), ((xa 7), .inr (3, G3 ra rsize)), ((ra 0), .inl (E 0, 60, .inl rf0)), ((ra 1), .inl (E 0, 60, .inl rf1)), ((xa 8), .inr (1, G1 fa fn fsumR fsumW fsumA fsumWW fsumAA fsumWA fsumWR fsumAR fdivisor fbyWarmth fbyAge fform fwhole frest))]) [0, 1, 2, 3, 4, 5, 6, 7, 8, 9, 10, 11, 12, 13, 14, 15, 16, 17, 18] (by decide) rfl
      exact W.iret (v := (-2000000000)) hx hb hr (fun t ht hW => ⟨⟨(-2000000000), (fbyAge, fbyWarmth, fdivisor, fform, fn, frest, fsumA, fsumAA, fsumAR, fsumR, fsumW, fsumWA, fsumWR, fsumWW, fwhole, rf0, rf1, rsize), rfl, ⟨hr_r0, (by (try dsimp only); omega)⟩, by rw [ht]; exact hP9, hD9⟩, hS.F ht⟩) hS.2.2 dX8_foretold_30
set_option maxHeartbeats 4000000 in
set_option maxRecDepth 100000 in
theorem g_X8_jump_N (l : Launch) (D : va_G) (E : Nat → Nat) (xh : Nat) (xa : Nat → Nat) (xtrialRule : Nat) (xdropRule : Nat) (xtoday : Int32) (xf1 : Nat → Int32) (xf3 : Nat → Option Nat) (p0 : Int32) (p1 : Int32) (p2 : Int32) (p3 : Int32) (hi_x : (0 ≤ xtoday.toInt ∧ xtoday.toInt ≤ 399)) (hn0 : ¬ (0 ≤ p0.toInt ∧ p0.toInt ≤ 15 ∧ ((xf1 (p0).toNatClampNeg).toInt = 0 ∨ (xf1 (p0).toNatClampNeg).toInt = 1))) : Met l yX8_jump (wl yX8_jump cX8_jump 6 (some .int)) (RM 3 0 0) (rd_P D E [.ref xh, .int p0, .int p1, .int p2, .int p3] [(xh, .inr (8, G8 xa xtrialRule xdropRule xtoday)), ((xa 1), .inl (E 0, 16, .inl xf1)), ((xa 3), .inl (E 3, 16, .inr (.inr (.inr (.inr xf3)))))]) (rd_Q (fun r => ((r.toInt = -1 ∧ ¬ ((0 ≤ p3.toInt ∧ p3.toInt ≤ 2000) ∧ (0 ≤ p0.toInt ∧ p0.toInt ≤ 15) ∧ (0 ≤ p1.toInt ∧ p2.toInt ≤ 399 ∧ p1.toInt < p2.toInt ∧ p2.toInt - p1.toInt ≤ 60))) ∨ (((0 ≤ p3.toInt ∧ p3.toInt ≤ 2000) ∧ (0 ≤ p0.toInt ∧ p0.toInt ≤ 15) ∧ (0 ≤ p1.toInt ∧ p2.toInt ≤ 399 ∧ p1.toInt < p2.toInt ∧ p2.toInt - p1.toInt ≤ 60)) ∧ (((xf1 (p0).toNatClampNeg).toInt = -5 ∧ r.toInt = -2) ∨ ((xf1 (p0).toNatClampNeg).toInt ≠ -5 ∧ r.toInt = -3)))))) 0 0 (fun _ => False) := by
  refine Met.ofW (cc := cX8_jump) (maxL := 6) (ret := (some .int)) (by decide) rfl ?_
  intro p e s m args below meth c s₁ B hml hv
  obtain ⟨rfl, hP, hK⟩ := hv
  have hx := B.exec; have hb := B.bytes; have hr := B.returns
  have hts := atoms_spec (ws := wl yX8_jump cX8_jump 6 (some .int)) B.pre
  have htb : ∀ w ∈ tb, w.before _ s = true := fun w h => hts w (List.mem_cons_of_mem _ h)
  have hown : s.vm.findClass RX8 = some m.cls := findClass_of_methodNamed B.named
  have hlocks := B.notSynchronized
  have hP : va_P D vwCl [(xh, .inr (8, G8 xa xtrialRule xdropRule xtoday)), ((xa 1), .inl (E 0, 16, .inl xf1)), ((xa 3), .inl (E 3, 16, .inr (.inr (.inr (.inr xf3)))))] s.heap := hP
  have hl := lv_entry ([.ref xh, .int p0, .int p1, .int p2, .int p3]) (n := 6) (Nat.le_of_ble_eq_true rfl)
  rw [lg_entry_eq]
  generalize (lg_sl ([.ref xh, .int p0, .int p1, .int p2, .int p3]) ++ List.replicate (6 - (lg_sl ([.ref xh, .int p0, .int p1, .int p2, .int p3])).length) Slot.unset).toArray = ls at hl ⊢
  have hl : lv_has ls 6 [(0, .ref xh), (1, .int p0), (2, .int p1), (3, .int p2), (4, .int p3)] := hl
  have lo_p0 := i_lo p0; have hi_p0 := i_hi p0
  have lo_p1 := i_lo p1; have hi_p1 := i_hi p1
  have lo_p2 := i_lo p2; have hi_p2 := i_hi p2
  have lo_p3 := i_lo p3; have hi_p3 := i_hi p3
  refine lv_iload hx hb dX8_jump_0 (lv_at hl 4 rfl) ?_
  refine lv_if_lt (tgt := 13) hx hb dX8_jump_2 (by decide) (fun c_1 => ?_) (fun c_1 => ?_)
  ·
    have ic_1 : p3.toInt < 0 := by first | exact (g_lt rfl t_0).mp c_1 | (have h := mt (g_le t_0 rfl).mpr c_1; omega)
    clear c_1
    refine lv_iconst (v := (-1)) hx hb dX8_jump_13 (by decide) ?_
    exact W.iret (v := (-1)) hx hb hr (fun t ht hW => ⟨(-1), rfl, (Or.inl ⟨by have hl0 := t_m1; omega, by omega⟩), ht⟩) (fun q h => by cases h) dX8_jump_14
  ·
    have ic_1 : 0 ≤ p3.toInt := by first | exact (g_le t_0 rfl).mp c_1 | (have h := mt (g_lt rfl t_0).mpr c_1; omega)
    clear c_1
    refine lv_iload hx hb dX8_jump_5 (lv_at hl 4 rfl) ?_
    refine lv_sipush (v := 2000) hx hb dX8_jump_7 (by decide) ?_
    refine lv_icmp_le (tgt := 15) hx hb dX8_jump_10 (by decide) (fun c_2 => ?_) (fun c_2 => ?_)
    ·
      have ic_2 : p3.toInt ≤ 2000 := by first | exact (g_le rfl t_2000).mp c_2 | (have h := mt (g_lt t_2000 rfl).mpr c_2; omega)
      clear c_2
      refine lv_aload_n hx hb dX8_jump_15 rfl (lv_at hl 0 rfl) ?_
      refine lv_iload_n hx hb dX8_jump_16 rfl (lv_at hl 1 rfl) ?_
      refine lv_iload_n hx hb dX8_jump_17 rfl (lv_at hl 2 rfl) ?_
      refine lv_iload_n hx hb dX8_jump_18 rfl (lv_at hl 3 rfl) ?_
      refine callRV (rest := []) (As := [.int p0, .int p1, .int p2]) hx hb hml hown htb hK (g_X8_refusalOfStretch_N l D E xh xa xtrialRule xdropRule xtoday xf1 xf3 p0 p1 p2 (by (try dsimp only); omega) hn0) ok_X8_refusalOfStretch k_486 k_488 ks_5 k_1 k_489 ⟨(Nat.le_of_ble_eq_true rfl), (Nat.le_of_ble_eq_true rfl)⟩ ⟨(Nat.le_of_ble_eq_true rfl), (Nat.le_of_ble_eq_true rfl)⟩ hl.1 (Nat.le_of_ble_eq_true rfl) rfl rfl dX8_jump_19 (hP.sub (ws' := [(xh, .inr (8, G8 xa xtrialRule xdropRule xtoday)), ((xa 1), .inl (E 0, 16, .inl xf1)), ((xa 3), .inl (E 3, 16, .inr (.inr (.inr (.inr xf3)))))]) [0, 1, 2] rfl) rfl rfl 0 rfl (fun r_3 hw_4 => ?_)
      refine lv_istore (lv' := [(5, .int r_3), (0, .ref xh), (1, .int p0), (2, .int p1), (3, .int p2), (4, .int p3)]) hx hb dX8_jump_22 hl (by decide) rfl (fun ls hl => ?_)
      refine lv_iload hx hb dX8_jump_24 (lv_at hl 0 rfl) ?_
      refine lv_if_eq (tgt := 32) hx hb dX8_jump_26 (by decide) (fun c_6 => ?_) (fun c_6 => ?_)
      ·
        have ic_6 : r_3.toInt = 0 := (g_eq rfl t_0).mp c_6
        clear c_6
        refine lv_aload_n hx hb dX8_jump_32 rfl (lv_at hl 1 rfl) ?_
        refine va_get (D := D) (ci := 8) (v := .ref (xa 7)) (C := RX8) (T := TX8) (N := 14) hx hb htb iX8 hown hK.1 hP 0 rfl rfl 7 (by decide) (htb _ k_279) (fun _ h9 => h9) rfl dX8_jump_33 ?_
        refine lv_aload_n hx hb dX8_jump_36 rfl (lv_at hl 1 rfl) ?_
        refine lv_iload_n hx hb dX8_jump_37 rfl (lv_at hl 2 rfl) ?_
        refine rn_call (runRV (rest := [.ref (xa 7)]) (As := [.int p0]) hx hb hml hown htb (g_X8_watchAt_N l D E xh xa xtrialRule xdropRule xtoday xf1 xf3 p0 (by (try dsimp only); omega) hn0) ok_X8_watchAt k_369 k_371 ks_1 k_1 k_372 ⟨(Nat.le_of_ble_eq_true rfl), (Nat.le_of_ble_eq_true rfl)⟩ ⟨(Nat.le_of_ble_eq_true rfl), (Nat.le_of_ble_eq_true rfl)⟩ hl.1 (Nat.le_of_ble_eq_true rfl) rfl rfl dX8_jump_38 (prV (hP.sub (ws' := [(xh, .inr (8, G8 xa xtrialRule xdropRule xtoday)), ((xa 1), .inl (E 0, 16, .inl xf1)), ((xa 3), .inl (E 3, 16, .inr (.inr (.inr (.inr xf3)))))]) [0, 1, 2] rfl) hK rfl rfl 0 rfl)) ?_
        refine lv_aload_n hx hb dX8_jump_41 rfl (lv_at hl 1 rfl) ?_
        refine va_get (D := D) (ci := 8) (v := .ref (xa 6)) (C := RX8) (T := TX8) (N := 14) hx hb htb iX8 hown hK.1 hP 0 rfl rfl 6 (by decide) (htb _ k_278) (fun _ h9 => h9) rfl dX8_jump_42 ?_
        refine lv_iload_n hx hb dX8_jump_45 rfl (lv_at hl 3 rfl) ?_
        refine lv_iload_n hx hb dX8_jump_46 rfl (lv_at hl 4 rfl) ?_
        exfalso; omega
      ·
        have ic_6 : r_3.toInt ≠ 0 := mt (g_eq rfl t_0).mpr c_6
        clear c_6
        refine lv_iload hx hb dX8_jump_29 (lv_at hl 0 rfl) ?_
        exact W.iret (v := r_3) hx hb hr (fun t ht hW => ⟨r_3, rfl, (by rcases hw_4 with h9 | h9 <;> first | (exfalso; omega) | exact Or.inl ⟨by omega, by omega⟩ | exact Or.inr ⟨by omega, by omega⟩), ht⟩) (fun q h => by cases h) dX8_jump_31
    ·
      have ic_2 : 2000 < p3.toInt := by first | exact (g_lt t_2000 rfl).mp c_2 | (have h := mt (g_le rfl t_2000).mpr c_2; omega)
      clear c_2
      refine lv_iconst (v := (-1)) hx hb dX8_jump_13 (by decide) ?_
      exact W.iret (v := (-1)) hx hb hr (fun t ht hW => ⟨(-1), rfl, (Or.inl ⟨by have hl0 := t_m1; omega, by omega⟩), ht⟩) (fun q h => by cases h) dX8_jump_14
set_option maxHeartbeats 4000000 in
set_option maxRecDepth 100000 in
theorem g_X8_jump_W (l : Launch) (D : va_G) (E : Nat → Nat) (xh : Nat) (xa : Nat → Nat) (xtrialRule : Nat) (xdropRule : Nat) (xtoday : Int32) (xf1 : Nat → Int32) (xf3 : Nat → Option Nat) (wh : Nat) (wa : Nat → Nat) (wf0 : Nat → Int32) (wf1 : Nat → Int32) (wf2 : Nat → Int32) (oa : Nat → Nat) (osize : Int32) (of0 : Nat → Int32) (of1 : Nat → Int32) (of2 : Nat → Int32) (of3 : Nat → Int32) (of4 : Nat → Int32) (ra : Nat → Nat) (rsize : Int32) (rf0 : Nat → Int32) (rf1 : Nat → Int32) (rf2 : Nat → Int32) (p0 : Int32) (p1 : Int32) (p2 : Int32) (p3 : Int32) (sz : Nat) (hi_x : (0 ≤ xtoday.toInt ∧ xtoday.toInt ≤ 399)) (hi_o : (0 ≤ osize.toInt ∧ osize.toInt ≤ 60)) (hi_r : (0 ≤ rsize.toInt ∧ rsize.toInt ≤ 60)) (hr_r0 : ∀ k : Nat, k < 60 → 0 ≤ (rf0 k).toInt ∧ (rf0 k).toInt ≤ 399) (hk0 : (0 ≤ p0.toInt ∧ p0.toInt ≤ 15 ∧ ((xf1 (p0).toNatClampNeg).toInt = 0 ∨ (xf1 (p0).toNatClampNeg).toInt = 1))) (hw0 : xf3 (p0).toNatClampNeg = some wh) : Met l yX8_jump (wl yX8_jump cX8_jump 6 (some .int)) (RM 4 0 0) (mu_P D E [.ref xh, .int p0, .int p1, .int p2, .int p3] [(xh, .inr (8, G8 xa xtrialRule xdropRule xtoday)), ((xa 1), .inl (E 0, 16, .inl xf1)), ((xa 3), .inl (E 3, 16, .inr (.inr (.inr (.inr xf3))))), (wh, .inr (7, G7 wa)), ((wa 0), .inl (E 0, 400, .inl wf0)), ((wa 1), .inl (E 0, 400, .inl wf1)), ((wa 2), .inl (E 0, 400, .inl wf2)), ((xa 6), .inr (2, G2 oa osize)), ((oa 0), .inl (E 0, 60, .inl of0)), ((oa 1), .inl (E 0, 60, .inl of1)), ((oa 2), .inl (E 0, 60, .inl of2)), ((oa 3), .inl (E 0, 60, .inl of3)), ((oa 4), .inl (E 0, 60, .inl of4)), ((xa 7), .inr (3, G3 ra rsize)), ((ra 0), .inl (E 0, 60, .inl rf0)), ((ra 1), .inl (E 0, 60, .inl rf1)), ((ra 2), .inl (E 0, 60, .inl rf2))] sz) (va_Qi (fun (r : Int32) (u : (Nat → Int32) × (Nat → Int32) × (Nat → Int32) × (Int32)) => (∀ k : Nat, k < 60 → 0 ≤ (u.1 k).toInt ∧ (u.1 k).toInt ≤ 399) ∧ (0 ≤ u.2.2.2.toInt ∧ u.2.2.2.toInt ≤ 60) ∧ ((r.toInt = -1 ∧ ¬ ((0 ≤ p3.toInt ∧ p3.toInt ≤ 2000) ∧ (0 ≤ p1.toInt ∧ p2.toInt ≤ 399 ∧ p1.toInt < p2.toInt ∧ p2.toInt - p1.toInt ≤ 60))) ∨ (((0 ≤ p3.toInt ∧ p3.toInt ≤ 2000) ∧ (0 ≤ p1.toInt ∧ p2.toInt ≤ 399 ∧ p1.toInt < p2.toInt ∧ p2.toInt - p1.toInt ≤ 60)) ∧ r.toInt = jmpR (rateL (rXn wf0 wf1 wf2 of0 of1 of2 of3 of4 osize) p1 (p2.toInt - p1.toInt).toNat) p3))) (mu_B D (va_A [(xh, .inr (8, G8 xa xtrialRule xdropRule xtoday)), ((xa 1), .inl (E 0, 16, .inl xf1)), ((xa 3), .inl (E 3, 16, .inr (.inr (.inr (.inr xf3))))), (wh, .inr (7, G7 wa)), ((wa 0), .inl (E 0, 400, .inl wf0)), ((wa 1), .inl (E 0, 400, .inl wf1)), ((wa 2), .inl (E 0, 400, .inl wf2)), ((xa 6), .inr (2, G2 oa osize)), ((oa 0), .inl (E 0, 60, .inl of0)), ((oa 1), .inl (E 0, 60, .inl of1)), ((oa 2), .inl (E 0, 60, .inl of2)), ((oa 3), .inl (E 0, 60, .inl of3)), ((oa 4), .inl (E 0, 60, .inl of4)), ((xa 7), .inr (3, G3 ra rsize)), ((ra 0), .inl (E 0, 60, .inl rf0)), ((ra 1), .inl (E 0, 60, .inl rf1)), ((ra 2), .inl (E 0, 60, .inl rf2))] sz) (fun (u : (Nat → Int32) × (Nat → Int32) × (Nat → Int32) × (Int32)) => [(xh, .inr (8, G8 xa xtrialRule xdropRule xtoday)), ((xa 1), .inl (E 0, 16, .inl xf1)), ((xa 3), .inl (E 3, 16, .inr (.inr (.inr (.inr xf3))))), (wh, .inr (7, G7 wa)), ((wa 0), .inl (E 0, 400, .inl wf0)), ((wa 1), .inl (E 0, 400, .inl wf1)), ((wa 2), .inl (E 0, 400, .inl wf2)), ((xa 6), .inr (2, G2 oa osize)), ((oa 0), .inl (E 0, 60, .inl of0)), ((oa 1), .inl (E 0, 60, .inl of1)), ((oa 2), .inl (E 0, 60, .inl of2)), ((oa 3), .inl (E 0, 60, .inl of3)), ((oa 4), .inl (E 0, 60, .inl of4)), ((xa 7), .inr (3, G3 ra u.2.2.2)), ((ra 0), .inl (E 0, 60, .inl u.1)), ((ra 1), .inl (E 0, 60, .inl u.2.1)), ((ra 2), .inl (E 0, 60, .inl u.2.2.1))])) (va_A [(xh, .inr (8, G8 xa xtrialRule xdropRule xtoday)), ((xa 1), .inl (E 0, 16, .inl xf1)), ((xa 3), .inl (E 3, 16, .inr (.inr (.inr (.inr xf3))))), (wh, .inr (7, G7 wa)), ((wa 0), .inl (E 0, 400, .inl wf0)), ((wa 1), .inl (E 0, 400, .inl wf1)), ((wa 2), .inl (E 0, 400, .inl wf2)), ((xa 6), .inr (2, G2 oa osize)), ((oa 0), .inl (E 0, 60, .inl of0)), ((oa 1), .inl (E 0, 60, .inl of1)), ((oa 2), .inl (E 0, 60, .inl of2)), ((oa 3), .inl (E 0, 60, .inl of3)), ((oa 4), .inl (E 0, 60, .inl of4)), ((xa 7), .inr (3, G3 ra rsize)), ((ra 0), .inl (E 0, 60, .inl rf0)), ((ra 1), .inl (E 0, 60, .inl rf1)), ((ra 2), .inl (E 0, 60, .inl rf2))] sz)) 0 0 (va_A [(xh, .inr (8, G8 xa xtrialRule xdropRule xtoday)), ((xa 1), .inl (E 0, 16, .inl xf1)), ((xa 3), .inl (E 3, 16, .inr (.inr (.inr (.inr xf3))))), (wh, .inr (7, G7 wa)), ((wa 0), .inl (E 0, 400, .inl wf0)), ((wa 1), .inl (E 0, 400, .inl wf1)), ((wa 2), .inl (E 0, 400, .inl wf2)), ((xa 6), .inr (2, G2 oa osize)), ((oa 0), .inl (E 0, 60, .inl of0)), ((oa 1), .inl (E 0, 60, .inl of1)), ((oa 2), .inl (E 0, 60, .inl of2)), ((oa 3), .inl (E 0, 60, .inl of3)), ((oa 4), .inl (E 0, 60, .inl of4)), ((xa 7), .inr (3, G3 ra rsize)), ((ra 0), .inl (E 0, 60, .inl rf0)), ((ra 1), .inl (E 0, 60, .inl rf1)), ((ra 2), .inl (E 0, 60, .inl rf2))] sz) := by
  refine Met.ofW (cc := cX8_jump) (maxL := 6) (ret := (some .int)) (by decide) rfl ?_
  intro p e s m args below meth c s₁ B hml hv
  obtain ⟨rfl, hsz, hP, hK, hD0⟩ := hv
  have hx := B.exec; have hb := B.bytes; have hr := B.returns
  have hts := atoms_spec (ws := wl yX8_jump cX8_jump 6 (some .int)) B.pre
  have htb : ∀ w ∈ tb, w.before _ s = true := fun w h => hts w (List.mem_cons_of_mem _ h)
  have hown : s.vm.findClass RX8 = some m.cls := findClass_of_methodNamed B.named
  have hlocks := B.notSynchronized
  subst hsz
  have hD := hD0.self (sz := s.heap.size)
  generalize hAe : va_A [(xh, .inr (8, G8 xa xtrialRule xdropRule xtoday)), ((xa 1), .inl (E 0, 16, .inl xf1)), ((xa 3), .inl (E 3, 16, .inr (.inr (.inr (.inr xf3))))), (wh, .inr (7, G7 wa)), ((wa 0), .inl (E 0, 400, .inl wf0)), ((wa 1), .inl (E 0, 400, .inl wf1)), ((wa 2), .inl (E 0, 400, .inl wf2)), ((xa 6), .inr (2, G2 oa osize)), ((oa 0), .inl (E 0, 60, .inl of0)), ((oa 1), .inl (E 0, 60, .inl of1)), ((oa 2), .inl (E 0, 60, .inl of2)), ((oa 3), .inl (E 0, 60, .inl of3)), ((oa 4), .inl (E 0, 60, .inl of4)), ((xa 7), .inr (3, G3 ra rsize)), ((ra 0), .inl (E 0, 60, .inl rf0)), ((ra 1), .inl (E 0, 60, .inl rf1)), ((ra 2), .inl (E 0, 60, .inl rf2))] s.heap.size = A at hD ⊢
  have hA : ∀ q : Nat, s.heap.size ≤ q → A q := fun q h => by rw [← hAe]; exact Or.inr h
  have hS : va_S A s.heap s.heap [] := va_S.rf
  have hP : va_P D vwCl [(xh, .inr (8, G8 xa xtrialRule xdropRule xtoday)), ((xa 1), .inl (E 0, 16, .inl xf1)), ((xa 3), .inl (E 3, 16, .inr (.inr (.inr (.inr xf3))))), (wh, .inr (7, G7 wa)), ((wa 0), .inl (E 0, 400, .inl wf0)), ((wa 1), .inl (E 0, 400, .inl wf1)), ((wa 2), .inl (E 0, 400, .inl wf2)), ((xa 6), .inr (2, G2 oa osize)), ((oa 0), .inl (E 0, 60, .inl of0)), ((oa 1), .inl (E 0, 60, .inl of1)), ((oa 2), .inl (E 0, 60, .inl of2)), ((oa 3), .inl (E 0, 60, .inl of3)), ((oa 4), .inl (E 0, 60, .inl of4)), ((xa 7), .inr (3, G3 ra rsize)), ((ra 0), .inl (E 0, 60, .inl rf0)), ((ra 1), .inl (E 0, 60, .inl rf1)), ((ra 2), .inl (E 0, 60, .inl rf2))] s.heap := hP
  have hl := lv_entry ([.ref xh, .int p0, .int p1, .int p2, .int p3]) (n := 6) (Nat.le_of_ble_eq_true rfl)
  rw [lg_entry_eq]
  generalize (lg_sl ([.ref xh, .int p0, .int p1, .int p2, .int p3]) ++ List.replicate (6 - (lg_sl ([.ref xh, .int p0, .int p1, .int p2, .int p3])).length) Slot.unset).toArray = ls at hl ⊢
  have hl : lv_has ls 6 [(0, .ref xh), (1, .int p0), (2, .int p1), (3, .int p2), (4, .int p3)] := hl
  have lo_p0 := i_lo p0; have hi_p0 := i_hi p0
  have lo_p1 := i_lo p1; have hi_p1 := i_hi p1
  have lo_p2 := i_lo p2; have hi_p2 := i_hi p2
  have lo_p3 := i_lo p3; have hi_p3 := i_hi p3
  refine lv_iload hx hb dX8_jump_0 (lv_at hl 4 rfl) ?_
  refine lv_if_lt (tgt := 13) hx hb dX8_jump_2 (by decide) (fun c_1 => ?_) (fun c_1 => ?_)
  ·
    have ic_1 : p3.toInt < 0 := by first | exact (g_lt rfl t_0).mp c_1 | (have h := mt (g_le t_0 rfl).mpr c_1; omega)
    clear c_1
    refine lv_iconst (v := (-1)) hx hb dX8_jump_13 (by decide) ?_
    have hP9 := hP.sub (ws' := [(xh, .inr (8, G8 xa xtrialRule xdropRule xtoday)), ((xa 1), .inl (E 0, 16, .inl xf1)), ((xa 3), .inl (E 3, 16, .inr (.inr (.inr (.inr xf3))))), (wh, .inr (7, G7 wa)), ((wa 0), .inl (E 0, 400, .inl wf0)), ((wa 1), .inl (E 0, 400, .inl wf1)), ((wa 2), .inl (E 0, 400, .inl wf2)), ((xa 6), .inr (2, G2 oa osize)), ((oa 0), .inl (E 0, 60, .inl of0)), ((oa 1), .inl (E 0, 60, .inl of1)), ((oa 2), .inl (E 0, 60, .inl of2)), ((oa 3), .inl (E 0, 60, .inl of3)), ((oa 4), .inl (E 0, 60, .inl of4)), ((xa 7), .inr (3, G3 ra rsize)), ((ra 0), .inl (E 0, 60, .inl rf0)), ((ra 1), .inl (E 0, 60, .inl rf1)), ((ra 2), .inl (E 0, 60, .inl rf2))]) [0, 1, 2, 3, 4, 5, 6, 7, 8, 9, 10, 11, 12, 13, 14, 15, 16] rfl
    have hD9 := hD.sub (ws' := [(xh, .inr (8, G8 xa xtrialRule xdropRule xtoday)), ((xa 1), .inl (E 0, 16, .inl xf1)), ((xa 3), .inl (E 3, 16, .inr (.inr (.inr (.inr xf3))))), (wh, .inr (7, G7 wa)), ((wa 0), .inl (E 0, 400, .inl wf0)), ((wa 1), .inl (E 0, 400, .inl wf1)), ((wa 2), .inl (E 0, 400, .inl wf2)), ((xa 6), .inr (2, G2 oa osize)), ((oa 0), .inl (E 0, 60, .inl of0)), ((oa 1), .inl (E 0, 60, .inl of1)), ((oa 2), .inl (E 0, 60, .inl of2)), ((oa 3), .inl (E 0, 60, .inl of3)), ((oa 4), .inl (E 0, 60, .inl of4)), ((xa 7), .inr (3, G3 ra rsize)), ((ra 0), .inl (E 0, 60, .inl rf0)), ((ra 1), .inl (E 0, 60, .inl rf1)), ((ra 2), .inl (E 0, 60, .inl rf2))]) [0, 1, 2, 3, 4, 5, 6, 7, 8, 9, 10, 11, 12, 13, 14, 15, 16] (by decide) rfl
    exact W.iret (v := (-1)) hx hb hr (fun t ht hW => ⟨⟨(-1), (rf0, rf1, rf2, rsize), rfl, ⟨hr_r0, (by (try dsimp only); omega), (Or.inl ⟨by have hl0 := t_m1; omega, by omega⟩)⟩, by rw [ht]; exact hP9, hD9⟩, hS.F ht⟩) hS.2.2 dX8_jump_14
  ·
    have ic_1 : 0 ≤ p3.toInt := by first | exact (g_le t_0 rfl).mp c_1 | (have h := mt (g_lt rfl t_0).mpr c_1; omega)
    clear c_1
    refine lv_iload hx hb dX8_jump_5 (lv_at hl 4 rfl) ?_
    refine lv_sipush (v := 2000) hx hb dX8_jump_7 (by decide) ?_
    refine lv_icmp_le (tgt := 15) hx hb dX8_jump_10 (by decide) (fun c_2 => ?_) (fun c_2 => ?_)
    ·
      have ic_2 : p3.toInt ≤ 2000 := by first | exact (g_le rfl t_2000).mp c_2 | (have h := mt (g_lt t_2000 rfl).mpr c_2; omega)
      clear c_2
      refine lv_aload_n hx hb dX8_jump_15 rfl (lv_at hl 0 rfl) ?_
      refine lv_iload_n hx hb dX8_jump_16 rfl (lv_at hl 1 rfl) ?_
      refine lv_iload_n hx hb dX8_jump_17 rfl (lv_at hl 2 rfl) ?_
      refine lv_iload_n hx hb dX8_jump_18 rfl (lv_at hl 3 rfl) ?_
      refine callRV (rest := []) (As := [.int p0, .int p1, .int p2]) hx hb hml hown htb hK (g_X8_refusalOfStretch_W l D E xh xa xtrialRule xdropRule xtoday xf1 xf3 wh wa p0 p1 p2 (by (try dsimp only); omega) hk0 hw0) ok_X8_refusalOfStretch k_486 k_488 ks_5 k_1 k_489 ⟨(Nat.le_of_ble_eq_true rfl), (Nat.le_of_ble_eq_true rfl)⟩ ⟨(Nat.le_of_ble_eq_true rfl), (Nat.le_of_ble_eq_true rfl)⟩ hl.1 (Nat.le_of_ble_eq_true rfl) rfl rfl dX8_jump_19 (hP.sub (ws' := [(xh, .inr (8, G8 xa xtrialRule xdropRule xtoday)), ((xa 1), .inl (E 0, 16, .inl xf1)), ((xa 3), .inl (E 3, 16, .inr (.inr (.inr (.inr xf3))))), (wh, .inr (7, G7 wa))]) [0, 1, 2, 3] rfl) rfl rfl 0 rfl (fun r_3 hw_4 => ?_)
      refine lv_istore (lv' := [(5, .int r_3), (0, .ref xh), (1, .int p0), (2, .int p1), (3, .int p2), (4, .int p3)]) hx hb dX8_jump_22 hl (by decide) rfl (fun ls hl => ?_)
      refine lv_iload hx hb dX8_jump_24 (lv_at hl 0 rfl) ?_
      refine lv_if_eq (tgt := 32) hx hb dX8_jump_26 (by decide) (fun c_6 => ?_) (fun c_6 => ?_)
      ·
        have ic_6 : r_3.toInt = 0 := (g_eq rfl t_0).mp c_6
        clear c_6
        refine lv_aload_n hx hb dX8_jump_32 rfl (lv_at hl 1 rfl) ?_
        refine va_get (D := D) (ci := 8) (v := .ref (xa 7)) (C := RX8) (T := TX8) (N := 14) hx hb htb iX8 hown hK.1 hP 0 rfl rfl 7 (by decide) (htb _ k_279) (fun _ h9 => h9) rfl dX8_jump_33 ?_
        refine lv_aload_n hx hb dX8_jump_36 rfl (lv_at hl 1 rfl) ?_
        refine lv_iload_n hx hb dX8_jump_37 rfl (lv_at hl 2 rfl) ?_
        refine rr_call (runRV (rest := [.ref (xa 7)]) (As := [.int p0]) hx hb hml hown htb (g_X8_watchAt_W l D E xh xa xtrialRule xdropRule xtoday xf1 xf3 wh wa p0 (by (try dsimp only); omega) hk0 hw0) ok_X8_watchAt k_369 k_371 ks_1 k_1 k_372 ⟨(Nat.le_of_ble_eq_true rfl), (Nat.le_of_ble_eq_true rfl)⟩ ⟨(Nat.le_of_ble_eq_true rfl), (Nat.le_of_ble_eq_true rfl)⟩ hl.1 (Nat.le_of_ble_eq_true rfl) rfl rfl dX8_jump_38 (prV (hP.sub (ws' := [(xh, .inr (8, G8 xa xtrialRule xdropRule xtoday)), ((xa 1), .inl (E 0, 16, .inl xf1)), ((xa 3), .inl (E 3, 16, .inr (.inr (.inr (.inr xf3))))), (wh, .inr (7, G7 wa))]) [0, 1, 2, 3] rfl) hK rfl rfl 0 rfl)) ?_
        refine lv_aload_n hx hb dX8_jump_41 rfl (lv_at hl 1 rfl) ?_
        refine va_get (D := D) (ci := 8) (v := .ref (xa 6)) (C := RX8) (T := TX8) (N := 14) hx hb htb iX8 hown hK.1 hP 0 rfl rfl 6 (by decide) (htb _ k_278) (fun _ h9 => h9) rfl dX8_jump_42 ?_
        refine lv_iload_n hx hb dX8_jump_45 rfl (lv_at hl 3 rfl) ?_
        refine lv_iload_n hx hb dX8_jump_46 rfl (lv_at hl 4 rfl) ?_
        have hPc := hP.sub (ws' := [((xa 7), .inr (3, G3 ra rsize)), ((ra 0), .inl (E 0, 60, .inl rf0)), ((ra 1), .inl (E 0, 60, .inl rf1)), (wh, .inr (7, G7 wa)), ((wa 0), .inl (E 0, 400, .inl wf0)), ((wa 1), .inl (E 0, 400, .inl wf1)), ((wa 2), .inl (E 0, 400, .inl wf2)), ((xa 6), .inr (2, G2 oa osize)), ((oa 0), .inl (E 0, 60, .inl of0)), ((oa 1), .inl (E 0, 60, .inl of1)), ((oa 2), .inl (E 0, 60, .inl of2)), ((oa 3), .inl (E 0, 60, .inl of3)), ((oa 4), .inl (E 0, 60, .inl of4))]) [13, 14, 15, 3, 4, 5, 6, 7, 8, 9, 10, 11, 12] rfl
        have hDc := hD.sub (ws' := [((xa 7), .inr (3, G3 ra rsize)), ((ra 0), .inl (E 0, 60, .inl rf0)), ((ra 1), .inl (E 0, 60, .inl rf1)), (wh, .inr (7, G7 wa)), ((wa 0), .inl (E 0, 400, .inl wf0)), ((wa 1), .inl (E 0, 400, .inl wf1)), ((wa 2), .inl (E 0, 400, .inl wf2)), ((xa 6), .inr (2, G2 oa osize)), ((oa 0), .inl (E 0, 60, .inl of0)), ((oa 1), .inl (E 0, 60, .inl of1)), ((oa 2), .inl (E 0, 60, .inl of2)), ((oa 3), .inl (E 0, 60, .inl of3)), ((oa 4), .inl (E 0, 60, .inl of4))]) [13, 14, 15, 3, 4, 5, 6, 7, 8, 9, 10, 11, 12] (by decide) rfl
        refine aft_v (runMV (rest := []) (As := [.ref wh, .ref (xa 6), .int p1, .int p2]) hx hb hml hown htb hK (g_X3_gather l D E (xa 7) ra rsize rf0 rf1 wh wa wf0 wf1 wf2 (xa 6) oa osize of0 of1 of2 of3 of4 p1 p2 _ (by (try dsimp only); omega) hr_r0 (by (try dsimp only); omega) (by (try dsimp only); omega)) ok_X3_gather k_498 k_499 k_500 k_3 k_501 ⟨(Nat.le_of_ble_eq_true rfl), (Nat.le_of_ble_eq_true rfl)⟩ ⟨(Nat.le_of_ble_eq_true rfl), (Nat.le_of_ble_eq_true rfl)⟩ hl.1 (Nat.le_of_ble_eq_true rfl) rfl rfl dX8_jump_47 hPc hDc rfl rfl 0 rfl) hP hD hS hA [13, 14, 15, 3, 4, 5, 6, 7, 8, 9, 10, 11, 12] [0, 1, 2, 16] (wr := [(xh, .inr (8, G8 xa xtrialRule xdropRule xtoday)), ((xa 1), .inl (E 0, 16, .inl xf1)), ((xa 3), .inl (E 3, 16, .inr (.inr (.inr (.inr xf3))))), ((ra 2), .inl (E 0, 60, .inl rf2))]) rfl rfl (by decide) (by decide) (fun u_12 H locs hw_11 hP hD hS => ?_)
        clear hPc hDc
        obtain ⟨w_13, w_14, w_15⟩ := u_12
        try dsimp only at hw_11
        have hP : va_P D vwCl [(xh, .inr (8, G8 xa xtrialRule xdropRule xtoday)), ((xa 1), .inl (E 0, 16, .inl xf1)), ((xa 3), .inl (E 3, 16, .inr (.inr (.inr (.inr xf3))))), ((ra 2), .inl (E 0, 60, .inl rf2)), ((xa 7), .inr (3, G3 ra w_15)), ((ra 0), .inl (E 0, 60, .inl w_13)), ((ra 1), .inl (E 0, 60, .inl w_14)), (wh, .inr (7, G7 wa)), ((wa 0), .inl (E 0, 400, .inl wf0)), ((wa 1), .inl (E 0, 400, .inl wf1)), ((wa 2), .inl (E 0, 400, .inl wf2)), ((xa 6), .inr (2, G2 oa osize)), ((oa 0), .inl (E 0, 60, .inl of0)), ((oa 1), .inl (E 0, 60, .inl of1)), ((oa 2), .inl (E 0, 60, .inl of2)), ((oa 3), .inl (E 0, 60, .inl of3)), ((oa 4), .inl (E 0, 60, .inl of4))] H := hP
        have hD := toW hP hD rfl
        obtain ⟨hw_11_0, hw_11_1, hw_11_2⟩ := hw_11
        refine lv_aload_n hx hb dX8_jump_50 rfl (lv_at hl 1 rfl) ?_
        refine va_get (D := D) (ci := 8) (v := .ref (xa 7)) (C := RX8) (T := TX8) (N := 14) hx hb htb iX8 hown hK.1 hP 0 rfl rfl 7 (by decide) (htb _ k_279) (fun _ h9 => h9) rfl dX8_jump_51 ?_
        refine lv_iload hx hb dX8_jump_54 (lv_at hl 5 rfl) ?_
        have hPc := hP.sub (ws' := [((xa 7), .inr (3, G3 ra w_15)), ((ra 0), .inl (E 0, 60, .inl w_13)), ((ra 1), .inl (E 0, 60, .inl w_14)), ((ra 2), .inl (E 0, 60, .inl rf2))]) [4, 5, 6, 3] rfl
        have hDc := hD.sub (ws' := [((xa 7), .inr (3, G3 ra w_15)), ((ra 0), .inl (E 0, 60, .inl w_13)), ((ra 1), .inl (E 0, 60, .inl w_14)), ((ra 2), .inl (E 0, 60, .inl rf2))]) [4, 5, 6, 3] (by decide) rfl
        refine aft_i (runMV (rest := []) (As := [.int p3]) hx hb hml hown htb hK (g_X3_dayFarthestOff l D E (xa 7) ra w_15 w_13 w_14 rf2 p3 _ (by (try dsimp only); omega) hw_11_0) ok_X3_dayFarthestOff k_562 k_563 k_564 k_3 k_565 ⟨(Nat.le_of_ble_eq_true rfl), (Nat.le_of_ble_eq_true rfl)⟩ ⟨(Nat.le_of_ble_eq_true rfl), (Nat.le_of_ble_eq_true rfl)⟩ hl.1 (Nat.le_of_ble_eq_true rfl) rfl rfl dX8_jump_56 hPc hDc rfl rfl 0 rfl) hP hD hS hA [4, 5, 6, 3] [0, 1, 2, 7, 8, 9, 10, 11, 12, 13, 14, 15, 16] (wr := [(xh, .inr (8, G8 xa xtrialRule xdropRule xtoday)), ((xa 1), .inl (E 0, 16, .inl xf1)), ((xa 3), .inl (E 3, 16, .inr (.inr (.inr (.inr xf3))))), (wh, .inr (7, G7 wa)), ((wa 0), .inl (E 0, 400, .inl wf0)), ((wa 1), .inl (E 0, 400, .inl wf1)), ((wa 2), .inl (E 0, 400, .inl wf2)), ((xa 6), .inr (2, G2 oa osize)), ((oa 0), .inl (E 0, 60, .inl of0)), ((oa 1), .inl (E 0, 60, .inl of1)), ((oa 2), .inl (E 0, 60, .inl of2)), ((oa 3), .inl (E 0, 60, .inl of3)), ((oa 4), .inl (E 0, 60, .inl of4))]) rfl rfl (by decide) (by decide) (fun r_16 u_18 H locs hw_17 hP hD hS => ?_)
        clear hPc hDc
        have hP : va_P D vwCl [(xh, .inr (8, G8 xa xtrialRule xdropRule xtoday)), ((xa 1), .inl (E 0, 16, .inl xf1)), ((xa 3), .inl (E 3, 16, .inr (.inr (.inr (.inr xf3))))), (wh, .inr (7, G7 wa)), ((wa 0), .inl (E 0, 400, .inl wf0)), ((wa 1), .inl (E 0, 400, .inl wf1)), ((wa 2), .inl (E 0, 400, .inl wf2)), ((xa 6), .inr (2, G2 oa osize)), ((oa 0), .inl (E 0, 60, .inl of0)), ((oa 1), .inl (E 0, 60, .inl of1)), ((oa 2), .inl (E 0, 60, .inl of2)), ((oa 3), .inl (E 0, 60, .inl of3)), ((oa 4), .inl (E 0, 60, .inl of4)), ((xa 7), .inr (3, G3 ra w_15)), ((ra 0), .inl (E 0, 60, .inl w_13)), ((ra 1), .inl (E 0, 60, .inl w_14)), ((ra 2), .inl (E 0, 60, .inl u_18))] H := hP
        have hD := toW hP hD rfl
        have hP9 := hP.sub (ws' := [(xh, .inr (8, G8 xa xtrialRule xdropRule xtoday)), ((xa 1), .inl (E 0, 16, .inl xf1)), ((xa 3), .inl (E 3, 16, .inr (.inr (.inr (.inr xf3))))), (wh, .inr (7, G7 wa)), ((wa 0), .inl (E 0, 400, .inl wf0)), ((wa 1), .inl (E 0, 400, .inl wf1)), ((wa 2), .inl (E 0, 400, .inl wf2)), ((xa 6), .inr (2, G2 oa osize)), ((oa 0), .inl (E 0, 60, .inl of0)), ((oa 1), .inl (E 0, 60, .inl of1)), ((oa 2), .inl (E 0, 60, .inl of2)), ((oa 3), .inl (E 0, 60, .inl of3)), ((oa 4), .inl (E 0, 60, .inl of4)), ((xa 7), .inr (3, G3 ra w_15)), ((ra 0), .inl (E 0, 60, .inl w_13)), ((ra 1), .inl (E 0, 60, .inl w_14)), ((ra 2), .inl (E 0, 60, .inl u_18))]) [0, 1, 2, 3, 4, 5, 6, 7, 8, 9, 10, 11, 12, 13, 14, 15, 16] rfl
        have hD9 := hD.sub (ws' := [(xh, .inr (8, G8 xa xtrialRule xdropRule xtoday)), ((xa 1), .inl (E 0, 16, .inl xf1)), ((xa 3), .inl (E 3, 16, .inr (.inr (.inr (.inr xf3))))), (wh, .inr (7, G7 wa)), ((wa 0), .inl (E 0, 400, .inl wf0)), ((wa 1), .inl (E 0, 400, .inl wf1)), ((wa 2), .inl (E 0, 400, .inl wf2)), ((xa 6), .inr (2, G2 oa osize)), ((oa 0), .inl (E 0, 60, .inl of0)), ((oa 1), .inl (E 0, 60, .inl of1)), ((oa 2), .inl (E 0, 60, .inl of2)), ((oa 3), .inl (E 0, 60, .inl of3)), ((oa 4), .inl (E 0, 60, .inl of4)), ((xa 7), .inr (3, G3 ra w_15)), ((ra 0), .inl (E 0, 60, .inl w_13)), ((ra 1), .inl (E 0, 60, .inl w_14)), ((ra 2), .inl (E 0, 60, .inl u_18))]) [0, 1, 2, 3, 4, 5, 6, 7, 8, 9, 10, 11, 12, 13, 14, 15, 16] (by decide) rfl
        exact W.iret (v := r_16) hx hb hr (fun t ht hW => ⟨⟨r_16, (w_13, w_14, u_18, w_15), rfl, ⟨hw_11_0, (by (try dsimp only); omega), (Or.inr ⟨by have h9 := hw_4; omega, (by rcases hw_17 with h9 | ⟨h9, m9, h7, h6⟩; { exact jmp_ofX (m := 0) hw_11_2 (by omega) (fun i hi => by have h8 := hw_11_2.1; exact (hw_11_0 i (by omega)).1) (Or.inl h9) }; { exact jmp_ofX (m := m9) hw_11_2 (by omega) (fun i hi => by have h8 := hw_11_2.1; exact (hw_11_0 i (by omega)).1) (Or.inr ⟨h9, h7.trans (mid_of hw_11_2 h9 rfl), h6⟩) })⟩)⟩, by rw [ht]; exact hP9, hD9⟩, hS.F ht⟩) hS.2.2 dX8_jump_59
      ·
        have ic_6 : r_3.toInt ≠ 0 := mt (g_eq rfl t_0).mpr c_6
        clear c_6
        refine lv_iload hx hb dX8_jump_29 (lv_at hl 0 rfl) ?_
        have hP9 := hP.sub (ws' := [(xh, .inr (8, G8 xa xtrialRule xdropRule xtoday)), ((xa 1), .inl (E 0, 16, .inl xf1)), ((xa 3), .inl (E 3, 16, .inr (.inr (.inr (.inr xf3))))), (wh, .inr (7, G7 wa)), ((wa 0), .inl (E 0, 400, .inl wf0)), ((wa 1), .inl (E 0, 400, .inl wf1)), ((wa 2), .inl (E 0, 400, .inl wf2)), ((xa 6), .inr (2, G2 oa osize)), ((oa 0), .inl (E 0, 60, .inl of0)), ((oa 1), .inl (E 0, 60, .inl of1)), ((oa 2), .inl (E 0, 60, .inl of2)), ((oa 3), .inl (E 0, 60, .inl of3)), ((oa 4), .inl (E 0, 60, .inl of4)), ((xa 7), .inr (3, G3 ra rsize)), ((ra 0), .inl (E 0, 60, .inl rf0)), ((ra 1), .inl (E 0, 60, .inl rf1)), ((ra 2), .inl (E 0, 60, .inl rf2))]) [0, 1, 2, 3, 4, 5, 6, 7, 8, 9, 10, 11, 12, 13, 14, 15, 16] rfl
        have hD9 := hD.sub (ws' := [(xh, .inr (8, G8 xa xtrialRule xdropRule xtoday)), ((xa 1), .inl (E 0, 16, .inl xf1)), ((xa 3), .inl (E 3, 16, .inr (.inr (.inr (.inr xf3))))), (wh, .inr (7, G7 wa)), ((wa 0), .inl (E 0, 400, .inl wf0)), ((wa 1), .inl (E 0, 400, .inl wf1)), ((wa 2), .inl (E 0, 400, .inl wf2)), ((xa 6), .inr (2, G2 oa osize)), ((oa 0), .inl (E 0, 60, .inl of0)), ((oa 1), .inl (E 0, 60, .inl of1)), ((oa 2), .inl (E 0, 60, .inl of2)), ((oa 3), .inl (E 0, 60, .inl of3)), ((oa 4), .inl (E 0, 60, .inl of4)), ((xa 7), .inr (3, G3 ra rsize)), ((ra 0), .inl (E 0, 60, .inl rf0)), ((ra 1), .inl (E 0, 60, .inl rf1)), ((ra 2), .inl (E 0, 60, .inl rf2))]) [0, 1, 2, 3, 4, 5, 6, 7, 8, 9, 10, 11, 12, 13, 14, 15, 16] (by decide) rfl
        exact W.iret (v := r_3) hx hb hr (fun t ht hW => ⟨⟨r_3, (rf0, rf1, rf2, rsize), rfl, ⟨hr_r0, (by (try dsimp only); omega), (by rcases hw_4 with h9 | h9 <;> first | (exfalso; omega) | exact Or.inl ⟨by omega, by omega⟩)⟩, by rw [ht]; exact hP9, hD9⟩, hS.F ht⟩) hS.2.2 dX8_jump_31
    ·
      have ic_2 : 2000 < p3.toInt := by first | exact (g_lt t_2000 rfl).mp c_2 | (have h := mt (g_le rfl t_2000).mpr c_2; omega)
      clear c_2
      refine lv_iconst (v := (-1)) hx hb dX8_jump_13 (by decide) ?_
      have hP9 := hP.sub (ws' := [(xh, .inr (8, G8 xa xtrialRule xdropRule xtoday)), ((xa 1), .inl (E 0, 16, .inl xf1)), ((xa 3), .inl (E 3, 16, .inr (.inr (.inr (.inr xf3))))), (wh, .inr (7, G7 wa)), ((wa 0), .inl (E 0, 400, .inl wf0)), ((wa 1), .inl (E 0, 400, .inl wf1)), ((wa 2), .inl (E 0, 400, .inl wf2)), ((xa 6), .inr (2, G2 oa osize)), ((oa 0), .inl (E 0, 60, .inl of0)), ((oa 1), .inl (E 0, 60, .inl of1)), ((oa 2), .inl (E 0, 60, .inl of2)), ((oa 3), .inl (E 0, 60, .inl of3)), ((oa 4), .inl (E 0, 60, .inl of4)), ((xa 7), .inr (3, G3 ra rsize)), ((ra 0), .inl (E 0, 60, .inl rf0)), ((ra 1), .inl (E 0, 60, .inl rf1)), ((ra 2), .inl (E 0, 60, .inl rf2))]) [0, 1, 2, 3, 4, 5, 6, 7, 8, 9, 10, 11, 12, 13, 14, 15, 16] rfl
      have hD9 := hD.sub (ws' := [(xh, .inr (8, G8 xa xtrialRule xdropRule xtoday)), ((xa 1), .inl (E 0, 16, .inl xf1)), ((xa 3), .inl (E 3, 16, .inr (.inr (.inr (.inr xf3))))), (wh, .inr (7, G7 wa)), ((wa 0), .inl (E 0, 400, .inl wf0)), ((wa 1), .inl (E 0, 400, .inl wf1)), ((wa 2), .inl (E 0, 400, .inl wf2)), ((xa 6), .inr (2, G2 oa osize)), ((oa 0), .inl (E 0, 60, .inl of0)), ((oa 1), .inl (E 0, 60, .inl of1)), ((oa 2), .inl (E 0, 60, .inl of2)), ((oa 3), .inl (E 0, 60, .inl of3)), ((oa 4), .inl (E 0, 60, .inl of4)), ((xa 7), .inr (3, G3 ra rsize)), ((ra 0), .inl (E 0, 60, .inl rf0)), ((ra 1), .inl (E 0, 60, .inl rf1)), ((ra 2), .inl (E 0, 60, .inl rf2))]) [0, 1, 2, 3, 4, 5, 6, 7, 8, 9, 10, 11, 12, 13, 14, 15, 16] (by decide) rfl
      exact W.iret (v := (-1)) hx hb hr (fun t ht hW => ⟨⟨(-1), (rf0, rf1, rf2, rsize), rfl, ⟨hr_r0, (by (try dsimp only); omega), (Or.inl ⟨by have hl0 := t_m1; omega, by omega⟩)⟩, by rw [ht]; exact hP9, hD9⟩, hS.F ht⟩) hS.2.2 dX8_jump_14
set_option maxHeartbeats 4000000 in
set_option maxRecDepth 100000 in
theorem g_X8_hasTrial_N (l : Launch) (D : va_G) (E : Nat → Nat) (xh : Nat) (xa : Nat → Nat) (xtrialRule : Nat) (xdropRule : Nat) (xtoday : Int32) (xf1 : Nat → Int32) (xf3 : Nat → Option Nat) (p0 : Int32) (p1 : Int32) (p2 : Int32) (hi_x : (0 ≤ xtoday.toInt ∧ xtoday.toInt ≤ 399)) (hn0 : ¬ (0 ≤ p0.toInt ∧ p0.toInt ≤ 15 ∧ ((xf1 (p0).toNatClampNeg).toInt = 0 ∨ (xf1 (p0).toNatClampNeg).toInt = 1))) : Met l yX8_hasTrial (wl yX8_hasTrial cX8_hasTrial 5 (some .boolean)) (RM 2 0 0) (rd_P D E [.ref xh, .int p0, .int p1, .int p2] [(xh, .inr (8, G8 xa xtrialRule xdropRule xtoday)), ((xa 1), .inl (E 0, 16, .inl xf1)), ((xa 3), .inl (E 3, 16, .inr (.inr (.inr (.inr xf3)))))]) (rd_Q (fun r => (r.toInt = 0))) 0 0 (fun _ => False) := by
  refine Met.ofW (cc := cX8_hasTrial) (maxL := 5) (ret := (some .boolean)) (by decide) rfl ?_
  intro p e s m args below meth c s₁ B hml hv
  obtain ⟨rfl, hP, hK⟩ := hv
  have hx := B.exec; have hb := B.bytes; have hr := B.returns
  have hts := atoms_spec (ws := wl yX8_hasTrial cX8_hasTrial 5 (some .boolean)) B.pre
  have htb : ∀ w ∈ tb, w.before _ s = true := fun w h => hts w (List.mem_cons_of_mem _ h)
  have hown : s.vm.findClass RX8 = some m.cls := findClass_of_methodNamed B.named
  have hlocks := B.notSynchronized
  have hP : va_P D vwCl [(xh, .inr (8, G8 xa xtrialRule xdropRule xtoday)), ((xa 1), .inl (E 0, 16, .inl xf1)), ((xa 3), .inl (E 3, 16, .inr (.inr (.inr (.inr xf3)))))] s.heap := hP
  have hl := lv_entry ([.ref xh, .int p0, .int p1, .int p2]) (n := 5) (Nat.le_of_ble_eq_true rfl)
  rw [lg_entry_eq]
  generalize (lg_sl ([.ref xh, .int p0, .int p1, .int p2]) ++ List.replicate (5 - (lg_sl ([.ref xh, .int p0, .int p1, .int p2])).length) Slot.unset).toArray = ls at hl ⊢
  have hl : lv_has ls 5 [(0, .ref xh), (1, .int p0), (2, .int p1), (3, .int p2)] := hl
  have lo_p0 := i_lo p0; have hi_p0 := i_hi p0
  have lo_p1 := i_lo p1; have hi_p1 := i_hi p1
  have lo_p2 := i_lo p2; have hi_p2 := i_hi p2
  refine lv_aload_n hx hb dX8_hasTrial_0 rfl (lv_at hl 0 rfl) ?_
  refine lv_iload_n hx hb dX8_hasTrial_1 rfl (lv_at hl 1 rfl) ?_
  refine rn_call (runRV (rest := []) (As := [.int p0]) hx hb hml hown htb (g_X8_watchAt_N l D E xh xa xtrialRule xdropRule xtoday xf1 xf3 p0 (by (try dsimp only); omega) hn0) ok_X8_watchAt k_369 k_371 ks_1 k_1 k_372 ⟨(Nat.le_of_ble_eq_true rfl), (Nat.le_of_ble_eq_true rfl)⟩ ⟨(Nat.le_of_ble_eq_true rfl), (Nat.le_of_ble_eq_true rfl)⟩ hl.1 (Nat.le_of_ble_eq_true rfl) rfl rfl dX8_hasTrial_2 (prV (hP.sub (ws' := [(xh, .inr (8, G8 xa xtrialRule xdropRule xtoday)), ((xa 1), .inl (E 0, 16, .inl xf1)), ((xa 3), .inl (E 3, 16, .inr (.inr (.inr (.inr xf3)))))]) [0, 1, 2] rfl) hK rfl rfl 0 rfl)) ?_
  refine lv_astoreN (lv' := [(4, .null), (0, .ref xh), (1, .int p0), (2, .int p1), (3, .int p2)]) hx hb dX8_hasTrial_5 hl (by decide) rfl (fun ls hl => ?_)
  refine lv_aloadN hx hb dX8_hasTrial_7 (lv_at hl 0 rfl) ?_
  refine lv_ifnullN (tgt := 22) hx hb dX8_hasTrial_9 (by decide) ?_
  refine lv_iconst (v := 0) hx hb dX8_hasTrial_22 (by decide) ?_
  exact W.zret (v := 0) hx hb hr rfl (fun t ht hW => ⟨0, rfl, (by have h0 := t_0; (try dsimp only); omega), ht⟩) (fun q h => by cases h) dX8_hasTrial_23
set_option maxHeartbeats 4000000 in
set_option maxRecDepth 100000 in
theorem g_X8_hasTrial_W (l : Launch) (D : va_G) (E : Nat → Nat) (xh : Nat) (xa : Nat → Nat) (xtrialRule : Nat) (xdropRule : Nat) (xtoday : Int32) (xf1 : Nat → Int32) (xf3 : Nat → Option Nat) (wh : Nat) (wa : Nat → Nat) (wf0 : Nat → Int32) (wf1 : Nat → Int32) (wf2 : Nat → Int32) (u1a : Nat → Nat) (u1size : Int32) (ra : Nat → Nat) (rsize : Int32) (rf0 : Nat → Int32) (rf1 : Nat → Int32) (oa : Nat → Nat) (osize : Int32) (of0 : Nat → Int32) (of1 : Nat → Int32) (of2 : Nat → Int32) (of3 : Nat → Int32) (of4 : Nat → Int32) (p0 : Int32) (p1 : Int32) (p2 : Int32) (sz : Nat) (hi_x : (0 ≤ xtoday.toInt ∧ xtoday.toInt ≤ 399)) (hi_u1 : (0 ≤ u1size.toInt ∧ u1size.toInt ≤ 120)) (hi_r : (0 ≤ rsize.toInt ∧ rsize.toInt ≤ 60)) (hr_r0 : ∀ k : Nat, k < 60 → 0 ≤ (rf0 k).toInt ∧ (rf0 k).toInt ≤ 399) (hi_o : (0 ≤ osize.toInt ∧ osize.toInt ≤ 60)) (hk0 : (0 ≤ p0.toInt ∧ p0.toInt ≤ 15 ∧ ((xf1 (p0).toNatClampNeg).toInt = 0 ∨ (xf1 (p0).toNatClampNeg).toInt = 1))) (hw0 : xf3 (p0).toNatClampNeg = some wh) (g1 : 0 ≤ p1.toInt ∧ p1.toInt ≤ 399 ∧ p2.toInt ≤ 399 ∧ p2.toInt - p1.toInt ≤ 60) : Met l yX8_hasTrial (wl yX8_hasTrial cX8_hasTrial 5 (some .boolean)) (RM 4 0 0) (mu_P D E [.ref xh, .int p0, .int p1, .int p2] [(xh, .inr (8, G8 xa xtrialRule xdropRule xtoday)), ((xa 1), .inl (E 0, 16, .inl xf1)), ((xa 3), .inl (E 3, 16, .inr (.inr (.inr (.inr xf3))))), (wh, .inr (7, G7 wa)), ((wa 0), .inl (E 0, 400, .inl wf0)), ((wa 1), .inl (E 0, 400, .inl wf1)), ((wa 2), .inl (E 0, 400, .inl wf2)), (xtrialRule, .inr (4, G4 u1a u1size)), ((xa 7), .inr (3, G3 ra rsize)), ((ra 0), .inl (E 0, 60, .inl rf0)), ((ra 1), .inl (E 0, 60, .inl rf1)), ((xa 6), .inr (2, G2 oa osize)), ((oa 0), .inl (E 0, 60, .inl of0)), ((oa 1), .inl (E 0, 60, .inl of1)), ((oa 2), .inl (E 0, 60, .inl of2)), ((oa 3), .inl (E 0, 60, .inl of3)), ((oa 4), .inl (E 0, 60, .inl of4))] sz) (va_Qi (fun (r : Int32) (u : (Nat → Int32) × (Nat → Int32) × (Int32)) => (∀ k : Nat, k < 60 → 0 ≤ (u.1 k).toInt ∧ (u.1 k).toInt ≤ 399) ∧ (0 ≤ u.2.2.toInt ∧ u.2.2.toInt ≤ 60) ∧ (0 ≤ r.toInt ∧ r.toInt ≤ 1)) (mu_B D (va_A [(xh, .inr (8, G8 xa xtrialRule xdropRule xtoday)), ((xa 1), .inl (E 0, 16, .inl xf1)), ((xa 3), .inl (E 3, 16, .inr (.inr (.inr (.inr xf3))))), (wh, .inr (7, G7 wa)), ((wa 0), .inl (E 0, 400, .inl wf0)), ((wa 1), .inl (E 0, 400, .inl wf1)), ((wa 2), .inl (E 0, 400, .inl wf2)), (xtrialRule, .inr (4, G4 u1a u1size)), ((xa 7), .inr (3, G3 ra rsize)), ((ra 0), .inl (E 0, 60, .inl rf0)), ((ra 1), .inl (E 0, 60, .inl rf1)), ((xa 6), .inr (2, G2 oa osize)), ((oa 0), .inl (E 0, 60, .inl of0)), ((oa 1), .inl (E 0, 60, .inl of1)), ((oa 2), .inl (E 0, 60, .inl of2)), ((oa 3), .inl (E 0, 60, .inl of3)), ((oa 4), .inl (E 0, 60, .inl of4))] sz) (fun (u : (Nat → Int32) × (Nat → Int32) × (Int32)) => [(xh, .inr (8, G8 xa xtrialRule xdropRule xtoday)), ((xa 1), .inl (E 0, 16, .inl xf1)), ((xa 3), .inl (E 3, 16, .inr (.inr (.inr (.inr xf3))))), (wh, .inr (7, G7 wa)), ((wa 0), .inl (E 0, 400, .inl wf0)), ((wa 1), .inl (E 0, 400, .inl wf1)), ((wa 2), .inl (E 0, 400, .inl wf2)), (xtrialRule, .inr (4, G4 u1a u1size)), ((xa 7), .inr (3, G3 ra u.2.2)), ((ra 0), .inl (E 0, 60, .inl u.1)), ((ra 1), .inl (E 0, 60, .inl u.2.1)), ((xa 6), .inr (2, G2 oa osize)), ((oa 0), .inl (E 0, 60, .inl of0)), ((oa 1), .inl (E 0, 60, .inl of1)), ((oa 2), .inl (E 0, 60, .inl of2)), ((oa 3), .inl (E 0, 60, .inl of3)), ((oa 4), .inl (E 0, 60, .inl of4))])) (va_A [(xh, .inr (8, G8 xa xtrialRule xdropRule xtoday)), ((xa 1), .inl (E 0, 16, .inl xf1)), ((xa 3), .inl (E 3, 16, .inr (.inr (.inr (.inr xf3))))), (wh, .inr (7, G7 wa)), ((wa 0), .inl (E 0, 400, .inl wf0)), ((wa 1), .inl (E 0, 400, .inl wf1)), ((wa 2), .inl (E 0, 400, .inl wf2)), (xtrialRule, .inr (4, G4 u1a u1size)), ((xa 7), .inr (3, G3 ra rsize)), ((ra 0), .inl (E 0, 60, .inl rf0)), ((ra 1), .inl (E 0, 60, .inl rf1)), ((xa 6), .inr (2, G2 oa osize)), ((oa 0), .inl (E 0, 60, .inl of0)), ((oa 1), .inl (E 0, 60, .inl of1)), ((oa 2), .inl (E 0, 60, .inl of2)), ((oa 3), .inl (E 0, 60, .inl of3)), ((oa 4), .inl (E 0, 60, .inl of4))] sz)) 0 0 (va_A [(xh, .inr (8, G8 xa xtrialRule xdropRule xtoday)), ((xa 1), .inl (E 0, 16, .inl xf1)), ((xa 3), .inl (E 3, 16, .inr (.inr (.inr (.inr xf3))))), (wh, .inr (7, G7 wa)), ((wa 0), .inl (E 0, 400, .inl wf0)), ((wa 1), .inl (E 0, 400, .inl wf1)), ((wa 2), .inl (E 0, 400, .inl wf2)), (xtrialRule, .inr (4, G4 u1a u1size)), ((xa 7), .inr (3, G3 ra rsize)), ((ra 0), .inl (E 0, 60, .inl rf0)), ((ra 1), .inl (E 0, 60, .inl rf1)), ((xa 6), .inr (2, G2 oa osize)), ((oa 0), .inl (E 0, 60, .inl of0)), ((oa 1), .inl (E 0, 60, .inl of1)), ((oa 2), .inl (E 0, 60, .inl of2)), ((oa 3), .inl (E 0, 60, .inl of3)), ((oa 4), .inl (E 0, 60, .inl of4))] sz) := by
  refine Met.ofW (cc := cX8_hasTrial) (maxL := 5) (ret := (some .boolean)) (by decide) rfl ?_
  intro p e s m args below meth c s₁ B hml hv
  obtain ⟨rfl, hsz, hP, hK, hD0⟩ := hv
  have hx := B.exec; have hb := B.bytes; have hr := B.returns
  have hts := atoms_spec (ws := wl yX8_hasTrial cX8_hasTrial 5 (some .boolean)) B.pre
  have htb : ∀ w ∈ tb, w.before _ s = true := fun w h => hts w (List.mem_cons_of_mem _ h)
  have hown : s.vm.findClass RX8 = some m.cls := findClass_of_methodNamed B.named
  have hlocks := B.notSynchronized
  subst hsz
  have hD := hD0.self (sz := s.heap.size)
  generalize hAe : va_A [(xh, .inr (8, G8 xa xtrialRule xdropRule xtoday)), ((xa 1), .inl (E 0, 16, .inl xf1)), ((xa 3), .inl (E 3, 16, .inr (.inr (.inr (.inr xf3))))), (wh, .inr (7, G7 wa)), ((wa 0), .inl (E 0, 400, .inl wf0)), ((wa 1), .inl (E 0, 400, .inl wf1)), ((wa 2), .inl (E 0, 400, .inl wf2)), (xtrialRule, .inr (4, G4 u1a u1size)), ((xa 7), .inr (3, G3 ra rsize)), ((ra 0), .inl (E 0, 60, .inl rf0)), ((ra 1), .inl (E 0, 60, .inl rf1)), ((xa 6), .inr (2, G2 oa osize)), ((oa 0), .inl (E 0, 60, .inl of0)), ((oa 1), .inl (E 0, 60, .inl of1)), ((oa 2), .inl (E 0, 60, .inl of2)), ((oa 3), .inl (E 0, 60, .inl of3)), ((oa 4), .inl (E 0, 60, .inl of4))] s.heap.size = A at hD ⊢
  have hA : ∀ q : Nat, s.heap.size ≤ q → A q := fun q h => by rw [← hAe]; exact Or.inr h
  have hS : va_S A s.heap s.heap [] := va_S.rf
  have hP : va_P D vwCl [(xh, .inr (8, G8 xa xtrialRule xdropRule xtoday)), ((xa 1), .inl (E 0, 16, .inl xf1)), ((xa 3), .inl (E 3, 16, .inr (.inr (.inr (.inr xf3))))), (wh, .inr (7, G7 wa)), ((wa 0), .inl (E 0, 400, .inl wf0)), ((wa 1), .inl (E 0, 400, .inl wf1)), ((wa 2), .inl (E 0, 400, .inl wf2)), (xtrialRule, .inr (4, G4 u1a u1size)), ((xa 7), .inr (3, G3 ra rsize)), ((ra 0), .inl (E 0, 60, .inl rf0)), ((ra 1), .inl (E 0, 60, .inl rf1)), ((xa 6), .inr (2, G2 oa osize)), ((oa 0), .inl (E 0, 60, .inl of0)), ((oa 1), .inl (E 0, 60, .inl of1)), ((oa 2), .inl (E 0, 60, .inl of2)), ((oa 3), .inl (E 0, 60, .inl of3)), ((oa 4), .inl (E 0, 60, .inl of4))] s.heap := hP
  have hl := lv_entry ([.ref xh, .int p0, .int p1, .int p2]) (n := 5) (Nat.le_of_ble_eq_true rfl)
  rw [lg_entry_eq]
  generalize (lg_sl ([.ref xh, .int p0, .int p1, .int p2]) ++ List.replicate (5 - (lg_sl ([.ref xh, .int p0, .int p1, .int p2])).length) Slot.unset).toArray = ls at hl ⊢
  have hl : lv_has ls 5 [(0, .ref xh), (1, .int p0), (2, .int p1), (3, .int p2)] := hl
  have lo_p0 := i_lo p0; have hi_p0 := i_hi p0
  have lo_p1 := i_lo p1; have hi_p1 := i_hi p1
  have lo_p2 := i_lo p2; have hi_p2 := i_hi p2
  refine lv_aload_n hx hb dX8_hasTrial_0 rfl (lv_at hl 0 rfl) ?_
  refine lv_iload_n hx hb dX8_hasTrial_1 rfl (lv_at hl 1 rfl) ?_
  refine rr_call (runRV (rest := []) (As := [.int p0]) hx hb hml hown htb (g_X8_watchAt_W l D E xh xa xtrialRule xdropRule xtoday xf1 xf3 wh wa p0 (by (try dsimp only); omega) hk0 hw0) ok_X8_watchAt k_369 k_371 ks_1 k_1 k_372 ⟨(Nat.le_of_ble_eq_true rfl), (Nat.le_of_ble_eq_true rfl)⟩ ⟨(Nat.le_of_ble_eq_true rfl), (Nat.le_of_ble_eq_true rfl)⟩ hl.1 (Nat.le_of_ble_eq_true rfl) rfl rfl dX8_hasTrial_2 (prV (hP.sub (ws' := [(xh, .inr (8, G8 xa xtrialRule xdropRule xtoday)), ((xa 1), .inl (E 0, 16, .inl xf1)), ((xa 3), .inl (E 3, 16, .inr (.inr (.inr (.inr xf3))))), (wh, .inr (7, G7 wa))]) [0, 1, 2, 3] rfl) hK rfl rfl 0 rfl)) ?_
  refine lv_astore (lv' := [(4, .ref wh), (0, .ref xh), (1, .int p0), (2, .int p1), (3, .int p2)]) hx hb dX8_hasTrial_5 hl (by decide) rfl (fun ls hl => ?_)
  refine lv_aload hx hb dX8_hasTrial_7 (lv_at hl 0 rfl) ?_
  refine lv_ifnull hx hb dX8_hasTrial_9 ?_
  refine lv_aload_n hx hb dX8_hasTrial_12 rfl (lv_at hl 1 rfl) ?_
  refine va_get (D := D) (ci := 8) (v := .ref xtrialRule) (C := RX8) (T := TX8) (N := 14) hx hb htb iX8 hown hK.1 hP 0 rfl rfl 11 (by decide) (htb _ k_283) (fun _ h9 => h9) rfl dX8_hasTrial_13 ?_
  refine va_getN (D := D) (ci := 4) (v := .int u1size) (C := RX4) (T := TX4) (N := 4) hx hb htb iX4 hown hK.1 hP 7 rfl rfl 3 (by decide) (va_Nw.use rfl (hK.2.1 (Cond.fieldLinkNest RX8 327 "SeaWatches$Rule" "size" "I" "SeaWatches") (by decide +kernel))) (fun _ h9 => h9) rfl dX8_hasTrial_16 ?_
  refine lv_if_ne (tgt := 24) hx hb dX8_hasTrial_19 (by decide) (fun c_4 => ?_) (fun c_4 => ?_)
  ·
    have ic_4 : u1size.toInt ≠ 0 := mt (g_eq rfl t_0).mpr c_4
    clear c_4
    refine lv_aload_n hx hb dX8_hasTrial_24 rfl (lv_at hl 1 rfl) ?_
    refine va_get (D := D) (ci := 8) (v := .ref (xa 7)) (C := RX8) (T := TX8) (N := 14) hx hb htb iX8 hown hK.1 hP 0 rfl rfl 7 (by decide) (htb _ k_279) (fun _ h9 => h9) rfl dX8_hasTrial_25 ?_
    refine lv_aload hx hb dX8_hasTrial_28 (lv_at hl 0 rfl) ?_
    refine lv_aload_n hx hb dX8_hasTrial_30 rfl (lv_at hl 1 rfl) ?_
    refine va_get (D := D) (ci := 8) (v := .ref (xa 6)) (C := RX8) (T := TX8) (N := 14) hx hb htb iX8 hown hK.1 hP 0 rfl rfl 6 (by decide) (htb _ k_278) (fun _ h9 => h9) rfl dX8_hasTrial_31 ?_
    refine lv_iload_n hx hb dX8_hasTrial_34 rfl (lv_at hl 3 rfl) ?_
    refine lv_iload_n hx hb dX8_hasTrial_35 rfl (lv_at hl 4 rfl) ?_
    have hPc := hP.sub (ws' := [((xa 7), .inr (3, G3 ra rsize)), ((ra 0), .inl (E 0, 60, .inl rf0)), ((ra 1), .inl (E 0, 60, .inl rf1)), (wh, .inr (7, G7 wa)), ((wa 0), .inl (E 0, 400, .inl wf0)), ((wa 1), .inl (E 0, 400, .inl wf1)), ((wa 2), .inl (E 0, 400, .inl wf2)), ((xa 6), .inr (2, G2 oa osize)), ((oa 0), .inl (E 0, 60, .inl of0)), ((oa 1), .inl (E 0, 60, .inl of1)), ((oa 2), .inl (E 0, 60, .inl of2)), ((oa 3), .inl (E 0, 60, .inl of3)), ((oa 4), .inl (E 0, 60, .inl of4))]) [8, 9, 10, 3, 4, 5, 6, 11, 12, 13, 14, 15, 16] rfl
    have hDc := hD.sub (ws' := [((xa 7), .inr (3, G3 ra rsize)), ((ra 0), .inl (E 0, 60, .inl rf0)), ((ra 1), .inl (E 0, 60, .inl rf1)), (wh, .inr (7, G7 wa)), ((wa 0), .inl (E 0, 400, .inl wf0)), ((wa 1), .inl (E 0, 400, .inl wf1)), ((wa 2), .inl (E 0, 400, .inl wf2)), ((xa 6), .inr (2, G2 oa osize)), ((oa 0), .inl (E 0, 60, .inl of0)), ((oa 1), .inl (E 0, 60, .inl of1)), ((oa 2), .inl (E 0, 60, .inl of2)), ((oa 3), .inl (E 0, 60, .inl of3)), ((oa 4), .inl (E 0, 60, .inl of4))]) [8, 9, 10, 3, 4, 5, 6, 11, 12, 13, 14, 15, 16] (by decide) rfl
    refine aft_v (runMV (rest := []) (As := [.ref wh, .ref (xa 6), .int p1, .int p2]) hx hb hml hown htb hK (g_X3_gather l D E (xa 7) ra rsize rf0 rf1 wh wa wf0 wf1 wf2 (xa 6) oa osize of0 of1 of2 of3 of4 p1 p2 _ (by (try dsimp only); omega) hr_r0 (by (try dsimp only); omega) (by (try dsimp only); omega)) ok_X3_gather k_498 k_499 k_500 k_3 k_501 ⟨(Nat.le_of_ble_eq_true rfl), (Nat.le_of_ble_eq_true rfl)⟩ ⟨(Nat.le_of_ble_eq_true rfl), (Nat.le_of_ble_eq_true rfl)⟩ hl.1 (Nat.le_of_ble_eq_true rfl) rfl rfl dX8_hasTrial_36 hPc hDc rfl rfl 0 rfl) hP hD hS hA [8, 9, 10, 3, 4, 5, 6, 11, 12, 13, 14, 15, 16] [0, 1, 2, 7] (wr := [(xh, .inr (8, G8 xa xtrialRule xdropRule xtoday)), ((xa 1), .inl (E 0, 16, .inl xf1)), ((xa 3), .inl (E 3, 16, .inr (.inr (.inr (.inr xf3))))), (xtrialRule, .inr (4, G4 u1a u1size))]) rfl rfl (by decide) (by decide) (fun u_7 H locs hw_6 hP hD hS => ?_)
    clear hPc hDc
    obtain ⟨w_8, w_9, w_10⟩ := u_7
    try dsimp only at hw_6
    have hP : va_P D vwCl [(xh, .inr (8, G8 xa xtrialRule xdropRule xtoday)), ((xa 1), .inl (E 0, 16, .inl xf1)), ((xa 3), .inl (E 3, 16, .inr (.inr (.inr (.inr xf3))))), (xtrialRule, .inr (4, G4 u1a u1size)), ((xa 7), .inr (3, G3 ra w_10)), ((ra 0), .inl (E 0, 60, .inl w_8)), ((ra 1), .inl (E 0, 60, .inl w_9)), (wh, .inr (7, G7 wa)), ((wa 0), .inl (E 0, 400, .inl wf0)), ((wa 1), .inl (E 0, 400, .inl wf1)), ((wa 2), .inl (E 0, 400, .inl wf2)), ((xa 6), .inr (2, G2 oa osize)), ((oa 0), .inl (E 0, 60, .inl of0)), ((oa 1), .inl (E 0, 60, .inl of1)), ((oa 2), .inl (E 0, 60, .inl of2)), ((oa 3), .inl (E 0, 60, .inl of3)), ((oa 4), .inl (E 0, 60, .inl of4))] H := hP
    have hD := toW hP hD rfl
    obtain ⟨hw_6_0, hw_6_1, hw_6_2⟩ := hw_6
    refine lv_aload_n hx hb dX8_hasTrial_39 rfl (lv_at hl 1 rfl) ?_
    refine va_get (D := D) (ci := 8) (v := .ref (xa 7)) (C := RX8) (T := TX8) (N := 14) hx hb htb iX8 hown hK.1 hP 0 rfl rfl 7 (by decide) (htb _ k_279) (fun _ h9 => h9) rfl dX8_hasTrial_40 ?_
    refine va_getN (D := D) (ci := 3) (v := .int w_10) (C := RX3) (T := TX3) (N := 4) hx hb htb iX3 hown hK.1 hP 4 rfl rfl 3 (by decide) (va_Nw.use rfl (hK.2.1 (Cond.fieldLinkNest RX8 311 "SeaWatches$Rates" "size" "I" "SeaWatches") (by decide +kernel))) (fun _ h9 => h9) rfl dX8_hasTrial_43 ?_
    refine lv_if_le (tgt := 53) hx hb dX8_hasTrial_46 (by decide) (fun c_11 => ?_) (fun c_11 => ?_)
    ·
      have ic_11 : w_10.toInt ≤ 0 := by first | exact (g_le rfl t_0).mp c_11 | (have h := mt (g_lt t_0 rfl).mpr c_11; omega)
      clear c_11
      refine lv_iconst (v := 0) hx hb dX8_hasTrial_53 (by decide) ?_
      have hP9 := hP.sub (ws' := [(xh, .inr (8, G8 xa xtrialRule xdropRule xtoday)), ((xa 1), .inl (E 0, 16, .inl xf1)), ((xa 3), .inl (E 3, 16, .inr (.inr (.inr (.inr xf3))))), (wh, .inr (7, G7 wa)), ((wa 0), .inl (E 0, 400, .inl wf0)), ((wa 1), .inl (E 0, 400, .inl wf1)), ((wa 2), .inl (E 0, 400, .inl wf2)), (xtrialRule, .inr (4, G4 u1a u1size)), ((xa 7), .inr (3, G3 ra w_10)), ((ra 0), .inl (E 0, 60, .inl w_8)), ((ra 1), .inl (E 0, 60, .inl w_9)), ((xa 6), .inr (2, G2 oa osize)), ((oa 0), .inl (E 0, 60, .inl of0)), ((oa 1), .inl (E 0, 60, .inl of1)), ((oa 2), .inl (E 0, 60, .inl of2)), ((oa 3), .inl (E 0, 60, .inl of3)), ((oa 4), .inl (E 0, 60, .inl of4))]) [0, 1, 2, 7, 8, 9, 10, 3, 4, 5, 6, 11, 12, 13, 14, 15, 16] rfl
      have hD9 := hD.sub (ws' := [(xh, .inr (8, G8 xa xtrialRule xdropRule xtoday)), ((xa 1), .inl (E 0, 16, .inl xf1)), ((xa 3), .inl (E 3, 16, .inr (.inr (.inr (.inr xf3))))), (wh, .inr (7, G7 wa)), ((wa 0), .inl (E 0, 400, .inl wf0)), ((wa 1), .inl (E 0, 400, .inl wf1)), ((wa 2), .inl (E 0, 400, .inl wf2)), (xtrialRule, .inr (4, G4 u1a u1size)), ((xa 7), .inr (3, G3 ra w_10)), ((ra 0), .inl (E 0, 60, .inl w_8)), ((ra 1), .inl (E 0, 60, .inl w_9)), ((xa 6), .inr (2, G2 oa osize)), ((oa 0), .inl (E 0, 60, .inl of0)), ((oa 1), .inl (E 0, 60, .inl of1)), ((oa 2), .inl (E 0, 60, .inl of2)), ((oa 3), .inl (E 0, 60, .inl of3)), ((oa 4), .inl (E 0, 60, .inl of4))]) [0, 1, 2, 7, 8, 9, 10, 3, 4, 5, 6, 11, 12, 13, 14, 15, 16] (by decide) rfl
      exact W.zret (v := 0) hx hb hr rfl (fun t ht hW => ⟨⟨0, (w_8, w_9, w_10), rfl, ⟨hw_6_0, (by (try dsimp only); omega), (by have h0 := t_0; (try dsimp only); omega)⟩, by rw [ht]; exact hP9, hD9⟩, hS.F ht⟩) hS.2.2 dX8_hasTrial_54
    ·
      have ic_11 : 0 < w_10.toInt := by first | exact (g_lt t_0 rfl).mp c_11 | (have h := mt (g_le rfl t_0).mpr c_11; omega)
      clear c_11
      refine lv_iconst (v := 1) hx hb dX8_hasTrial_49 (by decide) ?_
      refine lv_goto (tgt := 54) hx hb dX8_hasTrial_50 (by decide) ?_
      have hP9 := hP.sub (ws' := [(xh, .inr (8, G8 xa xtrialRule xdropRule xtoday)), ((xa 1), .inl (E 0, 16, .inl xf1)), ((xa 3), .inl (E 3, 16, .inr (.inr (.inr (.inr xf3))))), (wh, .inr (7, G7 wa)), ((wa 0), .inl (E 0, 400, .inl wf0)), ((wa 1), .inl (E 0, 400, .inl wf1)), ((wa 2), .inl (E 0, 400, .inl wf2)), (xtrialRule, .inr (4, G4 u1a u1size)), ((xa 7), .inr (3, G3 ra w_10)), ((ra 0), .inl (E 0, 60, .inl w_8)), ((ra 1), .inl (E 0, 60, .inl w_9)), ((xa 6), .inr (2, G2 oa osize)), ((oa 0), .inl (E 0, 60, .inl of0)), ((oa 1), .inl (E 0, 60, .inl of1)), ((oa 2), .inl (E 0, 60, .inl of2)), ((oa 3), .inl (E 0, 60, .inl of3)), ((oa 4), .inl (E 0, 60, .inl of4))]) [0, 1, 2, 7, 8, 9, 10, 3, 4, 5, 6, 11, 12, 13, 14, 15, 16] rfl
      have hD9 := hD.sub (ws' := [(xh, .inr (8, G8 xa xtrialRule xdropRule xtoday)), ((xa 1), .inl (E 0, 16, .inl xf1)), ((xa 3), .inl (E 3, 16, .inr (.inr (.inr (.inr xf3))))), (wh, .inr (7, G7 wa)), ((wa 0), .inl (E 0, 400, .inl wf0)), ((wa 1), .inl (E 0, 400, .inl wf1)), ((wa 2), .inl (E 0, 400, .inl wf2)), (xtrialRule, .inr (4, G4 u1a u1size)), ((xa 7), .inr (3, G3 ra w_10)), ((ra 0), .inl (E 0, 60, .inl w_8)), ((ra 1), .inl (E 0, 60, .inl w_9)), ((xa 6), .inr (2, G2 oa osize)), ((oa 0), .inl (E 0, 60, .inl of0)), ((oa 1), .inl (E 0, 60, .inl of1)), ((oa 2), .inl (E 0, 60, .inl of2)), ((oa 3), .inl (E 0, 60, .inl of3)), ((oa 4), .inl (E 0, 60, .inl of4))]) [0, 1, 2, 7, 8, 9, 10, 3, 4, 5, 6, 11, 12, 13, 14, 15, 16] (by decide) rfl
      exact W.zret (v := 1) hx hb hr rfl (fun t ht hW => ⟨⟨1, (w_8, w_9, w_10), rfl, ⟨hw_6_0, (by (try dsimp only); omega), (by have h0 := t_1; (try dsimp only); omega)⟩, by rw [ht]; exact hP9, hD9⟩, hS.F ht⟩) hS.2.2 dX8_hasTrial_54
  ·
    have ic_4 : u1size.toInt = 0 := (g_eq rfl t_0).mp c_4
    clear c_4
    refine lv_iconst (v := 0) hx hb dX8_hasTrial_22 (by decide) ?_
    have hP9 := hP.sub (ws' := [(xh, .inr (8, G8 xa xtrialRule xdropRule xtoday)), ((xa 1), .inl (E 0, 16, .inl xf1)), ((xa 3), .inl (E 3, 16, .inr (.inr (.inr (.inr xf3))))), (wh, .inr (7, G7 wa)), ((wa 0), .inl (E 0, 400, .inl wf0)), ((wa 1), .inl (E 0, 400, .inl wf1)), ((wa 2), .inl (E 0, 400, .inl wf2)), (xtrialRule, .inr (4, G4 u1a u1size)), ((xa 7), .inr (3, G3 ra rsize)), ((ra 0), .inl (E 0, 60, .inl rf0)), ((ra 1), .inl (E 0, 60, .inl rf1)), ((xa 6), .inr (2, G2 oa osize)), ((oa 0), .inl (E 0, 60, .inl of0)), ((oa 1), .inl (E 0, 60, .inl of1)), ((oa 2), .inl (E 0, 60, .inl of2)), ((oa 3), .inl (E 0, 60, .inl of3)), ((oa 4), .inl (E 0, 60, .inl of4))]) [0, 1, 2, 3, 4, 5, 6, 7, 8, 9, 10, 11, 12, 13, 14, 15, 16] rfl
    have hD9 := hD.sub (ws' := [(xh, .inr (8, G8 xa xtrialRule xdropRule xtoday)), ((xa 1), .inl (E 0, 16, .inl xf1)), ((xa 3), .inl (E 3, 16, .inr (.inr (.inr (.inr xf3))))), (wh, .inr (7, G7 wa)), ((wa 0), .inl (E 0, 400, .inl wf0)), ((wa 1), .inl (E 0, 400, .inl wf1)), ((wa 2), .inl (E 0, 400, .inl wf2)), (xtrialRule, .inr (4, G4 u1a u1size)), ((xa 7), .inr (3, G3 ra rsize)), ((ra 0), .inl (E 0, 60, .inl rf0)), ((ra 1), .inl (E 0, 60, .inl rf1)), ((xa 6), .inr (2, G2 oa osize)), ((oa 0), .inl (E 0, 60, .inl of0)), ((oa 1), .inl (E 0, 60, .inl of1)), ((oa 2), .inl (E 0, 60, .inl of2)), ((oa 3), .inl (E 0, 60, .inl of3)), ((oa 4), .inl (E 0, 60, .inl of4))]) [0, 1, 2, 3, 4, 5, 6, 7, 8, 9, 10, 11, 12, 13, 14, 15, 16] (by decide) rfl
    exact W.zret (v := 0) hx hb hr rfl (fun t ht hW => ⟨⟨0, (rf0, rf1, rsize), rfl, ⟨hr_r0, (by (try dsimp only); omega), (by have h0 := t_0; (try dsimp only); omega)⟩, by rw [ht]; exact hP9, hD9⟩, hS.F ht⟩) hS.2.2 dX8_hasTrial_23
set_option maxHeartbeats 4000000 in
set_option maxRecDepth 100000 in
theorem g_X8_warmthSpan (l : Launch) (D : va_G) (E : Nat → Nat) (xh : Nat) (xa : Nat → Nat) (xtrialRule : Nat) (xdropRule : Nat) (xtoday : Int32) (xf0 : Nat → Int32) (xf1 : Nat → Int32) (xf2 : Nat → Int32) (ra : Nat → Nat) (rsize : Int32) (rf0 : Nat → Int32) (p0 : Int32) (hi_x : (0 ≤ xtoday.toInt ∧ xtoday.toInt ≤ 399)) (hi_r : (0 ≤ rsize.toInt ∧ rsize.toInt ≤ 60)) (hr_r0 : ∀ k : Nat, k < 60 → 0 ≤ (rf0 k).toInt ∧ (rf0 k).toInt ≤ 399) : Met l yX8_warmthSpan (wl yX8_warmthSpan cX8_warmthSpan 6 (some .int)) (RM 2 0 0) (rd_P D E [.ref xh, .int p0] [(xh, .inr (8, G8 xa xtrialRule xdropRule xtoday)), ((xa 0), .inl (E 0, 400, .inl xf0)), ((xa 1), .inl (E 0, 16, .inl xf1)), ((xa 2), .inl (E 0, 16, .inl xf2)), ((xa 7), .inr (3, G3 ra rsize)), ((ra 0), .inl (E 0, 60, .inl rf0))]) (rd_Q (fun r => True)) 0 0 (fun _ => False) := by
  refine Met.ofW (cc := cX8_warmthSpan) (maxL := 6) (ret := (some .int)) (by decide) rfl ?_
  intro p e s m args below meth c s₁ B hml hv
  obtain ⟨rfl, hP, hK⟩ := hv
  have hx := B.exec; have hb := B.bytes; have hr := B.returns
  have hts := atoms_spec (ws := wl yX8_warmthSpan cX8_warmthSpan 6 (some .int)) B.pre
  have htb : ∀ w ∈ tb, w.before _ s = true := fun w h => hts w (List.mem_cons_of_mem _ h)
  have hown : s.vm.findClass RX8 = some m.cls := findClass_of_methodNamed B.named
  have hlocks := B.notSynchronized
  have hP : va_P D vwCl [(xh, .inr (8, G8 xa xtrialRule xdropRule xtoday)), ((xa 0), .inl (E 0, 400, .inl xf0)), ((xa 1), .inl (E 0, 16, .inl xf1)), ((xa 2), .inl (E 0, 16, .inl xf2)), ((xa 7), .inr (3, G3 ra rsize)), ((ra 0), .inl (E 0, 60, .inl rf0))] s.heap := hP
  have hl := lv_entry ([.ref xh, .int p0]) (n := 6) (Nat.le_of_ble_eq_true rfl)
  rw [lg_entry_eq]
  generalize (lg_sl ([.ref xh, .int p0]) ++ List.replicate (6 - (lg_sl ([.ref xh, .int p0])).length) Slot.unset).toArray = ls at hl ⊢
  have hl : lv_has ls 6 [(0, .ref xh), (1, .int p0)] := hl
  have lo_p0 := i_lo p0; have hi_p0 := i_hi p0
  refine lv_bipush (v := 50) hx hb dX8_warmthSpan_0 (by decide) ?_
  refine lv_istore_n (lv' := [(2, .int 50), (0, .ref xh), (1, .int p0)]) hx hb dX8_warmthSpan_2 rfl hl (by decide) rfl (fun ls hl => ?_)
  refine lv_bipush (v := (-50)) hx hb dX8_warmthSpan_3 (by decide) ?_
  refine lv_istore_n (lv' := [(3, .int (-50)), (2, .int 50), (0, .ref xh), (1, .int p0)]) hx hb dX8_warmthSpan_5 rfl hl (by decide) rfl (fun ls hl => ?_)
  refine lv_iconst (v := 0) hx hb dX8_warmthSpan_6 (by decide) ?_
  refine lv_istore (lv' := [(4, .int 0), (3, .int (-50)), (2, .int 50), (0, .ref xh), (1, .int p0)]) hx hb dX8_warmthSpan_7 hl (by decide) rfl (fun ls hl => ?_)
  have loop_1 : ∀ (N_3 : Nat) (L4_9 : Int32) (L3_9 : Int32) (L2_9 : Int32)  (ls : Array Slot), rsize.toInt - L4_9.toInt < (N_3 : Int) → (0 ≤ L4_9.toInt ∧ L4_9.toInt ≤ rsize.toInt) → lv_has ls 6 [(4, .int L4_9), (3, .int L3_9), (2, .int L2_9), (0, .ref xh), (1, .int p0)] → W p l e (headSpec (wl yX8_warmthSpan cX8_warmthSpan 6 (some .int)) (RM 2 0 0)).room s m [Value.ref xh, .int p0].toArray below meth c s.heap [] 0 0 (MQ below (rd_Q (fun r => True)) [Value.ref xh, .int p0].toArray s 0 0 (fun _ => False)) (F0 m 9 ls []) := by
    intro N_3
    induction N_3 with
    | zero => intro L4_9 L3_9 L2_9  ls hm v0_9 _; exfalso; omega
    | succ N_3 ih_2 =>
      intro L4_9 L3_9 L2_9 ls hm v0_9 hl
      have lo_L4_9 := i_lo L4_9; have hi_L4_9 := i_hi L4_9
      have lo_L3_9 := i_lo L3_9; have hi_L3_9 := i_hi L3_9
      have lo_L2_9 := i_lo L2_9; have hi_L2_9 := i_hi L2_9
      refine lv_iload hx hb dX8_warmthSpan_9 (lv_at hl 0 rfl) ?_
      refine lv_aload_n hx hb dX8_warmthSpan_11 rfl (lv_at hl 3 rfl) ?_
      refine va_get (D := D) (ci := 8) (v := .ref (xa 7)) (C := RX8) (T := TX8) (N := 14) hx hb htb iX8 hown hK.1 hP 0 rfl rfl 7 (by decide) (htb _ k_279) (fun _ h9 => h9) rfl dX8_warmthSpan_12 ?_
      refine va_getN (D := D) (ci := 3) (v := .int rsize) (C := RX3) (T := TX3) (N := 4) hx hb htb iX3 hown hK.1 hP 4 rfl rfl 3 (by decide) (va_Nw.use rfl (hK.2.1 (Cond.fieldLinkNest RX8 311 "SeaWatches$Rates" "size" "I" "SeaWatches") (by decide +kernel))) (fun _ h9 => h9) rfl dX8_warmthSpan_15 ?_
      refine lv_icmp_ge (tgt := 65) hx hb dX8_warmthSpan_18 (by decide) (fun c_4 => ?_) (fun c_4 => ?_)
      ·
        have ic_4 : rsize.toInt ≤ L4_9.toInt := by first | exact (g_le rfl rfl).mp c_4 | (have h := mt (g_lt rfl rfl).mpr c_4; omega)
        clear c_4
        refine lv_iconst (v := 0) hx hb dX8_warmthSpan_65 (by decide) ?_
        refine lv_iload_n hx hb dX8_warmthSpan_66 rfl (lv_at hl 1 rfl) ?_
        refine lv_iload_n hx hb dX8_warmthSpan_67 rfl (lv_at hl 2 rfl) ?_
        refine lv_isub hx hb dX8_warmthSpan_68 ?_
        refine lv_topi (fun z_5 ez_5 => ?_)
        refine va_mmax hx hb (by rw [hml, hl.1]) hown (htb _ k_751) (htb _ k_732) (htb _ k_11) (htb _ k_733) (Nat.le_of_ble_eq_true rfl) (Nat.le_of_ble_eq_true rfl) (Nat.le_of_ble_eq_true rfl) (Nat.le_of_ble_eq_true rfl) dX8_warmthSpan_69 ?_
        refine lv_topi (fun z_6 ez_6 => ?_)
        have jz_6 := g_max t_0 rfl ez_6
        exact W.iret (v := z_6) hx hb hr (fun t ht hW => ⟨z_6, rfl, trivial, ht⟩) (fun q h => by cases h) dX8_warmthSpan_72
      ·
        have ic_4 : L4_9.toInt < rsize.toInt := by first | exact (g_lt rfl rfl).mp c_4 | (have h := mt (g_le rfl rfl).mpr c_4; omega)
        clear c_4
        refine lv_aload_n hx hb dX8_warmthSpan_21 rfl (lv_at hl 3 rfl) ?_
        refine lv_iload_n hx hb dX8_warmthSpan_22 rfl (lv_at hl 4 rfl) ?_
        refine lv_aload_n hx hb dX8_warmthSpan_23 rfl (lv_at hl 3 rfl) ?_
        refine va_get (D := D) (ci := 8) (v := .ref (xa 7)) (C := RX8) (T := TX8) (N := 14) hx hb htb iX8 hown hK.1 hP 0 rfl rfl 7 (by decide) (htb _ k_279) (fun _ h9 => h9) rfl dX8_warmthSpan_24 ?_
        refine va_getN (D := D) (ci := 3) (v := .ref (ra 0)) (C := RX3) (T := TX3) (N := 4) hx hb htb iX3 hown hK.1 hP 4 rfl rfl 0 (by decide) (va_Nw.use rfl (hK.2.1 (Cond.fieldLinkNest RX8 312 "SeaWatches$Rates" "days" "[I" "SeaWatches") (by decide +kernel))) (fun _ h9 => h9) rfl dX8_warmthSpan_27 ?_
        refine lv_iload hx hb dX8_warmthSpan_30 (lv_at hl 0 rfl) ?_
        refine va_iald hx hb hK.1 hP 5 0 rfl rfl (g_in rfl (by omega) (by omega)) dX8_warmthSpan_32 ?_
        refine lv_topi (fun z_7 ez_7 => ?_)
        have kz_7 := congrArg Int32.toInt ez_7
        have jz_7 : 0 ≤ z_7.toInt ∧ z_7.toInt ≤ 399 := by rw [ez_7]; exact hr_r0 _ (g_ix rfl (by omega) (by omega))
        refine callRV (rest := []) (As := [.int p0, .int z_7]) hx hb hml hown htb hK (g_X8_warmthFor l D E xh xa xtrialRule xdropRule xtoday xf0 xf1 xf2 p0 z_7 (by (try dsimp only); omega)) ok_X8_warmthFor k_505 k_507 ks_7 k_1 k_508 ⟨(Nat.le_of_ble_eq_true rfl), (Nat.le_of_ble_eq_true rfl)⟩ ⟨(Nat.le_of_ble_eq_true rfl), (Nat.le_of_ble_eq_true rfl)⟩ hl.1 (Nat.le_of_ble_eq_true rfl) rfl rfl dX8_warmthSpan_33 (hP.sub (ws' := [(xh, .inr (8, G8 xa xtrialRule xdropRule xtoday)), ((xa 0), .inl (E 0, 400, .inl xf0)), ((xa 1), .inl (E 0, 16, .inl xf1)), ((xa 2), .inl (E 0, 16, .inl xf2))]) [0, 1, 2, 3] rfl) rfl rfl 0 rfl (fun r_8 hw_9 => ?_)
        refine lv_istore (lv' := [(5, .int r_8), (4, .int L4_9), (3, .int L3_9), (2, .int L2_9), (0, .ref xh), (1, .int p0)]) hx hb dX8_warmthSpan_36 hl (by decide) rfl (fun ls hl => ?_)
        refine lv_iload hx hb dX8_warmthSpan_38 (lv_at hl 0 rfl) ?_
        refine lv_bipush (v := (-100)) hx hb dX8_warmthSpan_40 (by decide) ?_
        refine lv_icmp_eq (tgt := 59) hx hb dX8_warmthSpan_42 (by decide) (fun c_11 => ?_) (fun c_11 => ?_)
        ·
          have ic_11 : r_8.toInt = -100 := (g_eq rfl t_m100).mp c_11
          clear c_11
          obtain ⟨z_12, ez_12⟩ : ∃ y : Int32, y = L4_9 + 1 := ⟨_, rfl⟩
          have jz_12 : z_12.toInt = L4_9.toInt + 1 := by rw [ez_12]; exact g_add rfl t_1 (by omega) (by omega)
          refine lv_iinc (v := z_12) (lv' := [(4, .int z_12), (5, .int r_8), (3, .int L3_9), (2, .int L2_9), (0, .ref xh), (1, .int p0)]) hx hb dX8_warmthSpan_59 hl (k := 1) rfl (by rw [ez_12]; rfl) (by decide) rfl (fun ls hl => ?_)
          refine lv_goto (tgt := 9) hx hb dX8_warmthSpan_62 (by decide) ?_
          exact ih_2 z_12 L3_9 L2_9 _ (by (try dsimp only); omega) (by (try dsimp only); omega) (lv_sub hl [0, 2, 3, 4, 5] rfl)
        ·
          have ic_11 : r_8.toInt ≠ -100 := mt (g_eq rfl t_m100).mpr c_11
          clear c_11
          refine lv_iload_n hx hb dX8_warmthSpan_45 rfl (lv_at hl 3 rfl) ?_
          refine lv_iload hx hb dX8_warmthSpan_46 (lv_at hl 0 rfl) ?_
          refine va_mmin hx hb (by rw [hml, hl.1]) hown (htb _ k_750) (htb _ k_725) (htb _ k_11) (htb _ k_726) (Nat.le_of_ble_eq_true rfl) (Nat.le_of_ble_eq_true rfl) (Nat.le_of_ble_eq_true rfl) (Nat.le_of_ble_eq_true rfl) dX8_warmthSpan_48 ?_
          refine lv_topi (fun z_13 ez_13 => ?_)
          have jz_13 := g_min rfl rfl ez_13
          refine lv_istore_n (lv' := [(2, .int z_13), (5, .int r_8), (4, .int L4_9), (3, .int L3_9), (0, .ref xh), (1, .int p0)]) hx hb dX8_warmthSpan_51 rfl hl (by decide) rfl (fun ls hl => ?_)
          refine lv_iload_n hx hb dX8_warmthSpan_52 rfl (lv_at hl 3 rfl) ?_
          refine lv_iload hx hb dX8_warmthSpan_53 (lv_at hl 1 rfl) ?_
          refine va_mmax hx hb (by rw [hml, hl.1]) hown (htb _ k_751) (htb _ k_732) (htb _ k_11) (htb _ k_733) (Nat.le_of_ble_eq_true rfl) (Nat.le_of_ble_eq_true rfl) (Nat.le_of_ble_eq_true rfl) (Nat.le_of_ble_eq_true rfl) dX8_warmthSpan_55 ?_
          refine lv_topi (fun z_14 ez_14 => ?_)
          have jz_14 := g_max rfl rfl ez_14
          refine lv_istore_n (lv' := [(3, .int z_14), (2, .int z_13), (5, .int r_8), (4, .int L4_9), (0, .ref xh), (1, .int p0)]) hx hb dX8_warmthSpan_58 rfl hl (by decide) rfl (fun ls hl => ?_)
          obtain ⟨z_15, ez_15⟩ : ∃ y : Int32, y = L4_9 + 1 := ⟨_, rfl⟩
          have jz_15 : z_15.toInt = L4_9.toInt + 1 := by rw [ez_15]; exact g_add rfl t_1 (by omega) (by omega)
          refine lv_iinc (v := z_15) (lv' := [(4, .int z_15), (3, .int z_14), (2, .int z_13), (5, .int r_8), (0, .ref xh), (1, .int p0)]) hx hb dX8_warmthSpan_59 hl (k := 3) rfl (by rw [ez_15]; rfl) (by decide) rfl (fun ls hl => ?_)
          refine lv_goto (tgt := 9) hx hb dX8_warmthSpan_62 (by decide) ?_
          exact ih_2 z_15 z_14 z_13 _ (by (try dsimp only); omega) (by (try dsimp only); omega) (lv_sub hl [0, 1, 2, 4, 5] rfl)
  exact loop_1 61 0 ((-50)) 50 _ (by have h0 := t_m50; have h1 := t_0; have h2 := t_50; (try dsimp only); omega) (by have h0 := t_m50; have h1 := t_0; have h2 := t_50; (try dsimp only); omega)  (lv_sub hl [0, 1, 2, 3, 4] rfl)
set_option maxHeartbeats 4000000 in
set_option maxRecDepth 100000 in
theorem g_X8_workOutTrial (l : Launch) (D : va_G) (E : Nat → Nat) (xh : Nat) (xa : Nat → Nat) (xtrialRule : Nat) (xdropRule : Nat) (xtoday : Int32) (xf0 : Nat → Int32) (xf1 : Nat → Int32) (xf2 : Nat → Int32) (xf5 : Nat → Int32) (ra : Nat → Nat) (rsize : Int32) (rf0 : Nat → Int32) (rf1 : Nat → Int32) (u1a : Nat → Nat) (u1size : Int32) (u1f0 : Nat → Int32) (u1f1 : Nat → Int32) (u1f2 : Nat → Int32) (p0 : Int32) (p1 : Int32) (sz : Nat) (hi_x : (0 ≤ xtoday.toInt ∧ xtoday.toInt ≤ 399)) (hi_r : (0 ≤ rsize.toInt ∧ rsize.toInt ≤ 60)) (hr_r0 : ∀ k : Nat, k < 60 → 0 ≤ (rf0 k).toInt ∧ (rf0 k).toInt ≤ 399) (hi_u1 : (0 ≤ u1size.toInt ∧ u1size.toInt ≤ 120)) : Met l yX8_workOutTrial (wl yX8_workOutTrial cX8_workOutTrial 5 (some .int)) (RM 3 0 0) (mu_P D E [.ref xh, .int p0, .int p1] [(xh, .inr (8, G8 xa xtrialRule xdropRule xtoday)), ((xa 0), .inl (E 0, 400, .inl xf0)), ((xa 1), .inl (E 0, 16, .inl xf1)), ((xa 2), .inl (E 0, 16, .inl xf2)), ((xa 5), .inl (E 0, 9, .inl xf5)), ((xa 7), .inr (3, G3 ra rsize)), ((ra 0), .inl (E 0, 60, .inl rf0)), ((ra 1), .inl (E 0, 60, .inl rf1)), (xtrialRule, .inr (4, G4 u1a u1size)), ((u1a 0), .inl (E 0, 120, .inl u1f0)), ((u1a 1), .inl (E 0, 120, .inl u1f1)), ((u1a 2), .inl (E 0, 120, .inl u1f2))] sz) (va_Qi (fun (r : Int32) (u : (Nat → Int32) × (Nat → Int32)) => True) (mu_B D (va_A [(xh, .inr (8, G8 xa xtrialRule xdropRule xtoday)), ((xa 0), .inl (E 0, 400, .inl xf0)), ((xa 1), .inl (E 0, 16, .inl xf1)), ((xa 2), .inl (E 0, 16, .inl xf2)), ((xa 5), .inl (E 0, 9, .inl xf5)), ((xa 7), .inr (3, G3 ra rsize)), ((ra 0), .inl (E 0, 60, .inl rf0)), ((ra 1), .inl (E 0, 60, .inl rf1)), (xtrialRule, .inr (4, G4 u1a u1size)), ((u1a 0), .inl (E 0, 120, .inl u1f0)), ((u1a 1), .inl (E 0, 120, .inl u1f1)), ((u1a 2), .inl (E 0, 120, .inl u1f2))] sz) (fun (u : (Nat → Int32) × (Nat → Int32)) => [(xh, .inr (8, G8 xa xtrialRule xdropRule xtoday)), ((xa 0), .inl (E 0, 400, .inl xf0)), ((xa 1), .inl (E 0, 16, .inl xf1)), ((xa 2), .inl (E 0, 16, .inl xf2)), ((xa 5), .inl (E 0, 9, .inl u.2)), ((xa 7), .inr (3, G3 ra rsize)), ((ra 0), .inl (E 0, 60, .inl rf0)), ((ra 1), .inl (E 0, 60, .inl rf1)), (xtrialRule, .inr (4, G4 u1a u1size)), ((u1a 0), .inl (E 0, 120, .inl u1f0)), ((u1a 1), .inl (E 0, 120, .inl u1f1)), ((u1a 2), .inl (E 0, 120, .inl u.1))])) (va_A [(xh, .inr (8, G8 xa xtrialRule xdropRule xtoday)), ((xa 0), .inl (E 0, 400, .inl xf0)), ((xa 1), .inl (E 0, 16, .inl xf1)), ((xa 2), .inl (E 0, 16, .inl xf2)), ((xa 5), .inl (E 0, 9, .inl xf5)), ((xa 7), .inr (3, G3 ra rsize)), ((ra 0), .inl (E 0, 60, .inl rf0)), ((ra 1), .inl (E 0, 60, .inl rf1)), (xtrialRule, .inr (4, G4 u1a u1size)), ((u1a 0), .inl (E 0, 120, .inl u1f0)), ((u1a 1), .inl (E 0, 120, .inl u1f1)), ((u1a 2), .inl (E 0, 120, .inl u1f2))] sz)) 0 0 (va_A [(xh, .inr (8, G8 xa xtrialRule xdropRule xtoday)), ((xa 0), .inl (E 0, 400, .inl xf0)), ((xa 1), .inl (E 0, 16, .inl xf1)), ((xa 2), .inl (E 0, 16, .inl xf2)), ((xa 5), .inl (E 0, 9, .inl xf5)), ((xa 7), .inr (3, G3 ra rsize)), ((ra 0), .inl (E 0, 60, .inl rf0)), ((ra 1), .inl (E 0, 60, .inl rf1)), (xtrialRule, .inr (4, G4 u1a u1size)), ((u1a 0), .inl (E 0, 120, .inl u1f0)), ((u1a 1), .inl (E 0, 120, .inl u1f1)), ((u1a 2), .inl (E 0, 120, .inl u1f2))] sz) := by
  refine Met.ofW (cc := cX8_workOutTrial) (maxL := 5) (ret := (some .int)) (by decide) rfl ?_
  intro p e s m args below meth c s₁ B hml hv
  obtain ⟨rfl, hsz, hP, hK, hD0⟩ := hv
  have hx := B.exec; have hb := B.bytes; have hr := B.returns
  have hts := atoms_spec (ws := wl yX8_workOutTrial cX8_workOutTrial 5 (some .int)) B.pre
  have htb : ∀ w ∈ tb, w.before _ s = true := fun w h => hts w (List.mem_cons_of_mem _ h)
  have hown : s.vm.findClass RX8 = some m.cls := findClass_of_methodNamed B.named
  have hlocks := B.notSynchronized
  subst hsz
  have hD := hD0.self (sz := s.heap.size)
  generalize hAe : va_A [(xh, .inr (8, G8 xa xtrialRule xdropRule xtoday)), ((xa 0), .inl (E 0, 400, .inl xf0)), ((xa 1), .inl (E 0, 16, .inl xf1)), ((xa 2), .inl (E 0, 16, .inl xf2)), ((xa 5), .inl (E 0, 9, .inl xf5)), ((xa 7), .inr (3, G3 ra rsize)), ((ra 0), .inl (E 0, 60, .inl rf0)), ((ra 1), .inl (E 0, 60, .inl rf1)), (xtrialRule, .inr (4, G4 u1a u1size)), ((u1a 0), .inl (E 0, 120, .inl u1f0)), ((u1a 1), .inl (E 0, 120, .inl u1f1)), ((u1a 2), .inl (E 0, 120, .inl u1f2))] s.heap.size = A at hD ⊢
  have hA : ∀ q : Nat, s.heap.size ≤ q → A q := fun q h => by rw [← hAe]; exact Or.inr h
  have hS : va_S A s.heap s.heap [] := va_S.rf
  have hP : va_P D vwCl [(xh, .inr (8, G8 xa xtrialRule xdropRule xtoday)), ((xa 0), .inl (E 0, 400, .inl xf0)), ((xa 1), .inl (E 0, 16, .inl xf1)), ((xa 2), .inl (E 0, 16, .inl xf2)), ((xa 5), .inl (E 0, 9, .inl xf5)), ((xa 7), .inr (3, G3 ra rsize)), ((ra 0), .inl (E 0, 60, .inl rf0)), ((ra 1), .inl (E 0, 60, .inl rf1)), (xtrialRule, .inr (4, G4 u1a u1size)), ((u1a 0), .inl (E 0, 120, .inl u1f0)), ((u1a 1), .inl (E 0, 120, .inl u1f1)), ((u1a 2), .inl (E 0, 120, .inl u1f2))] s.heap := hP
  have hl := lv_entry ([.ref xh, .int p0, .int p1]) (n := 5) (Nat.le_of_ble_eq_true rfl)
  rw [lg_entry_eq]
  generalize (lg_sl ([.ref xh, .int p0, .int p1]) ++ List.replicate (5 - (lg_sl ([.ref xh, .int p0, .int p1])).length) Slot.unset).toArray = ls at hl ⊢
  have hl : lv_has ls 5 [(0, .ref xh), (1, .int p0), (2, .int p1)] := hl
  have lo_p0 := i_lo p0; have hi_p0 := i_hi p0
  have lo_p1 := i_lo p1; have hi_p1 := i_hi p1
  refine lv_aload_n hx hb dX8_workOutTrial_0 rfl (lv_at hl 0 rfl) ?_
  refine va_get (D := D) (ci := 8) (v := .ref (xa 7)) (C := RX8) (T := TX8) (N := 14) hx hb htb iX8 hown hK.1 hP 0 rfl rfl 7 (by decide) (htb _ k_279) (fun _ h9 => h9) rfl dX8_workOutTrial_1 ?_
  refine callRV (rest := []) (As := []) hx hb hml hown htb hK (g_X3_least l D E (xa 7) ra rsize rf1 (by (try dsimp only); omega)) ok_X3_least k_720 k_721 k_722 k_3 k_723 ⟨(Nat.le_of_ble_eq_true rfl), (Nat.le_of_ble_eq_true rfl)⟩ ⟨(Nat.le_of_ble_eq_true rfl), (Nat.le_of_ble_eq_true rfl)⟩ hl.1 (Nat.le_of_ble_eq_true rfl) rfl rfl dX8_workOutTrial_4 (hP.sub (ws' := [((xa 7), .inr (3, G3 ra rsize)), ((ra 1), .inl (E 0, 60, .inl rf1))]) [5, 7] rfl) rfl rfl 0 rfl (fun r_1 hw_2 => ?_)
  refine lv_istore_n (lv' := [(3, .int r_1), (0, .ref xh), (1, .int p0), (2, .int p1)]) hx hb dX8_workOutTrial_7 rfl hl (by decide) rfl (fun ls hl => ?_)
  refine lv_aload_n hx hb dX8_workOutTrial_8 rfl (lv_at hl 1 rfl) ?_
  refine va_get (D := D) (ci := 8) (v := .ref (xa 7)) (C := RX8) (T := TX8) (N := 14) hx hb htb iX8 hown hK.1 hP 0 rfl rfl 7 (by decide) (htb _ k_279) (fun _ h9 => h9) rfl dX8_workOutTrial_9 ?_
  refine callRV (rest := []) (As := []) hx hb hml hown htb hK (g_X3_most l D E (xa 7) ra rsize rf1 (by (try dsimp only); omega)) ok_X3_most k_727 k_728 k_729 k_3 k_730 ⟨(Nat.le_of_ble_eq_true rfl), (Nat.le_of_ble_eq_true rfl)⟩ ⟨(Nat.le_of_ble_eq_true rfl), (Nat.le_of_ble_eq_true rfl)⟩ hl.1 (Nat.le_of_ble_eq_true rfl) rfl rfl dX8_workOutTrial_12 (hP.sub (ws' := [((xa 7), .inr (3, G3 ra rsize)), ((ra 1), .inl (E 0, 60, .inl rf1))]) [5, 7] rfl) rfl rfl 0 rfl (fun r_4 hw_5 => ?_)
  refine lv_istore (lv' := [(4, .int r_4), (3, .int r_1), (0, .ref xh), (1, .int p0), (2, .int p1)]) hx hb dX8_workOutTrial_15 hl (by decide) rfl (fun ls hl => ?_)
  refine lv_aload_n hx hb dX8_workOutTrial_17 rfl (lv_at hl 2 rfl) ?_
  refine va_get (D := D) (ci := 8) (v := .ref (xa 5)) (C := RX8) (T := TX8) (N := 14) hx hb htb iX8 hown hK.1 hP 0 rfl rfl 5 (by decide) (htb _ k_277) (fun _ h9 => h9) rfl dX8_workOutTrial_18 ?_
  refine lv_iconst (v := 0) hx hb dX8_workOutTrial_21 (by decide) ?_
  refine lv_aload_n hx hb dX8_workOutTrial_22 rfl (lv_at hl 2 rfl) ?_
  refine va_get (D := D) (ci := 8) (v := .ref (xa 7)) (C := RX8) (T := TX8) (N := 14) hx hb htb iX8 hown hK.1 hP 0 rfl rfl 7 (by decide) (htb _ k_279) (fun _ h9 => h9) rfl dX8_workOutTrial_23 ?_
  refine va_getN (D := D) (ci := 3) (v := .int rsize) (C := RX3) (T := TX3) (N := 4) hx hb htb iX3 hown hK.1 hP 5 rfl rfl 3 (by decide) (va_Nw.use rfl (hK.2.1 (Cond.fieldLinkNest RX8 311 "SeaWatches$Rates" "size" "I" "SeaWatches") (by decide +kernel))) (fun _ h9 => h9) rfl dX8_workOutTrial_26 ?_
  refine va_iast hx hb hK.1 hP hD hS 4 0 rfl rfl (g_in t_0 (by decide) (by decide)) dX8_workOutTrial_29 (fun H locs hP hD hS => ?_)
  have hP : va_P D vwCl [(xh, .inr (8, G8 xa xtrialRule xdropRule xtoday)), ((xa 0), .inl (E 0, 400, .inl xf0)), ((xa 1), .inl (E 0, 16, .inl xf1)), ((xa 2), .inl (E 0, 16, .inl xf2)), ((xa 5), .inl (E 0, 9, .inl (upd xf5 (0 : Int32).toNatClampNeg rsize))), ((xa 7), .inr (3, G3 ra rsize)), ((ra 0), .inl (E 0, 60, .inl rf0)), ((ra 1), .inl (E 0, 60, .inl rf1)), (xtrialRule, .inr (4, G4 u1a u1size)), ((u1a 0), .inl (E 0, 120, .inl u1f0)), ((u1a 1), .inl (E 0, 120, .inl u1f1)), ((u1a 2), .inl (E 0, 120, .inl u1f2))] H := hP
  have hD := toW hP hD rfl
  refine lv_aload_n hx hb dX8_workOutTrial_30 rfl (lv_at hl 2 rfl) ?_
  refine va_get (D := D) (ci := 8) (v := .ref (xa 5)) (C := RX8) (T := TX8) (N := 14) hx hb htb iX8 hown hK.1 hP 0 rfl rfl 5 (by decide) (htb _ k_277) (fun _ h9 => h9) rfl dX8_workOutTrial_31 ?_
  refine lv_iconst (v := 1) hx hb dX8_workOutTrial_34 (by decide) ?_
  refine lv_iload_n hx hb dX8_workOutTrial_35 rfl (lv_at hl 1 rfl) ?_
  refine va_iast hx hb hK.1 hP hD hS 4 0 rfl rfl (g_in t_1 (by decide) (by decide)) dX8_workOutTrial_36 (fun H locs hP hD hS => ?_)
  have hP : va_P D vwCl [(xh, .inr (8, G8 xa xtrialRule xdropRule xtoday)), ((xa 0), .inl (E 0, 400, .inl xf0)), ((xa 1), .inl (E 0, 16, .inl xf1)), ((xa 2), .inl (E 0, 16, .inl xf2)), ((xa 5), .inl (E 0, 9, .inl (upd (upd xf5 (0 : Int32).toNatClampNeg rsize) (1 : Int32).toNatClampNeg r_1))), ((xa 7), .inr (3, G3 ra rsize)), ((ra 0), .inl (E 0, 60, .inl rf0)), ((ra 1), .inl (E 0, 60, .inl rf1)), (xtrialRule, .inr (4, G4 u1a u1size)), ((u1a 0), .inl (E 0, 120, .inl u1f0)), ((u1a 1), .inl (E 0, 120, .inl u1f1)), ((u1a 2), .inl (E 0, 120, .inl u1f2))] H := hP
  have hD := toW hP hD rfl
  generalize (upd (upd xf5 (0 : Int32).toNatClampNeg rsize) (1 : Int32).toNatClampNeg r_1) = g_7 at hP hD
  refine lv_aload_n hx hb dX8_workOutTrial_37 rfl (lv_at hl 2 rfl) ?_
  refine va_get (D := D) (ci := 8) (v := .ref (xa 5)) (C := RX8) (T := TX8) (N := 14) hx hb htb iX8 hown hK.1 hP 0 rfl rfl 5 (by decide) (htb _ k_277) (fun _ h9 => h9) rfl dX8_workOutTrial_38 ?_
  refine lv_iconst (v := 2) hx hb dX8_workOutTrial_41 (by decide) ?_
  refine lv_iload hx hb dX8_workOutTrial_42 (lv_at hl 0 rfl) ?_
  refine va_iast hx hb hK.1 hP hD hS 4 0 rfl rfl (g_in t_2 (by decide) (by decide)) dX8_workOutTrial_44 (fun H locs hP hD hS => ?_)
  have hP : va_P D vwCl [(xh, .inr (8, G8 xa xtrialRule xdropRule xtoday)), ((xa 0), .inl (E 0, 400, .inl xf0)), ((xa 1), .inl (E 0, 16, .inl xf1)), ((xa 2), .inl (E 0, 16, .inl xf2)), ((xa 5), .inl (E 0, 9, .inl (upd g_7 (2 : Int32).toNatClampNeg r_4))), ((xa 7), .inr (3, G3 ra rsize)), ((ra 0), .inl (E 0, 60, .inl rf0)), ((ra 1), .inl (E 0, 60, .inl rf1)), (xtrialRule, .inr (4, G4 u1a u1size)), ((u1a 0), .inl (E 0, 120, .inl u1f0)), ((u1a 1), .inl (E 0, 120, .inl u1f1)), ((u1a 2), .inl (E 0, 120, .inl u1f2))] H := hP
  have hD := toW hP hD rfl
  refine lv_aload_n hx hb dX8_workOutTrial_45 rfl (lv_at hl 2 rfl) ?_
  refine va_get (D := D) (ci := 8) (v := .ref (xa 5)) (C := RX8) (T := TX8) (N := 14) hx hb htb iX8 hown hK.1 hP 0 rfl rfl 5 (by decide) (htb _ k_277) (fun _ h9 => h9) rfl dX8_workOutTrial_46 ?_
  refine lv_iconst (v := 3) hx hb dX8_workOutTrial_49 (by decide) ?_
  refine lv_iload hx hb dX8_workOutTrial_50 (lv_at hl 0 rfl) ?_
  refine lv_iload_n hx hb dX8_workOutTrial_52 rfl (lv_at hl 1 rfl) ?_
  refine lv_isub hx hb dX8_workOutTrial_53 ?_
  refine lv_topi (fun z_8 ez_8 => ?_)
  refine va_iast hx hb hK.1 hP hD hS 4 0 rfl rfl (g_in t_3 (by decide) (by decide)) dX8_workOutTrial_54 (fun H locs hP hD hS => ?_)
  have hP : va_P D vwCl [(xh, .inr (8, G8 xa xtrialRule xdropRule xtoday)), ((xa 0), .inl (E 0, 400, .inl xf0)), ((xa 1), .inl (E 0, 16, .inl xf1)), ((xa 2), .inl (E 0, 16, .inl xf2)), ((xa 5), .inl (E 0, 9, .inl (upd (upd g_7 (2 : Int32).toNatClampNeg r_4) (3 : Int32).toNatClampNeg z_8))), ((xa 7), .inr (3, G3 ra rsize)), ((ra 0), .inl (E 0, 60, .inl rf0)), ((ra 1), .inl (E 0, 60, .inl rf1)), (xtrialRule, .inr (4, G4 u1a u1size)), ((u1a 0), .inl (E 0, 120, .inl u1f0)), ((u1a 1), .inl (E 0, 120, .inl u1f1)), ((u1a 2), .inl (E 0, 120, .inl u1f2))] H := hP
  have hD := toW hP hD rfl
  generalize (upd (upd g_7 (2 : Int32).toNatClampNeg r_4) (3 : Int32).toNatClampNeg z_8) = g_9 at hP hD
  refine lv_aload_n hx hb dX8_workOutTrial_55 rfl (lv_at hl 2 rfl) ?_
  refine va_get (D := D) (ci := 8) (v := .ref (xa 5)) (C := RX8) (T := TX8) (N := 14) hx hb htb iX8 hown hK.1 hP 0 rfl rfl 5 (by decide) (htb _ k_277) (fun _ h9 => h9) rfl dX8_workOutTrial_56 ?_
  refine lv_iconst (v := 4) hx hb dX8_workOutTrial_59 (by decide) ?_
  refine lv_iload_n hx hb dX8_workOutTrial_60 rfl (lv_at hl 4 rfl) ?_
  refine lv_aload_n hx hb dX8_workOutTrial_61 rfl (lv_at hl 2 rfl) ?_
  refine va_get (D := D) (ci := 8) (v := .ref (xa 7)) (C := RX8) (T := TX8) (N := 14) hx hb htb iX8 hown hK.1 hP 0 rfl rfl 7 (by decide) (htb _ k_279) (fun _ h9 => h9) rfl dX8_workOutTrial_62 ?_
  refine va_getN (D := D) (ci := 3) (v := .int rsize) (C := RX3) (T := TX3) (N := 4) hx hb htb iX3 hown hK.1 hP 5 rfl rfl 3 (by decide) (va_Nw.use rfl (hK.2.1 (Cond.fieldLinkNest RX8 311 "SeaWatches$Rates" "size" "I" "SeaWatches") (by decide +kernel))) (fun _ h9 => h9) rfl dX8_workOutTrial_65 ?_
  refine lv_isub hx hb dX8_workOutTrial_68 ?_
  refine lv_topi (fun z_10 ez_10 => ?_)
  refine va_iast hx hb hK.1 hP hD hS 4 0 rfl rfl (g_in t_4 (by decide) (by decide)) dX8_workOutTrial_69 (fun H locs hP hD hS => ?_)
  have hP : va_P D vwCl [(xh, .inr (8, G8 xa xtrialRule xdropRule xtoday)), ((xa 0), .inl (E 0, 400, .inl xf0)), ((xa 1), .inl (E 0, 16, .inl xf1)), ((xa 2), .inl (E 0, 16, .inl xf2)), ((xa 5), .inl (E 0, 9, .inl (upd g_9 (4 : Int32).toNatClampNeg z_10))), ((xa 7), .inr (3, G3 ra rsize)), ((ra 0), .inl (E 0, 60, .inl rf0)), ((ra 1), .inl (E 0, 60, .inl rf1)), (xtrialRule, .inr (4, G4 u1a u1size)), ((u1a 0), .inl (E 0, 120, .inl u1f0)), ((u1a 1), .inl (E 0, 120, .inl u1f1)), ((u1a 2), .inl (E 0, 120, .inl u1f2))] H := hP
  have hD := toW hP hD rfl
  refine lv_aload_n hx hb dX8_workOutTrial_70 rfl (lv_at hl 2 rfl) ?_
  refine va_get (D := D) (ci := 8) (v := .ref (xa 5)) (C := RX8) (T := TX8) (N := 14) hx hb htb iX8 hown hK.1 hP 0 rfl rfl 5 (by decide) (htb _ k_277) (fun _ h9 => h9) rfl dX8_workOutTrial_71 ?_
  refine lv_iconst (v := 5) hx hb dX8_workOutTrial_74 (by decide) ?_
  refine lv_aload_n hx hb dX8_workOutTrial_75 rfl (lv_at hl 2 rfl) ?_
  refine va_get (D := D) (ci := 8) (v := .ref (xa 7)) (C := RX8) (T := TX8) (N := 14) hx hb htb iX8 hown hK.1 hP 0 rfl rfl 7 (by decide) (htb _ k_279) (fun _ h9 => h9) rfl dX8_workOutTrial_76 ?_
  refine callRV (rest := [.int 5, .ref (xa 5)]) (As := []) hx hb hml hown htb hK (g_X3_greatestStep l D E (xa 7) ra rsize rf1 (by (try dsimp only); omega)) ok_X3_greatestStep k_734 k_735 k_736 k_3 k_737 ⟨(Nat.le_of_ble_eq_true rfl), (Nat.le_of_ble_eq_true rfl)⟩ ⟨(Nat.le_of_ble_eq_true rfl), (Nat.le_of_ble_eq_true rfl)⟩ hl.1 (Nat.le_of_ble_eq_true rfl) rfl rfl dX8_workOutTrial_79 (hP.sub (ws' := [((xa 7), .inr (3, G3 ra rsize)), ((ra 1), .inl (E 0, 60, .inl rf1))]) [5, 7] rfl) rfl rfl 0 rfl (fun r_11 hw_12 => ?_)
  refine va_iast hx hb hK.1 hP hD hS 4 0 rfl rfl (g_in t_5 (by decide) (by decide)) dX8_workOutTrial_82 (fun H locs hP hD hS => ?_)
  have hP : va_P D vwCl [(xh, .inr (8, G8 xa xtrialRule xdropRule xtoday)), ((xa 0), .inl (E 0, 400, .inl xf0)), ((xa 1), .inl (E 0, 16, .inl xf1)), ((xa 2), .inl (E 0, 16, .inl xf2)), ((xa 5), .inl (E 0, 9, .inl (upd (upd g_9 (4 : Int32).toNatClampNeg z_10) (5 : Int32).toNatClampNeg r_11))), ((xa 7), .inr (3, G3 ra rsize)), ((ra 0), .inl (E 0, 60, .inl rf0)), ((ra 1), .inl (E 0, 60, .inl rf1)), (xtrialRule, .inr (4, G4 u1a u1size)), ((u1a 0), .inl (E 0, 120, .inl u1f0)), ((u1a 1), .inl (E 0, 120, .inl u1f1)), ((u1a 2), .inl (E 0, 120, .inl u1f2))] H := hP
  have hD := toW hP hD rfl
  generalize (upd (upd g_9 (4 : Int32).toNatClampNeg z_10) (5 : Int32).toNatClampNeg r_11) = g_14 at hP hD
  refine lv_aload_n hx hb dX8_workOutTrial_83 rfl (lv_at hl 2 rfl) ?_
  refine va_get (D := D) (ci := 8) (v := .ref (xa 5)) (C := RX8) (T := TX8) (N := 14) hx hb htb iX8 hown hK.1 hP 0 rfl rfl 5 (by decide) (htb _ k_277) (fun _ h9 => h9) rfl dX8_workOutTrial_84 ?_
  refine lv_bipush (v := 6) hx hb dX8_workOutTrial_87 (by decide) ?_
  refine lv_aload_n hx hb dX8_workOutTrial_89 rfl (lv_at hl 2 rfl) ?_
  refine va_get (D := D) (ci := 8) (v := .ref (xa 7)) (C := RX8) (T := TX8) (N := 14) hx hb htb iX8 hown hK.1 hP 0 rfl rfl 7 (by decide) (htb _ k_279) (fun _ h9 => h9) rfl dX8_workOutTrial_90 ?_
  refine callRV (rest := [.int 6, .ref (xa 5)]) (As := []) hx hb hml hown htb hK (g_X3_drift l D E (xa 7) ra rsize rf1 (by (try dsimp only); omega)) ok_X3_drift k_738 k_739 k_740 k_3 k_741 ⟨(Nat.le_of_ble_eq_true rfl), (Nat.le_of_ble_eq_true rfl)⟩ ⟨(Nat.le_of_ble_eq_true rfl), (Nat.le_of_ble_eq_true rfl)⟩ hl.1 (Nat.le_of_ble_eq_true rfl) rfl rfl dX8_workOutTrial_93 (hP.sub (ws' := [((xa 7), .inr (3, G3 ra rsize)), ((ra 1), .inl (E 0, 60, .inl rf1))]) [5, 7] rfl) rfl rfl 0 rfl (fun r_15 hw_16 => ?_)
  refine va_iast hx hb hK.1 hP hD hS 4 0 rfl rfl (g_in t_6 (by decide) (by decide)) dX8_workOutTrial_96 (fun H locs hP hD hS => ?_)
  have hP : va_P D vwCl [(xh, .inr (8, G8 xa xtrialRule xdropRule xtoday)), ((xa 0), .inl (E 0, 400, .inl xf0)), ((xa 1), .inl (E 0, 16, .inl xf1)), ((xa 2), .inl (E 0, 16, .inl xf2)), ((xa 5), .inl (E 0, 9, .inl (upd g_14 (6 : Int32).toNatClampNeg r_15))), ((xa 7), .inr (3, G3 ra rsize)), ((ra 0), .inl (E 0, 60, .inl rf0)), ((ra 1), .inl (E 0, 60, .inl rf1)), (xtrialRule, .inr (4, G4 u1a u1size)), ((u1a 0), .inl (E 0, 120, .inl u1f0)), ((u1a 1), .inl (E 0, 120, .inl u1f1)), ((u1a 2), .inl (E 0, 120, .inl u1f2))] H := hP
  have hD := toW hP hD rfl
  refine lv_aload_n hx hb dX8_workOutTrial_97 rfl (lv_at hl 2 rfl) ?_
  refine va_get (D := D) (ci := 8) (v := .ref (xa 5)) (C := RX8) (T := TX8) (N := 14) hx hb htb iX8 hown hK.1 hP 0 rfl rfl 5 (by decide) (htb _ k_277) (fun _ h9 => h9) rfl dX8_workOutTrial_98 ?_
  refine lv_bipush (v := 7) hx hb dX8_workOutTrial_101 (by decide) ?_
  refine lv_aload_n hx hb dX8_workOutTrial_103 rfl (lv_at hl 2 rfl) ?_
  refine va_get (D := D) (ci := 8) (v := .ref (xa 7)) (C := RX8) (T := TX8) (N := 14) hx hb htb iX8 hown hK.1 hP 0 rfl rfl 7 (by decide) (htb _ k_279) (fun _ h9 => h9) rfl dX8_workOutTrial_104 ?_
  refine callRV (rest := [.int 7, .ref (xa 5)]) (As := []) hx hb hml hown htb hK (g_X3_sum l D E (xa 7) ra rsize rf1 (by (try dsimp only); omega)) ok_X3_sum k_742 k_743 k_744 k_3 k_745 ⟨(Nat.le_of_ble_eq_true rfl), (Nat.le_of_ble_eq_true rfl)⟩ ⟨(Nat.le_of_ble_eq_true rfl), (Nat.le_of_ble_eq_true rfl)⟩ hl.1 (Nat.le_of_ble_eq_true rfl) rfl rfl dX8_workOutTrial_107 (hP.sub (ws' := [((xa 7), .inr (3, G3 ra rsize)), ((ra 1), .inl (E 0, 60, .inl rf1))]) [5, 7] rfl) rfl rfl 0 rfl (fun r_18 hw_19 => ?_)
  refine va_iast hx hb hK.1 hP hD hS 4 0 rfl rfl (g_in t_7 (by decide) (by decide)) dX8_workOutTrial_110 (fun H locs hP hD hS => ?_)
  have hP : va_P D vwCl [(xh, .inr (8, G8 xa xtrialRule xdropRule xtoday)), ((xa 0), .inl (E 0, 400, .inl xf0)), ((xa 1), .inl (E 0, 16, .inl xf1)), ((xa 2), .inl (E 0, 16, .inl xf2)), ((xa 5), .inl (E 0, 9, .inl (upd (upd g_14 (6 : Int32).toNatClampNeg r_15) (7 : Int32).toNatClampNeg r_18))), ((xa 7), .inr (3, G3 ra rsize)), ((ra 0), .inl (E 0, 60, .inl rf0)), ((ra 1), .inl (E 0, 60, .inl rf1)), (xtrialRule, .inr (4, G4 u1a u1size)), ((u1a 0), .inl (E 0, 120, .inl u1f0)), ((u1a 1), .inl (E 0, 120, .inl u1f1)), ((u1a 2), .inl (E 0, 120, .inl u1f2))] H := hP
  have hD := toW hP hD rfl
  generalize (upd (upd g_14 (6 : Int32).toNatClampNeg r_15) (7 : Int32).toNatClampNeg r_18) = g_21 at hP hD
  refine lv_aload_n hx hb dX8_workOutTrial_111 rfl (lv_at hl 2 rfl) ?_
  refine va_get (D := D) (ci := 8) (v := .ref (xa 5)) (C := RX8) (T := TX8) (N := 14) hx hb htb iX8 hown hK.1 hP 0 rfl rfl 5 (by decide) (htb _ k_277) (fun _ h9 => h9) rfl dX8_workOutTrial_112 ?_
  refine lv_bipush (v := 8) hx hb dX8_workOutTrial_115 (by decide) ?_
  refine lv_aload_n hx hb dX8_workOutTrial_117 rfl (lv_at hl 2 rfl) ?_
  refine lv_iload_n hx hb dX8_workOutTrial_118 rfl (lv_at hl 3 rfl) ?_
  refine callRV (rest := [.int 8, .ref (xa 5)]) (As := [.int p0]) hx hb hml hown htb hK (g_X8_warmthSpan l D E xh xa xtrialRule xdropRule xtoday xf0 xf1 xf2 ra rsize rf0 p0 (by (try dsimp only); omega) (by (try dsimp only); omega) hr_r0) ok_X8_warmthSpan k_746 k_748 ks_26 k_1 k_749 ⟨(Nat.le_of_ble_eq_true rfl), (Nat.le_of_ble_eq_true rfl)⟩ ⟨(Nat.le_of_ble_eq_true rfl), (Nat.le_of_ble_eq_true rfl)⟩ hl.1 (Nat.le_of_ble_eq_true rfl) rfl rfl dX8_workOutTrial_119 (hP.sub (ws' := [(xh, .inr (8, G8 xa xtrialRule xdropRule xtoday)), ((xa 0), .inl (E 0, 400, .inl xf0)), ((xa 1), .inl (E 0, 16, .inl xf1)), ((xa 2), .inl (E 0, 16, .inl xf2)), ((xa 7), .inr (3, G3 ra rsize)), ((ra 0), .inl (E 0, 60, .inl rf0))]) [0, 1, 2, 3, 5, 6] rfl) rfl rfl 0 rfl (fun r_22 hw_23 => ?_)
  refine va_iast hx hb hK.1 hP hD hS 4 0 rfl rfl (g_in t_8 (by decide) (by decide)) dX8_workOutTrial_122 (fun H locs hP hD hS => ?_)
  have hP : va_P D vwCl [(xh, .inr (8, G8 xa xtrialRule xdropRule xtoday)), ((xa 0), .inl (E 0, 400, .inl xf0)), ((xa 1), .inl (E 0, 16, .inl xf1)), ((xa 2), .inl (E 0, 16, .inl xf2)), ((xa 5), .inl (E 0, 9, .inl (upd g_21 (8 : Int32).toNatClampNeg r_22))), ((xa 7), .inr (3, G3 ra rsize)), ((ra 0), .inl (E 0, 60, .inl rf0)), ((ra 1), .inl (E 0, 60, .inl rf1)), (xtrialRule, .inr (4, G4 u1a u1size)), ((u1a 0), .inl (E 0, 120, .inl u1f0)), ((u1a 1), .inl (E 0, 120, .inl u1f1)), ((u1a 2), .inl (E 0, 120, .inl u1f2))] H := hP
  have hD := toW hP hD rfl
  refine lv_aload_n hx hb dX8_workOutTrial_123 rfl (lv_at hl 2 rfl) ?_
  refine va_get (D := D) (ci := 8) (v := .ref xtrialRule) (C := RX8) (T := TX8) (N := 14) hx hb htb iX8 hown hK.1 hP 0 rfl rfl 11 (by decide) (htb _ k_283) (fun _ h9 => h9) rfl dX8_workOutTrial_124 ?_
  refine lv_aload_n hx hb dX8_workOutTrial_127 rfl (lv_at hl 2 rfl) ?_
  refine va_get (D := D) (ci := 8) (v := .ref (xa 5)) (C := RX8) (T := TX8) (N := 14) hx hb htb iX8 hown hK.1 hP 0 rfl rfl 5 (by decide) (htb _ k_277) (fun _ h9 => h9) rfl dX8_workOutTrial_128 ?_
  have hPc := hP.sub (ws' := [(xtrialRule, .inr (4, G4 u1a u1size)), ((u1a 0), .inl (E 0, 120, .inl u1f0)), ((u1a 1), .inl (E 0, 120, .inl u1f1)), ((u1a 2), .inl (E 0, 120, .inl u1f2)), ((xa 5), .inl (E 0, 9, .inl (upd g_21 (8 : Int32).toNatClampNeg r_22)))]) [8, 9, 10, 11, 4] rfl
  have hDc := hD.sub (ws' := [(xtrialRule, .inr (4, G4 u1a u1size)), ((u1a 0), .inl (E 0, 120, .inl u1f0)), ((u1a 1), .inl (E 0, 120, .inl u1f1)), ((u1a 2), .inl (E 0, 120, .inl u1f2)), ((xa 5), .inl (E 0, 9, .inl (upd g_21 (8 : Int32).toNatClampNeg r_22)))]) [8, 9, 10, 11, 4] (by decide) rfl
  refine aft_i (runMV (rest := []) (As := [.ref (xa 5)]) hx hb hml hown htb hK (g_X4_workOut l D E xtrialRule u1a u1size u1f0 u1f1 u1f2 (xa 5) (upd g_21 (8 : Int32).toNatClampNeg r_22) _ (by (try dsimp only); omega)) ok_X4_workOut k_752 k_753 k_754 k_6 k_755 ⟨(Nat.le_of_ble_eq_true rfl), (Nat.le_of_ble_eq_true rfl)⟩ ⟨(Nat.le_of_ble_eq_true rfl), (Nat.le_of_ble_eq_true rfl)⟩ hl.1 (Nat.le_of_ble_eq_true rfl) rfl rfl dX8_workOutTrial_131 hPc hDc rfl rfl 0 rfl) hP hD hS hA [8, 9, 10, 11, 4] [0, 1, 2, 3, 5, 6, 7] (wr := [(xh, .inr (8, G8 xa xtrialRule xdropRule xtoday)), ((xa 0), .inl (E 0, 400, .inl xf0)), ((xa 1), .inl (E 0, 16, .inl xf1)), ((xa 2), .inl (E 0, 16, .inl xf2)), ((xa 7), .inr (3, G3 ra rsize)), ((ra 0), .inl (E 0, 60, .inl rf0)), ((ra 1), .inl (E 0, 60, .inl rf1))]) rfl rfl (by decide) (by decide) (fun r_25 u_27 H locs hw_26 hP hD hS => ?_)
  clear hPc hDc
  have hP : va_P D vwCl [(xh, .inr (8, G8 xa xtrialRule xdropRule xtoday)), ((xa 0), .inl (E 0, 400, .inl xf0)), ((xa 1), .inl (E 0, 16, .inl xf1)), ((xa 2), .inl (E 0, 16, .inl xf2)), ((xa 7), .inr (3, G3 ra rsize)), ((ra 0), .inl (E 0, 60, .inl rf0)), ((ra 1), .inl (E 0, 60, .inl rf1)), (xtrialRule, .inr (4, G4 u1a u1size)), ((u1a 0), .inl (E 0, 120, .inl u1f0)), ((u1a 1), .inl (E 0, 120, .inl u1f1)), ((u1a 2), .inl (E 0, 120, .inl u_27)), ((xa 5), .inl (E 0, 9, .inl (upd g_21 (8 : Int32).toNatClampNeg r_22)))] H := hP
  have hD := toW hP hD rfl
  have hP9 := hP.sub (ws' := [(xh, .inr (8, G8 xa xtrialRule xdropRule xtoday)), ((xa 0), .inl (E 0, 400, .inl xf0)), ((xa 1), .inl (E 0, 16, .inl xf1)), ((xa 2), .inl (E 0, 16, .inl xf2)), ((xa 5), .inl (E 0, 9, .inl (upd g_21 (8 : Int32).toNatClampNeg r_22))), ((xa 7), .inr (3, G3 ra rsize)), ((ra 0), .inl (E 0, 60, .inl rf0)), ((ra 1), .inl (E 0, 60, .inl rf1)), (xtrialRule, .inr (4, G4 u1a u1size)), ((u1a 0), .inl (E 0, 120, .inl u1f0)), ((u1a 1), .inl (E 0, 120, .inl u1f1)), ((u1a 2), .inl (E 0, 120, .inl u_27))]) [0, 1, 2, 3, 11, 4, 5, 6, 7, 8, 9, 10] rfl
  have hD9 := hD.sub (ws' := [(xh, .inr (8, G8 xa xtrialRule xdropRule xtoday)), ((xa 0), .inl (E 0, 400, .inl xf0)), ((xa 1), .inl (E 0, 16, .inl xf1)), ((xa 2), .inl (E 0, 16, .inl xf2)), ((xa 5), .inl (E 0, 9, .inl (upd g_21 (8 : Int32).toNatClampNeg r_22))), ((xa 7), .inr (3, G3 ra rsize)), ((ra 0), .inl (E 0, 60, .inl rf0)), ((ra 1), .inl (E 0, 60, .inl rf1)), (xtrialRule, .inr (4, G4 u1a u1size)), ((u1a 0), .inl (E 0, 120, .inl u1f0)), ((u1a 1), .inl (E 0, 120, .inl u1f1)), ((u1a 2), .inl (E 0, 120, .inl u_27))]) [0, 1, 2, 3, 11, 4, 5, 6, 7, 8, 9, 10] (by decide) rfl
  exact W.iret (v := r_25) hx hb hr (fun t ht hW => ⟨⟨r_25, (u_27, (upd g_21 (8 : Int32).toNatClampNeg r_22)), rfl, trivial, by rw [ht]; exact hP9, hD9⟩, hS.F ht⟩) hS.2.2 dX8_workOutTrial_134
set_option maxHeartbeats 4000000 in
set_option maxRecDepth 100000 in
theorem g_X8_trial_N (l : Launch) (D : va_G) (E : Nat → Nat) (xh : Nat) (xa : Nat → Nat) (xtrialRule : Nat) (xdropRule : Nat) (xtoday : Int32) (xf0 : Nat → Int32) (xf1 : Nat → Int32) (xf2 : Nat → Int32) (xf3 : Nat → Option Nat) (xf5 : Nat → Int32) (ra : Nat → Nat) (rsize : Int32) (rf0 : Nat → Int32) (rf1 : Nat → Int32) (u1a : Nat → Nat) (u1size : Int32) (u1f0 : Nat → Int32) (u1f1 : Nat → Int32) (u1f2 : Nat → Int32) (p0 : Int32) (p1 : Int32) (p2 : Int32) (sz : Nat) (hi_x : (0 ≤ xtoday.toInt ∧ xtoday.toInt ≤ 399)) (hi_r : (0 ≤ rsize.toInt ∧ rsize.toInt ≤ 60)) (hr_r0 : ∀ k : Nat, k < 60 → 0 ≤ (rf0 k).toInt ∧ (rf0 k).toInt ≤ 399) (hi_u1 : (0 ≤ u1size.toInt ∧ u1size.toInt ≤ 120)) (hn0 : ¬ (0 ≤ p0.toInt ∧ p0.toInt ≤ 15 ∧ ((xf1 (p0).toNatClampNeg).toInt = 0 ∨ (xf1 (p0).toNatClampNeg).toInt = 1))) : Met l yX8_trial (wl yX8_trial cX8_trial 4 (some .int)) (RM 4 0 0) (mu_P D E [.ref xh, .int p0, .int p1, .int p2] [(xh, .inr (8, G8 xa xtrialRule xdropRule xtoday)), ((xa 0), .inl (E 0, 400, .inl xf0)), ((xa 1), .inl (E 0, 16, .inl xf1)), ((xa 2), .inl (E 0, 16, .inl xf2)), ((xa 3), .inl (E 3, 16, .inr (.inr (.inr (.inr xf3))))), ((xa 5), .inl (E 0, 9, .inl xf5)), ((xa 7), .inr (3, G3 ra rsize)), ((ra 0), .inl (E 0, 60, .inl rf0)), ((ra 1), .inl (E 0, 60, .inl rf1)), (xtrialRule, .inr (4, G4 u1a u1size)), ((u1a 0), .inl (E 0, 120, .inl u1f0)), ((u1a 1), .inl (E 0, 120, .inl u1f1)), ((u1a 2), .inl (E 0, 120, .inl u1f2))] sz) (va_Qi (fun (r : Int32) (u : (Nat → Int32) × (Nat → Int32)) => True) (mu_B D (va_A [(xh, .inr (8, G8 xa xtrialRule xdropRule xtoday)), ((xa 0), .inl (E 0, 400, .inl xf0)), ((xa 1), .inl (E 0, 16, .inl xf1)), ((xa 2), .inl (E 0, 16, .inl xf2)), ((xa 3), .inl (E 3, 16, .inr (.inr (.inr (.inr xf3))))), ((xa 5), .inl (E 0, 9, .inl xf5)), ((xa 7), .inr (3, G3 ra rsize)), ((ra 0), .inl (E 0, 60, .inl rf0)), ((ra 1), .inl (E 0, 60, .inl rf1)), (xtrialRule, .inr (4, G4 u1a u1size)), ((u1a 0), .inl (E 0, 120, .inl u1f0)), ((u1a 1), .inl (E 0, 120, .inl u1f1)), ((u1a 2), .inl (E 0, 120, .inl u1f2))] sz) (fun (u : (Nat → Int32) × (Nat → Int32)) => [(xh, .inr (8, G8 xa xtrialRule xdropRule xtoday)), ((xa 0), .inl (E 0, 400, .inl xf0)), ((xa 1), .inl (E 0, 16, .inl xf1)), ((xa 2), .inl (E 0, 16, .inl xf2)), ((xa 3), .inl (E 3, 16, .inr (.inr (.inr (.inr xf3))))), ((xa 5), .inl (E 0, 9, .inl u.2)), ((xa 7), .inr (3, G3 ra rsize)), ((ra 0), .inl (E 0, 60, .inl rf0)), ((ra 1), .inl (E 0, 60, .inl rf1)), (xtrialRule, .inr (4, G4 u1a u1size)), ((u1a 0), .inl (E 0, 120, .inl u1f0)), ((u1a 1), .inl (E 0, 120, .inl u1f1)), ((u1a 2), .inl (E 0, 120, .inl u.1))])) (va_A [(xh, .inr (8, G8 xa xtrialRule xdropRule xtoday)), ((xa 0), .inl (E 0, 400, .inl xf0)), ((xa 1), .inl (E 0, 16, .inl xf1)), ((xa 2), .inl (E 0, 16, .inl xf2)), ((xa 3), .inl (E 3, 16, .inr (.inr (.inr (.inr xf3))))), ((xa 5), .inl (E 0, 9, .inl xf5)), ((xa 7), .inr (3, G3 ra rsize)), ((ra 0), .inl (E 0, 60, .inl rf0)), ((ra 1), .inl (E 0, 60, .inl rf1)), (xtrialRule, .inr (4, G4 u1a u1size)), ((u1a 0), .inl (E 0, 120, .inl u1f0)), ((u1a 1), .inl (E 0, 120, .inl u1f1)), ((u1a 2), .inl (E 0, 120, .inl u1f2))] sz)) 0 0 (va_A [(xh, .inr (8, G8 xa xtrialRule xdropRule xtoday)), ((xa 0), .inl (E 0, 400, .inl xf0)), ((xa 1), .inl (E 0, 16, .inl xf1)), ((xa 2), .inl (E 0, 16, .inl xf2)), ((xa 3), .inl (E 3, 16, .inr (.inr (.inr (.inr xf3))))), ((xa 5), .inl (E 0, 9, .inl xf5)), ((xa 7), .inr (3, G3 ra rsize)), ((ra 0), .inl (E 0, 60, .inl rf0)), ((ra 1), .inl (E 0, 60, .inl rf1)), (xtrialRule, .inr (4, G4 u1a u1size)), ((u1a 0), .inl (E 0, 120, .inl u1f0)), ((u1a 1), .inl (E 0, 120, .inl u1f1)), ((u1a 2), .inl (E 0, 120, .inl u1f2))] sz) := by
  refine Met.ofW (cc := cX8_trial) (maxL := 4) (ret := (some .int)) (by decide) rfl ?_
  intro p e s m args below meth c s₁ B hml hv
  obtain ⟨rfl, hsz, hP, hK, hD0⟩ := hv
  have hx := B.exec; have hb := B.bytes; have hr := B.returns
  have hts := atoms_spec (ws := wl yX8_trial cX8_trial 4 (some .int)) B.pre
  have htb : ∀ w ∈ tb, w.before _ s = true := fun w h => hts w (List.mem_cons_of_mem _ h)
  have hown : s.vm.findClass RX8 = some m.cls := findClass_of_methodNamed B.named
  have hlocks := B.notSynchronized
  subst hsz
  have hD := hD0.self (sz := s.heap.size)
  generalize hAe : va_A [(xh, .inr (8, G8 xa xtrialRule xdropRule xtoday)), ((xa 0), .inl (E 0, 400, .inl xf0)), ((xa 1), .inl (E 0, 16, .inl xf1)), ((xa 2), .inl (E 0, 16, .inl xf2)), ((xa 3), .inl (E 3, 16, .inr (.inr (.inr (.inr xf3))))), ((xa 5), .inl (E 0, 9, .inl xf5)), ((xa 7), .inr (3, G3 ra rsize)), ((ra 0), .inl (E 0, 60, .inl rf0)), ((ra 1), .inl (E 0, 60, .inl rf1)), (xtrialRule, .inr (4, G4 u1a u1size)), ((u1a 0), .inl (E 0, 120, .inl u1f0)), ((u1a 1), .inl (E 0, 120, .inl u1f1)), ((u1a 2), .inl (E 0, 120, .inl u1f2))] s.heap.size = A at hD ⊢
  have hA : ∀ q : Nat, s.heap.size ≤ q → A q := fun q h => by rw [← hAe]; exact Or.inr h
  have hS : va_S A s.heap s.heap [] := va_S.rf
  have hP : va_P D vwCl [(xh, .inr (8, G8 xa xtrialRule xdropRule xtoday)), ((xa 0), .inl (E 0, 400, .inl xf0)), ((xa 1), .inl (E 0, 16, .inl xf1)), ((xa 2), .inl (E 0, 16, .inl xf2)), ((xa 3), .inl (E 3, 16, .inr (.inr (.inr (.inr xf3))))), ((xa 5), .inl (E 0, 9, .inl xf5)), ((xa 7), .inr (3, G3 ra rsize)), ((ra 0), .inl (E 0, 60, .inl rf0)), ((ra 1), .inl (E 0, 60, .inl rf1)), (xtrialRule, .inr (4, G4 u1a u1size)), ((u1a 0), .inl (E 0, 120, .inl u1f0)), ((u1a 1), .inl (E 0, 120, .inl u1f1)), ((u1a 2), .inl (E 0, 120, .inl u1f2))] s.heap := hP
  have hl := lv_entry ([.ref xh, .int p0, .int p1, .int p2]) (n := 4) (Nat.le_of_ble_eq_true rfl)
  rw [lg_entry_eq]
  generalize (lg_sl ([.ref xh, .int p0, .int p1, .int p2]) ++ List.replicate (4 - (lg_sl ([.ref xh, .int p0, .int p1, .int p2])).length) Slot.unset).toArray = ls at hl ⊢
  have hl : lv_has ls 4 [(0, .ref xh), (1, .int p0), (2, .int p1), (3, .int p2)] := hl
  have lo_p0 := i_lo p0; have hi_p0 := i_hi p0
  have lo_p1 := i_lo p1; have hi_p1 := i_hi p1
  have lo_p2 := i_lo p2; have hi_p2 := i_hi p2
  refine lv_aload_n hx hb dX8_trial_0 rfl (lv_at hl 0 rfl) ?_
  refine lv_iload_n hx hb dX8_trial_1 rfl (lv_at hl 1 rfl) ?_
  refine lv_iload_n hx hb dX8_trial_2 rfl (lv_at hl 2 rfl) ?_
  refine lv_iload_n hx hb dX8_trial_3 rfl (lv_at hl 3 rfl) ?_
  refine callRV (rest := []) (As := [.int p0, .int p1, .int p2]) hx hb hml hown htb hK (g_X8_refusalOfStretch_N l D E xh xa xtrialRule xdropRule xtoday xf1 xf3 p0 p1 p2 (by (try dsimp only); omega) hn0) ok_X8_refusalOfStretch k_486 k_488 ks_5 k_1 k_489 ⟨(Nat.le_of_ble_eq_true rfl), (Nat.le_of_ble_eq_true rfl)⟩ ⟨(Nat.le_of_ble_eq_true rfl), (Nat.le_of_ble_eq_true rfl)⟩ hl.1 (Nat.le_of_ble_eq_true rfl) rfl rfl dX8_trial_4 (hP.sub (ws' := [(xh, .inr (8, G8 xa xtrialRule xdropRule xtoday)), ((xa 1), .inl (E 0, 16, .inl xf1)), ((xa 3), .inl (E 3, 16, .inr (.inr (.inr (.inr xf3)))))]) [0, 2, 4] rfl) rfl rfl 0 rfl (fun r_1 hw_2 => ?_)
  refine lv_if_ne (tgt := 20) hx hb dX8_trial_7 (by decide) (fun c_4 => ?_) (fun c_4 => ?_)
  ·
    have ic_4 : r_1.toInt ≠ 0 := mt (g_eq rfl t_0).mpr c_4
    clear c_4
    refine lv_ldc hx hb hown (htb _ k_386) dX8_trial_20 ?_
    have hP9 := hP.sub (ws' := [(xh, .inr (8, G8 xa xtrialRule xdropRule xtoday)), ((xa 0), .inl (E 0, 400, .inl xf0)), ((xa 1), .inl (E 0, 16, .inl xf1)), ((xa 2), .inl (E 0, 16, .inl xf2)), ((xa 3), .inl (E 3, 16, .inr (.inr (.inr (.inr xf3))))), ((xa 5), .inl (E 0, 9, .inl xf5)), ((xa 7), .inr (3, G3 ra rsize)), ((ra 0), .inl (E 0, 60, .inl rf0)), ((ra 1), .inl (E 0, 60, .inl rf1)), (xtrialRule, .inr (4, G4 u1a u1size)), ((u1a 0), .inl (E 0, 120, .inl u1f0)), ((u1a 1), .inl (E 0, 120, .inl u1f1)), ((u1a 2), .inl (E 0, 120, .inl u1f2))]) [0, 1, 2, 3, 4, 5, 6, 7, 8, 9, 10, 11, 12] rfl
    have hD9 := hD.sub (ws' := [(xh, .inr (8, G8 xa xtrialRule xdropRule xtoday)), ((xa 0), .inl (E 0, 400, .inl xf0)), ((xa 1), .inl (E 0, 16, .inl xf1)), ((xa 2), .inl (E 0, 16, .inl xf2)), ((xa 3), .inl (E 3, 16, .inr (.inr (.inr (.inr xf3))))), ((xa 5), .inl (E 0, 9, .inl xf5)), ((xa 7), .inr (3, G3 ra rsize)), ((ra 0), .inl (E 0, 60, .inl rf0)), ((ra 1), .inl (E 0, 60, .inl rf1)), (xtrialRule, .inr (4, G4 u1a u1size)), ((u1a 0), .inl (E 0, 120, .inl u1f0)), ((u1a 1), .inl (E 0, 120, .inl u1f1)), ((u1a 2), .inl (E 0, 120, .inl u1f2))]) [0, 1, 2, 3, 4, 5, 6, 7, 8, 9, 10, 11, 12] (by decide) rfl
    exact W.iret (v := (-2000000000)) hx hb hr (fun t ht hW => ⟨⟨(-2000000000), (u1f2, xf5), rfl, trivial, by rw [ht]; exact hP9, hD9⟩, hS.F ht⟩) hS.2.2 dX8_trial_22
  ·
    have ic_4 : r_1.toInt = 0 := (g_eq rfl t_0).mp c_4
    clear c_4
    refine lv_aload_n hx hb dX8_trial_10 rfl (lv_at hl 0 rfl) ?_
    refine lv_iload_n hx hb dX8_trial_11 rfl (lv_at hl 1 rfl) ?_
    refine lv_iload_n hx hb dX8_trial_12 rfl (lv_at hl 2 rfl) ?_
    refine lv_iload_n hx hb dX8_trial_13 rfl (lv_at hl 3 rfl) ?_
    refine callRV (rest := []) (As := [.int p0, .int p1, .int p2]) hx hb hml hown htb hK (g_X8_hasTrial_N l D E xh xa xtrialRule xdropRule xtoday xf1 xf3 p0 p1 p2 (by (try dsimp only); omega) hn0) ok_X8_hasTrial k_712 k_714 ks_24 k_1 k_715 ⟨(Nat.le_of_ble_eq_true rfl), (Nat.le_of_ble_eq_true rfl)⟩ ⟨(Nat.le_of_ble_eq_true rfl), (Nat.le_of_ble_eq_true rfl)⟩ hl.1 (Nat.le_of_ble_eq_true rfl) rfl rfl dX8_trial_14 (hP.sub (ws' := [(xh, .inr (8, G8 xa xtrialRule xdropRule xtoday)), ((xa 1), .inl (E 0, 16, .inl xf1)), ((xa 3), .inl (E 3, 16, .inr (.inr (.inr (.inr xf3)))))]) [0, 2, 4] rfl) rfl rfl 0 rfl (fun r_5 hw_6 => ?_)
    refine lv_if_ne (tgt := 23) hx hb dX8_trial_17 (by decide) (fun c_8 => ?_) (fun c_8 => ?_)
    ·
      have ic_8 : r_5.toInt ≠ 0 := mt (g_eq rfl t_0).mpr c_8
      clear c_8
      refine lv_aload_n hx hb dX8_trial_23 rfl (lv_at hl 0 rfl) ?_
      refine lv_iload_n hx hb dX8_trial_24 rfl (lv_at hl 1 rfl) ?_
      refine lv_iload_n hx hb dX8_trial_25 rfl (lv_at hl 3 rfl) ?_
      refine lv_iload_n hx hb dX8_trial_26 rfl (lv_at hl 2 rfl) ?_
      refine lv_isub hx hb dX8_trial_27 ?_
      refine lv_topi (fun z_9 ez_9 => ?_)
      have hPc := hP.sub (ws' := [(xh, .inr (8, G8 xa xtrialRule xdropRule xtoday)), ((xa 0), .inl (E 0, 400, .inl xf0)), ((xa 1), .inl (E 0, 16, .inl xf1)), ((xa 2), .inl (E 0, 16, .inl xf2)), ((xa 5), .inl (E 0, 9, .inl xf5)), ((xa 7), .inr (3, G3 ra rsize)), ((ra 0), .inl (E 0, 60, .inl rf0)), ((ra 1), .inl (E 0, 60, .inl rf1)), (xtrialRule, .inr (4, G4 u1a u1size)), ((u1a 0), .inl (E 0, 120, .inl u1f0)), ((u1a 1), .inl (E 0, 120, .inl u1f1)), ((u1a 2), .inl (E 0, 120, .inl u1f2))]) [0, 1, 2, 3, 5, 6, 7, 8, 9, 10, 11, 12] rfl
      have hDc := hD.sub (ws' := [(xh, .inr (8, G8 xa xtrialRule xdropRule xtoday)), ((xa 0), .inl (E 0, 400, .inl xf0)), ((xa 1), .inl (E 0, 16, .inl xf1)), ((xa 2), .inl (E 0, 16, .inl xf2)), ((xa 5), .inl (E 0, 9, .inl xf5)), ((xa 7), .inr (3, G3 ra rsize)), ((ra 0), .inl (E 0, 60, .inl rf0)), ((ra 1), .inl (E 0, 60, .inl rf1)), (xtrialRule, .inr (4, G4 u1a u1size)), ((u1a 0), .inl (E 0, 120, .inl u1f0)), ((u1a 1), .inl (E 0, 120, .inl u1f1)), ((u1a 2), .inl (E 0, 120, .inl u1f2))]) [0, 1, 2, 3, 5, 6, 7, 8, 9, 10, 11, 12] (by decide) rfl
      refine aft_i (runMV (rest := []) (As := [.int p0, .int z_9]) hx hb hml hown htb hK (g_X8_workOutTrial l D E xh xa xtrialRule xdropRule xtoday xf0 xf1 xf2 xf5 ra rsize rf0 rf1 u1a u1size u1f0 u1f1 u1f2 p0 z_9 _ (by (try dsimp only); omega) (by (try dsimp only); omega) hr_r0 (by (try dsimp only); omega)) ok_X8_workOutTrial k_716 k_718 ks_25 k_1 k_719 ⟨(Nat.le_of_ble_eq_true rfl), (Nat.le_of_ble_eq_true rfl)⟩ ⟨(Nat.le_of_ble_eq_true rfl), (Nat.le_of_ble_eq_true rfl)⟩ hl.1 (Nat.le_of_ble_eq_true rfl) rfl rfl dX8_trial_28 hPc hDc rfl rfl 0 rfl) hP hD hS hA [0, 1, 2, 3, 5, 6, 7, 8, 9, 10, 11, 12] [4] (wr := [((xa 3), .inl (E 3, 16, .inr (.inr (.inr (.inr xf3)))))]) rfl rfl (by decide) (by decide) (fun r_10 u_12 H locs hw_11 hP hD hS => ?_)
      clear hPc hDc
      obtain ⟨w_13, w_14⟩ := u_12
      try dsimp only at hw_11
      have hP : va_P D vwCl [((xa 3), .inl (E 3, 16, .inr (.inr (.inr (.inr xf3))))), (xh, .inr (8, G8 xa xtrialRule xdropRule xtoday)), ((xa 0), .inl (E 0, 400, .inl xf0)), ((xa 1), .inl (E 0, 16, .inl xf1)), ((xa 2), .inl (E 0, 16, .inl xf2)), ((xa 5), .inl (E 0, 9, .inl w_14)), ((xa 7), .inr (3, G3 ra rsize)), ((ra 0), .inl (E 0, 60, .inl rf0)), ((ra 1), .inl (E 0, 60, .inl rf1)), (xtrialRule, .inr (4, G4 u1a u1size)), ((u1a 0), .inl (E 0, 120, .inl u1f0)), ((u1a 1), .inl (E 0, 120, .inl u1f1)), ((u1a 2), .inl (E 0, 120, .inl w_13))] H := hP
      have hD := toW hP hD rfl
      have hP9 := hP.sub (ws' := [(xh, .inr (8, G8 xa xtrialRule xdropRule xtoday)), ((xa 0), .inl (E 0, 400, .inl xf0)), ((xa 1), .inl (E 0, 16, .inl xf1)), ((xa 2), .inl (E 0, 16, .inl xf2)), ((xa 3), .inl (E 3, 16, .inr (.inr (.inr (.inr xf3))))), ((xa 5), .inl (E 0, 9, .inl w_14)), ((xa 7), .inr (3, G3 ra rsize)), ((ra 0), .inl (E 0, 60, .inl rf0)), ((ra 1), .inl (E 0, 60, .inl rf1)), (xtrialRule, .inr (4, G4 u1a u1size)), ((u1a 0), .inl (E 0, 120, .inl u1f0)), ((u1a 1), .inl (E 0, 120, .inl u1f1)), ((u1a 2), .inl (E 0, 120, .inl w_13))]) [1, 2, 3, 4, 0, 5, 6, 7, 8, 9, 10, 11, 12] rfl
      have hD9 := hD.sub (ws' := [(xh, .inr (8, G8 xa xtrialRule xdropRule xtoday)), ((xa 0), .inl (E 0, 400, .inl xf0)), ((xa 1), .inl (E 0, 16, .inl xf1)), ((xa 2), .inl (E 0, 16, .inl xf2)), ((xa 3), .inl (E 3, 16, .inr (.inr (.inr (.inr xf3))))), ((xa 5), .inl (E 0, 9, .inl w_14)), ((xa 7), .inr (3, G3 ra rsize)), ((ra 0), .inl (E 0, 60, .inl rf0)), ((ra 1), .inl (E 0, 60, .inl rf1)), (xtrialRule, .inr (4, G4 u1a u1size)), ((u1a 0), .inl (E 0, 120, .inl u1f0)), ((u1a 1), .inl (E 0, 120, .inl u1f1)), ((u1a 2), .inl (E 0, 120, .inl w_13))]) [1, 2, 3, 4, 0, 5, 6, 7, 8, 9, 10, 11, 12] (by decide) rfl
      exact W.iret (v := r_10) hx hb hr (fun t ht hW => ⟨⟨r_10, (w_13, w_14), rfl, trivial, by rw [ht]; exact hP9, hD9⟩, hS.F ht⟩) hS.2.2 dX8_trial_31
    ·
      have ic_8 : r_5.toInt = 0 := (g_eq rfl t_0).mp c_8
      clear c_8
      refine lv_ldc hx hb hown (htb _ k_386) dX8_trial_20 ?_
      have hP9 := hP.sub (ws' := [(xh, .inr (8, G8 xa xtrialRule xdropRule xtoday)), ((xa 0), .inl (E 0, 400, .inl xf0)), ((xa 1), .inl (E 0, 16, .inl xf1)), ((xa 2), .inl (E 0, 16, .inl xf2)), ((xa 3), .inl (E 3, 16, .inr (.inr (.inr (.inr xf3))))), ((xa 5), .inl (E 0, 9, .inl xf5)), ((xa 7), .inr (3, G3 ra rsize)), ((ra 0), .inl (E 0, 60, .inl rf0)), ((ra 1), .inl (E 0, 60, .inl rf1)), (xtrialRule, .inr (4, G4 u1a u1size)), ((u1a 0), .inl (E 0, 120, .inl u1f0)), ((u1a 1), .inl (E 0, 120, .inl u1f1)), ((u1a 2), .inl (E 0, 120, .inl u1f2))]) [0, 1, 2, 3, 4, 5, 6, 7, 8, 9, 10, 11, 12] rfl
      have hD9 := hD.sub (ws' := [(xh, .inr (8, G8 xa xtrialRule xdropRule xtoday)), ((xa 0), .inl (E 0, 400, .inl xf0)), ((xa 1), .inl (E 0, 16, .inl xf1)), ((xa 2), .inl (E 0, 16, .inl xf2)), ((xa 3), .inl (E 3, 16, .inr (.inr (.inr (.inr xf3))))), ((xa 5), .inl (E 0, 9, .inl xf5)), ((xa 7), .inr (3, G3 ra rsize)), ((ra 0), .inl (E 0, 60, .inl rf0)), ((ra 1), .inl (E 0, 60, .inl rf1)), (xtrialRule, .inr (4, G4 u1a u1size)), ((u1a 0), .inl (E 0, 120, .inl u1f0)), ((u1a 1), .inl (E 0, 120, .inl u1f1)), ((u1a 2), .inl (E 0, 120, .inl u1f2))]) [0, 1, 2, 3, 4, 5, 6, 7, 8, 9, 10, 11, 12] (by decide) rfl
      exact W.iret (v := (-2000000000)) hx hb hr (fun t ht hW => ⟨⟨(-2000000000), (u1f2, xf5), rfl, trivial, by rw [ht]; exact hP9, hD9⟩, hS.F ht⟩) hS.2.2 dX8_trial_22
set_option maxHeartbeats 4000000 in
set_option maxRecDepth 100000 in
theorem g_X8_trial_W (l : Launch) (D : va_G) (E : Nat → Nat) (xh : Nat) (xa : Nat → Nat) (xtrialRule : Nat) (xdropRule : Nat) (xtoday : Int32) (xf0 : Nat → Int32) (xf1 : Nat → Int32) (xf2 : Nat → Int32) (xf3 : Nat → Option Nat) (xf5 : Nat → Int32) (wh : Nat) (wa : Nat → Nat) (wf0 : Nat → Int32) (wf1 : Nat → Int32) (wf2 : Nat → Int32) (u1a : Nat → Nat) (u1size : Int32) (u1f0 : Nat → Int32) (u1f1 : Nat → Int32) (u1f2 : Nat → Int32) (ra : Nat → Nat) (rsize : Int32) (rf0 : Nat → Int32) (rf1 : Nat → Int32) (oa : Nat → Nat) (osize : Int32) (of0 : Nat → Int32) (of1 : Nat → Int32) (of2 : Nat → Int32) (of3 : Nat → Int32) (of4 : Nat → Int32) (p0 : Int32) (p1 : Int32) (p2 : Int32) (sz : Nat) (hi_x : (0 ≤ xtoday.toInt ∧ xtoday.toInt ≤ 399)) (hi_u1 : (0 ≤ u1size.toInt ∧ u1size.toInt ≤ 120)) (hi_r : (0 ≤ rsize.toInt ∧ rsize.toInt ≤ 60)) (hr_r0 : ∀ k : Nat, k < 60 → 0 ≤ (rf0 k).toInt ∧ (rf0 k).toInt ≤ 399) (hi_o : (0 ≤ osize.toInt ∧ osize.toInt ≤ 60)) (hk0 : (0 ≤ p0.toInt ∧ p0.toInt ≤ 15 ∧ ((xf1 (p0).toNatClampNeg).toInt = 0 ∨ (xf1 (p0).toNatClampNeg).toInt = 1))) (hw0 : xf3 (p0).toNatClampNeg = some wh) : Met l yX8_trial (wl yX8_trial cX8_trial 4 (some .int)) (RM 5 0 0) (mu_P D E [.ref xh, .int p0, .int p1, .int p2] [(xh, .inr (8, G8 xa xtrialRule xdropRule xtoday)), ((xa 0), .inl (E 0, 400, .inl xf0)), ((xa 1), .inl (E 0, 16, .inl xf1)), ((xa 2), .inl (E 0, 16, .inl xf2)), ((xa 3), .inl (E 3, 16, .inr (.inr (.inr (.inr xf3))))), ((xa 5), .inl (E 0, 9, .inl xf5)), (wh, .inr (7, G7 wa)), ((wa 0), .inl (E 0, 400, .inl wf0)), ((wa 1), .inl (E 0, 400, .inl wf1)), ((wa 2), .inl (E 0, 400, .inl wf2)), (xtrialRule, .inr (4, G4 u1a u1size)), ((u1a 0), .inl (E 0, 120, .inl u1f0)), ((u1a 1), .inl (E 0, 120, .inl u1f1)), ((u1a 2), .inl (E 0, 120, .inl u1f2)), ((xa 7), .inr (3, G3 ra rsize)), ((ra 0), .inl (E 0, 60, .inl rf0)), ((ra 1), .inl (E 0, 60, .inl rf1)), ((xa 6), .inr (2, G2 oa osize)), ((oa 0), .inl (E 0, 60, .inl of0)), ((oa 1), .inl (E 0, 60, .inl of1)), ((oa 2), .inl (E 0, 60, .inl of2)), ((oa 3), .inl (E 0, 60, .inl of3)), ((oa 4), .inl (E 0, 60, .inl of4))] sz) (va_Qi (fun (r : Int32) (u : (Nat → Int32) × (Nat → Int32) × (Int32) × (Nat → Int32) × (Nat → Int32)) => (∀ k : Nat, k < 60 → 0 ≤ (u.1 k).toInt ∧ (u.1 k).toInt ≤ 399) ∧ (0 ≤ u.2.2.1.toInt ∧ u.2.2.1.toInt ≤ 60)) (mu_B D (va_A [(xh, .inr (8, G8 xa xtrialRule xdropRule xtoday)), ((xa 0), .inl (E 0, 400, .inl xf0)), ((xa 1), .inl (E 0, 16, .inl xf1)), ((xa 2), .inl (E 0, 16, .inl xf2)), ((xa 3), .inl (E 3, 16, .inr (.inr (.inr (.inr xf3))))), ((xa 5), .inl (E 0, 9, .inl xf5)), (wh, .inr (7, G7 wa)), ((wa 0), .inl (E 0, 400, .inl wf0)), ((wa 1), .inl (E 0, 400, .inl wf1)), ((wa 2), .inl (E 0, 400, .inl wf2)), (xtrialRule, .inr (4, G4 u1a u1size)), ((u1a 0), .inl (E 0, 120, .inl u1f0)), ((u1a 1), .inl (E 0, 120, .inl u1f1)), ((u1a 2), .inl (E 0, 120, .inl u1f2)), ((xa 7), .inr (3, G3 ra rsize)), ((ra 0), .inl (E 0, 60, .inl rf0)), ((ra 1), .inl (E 0, 60, .inl rf1)), ((xa 6), .inr (2, G2 oa osize)), ((oa 0), .inl (E 0, 60, .inl of0)), ((oa 1), .inl (E 0, 60, .inl of1)), ((oa 2), .inl (E 0, 60, .inl of2)), ((oa 3), .inl (E 0, 60, .inl of3)), ((oa 4), .inl (E 0, 60, .inl of4))] sz) (fun (u : (Nat → Int32) × (Nat → Int32) × (Int32) × (Nat → Int32) × (Nat → Int32)) => [(xh, .inr (8, G8 xa xtrialRule xdropRule xtoday)), ((xa 0), .inl (E 0, 400, .inl xf0)), ((xa 1), .inl (E 0, 16, .inl xf1)), ((xa 2), .inl (E 0, 16, .inl xf2)), ((xa 3), .inl (E 3, 16, .inr (.inr (.inr (.inr xf3))))), ((xa 5), .inl (E 0, 9, .inl u.2.2.2.2)), (wh, .inr (7, G7 wa)), ((wa 0), .inl (E 0, 400, .inl wf0)), ((wa 1), .inl (E 0, 400, .inl wf1)), ((wa 2), .inl (E 0, 400, .inl wf2)), (xtrialRule, .inr (4, G4 u1a u1size)), ((u1a 0), .inl (E 0, 120, .inl u1f0)), ((u1a 1), .inl (E 0, 120, .inl u1f1)), ((u1a 2), .inl (E 0, 120, .inl u.2.2.2.1)), ((xa 7), .inr (3, G3 ra u.2.2.1)), ((ra 0), .inl (E 0, 60, .inl u.1)), ((ra 1), .inl (E 0, 60, .inl u.2.1)), ((xa 6), .inr (2, G2 oa osize)), ((oa 0), .inl (E 0, 60, .inl of0)), ((oa 1), .inl (E 0, 60, .inl of1)), ((oa 2), .inl (E 0, 60, .inl of2)), ((oa 3), .inl (E 0, 60, .inl of3)), ((oa 4), .inl (E 0, 60, .inl of4))])) (va_A [(xh, .inr (8, G8 xa xtrialRule xdropRule xtoday)), ((xa 0), .inl (E 0, 400, .inl xf0)), ((xa 1), .inl (E 0, 16, .inl xf1)), ((xa 2), .inl (E 0, 16, .inl xf2)), ((xa 3), .inl (E 3, 16, .inr (.inr (.inr (.inr xf3))))), ((xa 5), .inl (E 0, 9, .inl xf5)), (wh, .inr (7, G7 wa)), ((wa 0), .inl (E 0, 400, .inl wf0)), ((wa 1), .inl (E 0, 400, .inl wf1)), ((wa 2), .inl (E 0, 400, .inl wf2)), (xtrialRule, .inr (4, G4 u1a u1size)), ((u1a 0), .inl (E 0, 120, .inl u1f0)), ((u1a 1), .inl (E 0, 120, .inl u1f1)), ((u1a 2), .inl (E 0, 120, .inl u1f2)), ((xa 7), .inr (3, G3 ra rsize)), ((ra 0), .inl (E 0, 60, .inl rf0)), ((ra 1), .inl (E 0, 60, .inl rf1)), ((xa 6), .inr (2, G2 oa osize)), ((oa 0), .inl (E 0, 60, .inl of0)), ((oa 1), .inl (E 0, 60, .inl of1)), ((oa 2), .inl (E 0, 60, .inl of2)), ((oa 3), .inl (E 0, 60, .inl of3)), ((oa 4), .inl (E 0, 60, .inl of4))] sz)) 0 0 (va_A [(xh, .inr (8, G8 xa xtrialRule xdropRule xtoday)), ((xa 0), .inl (E 0, 400, .inl xf0)), ((xa 1), .inl (E 0, 16, .inl xf1)), ((xa 2), .inl (E 0, 16, .inl xf2)), ((xa 3), .inl (E 3, 16, .inr (.inr (.inr (.inr xf3))))), ((xa 5), .inl (E 0, 9, .inl xf5)), (wh, .inr (7, G7 wa)), ((wa 0), .inl (E 0, 400, .inl wf0)), ((wa 1), .inl (E 0, 400, .inl wf1)), ((wa 2), .inl (E 0, 400, .inl wf2)), (xtrialRule, .inr (4, G4 u1a u1size)), ((u1a 0), .inl (E 0, 120, .inl u1f0)), ((u1a 1), .inl (E 0, 120, .inl u1f1)), ((u1a 2), .inl (E 0, 120, .inl u1f2)), ((xa 7), .inr (3, G3 ra rsize)), ((ra 0), .inl (E 0, 60, .inl rf0)), ((ra 1), .inl (E 0, 60, .inl rf1)), ((xa 6), .inr (2, G2 oa osize)), ((oa 0), .inl (E 0, 60, .inl of0)), ((oa 1), .inl (E 0, 60, .inl of1)), ((oa 2), .inl (E 0, 60, .inl of2)), ((oa 3), .inl (E 0, 60, .inl of3)), ((oa 4), .inl (E 0, 60, .inl of4))] sz) := by
  refine Met.ofW (cc := cX8_trial) (maxL := 4) (ret := (some .int)) (by decide) rfl ?_
  intro p e s m args below meth c s₁ B hml hv
  obtain ⟨rfl, hsz, hP, hK, hD0⟩ := hv
  have hx := B.exec; have hb := B.bytes; have hr := B.returns
  have hts := atoms_spec (ws := wl yX8_trial cX8_trial 4 (some .int)) B.pre
  have htb : ∀ w ∈ tb, w.before _ s = true := fun w h => hts w (List.mem_cons_of_mem _ h)
  have hown : s.vm.findClass RX8 = some m.cls := findClass_of_methodNamed B.named
  have hlocks := B.notSynchronized
  subst hsz
  have hD := hD0.self (sz := s.heap.size)
  generalize hAe : va_A [(xh, .inr (8, G8 xa xtrialRule xdropRule xtoday)), ((xa 0), .inl (E 0, 400, .inl xf0)), ((xa 1), .inl (E 0, 16, .inl xf1)), ((xa 2), .inl (E 0, 16, .inl xf2)), ((xa 3), .inl (E 3, 16, .inr (.inr (.inr (.inr xf3))))), ((xa 5), .inl (E 0, 9, .inl xf5)), (wh, .inr (7, G7 wa)), ((wa 0), .inl (E 0, 400, .inl wf0)), ((wa 1), .inl (E 0, 400, .inl wf1)), ((wa 2), .inl (E 0, 400, .inl wf2)), (xtrialRule, .inr (4, G4 u1a u1size)), ((u1a 0), .inl (E 0, 120, .inl u1f0)), ((u1a 1), .inl (E 0, 120, .inl u1f1)), ((u1a 2), .inl (E 0, 120, .inl u1f2)), ((xa 7), .inr (3, G3 ra rsize)), ((ra 0), .inl (E 0, 60, .inl rf0)), ((ra 1), .inl (E 0, 60, .inl rf1)), ((xa 6), .inr (2, G2 oa osize)), ((oa 0), .inl (E 0, 60, .inl of0)), ((oa 1), .inl (E 0, 60, .inl of1)), ((oa 2), .inl (E 0, 60, .inl of2)), ((oa 3), .inl (E 0, 60, .inl of3)), ((oa 4), .inl (E 0, 60, .inl of4))] s.heap.size = A at hD ⊢
  have hA : ∀ q : Nat, s.heap.size ≤ q → A q := fun q h => by rw [← hAe]; exact Or.inr h
  have hS : va_S A s.heap s.heap [] := va_S.rf
  have hP : va_P D vwCl [(xh, .inr (8, G8 xa xtrialRule xdropRule xtoday)), ((xa 0), .inl (E 0, 400, .inl xf0)), ((xa 1), .inl (E 0, 16, .inl xf1)), ((xa 2), .inl (E 0, 16, .inl xf2)), ((xa 3), .inl (E 3, 16, .inr (.inr (.inr (.inr xf3))))), ((xa 5), .inl (E 0, 9, .inl xf5)), (wh, .inr (7, G7 wa)), ((wa 0), .inl (E 0, 400, .inl wf0)), ((wa 1), .inl (E 0, 400, .inl wf1)), ((wa 2), .inl (E 0, 400, .inl wf2)), (xtrialRule, .inr (4, G4 u1a u1size)), ((u1a 0), .inl (E 0, 120, .inl u1f0)), ((u1a 1), .inl (E 0, 120, .inl u1f1)), ((u1a 2), .inl (E 0, 120, .inl u1f2)), ((xa 7), .inr (3, G3 ra rsize)), ((ra 0), .inl (E 0, 60, .inl rf0)), ((ra 1), .inl (E 0, 60, .inl rf1)), ((xa 6), .inr (2, G2 oa osize)), ((oa 0), .inl (E 0, 60, .inl of0)), ((oa 1), .inl (E 0, 60, .inl of1)), ((oa 2), .inl (E 0, 60, .inl of2)), ((oa 3), .inl (E 0, 60, .inl of3)), ((oa 4), .inl (E 0, 60, .inl of4))] s.heap := hP
  have hl := lv_entry ([.ref xh, .int p0, .int p1, .int p2]) (n := 4) (Nat.le_of_ble_eq_true rfl)
  rw [lg_entry_eq]
  generalize (lg_sl ([.ref xh, .int p0, .int p1, .int p2]) ++ List.replicate (4 - (lg_sl ([.ref xh, .int p0, .int p1, .int p2])).length) Slot.unset).toArray = ls at hl ⊢
  have hl : lv_has ls 4 [(0, .ref xh), (1, .int p0), (2, .int p1), (3, .int p2)] := hl
  have lo_p0 := i_lo p0; have hi_p0 := i_hi p0
  have lo_p1 := i_lo p1; have hi_p1 := i_hi p1
  have lo_p2 := i_lo p2; have hi_p2 := i_hi p2
  refine lv_aload_n hx hb dX8_trial_0 rfl (lv_at hl 0 rfl) ?_
  refine lv_iload_n hx hb dX8_trial_1 rfl (lv_at hl 1 rfl) ?_
  refine lv_iload_n hx hb dX8_trial_2 rfl (lv_at hl 2 rfl) ?_
  refine lv_iload_n hx hb dX8_trial_3 rfl (lv_at hl 3 rfl) ?_
  refine callRV (rest := []) (As := [.int p0, .int p1, .int p2]) hx hb hml hown htb hK (g_X8_refusalOfStretch_W l D E xh xa xtrialRule xdropRule xtoday xf1 xf3 wh wa p0 p1 p2 (by (try dsimp only); omega) hk0 hw0) ok_X8_refusalOfStretch k_486 k_488 ks_5 k_1 k_489 ⟨(Nat.le_of_ble_eq_true rfl), (Nat.le_of_ble_eq_true rfl)⟩ ⟨(Nat.le_of_ble_eq_true rfl), (Nat.le_of_ble_eq_true rfl)⟩ hl.1 (Nat.le_of_ble_eq_true rfl) rfl rfl dX8_trial_4 (hP.sub (ws' := [(xh, .inr (8, G8 xa xtrialRule xdropRule xtoday)), ((xa 1), .inl (E 0, 16, .inl xf1)), ((xa 3), .inl (E 3, 16, .inr (.inr (.inr (.inr xf3))))), (wh, .inr (7, G7 wa))]) [0, 2, 4, 6] rfl) rfl rfl 0 rfl (fun r_1 hw_2 => ?_)
  refine lv_if_ne (tgt := 20) hx hb dX8_trial_7 (by decide) (fun c_4 => ?_) (fun c_4 => ?_)
  ·
    have ic_4 : r_1.toInt ≠ 0 := mt (g_eq rfl t_0).mpr c_4
    clear c_4
    refine lv_ldc hx hb hown (htb _ k_386) dX8_trial_20 ?_
    have hP9 := hP.sub (ws' := [(xh, .inr (8, G8 xa xtrialRule xdropRule xtoday)), ((xa 0), .inl (E 0, 400, .inl xf0)), ((xa 1), .inl (E 0, 16, .inl xf1)), ((xa 2), .inl (E 0, 16, .inl xf2)), ((xa 3), .inl (E 3, 16, .inr (.inr (.inr (.inr xf3))))), ((xa 5), .inl (E 0, 9, .inl xf5)), (wh, .inr (7, G7 wa)), ((wa 0), .inl (E 0, 400, .inl wf0)), ((wa 1), .inl (E 0, 400, .inl wf1)), ((wa 2), .inl (E 0, 400, .inl wf2)), (xtrialRule, .inr (4, G4 u1a u1size)), ((u1a 0), .inl (E 0, 120, .inl u1f0)), ((u1a 1), .inl (E 0, 120, .inl u1f1)), ((u1a 2), .inl (E 0, 120, .inl u1f2)), ((xa 7), .inr (3, G3 ra rsize)), ((ra 0), .inl (E 0, 60, .inl rf0)), ((ra 1), .inl (E 0, 60, .inl rf1)), ((xa 6), .inr (2, G2 oa osize)), ((oa 0), .inl (E 0, 60, .inl of0)), ((oa 1), .inl (E 0, 60, .inl of1)), ((oa 2), .inl (E 0, 60, .inl of2)), ((oa 3), .inl (E 0, 60, .inl of3)), ((oa 4), .inl (E 0, 60, .inl of4))]) [0, 1, 2, 3, 4, 5, 6, 7, 8, 9, 10, 11, 12, 13, 14, 15, 16, 17, 18, 19, 20, 21, 22] rfl
    have hD9 := hD.sub (ws' := [(xh, .inr (8, G8 xa xtrialRule xdropRule xtoday)), ((xa 0), .inl (E 0, 400, .inl xf0)), ((xa 1), .inl (E 0, 16, .inl xf1)), ((xa 2), .inl (E 0, 16, .inl xf2)), ((xa 3), .inl (E 3, 16, .inr (.inr (.inr (.inr xf3))))), ((xa 5), .inl (E 0, 9, .inl xf5)), (wh, .inr (7, G7 wa)), ((wa 0), .inl (E 0, 400, .inl wf0)), ((wa 1), .inl (E 0, 400, .inl wf1)), ((wa 2), .inl (E 0, 400, .inl wf2)), (xtrialRule, .inr (4, G4 u1a u1size)), ((u1a 0), .inl (E 0, 120, .inl u1f0)), ((u1a 1), .inl (E 0, 120, .inl u1f1)), ((u1a 2), .inl (E 0, 120, .inl u1f2)), ((xa 7), .inr (3, G3 ra rsize)), ((ra 0), .inl (E 0, 60, .inl rf0)), ((ra 1), .inl (E 0, 60, .inl rf1)), ((xa 6), .inr (2, G2 oa osize)), ((oa 0), .inl (E 0, 60, .inl of0)), ((oa 1), .inl (E 0, 60, .inl of1)), ((oa 2), .inl (E 0, 60, .inl of2)), ((oa 3), .inl (E 0, 60, .inl of3)), ((oa 4), .inl (E 0, 60, .inl of4))]) [0, 1, 2, 3, 4, 5, 6, 7, 8, 9, 10, 11, 12, 13, 14, 15, 16, 17, 18, 19, 20, 21, 22] (by decide) rfl
    exact W.iret (v := (-2000000000)) hx hb hr (fun t ht hW => ⟨⟨(-2000000000), (rf0, rf1, rsize, u1f2, xf5), rfl, ⟨hr_r0, (by (try dsimp only); omega)⟩, by rw [ht]; exact hP9, hD9⟩, hS.F ht⟩) hS.2.2 dX8_trial_22
  ·
    have ic_4 : r_1.toInt = 0 := (g_eq rfl t_0).mp c_4
    clear c_4
    refine lv_aload_n hx hb dX8_trial_10 rfl (lv_at hl 0 rfl) ?_
    refine lv_iload_n hx hb dX8_trial_11 rfl (lv_at hl 1 rfl) ?_
    refine lv_iload_n hx hb dX8_trial_12 rfl (lv_at hl 2 rfl) ?_
    refine lv_iload_n hx hb dX8_trial_13 rfl (lv_at hl 3 rfl) ?_
    have hPc := hP.sub (ws' := [(xh, .inr (8, G8 xa xtrialRule xdropRule xtoday)), ((xa 1), .inl (E 0, 16, .inl xf1)), ((xa 3), .inl (E 3, 16, .inr (.inr (.inr (.inr xf3))))), (wh, .inr (7, G7 wa)), ((wa 0), .inl (E 0, 400, .inl wf0)), ((wa 1), .inl (E 0, 400, .inl wf1)), ((wa 2), .inl (E 0, 400, .inl wf2)), (xtrialRule, .inr (4, G4 u1a u1size)), ((xa 7), .inr (3, G3 ra rsize)), ((ra 0), .inl (E 0, 60, .inl rf0)), ((ra 1), .inl (E 0, 60, .inl rf1)), ((xa 6), .inr (2, G2 oa osize)), ((oa 0), .inl (E 0, 60, .inl of0)), ((oa 1), .inl (E 0, 60, .inl of1)), ((oa 2), .inl (E 0, 60, .inl of2)), ((oa 3), .inl (E 0, 60, .inl of3)), ((oa 4), .inl (E 0, 60, .inl of4))]) [0, 2, 4, 6, 7, 8, 9, 10, 14, 15, 16, 17, 18, 19, 20, 21, 22] rfl
    have hDc := hD.sub (ws' := [(xh, .inr (8, G8 xa xtrialRule xdropRule xtoday)), ((xa 1), .inl (E 0, 16, .inl xf1)), ((xa 3), .inl (E 3, 16, .inr (.inr (.inr (.inr xf3))))), (wh, .inr (7, G7 wa)), ((wa 0), .inl (E 0, 400, .inl wf0)), ((wa 1), .inl (E 0, 400, .inl wf1)), ((wa 2), .inl (E 0, 400, .inl wf2)), (xtrialRule, .inr (4, G4 u1a u1size)), ((xa 7), .inr (3, G3 ra rsize)), ((ra 0), .inl (E 0, 60, .inl rf0)), ((ra 1), .inl (E 0, 60, .inl rf1)), ((xa 6), .inr (2, G2 oa osize)), ((oa 0), .inl (E 0, 60, .inl of0)), ((oa 1), .inl (E 0, 60, .inl of1)), ((oa 2), .inl (E 0, 60, .inl of2)), ((oa 3), .inl (E 0, 60, .inl of3)), ((oa 4), .inl (E 0, 60, .inl of4))]) [0, 2, 4, 6, 7, 8, 9, 10, 14, 15, 16, 17, 18, 19, 20, 21, 22] (by decide) rfl
    refine aft_i (runMV (rest := []) (As := [.int p0, .int p1, .int p2]) hx hb hml hown htb hK (g_X8_hasTrial_W l D E xh xa xtrialRule xdropRule xtoday xf1 xf3 wh wa wf0 wf1 wf2 u1a u1size ra rsize rf0 rf1 oa osize of0 of1 of2 of3 of4 p0 p1 p2 _ (by (try dsimp only); omega) (by (try dsimp only); omega) (by (try dsimp only); omega) hr_r0 (by (try dsimp only); omega) hk0 hw0 (by (try dsimp only); omega)) ok_X8_hasTrial k_712 k_714 ks_24 k_1 k_715 ⟨(Nat.le_of_ble_eq_true rfl), (Nat.le_of_ble_eq_true rfl)⟩ ⟨(Nat.le_of_ble_eq_true rfl), (Nat.le_of_ble_eq_true rfl)⟩ hl.1 (Nat.le_of_ble_eq_true rfl) rfl rfl dX8_trial_14 hPc hDc rfl rfl 0 rfl) hP hD hS hA [0, 2, 4, 6, 7, 8, 9, 10, 14, 15, 16, 17, 18, 19, 20, 21, 22] [1, 3, 5, 11, 12, 13] (wr := [((xa 0), .inl (E 0, 400, .inl xf0)), ((xa 2), .inl (E 0, 16, .inl xf2)), ((xa 5), .inl (E 0, 9, .inl xf5)), ((u1a 0), .inl (E 0, 120, .inl u1f0)), ((u1a 1), .inl (E 0, 120, .inl u1f1)), ((u1a 2), .inl (E 0, 120, .inl u1f2))]) rfl rfl (by decide) (by decide) (fun r_5 u_7 H locs hw_6 hP hD hS => ?_)
    clear hPc hDc
    obtain ⟨w_8, w_9, w_10⟩ := u_7
    try dsimp only at hw_6
    have hP : va_P D vwCl [((xa 0), .inl (E 0, 400, .inl xf0)), ((xa 2), .inl (E 0, 16, .inl xf2)), ((xa 5), .inl (E 0, 9, .inl xf5)), ((u1a 0), .inl (E 0, 120, .inl u1f0)), ((u1a 1), .inl (E 0, 120, .inl u1f1)), ((u1a 2), .inl (E 0, 120, .inl u1f2)), (xh, .inr (8, G8 xa xtrialRule xdropRule xtoday)), ((xa 1), .inl (E 0, 16, .inl xf1)), ((xa 3), .inl (E 3, 16, .inr (.inr (.inr (.inr xf3))))), (wh, .inr (7, G7 wa)), ((wa 0), .inl (E 0, 400, .inl wf0)), ((wa 1), .inl (E 0, 400, .inl wf1)), ((wa 2), .inl (E 0, 400, .inl wf2)), (xtrialRule, .inr (4, G4 u1a u1size)), ((xa 7), .inr (3, G3 ra w_10)), ((ra 0), .inl (E 0, 60, .inl w_8)), ((ra 1), .inl (E 0, 60, .inl w_9)), ((xa 6), .inr (2, G2 oa osize)), ((oa 0), .inl (E 0, 60, .inl of0)), ((oa 1), .inl (E 0, 60, .inl of1)), ((oa 2), .inl (E 0, 60, .inl of2)), ((oa 3), .inl (E 0, 60, .inl of3)), ((oa 4), .inl (E 0, 60, .inl of4))] H := hP
    have hD := toW hP hD rfl
    obtain ⟨hw_6_0, hw_6_1, hw_6_2⟩ := hw_6
    refine lv_if_ne (tgt := 23) hx hb dX8_trial_17 (by decide) (fun c_11 => ?_) (fun c_11 => ?_)
    ·
      have ic_11 : r_5.toInt ≠ 0 := mt (g_eq rfl t_0).mpr c_11
      clear c_11
      refine lv_aload_n hx hb dX8_trial_23 rfl (lv_at hl 0 rfl) ?_
      refine lv_iload_n hx hb dX8_trial_24 rfl (lv_at hl 1 rfl) ?_
      refine lv_iload_n hx hb dX8_trial_25 rfl (lv_at hl 3 rfl) ?_
      refine lv_iload_n hx hb dX8_trial_26 rfl (lv_at hl 2 rfl) ?_
      refine lv_isub hx hb dX8_trial_27 ?_
      refine lv_topi (fun z_12 ez_12 => ?_)
      have hPc := hP.sub (ws' := [(xh, .inr (8, G8 xa xtrialRule xdropRule xtoday)), ((xa 0), .inl (E 0, 400, .inl xf0)), ((xa 1), .inl (E 0, 16, .inl xf1)), ((xa 2), .inl (E 0, 16, .inl xf2)), ((xa 5), .inl (E 0, 9, .inl xf5)), ((xa 7), .inr (3, G3 ra w_10)), ((ra 0), .inl (E 0, 60, .inl w_8)), ((ra 1), .inl (E 0, 60, .inl w_9)), (xtrialRule, .inr (4, G4 u1a u1size)), ((u1a 0), .inl (E 0, 120, .inl u1f0)), ((u1a 1), .inl (E 0, 120, .inl u1f1)), ((u1a 2), .inl (E 0, 120, .inl u1f2))]) [6, 0, 7, 1, 2, 14, 15, 16, 13, 3, 4, 5] rfl
      have hDc := hD.sub (ws' := [(xh, .inr (8, G8 xa xtrialRule xdropRule xtoday)), ((xa 0), .inl (E 0, 400, .inl xf0)), ((xa 1), .inl (E 0, 16, .inl xf1)), ((xa 2), .inl (E 0, 16, .inl xf2)), ((xa 5), .inl (E 0, 9, .inl xf5)), ((xa 7), .inr (3, G3 ra w_10)), ((ra 0), .inl (E 0, 60, .inl w_8)), ((ra 1), .inl (E 0, 60, .inl w_9)), (xtrialRule, .inr (4, G4 u1a u1size)), ((u1a 0), .inl (E 0, 120, .inl u1f0)), ((u1a 1), .inl (E 0, 120, .inl u1f1)), ((u1a 2), .inl (E 0, 120, .inl u1f2))]) [6, 0, 7, 1, 2, 14, 15, 16, 13, 3, 4, 5] (by decide) rfl
      refine aft_i (runMV (rest := []) (As := [.int p0, .int z_12]) hx hb hml hown htb hK (g_X8_workOutTrial l D E xh xa xtrialRule xdropRule xtoday xf0 xf1 xf2 xf5 ra w_10 w_8 w_9 u1a u1size u1f0 u1f1 u1f2 p0 z_12 _ (by (try dsimp only); omega) (by (try dsimp only); omega) hw_6_0 (by (try dsimp only); omega)) ok_X8_workOutTrial k_716 k_718 ks_25 k_1 k_719 ⟨(Nat.le_of_ble_eq_true rfl), (Nat.le_of_ble_eq_true rfl)⟩ ⟨(Nat.le_of_ble_eq_true rfl), (Nat.le_of_ble_eq_true rfl)⟩ hl.1 (Nat.le_of_ble_eq_true rfl) rfl rfl dX8_trial_28 hPc hDc rfl rfl 0 rfl) hP hD hS hA [6, 0, 7, 1, 2, 14, 15, 16, 13, 3, 4, 5] [8, 9, 10, 11, 12, 17, 18, 19, 20, 21, 22] (wr := [((xa 3), .inl (E 3, 16, .inr (.inr (.inr (.inr xf3))))), (wh, .inr (7, G7 wa)), ((wa 0), .inl (E 0, 400, .inl wf0)), ((wa 1), .inl (E 0, 400, .inl wf1)), ((wa 2), .inl (E 0, 400, .inl wf2)), ((xa 6), .inr (2, G2 oa osize)), ((oa 0), .inl (E 0, 60, .inl of0)), ((oa 1), .inl (E 0, 60, .inl of1)), ((oa 2), .inl (E 0, 60, .inl of2)), ((oa 3), .inl (E 0, 60, .inl of3)), ((oa 4), .inl (E 0, 60, .inl of4))]) rfl rfl (by decide) (by decide) (fun r_13 u_15 H locs hw_14 hP hD hS => ?_)
      clear hPc hDc
      obtain ⟨w_16, w_17⟩ := u_15
      try dsimp only at hw_14
      have hP : va_P D vwCl [((xa 3), .inl (E 3, 16, .inr (.inr (.inr (.inr xf3))))), (wh, .inr (7, G7 wa)), ((wa 0), .inl (E 0, 400, .inl wf0)), ((wa 1), .inl (E 0, 400, .inl wf1)), ((wa 2), .inl (E 0, 400, .inl wf2)), ((xa 6), .inr (2, G2 oa osize)), ((oa 0), .inl (E 0, 60, .inl of0)), ((oa 1), .inl (E 0, 60, .inl of1)), ((oa 2), .inl (E 0, 60, .inl of2)), ((oa 3), .inl (E 0, 60, .inl of3)), ((oa 4), .inl (E 0, 60, .inl of4)), (xh, .inr (8, G8 xa xtrialRule xdropRule xtoday)), ((xa 0), .inl (E 0, 400, .inl xf0)), ((xa 1), .inl (E 0, 16, .inl xf1)), ((xa 2), .inl (E 0, 16, .inl xf2)), ((xa 5), .inl (E 0, 9, .inl w_17)), ((xa 7), .inr (3, G3 ra w_10)), ((ra 0), .inl (E 0, 60, .inl w_8)), ((ra 1), .inl (E 0, 60, .inl w_9)), (xtrialRule, .inr (4, G4 u1a u1size)), ((u1a 0), .inl (E 0, 120, .inl u1f0)), ((u1a 1), .inl (E 0, 120, .inl u1f1)), ((u1a 2), .inl (E 0, 120, .inl w_16))] H := hP
      have hD := toW hP hD rfl
      have hP9 := hP.sub (ws' := [(xh, .inr (8, G8 xa xtrialRule xdropRule xtoday)), ((xa 0), .inl (E 0, 400, .inl xf0)), ((xa 1), .inl (E 0, 16, .inl xf1)), ((xa 2), .inl (E 0, 16, .inl xf2)), ((xa 3), .inl (E 3, 16, .inr (.inr (.inr (.inr xf3))))), ((xa 5), .inl (E 0, 9, .inl w_17)), (wh, .inr (7, G7 wa)), ((wa 0), .inl (E 0, 400, .inl wf0)), ((wa 1), .inl (E 0, 400, .inl wf1)), ((wa 2), .inl (E 0, 400, .inl wf2)), (xtrialRule, .inr (4, G4 u1a u1size)), ((u1a 0), .inl (E 0, 120, .inl u1f0)), ((u1a 1), .inl (E 0, 120, .inl u1f1)), ((u1a 2), .inl (E 0, 120, .inl w_16)), ((xa 7), .inr (3, G3 ra w_10)), ((ra 0), .inl (E 0, 60, .inl w_8)), ((ra 1), .inl (E 0, 60, .inl w_9)), ((xa 6), .inr (2, G2 oa osize)), ((oa 0), .inl (E 0, 60, .inl of0)), ((oa 1), .inl (E 0, 60, .inl of1)), ((oa 2), .inl (E 0, 60, .inl of2)), ((oa 3), .inl (E 0, 60, .inl of3)), ((oa 4), .inl (E 0, 60, .inl of4))]) [11, 12, 13, 14, 0, 15, 1, 2, 3, 4, 19, 20, 21, 22, 16, 17, 18, 5, 6, 7, 8, 9, 10] rfl
      have hD9 := hD.sub (ws' := [(xh, .inr (8, G8 xa xtrialRule xdropRule xtoday)), ((xa 0), .inl (E 0, 400, .inl xf0)), ((xa 1), .inl (E 0, 16, .inl xf1)), ((xa 2), .inl (E 0, 16, .inl xf2)), ((xa 3), .inl (E 3, 16, .inr (.inr (.inr (.inr xf3))))), ((xa 5), .inl (E 0, 9, .inl w_17)), (wh, .inr (7, G7 wa)), ((wa 0), .inl (E 0, 400, .inl wf0)), ((wa 1), .inl (E 0, 400, .inl wf1)), ((wa 2), .inl (E 0, 400, .inl wf2)), (xtrialRule, .inr (4, G4 u1a u1size)), ((u1a 0), .inl (E 0, 120, .inl u1f0)), ((u1a 1), .inl (E 0, 120, .inl u1f1)), ((u1a 2), .inl (E 0, 120, .inl w_16)), ((xa 7), .inr (3, G3 ra w_10)), ((ra 0), .inl (E 0, 60, .inl w_8)), ((ra 1), .inl (E 0, 60, .inl w_9)), ((xa 6), .inr (2, G2 oa osize)), ((oa 0), .inl (E 0, 60, .inl of0)), ((oa 1), .inl (E 0, 60, .inl of1)), ((oa 2), .inl (E 0, 60, .inl of2)), ((oa 3), .inl (E 0, 60, .inl of3)), ((oa 4), .inl (E 0, 60, .inl of4))]) [11, 12, 13, 14, 0, 15, 1, 2, 3, 4, 19, 20, 21, 22, 16, 17, 18, 5, 6, 7, 8, 9, 10] (by decide) rfl
      exact W.iret (v := r_13) hx hb hr (fun t ht hW => ⟨⟨r_13, (w_8, w_9, w_10, w_16, w_17), rfl, ⟨hw_6_0, (by (try dsimp only); omega)⟩, by rw [ht]; exact hP9, hD9⟩, hS.F ht⟩) hS.2.2 dX8_trial_31
    ·
      have ic_11 : r_5.toInt = 0 := (g_eq rfl t_0).mp c_11
      clear c_11
      refine lv_ldc hx hb hown (htb _ k_386) dX8_trial_20 ?_
      have hP9 := hP.sub (ws' := [(xh, .inr (8, G8 xa xtrialRule xdropRule xtoday)), ((xa 0), .inl (E 0, 400, .inl xf0)), ((xa 1), .inl (E 0, 16, .inl xf1)), ((xa 2), .inl (E 0, 16, .inl xf2)), ((xa 3), .inl (E 3, 16, .inr (.inr (.inr (.inr xf3))))), ((xa 5), .inl (E 0, 9, .inl xf5)), (wh, .inr (7, G7 wa)), ((wa 0), .inl (E 0, 400, .inl wf0)), ((wa 1), .inl (E 0, 400, .inl wf1)), ((wa 2), .inl (E 0, 400, .inl wf2)), (xtrialRule, .inr (4, G4 u1a u1size)), ((u1a 0), .inl (E 0, 120, .inl u1f0)), ((u1a 1), .inl (E 0, 120, .inl u1f1)), ((u1a 2), .inl (E 0, 120, .inl u1f2)), ((xa 7), .inr (3, G3 ra w_10)), ((ra 0), .inl (E 0, 60, .inl w_8)), ((ra 1), .inl (E 0, 60, .inl w_9)), ((xa 6), .inr (2, G2 oa osize)), ((oa 0), .inl (E 0, 60, .inl of0)), ((oa 1), .inl (E 0, 60, .inl of1)), ((oa 2), .inl (E 0, 60, .inl of2)), ((oa 3), .inl (E 0, 60, .inl of3)), ((oa 4), .inl (E 0, 60, .inl of4))]) [6, 0, 7, 1, 8, 2, 9, 10, 11, 12, 13, 3, 4, 5, 14, 15, 16, 17, 18, 19, 20, 21, 22] rfl
      have hD9 := hD.sub (ws' := [(xh, .inr (8, G8 xa xtrialRule xdropRule xtoday)), ((xa 0), .inl (E 0, 400, .inl xf0)), ((xa 1), .inl (E 0, 16, .inl xf1)), ((xa 2), .inl (E 0, 16, .inl xf2)), ((xa 3), .inl (E 3, 16, .inr (.inr (.inr (.inr xf3))))), ((xa 5), .inl (E 0, 9, .inl xf5)), (wh, .inr (7, G7 wa)), ((wa 0), .inl (E 0, 400, .inl wf0)), ((wa 1), .inl (E 0, 400, .inl wf1)), ((wa 2), .inl (E 0, 400, .inl wf2)), (xtrialRule, .inr (4, G4 u1a u1size)), ((u1a 0), .inl (E 0, 120, .inl u1f0)), ((u1a 1), .inl (E 0, 120, .inl u1f1)), ((u1a 2), .inl (E 0, 120, .inl u1f2)), ((xa 7), .inr (3, G3 ra w_10)), ((ra 0), .inl (E 0, 60, .inl w_8)), ((ra 1), .inl (E 0, 60, .inl w_9)), ((xa 6), .inr (2, G2 oa osize)), ((oa 0), .inl (E 0, 60, .inl of0)), ((oa 1), .inl (E 0, 60, .inl of1)), ((oa 2), .inl (E 0, 60, .inl of2)), ((oa 3), .inl (E 0, 60, .inl of3)), ((oa 4), .inl (E 0, 60, .inl of4))]) [6, 0, 7, 1, 8, 2, 9, 10, 11, 12, 13, 3, 4, 5, 14, 15, 16, 17, 18, 19, 20, 21, 22] (by decide) rfl
      exact W.iret (v := (-2000000000)) hx hb hr (fun t ht hW => ⟨⟨(-2000000000), (w_8, w_9, w_10, u1f2, xf5), rfl, ⟨hw_6_0, (by (try dsimp only); omega)⟩, by rw [ht]; exact hP9, hD9⟩, hS.F ht⟩) hS.2.2 dX8_trial_22
set_option maxHeartbeats 4000000 in
set_option maxRecDepth 100000 in
theorem g_X8_gatherBeforeSailing (l : Launch) (D : va_G) (E : Nat → Nat) (xh : Nat) (xa : Nat → Nat) (xtrialRule : Nat) (xdropRule : Nat) (xtoday : Int32) (wh : Nat) (wa : Nat → Nat) (wf0 : Nat → Int32) (wf1 : Nat → Int32) (wf2 : Nat → Int32) (oa : Nat → Nat) (osize : Int32) (of0 : Nat → Int32) (of1 : Nat → Int32) (of2 : Nat → Int32) (of3 : Nat → Int32) (of4 : Nat → Int32) (ra : Nat → Nat) (rsize : Int32) (rf0 : Nat → Int32) (rf1 : Nat → Int32) (sz : Nat) (hi_x : (0 ≤ xtoday.toInt ∧ xtoday.toInt ≤ 399)) (hi_o : (0 ≤ osize.toInt ∧ osize.toInt ≤ 60)) (hi_r : (0 ≤ rsize.toInt ∧ rsize.toInt ≤ 60)) (hr_r0 : ∀ k : Nat, k < 60 → 0 ≤ (rf0 k).toInt ∧ (rf0 k).toInt ≤ 399) : Met l yX8_gatherBeforeSailing (wl yX8_gatherBeforeSailing cX8_gatherBeforeSailing 2 none) (RM 4 0 0) (mu_P D E [.ref xh, .ref wh] [(xh, .inr (8, G8 xa xtrialRule xdropRule xtoday)), (wh, .inr (7, G7 wa)), ((wa 0), .inl (E 0, 400, .inl wf0)), ((wa 1), .inl (E 0, 400, .inl wf1)), ((wa 2), .inl (E 0, 400, .inl wf2)), ((xa 6), .inr (2, G2 oa osize)), ((oa 0), .inl (E 0, 60, .inl of0)), ((oa 1), .inl (E 0, 60, .inl of1)), ((oa 2), .inl (E 0, 60, .inl of2)), ((oa 3), .inl (E 0, 60, .inl of3)), ((oa 4), .inl (E 0, 60, .inl of4)), ((xa 7), .inr (3, G3 ra rsize)), ((ra 0), .inl (E 0, 60, .inl rf0)), ((ra 1), .inl (E 0, 60, .inl rf1))] sz) (va_Qv (fun (u : (Nat → Int32) × (Nat → Int32) × (Int32)) => (∀ k : Nat, k < 60 → 0 ≤ (u.1 k).toInt ∧ (u.1 k).toInt ≤ 399) ∧ (0 ≤ u.2.2.toInt ∧ u.2.2.toInt ≤ 60) ∧ (HOLDS u.1 u.2.1 u.2.2 (rateL (rXn wf0 wf1 wf2 of0 of1 of2 of3 of4 osize) (loD xtoday) (xtoday.toInt - (loD xtoday).toInt).toNat))) (mu_B D (va_A [(xh, .inr (8, G8 xa xtrialRule xdropRule xtoday)), (wh, .inr (7, G7 wa)), ((wa 0), .inl (E 0, 400, .inl wf0)), ((wa 1), .inl (E 0, 400, .inl wf1)), ((wa 2), .inl (E 0, 400, .inl wf2)), ((xa 6), .inr (2, G2 oa osize)), ((oa 0), .inl (E 0, 60, .inl of0)), ((oa 1), .inl (E 0, 60, .inl of1)), ((oa 2), .inl (E 0, 60, .inl of2)), ((oa 3), .inl (E 0, 60, .inl of3)), ((oa 4), .inl (E 0, 60, .inl of4)), ((xa 7), .inr (3, G3 ra rsize)), ((ra 0), .inl (E 0, 60, .inl rf0)), ((ra 1), .inl (E 0, 60, .inl rf1))] sz) (fun (u : (Nat → Int32) × (Nat → Int32) × (Int32)) => [(xh, .inr (8, G8 xa xtrialRule xdropRule xtoday)), (wh, .inr (7, G7 wa)), ((wa 0), .inl (E 0, 400, .inl wf0)), ((wa 1), .inl (E 0, 400, .inl wf1)), ((wa 2), .inl (E 0, 400, .inl wf2)), ((xa 6), .inr (2, G2 oa osize)), ((oa 0), .inl (E 0, 60, .inl of0)), ((oa 1), .inl (E 0, 60, .inl of1)), ((oa 2), .inl (E 0, 60, .inl of2)), ((oa 3), .inl (E 0, 60, .inl of3)), ((oa 4), .inl (E 0, 60, .inl of4)), ((xa 7), .inr (3, G3 ra u.2.2)), ((ra 0), .inl (E 0, 60, .inl u.1)), ((ra 1), .inl (E 0, 60, .inl u.2.1))])) (va_A [(xh, .inr (8, G8 xa xtrialRule xdropRule xtoday)), (wh, .inr (7, G7 wa)), ((wa 0), .inl (E 0, 400, .inl wf0)), ((wa 1), .inl (E 0, 400, .inl wf1)), ((wa 2), .inl (E 0, 400, .inl wf2)), ((xa 6), .inr (2, G2 oa osize)), ((oa 0), .inl (E 0, 60, .inl of0)), ((oa 1), .inl (E 0, 60, .inl of1)), ((oa 2), .inl (E 0, 60, .inl of2)), ((oa 3), .inl (E 0, 60, .inl of3)), ((oa 4), .inl (E 0, 60, .inl of4)), ((xa 7), .inr (3, G3 ra rsize)), ((ra 0), .inl (E 0, 60, .inl rf0)), ((ra 1), .inl (E 0, 60, .inl rf1))] sz)) 0 0 (va_A [(xh, .inr (8, G8 xa xtrialRule xdropRule xtoday)), (wh, .inr (7, G7 wa)), ((wa 0), .inl (E 0, 400, .inl wf0)), ((wa 1), .inl (E 0, 400, .inl wf1)), ((wa 2), .inl (E 0, 400, .inl wf2)), ((xa 6), .inr (2, G2 oa osize)), ((oa 0), .inl (E 0, 60, .inl of0)), ((oa 1), .inl (E 0, 60, .inl of1)), ((oa 2), .inl (E 0, 60, .inl of2)), ((oa 3), .inl (E 0, 60, .inl of3)), ((oa 4), .inl (E 0, 60, .inl of4)), ((xa 7), .inr (3, G3 ra rsize)), ((ra 0), .inl (E 0, 60, .inl rf0)), ((ra 1), .inl (E 0, 60, .inl rf1))] sz) := by
  refine Met.ofW (cc := cX8_gatherBeforeSailing) (maxL := 2) (ret := none) (by decide) rfl ?_
  intro p e s m args below meth c s₁ B hml hv
  obtain ⟨rfl, hsz, hP, hK, hD0⟩ := hv
  have hx := B.exec; have hb := B.bytes; have hr := B.returns
  have hts := atoms_spec (ws := wl yX8_gatherBeforeSailing cX8_gatherBeforeSailing 2 none) B.pre
  have htb : ∀ w ∈ tb, w.before _ s = true := fun w h => hts w (List.mem_cons_of_mem _ h)
  have hown : s.vm.findClass RX8 = some m.cls := findClass_of_methodNamed B.named
  have hlocks := B.notSynchronized
  subst hsz
  have hD := hD0.self (sz := s.heap.size)
  generalize hAe : va_A [(xh, .inr (8, G8 xa xtrialRule xdropRule xtoday)), (wh, .inr (7, G7 wa)), ((wa 0), .inl (E 0, 400, .inl wf0)), ((wa 1), .inl (E 0, 400, .inl wf1)), ((wa 2), .inl (E 0, 400, .inl wf2)), ((xa 6), .inr (2, G2 oa osize)), ((oa 0), .inl (E 0, 60, .inl of0)), ((oa 1), .inl (E 0, 60, .inl of1)), ((oa 2), .inl (E 0, 60, .inl of2)), ((oa 3), .inl (E 0, 60, .inl of3)), ((oa 4), .inl (E 0, 60, .inl of4)), ((xa 7), .inr (3, G3 ra rsize)), ((ra 0), .inl (E 0, 60, .inl rf0)), ((ra 1), .inl (E 0, 60, .inl rf1))] s.heap.size = A at hD ⊢
  have hA : ∀ q : Nat, s.heap.size ≤ q → A q := fun q h => by rw [← hAe]; exact Or.inr h
  have hS : va_S A s.heap s.heap [] := va_S.rf
  have hP : va_P D vwCl [(xh, .inr (8, G8 xa xtrialRule xdropRule xtoday)), (wh, .inr (7, G7 wa)), ((wa 0), .inl (E 0, 400, .inl wf0)), ((wa 1), .inl (E 0, 400, .inl wf1)), ((wa 2), .inl (E 0, 400, .inl wf2)), ((xa 6), .inr (2, G2 oa osize)), ((oa 0), .inl (E 0, 60, .inl of0)), ((oa 1), .inl (E 0, 60, .inl of1)), ((oa 2), .inl (E 0, 60, .inl of2)), ((oa 3), .inl (E 0, 60, .inl of3)), ((oa 4), .inl (E 0, 60, .inl of4)), ((xa 7), .inr (3, G3 ra rsize)), ((ra 0), .inl (E 0, 60, .inl rf0)), ((ra 1), .inl (E 0, 60, .inl rf1))] s.heap := hP
  have hl := lv_entry ([.ref xh, .ref wh]) (n := 2) (Nat.le_of_ble_eq_true rfl)
  rw [lg_entry_eq]
  generalize (lg_sl ([.ref xh, .ref wh]) ++ List.replicate (2 - (lg_sl ([.ref xh, .ref wh])).length) Slot.unset).toArray = ls at hl ⊢
  have hl : lv_has ls 2 [(0, .ref xh), (1, .ref wh)] := hl
  refine lv_aload_n hx hb dX8_gatherBeforeSailing_0 rfl (lv_at hl 0 rfl) ?_
  refine va_get (D := D) (ci := 8) (v := .ref (xa 7)) (C := RX8) (T := TX8) (N := 14) hx hb htb iX8 hown hK.1 hP 0 rfl rfl 7 (by decide) (htb _ k_279) (fun _ h9 => h9) rfl dX8_gatherBeforeSailing_1 ?_
  refine lv_aload_n hx hb dX8_gatherBeforeSailing_4 rfl (lv_at hl 1 rfl) ?_
  refine lv_aload_n hx hb dX8_gatherBeforeSailing_5 rfl (lv_at hl 0 rfl) ?_
  refine va_get (D := D) (ci := 8) (v := .ref (xa 6)) (C := RX8) (T := TX8) (N := 14) hx hb htb iX8 hown hK.1 hP 0 rfl rfl 6 (by decide) (htb _ k_278) (fun _ h9 => h9) rfl dX8_gatherBeforeSailing_6 ?_
  refine lv_iconst (v := 0) hx hb dX8_gatherBeforeSailing_9 (by decide) ?_
  refine lv_aload_n hx hb dX8_gatherBeforeSailing_10 rfl (lv_at hl 0 rfl) ?_
  refine va_get (D := D) (ci := 8) (v := .int xtoday) (C := RX8) (T := TX8) (N := 14) hx hb htb iX8 hown hK.1 hP 0 rfl rfl 13 (by decide) (htb _ k_285) (fun _ h9 => h9) rfl dX8_gatherBeforeSailing_11 ?_
  refine lv_bipush (v := 30) hx hb dX8_gatherBeforeSailing_14 (by decide) ?_
  refine lv_isub hx hb dX8_gatherBeforeSailing_16 ?_
  refine lv_topi (fun z_1 ez_1 => ?_)
  have jz_1 : z_1.toInt = xtoday.toInt - 30 := by rw [ez_1]; exact g_sub rfl t_30 (by omega) (by omega)
  refine va_mmax hx hb (by rw [hml, hl.1]) hown (htb _ k_751) (htb _ k_732) (htb _ k_11) (htb _ k_733) (Nat.le_of_ble_eq_true rfl) (Nat.le_of_ble_eq_true rfl) (Nat.le_of_ble_eq_true rfl) (Nat.le_of_ble_eq_true rfl) dX8_gatherBeforeSailing_17 ?_
  refine lv_topi (fun z_2 ez_2 => ?_)
  have jz_2 := g_max t_0 rfl ez_2
  refine lv_aload_n hx hb dX8_gatherBeforeSailing_20 rfl (lv_at hl 0 rfl) ?_
  refine va_get (D := D) (ci := 8) (v := .int xtoday) (C := RX8) (T := TX8) (N := 14) hx hb htb iX8 hown hK.1 hP 0 rfl rfl 13 (by decide) (htb _ k_285) (fun _ h9 => h9) rfl dX8_gatherBeforeSailing_21 ?_
  have hPc := hP.sub (ws' := [((xa 7), .inr (3, G3 ra rsize)), ((ra 0), .inl (E 0, 60, .inl rf0)), ((ra 1), .inl (E 0, 60, .inl rf1)), (wh, .inr (7, G7 wa)), ((wa 0), .inl (E 0, 400, .inl wf0)), ((wa 1), .inl (E 0, 400, .inl wf1)), ((wa 2), .inl (E 0, 400, .inl wf2)), ((xa 6), .inr (2, G2 oa osize)), ((oa 0), .inl (E 0, 60, .inl of0)), ((oa 1), .inl (E 0, 60, .inl of1)), ((oa 2), .inl (E 0, 60, .inl of2)), ((oa 3), .inl (E 0, 60, .inl of3)), ((oa 4), .inl (E 0, 60, .inl of4))]) [11, 12, 13, 1, 2, 3, 4, 5, 6, 7, 8, 9, 10] rfl
  have hDc := hD.sub (ws' := [((xa 7), .inr (3, G3 ra rsize)), ((ra 0), .inl (E 0, 60, .inl rf0)), ((ra 1), .inl (E 0, 60, .inl rf1)), (wh, .inr (7, G7 wa)), ((wa 0), .inl (E 0, 400, .inl wf0)), ((wa 1), .inl (E 0, 400, .inl wf1)), ((wa 2), .inl (E 0, 400, .inl wf2)), ((xa 6), .inr (2, G2 oa osize)), ((oa 0), .inl (E 0, 60, .inl of0)), ((oa 1), .inl (E 0, 60, .inl of1)), ((oa 2), .inl (E 0, 60, .inl of2)), ((oa 3), .inl (E 0, 60, .inl of3)), ((oa 4), .inl (E 0, 60, .inl of4))]) [11, 12, 13, 1, 2, 3, 4, 5, 6, 7, 8, 9, 10] (by decide) rfl
  refine aft_v (runMV (rest := []) (As := [.ref wh, .ref (xa 6), .int z_2, .int xtoday]) hx hb hml hown htb hK (g_X3_gather l D E (xa 7) ra rsize rf0 rf1 wh wa wf0 wf1 wf2 (xa 6) oa osize of0 of1 of2 of3 of4 z_2 xtoday _ (by (try dsimp only); omega) hr_r0 (by (try dsimp only); omega) (by (try dsimp only); omega)) ok_X3_gather k_498 k_499 k_500 k_3 k_501 ⟨(Nat.le_of_ble_eq_true rfl), (Nat.le_of_ble_eq_true rfl)⟩ ⟨(Nat.le_of_ble_eq_true rfl), (Nat.le_of_ble_eq_true rfl)⟩ hl.1 (Nat.le_of_ble_eq_true rfl) rfl rfl dX8_gatherBeforeSailing_24 hPc hDc rfl rfl 0 rfl) hP hD hS hA [11, 12, 13, 1, 2, 3, 4, 5, 6, 7, 8, 9, 10] [0] (wr := [(xh, .inr (8, G8 xa xtrialRule xdropRule xtoday))]) rfl rfl (by decide) (by decide) (fun u_5 H locs hw_4 hP hD hS => ?_)
  clear hPc hDc
  obtain ⟨w_6, w_7, w_8⟩ := u_5
  try dsimp only at hw_4
  have hP : va_P D vwCl [(xh, .inr (8, G8 xa xtrialRule xdropRule xtoday)), ((xa 7), .inr (3, G3 ra w_8)), ((ra 0), .inl (E 0, 60, .inl w_6)), ((ra 1), .inl (E 0, 60, .inl w_7)), (wh, .inr (7, G7 wa)), ((wa 0), .inl (E 0, 400, .inl wf0)), ((wa 1), .inl (E 0, 400, .inl wf1)), ((wa 2), .inl (E 0, 400, .inl wf2)), ((xa 6), .inr (2, G2 oa osize)), ((oa 0), .inl (E 0, 60, .inl of0)), ((oa 1), .inl (E 0, 60, .inl of1)), ((oa 2), .inl (E 0, 60, .inl of2)), ((oa 3), .inl (E 0, 60, .inl of3)), ((oa 4), .inl (E 0, 60, .inl of4))] H := hP
  have hD := toW hP hD rfl
  obtain ⟨hw_4_0, hw_4_1, hw_4_2⟩ := hw_4
  have hw_4_2L : z_2 = loD xtoday := by unfold loD; first | (rw [if_pos (by omega)]; exact i_eq.mpr (by have := t_0; omega)) | (rw [if_neg (by omega)]; subst_vars; exact i_eq.mpr (by omega)) | (split <;> exact i_eq.mpr (by first | (have := t_0; omega) | (rw [g_sub rfl t_30 (by omega) (by omega)]; omega)))
  rw [hw_4_2L] at hw_4_2
  have hP9 := hP.sub (ws' := [(xh, .inr (8, G8 xa xtrialRule xdropRule xtoday)), (wh, .inr (7, G7 wa)), ((wa 0), .inl (E 0, 400, .inl wf0)), ((wa 1), .inl (E 0, 400, .inl wf1)), ((wa 2), .inl (E 0, 400, .inl wf2)), ((xa 6), .inr (2, G2 oa osize)), ((oa 0), .inl (E 0, 60, .inl of0)), ((oa 1), .inl (E 0, 60, .inl of1)), ((oa 2), .inl (E 0, 60, .inl of2)), ((oa 3), .inl (E 0, 60, .inl of3)), ((oa 4), .inl (E 0, 60, .inl of4)), ((xa 7), .inr (3, G3 ra w_8)), ((ra 0), .inl (E 0, 60, .inl w_6)), ((ra 1), .inl (E 0, 60, .inl w_7))]) [0, 4, 5, 6, 7, 8, 9, 10, 11, 12, 13, 1, 2, 3] rfl
  have hD9 := hD.sub (ws' := [(xh, .inr (8, G8 xa xtrialRule xdropRule xtoday)), (wh, .inr (7, G7 wa)), ((wa 0), .inl (E 0, 400, .inl wf0)), ((wa 1), .inl (E 0, 400, .inl wf1)), ((wa 2), .inl (E 0, 400, .inl wf2)), ((xa 6), .inr (2, G2 oa osize)), ((oa 0), .inl (E 0, 60, .inl of0)), ((oa 1), .inl (E 0, 60, .inl of1)), ((oa 2), .inl (E 0, 60, .inl of2)), ((oa 3), .inl (E 0, 60, .inl of3)), ((oa 4), .inl (E 0, 60, .inl of4)), ((xa 7), .inr (3, G3 ra w_8)), ((ra 0), .inl (E 0, 60, .inl w_6)), ((ra 1), .inl (E 0, 60, .inl w_7))]) [0, 4, 5, 6, 7, 8, 9, 10, 11, 12, 13, 1, 2, 3] (by decide) rfl
  exact W.vret hx hb hr (fun t ht hW => ⟨⟨(w_6, w_7, w_8), rfl, ⟨hw_4_0, (by (try dsimp only); omega), hw_4_2⟩, by rw [ht]; exact hP9, hD9⟩, hS.F ht⟩) hS.2.2 dX8_gatherBeforeSailing_27
set_option maxHeartbeats 4000000 in
set_option maxRecDepth 100000 in
theorem g_X8_isFitToSail_N (l : Launch) (D : va_G) (E : Nat → Nat) (xh : Nat) (xa : Nat → Nat) (xtrialRule : Nat) (xdropRule : Nat) (xtoday : Int32) (xf1 : Nat → Int32) (xf3 : Nat → Option Nat) (p0 : Int32) (hi_x : (0 ≤ xtoday.toInt ∧ xtoday.toInt ≤ 399)) (hn0 : ¬ (0 ≤ p0.toInt ∧ p0.toInt ≤ 15 ∧ ((xf1 (p0).toNatClampNeg).toInt = 0 ∨ (xf1 (p0).toNatClampNeg).toInt = 1))) : Met l yX8_isFitToSail (wl yX8_isFitToSail cX8_isFitToSail 3 (some .boolean)) (RM 2 0 0) (rd_P D E [.ref xh, .int p0] [(xh, .inr (8, G8 xa xtrialRule xdropRule xtoday)), ((xa 1), .inl (E 0, 16, .inl xf1)), ((xa 3), .inl (E 3, 16, .inr (.inr (.inr (.inr xf3)))))]) (rd_Q (fun r => (r.toInt = 0))) 0 0 (fun _ => False) := by
  refine Met.ofW (cc := cX8_isFitToSail) (maxL := 3) (ret := (some .boolean)) (by decide) rfl ?_
  intro p e s m args below meth c s₁ B hml hv
  obtain ⟨rfl, hP, hK⟩ := hv
  have hx := B.exec; have hb := B.bytes; have hr := B.returns
  have hts := atoms_spec (ws := wl yX8_isFitToSail cX8_isFitToSail 3 (some .boolean)) B.pre
  have htb : ∀ w ∈ tb, w.before _ s = true := fun w h => hts w (List.mem_cons_of_mem _ h)
  have hown : s.vm.findClass RX8 = some m.cls := findClass_of_methodNamed B.named
  have hlocks := B.notSynchronized
  have hP : va_P D vwCl [(xh, .inr (8, G8 xa xtrialRule xdropRule xtoday)), ((xa 1), .inl (E 0, 16, .inl xf1)), ((xa 3), .inl (E 3, 16, .inr (.inr (.inr (.inr xf3)))))] s.heap := hP
  have hl := lv_entry ([.ref xh, .int p0]) (n := 3) (Nat.le_of_ble_eq_true rfl)
  rw [lg_entry_eq]
  generalize (lg_sl ([.ref xh, .int p0]) ++ List.replicate (3 - (lg_sl ([.ref xh, .int p0])).length) Slot.unset).toArray = ls at hl ⊢
  have hl : lv_has ls 3 [(0, .ref xh), (1, .int p0)] := hl
  have lo_p0 := i_lo p0; have hi_p0 := i_hi p0
  refine lv_aload_n hx hb dX8_isFitToSail_0 rfl (lv_at hl 0 rfl) ?_
  refine lv_iload_n hx hb dX8_isFitToSail_1 rfl (lv_at hl 1 rfl) ?_
  refine rn_call (runRV (rest := []) (As := [.int p0]) hx hb hml hown htb (g_X8_watchAt_N l D E xh xa xtrialRule xdropRule xtoday xf1 xf3 p0 (by (try dsimp only); omega) hn0) ok_X8_watchAt k_369 k_371 ks_1 k_1 k_372 ⟨(Nat.le_of_ble_eq_true rfl), (Nat.le_of_ble_eq_true rfl)⟩ ⟨(Nat.le_of_ble_eq_true rfl), (Nat.le_of_ble_eq_true rfl)⟩ hl.1 (Nat.le_of_ble_eq_true rfl) rfl rfl dX8_isFitToSail_2 (prV (hP.sub (ws' := [(xh, .inr (8, G8 xa xtrialRule xdropRule xtoday)), ((xa 1), .inl (E 0, 16, .inl xf1)), ((xa 3), .inl (E 3, 16, .inr (.inr (.inr (.inr xf3)))))]) [0, 1, 2] rfl) hK rfl rfl 0 rfl)) ?_
  refine lv_astore_nN (lv' := [(2, .null), (0, .ref xh), (1, .int p0)]) hx hb dX8_isFitToSail_5 rfl hl (by decide) rfl (fun ls hl => ?_)
  refine lv_aload_nN hx hb dX8_isFitToSail_6 rfl (lv_at hl 0 rfl) ?_
  refine lv_ifnullN (tgt := 33) hx hb dX8_isFitToSail_7 (by decide) ?_
  refine lv_iconst (v := 0) hx hb dX8_isFitToSail_33 (by decide) ?_
  exact W.zret (v := 0) hx hb hr rfl (fun t ht hW => ⟨0, rfl, (by have h0 := t_0; (try dsimp only); omega), ht⟩) (fun q h => by cases h) dX8_isFitToSail_34
set_option maxHeartbeats 4000000 in
set_option maxRecDepth 100000 in
theorem g_X8_isFitToSail_W (l : Launch) (D : va_G) (E : Nat → Nat) (xh : Nat) (xa : Nat → Nat) (xtrialRule : Nat) (xdropRule : Nat) (xtoday : Int32) (xf1 : Nat → Int32) (xf3 : Nat → Option Nat) (wh : Nat) (wa : Nat → Nat) (wf0 : Nat → Int32) (wf1 : Nat → Int32) (wf2 : Nat → Int32) (wf3 : Nat → Int32) (oa : Nat → Nat) (osize : Int32) (of0 : Nat → Int32) (of1 : Nat → Int32) (of2 : Nat → Int32) (of3 : Nat → Int32) (of4 : Nat → Int32) (ra : Nat → Nat) (rsize : Int32) (rf0 : Nat → Int32) (rf1 : Nat → Int32) (p0 : Int32) (sz : Nat) (hi_x : (0 ≤ xtoday.toInt ∧ xtoday.toInt ≤ 399)) (hi_o : (0 ≤ osize.toInt ∧ osize.toInt ≤ 60)) (hi_r : (0 ≤ rsize.toInt ∧ rsize.toInt ≤ 60)) (hr_r0 : ∀ k : Nat, k < 60 → 0 ≤ (rf0 k).toInt ∧ (rf0 k).toInt ≤ 399) (hk0 : (0 ≤ p0.toInt ∧ p0.toInt ≤ 15 ∧ ((xf1 (p0).toNatClampNeg).toInt = 0 ∨ (xf1 (p0).toNatClampNeg).toInt = 1))) (hw0 : xf3 (p0).toNatClampNeg = some wh) : Met l yX8_isFitToSail (wl yX8_isFitToSail cX8_isFitToSail 3 (some .boolean)) (RM 5 0 0) (mu_P D E [.ref xh, .int p0] [(xh, .inr (8, G8 xa xtrialRule xdropRule xtoday)), ((xa 1), .inl (E 0, 16, .inl xf1)), ((xa 3), .inl (E 3, 16, .inr (.inr (.inr (.inr xf3))))), (wh, .inr (7, G7 wa)), ((wa 0), .inl (E 0, 400, .inl wf0)), ((wa 1), .inl (E 0, 400, .inl wf1)), ((wa 2), .inl (E 0, 400, .inl wf2)), ((wa 3), .inl (E 0, 400, .inl wf3)), ((xa 6), .inr (2, G2 oa osize)), ((oa 0), .inl (E 0, 60, .inl of0)), ((oa 1), .inl (E 0, 60, .inl of1)), ((oa 2), .inl (E 0, 60, .inl of2)), ((oa 3), .inl (E 0, 60, .inl of3)), ((oa 4), .inl (E 0, 60, .inl of4)), ((xa 7), .inr (3, G3 ra rsize)), ((ra 0), .inl (E 0, 60, .inl rf0)), ((ra 1), .inl (E 0, 60, .inl rf1))] sz) (va_Qi (fun (r : Int32) (u : (Nat → Int32) × (Nat → Int32) × (Int32)) => (∀ k : Nat, k < 60 → 0 ≤ (u.1 k).toInt ∧ (u.1 k).toInt ≤ 399) ∧ (0 ≤ u.2.2.toInt ∧ u.2.2.toInt ≤ 60) ∧ ((r.toInt = 1 ∧ ((wf3 (xtoday).toNatClampNeg).toInt = -1 ∧ (wf1 (xtoday).toNatClampNeg).toInt ≠ -1 ∧ 2 ≤ (rateL (rXn wf0 wf1 wf2 of0 of1 of2 of3 of4 osize) (loD xtoday) (xtoday.toInt - (loD xtoday).toInt).toNat).length)) ∨ (r.toInt = 0 ∧ ¬ ((wf3 (xtoday).toNatClampNeg).toInt = -1 ∧ (wf1 (xtoday).toNatClampNeg).toInt ≠ -1 ∧ 2 ≤ (rateL (rXn wf0 wf1 wf2 of0 of1 of2 of3 of4 osize) (loD xtoday) (xtoday.toInt - (loD xtoday).toInt).toNat).length)))) (mu_B D (va_A [(xh, .inr (8, G8 xa xtrialRule xdropRule xtoday)), ((xa 1), .inl (E 0, 16, .inl xf1)), ((xa 3), .inl (E 3, 16, .inr (.inr (.inr (.inr xf3))))), (wh, .inr (7, G7 wa)), ((wa 0), .inl (E 0, 400, .inl wf0)), ((wa 1), .inl (E 0, 400, .inl wf1)), ((wa 2), .inl (E 0, 400, .inl wf2)), ((wa 3), .inl (E 0, 400, .inl wf3)), ((xa 6), .inr (2, G2 oa osize)), ((oa 0), .inl (E 0, 60, .inl of0)), ((oa 1), .inl (E 0, 60, .inl of1)), ((oa 2), .inl (E 0, 60, .inl of2)), ((oa 3), .inl (E 0, 60, .inl of3)), ((oa 4), .inl (E 0, 60, .inl of4)), ((xa 7), .inr (3, G3 ra rsize)), ((ra 0), .inl (E 0, 60, .inl rf0)), ((ra 1), .inl (E 0, 60, .inl rf1))] sz) (fun (u : (Nat → Int32) × (Nat → Int32) × (Int32)) => [(xh, .inr (8, G8 xa xtrialRule xdropRule xtoday)), ((xa 1), .inl (E 0, 16, .inl xf1)), ((xa 3), .inl (E 3, 16, .inr (.inr (.inr (.inr xf3))))), (wh, .inr (7, G7 wa)), ((wa 0), .inl (E 0, 400, .inl wf0)), ((wa 1), .inl (E 0, 400, .inl wf1)), ((wa 2), .inl (E 0, 400, .inl wf2)), ((wa 3), .inl (E 0, 400, .inl wf3)), ((xa 6), .inr (2, G2 oa osize)), ((oa 0), .inl (E 0, 60, .inl of0)), ((oa 1), .inl (E 0, 60, .inl of1)), ((oa 2), .inl (E 0, 60, .inl of2)), ((oa 3), .inl (E 0, 60, .inl of3)), ((oa 4), .inl (E 0, 60, .inl of4)), ((xa 7), .inr (3, G3 ra u.2.2)), ((ra 0), .inl (E 0, 60, .inl u.1)), ((ra 1), .inl (E 0, 60, .inl u.2.1))])) (va_A [(xh, .inr (8, G8 xa xtrialRule xdropRule xtoday)), ((xa 1), .inl (E 0, 16, .inl xf1)), ((xa 3), .inl (E 3, 16, .inr (.inr (.inr (.inr xf3))))), (wh, .inr (7, G7 wa)), ((wa 0), .inl (E 0, 400, .inl wf0)), ((wa 1), .inl (E 0, 400, .inl wf1)), ((wa 2), .inl (E 0, 400, .inl wf2)), ((wa 3), .inl (E 0, 400, .inl wf3)), ((xa 6), .inr (2, G2 oa osize)), ((oa 0), .inl (E 0, 60, .inl of0)), ((oa 1), .inl (E 0, 60, .inl of1)), ((oa 2), .inl (E 0, 60, .inl of2)), ((oa 3), .inl (E 0, 60, .inl of3)), ((oa 4), .inl (E 0, 60, .inl of4)), ((xa 7), .inr (3, G3 ra rsize)), ((ra 0), .inl (E 0, 60, .inl rf0)), ((ra 1), .inl (E 0, 60, .inl rf1))] sz)) 0 0 (va_A [(xh, .inr (8, G8 xa xtrialRule xdropRule xtoday)), ((xa 1), .inl (E 0, 16, .inl xf1)), ((xa 3), .inl (E 3, 16, .inr (.inr (.inr (.inr xf3))))), (wh, .inr (7, G7 wa)), ((wa 0), .inl (E 0, 400, .inl wf0)), ((wa 1), .inl (E 0, 400, .inl wf1)), ((wa 2), .inl (E 0, 400, .inl wf2)), ((wa 3), .inl (E 0, 400, .inl wf3)), ((xa 6), .inr (2, G2 oa osize)), ((oa 0), .inl (E 0, 60, .inl of0)), ((oa 1), .inl (E 0, 60, .inl of1)), ((oa 2), .inl (E 0, 60, .inl of2)), ((oa 3), .inl (E 0, 60, .inl of3)), ((oa 4), .inl (E 0, 60, .inl of4)), ((xa 7), .inr (3, G3 ra rsize)), ((ra 0), .inl (E 0, 60, .inl rf0)), ((ra 1), .inl (E 0, 60, .inl rf1))] sz) := by
  refine Met.ofW (cc := cX8_isFitToSail) (maxL := 3) (ret := (some .boolean)) (by decide) rfl ?_
  intro p e s m args below meth c s₁ B hml hv
  obtain ⟨rfl, hsz, hP, hK, hD0⟩ := hv
  have hx := B.exec; have hb := B.bytes; have hr := B.returns
  have hts := atoms_spec (ws := wl yX8_isFitToSail cX8_isFitToSail 3 (some .boolean)) B.pre
  have htb : ∀ w ∈ tb, w.before _ s = true := fun w h => hts w (List.mem_cons_of_mem _ h)
  have hown : s.vm.findClass RX8 = some m.cls := findClass_of_methodNamed B.named
  have hlocks := B.notSynchronized
  subst hsz
  have hD := hD0.self (sz := s.heap.size)
  generalize hAe : va_A [(xh, .inr (8, G8 xa xtrialRule xdropRule xtoday)), ((xa 1), .inl (E 0, 16, .inl xf1)), ((xa 3), .inl (E 3, 16, .inr (.inr (.inr (.inr xf3))))), (wh, .inr (7, G7 wa)), ((wa 0), .inl (E 0, 400, .inl wf0)), ((wa 1), .inl (E 0, 400, .inl wf1)), ((wa 2), .inl (E 0, 400, .inl wf2)), ((wa 3), .inl (E 0, 400, .inl wf3)), ((xa 6), .inr (2, G2 oa osize)), ((oa 0), .inl (E 0, 60, .inl of0)), ((oa 1), .inl (E 0, 60, .inl of1)), ((oa 2), .inl (E 0, 60, .inl of2)), ((oa 3), .inl (E 0, 60, .inl of3)), ((oa 4), .inl (E 0, 60, .inl of4)), ((xa 7), .inr (3, G3 ra rsize)), ((ra 0), .inl (E 0, 60, .inl rf0)), ((ra 1), .inl (E 0, 60, .inl rf1))] s.heap.size = A at hD ⊢
  have hA : ∀ q : Nat, s.heap.size ≤ q → A q := fun q h => by rw [← hAe]; exact Or.inr h
  have hS : va_S A s.heap s.heap [] := va_S.rf
  have hP : va_P D vwCl [(xh, .inr (8, G8 xa xtrialRule xdropRule xtoday)), ((xa 1), .inl (E 0, 16, .inl xf1)), ((xa 3), .inl (E 3, 16, .inr (.inr (.inr (.inr xf3))))), (wh, .inr (7, G7 wa)), ((wa 0), .inl (E 0, 400, .inl wf0)), ((wa 1), .inl (E 0, 400, .inl wf1)), ((wa 2), .inl (E 0, 400, .inl wf2)), ((wa 3), .inl (E 0, 400, .inl wf3)), ((xa 6), .inr (2, G2 oa osize)), ((oa 0), .inl (E 0, 60, .inl of0)), ((oa 1), .inl (E 0, 60, .inl of1)), ((oa 2), .inl (E 0, 60, .inl of2)), ((oa 3), .inl (E 0, 60, .inl of3)), ((oa 4), .inl (E 0, 60, .inl of4)), ((xa 7), .inr (3, G3 ra rsize)), ((ra 0), .inl (E 0, 60, .inl rf0)), ((ra 1), .inl (E 0, 60, .inl rf1))] s.heap := hP
  have hl := lv_entry ([.ref xh, .int p0]) (n := 3) (Nat.le_of_ble_eq_true rfl)
  rw [lg_entry_eq]
  generalize (lg_sl ([.ref xh, .int p0]) ++ List.replicate (3 - (lg_sl ([.ref xh, .int p0])).length) Slot.unset).toArray = ls at hl ⊢
  have hl : lv_has ls 3 [(0, .ref xh), (1, .int p0)] := hl
  have lo_p0 := i_lo p0; have hi_p0 := i_hi p0
  refine lv_aload_n hx hb dX8_isFitToSail_0 rfl (lv_at hl 0 rfl) ?_
  refine lv_iload_n hx hb dX8_isFitToSail_1 rfl (lv_at hl 1 rfl) ?_
  refine rr_call (runRV (rest := []) (As := [.int p0]) hx hb hml hown htb (g_X8_watchAt_W l D E xh xa xtrialRule xdropRule xtoday xf1 xf3 wh wa p0 (by (try dsimp only); omega) hk0 hw0) ok_X8_watchAt k_369 k_371 ks_1 k_1 k_372 ⟨(Nat.le_of_ble_eq_true rfl), (Nat.le_of_ble_eq_true rfl)⟩ ⟨(Nat.le_of_ble_eq_true rfl), (Nat.le_of_ble_eq_true rfl)⟩ hl.1 (Nat.le_of_ble_eq_true rfl) rfl rfl dX8_isFitToSail_2 (prV (hP.sub (ws' := [(xh, .inr (8, G8 xa xtrialRule xdropRule xtoday)), ((xa 1), .inl (E 0, 16, .inl xf1)), ((xa 3), .inl (E 3, 16, .inr (.inr (.inr (.inr xf3))))), (wh, .inr (7, G7 wa))]) [0, 1, 2, 3] rfl) hK rfl rfl 0 rfl)) ?_
  refine lv_astore_n (lv' := [(2, .ref wh), (0, .ref xh), (1, .int p0)]) hx hb dX8_isFitToSail_5 rfl hl (by decide) rfl (fun ls hl => ?_)
  refine lv_aload_n hx hb dX8_isFitToSail_6 rfl (lv_at hl 0 rfl) ?_
  refine lv_ifnull hx hb dX8_isFitToSail_7 ?_
  refine lv_aload_n hx hb dX8_isFitToSail_10 rfl (lv_at hl 0 rfl) ?_
  refine lv_aload_n hx hb dX8_isFitToSail_11 rfl (lv_at hl 1 rfl) ?_
  refine va_get (D := D) (ci := 8) (v := .int xtoday) (C := RX8) (T := TX8) (N := 14) hx hb htb iX8 hown hK.1 hP 0 rfl rfl 13 (by decide) (htb _ k_285) (fun _ h9 => h9) rfl dX8_isFitToSail_12 ?_
  refine callRV (rest := []) (As := [.int xtoday]) hx hb hml hown htb hK (g_X7_holderOn l D E wh wa wf3 xtoday ) ok_X7_holderOn k_373 k_374 k_375 k_10 k_376 ⟨(Nat.le_of_ble_eq_true rfl), (Nat.le_of_ble_eq_true rfl)⟩ ⟨(Nat.le_of_ble_eq_true rfl), (Nat.le_of_ble_eq_true rfl)⟩ hl.1 (Nat.le_of_ble_eq_true rfl) rfl rfl dX8_isFitToSail_15 (hP.sub (ws' := [(wh, .inr (7, G7 wa)), ((wa 3), .inl (E 0, 400, .inl wf3))]) [3, 7] rfl) rfl rfl 0 rfl (fun r_4 hw_5 => ?_)
  have hw_5R : r_4.toInt = (wf3 (xtoday).toNatClampNeg).toInt := by rcases hw_5 with h9 | h9 <;> first | exact congrArg Int32.toInt h9.2 | (exfalso; omega)
  refine lv_iconst (v := (-1)) hx hb dX8_isFitToSail_18 (by decide) ?_
  refine lv_icmp_ne (tgt := 33) hx hb dX8_isFitToSail_19 (by decide) (fun c_7 => ?_) (fun c_7 => ?_)
  ·
    have ic_7 : r_4.toInt ≠ -1 := mt (g_eq rfl t_m1).mpr c_7
    clear c_7
    refine lv_iconst (v := 0) hx hb dX8_isFitToSail_33 (by decide) ?_
    have hP9 := hP.sub (ws' := [(xh, .inr (8, G8 xa xtrialRule xdropRule xtoday)), ((xa 1), .inl (E 0, 16, .inl xf1)), ((xa 3), .inl (E 3, 16, .inr (.inr (.inr (.inr xf3))))), (wh, .inr (7, G7 wa)), ((wa 0), .inl (E 0, 400, .inl wf0)), ((wa 1), .inl (E 0, 400, .inl wf1)), ((wa 2), .inl (E 0, 400, .inl wf2)), ((wa 3), .inl (E 0, 400, .inl wf3)), ((xa 6), .inr (2, G2 oa osize)), ((oa 0), .inl (E 0, 60, .inl of0)), ((oa 1), .inl (E 0, 60, .inl of1)), ((oa 2), .inl (E 0, 60, .inl of2)), ((oa 3), .inl (E 0, 60, .inl of3)), ((oa 4), .inl (E 0, 60, .inl of4)), ((xa 7), .inr (3, G3 ra rsize)), ((ra 0), .inl (E 0, 60, .inl rf0)), ((ra 1), .inl (E 0, 60, .inl rf1))]) [0, 1, 2, 3, 4, 5, 6, 7, 8, 9, 10, 11, 12, 13, 14, 15, 16] rfl
    have hD9 := hD.sub (ws' := [(xh, .inr (8, G8 xa xtrialRule xdropRule xtoday)), ((xa 1), .inl (E 0, 16, .inl xf1)), ((xa 3), .inl (E 3, 16, .inr (.inr (.inr (.inr xf3))))), (wh, .inr (7, G7 wa)), ((wa 0), .inl (E 0, 400, .inl wf0)), ((wa 1), .inl (E 0, 400, .inl wf1)), ((wa 2), .inl (E 0, 400, .inl wf2)), ((wa 3), .inl (E 0, 400, .inl wf3)), ((xa 6), .inr (2, G2 oa osize)), ((oa 0), .inl (E 0, 60, .inl of0)), ((oa 1), .inl (E 0, 60, .inl of1)), ((oa 2), .inl (E 0, 60, .inl of2)), ((oa 3), .inl (E 0, 60, .inl of3)), ((oa 4), .inl (E 0, 60, .inl of4)), ((xa 7), .inr (3, G3 ra rsize)), ((ra 0), .inl (E 0, 60, .inl rf0)), ((ra 1), .inl (E 0, 60, .inl rf1))]) [0, 1, 2, 3, 4, 5, 6, 7, 8, 9, 10, 11, 12, 13, 14, 15, 16] (by decide) rfl
    exact W.zret (v := 0) hx hb hr rfl (fun t ht hW => ⟨⟨0, (rf0, rf1, rsize), rfl, ⟨hr_r0, (by (try dsimp only); omega), (Or.inr ⟨by decide, fun hh => by have h1 := hh.1; have h2 := hh.2.1; omega⟩)⟩, by rw [ht]; exact hP9, hD9⟩, hS.F ht⟩) hS.2.2 dX8_isFitToSail_34
  ·
    have ic_7 : r_4.toInt = -1 := (g_eq rfl t_m1).mp c_7
    clear c_7
    refine lv_aload_n hx hb dX8_isFitToSail_22 rfl (lv_at hl 0 rfl) ?_
    refine lv_aload_n hx hb dX8_isFitToSail_23 rfl (lv_at hl 1 rfl) ?_
    refine va_get (D := D) (ci := 8) (v := .int xtoday) (C := RX8) (T := TX8) (N := 14) hx hb htb iX8 hown hK.1 hP 0 rfl rfl 13 (by decide) (htb _ k_285) (fun _ h9 => h9) rfl dX8_isFitToSail_24 ?_
    refine callRV (rest := []) (As := [.int xtoday]) hx hb hml hown htb hK (g_X7_isCompared l D E wh wa wf1 xtoday ) ok_X7_isCompared k_400 k_401 k_402 k_10 k_403 ⟨(Nat.le_of_ble_eq_true rfl), (Nat.le_of_ble_eq_true rfl)⟩ ⟨(Nat.le_of_ble_eq_true rfl), (Nat.le_of_ble_eq_true rfl)⟩ hl.1 (Nat.le_of_ble_eq_true rfl) rfl rfl dX8_isFitToSail_27 (hP.sub (ws' := [(wh, .inr (7, G7 wa)), ((wa 1), .inl (E 0, 400, .inl wf1))]) [3, 5] rfl) rfl rfl 0 rfl (fun r_8 hw_9 => ?_)
    refine lv_if_ne (tgt := 35) hx hb dX8_isFitToSail_30 (by decide) (fun c_11 => ?_) (fun c_11 => ?_)
    ·
      have ic_11 : r_8.toInt ≠ 0 := mt (g_eq rfl t_0).mpr c_11
      clear c_11
      refine lv_aload_n hx hb dX8_isFitToSail_35 rfl (lv_at hl 1 rfl) ?_
      refine lv_aload_n hx hb dX8_isFitToSail_36 rfl (lv_at hl 0 rfl) ?_
      have hPc := hP.sub (ws' := [(xh, .inr (8, G8 xa xtrialRule xdropRule xtoday)), (wh, .inr (7, G7 wa)), ((wa 0), .inl (E 0, 400, .inl wf0)), ((wa 1), .inl (E 0, 400, .inl wf1)), ((wa 2), .inl (E 0, 400, .inl wf2)), ((xa 6), .inr (2, G2 oa osize)), ((oa 0), .inl (E 0, 60, .inl of0)), ((oa 1), .inl (E 0, 60, .inl of1)), ((oa 2), .inl (E 0, 60, .inl of2)), ((oa 3), .inl (E 0, 60, .inl of3)), ((oa 4), .inl (E 0, 60, .inl of4)), ((xa 7), .inr (3, G3 ra rsize)), ((ra 0), .inl (E 0, 60, .inl rf0)), ((ra 1), .inl (E 0, 60, .inl rf1))]) [0, 3, 4, 5, 6, 8, 9, 10, 11, 12, 13, 14, 15, 16] rfl
      have hDc := hD.sub (ws' := [(xh, .inr (8, G8 xa xtrialRule xdropRule xtoday)), (wh, .inr (7, G7 wa)), ((wa 0), .inl (E 0, 400, .inl wf0)), ((wa 1), .inl (E 0, 400, .inl wf1)), ((wa 2), .inl (E 0, 400, .inl wf2)), ((xa 6), .inr (2, G2 oa osize)), ((oa 0), .inl (E 0, 60, .inl of0)), ((oa 1), .inl (E 0, 60, .inl of1)), ((oa 2), .inl (E 0, 60, .inl of2)), ((oa 3), .inl (E 0, 60, .inl of3)), ((oa 4), .inl (E 0, 60, .inl of4)), ((xa 7), .inr (3, G3 ra rsize)), ((ra 0), .inl (E 0, 60, .inl rf0)), ((ra 1), .inl (E 0, 60, .inl rf1))]) [0, 3, 4, 5, 6, 8, 9, 10, 11, 12, 13, 14, 15, 16] (by decide) rfl
      refine aft_v (runMV (rest := []) (As := [.ref wh]) hx hb hml hown htb hK (g_X8_gatherBeforeSailing l D E xh xa xtrialRule xdropRule xtoday wh wa wf0 wf1 wf2 oa osize of0 of1 of2 of3 of4 ra rsize rf0 rf1 _ (by (try dsimp only); omega) (by (try dsimp only); omega) (by (try dsimp only); omega) hr_r0) ok_X8_gatherBeforeSailing k_784 k_786 ks_29 k_1 k_787 ⟨(Nat.le_of_ble_eq_true rfl), (Nat.le_of_ble_eq_true rfl)⟩ ⟨(Nat.le_of_ble_eq_true rfl), (Nat.le_of_ble_eq_true rfl)⟩ hl.1 (Nat.le_of_ble_eq_true rfl) rfl rfl dX8_isFitToSail_37 hPc hDc rfl rfl 0 rfl) hP hD hS hA [0, 3, 4, 5, 6, 8, 9, 10, 11, 12, 13, 14, 15, 16] [1, 2, 7] (wr := [((xa 1), .inl (E 0, 16, .inl xf1)), ((xa 3), .inl (E 3, 16, .inr (.inr (.inr (.inr xf3))))), ((wa 3), .inl (E 0, 400, .inl wf3))]) rfl rfl (by decide) (by decide) (fun u_14 H locs hw_13 hP hD hS => ?_)
      clear hPc hDc
      obtain ⟨w_15, w_16, w_17⟩ := u_14
      try dsimp only at hw_13
      have hP : va_P D vwCl [((xa 1), .inl (E 0, 16, .inl xf1)), ((xa 3), .inl (E 3, 16, .inr (.inr (.inr (.inr xf3))))), ((wa 3), .inl (E 0, 400, .inl wf3)), (xh, .inr (8, G8 xa xtrialRule xdropRule xtoday)), (wh, .inr (7, G7 wa)), ((wa 0), .inl (E 0, 400, .inl wf0)), ((wa 1), .inl (E 0, 400, .inl wf1)), ((wa 2), .inl (E 0, 400, .inl wf2)), ((xa 6), .inr (2, G2 oa osize)), ((oa 0), .inl (E 0, 60, .inl of0)), ((oa 1), .inl (E 0, 60, .inl of1)), ((oa 2), .inl (E 0, 60, .inl of2)), ((oa 3), .inl (E 0, 60, .inl of3)), ((oa 4), .inl (E 0, 60, .inl of4)), ((xa 7), .inr (3, G3 ra w_17)), ((ra 0), .inl (E 0, 60, .inl w_15)), ((ra 1), .inl (E 0, 60, .inl w_16))] H := hP
      have hD := toW hP hD rfl
      obtain ⟨hw_13_0, hw_13_1, hw_13_2⟩ := hw_13
      refine lv_aload_n hx hb dX8_isFitToSail_40 rfl (lv_at hl 1 rfl) ?_
      refine va_get (D := D) (ci := 8) (v := .ref (xa 7)) (C := RX8) (T := TX8) (N := 14) hx hb htb iX8 hown hK.1 hP 3 rfl rfl 7 (by decide) (htb _ k_279) (fun _ h9 => h9) rfl dX8_isFitToSail_41 ?_
      refine va_getN (D := D) (ci := 3) (v := .int w_17) (C := RX3) (T := TX3) (N := 4) hx hb htb iX3 hown hK.1 hP 14 rfl rfl 3 (by decide) (va_Nw.use rfl (hK.2.1 (Cond.fieldLinkNest RX8 311 "SeaWatches$Rates" "size" "I" "SeaWatches") (by decide +kernel))) (fun _ h9 => h9) rfl dX8_isFitToSail_44 ?_
      refine lv_iconst (v := 2) hx hb dX8_isFitToSail_47 (by decide) ?_
      refine lv_icmp_lt (tgt := 55) hx hb dX8_isFitToSail_48 (by decide) (fun c_18 => ?_) (fun c_18 => ?_)
      ·
        have ic_18 : w_17.toInt < 2 := by first | exact (g_lt rfl t_2).mp c_18 | (have h := mt (g_le t_2 rfl).mpr c_18; omega)
        clear c_18
        refine lv_iconst (v := 0) hx hb dX8_isFitToSail_55 (by decide) ?_
        have hP9 := hP.sub (ws' := [(xh, .inr (8, G8 xa xtrialRule xdropRule xtoday)), ((xa 1), .inl (E 0, 16, .inl xf1)), ((xa 3), .inl (E 3, 16, .inr (.inr (.inr (.inr xf3))))), (wh, .inr (7, G7 wa)), ((wa 0), .inl (E 0, 400, .inl wf0)), ((wa 1), .inl (E 0, 400, .inl wf1)), ((wa 2), .inl (E 0, 400, .inl wf2)), ((wa 3), .inl (E 0, 400, .inl wf3)), ((xa 6), .inr (2, G2 oa osize)), ((oa 0), .inl (E 0, 60, .inl of0)), ((oa 1), .inl (E 0, 60, .inl of1)), ((oa 2), .inl (E 0, 60, .inl of2)), ((oa 3), .inl (E 0, 60, .inl of3)), ((oa 4), .inl (E 0, 60, .inl of4)), ((xa 7), .inr (3, G3 ra w_17)), ((ra 0), .inl (E 0, 60, .inl w_15)), ((ra 1), .inl (E 0, 60, .inl w_16))]) [3, 0, 1, 4, 5, 6, 7, 2, 8, 9, 10, 11, 12, 13, 14, 15, 16] rfl
        have hD9 := hD.sub (ws' := [(xh, .inr (8, G8 xa xtrialRule xdropRule xtoday)), ((xa 1), .inl (E 0, 16, .inl xf1)), ((xa 3), .inl (E 3, 16, .inr (.inr (.inr (.inr xf3))))), (wh, .inr (7, G7 wa)), ((wa 0), .inl (E 0, 400, .inl wf0)), ((wa 1), .inl (E 0, 400, .inl wf1)), ((wa 2), .inl (E 0, 400, .inl wf2)), ((wa 3), .inl (E 0, 400, .inl wf3)), ((xa 6), .inr (2, G2 oa osize)), ((oa 0), .inl (E 0, 60, .inl of0)), ((oa 1), .inl (E 0, 60, .inl of1)), ((oa 2), .inl (E 0, 60, .inl of2)), ((oa 3), .inl (E 0, 60, .inl of3)), ((oa 4), .inl (E 0, 60, .inl of4)), ((xa 7), .inr (3, G3 ra w_17)), ((ra 0), .inl (E 0, 60, .inl w_15)), ((ra 1), .inl (E 0, 60, .inl w_16))]) [3, 0, 1, 4, 5, 6, 7, 2, 8, 9, 10, 11, 12, 13, 14, 15, 16] (by decide) rfl
        exact W.zret (v := 0) hx hb hr rfl (fun t ht hW => ⟨⟨0, (w_15, w_16, w_17), rfl, ⟨hw_13_0, (by (try dsimp only); omega), (by have hl := t_0; have hn := hw_13_2.1; exact Or.inr ⟨by omega, fun hh => by have := hh.2.2; omega⟩)⟩, by rw [ht]; exact hP9, hD9⟩, hS.F ht⟩) hS.2.2 dX8_isFitToSail_56
      ·
        have ic_18 : 2 ≤ w_17.toInt := by first | exact (g_le t_2 rfl).mp c_18 | (have h := mt (g_lt rfl t_2).mpr c_18; omega)
        clear c_18
        refine lv_iconst (v := 1) hx hb dX8_isFitToSail_51 (by decide) ?_
        refine lv_goto (tgt := 56) hx hb dX8_isFitToSail_52 (by decide) ?_
        have hP9 := hP.sub (ws' := [(xh, .inr (8, G8 xa xtrialRule xdropRule xtoday)), ((xa 1), .inl (E 0, 16, .inl xf1)), ((xa 3), .inl (E 3, 16, .inr (.inr (.inr (.inr xf3))))), (wh, .inr (7, G7 wa)), ((wa 0), .inl (E 0, 400, .inl wf0)), ((wa 1), .inl (E 0, 400, .inl wf1)), ((wa 2), .inl (E 0, 400, .inl wf2)), ((wa 3), .inl (E 0, 400, .inl wf3)), ((xa 6), .inr (2, G2 oa osize)), ((oa 0), .inl (E 0, 60, .inl of0)), ((oa 1), .inl (E 0, 60, .inl of1)), ((oa 2), .inl (E 0, 60, .inl of2)), ((oa 3), .inl (E 0, 60, .inl of3)), ((oa 4), .inl (E 0, 60, .inl of4)), ((xa 7), .inr (3, G3 ra w_17)), ((ra 0), .inl (E 0, 60, .inl w_15)), ((ra 1), .inl (E 0, 60, .inl w_16))]) [3, 0, 1, 4, 5, 6, 7, 2, 8, 9, 10, 11, 12, 13, 14, 15, 16] rfl
        have hD9 := hD.sub (ws' := [(xh, .inr (8, G8 xa xtrialRule xdropRule xtoday)), ((xa 1), .inl (E 0, 16, .inl xf1)), ((xa 3), .inl (E 3, 16, .inr (.inr (.inr (.inr xf3))))), (wh, .inr (7, G7 wa)), ((wa 0), .inl (E 0, 400, .inl wf0)), ((wa 1), .inl (E 0, 400, .inl wf1)), ((wa 2), .inl (E 0, 400, .inl wf2)), ((wa 3), .inl (E 0, 400, .inl wf3)), ((xa 6), .inr (2, G2 oa osize)), ((oa 0), .inl (E 0, 60, .inl of0)), ((oa 1), .inl (E 0, 60, .inl of1)), ((oa 2), .inl (E 0, 60, .inl of2)), ((oa 3), .inl (E 0, 60, .inl of3)), ((oa 4), .inl (E 0, 60, .inl of4)), ((xa 7), .inr (3, G3 ra w_17)), ((ra 0), .inl (E 0, 60, .inl w_15)), ((ra 1), .inl (E 0, 60, .inl w_16))]) [3, 0, 1, 4, 5, 6, 7, 2, 8, 9, 10, 11, 12, 13, 14, 15, 16] (by decide) rfl
        exact W.zret (v := 1) hx hb hr rfl (fun t ht hW => ⟨⟨1, (w_15, w_16, w_17), rfl, ⟨hw_13_0, (by (try dsimp only); omega), (by have hl := t_1; have hn := hw_13_2.1; exact Or.inl ⟨by omega, by omega, by omega, by omega⟩)⟩, by rw [ht]; exact hP9, hD9⟩, hS.F ht⟩) hS.2.2 dX8_isFitToSail_56
    ·
      have ic_11 : r_8.toInt = 0 := (g_eq rfl t_0).mp c_11
      clear c_11
      refine lv_iconst (v := 0) hx hb dX8_isFitToSail_33 (by decide) ?_
      have hP9 := hP.sub (ws' := [(xh, .inr (8, G8 xa xtrialRule xdropRule xtoday)), ((xa 1), .inl (E 0, 16, .inl xf1)), ((xa 3), .inl (E 3, 16, .inr (.inr (.inr (.inr xf3))))), (wh, .inr (7, G7 wa)), ((wa 0), .inl (E 0, 400, .inl wf0)), ((wa 1), .inl (E 0, 400, .inl wf1)), ((wa 2), .inl (E 0, 400, .inl wf2)), ((wa 3), .inl (E 0, 400, .inl wf3)), ((xa 6), .inr (2, G2 oa osize)), ((oa 0), .inl (E 0, 60, .inl of0)), ((oa 1), .inl (E 0, 60, .inl of1)), ((oa 2), .inl (E 0, 60, .inl of2)), ((oa 3), .inl (E 0, 60, .inl of3)), ((oa 4), .inl (E 0, 60, .inl of4)), ((xa 7), .inr (3, G3 ra rsize)), ((ra 0), .inl (E 0, 60, .inl rf0)), ((ra 1), .inl (E 0, 60, .inl rf1))]) [0, 1, 2, 3, 4, 5, 6, 7, 8, 9, 10, 11, 12, 13, 14, 15, 16] rfl
      have hD9 := hD.sub (ws' := [(xh, .inr (8, G8 xa xtrialRule xdropRule xtoday)), ((xa 1), .inl (E 0, 16, .inl xf1)), ((xa 3), .inl (E 3, 16, .inr (.inr (.inr (.inr xf3))))), (wh, .inr (7, G7 wa)), ((wa 0), .inl (E 0, 400, .inl wf0)), ((wa 1), .inl (E 0, 400, .inl wf1)), ((wa 2), .inl (E 0, 400, .inl wf2)), ((wa 3), .inl (E 0, 400, .inl wf3)), ((xa 6), .inr (2, G2 oa osize)), ((oa 0), .inl (E 0, 60, .inl of0)), ((oa 1), .inl (E 0, 60, .inl of1)), ((oa 2), .inl (E 0, 60, .inl of2)), ((oa 3), .inl (E 0, 60, .inl of3)), ((oa 4), .inl (E 0, 60, .inl of4)), ((xa 7), .inr (3, G3 ra rsize)), ((ra 0), .inl (E 0, 60, .inl rf0)), ((ra 1), .inl (E 0, 60, .inl rf1))]) [0, 1, 2, 3, 4, 5, 6, 7, 8, 9, 10, 11, 12, 13, 14, 15, 16] (by decide) rfl
      exact W.zret (v := 0) hx hb hr rfl (fun t ht hW => ⟨⟨0, (rf0, rf1, rsize), rfl, ⟨hr_r0, (by (try dsimp only); omega), (Or.inr ⟨by decide, fun hh => by have h1 := hh.1; have h2 := hh.2.1; omega⟩)⟩, by rw [ht]; exact hP9, hD9⟩, hS.F ht⟩) hS.2.2 dX8_isFitToSail_34
end
section
set_option maxHeartbeats 4000000 in
set_option maxRecDepth 100000 in
theorem g_X8_carried_T (l : Launch) (D : va_G) (E : Nat → Nat) (xh : Nat) (xa : Nat → Nat) (xtrialRule : Nat) (xdropRule : Nat) (xtoday : Int32) (xf4 : Nat → Option Nat) (p0 : Int32) (p1 : Int32) (p2 : Int32) (hi_x : (0 ≤ xtoday.toInt ∧ xtoday.toInt ≤ 399)) (ht0 : ¬ (0 ≤ p0.toInt ∧ p0.toInt ≤ 4)) : Met l yX8_carried (wl yX8_carried cX8_carried 5 (some .int)) (RM 1 0 0) (rd_P D E [.ref xh, .int p0, .int p1, .int p2] [(xh, .inr (8, G8 xa xtrialRule xdropRule xtoday)), ((xa 4), .inl (E 4, 5, .inr (.inr (.inr (.inr xf4)))))]) (rd_Q (fun r => ((r.toInt = -2000000000)))) 0 0 (fun _ => False) := by
  refine Met.ofW (cc := cX8_carried) (maxL := 5) (ret := (some .int)) (by decide) rfl ?_
  intro p e s m args below meth c s₁ B hml hv
  obtain ⟨rfl, hP, hK⟩ := hv
  have hx := B.exec; have hb := B.bytes; have hr := B.returns
  have hts := atoms_spec (ws := wl yX8_carried cX8_carried 5 (some .int)) B.pre
  have htb : ∀ w ∈ tb, w.before _ s = true := fun w h => hts w (List.mem_cons_of_mem _ h)
  have hown : s.vm.findClass RX8 = some m.cls := findClass_of_methodNamed B.named
  have hlocks := B.notSynchronized
  have hP : va_P D vwCl [(xh, .inr (8, G8 xa xtrialRule xdropRule xtoday)), ((xa 4), .inl (E 4, 5, .inr (.inr (.inr (.inr xf4)))))] s.heap := hP
  have hl := lv_entry ([.ref xh, .int p0, .int p1, .int p2]) (n := 5) (Nat.le_of_ble_eq_true rfl)
  rw [lg_entry_eq]
  generalize (lg_sl ([.ref xh, .int p0, .int p1, .int p2]) ++ List.replicate (5 - (lg_sl ([.ref xh, .int p0, .int p1, .int p2])).length) Slot.unset).toArray = ls at hl ⊢
  have hl : lv_has ls 5 [(0, .ref xh), (1, .int p0), (2, .int p1), (3, .int p2)] := hl
  have lo_p0 := i_lo p0; have hi_p0 := i_hi p0
  have lo_p1 := i_lo p1; have hi_p1 := i_hi p1
  have lo_p2 := i_lo p2; have hi_p2 := i_hi p2
  refine lv_iload_n hx hb dX8_carried_0 rfl (lv_at hl 1 rfl) ?_
  refine callRS (rest := []) (As := [.int p0]) hx hb hml hown htb hK (g_X8_isShip l D E p0 ) ok_X8_isShip k_773 k_774 k_1 k_775 ⟨(Nat.le_of_ble_eq_true rfl), (Nat.le_of_ble_eq_true rfl)⟩ ⟨(Nat.le_of_ble_eq_true rfl), (Nat.le_of_ble_eq_true rfl)⟩ hl.1 (Nat.le_of_ble_eq_true rfl) rfl rfl dX8_carried_1 (hP.sub (ws' := ([] : va_W)) [] rfl) (fun r_1 hw_2 => ?_)
  rcases hw_2 with ⟨hr_1, hw_2⟩ | ⟨hr_1, hw_2⟩
  ·
    refine W_top (y := .int 1) (by rw [hr_1]) ?_
    refine lv_if_eq (tgt := 28) hx hb dX8_carried_4 (by decide) (fun c_4 => absurd c_4 (by decide)) (fun c_4 => ?_)
    refine lv_iload_n hx hb dX8_carried_7 rfl (lv_at hl 2 rfl) ?_
    refine lv_if_lt (tgt := 28) hx hb dX8_carried_8 (by decide) (fun c_5 => ?_) (fun c_5 => ?_)
    ·
      have ic_5 : p1.toInt < 0 := by first | exact (g_lt rfl t_0).mp c_5 | (have h := mt (g_le t_0 rfl).mpr c_5; omega)
      clear c_5
      refine lv_ldc hx hb hown (htb _ k_386) dX8_carried_28 ?_
      exact W.iret (v := (-2000000000)) hx hb hr (fun t ht hW => ⟨(-2000000000), rfl, (by have hl0 := t_m2000000000; (try dsimp only); first | exact (by omega)), ht⟩) (fun q h => by cases h) dX8_carried_30
    ·
      have ic_5 : 0 ≤ p1.toInt := by first | exact (g_le t_0 rfl).mp c_5 | (have h := mt (g_lt rfl t_0).mpr c_5; omega)
      clear c_5
      refine lv_iload_n hx hb dX8_carried_11 rfl (lv_at hl 2 rfl) ?_
      refine lv_iconst (v := 3) hx hb dX8_carried_12 (by decide) ?_
      refine lv_icmp_ge (tgt := 28) hx hb dX8_carried_13 (by decide) (fun c_6 => ?_) (fun c_6 => ?_)
      ·
        have ic_6 : 3 ≤ p1.toInt := by first | exact (g_le t_3 rfl).mp c_6 | (have h := mt (g_lt rfl t_3).mpr c_6; omega)
        clear c_6
        refine lv_ldc hx hb hown (htb _ k_386) dX8_carried_28 ?_
        exact W.iret (v := (-2000000000)) hx hb hr (fun t ht hW => ⟨(-2000000000), rfl, (by have hl0 := t_m2000000000; (try dsimp only); first | exact (by omega)), ht⟩) (fun q h => by cases h) dX8_carried_30
      ·
        have ic_6 : p1.toInt < 3 := by first | exact (g_lt rfl t_3).mp c_6 | (have h := mt (g_le t_3 rfl).mpr c_6; omega)
        clear c_6
        refine lv_aload_n hx hb dX8_carried_16 rfl (lv_at hl 0 rfl) ?_
        refine va_get (D := D) (ci := 8) (v := .ref (xa 4)) (C := RX8) (T := TX8) (N := 14) hx hb htb iX8 hown hK.1 hP 0 rfl rfl 4 (by decide) (htb _ k_276) (fun _ h9 => h9) rfl dX8_carried_17 ?_
        refine lv_iload_n hx hb dX8_carried_20 rfl (lv_at hl 1 rfl) ?_
        refine va_aldq hx hb hK.1 hP 1 4 rfl rfl (g_in rfl (by omega) (by omega)) dX8_carried_21 ?_
        exfalso; omega
  ·
    refine W_top (y := .int 0) (by rw [hr_1]) ?_
    refine lv_if_eq (tgt := 28) hx hb dX8_carried_4 (by decide) (fun c_7 => ?_) (fun c_7 => absurd (by decide) c_7)
    refine lv_ldc hx hb hown (htb _ k_386) dX8_carried_28 ?_
    exact W.iret (v := (-2000000000)) hx hb hr (fun t ht hW => ⟨(-2000000000), rfl, (by have hl0 := t_m2000000000; (try dsimp only); first | exact (by omega)), ht⟩) (fun q h => by cases h) dX8_carried_30
set_option maxHeartbeats 4000000 in
set_option maxRecDepth 100000 in
theorem g_X8_carried_S (l : Launch) (D : va_G) (E : Nat → Nat) (xh : Nat) (xa : Nat → Nat) (xtrialRule : Nat) (xdropRule : Nat) (xtoday : Int32) (xf4 : Nat → Option Nat) (yh : Nat) (ya : Nat → Nat) (ysights : Int32) (ystage : Int32) (ysailed : Int32) (yvoyage : Int32) (yf0 : Nat → Int32) (yf1 : Nat → Int32) (yf2 : Nat → Int32) (yf3 : Nat → Int32) (p0 : Int32) (p1 : Int32) (p2 : Int32) (hi_x : (0 ≤ xtoday.toInt ∧ xtoday.toInt ≤ 399)) (hi_y : (0 ≤ ysights.toInt ∧ ysights.toInt ≤ 40)) (hs0 : 0 ≤ p0.toInt ∧ p0.toInt ≤ 4) (hy0 : xf4 (p0).toNatClampNeg = some yh) : Met l yX8_carried (wl yX8_carried cX8_carried 5 (some .int)) (RM 1 0 0) (rd_P D E [.ref xh, .int p0, .int p1, .int p2] [(xh, .inr (8, G8 xa xtrialRule xdropRule xtoday)), ((xa 4), .inl (E 4, 5, .inr (.inr (.inr (.inr xf4))))), (yh, .inr (5, G5 ya ysights ystage ysailed yvoyage)), ((ya 0), .inl (E 0, 3, .inl yf0)), ((ya 1), .inl (E 0, 3, .inl yf1)), ((ya 2), .inl (E 0, 3, .inl yf2)), ((ya 3), .inl (E 0, 3, .inl yf3))]) (rd_Q (fun r => ((((0 ≤ p1.toInt ∧ p1.toInt ≤ 2) ∧ ystage.toInt ≠ 0) ∧ p2.toInt = 0 ∧ r = (yf0 (p1).toNatClampNeg)) ∨ (((0 ≤ p1.toInt ∧ p1.toInt ≤ 2) ∧ ystage.toInt ≠ 0) ∧ p2.toInt = 1 ∧ r = (yf1 (p1).toNatClampNeg)) ∨ (((0 ≤ p1.toInt ∧ p1.toInt ≤ 2) ∧ ystage.toInt ≠ 0) ∧ p2.toInt = 2 ∧ r = (yf2 (p1).toNatClampNeg)) ∨ (((0 ≤ p1.toInt ∧ p1.toInt ≤ 2) ∧ ystage.toInt ≠ 0) ∧ p2.toInt = 3 ∧ r = (yf3 (p1).toNatClampNeg)) ∨ (¬ (((0 ≤ p1.toInt ∧ p1.toInt ≤ 2) ∧ ystage.toInt ≠ 0) ∧ (0 ≤ p2.toInt ∧ p2.toInt ≤ 3)) ∧ r.toInt = -2000000000)))) 0 0 (fun _ => False) := by
  refine Met.ofW (cc := cX8_carried) (maxL := 5) (ret := (some .int)) (by decide) rfl ?_
  intro p e s m args below meth c s₁ B hml hv
  obtain ⟨rfl, hP, hK⟩ := hv
  have hx := B.exec; have hb := B.bytes; have hr := B.returns
  have hts := atoms_spec (ws := wl yX8_carried cX8_carried 5 (some .int)) B.pre
  have htb : ∀ w ∈ tb, w.before _ s = true := fun w h => hts w (List.mem_cons_of_mem _ h)
  have hown : s.vm.findClass RX8 = some m.cls := findClass_of_methodNamed B.named
  have hlocks := B.notSynchronized
  have hP : va_P D vwCl [(xh, .inr (8, G8 xa xtrialRule xdropRule xtoday)), ((xa 4), .inl (E 4, 5, .inr (.inr (.inr (.inr xf4))))), (yh, .inr (5, G5 ya ysights ystage ysailed yvoyage)), ((ya 0), .inl (E 0, 3, .inl yf0)), ((ya 1), .inl (E 0, 3, .inl yf1)), ((ya 2), .inl (E 0, 3, .inl yf2)), ((ya 3), .inl (E 0, 3, .inl yf3))] s.heap := hP
  have hl := lv_entry ([.ref xh, .int p0, .int p1, .int p2]) (n := 5) (Nat.le_of_ble_eq_true rfl)
  rw [lg_entry_eq]
  generalize (lg_sl ([.ref xh, .int p0, .int p1, .int p2]) ++ List.replicate (5 - (lg_sl ([.ref xh, .int p0, .int p1, .int p2])).length) Slot.unset).toArray = ls at hl ⊢
  have hl : lv_has ls 5 [(0, .ref xh), (1, .int p0), (2, .int p1), (3, .int p2)] := hl
  have lo_p0 := i_lo p0; have hi_p0 := i_hi p0
  have lo_p1 := i_lo p1; have hi_p1 := i_hi p1
  have lo_p2 := i_lo p2; have hi_p2 := i_hi p2
  refine lv_iload_n hx hb dX8_carried_0 rfl (lv_at hl 1 rfl) ?_
  refine callRS (rest := []) (As := [.int p0]) hx hb hml hown htb hK (g_X8_isShip l D E p0 ) ok_X8_isShip k_773 k_774 k_1 k_775 ⟨(Nat.le_of_ble_eq_true rfl), (Nat.le_of_ble_eq_true rfl)⟩ ⟨(Nat.le_of_ble_eq_true rfl), (Nat.le_of_ble_eq_true rfl)⟩ hl.1 (Nat.le_of_ble_eq_true rfl) rfl rfl dX8_carried_1 (hP.sub (ws' := ([] : va_W)) [] rfl) (fun r_1 hw_2 => ?_)
  rcases hw_2 with ⟨hr_1, hw_2⟩ | ⟨hr_1, hw_2⟩
  ·
    refine W_top (y := .int 1) (by rw [hr_1]) ?_
    refine lv_if_eq (tgt := 28) hx hb dX8_carried_4 (by decide) (fun c_4 => absurd c_4 (by decide)) (fun c_4 => ?_)
    refine lv_iload_n hx hb dX8_carried_7 rfl (lv_at hl 2 rfl) ?_
    refine lv_if_lt (tgt := 28) hx hb dX8_carried_8 (by decide) (fun c_5 => ?_) (fun c_5 => ?_)
    ·
      have ic_5 : p1.toInt < 0 := by first | exact (g_lt rfl t_0).mp c_5 | (have h := mt (g_le t_0 rfl).mpr c_5; omega)
      clear c_5
      refine lv_ldc hx hb hown (htb _ k_386) dX8_carried_28 ?_
      exact W.iret (v := (-2000000000)) hx hb hr (fun t ht hW => ⟨(-2000000000), rfl, (by have hl0 := t_m2000000000; (try dsimp only); first | exact Or.inl ⟨by omega, by omega, by subst_vars; rfl⟩ | exact Or.inr (Or.inl ⟨by omega, by omega, by subst_vars; rfl⟩) | exact Or.inr (Or.inr (Or.inl ⟨by omega, by omega, by subst_vars; rfl⟩)) | exact Or.inr (Or.inr (Or.inr (Or.inl ⟨by omega, by omega, by subst_vars; rfl⟩))) | exact Or.inr (Or.inr (Or.inr (Or.inr ⟨by omega, by omega⟩)))), ht⟩) (fun q h => by cases h) dX8_carried_30
    ·
      have ic_5 : 0 ≤ p1.toInt := by first | exact (g_le t_0 rfl).mp c_5 | (have h := mt (g_lt rfl t_0).mpr c_5; omega)
      clear c_5
      refine lv_iload_n hx hb dX8_carried_11 rfl (lv_at hl 2 rfl) ?_
      refine lv_iconst (v := 3) hx hb dX8_carried_12 (by decide) ?_
      refine lv_icmp_ge (tgt := 28) hx hb dX8_carried_13 (by decide) (fun c_6 => ?_) (fun c_6 => ?_)
      ·
        have ic_6 : 3 ≤ p1.toInt := by first | exact (g_le t_3 rfl).mp c_6 | (have h := mt (g_lt rfl t_3).mpr c_6; omega)
        clear c_6
        refine lv_ldc hx hb hown (htb _ k_386) dX8_carried_28 ?_
        exact W.iret (v := (-2000000000)) hx hb hr (fun t ht hW => ⟨(-2000000000), rfl, (by have hl0 := t_m2000000000; (try dsimp only); first | exact Or.inl ⟨by omega, by omega, by subst_vars; rfl⟩ | exact Or.inr (Or.inl ⟨by omega, by omega, by subst_vars; rfl⟩) | exact Or.inr (Or.inr (Or.inl ⟨by omega, by omega, by subst_vars; rfl⟩)) | exact Or.inr (Or.inr (Or.inr (Or.inl ⟨by omega, by omega, by subst_vars; rfl⟩))) | exact Or.inr (Or.inr (Or.inr (Or.inr ⟨by omega, by omega⟩)))), ht⟩) (fun q h => by cases h) dX8_carried_30
      ·
        have ic_6 : p1.toInt < 3 := by first | exact (g_lt rfl t_3).mp c_6 | (have h := mt (g_le t_3 rfl).mpr c_6; omega)
        clear c_6
        refine lv_aload_n hx hb dX8_carried_16 rfl (lv_at hl 0 rfl) ?_
        refine va_get (D := D) (ci := 8) (v := .ref (xa 4)) (C := RX8) (T := TX8) (N := 14) hx hb htb iX8 hown hK.1 hP 0 rfl rfl 4 (by decide) (htb _ k_276) (fun _ h9 => h9) rfl dX8_carried_17 ?_
        refine lv_iload_n hx hb dX8_carried_20 rfl (lv_at hl 1 rfl) ?_
        refine va_aldq hx hb hK.1 hP 1 4 rfl rfl (g_in rfl (by omega) (by omega)) dX8_carried_21 ?_
        refine W_top (y := .ref yh) (congrArg va_rf hy0) ?_
        refine va_getN (D := D) (ci := 5) (v := .int ystage) (C := RX5) (T := TX5) (N := 11) hx hb htb iX5 hown hK.1 hP 2 rfl rfl 8 (by decide) (va_Nw.use rfl (hK.2.1 (Cond.fieldLinkNest RX8 208 "SeaWatches$Ship" "stage" "I" "SeaWatches") (by decide +kernel))) (fun _ h9 => h9) rfl dX8_carried_22 ?_
        refine lv_if_ne (tgt := 31) hx hb dX8_carried_25 (by decide) (fun c_7 => ?_) (fun c_7 => ?_)
        ·
          have ic_7 : ystage.toInt ≠ 0 := mt (g_eq rfl t_0).mpr c_7
          clear c_7
          refine lv_aload_n hx hb dX8_carried_31 rfl (lv_at hl 0 rfl) ?_
          refine va_get (D := D) (ci := 8) (v := .ref (xa 4)) (C := RX8) (T := TX8) (N := 14) hx hb htb iX8 hown hK.1 hP 0 rfl rfl 4 (by decide) (htb _ k_276) (fun _ h9 => h9) rfl dX8_carried_32 ?_
          refine lv_iload_n hx hb dX8_carried_35 rfl (lv_at hl 1 rfl) ?_
          refine va_aldq hx hb hK.1 hP 1 4 rfl rfl (g_in rfl (by omega) (by omega)) dX8_carried_36 ?_
          refine W_top (y := .ref yh) (congrArg va_rf hy0) ?_
          refine lv_astore (lv' := [(4, .ref yh), (0, .ref xh), (1, .int p0), (2, .int p1), (3, .int p2)]) hx hb dX8_carried_37 hl (by decide) rfl (fun ls hl => ?_)
          refine lv_iload_n hx hb dX8_carried_39 rfl (lv_at hl 4 rfl) ?_
          by_cases h_8 : p2.toInt < 0 ∨ 3 < p2.toInt
          ·
            refine lv_tableOut (tgt := 104) hx hb dX8_carried_40 h_8 (by decide) ?_
            refine lv_ldc hx hb hown (htb _ k_386) dX8_carried_104 ?_
            exact W.iret (v := (-2000000000)) hx hb hr (fun t ht hW => ⟨(-2000000000), rfl, (by have hl0 := t_m2000000000; (try dsimp only); first | exact Or.inl ⟨by omega, by omega, by subst_vars; rfl⟩ | exact Or.inr (Or.inl ⟨by omega, by omega, by subst_vars; rfl⟩) | exact Or.inr (Or.inr (Or.inl ⟨by omega, by omega, by subst_vars; rfl⟩)) | exact Or.inr (Or.inr (Or.inr (Or.inl ⟨by omega, by omega, by subst_vars; rfl⟩))) | exact Or.inr (Or.inr (Or.inr (Or.inr ⟨by omega, by omega⟩)))), ht⟩) (fun q h => by cases h) dX8_carried_106
          ·
            have h_9 : p2.toInt = 0 ∨ p2.toInt = 1 ∨ p2.toInt = 2 ∨ p2.toInt = 3 := by omega
            rcases h_9 with h_9 | h_9 | h_9 | h_9
            ·
              refine lv_tableIn (off := 32) (tgt := 72) hx hb dX8_carried_40 (by omega) (by omega) (by rw [h_9]; decide) (by decide) ?_
              refine lv_aload hx hb dX8_carried_72 (lv_at hl 0 rfl) ?_
              refine va_getN (D := D) (ci := 5) (v := .ref (ya 0)) (C := RX5) (T := TX5) (N := 11) hx hb htb iX5 hown hK.1 hP 2 rfl rfl 0 (by decide) (va_Nw.use rfl (hK.2.1 (Cond.fieldLinkNest RX8 220 "SeaWatches$Ship" "places" "[I" "SeaWatches") (by decide +kernel))) (fun _ h9 => h9) rfl dX8_carried_74 ?_
              refine lv_iload_n hx hb dX8_carried_77 rfl (lv_at hl 3 rfl) ?_
              refine va_iald hx hb hK.1 hP 3 0 rfl rfl (g_in rfl (by omega) (by omega)) dX8_carried_78 ?_
              refine lv_topi (fun z_10 ez_10 => ?_)
              have kz_10 := congrArg Int32.toInt ez_10
              exact W.iret (v := z_10) hx hb hr (fun t ht hW => ⟨z_10, rfl, (by (try dsimp only); first | exact Or.inl ⟨by omega, by omega, by subst_vars; rfl⟩ | exact Or.inr (Or.inl ⟨by omega, by omega, by subst_vars; rfl⟩) | exact Or.inr (Or.inr (Or.inl ⟨by omega, by omega, by subst_vars; rfl⟩)) | exact Or.inr (Or.inr (Or.inr (Or.inl ⟨by omega, by omega, by subst_vars; rfl⟩))) | exact Or.inr (Or.inr (Or.inr (Or.inr ⟨by omega, by omega⟩)))), ht⟩) (fun q h => by cases h) dX8_carried_79
            ·
              refine lv_tableIn (off := 40) (tgt := 80) hx hb dX8_carried_40 (by omega) (by omega) (by rw [h_9]; decide) (by decide) ?_
              refine lv_aload hx hb dX8_carried_80 (lv_at hl 0 rfl) ?_
              refine va_getN (D := D) (ci := 5) (v := .ref (ya 1)) (C := RX5) (T := TX5) (N := 11) hx hb htb iX5 hown hK.1 hP 2 rfl rfl 1 (by decide) (va_Nw.use rfl (hK.2.1 (Cond.fieldLinkNest RX8 223 "SeaWatches$Ship" "starts" "[I" "SeaWatches") (by decide +kernel))) (fun _ h9 => h9) rfl dX8_carried_82 ?_
              refine lv_iload_n hx hb dX8_carried_85 rfl (lv_at hl 3 rfl) ?_
              refine va_iald hx hb hK.1 hP 4 0 rfl rfl (g_in rfl (by omega) (by omega)) dX8_carried_86 ?_
              refine lv_topi (fun z_11 ez_11 => ?_)
              have kz_11 := congrArg Int32.toInt ez_11
              exact W.iret (v := z_11) hx hb hr (fun t ht hW => ⟨z_11, rfl, (by (try dsimp only); first | exact Or.inl ⟨by omega, by omega, by subst_vars; rfl⟩ | exact Or.inr (Or.inl ⟨by omega, by omega, by subst_vars; rfl⟩) | exact Or.inr (Or.inr (Or.inl ⟨by omega, by omega, by subst_vars; rfl⟩)) | exact Or.inr (Or.inr (Or.inr (Or.inl ⟨by omega, by omega, by subst_vars; rfl⟩))) | exact Or.inr (Or.inr (Or.inr (Or.inr ⟨by omega, by omega⟩)))), ht⟩) (fun q h => by cases h) dX8_carried_87
            ·
              refine lv_tableIn (off := 48) (tgt := 88) hx hb dX8_carried_40 (by omega) (by omega) (by rw [h_9]; decide) (by decide) ?_
              refine lv_aload hx hb dX8_carried_88 (lv_at hl 0 rfl) ?_
              refine va_getN (D := D) (ci := 5) (v := .ref (ya 2)) (C := RX5) (T := TX5) (N := 11) hx hb htb iX5 hown hK.1 hP 2 rfl rfl 2 (by decide) (va_Nw.use rfl (hK.2.1 (Cond.fieldLinkNest RX8 226 "SeaWatches$Ship" "goings" "[I" "SeaWatches") (by decide +kernel))) (fun _ h9 => h9) rfl dX8_carried_90 ?_
              refine lv_iload_n hx hb dX8_carried_93 rfl (lv_at hl 3 rfl) ?_
              refine va_iald hx hb hK.1 hP 5 0 rfl rfl (g_in rfl (by omega) (by omega)) dX8_carried_94 ?_
              refine lv_topi (fun z_12 ez_12 => ?_)
              have kz_12 := congrArg Int32.toInt ez_12
              exact W.iret (v := z_12) hx hb hr (fun t ht hW => ⟨z_12, rfl, (by (try dsimp only); first | exact Or.inl ⟨by omega, by omega, by subst_vars; rfl⟩ | exact Or.inr (Or.inl ⟨by omega, by omega, by subst_vars; rfl⟩) | exact Or.inr (Or.inr (Or.inl ⟨by omega, by omega, by subst_vars; rfl⟩)) | exact Or.inr (Or.inr (Or.inr (Or.inl ⟨by omega, by omega, by subst_vars; rfl⟩))) | exact Or.inr (Or.inr (Or.inr (Or.inr ⟨by omega, by omega⟩)))), ht⟩) (fun q h => by cases h) dX8_carried_95
            ·
              refine lv_tableIn (off := 56) (tgt := 96) hx hb dX8_carried_40 (by omega) (by omega) (by rw [h_9]; decide) (by decide) ?_
              refine lv_aload hx hb dX8_carried_96 (lv_at hl 0 rfl) ?_
              refine va_getN (D := D) (ci := 5) (v := .ref (ya 3)) (C := RX5) (T := TX5) (N := 11) hx hb htb iX5 hown hK.1 hP 2 rfl rfl 3 (by decide) (va_Nw.use rfl (hK.2.1 (Cond.fieldLinkNest RX8 229 "SeaWatches$Ship" "doubts" "[I" "SeaWatches") (by decide +kernel))) (fun _ h9 => h9) rfl dX8_carried_98 ?_
              refine lv_iload_n hx hb dX8_carried_101 rfl (lv_at hl 3 rfl) ?_
              refine va_iald hx hb hK.1 hP 6 0 rfl rfl (g_in rfl (by omega) (by omega)) dX8_carried_102 ?_
              refine lv_topi (fun z_13 ez_13 => ?_)
              have kz_13 := congrArg Int32.toInt ez_13
              exact W.iret (v := z_13) hx hb hr (fun t ht hW => ⟨z_13, rfl, (by (try dsimp only); first | exact Or.inl ⟨by omega, by omega, by subst_vars; rfl⟩ | exact Or.inr (Or.inl ⟨by omega, by omega, by subst_vars; rfl⟩) | exact Or.inr (Or.inr (Or.inl ⟨by omega, by omega, by subst_vars; rfl⟩)) | exact Or.inr (Or.inr (Or.inr (Or.inl ⟨by omega, by omega, by subst_vars; rfl⟩))) | exact Or.inr (Or.inr (Or.inr (Or.inr ⟨by omega, by omega⟩)))), ht⟩) (fun q h => by cases h) dX8_carried_103
        ·
          have ic_7 : ystage.toInt = 0 := (g_eq rfl t_0).mp c_7
          clear c_7
          refine lv_ldc hx hb hown (htb _ k_386) dX8_carried_28 ?_
          exact W.iret (v := (-2000000000)) hx hb hr (fun t ht hW => ⟨(-2000000000), rfl, (by have hl0 := t_m2000000000; (try dsimp only); first | exact Or.inl ⟨by omega, by omega, by subst_vars; rfl⟩ | exact Or.inr (Or.inl ⟨by omega, by omega, by subst_vars; rfl⟩) | exact Or.inr (Or.inr (Or.inl ⟨by omega, by omega, by subst_vars; rfl⟩)) | exact Or.inr (Or.inr (Or.inr (Or.inl ⟨by omega, by omega, by subst_vars; rfl⟩))) | exact Or.inr (Or.inr (Or.inr (Or.inr ⟨by omega, by omega⟩)))), ht⟩) (fun q h => by cases h) dX8_carried_30
  ·
    refine W_top (y := .int 0) (by rw [hr_1]) ?_
    refine lv_if_eq (tgt := 28) hx hb dX8_carried_4 (by decide) (fun c_14 => ?_) (fun c_14 => absurd (by decide) c_14)
    refine lv_ldc hx hb hown (htb _ k_386) dX8_carried_28 ?_
    exact W.iret (v := (-2000000000)) hx hb hr (fun t ht hW => ⟨(-2000000000), rfl, (by have hl0 := t_m2000000000; (try dsimp only); first | exact Or.inl ⟨by omega, by omega, by subst_vars; rfl⟩ | exact Or.inr (Or.inl ⟨by omega, by omega, by subst_vars; rfl⟩) | exact Or.inr (Or.inr (Or.inl ⟨by omega, by omega, by subst_vars; rfl⟩)) | exact Or.inr (Or.inr (Or.inr (Or.inl ⟨by omega, by omega, by subst_vars; rfl⟩))) | exact Or.inr (Or.inr (Or.inr (Or.inr ⟨by omega, by omega⟩)))), ht⟩) (fun q h => by cases h) dX8_carried_30
set_option maxHeartbeats 4000000 in
set_option maxRecDepth 100000 in
theorem g_X8_state_T (l : Launch) (D : va_G) (E : Nat → Nat) (xh : Nat) (xa : Nat → Nat) (xtrialRule : Nat) (xdropRule : Nat) (xtoday : Int32) (xf4 : Nat → Option Nat) (p0 : Int32) (hi_x : (0 ≤ xtoday.toInt ∧ xtoday.toInt ≤ 399)) (ht0 : ¬ (0 ≤ p0.toInt ∧ p0.toInt ≤ 4)) : Met l yX8_state (wl yX8_state cX8_state 2 (some .int)) (RM 1 0 0) (rd_P D E [.ref xh, .int p0] [(xh, .inr (8, G8 xa xtrialRule xdropRule xtoday)), ((xa 4), .inl (E 4, 5, .inr (.inr (.inr (.inr xf4)))))]) (rd_Q (fun r => ((r.toInt = -1)))) 0 0 (fun _ => False) := by
  refine Met.ofW (cc := cX8_state) (maxL := 2) (ret := (some .int)) (by decide) rfl ?_
  intro p e s m args below meth c s₁ B hml hv
  obtain ⟨rfl, hP, hK⟩ := hv
  have hx := B.exec; have hb := B.bytes; have hr := B.returns
  have hts := atoms_spec (ws := wl yX8_state cX8_state 2 (some .int)) B.pre
  have htb : ∀ w ∈ tb, w.before _ s = true := fun w h => hts w (List.mem_cons_of_mem _ h)
  have hown : s.vm.findClass RX8 = some m.cls := findClass_of_methodNamed B.named
  have hlocks := B.notSynchronized
  have hP : va_P D vwCl [(xh, .inr (8, G8 xa xtrialRule xdropRule xtoday)), ((xa 4), .inl (E 4, 5, .inr (.inr (.inr (.inr xf4)))))] s.heap := hP
  have hl := lv_entry ([.ref xh, .int p0]) (n := 2) (Nat.le_of_ble_eq_true rfl)
  rw [lg_entry_eq]
  generalize (lg_sl ([.ref xh, .int p0]) ++ List.replicate (2 - (lg_sl ([.ref xh, .int p0])).length) Slot.unset).toArray = ls at hl ⊢
  have hl : lv_has ls 2 [(0, .ref xh), (1, .int p0)] := hl
  have lo_p0 := i_lo p0; have hi_p0 := i_hi p0
  refine lv_iload_n hx hb dX8_state_0 rfl (lv_at hl 1 rfl) ?_
  refine callRS (rest := []) (As := [.int p0]) hx hb hml hown htb hK (g_X8_isShip l D E p0 ) ok_X8_isShip k_773 k_774 k_1 k_775 ⟨(Nat.le_of_ble_eq_true rfl), (Nat.le_of_ble_eq_true rfl)⟩ ⟨(Nat.le_of_ble_eq_true rfl), (Nat.le_of_ble_eq_true rfl)⟩ hl.1 (Nat.le_of_ble_eq_true rfl) rfl rfl dX8_state_1 (hP.sub (ws' := ([] : va_W)) [] rfl) (fun r_1 hw_2 => ?_)
  rcases hw_2 with ⟨hr_1, hw_2⟩ | ⟨hr_1, hw_2⟩
  ·
    refine W_top (y := .int 1) (by rw [hr_1]) ?_
    refine lv_if_eq (tgt := 19) hx hb dX8_state_4 (by decide) (fun c_4 => absurd c_4 (by decide)) (fun c_4 => ?_)
    refine lv_aload_n hx hb dX8_state_7 rfl (lv_at hl 0 rfl) ?_
    refine va_get (D := D) (ci := 8) (v := .ref (xa 4)) (C := RX8) (T := TX8) (N := 14) hx hb htb iX8 hown hK.1 hP 0 rfl rfl 4 (by decide) (htb _ k_276) (fun _ h9 => h9) rfl dX8_state_8 ?_
    refine lv_iload_n hx hb dX8_state_11 rfl (lv_at hl 1 rfl) ?_
    refine va_aldq hx hb hK.1 hP 1 4 rfl rfl (g_in rfl (by omega) (by omega)) dX8_state_12 ?_
    exfalso; omega
  ·
    refine W_top (y := .int 0) (by rw [hr_1]) ?_
    refine lv_if_eq (tgt := 19) hx hb dX8_state_4 (by decide) (fun c_5 => ?_) (fun c_5 => absurd (by decide) c_5)
    refine lv_iconst (v := (-1)) hx hb dX8_state_19 (by decide) ?_
    exact W.iret (v := (-1)) hx hb hr (fun t ht hW => ⟨(-1), rfl, (by have hl0 := t_m1; (try dsimp only); first | exact (by omega)), ht⟩) (fun q h => by cases h) dX8_state_20
set_option maxHeartbeats 4000000 in
set_option maxRecDepth 100000 in
theorem g_X8_state_S (l : Launch) (D : va_G) (E : Nat → Nat) (xh : Nat) (xa : Nat → Nat) (xtrialRule : Nat) (xdropRule : Nat) (xtoday : Int32) (xf4 : Nat → Option Nat) (yh : Nat) (ya : Nat → Nat) (ysights : Int32) (ystage : Int32) (ysailed : Int32) (yvoyage : Int32) (p0 : Int32) (hi_x : (0 ≤ xtoday.toInt ∧ xtoday.toInt ≤ 399)) (hi_y : (0 ≤ ysights.toInt ∧ ysights.toInt ≤ 40)) (hs0 : 0 ≤ p0.toInt ∧ p0.toInt ≤ 4) (hy0 : xf4 (p0).toNatClampNeg = some yh) : Met l yX8_state (wl yX8_state cX8_state 2 (some .int)) (RM 1 0 0) (rd_P D E [.ref xh, .int p0] [(xh, .inr (8, G8 xa xtrialRule xdropRule xtoday)), ((xa 4), .inl (E 4, 5, .inr (.inr (.inr (.inr xf4))))), (yh, .inr (5, G5 ya ysights ystage ysailed yvoyage))]) (rd_Q (fun r => ((r = ystage)))) 0 0 (fun _ => False) := by
  refine Met.ofW (cc := cX8_state) (maxL := 2) (ret := (some .int)) (by decide) rfl ?_
  intro p e s m args below meth c s₁ B hml hv
  obtain ⟨rfl, hP, hK⟩ := hv
  have hx := B.exec; have hb := B.bytes; have hr := B.returns
  have hts := atoms_spec (ws := wl yX8_state cX8_state 2 (some .int)) B.pre
  have htb : ∀ w ∈ tb, w.before _ s = true := fun w h => hts w (List.mem_cons_of_mem _ h)
  have hown : s.vm.findClass RX8 = some m.cls := findClass_of_methodNamed B.named
  have hlocks := B.notSynchronized
  have hP : va_P D vwCl [(xh, .inr (8, G8 xa xtrialRule xdropRule xtoday)), ((xa 4), .inl (E 4, 5, .inr (.inr (.inr (.inr xf4))))), (yh, .inr (5, G5 ya ysights ystage ysailed yvoyage))] s.heap := hP
  have hl := lv_entry ([.ref xh, .int p0]) (n := 2) (Nat.le_of_ble_eq_true rfl)
  rw [lg_entry_eq]
  generalize (lg_sl ([.ref xh, .int p0]) ++ List.replicate (2 - (lg_sl ([.ref xh, .int p0])).length) Slot.unset).toArray = ls at hl ⊢
  have hl : lv_has ls 2 [(0, .ref xh), (1, .int p0)] := hl
  have lo_p0 := i_lo p0; have hi_p0 := i_hi p0
  refine lv_iload_n hx hb dX8_state_0 rfl (lv_at hl 1 rfl) ?_
  refine callRS (rest := []) (As := [.int p0]) hx hb hml hown htb hK (g_X8_isShip l D E p0 ) ok_X8_isShip k_773 k_774 k_1 k_775 ⟨(Nat.le_of_ble_eq_true rfl), (Nat.le_of_ble_eq_true rfl)⟩ ⟨(Nat.le_of_ble_eq_true rfl), (Nat.le_of_ble_eq_true rfl)⟩ hl.1 (Nat.le_of_ble_eq_true rfl) rfl rfl dX8_state_1 (hP.sub (ws' := ([] : va_W)) [] rfl) (fun r_1 hw_2 => ?_)
  rcases hw_2 with ⟨hr_1, hw_2⟩ | ⟨hr_1, hw_2⟩
  ·
    refine W_top (y := .int 1) (by rw [hr_1]) ?_
    refine lv_if_eq (tgt := 19) hx hb dX8_state_4 (by decide) (fun c_4 => absurd c_4 (by decide)) (fun c_4 => ?_)
    refine lv_aload_n hx hb dX8_state_7 rfl (lv_at hl 0 rfl) ?_
    refine va_get (D := D) (ci := 8) (v := .ref (xa 4)) (C := RX8) (T := TX8) (N := 14) hx hb htb iX8 hown hK.1 hP 0 rfl rfl 4 (by decide) (htb _ k_276) (fun _ h9 => h9) rfl dX8_state_8 ?_
    refine lv_iload_n hx hb dX8_state_11 rfl (lv_at hl 1 rfl) ?_
    refine va_aldq hx hb hK.1 hP 1 4 rfl rfl (g_in rfl (by omega) (by omega)) dX8_state_12 ?_
    refine W_top (y := .ref yh) (congrArg va_rf hy0) ?_
    refine va_getN (D := D) (ci := 5) (v := .int ystage) (C := RX5) (T := TX5) (N := 11) hx hb htb iX5 hown hK.1 hP 2 rfl rfl 8 (by decide) (va_Nw.use rfl (hK.2.1 (Cond.fieldLinkNest RX8 208 "SeaWatches$Ship" "stage" "I" "SeaWatches") (by decide +kernel))) (fun _ h9 => h9) rfl dX8_state_13 ?_
    refine lv_goto (tgt := 20) hx hb dX8_state_16 (by decide) ?_
    exact W.iret (v := ystage) hx hb hr (fun t ht hW => ⟨ystage, rfl, (by first | rfl | (exfalso; omega)), ht⟩) (fun q h => by cases h) dX8_state_20
  ·
    refine W_top (y := .int 0) (by rw [hr_1]) ?_
    refine lv_if_eq (tgt := 19) hx hb dX8_state_4 (by decide) (fun c_5 => ?_) (fun c_5 => absurd (by decide) c_5)
    refine lv_iconst (v := (-1)) hx hb dX8_state_19 (by decide) ?_
    exact W.iret (v := (-1)) hx hb hr (fun t ht hW => ⟨(-1), rfl, (by first | rfl | (exfalso; omega)), ht⟩) (fun q h => by cases h) dX8_state_20
set_option maxHeartbeats 4000000 in
set_option maxRecDepth 100000 in
theorem g_X8_sight_T (l : Launch) (D : va_G) (E : Nat → Nat) (xh : Nat) (xa : Nat → Nat) (xtrialRule : Nat) (xdropRule : Nat) (xtoday : Int32) (xf4 : Nat → Option Nat) (p0 : Int32) (p1 : Int32) (p2 : Int32) (p3 : Int32) (p4 : Int32) (hi_x : (0 ≤ xtoday.toInt ∧ xtoday.toInt ≤ 399)) (ht0 : ¬ (0 ≤ p0.toInt ∧ p0.toInt ≤ 4)) : Met l yX8_sight (wl yX8_sight cX8_sight 7 (some .int)) (RM 1 0 0) (rd_P D E [.ref xh, .int p0, .int p1, .int p2, .int p3, .int p4] [(xh, .inr (8, G8 xa xtrialRule xdropRule xtoday)), ((xa 4), .inl (E 4, 5, .inr (.inr (.inr (.inr xf4)))))]) (rd_Q (fun r => True)) 0 0 (fun _ => False) := by
  refine Met.ofW (cc := cX8_sight) (maxL := 7) (ret := (some .int)) (by decide) rfl ?_
  intro p e s m args below meth c s₁ B hml hv
  obtain ⟨rfl, hP, hK⟩ := hv
  have hx := B.exec; have hb := B.bytes; have hr := B.returns
  have hts := atoms_spec (ws := wl yX8_sight cX8_sight 7 (some .int)) B.pre
  have htb : ∀ w ∈ tb, w.before _ s = true := fun w h => hts w (List.mem_cons_of_mem _ h)
  have hown : s.vm.findClass RX8 = some m.cls := findClass_of_methodNamed B.named
  have hlocks := B.notSynchronized
  have hP : va_P D vwCl [(xh, .inr (8, G8 xa xtrialRule xdropRule xtoday)), ((xa 4), .inl (E 4, 5, .inr (.inr (.inr (.inr xf4)))))] s.heap := hP
  have hl := lv_entry ([.ref xh, .int p0, .int p1, .int p2, .int p3, .int p4]) (n := 7) (Nat.le_of_ble_eq_true rfl)
  rw [lg_entry_eq]
  generalize (lg_sl ([.ref xh, .int p0, .int p1, .int p2, .int p3, .int p4]) ++ List.replicate (7 - (lg_sl ([.ref xh, .int p0, .int p1, .int p2, .int p3, .int p4])).length) Slot.unset).toArray = ls at hl ⊢
  have hl : lv_has ls 7 [(0, .ref xh), (1, .int p0), (2, .int p1), (3, .int p2), (4, .int p3), (5, .int p4)] := hl
  have lo_p0 := i_lo p0; have hi_p0 := i_hi p0
  have lo_p1 := i_lo p1; have hi_p1 := i_hi p1
  have lo_p2 := i_lo p2; have hi_p2 := i_hi p2
  have lo_p3 := i_lo p3; have hi_p3 := i_hi p3
  have lo_p4 := i_lo p4; have hi_p4 := i_hi p4
  refine lv_iload_n hx hb dX8_sight_0 rfl (lv_at hl 1 rfl) ?_
  refine callRS (rest := []) (As := [.int p0]) hx hb hml hown htb hK (g_X8_isShip l D E p0 ) ok_X8_isShip k_773 k_774 k_1 k_775 ⟨(Nat.le_of_ble_eq_true rfl), (Nat.le_of_ble_eq_true rfl)⟩ ⟨(Nat.le_of_ble_eq_true rfl), (Nat.le_of_ble_eq_true rfl)⟩ hl.1 (Nat.le_of_ble_eq_true rfl) rfl rfl dX8_sight_1 (hP.sub (ws' := ([] : va_W)) [] rfl) (fun r_1 hw_2 => ?_)
  rcases hw_2 with ⟨hr_1, hw_2⟩ | ⟨hr_1, hw_2⟩
  ·
    refine W_top (y := .int 1) (by rw [hr_1]) ?_
    refine lv_if_eq (tgt := 44) hx hb dX8_sight_4 (by decide) (fun c_4 => absurd c_4 (by decide)) (fun c_4 => ?_)
    refine lv_aload_n hx hb dX8_sight_7 rfl (lv_at hl 0 rfl) ?_
    refine lv_iload_n hx hb dX8_sight_8 rfl (lv_at hl 2 rfl) ?_
    refine callRV (rest := []) (As := [.int p1]) hx hb hml hown htb hK (g_X8_isPast l D E xh xa xtrialRule xdropRule xtoday p1 (by (try dsimp only); omega)) ok_X8_isPast k_391 k_393 ks_2 k_1 k_394 ⟨(Nat.le_of_ble_eq_true rfl), (Nat.le_of_ble_eq_true rfl)⟩ ⟨(Nat.le_of_ble_eq_true rfl), (Nat.le_of_ble_eq_true rfl)⟩ hl.1 (Nat.le_of_ble_eq_true rfl) rfl rfl dX8_sight_9 (hP.sub (ws' := [(xh, .inr (8, G8 xa xtrialRule xdropRule xtoday))]) [0] rfl) rfl rfl 0 rfl (fun r_5 hw_6 => ?_)
    rcases hw_6 with ⟨hr_5, hw_6⟩ | ⟨hr_5, hw_6⟩
    ·
      refine W_top (y := .int 1) (by rw [hr_5]) ?_
      refine lv_if_eq (tgt := 44) hx hb dX8_sight_12 (by decide) (fun c_8 => absurd c_8 (by decide)) (fun c_8 => ?_)
      refine lv_iload_n hx hb dX8_sight_15 rfl (lv_at hl 3 rfl) ?_
      refine lv_ldc hx hb hown (htb _ k_816) dX8_sight_16 ?_
      refine callRS (rest := []) (As := [.int p2, .int 2000000]) hx hb hml hown htb hK (g_X8_isWithin l D E p2 2000000 (by decide)) ok_X8_isWithin k_326 k_327 k_1 k_328 ⟨(Nat.le_of_ble_eq_true rfl), (Nat.le_of_ble_eq_true rfl)⟩ ⟨(Nat.le_of_ble_eq_true rfl), (Nat.le_of_ble_eq_true rfl)⟩ hl.1 (Nat.le_of_ble_eq_true rfl) rfl rfl dX8_sight_18 (hP.sub (ws' := ([] : va_W)) [] rfl) (fun r_9 hw_10 => ?_)
      try simp only [t_2000000] at hw_10
      rcases hw_10 with ⟨hr_9, hw_10⟩ | ⟨hr_9, hw_10⟩
      ·
        try simp only [t_2000000] at hw_10
        refine W_top (y := .int 1) (by rw [hr_9]) ?_
        refine lv_if_eq (tgt := 44) hx hb dX8_sight_21 (by decide) (fun c_12 => absurd c_12 (by decide)) (fun c_12 => ?_)
        refine lv_iload hx hb dX8_sight_24 (lv_at hl 4 rfl) ?_
        refine lv_ldc hx hb hown (htb _ k_816) dX8_sight_26 ?_
        refine callRS (rest := []) (As := [.int p3, .int 2000000]) hx hb hml hown htb hK (g_X8_isWithin l D E p3 2000000 (by decide)) ok_X8_isWithin k_326 k_327 k_1 k_328 ⟨(Nat.le_of_ble_eq_true rfl), (Nat.le_of_ble_eq_true rfl)⟩ ⟨(Nat.le_of_ble_eq_true rfl), (Nat.le_of_ble_eq_true rfl)⟩ hl.1 (Nat.le_of_ble_eq_true rfl) rfl rfl dX8_sight_28 (hP.sub (ws' := ([] : va_W)) [] rfl) (fun r_13 hw_14 => ?_)
        try simp only [t_2000000] at hw_14
        rcases hw_14 with ⟨hr_13, hw_14⟩ | ⟨hr_13, hw_14⟩
        ·
          try simp only [t_2000000] at hw_14
          refine W_top (y := .int 1) (by rw [hr_13]) ?_
          refine lv_if_eq (tgt := 44) hx hb dX8_sight_31 (by decide) (fun c_16 => absurd c_16 (by decide)) (fun c_16 => ?_)
          refine lv_iload hx hb dX8_sight_34 (lv_at hl 5 rfl) ?_
          refine lv_ldc hx hb hown (htb _ k_816) dX8_sight_36 ?_
          refine callRS (rest := []) (As := [.int p4, .int 2000000]) hx hb hml hown htb hK (g_X8_isWithin l D E p4 2000000 (by decide)) ok_X8_isWithin k_326 k_327 k_1 k_328 ⟨(Nat.le_of_ble_eq_true rfl), (Nat.le_of_ble_eq_true rfl)⟩ ⟨(Nat.le_of_ble_eq_true rfl), (Nat.le_of_ble_eq_true rfl)⟩ hl.1 (Nat.le_of_ble_eq_true rfl) rfl rfl dX8_sight_38 (hP.sub (ws' := ([] : va_W)) [] rfl) (fun r_17 hw_18 => ?_)
          try simp only [t_2000000] at hw_18
          rcases hw_18 with ⟨hr_17, hw_18⟩ | ⟨hr_17, hw_18⟩
          ·
            try simp only [t_2000000] at hw_18
            refine W_top (y := .int 1) (by rw [hr_17]) ?_
            refine lv_if_ne (tgt := 46) hx hb dX8_sight_41 (by decide) (fun c_20 => ?_) (fun c_20 => absurd c_20 (by decide))
            refine lv_aload_n hx hb dX8_sight_46 rfl (lv_at hl 0 rfl) ?_
            refine va_get (D := D) (ci := 8) (v := .ref (xa 4)) (C := RX8) (T := TX8) (N := 14) hx hb htb iX8 hown hK.1 hP 0 rfl rfl 4 (by decide) (htb _ k_276) (fun _ h9 => h9) rfl dX8_sight_47 ?_
            refine lv_iload_n hx hb dX8_sight_50 rfl (lv_at hl 1 rfl) ?_
            refine va_aldq hx hb hK.1 hP 1 4 rfl rfl (g_in rfl (by omega) (by omega)) dX8_sight_51 ?_
            exfalso; omega
          ·
            try simp only [t_2000000] at hw_18
            refine W_top (y := .int 0) (by rw [hr_17]) ?_
            refine lv_if_ne (tgt := 46) hx hb dX8_sight_41 (by decide) (fun c_21 => absurd (by decide) c_21) (fun c_21 => ?_)
            refine lv_iconst (v := (-1)) hx hb dX8_sight_44 (by decide) ?_
            exact W.iret (v := (-1)) hx hb hr (fun t ht hW => ⟨(-1), rfl, trivial, ht⟩) (fun q h => by cases h) dX8_sight_45
        ·
          try simp only [t_2000000] at hw_14
          refine W_top (y := .int 0) (by rw [hr_13]) ?_
          refine lv_if_eq (tgt := 44) hx hb dX8_sight_31 (by decide) (fun c_22 => ?_) (fun c_22 => absurd (by decide) c_22)
          refine lv_iconst (v := (-1)) hx hb dX8_sight_44 (by decide) ?_
          exact W.iret (v := (-1)) hx hb hr (fun t ht hW => ⟨(-1), rfl, trivial, ht⟩) (fun q h => by cases h) dX8_sight_45
      ·
        try simp only [t_2000000] at hw_10
        refine W_top (y := .int 0) (by rw [hr_9]) ?_
        refine lv_if_eq (tgt := 44) hx hb dX8_sight_21 (by decide) (fun c_23 => ?_) (fun c_23 => absurd (by decide) c_23)
        refine lv_iconst (v := (-1)) hx hb dX8_sight_44 (by decide) ?_
        exact W.iret (v := (-1)) hx hb hr (fun t ht hW => ⟨(-1), rfl, trivial, ht⟩) (fun q h => by cases h) dX8_sight_45
    ·
      refine W_top (y := .int 0) (by rw [hr_5]) ?_
      refine lv_if_eq (tgt := 44) hx hb dX8_sight_12 (by decide) (fun c_24 => ?_) (fun c_24 => absurd (by decide) c_24)
      refine lv_iconst (v := (-1)) hx hb dX8_sight_44 (by decide) ?_
      exact W.iret (v := (-1)) hx hb hr (fun t ht hW => ⟨(-1), rfl, trivial, ht⟩) (fun q h => by cases h) dX8_sight_45
  ·
    refine W_top (y := .int 0) (by rw [hr_1]) ?_
    refine lv_if_eq (tgt := 44) hx hb dX8_sight_4 (by decide) (fun c_25 => ?_) (fun c_25 => absurd (by decide) c_25)
    refine lv_iconst (v := (-1)) hx hb dX8_sight_44 (by decide) ?_
    exact W.iret (v := (-1)) hx hb hr (fun t ht hW => ⟨(-1), rfl, trivial, ht⟩) (fun q h => by cases h) dX8_sight_45
set_option maxHeartbeats 4000000 in
set_option maxRecDepth 100000 in
theorem g_X8_sight_S (l : Launch) (D : va_G) (E : Nat → Nat) (xh : Nat) (xa : Nat → Nat) (xtrialRule : Nat) (xdropRule : Nat) (xtoday : Int32) (xf4 : Nat → Option Nat) (yh : Nat) (ya : Nat → Nat) (ysights : Int32) (ystage : Int32) (ysailed : Int32) (yvoyage : Int32) (yf5 : Nat → Int32) (yf6 : Nat → Int32) (p0 : Int32) (p1 : Int32) (p2 : Int32) (p3 : Int32) (p4 : Int32) (sz : Nat) (hi_x : (0 ≤ xtoday.toInt ∧ xtoday.toInt ≤ 399)) (hi_y : (0 ≤ ysights.toInt ∧ ysights.toInt ≤ 40)) (hs0 : 0 ≤ p0.toInt ∧ p0.toInt ≤ 4) (hy0 : xf4 (p0).toNatClampNeg = some yh) : Met l yX8_sight (wl yX8_sight cX8_sight 7 (some .int)) (RM 1 0 0) (mu_P D E [.ref xh, .int p0, .int p1, .int p2, .int p3, .int p4] [(xh, .inr (8, G8 xa xtrialRule xdropRule xtoday)), ((xa 4), .inl (E 4, 5, .inr (.inr (.inr (.inr xf4))))), (yh, .inr (5, G5 ya ysights ystage ysailed yvoyage)), ((ya 5), .inl (E 0, 40, .inl yf5)), ((ya 6), .inl (E 0, 120, .inl yf6))] sz) (va_Qi (fun (r : Int32) (u : (Nat → Int32) × (Nat → Int32) × (Int32)) => (0 ≤ u.2.2.toInt ∧ u.2.2.toInt ≤ 40)) (mu_B D (va_A [(xh, .inr (8, G8 xa xtrialRule xdropRule xtoday)), ((xa 4), .inl (E 4, 5, .inr (.inr (.inr (.inr xf4))))), (yh, .inr (5, G5 ya ysights ystage ysailed yvoyage)), ((ya 5), .inl (E 0, 40, .inl yf5)), ((ya 6), .inl (E 0, 120, .inl yf6))] sz) (fun (u : (Nat → Int32) × (Nat → Int32) × (Int32)) => [(xh, .inr (8, G8 xa xtrialRule xdropRule xtoday)), ((xa 4), .inl (E 4, 5, .inr (.inr (.inr (.inr xf4))))), (yh, .inr (5, G5 ya u.2.2 ystage ysailed yvoyage)), ((ya 5), .inl (E 0, 40, .inl u.1)), ((ya 6), .inl (E 0, 120, .inl u.2.1))])) (va_A [(xh, .inr (8, G8 xa xtrialRule xdropRule xtoday)), ((xa 4), .inl (E 4, 5, .inr (.inr (.inr (.inr xf4))))), (yh, .inr (5, G5 ya ysights ystage ysailed yvoyage)), ((ya 5), .inl (E 0, 40, .inl yf5)), ((ya 6), .inl (E 0, 120, .inl yf6))] sz)) 0 0 (va_A [(xh, .inr (8, G8 xa xtrialRule xdropRule xtoday)), ((xa 4), .inl (E 4, 5, .inr (.inr (.inr (.inr xf4))))), (yh, .inr (5, G5 ya ysights ystage ysailed yvoyage)), ((ya 5), .inl (E 0, 40, .inl yf5)), ((ya 6), .inl (E 0, 120, .inl yf6))] sz) := by
  refine Met.ofW (cc := cX8_sight) (maxL := 7) (ret := (some .int)) (by decide) rfl ?_
  intro p e s m args below meth c s₁ B hml hv
  obtain ⟨rfl, hsz, hP, hK, hD0⟩ := hv
  have hx := B.exec; have hb := B.bytes; have hr := B.returns
  have hts := atoms_spec (ws := wl yX8_sight cX8_sight 7 (some .int)) B.pre
  have htb : ∀ w ∈ tb, w.before _ s = true := fun w h => hts w (List.mem_cons_of_mem _ h)
  have hown : s.vm.findClass RX8 = some m.cls := findClass_of_methodNamed B.named
  have hlocks := B.notSynchronized
  subst hsz
  have hD := hD0.self (sz := s.heap.size)
  generalize hAe : va_A [(xh, .inr (8, G8 xa xtrialRule xdropRule xtoday)), ((xa 4), .inl (E 4, 5, .inr (.inr (.inr (.inr xf4))))), (yh, .inr (5, G5 ya ysights ystage ysailed yvoyage)), ((ya 5), .inl (E 0, 40, .inl yf5)), ((ya 6), .inl (E 0, 120, .inl yf6))] s.heap.size = A at hD ⊢
  have hA : ∀ q : Nat, s.heap.size ≤ q → A q := fun q h => by rw [← hAe]; exact Or.inr h
  have hS : va_S A s.heap s.heap [] := va_S.rf
  have hP : va_P D vwCl [(xh, .inr (8, G8 xa xtrialRule xdropRule xtoday)), ((xa 4), .inl (E 4, 5, .inr (.inr (.inr (.inr xf4))))), (yh, .inr (5, G5 ya ysights ystage ysailed yvoyage)), ((ya 5), .inl (E 0, 40, .inl yf5)), ((ya 6), .inl (E 0, 120, .inl yf6))] s.heap := hP
  have hl := lv_entry ([.ref xh, .int p0, .int p1, .int p2, .int p3, .int p4]) (n := 7) (Nat.le_of_ble_eq_true rfl)
  rw [lg_entry_eq]
  generalize (lg_sl ([.ref xh, .int p0, .int p1, .int p2, .int p3, .int p4]) ++ List.replicate (7 - (lg_sl ([.ref xh, .int p0, .int p1, .int p2, .int p3, .int p4])).length) Slot.unset).toArray = ls at hl ⊢
  have hl : lv_has ls 7 [(0, .ref xh), (1, .int p0), (2, .int p1), (3, .int p2), (4, .int p3), (5, .int p4)] := hl
  have lo_p0 := i_lo p0; have hi_p0 := i_hi p0
  have lo_p1 := i_lo p1; have hi_p1 := i_hi p1
  have lo_p2 := i_lo p2; have hi_p2 := i_hi p2
  have lo_p3 := i_lo p3; have hi_p3 := i_hi p3
  have lo_p4 := i_lo p4; have hi_p4 := i_hi p4
  refine lv_iload_n hx hb dX8_sight_0 rfl (lv_at hl 1 rfl) ?_
  refine callRS (rest := []) (As := [.int p0]) hx hb hml hown htb hK (g_X8_isShip l D E p0 ) ok_X8_isShip k_773 k_774 k_1 k_775 ⟨(Nat.le_of_ble_eq_true rfl), (Nat.le_of_ble_eq_true rfl)⟩ ⟨(Nat.le_of_ble_eq_true rfl), (Nat.le_of_ble_eq_true rfl)⟩ hl.1 (Nat.le_of_ble_eq_true rfl) rfl rfl dX8_sight_1 (hP.sub (ws' := ([] : va_W)) [] rfl) (fun r_1 hw_2 => ?_)
  rcases hw_2 with ⟨hr_1, hw_2⟩ | ⟨hr_1, hw_2⟩
  ·
    refine W_top (y := .int 1) (by rw [hr_1]) ?_
    refine lv_if_eq (tgt := 44) hx hb dX8_sight_4 (by decide) (fun c_4 => absurd c_4 (by decide)) (fun c_4 => ?_)
    refine lv_aload_n hx hb dX8_sight_7 rfl (lv_at hl 0 rfl) ?_
    refine lv_iload_n hx hb dX8_sight_8 rfl (lv_at hl 2 rfl) ?_
    refine callRV (rest := []) (As := [.int p1]) hx hb hml hown htb hK (g_X8_isPast l D E xh xa xtrialRule xdropRule xtoday p1 (by (try dsimp only); omega)) ok_X8_isPast k_391 k_393 ks_2 k_1 k_394 ⟨(Nat.le_of_ble_eq_true rfl), (Nat.le_of_ble_eq_true rfl)⟩ ⟨(Nat.le_of_ble_eq_true rfl), (Nat.le_of_ble_eq_true rfl)⟩ hl.1 (Nat.le_of_ble_eq_true rfl) rfl rfl dX8_sight_9 (hP.sub (ws' := [(xh, .inr (8, G8 xa xtrialRule xdropRule xtoday))]) [0] rfl) rfl rfl 0 rfl (fun r_5 hw_6 => ?_)
    rcases hw_6 with ⟨hr_5, hw_6⟩ | ⟨hr_5, hw_6⟩
    ·
      refine W_top (y := .int 1) (by rw [hr_5]) ?_
      refine lv_if_eq (tgt := 44) hx hb dX8_sight_12 (by decide) (fun c_8 => absurd c_8 (by decide)) (fun c_8 => ?_)
      refine lv_iload_n hx hb dX8_sight_15 rfl (lv_at hl 3 rfl) ?_
      refine lv_ldc hx hb hown (htb _ k_816) dX8_sight_16 ?_
      refine callRS (rest := []) (As := [.int p2, .int 2000000]) hx hb hml hown htb hK (g_X8_isWithin l D E p2 2000000 (by decide)) ok_X8_isWithin k_326 k_327 k_1 k_328 ⟨(Nat.le_of_ble_eq_true rfl), (Nat.le_of_ble_eq_true rfl)⟩ ⟨(Nat.le_of_ble_eq_true rfl), (Nat.le_of_ble_eq_true rfl)⟩ hl.1 (Nat.le_of_ble_eq_true rfl) rfl rfl dX8_sight_18 (hP.sub (ws' := ([] : va_W)) [] rfl) (fun r_9 hw_10 => ?_)
      try simp only [t_2000000] at hw_10
      rcases hw_10 with ⟨hr_9, hw_10⟩ | ⟨hr_9, hw_10⟩
      ·
        try simp only [t_2000000] at hw_10
        refine W_top (y := .int 1) (by rw [hr_9]) ?_
        refine lv_if_eq (tgt := 44) hx hb dX8_sight_21 (by decide) (fun c_12 => absurd c_12 (by decide)) (fun c_12 => ?_)
        refine lv_iload hx hb dX8_sight_24 (lv_at hl 4 rfl) ?_
        refine lv_ldc hx hb hown (htb _ k_816) dX8_sight_26 ?_
        refine callRS (rest := []) (As := [.int p3, .int 2000000]) hx hb hml hown htb hK (g_X8_isWithin l D E p3 2000000 (by decide)) ok_X8_isWithin k_326 k_327 k_1 k_328 ⟨(Nat.le_of_ble_eq_true rfl), (Nat.le_of_ble_eq_true rfl)⟩ ⟨(Nat.le_of_ble_eq_true rfl), (Nat.le_of_ble_eq_true rfl)⟩ hl.1 (Nat.le_of_ble_eq_true rfl) rfl rfl dX8_sight_28 (hP.sub (ws' := ([] : va_W)) [] rfl) (fun r_13 hw_14 => ?_)
        try simp only [t_2000000] at hw_14
        rcases hw_14 with ⟨hr_13, hw_14⟩ | ⟨hr_13, hw_14⟩
        ·
          try simp only [t_2000000] at hw_14
          refine W_top (y := .int 1) (by rw [hr_13]) ?_
          refine lv_if_eq (tgt := 44) hx hb dX8_sight_31 (by decide) (fun c_16 => absurd c_16 (by decide)) (fun c_16 => ?_)
          refine lv_iload hx hb dX8_sight_34 (lv_at hl 5 rfl) ?_
          refine lv_ldc hx hb hown (htb _ k_816) dX8_sight_36 ?_
          refine callRS (rest := []) (As := [.int p4, .int 2000000]) hx hb hml hown htb hK (g_X8_isWithin l D E p4 2000000 (by decide)) ok_X8_isWithin k_326 k_327 k_1 k_328 ⟨(Nat.le_of_ble_eq_true rfl), (Nat.le_of_ble_eq_true rfl)⟩ ⟨(Nat.le_of_ble_eq_true rfl), (Nat.le_of_ble_eq_true rfl)⟩ hl.1 (Nat.le_of_ble_eq_true rfl) rfl rfl dX8_sight_38 (hP.sub (ws' := ([] : va_W)) [] rfl) (fun r_17 hw_18 => ?_)
          try simp only [t_2000000] at hw_18
          rcases hw_18 with ⟨hr_17, hw_18⟩ | ⟨hr_17, hw_18⟩
          ·
            try simp only [t_2000000] at hw_18
            refine W_top (y := .int 1) (by rw [hr_17]) ?_
            refine lv_if_ne (tgt := 46) hx hb dX8_sight_41 (by decide) (fun c_20 => ?_) (fun c_20 => absurd c_20 (by decide))
            refine lv_aload_n hx hb dX8_sight_46 rfl (lv_at hl 0 rfl) ?_
            refine va_get (D := D) (ci := 8) (v := .ref (xa 4)) (C := RX8) (T := TX8) (N := 14) hx hb htb iX8 hown hK.1 hP 0 rfl rfl 4 (by decide) (htb _ k_276) (fun _ h9 => h9) rfl dX8_sight_47 ?_
            refine lv_iload_n hx hb dX8_sight_50 rfl (lv_at hl 1 rfl) ?_
            refine va_aldq hx hb hK.1 hP 1 4 rfl rfl (g_in rfl (by omega) (by omega)) dX8_sight_51 ?_
            refine W_top (y := .ref yh) (congrArg va_rf hy0) ?_
            refine lv_astore (lv' := [(6, .ref yh), (0, .ref xh), (1, .int p0), (2, .int p1), (3, .int p2), (4, .int p3), (5, .int p4)]) hx hb dX8_sight_52 hl (by decide) rfl (fun ls hl => ?_)
            refine lv_aload hx hb dX8_sight_54 (lv_at hl 0 rfl) ?_
            refine lv_iload_n hx hb dX8_sight_56 rfl (lv_at hl 3 rfl) ?_
            refine callRV (rest := []) (As := [.int p1]) hx hb hml hown htb hK (g_X5_mayBeSighted l D E yh ya ysights ystage ysailed yvoyage yf5 p1 (by (try dsimp only); omega)) ok_X5_mayBeSighted k_817 k_818 k_819 k_8 k_820 ⟨(Nat.le_of_ble_eq_true rfl), (Nat.le_of_ble_eq_true rfl)⟩ ⟨(Nat.le_of_ble_eq_true rfl), (Nat.le_of_ble_eq_true rfl)⟩ hl.1 (Nat.le_of_ble_eq_true rfl) rfl rfl dX8_sight_57 (hP.sub (ws' := [(yh, .inr (5, G5 ya ysights ystage ysailed yvoyage)), ((ya 5), .inl (E 0, 40, .inl yf5))]) [2, 3] rfl) rfl rfl 0 rfl (fun r_21 hw_22 => ?_)
            refine lv_if_ne (tgt := 65) hx hb dX8_sight_60 (by decide) (fun c_24 => ?_) (fun c_24 => ?_)
            ·
              have ic_24 : r_21.toInt ≠ 0 := mt (g_eq rfl t_0).mpr c_24
              clear c_24
              refine lv_aload hx hb dX8_sight_65 (lv_at hl 0 rfl) ?_
              refine va_getN (D := D) (ci := 5) (v := .int ystage) (C := RX5) (T := TX5) (N := 11) hx hb htb iX5 hown hK.1 hP 2 rfl rfl 8 (by decide) (va_Nw.use rfl (hK.2.1 (Cond.fieldLinkNest RX8 208 "SeaWatches$Ship" "stage" "I" "SeaWatches") (by decide +kernel))) (fun _ h9 => h9) rfl dX8_sight_67 ?_
              refine lv_iconst (v := 1) hx hb dX8_sight_70 (by decide) ?_
              refine lv_icmp_eq (tgt := 77) hx hb dX8_sight_71 (by decide) (fun c_25 => ?_) (fun c_25 => ?_)
              ·
                have ic_25 : ystage.toInt = 1 := (g_eq rfl t_1).mp c_25
                clear c_25
                refine lv_aload hx hb dX8_sight_77 (lv_at hl 0 rfl) ?_
                refine va_getN (D := D) (ci := 5) (v := .int ysights) (C := RX5) (T := TX5) (N := 11) hx hb htb iX5 hown hK.1 hP 2 rfl rfl 7 (by decide) (va_Nw.use rfl (hK.2.1 (Cond.fieldLinkNest RX8 236 "SeaWatches$Ship" "sights" "I" "SeaWatches") (by decide +kernel))) (fun _ h9 => h9) rfl dX8_sight_79 ?_
                refine lv_bipush (v := 40) hx hb dX8_sight_82 (by decide) ?_
                refine lv_icmp_lt (tgt := 90) hx hb dX8_sight_84 (by decide) (fun c_26 => ?_) (fun c_26 => ?_)
                ·
                  have ic_26 : ysights.toInt < 40 := by first | exact (g_lt rfl t_40).mp c_26 | (have h := mt (g_le t_40 rfl).mpr c_26; omega)
                  clear c_26
                  refine lv_aload hx hb dX8_sight_90 (lv_at hl 0 rfl) ?_
                  refine lv_iload_n hx hb dX8_sight_92 rfl (lv_at hl 3 rfl) ?_
                  refine lv_iload_n hx hb dX8_sight_93 rfl (lv_at hl 4 rfl) ?_
                  refine lv_iload hx hb dX8_sight_94 (lv_at hl 5 rfl) ?_
                  refine lv_iload hx hb dX8_sight_96 (lv_at hl 6 rfl) ?_
                  have hPc := hP.sub (ws' := [(yh, .inr (5, G5 ya ysights ystage ysailed yvoyage)), ((ya 5), .inl (E 0, 40, .inl yf5)), ((ya 6), .inl (E 0, 120, .inl yf6))]) [2, 3, 4] rfl
                  have hDc := hD.sub (ws' := [(yh, .inr (5, G5 ya ysights ystage ysailed yvoyage)), ((ya 5), .inl (E 0, 40, .inl yf5)), ((ya 6), .inl (E 0, 120, .inl yf6))]) [2, 3, 4] (by decide) rfl
                  refine aft_i (runMV (rest := []) (As := [.int p1, .int p2, .int p3, .int p4]) hx hb hml hown htb hK (g_X5_addSight l D E yh ya ysights ystage ysailed yvoyage yf5 yf6 p1 p2 p3 p4 _ (by (try dsimp only); omega)) ok_X5_addSight k_821 k_822 k_823 k_8 k_824 ⟨(Nat.le_of_ble_eq_true rfl), (Nat.le_of_ble_eq_true rfl)⟩ ⟨(Nat.le_of_ble_eq_true rfl), (Nat.le_of_ble_eq_true rfl)⟩ hl.1 (Nat.le_of_ble_eq_true rfl) rfl rfl dX8_sight_98 hPc hDc rfl rfl 0 rfl) hP hD hS hA [2, 3, 4] [0, 1] (wr := [(xh, .inr (8, G8 xa xtrialRule xdropRule xtoday)), ((xa 4), .inl (E 4, 5, .inr (.inr (.inr (.inr xf4)))))]) rfl rfl (by decide) (by decide) (fun r_27 u_29 H locs hw_28 hP hD hS => ?_)
                  clear hPc hDc
                  obtain ⟨w_30, w_31, w_32⟩ := u_29
                  try dsimp only at hw_28
                  have hP : va_P D vwCl [(xh, .inr (8, G8 xa xtrialRule xdropRule xtoday)), ((xa 4), .inl (E 4, 5, .inr (.inr (.inr (.inr xf4))))), (yh, .inr (5, G5 ya w_32 ystage ysailed yvoyage)), ((ya 5), .inl (E 0, 40, .inl w_30)), ((ya 6), .inl (E 0, 120, .inl w_31))] H := hP
                  have hD := toW hP hD rfl
                  have hP9 := hP.sub (ws' := [(xh, .inr (8, G8 xa xtrialRule xdropRule xtoday)), ((xa 4), .inl (E 4, 5, .inr (.inr (.inr (.inr xf4))))), (yh, .inr (5, G5 ya w_32 ystage ysailed yvoyage)), ((ya 5), .inl (E 0, 40, .inl w_30)), ((ya 6), .inl (E 0, 120, .inl w_31))]) [0, 1, 2, 3, 4] rfl
                  have hD9 := hD.sub (ws' := [(xh, .inr (8, G8 xa xtrialRule xdropRule xtoday)), ((xa 4), .inl (E 4, 5, .inr (.inr (.inr (.inr xf4))))), (yh, .inr (5, G5 ya w_32 ystage ysailed yvoyage)), ((ya 5), .inl (E 0, 40, .inl w_30)), ((ya 6), .inl (E 0, 120, .inl w_31))]) [0, 1, 2, 3, 4] (by decide) rfl
                  exact W.iret (v := r_27) hx hb hr (fun t ht hW => ⟨⟨r_27, (w_30, w_31, w_32), rfl, (by (try dsimp only); omega), by rw [ht]; exact hP9, hD9⟩, hS.F ht⟩) hS.2.2 dX8_sight_101
                ·
                  have ic_26 : 40 ≤ ysights.toInt := by first | exact (g_le t_40 rfl).mp c_26 | (have h := mt (g_lt rfl t_40).mpr c_26; omega)
                  clear c_26
                  refine lv_bipush (v := (-5)) hx hb dX8_sight_87 (by decide) ?_
                  have hP9 := hP.sub (ws' := [(xh, .inr (8, G8 xa xtrialRule xdropRule xtoday)), ((xa 4), .inl (E 4, 5, .inr (.inr (.inr (.inr xf4))))), (yh, .inr (5, G5 ya ysights ystage ysailed yvoyage)), ((ya 5), .inl (E 0, 40, .inl yf5)), ((ya 6), .inl (E 0, 120, .inl yf6))]) [0, 1, 2, 3, 4] rfl
                  have hD9 := hD.sub (ws' := [(xh, .inr (8, G8 xa xtrialRule xdropRule xtoday)), ((xa 4), .inl (E 4, 5, .inr (.inr (.inr (.inr xf4))))), (yh, .inr (5, G5 ya ysights ystage ysailed yvoyage)), ((ya 5), .inl (E 0, 40, .inl yf5)), ((ya 6), .inl (E 0, 120, .inl yf6))]) [0, 1, 2, 3, 4] (by decide) rfl
                  exact W.iret (v := (-5)) hx hb hr (fun t ht hW => ⟨⟨(-5), (yf5, yf6, ysights), rfl, (by (try dsimp only); omega), by rw [ht]; exact hP9, hD9⟩, hS.F ht⟩) hS.2.2 dX8_sight_89
              ·
                have ic_25 : ystage.toInt ≠ 1 := mt (g_eq rfl t_1).mpr c_25
                clear c_25
                refine lv_bipush (v := (-4)) hx hb dX8_sight_74 (by decide) ?_
                have hP9 := hP.sub (ws' := [(xh, .inr (8, G8 xa xtrialRule xdropRule xtoday)), ((xa 4), .inl (E 4, 5, .inr (.inr (.inr (.inr xf4))))), (yh, .inr (5, G5 ya ysights ystage ysailed yvoyage)), ((ya 5), .inl (E 0, 40, .inl yf5)), ((ya 6), .inl (E 0, 120, .inl yf6))]) [0, 1, 2, 3, 4] rfl
                have hD9 := hD.sub (ws' := [(xh, .inr (8, G8 xa xtrialRule xdropRule xtoday)), ((xa 4), .inl (E 4, 5, .inr (.inr (.inr (.inr xf4))))), (yh, .inr (5, G5 ya ysights ystage ysailed yvoyage)), ((ya 5), .inl (E 0, 40, .inl yf5)), ((ya 6), .inl (E 0, 120, .inl yf6))]) [0, 1, 2, 3, 4] (by decide) rfl
                exact W.iret (v := (-4)) hx hb hr (fun t ht hW => ⟨⟨(-4), (yf5, yf6, ysights), rfl, (by (try dsimp only); omega), by rw [ht]; exact hP9, hD9⟩, hS.F ht⟩) hS.2.2 dX8_sight_76
            ·
              have ic_24 : r_21.toInt = 0 := (g_eq rfl t_0).mp c_24
              clear c_24
              refine lv_iconst (v := (-1)) hx hb dX8_sight_63 (by decide) ?_
              have hP9 := hP.sub (ws' := [(xh, .inr (8, G8 xa xtrialRule xdropRule xtoday)), ((xa 4), .inl (E 4, 5, .inr (.inr (.inr (.inr xf4))))), (yh, .inr (5, G5 ya ysights ystage ysailed yvoyage)), ((ya 5), .inl (E 0, 40, .inl yf5)), ((ya 6), .inl (E 0, 120, .inl yf6))]) [0, 1, 2, 3, 4] rfl
              have hD9 := hD.sub (ws' := [(xh, .inr (8, G8 xa xtrialRule xdropRule xtoday)), ((xa 4), .inl (E 4, 5, .inr (.inr (.inr (.inr xf4))))), (yh, .inr (5, G5 ya ysights ystage ysailed yvoyage)), ((ya 5), .inl (E 0, 40, .inl yf5)), ((ya 6), .inl (E 0, 120, .inl yf6))]) [0, 1, 2, 3, 4] (by decide) rfl
              exact W.iret (v := (-1)) hx hb hr (fun t ht hW => ⟨⟨(-1), (yf5, yf6, ysights), rfl, (by (try dsimp only); omega), by rw [ht]; exact hP9, hD9⟩, hS.F ht⟩) hS.2.2 dX8_sight_64
          ·
            try simp only [t_2000000] at hw_18
            refine W_top (y := .int 0) (by rw [hr_17]) ?_
            refine lv_if_ne (tgt := 46) hx hb dX8_sight_41 (by decide) (fun c_33 => absurd (by decide) c_33) (fun c_33 => ?_)
            refine lv_iconst (v := (-1)) hx hb dX8_sight_44 (by decide) ?_
            have hP9 := hP.sub (ws' := [(xh, .inr (8, G8 xa xtrialRule xdropRule xtoday)), ((xa 4), .inl (E 4, 5, .inr (.inr (.inr (.inr xf4))))), (yh, .inr (5, G5 ya ysights ystage ysailed yvoyage)), ((ya 5), .inl (E 0, 40, .inl yf5)), ((ya 6), .inl (E 0, 120, .inl yf6))]) [0, 1, 2, 3, 4] rfl
            have hD9 := hD.sub (ws' := [(xh, .inr (8, G8 xa xtrialRule xdropRule xtoday)), ((xa 4), .inl (E 4, 5, .inr (.inr (.inr (.inr xf4))))), (yh, .inr (5, G5 ya ysights ystage ysailed yvoyage)), ((ya 5), .inl (E 0, 40, .inl yf5)), ((ya 6), .inl (E 0, 120, .inl yf6))]) [0, 1, 2, 3, 4] (by decide) rfl
            exact W.iret (v := (-1)) hx hb hr (fun t ht hW => ⟨⟨(-1), (yf5, yf6, ysights), rfl, (by (try dsimp only); omega), by rw [ht]; exact hP9, hD9⟩, hS.F ht⟩) hS.2.2 dX8_sight_45
        ·
          try simp only [t_2000000] at hw_14
          refine W_top (y := .int 0) (by rw [hr_13]) ?_
          refine lv_if_eq (tgt := 44) hx hb dX8_sight_31 (by decide) (fun c_34 => ?_) (fun c_34 => absurd (by decide) c_34)
          refine lv_iconst (v := (-1)) hx hb dX8_sight_44 (by decide) ?_
          have hP9 := hP.sub (ws' := [(xh, .inr (8, G8 xa xtrialRule xdropRule xtoday)), ((xa 4), .inl (E 4, 5, .inr (.inr (.inr (.inr xf4))))), (yh, .inr (5, G5 ya ysights ystage ysailed yvoyage)), ((ya 5), .inl (E 0, 40, .inl yf5)), ((ya 6), .inl (E 0, 120, .inl yf6))]) [0, 1, 2, 3, 4] rfl
          have hD9 := hD.sub (ws' := [(xh, .inr (8, G8 xa xtrialRule xdropRule xtoday)), ((xa 4), .inl (E 4, 5, .inr (.inr (.inr (.inr xf4))))), (yh, .inr (5, G5 ya ysights ystage ysailed yvoyage)), ((ya 5), .inl (E 0, 40, .inl yf5)), ((ya 6), .inl (E 0, 120, .inl yf6))]) [0, 1, 2, 3, 4] (by decide) rfl
          exact W.iret (v := (-1)) hx hb hr (fun t ht hW => ⟨⟨(-1), (yf5, yf6, ysights), rfl, (by (try dsimp only); omega), by rw [ht]; exact hP9, hD9⟩, hS.F ht⟩) hS.2.2 dX8_sight_45
      ·
        try simp only [t_2000000] at hw_10
        refine W_top (y := .int 0) (by rw [hr_9]) ?_
        refine lv_if_eq (tgt := 44) hx hb dX8_sight_21 (by decide) (fun c_35 => ?_) (fun c_35 => absurd (by decide) c_35)
        refine lv_iconst (v := (-1)) hx hb dX8_sight_44 (by decide) ?_
        have hP9 := hP.sub (ws' := [(xh, .inr (8, G8 xa xtrialRule xdropRule xtoday)), ((xa 4), .inl (E 4, 5, .inr (.inr (.inr (.inr xf4))))), (yh, .inr (5, G5 ya ysights ystage ysailed yvoyage)), ((ya 5), .inl (E 0, 40, .inl yf5)), ((ya 6), .inl (E 0, 120, .inl yf6))]) [0, 1, 2, 3, 4] rfl
        have hD9 := hD.sub (ws' := [(xh, .inr (8, G8 xa xtrialRule xdropRule xtoday)), ((xa 4), .inl (E 4, 5, .inr (.inr (.inr (.inr xf4))))), (yh, .inr (5, G5 ya ysights ystage ysailed yvoyage)), ((ya 5), .inl (E 0, 40, .inl yf5)), ((ya 6), .inl (E 0, 120, .inl yf6))]) [0, 1, 2, 3, 4] (by decide) rfl
        exact W.iret (v := (-1)) hx hb hr (fun t ht hW => ⟨⟨(-1), (yf5, yf6, ysights), rfl, (by (try dsimp only); omega), by rw [ht]; exact hP9, hD9⟩, hS.F ht⟩) hS.2.2 dX8_sight_45
    ·
      refine W_top (y := .int 0) (by rw [hr_5]) ?_
      refine lv_if_eq (tgt := 44) hx hb dX8_sight_12 (by decide) (fun c_36 => ?_) (fun c_36 => absurd (by decide) c_36)
      refine lv_iconst (v := (-1)) hx hb dX8_sight_44 (by decide) ?_
      have hP9 := hP.sub (ws' := [(xh, .inr (8, G8 xa xtrialRule xdropRule xtoday)), ((xa 4), .inl (E 4, 5, .inr (.inr (.inr (.inr xf4))))), (yh, .inr (5, G5 ya ysights ystage ysailed yvoyage)), ((ya 5), .inl (E 0, 40, .inl yf5)), ((ya 6), .inl (E 0, 120, .inl yf6))]) [0, 1, 2, 3, 4] rfl
      have hD9 := hD.sub (ws' := [(xh, .inr (8, G8 xa xtrialRule xdropRule xtoday)), ((xa 4), .inl (E 4, 5, .inr (.inr (.inr (.inr xf4))))), (yh, .inr (5, G5 ya ysights ystage ysailed yvoyage)), ((ya 5), .inl (E 0, 40, .inl yf5)), ((ya 6), .inl (E 0, 120, .inl yf6))]) [0, 1, 2, 3, 4] (by decide) rfl
      exact W.iret (v := (-1)) hx hb hr (fun t ht hW => ⟨⟨(-1), (yf5, yf6, ysights), rfl, (by (try dsimp only); omega), by rw [ht]; exact hP9, hD9⟩, hS.F ht⟩) hS.2.2 dX8_sight_45
  ·
    refine W_top (y := .int 0) (by rw [hr_1]) ?_
    refine lv_if_eq (tgt := 44) hx hb dX8_sight_4 (by decide) (fun c_37 => ?_) (fun c_37 => absurd (by decide) c_37)
    refine lv_iconst (v := (-1)) hx hb dX8_sight_44 (by decide) ?_
    have hP9 := hP.sub (ws' := [(xh, .inr (8, G8 xa xtrialRule xdropRule xtoday)), ((xa 4), .inl (E 4, 5, .inr (.inr (.inr (.inr xf4))))), (yh, .inr (5, G5 ya ysights ystage ysailed yvoyage)), ((ya 5), .inl (E 0, 40, .inl yf5)), ((ya 6), .inl (E 0, 120, .inl yf6))]) [0, 1, 2, 3, 4] rfl
    have hD9 := hD.sub (ws' := [(xh, .inr (8, G8 xa xtrialRule xdropRule xtoday)), ((xa 4), .inl (E 4, 5, .inr (.inr (.inr (.inr xf4))))), (yh, .inr (5, G5 ya ysights ystage ysailed yvoyage)), ((ya 5), .inl (E 0, 40, .inl yf5)), ((ya 6), .inl (E 0, 120, .inl yf6))]) [0, 1, 2, 3, 4] (by decide) rfl
    exact W.iret (v := (-1)) hx hb hr (fun t ht hW => ⟨⟨(-1), (yf5, yf6, ysights), rfl, (by (try dsimp only); omega), by rw [ht]; exact hP9, hD9⟩, hS.F ht⟩) hS.2.2 dX8_sight_45
set_option maxHeartbeats 4000000 in
set_option maxRecDepth 100000 in
theorem g_X8_droppedOf (l : Launch) (D : va_G) (E : Nat → Nat) (xh : Nat) (xa : Nat → Nat) (xtrialRule : Nat) (xdropRule : Nat) (xtoday : Int32) (xf5 : Nat → Int32) (yh : Nat) (ya : Nat → Nat) (ysights : Int32) (ystage : Int32) (ysailed : Int32) (yvoyage : Int32) (yf1 : Nat → Int32) (yf2 : Nat → Int32) (yf3 : Nat → Int32) (yf4 : Nat → Int32) (yf5 : Nat → Int32) (yf6 : Nat → Int32) (u2a : Nat → Nat) (u2size : Int32) (u2f0 : Nat → Int32) (u2f1 : Nat → Int32) (u2f2 : Nat → Int32) (p1 : Int32) (sz : Nat) (hi_x : (0 ≤ xtoday.toInt ∧ xtoday.toInt ≤ 399)) (hi_y : (0 ≤ ysights.toInt ∧ ysights.toInt ≤ 40)) (hi_u2 : (0 ≤ u2size.toInt ∧ u2size.toInt ≤ 120)) : Met l yX8_droppedOf (wl yX8_droppedOf cX8_droppedOf 7 (some .int)) (RM 4 0 0) (mu_P D E [.ref xh, .ref yh, .int p1] [(xh, .inr (8, G8 xa xtrialRule xdropRule xtoday)), ((xa 5), .inl (E 0, 9, .inl xf5)), (yh, .inr (5, G5 ya ysights ystage ysailed yvoyage)), ((ya 1), .inl (E 0, 3, .inl yf1)), ((ya 2), .inl (E 0, 3, .inl yf2)), ((ya 3), .inl (E 0, 3, .inl yf3)), ((ya 4), .inl (E 0, 3, .inl yf4)), ((ya 5), .inl (E 0, 40, .inl yf5)), ((ya 6), .inl (E 0, 120, .inl yf6)), (xdropRule, .inr (4, G4 u2a u2size)), ((u2a 0), .inl (E 0, 120, .inl u2f0)), ((u2a 1), .inl (E 0, 120, .inl u2f1)), ((u2a 2), .inl (E 0, 120, .inl u2f2))] sz) (va_Qi (fun (r : Int32) (u : (Nat → Int32) × (Nat → Int32)) => True) (mu_B D (va_A [(xh, .inr (8, G8 xa xtrialRule xdropRule xtoday)), ((xa 5), .inl (E 0, 9, .inl xf5)), (yh, .inr (5, G5 ya ysights ystage ysailed yvoyage)), ((ya 1), .inl (E 0, 3, .inl yf1)), ((ya 2), .inl (E 0, 3, .inl yf2)), ((ya 3), .inl (E 0, 3, .inl yf3)), ((ya 4), .inl (E 0, 3, .inl yf4)), ((ya 5), .inl (E 0, 40, .inl yf5)), ((ya 6), .inl (E 0, 120, .inl yf6)), (xdropRule, .inr (4, G4 u2a u2size)), ((u2a 0), .inl (E 0, 120, .inl u2f0)), ((u2a 1), .inl (E 0, 120, .inl u2f1)), ((u2a 2), .inl (E 0, 120, .inl u2f2))] sz) (fun (u : (Nat → Int32) × (Nat → Int32)) => [(xh, .inr (8, G8 xa xtrialRule xdropRule xtoday)), ((xa 5), .inl (E 0, 9, .inl u.2)), (yh, .inr (5, G5 ya ysights ystage ysailed yvoyage)), ((ya 1), .inl (E 0, 3, .inl yf1)), ((ya 2), .inl (E 0, 3, .inl yf2)), ((ya 3), .inl (E 0, 3, .inl yf3)), ((ya 4), .inl (E 0, 3, .inl yf4)), ((ya 5), .inl (E 0, 40, .inl yf5)), ((ya 6), .inl (E 0, 120, .inl yf6)), (xdropRule, .inr (4, G4 u2a u2size)), ((u2a 0), .inl (E 0, 120, .inl u2f0)), ((u2a 1), .inl (E 0, 120, .inl u2f1)), ((u2a 2), .inl (E 0, 120, .inl u.1))])) (va_A [(xh, .inr (8, G8 xa xtrialRule xdropRule xtoday)), ((xa 5), .inl (E 0, 9, .inl xf5)), (yh, .inr (5, G5 ya ysights ystage ysailed yvoyage)), ((ya 1), .inl (E 0, 3, .inl yf1)), ((ya 2), .inl (E 0, 3, .inl yf2)), ((ya 3), .inl (E 0, 3, .inl yf3)), ((ya 4), .inl (E 0, 3, .inl yf4)), ((ya 5), .inl (E 0, 40, .inl yf5)), ((ya 6), .inl (E 0, 120, .inl yf6)), (xdropRule, .inr (4, G4 u2a u2size)), ((u2a 0), .inl (E 0, 120, .inl u2f0)), ((u2a 1), .inl (E 0, 120, .inl u2f1)), ((u2a 2), .inl (E 0, 120, .inl u2f2))] sz)) 0 0 (va_A [(xh, .inr (8, G8 xa xtrialRule xdropRule xtoday)), ((xa 5), .inl (E 0, 9, .inl xf5)), (yh, .inr (5, G5 ya ysights ystage ysailed yvoyage)), ((ya 1), .inl (E 0, 3, .inl yf1)), ((ya 2), .inl (E 0, 3, .inl yf2)), ((ya 3), .inl (E 0, 3, .inl yf3)), ((ya 4), .inl (E 0, 3, .inl yf4)), ((ya 5), .inl (E 0, 40, .inl yf5)), ((ya 6), .inl (E 0, 120, .inl yf6)), (xdropRule, .inr (4, G4 u2a u2size)), ((u2a 0), .inl (E 0, 120, .inl u2f0)), ((u2a 1), .inl (E 0, 120, .inl u2f1)), ((u2a 2), .inl (E 0, 120, .inl u2f2))] sz) := by
  refine Met.ofW (cc := cX8_droppedOf) (maxL := 7) (ret := (some .int)) (by decide) rfl ?_
  intro p e s m args below meth c s₁ B hml hv
  obtain ⟨rfl, hsz, hP, hK, hD0⟩ := hv
  have hx := B.exec; have hb := B.bytes; have hr := B.returns
  have hts := atoms_spec (ws := wl yX8_droppedOf cX8_droppedOf 7 (some .int)) B.pre
  have htb : ∀ w ∈ tb, w.before _ s = true := fun w h => hts w (List.mem_cons_of_mem _ h)
  have hown : s.vm.findClass RX8 = some m.cls := findClass_of_methodNamed B.named
  have hlocks := B.notSynchronized
  subst hsz
  have hD := hD0.self (sz := s.heap.size)
  generalize hAe : va_A [(xh, .inr (8, G8 xa xtrialRule xdropRule xtoday)), ((xa 5), .inl (E 0, 9, .inl xf5)), (yh, .inr (5, G5 ya ysights ystage ysailed yvoyage)), ((ya 1), .inl (E 0, 3, .inl yf1)), ((ya 2), .inl (E 0, 3, .inl yf2)), ((ya 3), .inl (E 0, 3, .inl yf3)), ((ya 4), .inl (E 0, 3, .inl yf4)), ((ya 5), .inl (E 0, 40, .inl yf5)), ((ya 6), .inl (E 0, 120, .inl yf6)), (xdropRule, .inr (4, G4 u2a u2size)), ((u2a 0), .inl (E 0, 120, .inl u2f0)), ((u2a 1), .inl (E 0, 120, .inl u2f1)), ((u2a 2), .inl (E 0, 120, .inl u2f2))] s.heap.size = A at hD ⊢
  have hA : ∀ q : Nat, s.heap.size ≤ q → A q := fun q h => by rw [← hAe]; exact Or.inr h
  have hS : va_S A s.heap s.heap [] := va_S.rf
  have hP : va_P D vwCl [(xh, .inr (8, G8 xa xtrialRule xdropRule xtoday)), ((xa 5), .inl (E 0, 9, .inl xf5)), (yh, .inr (5, G5 ya ysights ystage ysailed yvoyage)), ((ya 1), .inl (E 0, 3, .inl yf1)), ((ya 2), .inl (E 0, 3, .inl yf2)), ((ya 3), .inl (E 0, 3, .inl yf3)), ((ya 4), .inl (E 0, 3, .inl yf4)), ((ya 5), .inl (E 0, 40, .inl yf5)), ((ya 6), .inl (E 0, 120, .inl yf6)), (xdropRule, .inr (4, G4 u2a u2size)), ((u2a 0), .inl (E 0, 120, .inl u2f0)), ((u2a 1), .inl (E 0, 120, .inl u2f1)), ((u2a 2), .inl (E 0, 120, .inl u2f2))] s.heap := hP
  have hl := lv_entry ([.ref xh, .ref yh, .int p1]) (n := 7) (Nat.le_of_ble_eq_true rfl)
  rw [lg_entry_eq]
  generalize (lg_sl ([.ref xh, .ref yh, .int p1]) ++ List.replicate (7 - (lg_sl ([.ref xh, .ref yh, .int p1])).length) Slot.unset).toArray = ls at hl ⊢
  have hl : lv_has ls 7 [(0, .ref xh), (1, .ref yh), (2, .int p1)] := hl
  have lo_p1 := i_lo p1; have hi_p1 := i_hi p1
  refine lv_iconst (v := (-1)) hx hb dX8_droppedOf_0 (by decide) ?_
  refine lv_istore_n (lv' := [(3, .int (-1)), (0, .ref xh), (1, .ref yh), (2, .int p1)]) hx hb dX8_droppedOf_1 rfl hl (by decide) rfl (fun ls hl => ?_)
  refine lv_aload_n hx hb dX8_droppedOf_2 rfl (lv_at hl 1 rfl) ?_
  refine va_get (D := D) (ci := 8) (v := .ref xdropRule) (C := RX8) (T := TX8) (N := 14) hx hb htb iX8 hown hK.1 hP 0 rfl rfl 12 (by decide) (htb _ k_284) (fun _ h9 => h9) rfl dX8_droppedOf_3 ?_
  refine va_getN (D := D) (ci := 4) (v := .int u2size) (C := RX4) (T := TX4) (N := 4) hx hb htb iX4 hown hK.1 hP 9 rfl rfl 3 (by decide) (va_Nw.use rfl (hK.2.1 (Cond.fieldLinkNest RX8 327 "SeaWatches$Rule" "size" "I" "SeaWatches") (by decide +kernel))) (fun _ h9 => h9) rfl dX8_droppedOf_6 ?_
  refine lv_if_ne (tgt := 14) hx hb dX8_droppedOf_9 (by decide) (fun c_1 => ?_) (fun c_1 => ?_)
  ·
    have ic_1 : u2size.toInt ≠ 0 := mt (g_eq rfl t_0).mpr c_1
    clear c_1
    refine lv_iconst (v := 0) hx hb dX8_droppedOf_14 (by decide) ?_
    refine lv_istore (lv' := [(4, .int 0), (3, .int (-1)), (0, .ref xh), (1, .ref yh), (2, .int p1)]) hx hb dX8_droppedOf_15 hl (by decide) rfl (fun ls hl => ?_)
    refine lv_iconst (v := 0) hx hb dX8_droppedOf_17 (by decide) ?_
    refine lv_istore (lv' := [(5, .int 0), (4, .int 0), (3, .int (-1)), (0, .ref xh), (1, .ref yh), (2, .int p1)]) hx hb dX8_droppedOf_18 hl (by decide) rfl (fun ls hl => ?_)
    have loop_2 : ∀ (N_4 : Nat) (L5_20 : Int32) (xf5_20 : Nat → Int32) (u2f2_20 : Nat → Int32) (L4_20 : Int32) (L3_20 : Int32) (H : Heap) (locs : List Loc) (ls : Array Slot), 3 - L5_20.toInt < (N_4 : Int) → (0 ≤ L5_20.toInt ∧ L5_20.toInt ≤ 3) → va_P D vwCl [(xh, .inr (8, G8 xa xtrialRule xdropRule xtoday)), ((xa 5), .inl (E 0, 9, .inl xf5_20)), (yh, .inr (5, G5 ya ysights ystage ysailed yvoyage)), ((ya 1), .inl (E 0, 3, .inl yf1)), ((ya 2), .inl (E 0, 3, .inl yf2)), ((ya 3), .inl (E 0, 3, .inl yf3)), ((ya 4), .inl (E 0, 3, .inl yf4)), ((ya 5), .inl (E 0, 40, .inl yf5)), ((ya 6), .inl (E 0, 120, .inl yf6)), (xdropRule, .inr (4, G4 u2a u2size)), ((u2a 0), .inl (E 0, 120, .inl u2f0)), ((u2a 1), .inl (E 0, 120, .inl u2f1)), ((u2a 2), .inl (E 0, 120, .inl u2f2_20))] H → va_D A [(xh, .inr (8, G8 xa xtrialRule xdropRule xtoday)), ((xa 5), .inl (E 0, 9, .inl xf5_20)), (yh, .inr (5, G5 ya ysights ystage ysailed yvoyage)), ((ya 1), .inl (E 0, 3, .inl yf1)), ((ya 2), .inl (E 0, 3, .inl yf2)), ((ya 3), .inl (E 0, 3, .inl yf3)), ((ya 4), .inl (E 0, 3, .inl yf4)), ((ya 5), .inl (E 0, 40, .inl yf5)), ((ya 6), .inl (E 0, 120, .inl yf6)), (xdropRule, .inr (4, G4 u2a u2size)), ((u2a 0), .inl (E 0, 120, .inl u2f0)), ((u2a 1), .inl (E 0, 120, .inl u2f1)), ((u2a 2), .inl (E 0, 120, .inl u2f2_20))] → va_S A s.heap H locs → lv_has ls 7 [(5, .int L5_20), (4, .int L4_20), (3, .int L3_20), (0, .ref xh), (1, .ref yh), (2, .int p1)] → W p l e (headSpec (wl yX8_droppedOf cX8_droppedOf 7 (some .int)) (RM 4 0 0)).room s m [Value.ref xh, .ref yh, .int p1].toArray below meth c H locs 0 0 (MQ below (va_Qi (fun (r : Int32) (u : (Nat → Int32) × (Nat → Int32)) => True) (mu_B D A (fun (u : (Nat → Int32) × (Nat → Int32)) => [(xh, .inr (8, G8 xa xtrialRule xdropRule xtoday)), ((xa 5), .inl (E 0, 9, .inl u.2)), (yh, .inr (5, G5 ya ysights ystage ysailed yvoyage)), ((ya 1), .inl (E 0, 3, .inl yf1)), ((ya 2), .inl (E 0, 3, .inl yf2)), ((ya 3), .inl (E 0, 3, .inl yf3)), ((ya 4), .inl (E 0, 3, .inl yf4)), ((ya 5), .inl (E 0, 40, .inl yf5)), ((ya 6), .inl (E 0, 120, .inl yf6)), (xdropRule, .inr (4, G4 u2a u2size)), ((u2a 0), .inl (E 0, 120, .inl u2f0)), ((u2a 1), .inl (E 0, 120, .inl u2f1)), ((u2a 2), .inl (E 0, 120, .inl u.1))])) A) [Value.ref xh, .ref yh, .int p1].toArray s 0 0 A) (F0 m 20 ls []) := by
      intro N_4
      induction N_4 with
      | zero => intro L5_20 xf5_20 u2f2_20 L4_20 L3_20 H locs ls hm v0_20 _ _ _ _; exfalso; omega
      | succ N_4 ih_3 =>
        intro L5_20 xf5_20 u2f2_20 L4_20 L3_20 H locs ls hm v0_20 hP hD hS hl
        have lo_L5_20 := i_lo L5_20; have hi_L5_20 := i_hi L5_20
        have lo_L4_20 := i_lo L4_20; have hi_L4_20 := i_hi L4_20
        have lo_L3_20 := i_lo L3_20; have hi_L3_20 := i_hi L3_20
        refine lv_iload hx hb dX8_droppedOf_20 (lv_at hl 0 rfl) ?_
        refine lv_iconst (v := 3) hx hb dX8_droppedOf_22 (by decide) ?_
        refine lv_icmp_ge (tgt := 104) hx hb dX8_droppedOf_23 (by decide) (fun c_5 => ?_) (fun c_5 => ?_)
        ·
          have ic_5 : 3 ≤ L5_20.toInt := by first | exact (g_le t_3 rfl).mp c_5 | (have h := mt (g_lt rfl t_3).mpr c_5; omega)
          clear c_5
          refine lv_iload_n hx hb dX8_droppedOf_104 rfl (lv_at hl 2 rfl) ?_
          have hP9 := hP.sub (ws' := [(xh, .inr (8, G8 xa xtrialRule xdropRule xtoday)), ((xa 5), .inl (E 0, 9, .inl xf5_20)), (yh, .inr (5, G5 ya ysights ystage ysailed yvoyage)), ((ya 1), .inl (E 0, 3, .inl yf1)), ((ya 2), .inl (E 0, 3, .inl yf2)), ((ya 3), .inl (E 0, 3, .inl yf3)), ((ya 4), .inl (E 0, 3, .inl yf4)), ((ya 5), .inl (E 0, 40, .inl yf5)), ((ya 6), .inl (E 0, 120, .inl yf6)), (xdropRule, .inr (4, G4 u2a u2size)), ((u2a 0), .inl (E 0, 120, .inl u2f0)), ((u2a 1), .inl (E 0, 120, .inl u2f1)), ((u2a 2), .inl (E 0, 120, .inl u2f2_20))]) [0, 1, 2, 3, 4, 5, 6, 7, 8, 9, 10, 11, 12] rfl
          have hD9 := hD.sub (ws' := [(xh, .inr (8, G8 xa xtrialRule xdropRule xtoday)), ((xa 5), .inl (E 0, 9, .inl xf5_20)), (yh, .inr (5, G5 ya ysights ystage ysailed yvoyage)), ((ya 1), .inl (E 0, 3, .inl yf1)), ((ya 2), .inl (E 0, 3, .inl yf2)), ((ya 3), .inl (E 0, 3, .inl yf3)), ((ya 4), .inl (E 0, 3, .inl yf4)), ((ya 5), .inl (E 0, 40, .inl yf5)), ((ya 6), .inl (E 0, 120, .inl yf6)), (xdropRule, .inr (4, G4 u2a u2size)), ((u2a 0), .inl (E 0, 120, .inl u2f0)), ((u2a 1), .inl (E 0, 120, .inl u2f1)), ((u2a 2), .inl (E 0, 120, .inl u2f2_20))]) [0, 1, 2, 3, 4, 5, 6, 7, 8, 9, 10, 11, 12] (by decide) rfl
          exact W.iret (v := L3_20) hx hb hr (fun t ht hW => ⟨⟨L3_20, (u2f2_20, xf5_20), rfl, trivial, by rw [ht]; exact hP9, hD9⟩, hS.F ht⟩) hS.2.2 dX8_droppedOf_105
        ·
          have ic_5 : L5_20.toInt < 3 := by first | exact (g_lt rfl t_3).mp c_5 | (have h := mt (g_le t_3 rfl).mpr c_5; omega)
          clear c_5
          refine lv_aload_n hx hb dX8_droppedOf_26 rfl (lv_at hl 3 rfl) ?_
          refine va_get (D := D) (ci := 8) (v := .ref (xa 5)) (C := RX8) (T := TX8) (N := 14) hx hb htb iX8 hown hK.1 hP 0 rfl rfl 5 (by decide) (htb _ k_277) (fun _ h9 => h9) rfl dX8_droppedOf_27 ?_
          refine lv_iconst (v := 0) hx hb dX8_droppedOf_30 (by decide) ?_
          refine lv_aload_n hx hb dX8_droppedOf_31 rfl (lv_at hl 4 rfl) ?_
          refine lv_iload_n hx hb dX8_droppedOf_32 rfl (lv_at hl 5 rfl) ?_
          refine lv_iload hx hb dX8_droppedOf_33 (lv_at hl 0 rfl) ?_
          refine callRV (rest := [.int 0, .ref (xa 5)]) (As := [.int p1, .int L5_20]) hx hb hml hown htb hK (g_X5_offFromOthers l D E yh ya ysights ystage ysailed yvoyage yf1 yf2 yf4 yf5 yf6 p1 L5_20 (by (try dsimp only); omega) (by (try dsimp only); omega)) ok_X5_offFromOthers k_851 k_852 k_853 k_8 k_854 ⟨(Nat.le_of_ble_eq_true rfl), (Nat.le_of_ble_eq_true rfl)⟩ ⟨(Nat.le_of_ble_eq_true rfl), (Nat.le_of_ble_eq_true rfl)⟩ hl.1 (Nat.le_of_ble_eq_true rfl) rfl rfl dX8_droppedOf_35 (hP.sub (ws' := [(yh, .inr (5, G5 ya ysights ystage ysailed yvoyage)), ((ya 1), .inl (E 0, 3, .inl yf1)), ((ya 2), .inl (E 0, 3, .inl yf2)), ((ya 4), .inl (E 0, 3, .inl yf4)), ((ya 5), .inl (E 0, 40, .inl yf5)), ((ya 6), .inl (E 0, 120, .inl yf6))]) [2, 3, 4, 6, 7, 8] rfl) rfl rfl 0 rfl (fun r_6 hw_7 => ?_)
          refine va_iast hx hb hK.1 hP hD hS 1 0 rfl rfl (g_in t_0 (by decide) (by decide)) dX8_droppedOf_38 (fun H locs hP hD hS => ?_)
          have hP : va_P D vwCl [(xh, .inr (8, G8 xa xtrialRule xdropRule xtoday)), ((xa 5), .inl (E 0, 9, .inl (upd xf5_20 (0 : Int32).toNatClampNeg r_6))), (yh, .inr (5, G5 ya ysights ystage ysailed yvoyage)), ((ya 1), .inl (E 0, 3, .inl yf1)), ((ya 2), .inl (E 0, 3, .inl yf2)), ((ya 3), .inl (E 0, 3, .inl yf3)), ((ya 4), .inl (E 0, 3, .inl yf4)), ((ya 5), .inl (E 0, 40, .inl yf5)), ((ya 6), .inl (E 0, 120, .inl yf6)), (xdropRule, .inr (4, G4 u2a u2size)), ((u2a 0), .inl (E 0, 120, .inl u2f0)), ((u2a 1), .inl (E 0, 120, .inl u2f1)), ((u2a 2), .inl (E 0, 120, .inl u2f2_20))] H := hP
          have hD := toW hP hD rfl
          refine lv_aload_n hx hb dX8_droppedOf_39 rfl (lv_at hl 3 rfl) ?_
          refine va_get (D := D) (ci := 8) (v := .ref (xa 5)) (C := RX8) (T := TX8) (N := 14) hx hb htb iX8 hown hK.1 hP 0 rfl rfl 5 (by decide) (htb _ k_277) (fun _ h9 => h9) rfl dX8_droppedOf_40 ?_
          refine lv_iconst (v := 1) hx hb dX8_droppedOf_43 (by decide) ?_
          refine lv_aload_n hx hb dX8_droppedOf_44 rfl (lv_at hl 4 rfl) ?_
          refine va_getN (D := D) (ci := 5) (v := .ref (ya 3)) (C := RX5) (T := TX5) (N := 11) hx hb htb iX5 hown hK.1 hP 2 rfl rfl 3 (by decide) (va_Nw.use rfl (hK.2.1 (Cond.fieldLinkNest RX8 229 "SeaWatches$Ship" "doubts" "[I" "SeaWatches") (by decide +kernel))) (fun _ h9 => h9) rfl dX8_droppedOf_45 ?_
          refine lv_iload hx hb dX8_droppedOf_48 (lv_at hl 0 rfl) ?_
          refine va_iald hx hb hK.1 hP 5 0 rfl rfl (g_in rfl (by omega) (by omega)) dX8_droppedOf_50 ?_
          refine lv_topi (fun z_9 ez_9 => ?_)
          have kz_9 := congrArg Int32.toInt ez_9
          refine va_iast hx hb hK.1 hP hD hS 1 0 rfl rfl (g_in t_1 (by decide) (by decide)) dX8_droppedOf_51 (fun H locs hP hD hS => ?_)
          have hP : va_P D vwCl [(xh, .inr (8, G8 xa xtrialRule xdropRule xtoday)), ((xa 5), .inl (E 0, 9, .inl (upd (upd xf5_20 (0 : Int32).toNatClampNeg r_6) (1 : Int32).toNatClampNeg z_9))), (yh, .inr (5, G5 ya ysights ystage ysailed yvoyage)), ((ya 1), .inl (E 0, 3, .inl yf1)), ((ya 2), .inl (E 0, 3, .inl yf2)), ((ya 3), .inl (E 0, 3, .inl yf3)), ((ya 4), .inl (E 0, 3, .inl yf4)), ((ya 5), .inl (E 0, 40, .inl yf5)), ((ya 6), .inl (E 0, 120, .inl yf6)), (xdropRule, .inr (4, G4 u2a u2size)), ((u2a 0), .inl (E 0, 120, .inl u2f0)), ((u2a 1), .inl (E 0, 120, .inl u2f1)), ((u2a 2), .inl (E 0, 120, .inl u2f2_20))] H := hP
          have hD := toW hP hD rfl
          generalize (upd (upd xf5_20 (0 : Int32).toNatClampNeg r_6) (1 : Int32).toNatClampNeg z_9) = g_10 at hP hD
          refine lv_aload_n hx hb dX8_droppedOf_52 rfl (lv_at hl 3 rfl) ?_
          refine va_get (D := D) (ci := 8) (v := .ref (xa 5)) (C := RX8) (T := TX8) (N := 14) hx hb htb iX8 hown hK.1 hP 0 rfl rfl 5 (by decide) (htb _ k_277) (fun _ h9 => h9) rfl dX8_droppedOf_53 ?_
          refine lv_iconst (v := 2) hx hb dX8_droppedOf_56 (by decide) ?_
          refine lv_aload_n hx hb dX8_droppedOf_57 rfl (lv_at hl 4 rfl) ?_
          refine lv_iload_n hx hb dX8_droppedOf_58 rfl (lv_at hl 5 rfl) ?_
          refine callRV (rest := [.int 2, .ref (xa 5)]) (As := [.int p1]) hx hb hml hown htb hK (g_X5_daysSince l D E yh ya ysights ystage ysailed yvoyage yf5 p1 (by (try dsimp only); omega)) ok_X5_daysSince k_857 k_838 k_839 k_8 k_840 ⟨(Nat.le_of_ble_eq_true rfl), (Nat.le_of_ble_eq_true rfl)⟩ ⟨(Nat.le_of_ble_eq_true rfl), (Nat.le_of_ble_eq_true rfl)⟩ hl.1 (Nat.le_of_ble_eq_true rfl) rfl rfl dX8_droppedOf_59 (hP.sub (ws' := [(yh, .inr (5, G5 ya ysights ystage ysailed yvoyage)), ((ya 5), .inl (E 0, 40, .inl yf5))]) [2, 7] rfl) rfl rfl 0 rfl (fun r_11 hw_12 => ?_)
          refine va_iast hx hb hK.1 hP hD hS 1 0 rfl rfl (g_in t_2 (by decide) (by decide)) dX8_droppedOf_62 (fun H locs hP hD hS => ?_)
          have hP : va_P D vwCl [(xh, .inr (8, G8 xa xtrialRule xdropRule xtoday)), ((xa 5), .inl (E 0, 9, .inl (upd g_10 (2 : Int32).toNatClampNeg r_11))), (yh, .inr (5, G5 ya ysights ystage ysailed yvoyage)), ((ya 1), .inl (E 0, 3, .inl yf1)), ((ya 2), .inl (E 0, 3, .inl yf2)), ((ya 3), .inl (E 0, 3, .inl yf3)), ((ya 4), .inl (E 0, 3, .inl yf4)), ((ya 5), .inl (E 0, 40, .inl yf5)), ((ya 6), .inl (E 0, 120, .inl yf6)), (xdropRule, .inr (4, G4 u2a u2size)), ((u2a 0), .inl (E 0, 120, .inl u2f0)), ((u2a 1), .inl (E 0, 120, .inl u2f1)), ((u2a 2), .inl (E 0, 120, .inl u2f2_20))] H := hP
          have hD := toW hP hD rfl
          refine lv_aload_n hx hb dX8_droppedOf_63 rfl (lv_at hl 3 rfl) ?_
          refine va_get (D := D) (ci := 8) (v := .ref (xa 5)) (C := RX8) (T := TX8) (N := 14) hx hb htb iX8 hown hK.1 hP 0 rfl rfl 5 (by decide) (htb _ k_277) (fun _ h9 => h9) rfl dX8_droppedOf_64 ?_
          refine lv_iconst (v := 3) hx hb dX8_droppedOf_67 (by decide) ?_
          refine lv_iload hx hb dX8_droppedOf_68 (lv_at hl 0 rfl) ?_
          refine va_iast hx hb hK.1 hP hD hS 1 0 rfl rfl (g_in t_3 (by decide) (by decide)) dX8_droppedOf_70 (fun H locs hP hD hS => ?_)
          have hP : va_P D vwCl [(xh, .inr (8, G8 xa xtrialRule xdropRule xtoday)), ((xa 5), .inl (E 0, 9, .inl (upd (upd g_10 (2 : Int32).toNatClampNeg r_11) (3 : Int32).toNatClampNeg L5_20))), (yh, .inr (5, G5 ya ysights ystage ysailed yvoyage)), ((ya 1), .inl (E 0, 3, .inl yf1)), ((ya 2), .inl (E 0, 3, .inl yf2)), ((ya 3), .inl (E 0, 3, .inl yf3)), ((ya 4), .inl (E 0, 3, .inl yf4)), ((ya 5), .inl (E 0, 40, .inl yf5)), ((ya 6), .inl (E 0, 120, .inl yf6)), (xdropRule, .inr (4, G4 u2a u2size)), ((u2a 0), .inl (E 0, 120, .inl u2f0)), ((u2a 1), .inl (E 0, 120, .inl u2f1)), ((u2a 2), .inl (E 0, 120, .inl u2f2_20))] H := hP
          have hD := toW hP hD rfl
          generalize (upd (upd g_10 (2 : Int32).toNatClampNeg r_11) (3 : Int32).toNatClampNeg L5_20) = g_14 at hP hD
          refine lv_aload_n hx hb dX8_droppedOf_71 rfl (lv_at hl 3 rfl) ?_
          refine va_get (D := D) (ci := 8) (v := .ref xdropRule) (C := RX8) (T := TX8) (N := 14) hx hb htb iX8 hown hK.1 hP 0 rfl rfl 12 (by decide) (htb _ k_284) (fun _ h9 => h9) rfl dX8_droppedOf_72 ?_
          refine lv_aload_n hx hb dX8_droppedOf_75 rfl (lv_at hl 3 rfl) ?_
          refine va_get (D := D) (ci := 8) (v := .ref (xa 5)) (C := RX8) (T := TX8) (N := 14) hx hb htb iX8 hown hK.1 hP 0 rfl rfl 5 (by decide) (htb _ k_277) (fun _ h9 => h9) rfl dX8_droppedOf_76 ?_
          have hPc := hP.sub (ws' := [(xdropRule, .inr (4, G4 u2a u2size)), ((u2a 0), .inl (E 0, 120, .inl u2f0)), ((u2a 1), .inl (E 0, 120, .inl u2f1)), ((u2a 2), .inl (E 0, 120, .inl u2f2_20)), ((xa 5), .inl (E 0, 9, .inl g_14))]) [9, 10, 11, 12, 1] rfl
          have hDc := hD.sub (ws' := [(xdropRule, .inr (4, G4 u2a u2size)), ((u2a 0), .inl (E 0, 120, .inl u2f0)), ((u2a 1), .inl (E 0, 120, .inl u2f1)), ((u2a 2), .inl (E 0, 120, .inl u2f2_20)), ((xa 5), .inl (E 0, 9, .inl g_14))]) [9, 10, 11, 12, 1] (by decide) rfl
          refine aft_i (runMV (rest := []) (As := [.ref (xa 5)]) hx hb hml hown htb hK (g_X4_workOut l D E xdropRule u2a u2size u2f0 u2f1 u2f2_20 (xa 5) g_14 _ (by (try dsimp only); omega)) ok_X4_workOut k_752 k_753 k_754 k_6 k_755 ⟨(Nat.le_of_ble_eq_true rfl), (Nat.le_of_ble_eq_true rfl)⟩ ⟨(Nat.le_of_ble_eq_true rfl), (Nat.le_of_ble_eq_true rfl)⟩ hl.1 (Nat.le_of_ble_eq_true rfl) rfl rfl dX8_droppedOf_79 hPc hDc rfl rfl 0 rfl) hP hD hS hA [9, 10, 11, 12, 1] [0, 2, 3, 4, 5, 6, 7, 8] (wr := [(xh, .inr (8, G8 xa xtrialRule xdropRule xtoday)), (yh, .inr (5, G5 ya ysights ystage ysailed yvoyage)), ((ya 1), .inl (E 0, 3, .inl yf1)), ((ya 2), .inl (E 0, 3, .inl yf2)), ((ya 3), .inl (E 0, 3, .inl yf3)), ((ya 4), .inl (E 0, 3, .inl yf4)), ((ya 5), .inl (E 0, 40, .inl yf5)), ((ya 6), .inl (E 0, 120, .inl yf6))]) rfl rfl (by decide) (by decide) (fun r_15 u_17 H locs hw_16 hP hD hS => ?_)
          clear hPc hDc
          have hP : va_P D vwCl [(xh, .inr (8, G8 xa xtrialRule xdropRule xtoday)), (yh, .inr (5, G5 ya ysights ystage ysailed yvoyage)), ((ya 1), .inl (E 0, 3, .inl yf1)), ((ya 2), .inl (E 0, 3, .inl yf2)), ((ya 3), .inl (E 0, 3, .inl yf3)), ((ya 4), .inl (E 0, 3, .inl yf4)), ((ya 5), .inl (E 0, 40, .inl yf5)), ((ya 6), .inl (E 0, 120, .inl yf6)), (xdropRule, .inr (4, G4 u2a u2size)), ((u2a 0), .inl (E 0, 120, .inl u2f0)), ((u2a 1), .inl (E 0, 120, .inl u2f1)), ((u2a 2), .inl (E 0, 120, .inl u_17)), ((xa 5), .inl (E 0, 9, .inl g_14))] H := hP
          have hD := toW hP hD rfl
          refine lv_istore (lv' := [(6, .int r_15), (5, .int L5_20), (4, .int L4_20), (3, .int L3_20), (0, .ref xh), (1, .ref yh), (2, .int p1)]) hx hb dX8_droppedOf_82 hl (by decide) rfl (fun ls hl => ?_)
          refine lv_iload hx hb dX8_droppedOf_84 (lv_at hl 0 rfl) ?_
          refine lv_iload hx hb dX8_droppedOf_86 (lv_at hl 2 rfl) ?_
          refine lv_icmp_le (tgt := 98) hx hb dX8_droppedOf_88 (by decide) (fun c_18 => ?_) (fun c_18 => ?_)
          ·
            have ic_18 : r_15.toInt ≤ L4_20.toInt := by first | exact (g_le rfl rfl).mp c_18 | (have h := mt (g_lt rfl rfl).mpr c_18; omega)
            clear c_18
            obtain ⟨z_19, ez_19⟩ : ∃ y : Int32, y = L5_20 + 1 := ⟨_, rfl⟩
            have jz_19 : z_19.toInt = L5_20.toInt + 1 := by rw [ez_19]; exact g_add rfl t_1 (by omega) (by omega)
            refine lv_iinc (v := z_19) (lv' := [(5, .int z_19), (6, .int r_15), (4, .int L4_20), (3, .int L3_20), (0, .ref xh), (1, .ref yh), (2, .int p1)]) hx hb dX8_droppedOf_98 hl (k := 1) rfl (by rw [ez_19]; rfl) (by decide) rfl (fun ls hl => ?_)
            refine lv_goto (tgt := 20) hx hb dX8_droppedOf_101 (by decide) ?_
            have hP := hP.sub (ws' := [(xh, .inr (8, G8 xa xtrialRule xdropRule xtoday)), ((xa 5), .inl (E 0, 9, .inl g_14)), (yh, .inr (5, G5 ya ysights ystage ysailed yvoyage)), ((ya 1), .inl (E 0, 3, .inl yf1)), ((ya 2), .inl (E 0, 3, .inl yf2)), ((ya 3), .inl (E 0, 3, .inl yf3)), ((ya 4), .inl (E 0, 3, .inl yf4)), ((ya 5), .inl (E 0, 40, .inl yf5)), ((ya 6), .inl (E 0, 120, .inl yf6)), (xdropRule, .inr (4, G4 u2a u2size)), ((u2a 0), .inl (E 0, 120, .inl u2f0)), ((u2a 1), .inl (E 0, 120, .inl u2f1)), ((u2a 2), .inl (E 0, 120, .inl u_17))]) [0, 12, 1, 2, 3, 4, 5, 6, 7, 8, 9, 10, 11] rfl
            have hD := hD.sub (ws' := [(xh, .inr (8, G8 xa xtrialRule xdropRule xtoday)), ((xa 5), .inl (E 0, 9, .inl g_14)), (yh, .inr (5, G5 ya ysights ystage ysailed yvoyage)), ((ya 1), .inl (E 0, 3, .inl yf1)), ((ya 2), .inl (E 0, 3, .inl yf2)), ((ya 3), .inl (E 0, 3, .inl yf3)), ((ya 4), .inl (E 0, 3, .inl yf4)), ((ya 5), .inl (E 0, 40, .inl yf5)), ((ya 6), .inl (E 0, 120, .inl yf6)), (xdropRule, .inr (4, G4 u2a u2size)), ((u2a 0), .inl (E 0, 120, .inl u2f0)), ((u2a 1), .inl (E 0, 120, .inl u2f1)), ((u2a 2), .inl (E 0, 120, .inl u_17))]) [0, 12, 1, 2, 3, 4, 5, 6, 7, 8, 9, 10, 11] (by decide) rfl
            exact ih_3 z_19 g_14 u_17 L4_20 L3_20 _ _ _ (by (try dsimp only); omega) (by (try dsimp only); omega) hP hD hS (lv_sub hl [0, 2, 3, 4, 5, 6] rfl)
          ·
            have ic_18 : L4_20.toInt < r_15.toInt := by first | exact (g_lt rfl rfl).mp c_18 | (have h := mt (g_le rfl rfl).mpr c_18; omega)
            clear c_18
            refine lv_iload hx hb dX8_droppedOf_91 (lv_at hl 0 rfl) ?_
            refine lv_istore (lv' := [(4, .int r_15), (6, .int r_15), (5, .int L5_20), (3, .int L3_20), (0, .ref xh), (1, .ref yh), (2, .int p1)]) hx hb dX8_droppedOf_93 hl (by decide) rfl (fun ls hl => ?_)
            refine lv_iload hx hb dX8_droppedOf_95 (lv_at hl 2 rfl) ?_
            refine lv_istore_n (lv' := [(3, .int L5_20), (4, .int r_15), (6, .int r_15), (5, .int L5_20), (0, .ref xh), (1, .ref yh), (2, .int p1)]) hx hb dX8_droppedOf_97 rfl hl (by decide) rfl (fun ls hl => ?_)
            obtain ⟨z_20, ez_20⟩ : ∃ y : Int32, y = L5_20 + 1 := ⟨_, rfl⟩
            have jz_20 : z_20.toInt = L5_20.toInt + 1 := by rw [ez_20]; exact g_add rfl t_1 (by omega) (by omega)
            refine lv_iinc (v := z_20) (lv' := [(5, .int z_20), (3, .int L5_20), (4, .int r_15), (6, .int r_15), (0, .ref xh), (1, .ref yh), (2, .int p1)]) hx hb dX8_droppedOf_98 hl (k := 3) rfl (by rw [ez_20]; rfl) (by decide) rfl (fun ls hl => ?_)
            refine lv_goto (tgt := 20) hx hb dX8_droppedOf_101 (by decide) ?_
            have hP := hP.sub (ws' := [(xh, .inr (8, G8 xa xtrialRule xdropRule xtoday)), ((xa 5), .inl (E 0, 9, .inl g_14)), (yh, .inr (5, G5 ya ysights ystage ysailed yvoyage)), ((ya 1), .inl (E 0, 3, .inl yf1)), ((ya 2), .inl (E 0, 3, .inl yf2)), ((ya 3), .inl (E 0, 3, .inl yf3)), ((ya 4), .inl (E 0, 3, .inl yf4)), ((ya 5), .inl (E 0, 40, .inl yf5)), ((ya 6), .inl (E 0, 120, .inl yf6)), (xdropRule, .inr (4, G4 u2a u2size)), ((u2a 0), .inl (E 0, 120, .inl u2f0)), ((u2a 1), .inl (E 0, 120, .inl u2f1)), ((u2a 2), .inl (E 0, 120, .inl u_17))]) [0, 12, 1, 2, 3, 4, 5, 6, 7, 8, 9, 10, 11] rfl
            have hD := hD.sub (ws' := [(xh, .inr (8, G8 xa xtrialRule xdropRule xtoday)), ((xa 5), .inl (E 0, 9, .inl g_14)), (yh, .inr (5, G5 ya ysights ystage ysailed yvoyage)), ((ya 1), .inl (E 0, 3, .inl yf1)), ((ya 2), .inl (E 0, 3, .inl yf2)), ((ya 3), .inl (E 0, 3, .inl yf3)), ((ya 4), .inl (E 0, 3, .inl yf4)), ((ya 5), .inl (E 0, 40, .inl yf5)), ((ya 6), .inl (E 0, 120, .inl yf6)), (xdropRule, .inr (4, G4 u2a u2size)), ((u2a 0), .inl (E 0, 120, .inl u2f0)), ((u2a 1), .inl (E 0, 120, .inl u2f1)), ((u2a 2), .inl (E 0, 120, .inl u_17))]) [0, 12, 1, 2, 3, 4, 5, 6, 7, 8, 9, 10, 11] (by decide) rfl
            exact ih_3 z_20 g_14 u_17 r_15 L5_20 _ _ _ (by (try dsimp only); omega) (by (try dsimp only); omega) hP hD hS (lv_sub hl [0, 2, 1, 4, 5, 6] rfl)
    exact loop_2 4 0 xf5 u2f2 0 ((-1)) _ _ _ (by have h0 := t_m1; have h1 := t_0; (try dsimp only); omega) (by have h0 := t_m1; have h1 := t_0; (try dsimp only); omega) hP hD hS (lv_sub hl [0, 1, 2, 3, 4, 5] rfl)
  ·
    have ic_1 : u2size.toInt = 0 := (g_eq rfl t_0).mp c_1
    clear c_1
    refine lv_iload_n hx hb dX8_droppedOf_12 rfl (lv_at hl 0 rfl) ?_
    have hP9 := hP.sub (ws' := [(xh, .inr (8, G8 xa xtrialRule xdropRule xtoday)), ((xa 5), .inl (E 0, 9, .inl xf5)), (yh, .inr (5, G5 ya ysights ystage ysailed yvoyage)), ((ya 1), .inl (E 0, 3, .inl yf1)), ((ya 2), .inl (E 0, 3, .inl yf2)), ((ya 3), .inl (E 0, 3, .inl yf3)), ((ya 4), .inl (E 0, 3, .inl yf4)), ((ya 5), .inl (E 0, 40, .inl yf5)), ((ya 6), .inl (E 0, 120, .inl yf6)), (xdropRule, .inr (4, G4 u2a u2size)), ((u2a 0), .inl (E 0, 120, .inl u2f0)), ((u2a 1), .inl (E 0, 120, .inl u2f1)), ((u2a 2), .inl (E 0, 120, .inl u2f2))]) [0, 1, 2, 3, 4, 5, 6, 7, 8, 9, 10, 11, 12] rfl
    have hD9 := hD.sub (ws' := [(xh, .inr (8, G8 xa xtrialRule xdropRule xtoday)), ((xa 5), .inl (E 0, 9, .inl xf5)), (yh, .inr (5, G5 ya ysights ystage ysailed yvoyage)), ((ya 1), .inl (E 0, 3, .inl yf1)), ((ya 2), .inl (E 0, 3, .inl yf2)), ((ya 3), .inl (E 0, 3, .inl yf3)), ((ya 4), .inl (E 0, 3, .inl yf4)), ((ya 5), .inl (E 0, 40, .inl yf5)), ((ya 6), .inl (E 0, 120, .inl yf6)), (xdropRule, .inr (4, G4 u2a u2size)), ((u2a 0), .inl (E 0, 120, .inl u2f0)), ((u2a 1), .inl (E 0, 120, .inl u2f1)), ((u2a 2), .inl (E 0, 120, .inl u2f2))]) [0, 1, 2, 3, 4, 5, 6, 7, 8, 9, 10, 11, 12] (by decide) rfl
    exact W.iret (v := (-1)) hx hb hr (fun t ht hW => ⟨⟨(-1), (u2f2, xf5), rfl, trivial, by rw [ht]; exact hP9, hD9⟩, hS.F ht⟩) hS.2.2 dX8_droppedOf_13
set_option maxHeartbeats 4000000 in
set_option maxRecDepth 100000 in
theorem g_X8_told_T (l : Launch) (D : va_G) (E : Nat → Nat) (xh : Nat) (xa : Nat → Nat) (xtrialRule : Nat) (xdropRule : Nat) (xtoday : Int32) (xf4 : Nat → Option Nat) (p0 : Int32) (p1 : Int32) (p2 : Int32) (hi_x : (0 ≤ xtoday.toInt ∧ xtoday.toInt ≤ 399)) (ht0 : ¬ (0 ≤ p0.toInt ∧ p0.toInt ≤ 4)) : Met l yX8_told (wl yX8_told cX8_told 8 (some .int)) (RM 1 0 0) (rd_P D E [.ref xh, .int p0, .int p1, .int p2] [(xh, .inr (8, G8 xa xtrialRule xdropRule xtoday)), ((xa 4), .inl (E 4, 5, .inr (.inr (.inr (.inr xf4)))))]) (rd_Q (fun r => True)) 0 0 (fun _ => False) := by
  refine Met.ofW (cc := cX8_told) (maxL := 8) (ret := (some .int)) (by decide) rfl ?_
  intro p e s m args below meth c s₁ B hml hv
  obtain ⟨rfl, hP, hK⟩ := hv
  have hx := B.exec; have hb := B.bytes; have hr := B.returns
  have hts := atoms_spec (ws := wl yX8_told cX8_told 8 (some .int)) B.pre
  have htb : ∀ w ∈ tb, w.before _ s = true := fun w h => hts w (List.mem_cons_of_mem _ h)
  have hown : s.vm.findClass RX8 = some m.cls := findClass_of_methodNamed B.named
  have hlocks := B.notSynchronized
  have hP : va_P D vwCl [(xh, .inr (8, G8 xa xtrialRule xdropRule xtoday)), ((xa 4), .inl (E 4, 5, .inr (.inr (.inr (.inr xf4)))))] s.heap := hP
  have hl := lv_entry ([.ref xh, .int p0, .int p1, .int p2]) (n := 8) (Nat.le_of_ble_eq_true rfl)
  rw [lg_entry_eq]
  generalize (lg_sl ([.ref xh, .int p0, .int p1, .int p2]) ++ List.replicate (8 - (lg_sl ([.ref xh, .int p0, .int p1, .int p2])).length) Slot.unset).toArray = ls at hl ⊢
  have hl : lv_has ls 8 [(0, .ref xh), (1, .int p0), (2, .int p1), (3, .int p2)] := hl
  have lo_p0 := i_lo p0; have hi_p0 := i_hi p0
  have lo_p1 := i_lo p1; have hi_p1 := i_hi p1
  have lo_p2 := i_lo p2; have hi_p2 := i_hi p2
  refine lv_iload_n hx hb dX8_told_0 rfl (lv_at hl 1 rfl) ?_
  refine callRS (rest := []) (As := [.int p0]) hx hb hml hown htb hK (g_X8_isShip l D E p0 ) ok_X8_isShip k_773 k_774 k_1 k_775 ⟨(Nat.le_of_ble_eq_true rfl), (Nat.le_of_ble_eq_true rfl)⟩ ⟨(Nat.le_of_ble_eq_true rfl), (Nat.le_of_ble_eq_true rfl)⟩ hl.1 (Nat.le_of_ble_eq_true rfl) rfl rfl dX8_told_1 (hP.sub (ws' := ([] : va_W)) [] rfl) (fun r_1 hw_2 => ?_)
  rcases hw_2 with ⟨hr_1, hw_2⟩ | ⟨hr_1, hw_2⟩
  ·
    refine W_top (y := .int 1) (by rw [hr_1]) ?_
    refine lv_if_eq (tgt := 34) hx hb dX8_told_4 (by decide) (fun c_4 => absurd c_4 (by decide)) (fun c_4 => ?_)
    refine lv_iload_n hx hb dX8_told_7 rfl (lv_at hl 2 rfl) ?_
    refine lv_if_lt (tgt := 34) hx hb dX8_told_8 (by decide) (fun c_5 => ?_) (fun c_5 => ?_)
    ·
      have ic_5 : p1.toInt < 0 := by first | exact (g_lt rfl t_0).mp c_5 | (have h := mt (g_le t_0 rfl).mpr c_5; omega)
      clear c_5
      refine lv_ldc hx hb hown (htb _ k_386) dX8_told_34 ?_
      exact W.iret (v := (-2000000000)) hx hb hr (fun t ht hW => ⟨(-2000000000), rfl, trivial, ht⟩) (fun q h => by cases h) dX8_told_36
    ·
      have ic_5 : 0 ≤ p1.toInt := by first | exact (g_le t_0 rfl).mp c_5 | (have h := mt (g_lt rfl t_0).mpr c_5; omega)
      clear c_5
      refine lv_iload_n hx hb dX8_told_11 rfl (lv_at hl 2 rfl) ?_
      refine lv_aload_n hx hb dX8_told_12 rfl (lv_at hl 0 rfl) ?_
      refine va_get (D := D) (ci := 8) (v := .ref (xa 4)) (C := RX8) (T := TX8) (N := 14) hx hb htb iX8 hown hK.1 hP 0 rfl rfl 4 (by decide) (htb _ k_276) (fun _ h9 => h9) rfl dX8_told_13 ?_
      refine lv_iload_n hx hb dX8_told_16 rfl (lv_at hl 1 rfl) ?_
      refine va_aldq hx hb hK.1 hP 1 4 rfl rfl (g_in rfl (by omega) (by omega)) dX8_told_17 ?_
      exfalso; omega
  ·
    refine W_top (y := .int 0) (by rw [hr_1]) ?_
    refine lv_if_eq (tgt := 34) hx hb dX8_told_4 (by decide) (fun c_6 => ?_) (fun c_6 => absurd (by decide) c_6)
    refine lv_ldc hx hb hown (htb _ k_386) dX8_told_34 ?_
    exact W.iret (v := (-2000000000)) hx hb hr (fun t ht hW => ⟨(-2000000000), rfl, trivial, ht⟩) (fun q h => by cases h) dX8_told_36
set_option maxHeartbeats 4000000 in
set_option maxRecDepth 100000 in
theorem g_X8_told_S (l : Launch) (D : va_G) (E : Nat → Nat) (xh : Nat) (xa : Nat → Nat) (xtrialRule : Nat) (xdropRule : Nat) (xtoday : Int32) (xf4 : Nat → Option Nat) (xf5 : Nat → Int32) (yh : Nat) (ya : Nat → Nat) (ysights : Int32) (ystage : Int32) (ysailed : Int32) (yvoyage : Int32) (yf1 : Nat → Int32) (yf2 : Nat → Int32) (yf3 : Nat → Int32) (yf4 : Nat → Int32) (yf5 : Nat → Int32) (yf6 : Nat → Int32) (u2a : Nat → Nat) (u2size : Int32) (u2f0 : Nat → Int32) (u2f1 : Nat → Int32) (u2f2 : Nat → Int32) (p0 : Int32) (p1 : Int32) (p2 : Int32) (sz : Nat) (hi_x : (0 ≤ xtoday.toInt ∧ xtoday.toInt ≤ 399)) (hi_y : (0 ≤ ysights.toInt ∧ ysights.toInt ≤ 40)) (hi_u2 : (0 ≤ u2size.toInt ∧ u2size.toInt ≤ 120)) (hs0 : 0 ≤ p0.toInt ∧ p0.toInt ≤ 4) (hy0 : xf4 (p0).toNatClampNeg = some yh) : Met l yX8_told (wl yX8_told cX8_told 8 (some .int)) (RM 5 0 0) (mu_P D E [.ref xh, .int p0, .int p1, .int p2] [(xh, .inr (8, G8 xa xtrialRule xdropRule xtoday)), ((xa 4), .inl (E 4, 5, .inr (.inr (.inr (.inr xf4))))), ((xa 5), .inl (E 0, 9, .inl xf5)), (yh, .inr (5, G5 ya ysights ystage ysailed yvoyage)), ((ya 1), .inl (E 0, 3, .inl yf1)), ((ya 2), .inl (E 0, 3, .inl yf2)), ((ya 3), .inl (E 0, 3, .inl yf3)), ((ya 4), .inl (E 0, 3, .inl yf4)), ((ya 5), .inl (E 0, 40, .inl yf5)), ((ya 6), .inl (E 0, 120, .inl yf6)), (xdropRule, .inr (4, G4 u2a u2size)), ((u2a 0), .inl (E 0, 120, .inl u2f0)), ((u2a 1), .inl (E 0, 120, .inl u2f1)), ((u2a 2), .inl (E 0, 120, .inl u2f2))] sz) (va_Qi (fun (r : Int32) (u : (Nat → Int32) × (Nat → Int32)) => True) (mu_B D (va_A [(xh, .inr (8, G8 xa xtrialRule xdropRule xtoday)), ((xa 4), .inl (E 4, 5, .inr (.inr (.inr (.inr xf4))))), ((xa 5), .inl (E 0, 9, .inl xf5)), (yh, .inr (5, G5 ya ysights ystage ysailed yvoyage)), ((ya 1), .inl (E 0, 3, .inl yf1)), ((ya 2), .inl (E 0, 3, .inl yf2)), ((ya 3), .inl (E 0, 3, .inl yf3)), ((ya 4), .inl (E 0, 3, .inl yf4)), ((ya 5), .inl (E 0, 40, .inl yf5)), ((ya 6), .inl (E 0, 120, .inl yf6)), (xdropRule, .inr (4, G4 u2a u2size)), ((u2a 0), .inl (E 0, 120, .inl u2f0)), ((u2a 1), .inl (E 0, 120, .inl u2f1)), ((u2a 2), .inl (E 0, 120, .inl u2f2))] sz) (fun (u : (Nat → Int32) × (Nat → Int32)) => [(xh, .inr (8, G8 xa xtrialRule xdropRule xtoday)), ((xa 4), .inl (E 4, 5, .inr (.inr (.inr (.inr xf4))))), ((xa 5), .inl (E 0, 9, .inl u.2)), (yh, .inr (5, G5 ya ysights ystage ysailed yvoyage)), ((ya 1), .inl (E 0, 3, .inl yf1)), ((ya 2), .inl (E 0, 3, .inl yf2)), ((ya 3), .inl (E 0, 3, .inl yf3)), ((ya 4), .inl (E 0, 3, .inl yf4)), ((ya 5), .inl (E 0, 40, .inl yf5)), ((ya 6), .inl (E 0, 120, .inl yf6)), (xdropRule, .inr (4, G4 u2a u2size)), ((u2a 0), .inl (E 0, 120, .inl u2f0)), ((u2a 1), .inl (E 0, 120, .inl u2f1)), ((u2a 2), .inl (E 0, 120, .inl u.1))])) (va_A [(xh, .inr (8, G8 xa xtrialRule xdropRule xtoday)), ((xa 4), .inl (E 4, 5, .inr (.inr (.inr (.inr xf4))))), ((xa 5), .inl (E 0, 9, .inl xf5)), (yh, .inr (5, G5 ya ysights ystage ysailed yvoyage)), ((ya 1), .inl (E 0, 3, .inl yf1)), ((ya 2), .inl (E 0, 3, .inl yf2)), ((ya 3), .inl (E 0, 3, .inl yf3)), ((ya 4), .inl (E 0, 3, .inl yf4)), ((ya 5), .inl (E 0, 40, .inl yf5)), ((ya 6), .inl (E 0, 120, .inl yf6)), (xdropRule, .inr (4, G4 u2a u2size)), ((u2a 0), .inl (E 0, 120, .inl u2f0)), ((u2a 1), .inl (E 0, 120, .inl u2f1)), ((u2a 2), .inl (E 0, 120, .inl u2f2))] sz)) 0 0 (va_A [(xh, .inr (8, G8 xa xtrialRule xdropRule xtoday)), ((xa 4), .inl (E 4, 5, .inr (.inr (.inr (.inr xf4))))), ((xa 5), .inl (E 0, 9, .inl xf5)), (yh, .inr (5, G5 ya ysights ystage ysailed yvoyage)), ((ya 1), .inl (E 0, 3, .inl yf1)), ((ya 2), .inl (E 0, 3, .inl yf2)), ((ya 3), .inl (E 0, 3, .inl yf3)), ((ya 4), .inl (E 0, 3, .inl yf4)), ((ya 5), .inl (E 0, 40, .inl yf5)), ((ya 6), .inl (E 0, 120, .inl yf6)), (xdropRule, .inr (4, G4 u2a u2size)), ((u2a 0), .inl (E 0, 120, .inl u2f0)), ((u2a 1), .inl (E 0, 120, .inl u2f1)), ((u2a 2), .inl (E 0, 120, .inl u2f2))] sz) := by
  refine Met.ofW (cc := cX8_told) (maxL := 8) (ret := (some .int)) (by decide) rfl ?_
  intro p e s m args below meth c s₁ B hml hv
  obtain ⟨rfl, hsz, hP, hK, hD0⟩ := hv
  have hx := B.exec; have hb := B.bytes; have hr := B.returns
  have hts := atoms_spec (ws := wl yX8_told cX8_told 8 (some .int)) B.pre
  have htb : ∀ w ∈ tb, w.before _ s = true := fun w h => hts w (List.mem_cons_of_mem _ h)
  have hown : s.vm.findClass RX8 = some m.cls := findClass_of_methodNamed B.named
  have hlocks := B.notSynchronized
  subst hsz
  have hD := hD0.self (sz := s.heap.size)
  generalize hAe : va_A [(xh, .inr (8, G8 xa xtrialRule xdropRule xtoday)), ((xa 4), .inl (E 4, 5, .inr (.inr (.inr (.inr xf4))))), ((xa 5), .inl (E 0, 9, .inl xf5)), (yh, .inr (5, G5 ya ysights ystage ysailed yvoyage)), ((ya 1), .inl (E 0, 3, .inl yf1)), ((ya 2), .inl (E 0, 3, .inl yf2)), ((ya 3), .inl (E 0, 3, .inl yf3)), ((ya 4), .inl (E 0, 3, .inl yf4)), ((ya 5), .inl (E 0, 40, .inl yf5)), ((ya 6), .inl (E 0, 120, .inl yf6)), (xdropRule, .inr (4, G4 u2a u2size)), ((u2a 0), .inl (E 0, 120, .inl u2f0)), ((u2a 1), .inl (E 0, 120, .inl u2f1)), ((u2a 2), .inl (E 0, 120, .inl u2f2))] s.heap.size = A at hD ⊢
  have hA : ∀ q : Nat, s.heap.size ≤ q → A q := fun q h => by rw [← hAe]; exact Or.inr h
  have hS : va_S A s.heap s.heap [] := va_S.rf
  have hP : va_P D vwCl [(xh, .inr (8, G8 xa xtrialRule xdropRule xtoday)), ((xa 4), .inl (E 4, 5, .inr (.inr (.inr (.inr xf4))))), ((xa 5), .inl (E 0, 9, .inl xf5)), (yh, .inr (5, G5 ya ysights ystage ysailed yvoyage)), ((ya 1), .inl (E 0, 3, .inl yf1)), ((ya 2), .inl (E 0, 3, .inl yf2)), ((ya 3), .inl (E 0, 3, .inl yf3)), ((ya 4), .inl (E 0, 3, .inl yf4)), ((ya 5), .inl (E 0, 40, .inl yf5)), ((ya 6), .inl (E 0, 120, .inl yf6)), (xdropRule, .inr (4, G4 u2a u2size)), ((u2a 0), .inl (E 0, 120, .inl u2f0)), ((u2a 1), .inl (E 0, 120, .inl u2f1)), ((u2a 2), .inl (E 0, 120, .inl u2f2))] s.heap := hP
  have hl := lv_entry ([.ref xh, .int p0, .int p1, .int p2]) (n := 8) (Nat.le_of_ble_eq_true rfl)
  rw [lg_entry_eq]
  generalize (lg_sl ([.ref xh, .int p0, .int p1, .int p2]) ++ List.replicate (8 - (lg_sl ([.ref xh, .int p0, .int p1, .int p2])).length) Slot.unset).toArray = ls at hl ⊢
  have hl : lv_has ls 8 [(0, .ref xh), (1, .int p0), (2, .int p1), (3, .int p2)] := hl
  have lo_p0 := i_lo p0; have hi_p0 := i_hi p0
  have lo_p1 := i_lo p1; have hi_p1 := i_hi p1
  have lo_p2 := i_lo p2; have hi_p2 := i_hi p2
  refine lv_iload_n hx hb dX8_told_0 rfl (lv_at hl 1 rfl) ?_
  refine callRS (rest := []) (As := [.int p0]) hx hb hml hown htb hK (g_X8_isShip l D E p0 ) ok_X8_isShip k_773 k_774 k_1 k_775 ⟨(Nat.le_of_ble_eq_true rfl), (Nat.le_of_ble_eq_true rfl)⟩ ⟨(Nat.le_of_ble_eq_true rfl), (Nat.le_of_ble_eq_true rfl)⟩ hl.1 (Nat.le_of_ble_eq_true rfl) rfl rfl dX8_told_1 (hP.sub (ws' := ([] : va_W)) [] rfl) (fun r_1 hw_2 => ?_)
  rcases hw_2 with ⟨hr_1, hw_2⟩ | ⟨hr_1, hw_2⟩
  ·
    refine W_top (y := .int 1) (by rw [hr_1]) ?_
    refine lv_if_eq (tgt := 34) hx hb dX8_told_4 (by decide) (fun c_4 => absurd c_4 (by decide)) (fun c_4 => ?_)
    refine lv_iload_n hx hb dX8_told_7 rfl (lv_at hl 2 rfl) ?_
    refine lv_if_lt (tgt := 34) hx hb dX8_told_8 (by decide) (fun c_5 => ?_) (fun c_5 => ?_)
    ·
      have ic_5 : p1.toInt < 0 := by first | exact (g_lt rfl t_0).mp c_5 | (have h := mt (g_le t_0 rfl).mpr c_5; omega)
      clear c_5
      refine lv_ldc hx hb hown (htb _ k_386) dX8_told_34 ?_
      have hP9 := hP.sub (ws' := [(xh, .inr (8, G8 xa xtrialRule xdropRule xtoday)), ((xa 4), .inl (E 4, 5, .inr (.inr (.inr (.inr xf4))))), ((xa 5), .inl (E 0, 9, .inl xf5)), (yh, .inr (5, G5 ya ysights ystage ysailed yvoyage)), ((ya 1), .inl (E 0, 3, .inl yf1)), ((ya 2), .inl (E 0, 3, .inl yf2)), ((ya 3), .inl (E 0, 3, .inl yf3)), ((ya 4), .inl (E 0, 3, .inl yf4)), ((ya 5), .inl (E 0, 40, .inl yf5)), ((ya 6), .inl (E 0, 120, .inl yf6)), (xdropRule, .inr (4, G4 u2a u2size)), ((u2a 0), .inl (E 0, 120, .inl u2f0)), ((u2a 1), .inl (E 0, 120, .inl u2f1)), ((u2a 2), .inl (E 0, 120, .inl u2f2))]) [0, 1, 2, 3, 4, 5, 6, 7, 8, 9, 10, 11, 12, 13] rfl
      have hD9 := hD.sub (ws' := [(xh, .inr (8, G8 xa xtrialRule xdropRule xtoday)), ((xa 4), .inl (E 4, 5, .inr (.inr (.inr (.inr xf4))))), ((xa 5), .inl (E 0, 9, .inl xf5)), (yh, .inr (5, G5 ya ysights ystage ysailed yvoyage)), ((ya 1), .inl (E 0, 3, .inl yf1)), ((ya 2), .inl (E 0, 3, .inl yf2)), ((ya 3), .inl (E 0, 3, .inl yf3)), ((ya 4), .inl (E 0, 3, .inl yf4)), ((ya 5), .inl (E 0, 40, .inl yf5)), ((ya 6), .inl (E 0, 120, .inl yf6)), (xdropRule, .inr (4, G4 u2a u2size)), ((u2a 0), .inl (E 0, 120, .inl u2f0)), ((u2a 1), .inl (E 0, 120, .inl u2f1)), ((u2a 2), .inl (E 0, 120, .inl u2f2))]) [0, 1, 2, 3, 4, 5, 6, 7, 8, 9, 10, 11, 12, 13] (by decide) rfl
      exact W.iret (v := (-2000000000)) hx hb hr (fun t ht hW => ⟨⟨(-2000000000), (u2f2, xf5), rfl, trivial, by rw [ht]; exact hP9, hD9⟩, hS.F ht⟩) hS.2.2 dX8_told_36
    ·
      have ic_5 : 0 ≤ p1.toInt := by first | exact (g_le t_0 rfl).mp c_5 | (have h := mt (g_lt rfl t_0).mpr c_5; omega)
      clear c_5
      refine lv_iload_n hx hb dX8_told_11 rfl (lv_at hl 2 rfl) ?_
      refine lv_aload_n hx hb dX8_told_12 rfl (lv_at hl 0 rfl) ?_
      refine va_get (D := D) (ci := 8) (v := .ref (xa 4)) (C := RX8) (T := TX8) (N := 14) hx hb htb iX8 hown hK.1 hP 0 rfl rfl 4 (by decide) (htb _ k_276) (fun _ h9 => h9) rfl dX8_told_13 ?_
      refine lv_iload_n hx hb dX8_told_16 rfl (lv_at hl 1 rfl) ?_
      refine va_aldq hx hb hK.1 hP 1 4 rfl rfl (g_in rfl (by omega) (by omega)) dX8_told_17 ?_
      refine W_top (y := .ref yh) (congrArg va_rf hy0) ?_
      refine va_getN (D := D) (ci := 5) (v := .int ysights) (C := RX5) (T := TX5) (N := 11) hx hb htb iX5 hown hK.1 hP 3 rfl rfl 7 (by decide) (va_Nw.use rfl (hK.2.1 (Cond.fieldLinkNest RX8 236 "SeaWatches$Ship" "sights" "I" "SeaWatches") (by decide +kernel))) (fun _ h9 => h9) rfl dX8_told_18 ?_
      refine lv_icmp_ge (tgt := 34) hx hb dX8_told_21 (by decide) (fun c_6 => ?_) (fun c_6 => ?_)
      ·
        have ic_6 : ysights.toInt ≤ p1.toInt := by first | exact (g_le rfl rfl).mp c_6 | (have h := mt (g_lt rfl rfl).mpr c_6; omega)
        clear c_6
        refine lv_ldc hx hb hown (htb _ k_386) dX8_told_34 ?_
        have hP9 := hP.sub (ws' := [(xh, .inr (8, G8 xa xtrialRule xdropRule xtoday)), ((xa 4), .inl (E 4, 5, .inr (.inr (.inr (.inr xf4))))), ((xa 5), .inl (E 0, 9, .inl xf5)), (yh, .inr (5, G5 ya ysights ystage ysailed yvoyage)), ((ya 1), .inl (E 0, 3, .inl yf1)), ((ya 2), .inl (E 0, 3, .inl yf2)), ((ya 3), .inl (E 0, 3, .inl yf3)), ((ya 4), .inl (E 0, 3, .inl yf4)), ((ya 5), .inl (E 0, 40, .inl yf5)), ((ya 6), .inl (E 0, 120, .inl yf6)), (xdropRule, .inr (4, G4 u2a u2size)), ((u2a 0), .inl (E 0, 120, .inl u2f0)), ((u2a 1), .inl (E 0, 120, .inl u2f1)), ((u2a 2), .inl (E 0, 120, .inl u2f2))]) [0, 1, 2, 3, 4, 5, 6, 7, 8, 9, 10, 11, 12, 13] rfl
        have hD9 := hD.sub (ws' := [(xh, .inr (8, G8 xa xtrialRule xdropRule xtoday)), ((xa 4), .inl (E 4, 5, .inr (.inr (.inr (.inr xf4))))), ((xa 5), .inl (E 0, 9, .inl xf5)), (yh, .inr (5, G5 ya ysights ystage ysailed yvoyage)), ((ya 1), .inl (E 0, 3, .inl yf1)), ((ya 2), .inl (E 0, 3, .inl yf2)), ((ya 3), .inl (E 0, 3, .inl yf3)), ((ya 4), .inl (E 0, 3, .inl yf4)), ((ya 5), .inl (E 0, 40, .inl yf5)), ((ya 6), .inl (E 0, 120, .inl yf6)), (xdropRule, .inr (4, G4 u2a u2size)), ((u2a 0), .inl (E 0, 120, .inl u2f0)), ((u2a 1), .inl (E 0, 120, .inl u2f1)), ((u2a 2), .inl (E 0, 120, .inl u2f2))]) [0, 1, 2, 3, 4, 5, 6, 7, 8, 9, 10, 11, 12, 13] (by decide) rfl
        exact W.iret (v := (-2000000000)) hx hb hr (fun t ht hW => ⟨⟨(-2000000000), (u2f2, xf5), rfl, trivial, by rw [ht]; exact hP9, hD9⟩, hS.F ht⟩) hS.2.2 dX8_told_36
      ·
        have ic_6 : p1.toInt < ysights.toInt := by first | exact (g_lt rfl rfl).mp c_6 | (have h := mt (g_le rfl rfl).mpr c_6; omega)
        clear c_6
        refine lv_iload_n hx hb dX8_told_24 rfl (lv_at hl 3 rfl) ?_
        refine lv_if_lt (tgt := 34) hx hb dX8_told_25 (by decide) (fun c_7 => ?_) (fun c_7 => ?_)
        ·
          have ic_7 : p2.toInt < 0 := by first | exact (g_lt rfl t_0).mp c_7 | (have h := mt (g_le t_0 rfl).mpr c_7; omega)
          clear c_7
          refine lv_ldc hx hb hown (htb _ k_386) dX8_told_34 ?_
          have hP9 := hP.sub (ws' := [(xh, .inr (8, G8 xa xtrialRule xdropRule xtoday)), ((xa 4), .inl (E 4, 5, .inr (.inr (.inr (.inr xf4))))), ((xa 5), .inl (E 0, 9, .inl xf5)), (yh, .inr (5, G5 ya ysights ystage ysailed yvoyage)), ((ya 1), .inl (E 0, 3, .inl yf1)), ((ya 2), .inl (E 0, 3, .inl yf2)), ((ya 3), .inl (E 0, 3, .inl yf3)), ((ya 4), .inl (E 0, 3, .inl yf4)), ((ya 5), .inl (E 0, 40, .inl yf5)), ((ya 6), .inl (E 0, 120, .inl yf6)), (xdropRule, .inr (4, G4 u2a u2size)), ((u2a 0), .inl (E 0, 120, .inl u2f0)), ((u2a 1), .inl (E 0, 120, .inl u2f1)), ((u2a 2), .inl (E 0, 120, .inl u2f2))]) [0, 1, 2, 3, 4, 5, 6, 7, 8, 9, 10, 11, 12, 13] rfl
          have hD9 := hD.sub (ws' := [(xh, .inr (8, G8 xa xtrialRule xdropRule xtoday)), ((xa 4), .inl (E 4, 5, .inr (.inr (.inr (.inr xf4))))), ((xa 5), .inl (E 0, 9, .inl xf5)), (yh, .inr (5, G5 ya ysights ystage ysailed yvoyage)), ((ya 1), .inl (E 0, 3, .inl yf1)), ((ya 2), .inl (E 0, 3, .inl yf2)), ((ya 3), .inl (E 0, 3, .inl yf3)), ((ya 4), .inl (E 0, 3, .inl yf4)), ((ya 5), .inl (E 0, 40, .inl yf5)), ((ya 6), .inl (E 0, 120, .inl yf6)), (xdropRule, .inr (4, G4 u2a u2size)), ((u2a 0), .inl (E 0, 120, .inl u2f0)), ((u2a 1), .inl (E 0, 120, .inl u2f1)), ((u2a 2), .inl (E 0, 120, .inl u2f2))]) [0, 1, 2, 3, 4, 5, 6, 7, 8, 9, 10, 11, 12, 13] (by decide) rfl
          exact W.iret (v := (-2000000000)) hx hb hr (fun t ht hW => ⟨⟨(-2000000000), (u2f2, xf5), rfl, trivial, by rw [ht]; exact hP9, hD9⟩, hS.F ht⟩) hS.2.2 dX8_told_36
        ·
          have ic_7 : 0 ≤ p2.toInt := by first | exact (g_le t_0 rfl).mp c_7 | (have h := mt (g_lt rfl t_0).mpr c_7; omega)
          clear c_7
          refine lv_iload_n hx hb dX8_told_28 rfl (lv_at hl 3 rfl) ?_
          refine lv_bipush (v := 9) hx hb dX8_told_29 (by decide) ?_
          refine lv_icmp_le (tgt := 37) hx hb dX8_told_31 (by decide) (fun c_8 => ?_) (fun c_8 => ?_)
          ·
            have ic_8 : p2.toInt ≤ 9 := by first | exact (g_le rfl t_9).mp c_8 | (have h := mt (g_lt t_9 rfl).mpr c_8; omega)
            clear c_8
            refine lv_aload_n hx hb dX8_told_37 rfl (lv_at hl 0 rfl) ?_
            refine va_get (D := D) (ci := 8) (v := .ref (xa 4)) (C := RX8) (T := TX8) (N := 14) hx hb htb iX8 hown hK.1 hP 0 rfl rfl 4 (by decide) (htb _ k_276) (fun _ h9 => h9) rfl dX8_told_38 ?_
            refine lv_iload_n hx hb dX8_told_41 rfl (lv_at hl 1 rfl) ?_
            refine va_aldq hx hb hK.1 hP 1 4 rfl rfl (g_in rfl (by omega) (by omega)) dX8_told_42 ?_
            refine W_top (y := .ref yh) (congrArg va_rf hy0) ?_
            refine lv_astore (lv' := [(4, .ref yh), (0, .ref xh), (1, .int p0), (2, .int p1), (3, .int p2)]) hx hb dX8_told_43 hl (by decide) rfl (fun ls hl => ?_)
            refine lv_iload_n hx hb dX8_told_45 rfl (lv_at hl 4 rfl) ?_
            refine lv_if_ne (tgt := 57) hx hb dX8_told_46 (by decide) (fun c_9 => ?_) (fun c_9 => ?_)
            ·
              have ic_9 : p2.toInt ≠ 0 := mt (g_eq rfl t_0).mpr c_9
              clear c_9
              refine lv_iload_n hx hb dX8_told_57 rfl (lv_at hl 4 rfl) ?_
              refine lv_bipush (v := 7) hx hb dX8_told_58 (by decide) ?_
              refine lv_icmp_lt (tgt := 74) hx hb dX8_told_60 (by decide) (fun c_10 => ?_) (fun c_10 => ?_)
              ·
                have ic_10 : p2.toInt < 7 := by first | exact (g_lt rfl t_7).mp c_10 | (have h := mt (g_le t_7 rfl).mpr c_10; omega)
                clear c_10
                refine lv_iload_n hx hb dX8_told_74 rfl (lv_at hl 4 rfl) ?_
                refine lv_iconst (v := 4) hx hb dX8_told_75 (by decide) ?_
                refine lv_icmp_lt (tgt := 89) hx hb dX8_told_76 (by decide) (fun c_11 => ?_) (fun c_11 => ?_)
                ·
                  have ic_11 : p2.toInt < 4 := by first | exact (g_lt rfl t_4).mp c_11 | (have h := mt (g_le t_4 rfl).mpr c_11; omega)
                  clear c_11
                  refine lv_aload_n hx hb dX8_told_89 rfl (lv_at hl 1 rfl) ?_
                  refine lv_aload hx hb dX8_told_90 (lv_at hl 0 rfl) ?_
                  refine lv_iload_n hx hb dX8_told_92 rfl (lv_at hl 3 rfl) ?_
                  have hPc := hP.sub (ws' := [(xh, .inr (8, G8 xa xtrialRule xdropRule xtoday)), ((xa 5), .inl (E 0, 9, .inl xf5)), (yh, .inr (5, G5 ya ysights ystage ysailed yvoyage)), ((ya 1), .inl (E 0, 3, .inl yf1)), ((ya 2), .inl (E 0, 3, .inl yf2)), ((ya 3), .inl (E 0, 3, .inl yf3)), ((ya 4), .inl (E 0, 3, .inl yf4)), ((ya 5), .inl (E 0, 40, .inl yf5)), ((ya 6), .inl (E 0, 120, .inl yf6)), (xdropRule, .inr (4, G4 u2a u2size)), ((u2a 0), .inl (E 0, 120, .inl u2f0)), ((u2a 1), .inl (E 0, 120, .inl u2f1)), ((u2a 2), .inl (E 0, 120, .inl u2f2))]) [0, 2, 3, 4, 5, 6, 7, 8, 9, 10, 11, 12, 13] rfl
                  have hDc := hD.sub (ws' := [(xh, .inr (8, G8 xa xtrialRule xdropRule xtoday)), ((xa 5), .inl (E 0, 9, .inl xf5)), (yh, .inr (5, G5 ya ysights ystage ysailed yvoyage)), ((ya 1), .inl (E 0, 3, .inl yf1)), ((ya 2), .inl (E 0, 3, .inl yf2)), ((ya 3), .inl (E 0, 3, .inl yf3)), ((ya 4), .inl (E 0, 3, .inl yf4)), ((ya 5), .inl (E 0, 40, .inl yf5)), ((ya 6), .inl (E 0, 120, .inl yf6)), (xdropRule, .inr (4, G4 u2a u2size)), ((u2a 0), .inl (E 0, 120, .inl u2f0)), ((u2a 1), .inl (E 0, 120, .inl u2f1)), ((u2a 2), .inl (E 0, 120, .inl u2f2))]) [0, 2, 3, 4, 5, 6, 7, 8, 9, 10, 11, 12, 13] (by decide) rfl
                  refine aft_i (runMV (rest := []) (As := [.ref yh, .int p1]) hx hb hml hown htb hK (g_X8_droppedOf l D E xh xa xtrialRule xdropRule xtoday xf5 yh ya ysights ystage ysailed yvoyage yf1 yf2 yf3 yf4 yf5 yf6 u2a u2size u2f0 u2f1 u2f2 p1 _ (by (try dsimp only); omega) (by (try dsimp only); omega) (by (try dsimp only); omega)) ok_X8_droppedOf k_847 k_849 ks_32 k_1 k_850 ⟨(Nat.le_of_ble_eq_true rfl), (Nat.le_of_ble_eq_true rfl)⟩ ⟨(Nat.le_of_ble_eq_true rfl), (Nat.le_of_ble_eq_true rfl)⟩ hl.1 (Nat.le_of_ble_eq_true rfl) rfl rfl dX8_told_93 hPc hDc rfl rfl 0 rfl) hP hD hS hA [0, 2, 3, 4, 5, 6, 7, 8, 9, 10, 11, 12, 13] [1] (wr := [((xa 4), .inl (E 4, 5, .inr (.inr (.inr (.inr xf4)))))]) rfl rfl (by decide) (by decide) (fun r_12 u_14 H locs hw_13 hP hD hS => ?_)
                  clear hPc hDc
                  obtain ⟨w_15, w_16⟩ := u_14
                  try dsimp only at hw_13
                  have hP : va_P D vwCl [((xa 4), .inl (E 4, 5, .inr (.inr (.inr (.inr xf4))))), (xh, .inr (8, G8 xa xtrialRule xdropRule xtoday)), ((xa 5), .inl (E 0, 9, .inl w_16)), (yh, .inr (5, G5 ya ysights ystage ysailed yvoyage)), ((ya 1), .inl (E 0, 3, .inl yf1)), ((ya 2), .inl (E 0, 3, .inl yf2)), ((ya 3), .inl (E 0, 3, .inl yf3)), ((ya 4), .inl (E 0, 3, .inl yf4)), ((ya 5), .inl (E 0, 40, .inl yf5)), ((ya 6), .inl (E 0, 120, .inl yf6)), (xdropRule, .inr (4, G4 u2a u2size)), ((u2a 0), .inl (E 0, 120, .inl u2f0)), ((u2a 1), .inl (E 0, 120, .inl u2f1)), ((u2a 2), .inl (E 0, 120, .inl w_15))] H := hP
                  have hD := toW hP hD rfl
                  refine lv_istore (lv' := [(5, .int r_12), (4, .ref yh), (0, .ref xh), (1, .int p0), (2, .int p1), (3, .int p2)]) hx hb dX8_told_96 hl (by decide) rfl (fun ls hl => ?_)
                  refine lv_iload_n hx hb dX8_told_98 rfl (lv_at hl 5 rfl) ?_
                  refine lv_iconst (v := 1) hx hb dX8_told_99 (by decide) ?_
                  refine lv_icmp_ne (tgt := 106) hx hb dX8_told_100 (by decide) (fun c_17 => ?_) (fun c_17 => ?_)
                  ·
                    have ic_17 : p2.toInt ≠ 1 := mt (g_eq rfl t_1).mpr c_17
                    clear c_17
                    refine lv_aload hx hb dX8_told_106 (lv_at hl 1 rfl) ?_
                    refine lv_iload_n hx hb dX8_told_108 rfl (lv_at hl 4 rfl) ?_
                    refine lv_iload hx hb dX8_told_109 (lv_at hl 0 rfl) ?_
                    refine callRV (rest := []) (As := [.int p1, .int r_12]) hx hb hml hown htb hK (g_X5_beginOf l D E yh ya ysights ystage ysailed yvoyage yf1 yf2 yf3 yf4 yf5 yf6 p1 r_12 (by (try dsimp only); omega)) ok_X5_beginOf k_858 k_859 k_860 k_8 k_861 ⟨(Nat.le_of_ble_eq_true rfl), (Nat.le_of_ble_eq_true rfl)⟩ ⟨(Nat.le_of_ble_eq_true rfl), (Nat.le_of_ble_eq_true rfl)⟩ hl.1 (Nat.le_of_ble_eq_true rfl) rfl rfl dX8_told_111 (hP.sub (ws' := [(yh, .inr (5, G5 ya ysights ystage ysailed yvoyage)), ((ya 1), .inl (E 0, 3, .inl yf1)), ((ya 2), .inl (E 0, 3, .inl yf2)), ((ya 3), .inl (E 0, 3, .inl yf3)), ((ya 4), .inl (E 0, 3, .inl yf4)), ((ya 5), .inl (E 0, 40, .inl yf5)), ((ya 6), .inl (E 0, 120, .inl yf6))]) [3, 4, 5, 6, 7, 8, 9] rfl) rfl rfl 0 rfl (fun r_18 hw_19 => ?_)
                    refine lv_istore (lv' := [(6, .int r_18), (5, .int r_12), (4, .ref yh), (0, .ref xh), (1, .int p0), (2, .int p1), (3, .int p2)]) hx hb dX8_told_114 hl (by decide) rfl (fun ls hl => ?_)
                    refine lv_aload hx hb dX8_told_116 (lv_at hl 2 rfl) ?_
                    refine lv_iload_n hx hb dX8_told_118 rfl (lv_at hl 5 rfl) ?_
                    refine lv_iload hx hb dX8_told_119 (lv_at hl 1 rfl) ?_
                    refine callRV (rest := []) (As := [.int p1, .int r_12]) hx hb hml hown htb hK (g_X5_endOf l D E yh ya ysights ystage ysailed yvoyage yf1 yf2 yf3 yf4 yf5 yf6 p1 r_12 (by (try dsimp only); omega)) ok_X5_endOf k_865 k_866 k_867 k_8 k_868 ⟨(Nat.le_of_ble_eq_true rfl), (Nat.le_of_ble_eq_true rfl)⟩ ⟨(Nat.le_of_ble_eq_true rfl), (Nat.le_of_ble_eq_true rfl)⟩ hl.1 (Nat.le_of_ble_eq_true rfl) rfl rfl dX8_told_121 (hP.sub (ws' := [(yh, .inr (5, G5 ya ysights ystage ysailed yvoyage)), ((ya 1), .inl (E 0, 3, .inl yf1)), ((ya 2), .inl (E 0, 3, .inl yf2)), ((ya 3), .inl (E 0, 3, .inl yf3)), ((ya 4), .inl (E 0, 3, .inl yf4)), ((ya 5), .inl (E 0, 40, .inl yf5)), ((ya 6), .inl (E 0, 120, .inl yf6))]) [3, 4, 5, 6, 7, 8, 9] rfl) rfl rfl 0 rfl (fun r_21 hw_22 => ?_)
                    refine lv_istore (lv' := [(7, .int r_21), (6, .int r_18), (5, .int r_12), (4, .ref yh), (0, .ref xh), (1, .int p0), (2, .int p1), (3, .int p2)]) hx hb dX8_told_124 hl (by decide) rfl (fun ls hl => ?_)
                    refine lv_iload hx hb dX8_told_126 (lv_at hl 0 rfl) ?_
                    refine lv_iload hx hb dX8_told_128 (lv_at hl 1 rfl) ?_
                    refine lv_icmp_ge (tgt := 136) hx hb dX8_told_130 (by decide) (fun c_24 => ?_) (fun c_24 => ?_)
                    ·
                      have ic_24 : r_18.toInt ≤ r_21.toInt := by first | exact (g_le rfl rfl).mp c_24 | (have h := mt (g_lt rfl rfl).mpr c_24; omega)
                      clear c_24
                      refine lv_iload_n hx hb dX8_told_136 rfl (lv_at hl 7 rfl) ?_
                      refine lv_iconst (v := 2) hx hb dX8_told_137 (by decide) ?_
                      refine lv_icmp_ne (tgt := 146) hx hb dX8_told_138 (by decide) (fun c_25 => ?_) (fun c_25 => ?_)
                      ·
                        have ic_25 : p2.toInt ≠ 2 := mt (g_eq rfl t_2).mpr c_25
                        clear c_25
                        refine lv_iload hx hb dX8_told_146 (lv_at hl 0 rfl) ?_
                        have hP9 := hP.sub (ws' := [(xh, .inr (8, G8 xa xtrialRule xdropRule xtoday)), ((xa 4), .inl (E 4, 5, .inr (.inr (.inr (.inr xf4))))), ((xa 5), .inl (E 0, 9, .inl w_16)), (yh, .inr (5, G5 ya ysights ystage ysailed yvoyage)), ((ya 1), .inl (E 0, 3, .inl yf1)), ((ya 2), .inl (E 0, 3, .inl yf2)), ((ya 3), .inl (E 0, 3, .inl yf3)), ((ya 4), .inl (E 0, 3, .inl yf4)), ((ya 5), .inl (E 0, 40, .inl yf5)), ((ya 6), .inl (E 0, 120, .inl yf6)), (xdropRule, .inr (4, G4 u2a u2size)), ((u2a 0), .inl (E 0, 120, .inl u2f0)), ((u2a 1), .inl (E 0, 120, .inl u2f1)), ((u2a 2), .inl (E 0, 120, .inl w_15))]) [1, 0, 2, 3, 4, 5, 6, 7, 8, 9, 10, 11, 12, 13] rfl
                        have hD9 := hD.sub (ws' := [(xh, .inr (8, G8 xa xtrialRule xdropRule xtoday)), ((xa 4), .inl (E 4, 5, .inr (.inr (.inr (.inr xf4))))), ((xa 5), .inl (E 0, 9, .inl w_16)), (yh, .inr (5, G5 ya ysights ystage ysailed yvoyage)), ((ya 1), .inl (E 0, 3, .inl yf1)), ((ya 2), .inl (E 0, 3, .inl yf2)), ((ya 3), .inl (E 0, 3, .inl yf3)), ((ya 4), .inl (E 0, 3, .inl yf4)), ((ya 5), .inl (E 0, 40, .inl yf5)), ((ya 6), .inl (E 0, 120, .inl yf6)), (xdropRule, .inr (4, G4 u2a u2size)), ((u2a 0), .inl (E 0, 120, .inl u2f0)), ((u2a 1), .inl (E 0, 120, .inl u2f1)), ((u2a 2), .inl (E 0, 120, .inl w_15))]) [1, 0, 2, 3, 4, 5, 6, 7, 8, 9, 10, 11, 12, 13] (by decide) rfl
                        exact W.iret (v := r_21) hx hb hr (fun t ht hW => ⟨⟨r_21, (w_15, w_16), rfl, trivial, by rw [ht]; exact hP9, hD9⟩, hS.F ht⟩) hS.2.2 dX8_told_148
                      ·
                        have ic_25 : p2.toInt = 2 := (g_eq rfl t_2).mp c_25
                        clear c_25
                        refine lv_iload hx hb dX8_told_141 (lv_at hl 1 rfl) ?_
                        refine lv_goto (tgt := 148) hx hb dX8_told_143 (by decide) ?_
                        have hP9 := hP.sub (ws' := [(xh, .inr (8, G8 xa xtrialRule xdropRule xtoday)), ((xa 4), .inl (E 4, 5, .inr (.inr (.inr (.inr xf4))))), ((xa 5), .inl (E 0, 9, .inl w_16)), (yh, .inr (5, G5 ya ysights ystage ysailed yvoyage)), ((ya 1), .inl (E 0, 3, .inl yf1)), ((ya 2), .inl (E 0, 3, .inl yf2)), ((ya 3), .inl (E 0, 3, .inl yf3)), ((ya 4), .inl (E 0, 3, .inl yf4)), ((ya 5), .inl (E 0, 40, .inl yf5)), ((ya 6), .inl (E 0, 120, .inl yf6)), (xdropRule, .inr (4, G4 u2a u2size)), ((u2a 0), .inl (E 0, 120, .inl u2f0)), ((u2a 1), .inl (E 0, 120, .inl u2f1)), ((u2a 2), .inl (E 0, 120, .inl w_15))]) [1, 0, 2, 3, 4, 5, 6, 7, 8, 9, 10, 11, 12, 13] rfl
                        have hD9 := hD.sub (ws' := [(xh, .inr (8, G8 xa xtrialRule xdropRule xtoday)), ((xa 4), .inl (E 4, 5, .inr (.inr (.inr (.inr xf4))))), ((xa 5), .inl (E 0, 9, .inl w_16)), (yh, .inr (5, G5 ya ysights ystage ysailed yvoyage)), ((ya 1), .inl (E 0, 3, .inl yf1)), ((ya 2), .inl (E 0, 3, .inl yf2)), ((ya 3), .inl (E 0, 3, .inl yf3)), ((ya 4), .inl (E 0, 3, .inl yf4)), ((ya 5), .inl (E 0, 40, .inl yf5)), ((ya 6), .inl (E 0, 120, .inl yf6)), (xdropRule, .inr (4, G4 u2a u2size)), ((u2a 0), .inl (E 0, 120, .inl u2f0)), ((u2a 1), .inl (E 0, 120, .inl u2f1)), ((u2a 2), .inl (E 0, 120, .inl w_15))]) [1, 0, 2, 3, 4, 5, 6, 7, 8, 9, 10, 11, 12, 13] (by decide) rfl
                        exact W.iret (v := r_18) hx hb hr (fun t ht hW => ⟨⟨r_18, (w_15, w_16), rfl, trivial, by rw [ht]; exact hP9, hD9⟩, hS.F ht⟩) hS.2.2 dX8_told_148
                    ·
                      have ic_24 : r_21.toInt < r_18.toInt := by first | exact (g_lt rfl rfl).mp c_24 | (have h := mt (g_le rfl rfl).mpr c_24; omega)
                      clear c_24
                      refine lv_ldc hx hb hown (htb _ k_386) dX8_told_133 ?_
                      have hP9 := hP.sub (ws' := [(xh, .inr (8, G8 xa xtrialRule xdropRule xtoday)), ((xa 4), .inl (E 4, 5, .inr (.inr (.inr (.inr xf4))))), ((xa 5), .inl (E 0, 9, .inl w_16)), (yh, .inr (5, G5 ya ysights ystage ysailed yvoyage)), ((ya 1), .inl (E 0, 3, .inl yf1)), ((ya 2), .inl (E 0, 3, .inl yf2)), ((ya 3), .inl (E 0, 3, .inl yf3)), ((ya 4), .inl (E 0, 3, .inl yf4)), ((ya 5), .inl (E 0, 40, .inl yf5)), ((ya 6), .inl (E 0, 120, .inl yf6)), (xdropRule, .inr (4, G4 u2a u2size)), ((u2a 0), .inl (E 0, 120, .inl u2f0)), ((u2a 1), .inl (E 0, 120, .inl u2f1)), ((u2a 2), .inl (E 0, 120, .inl w_15))]) [1, 0, 2, 3, 4, 5, 6, 7, 8, 9, 10, 11, 12, 13] rfl
                      have hD9 := hD.sub (ws' := [(xh, .inr (8, G8 xa xtrialRule xdropRule xtoday)), ((xa 4), .inl (E 4, 5, .inr (.inr (.inr (.inr xf4))))), ((xa 5), .inl (E 0, 9, .inl w_16)), (yh, .inr (5, G5 ya ysights ystage ysailed yvoyage)), ((ya 1), .inl (E 0, 3, .inl yf1)), ((ya 2), .inl (E 0, 3, .inl yf2)), ((ya 3), .inl (E 0, 3, .inl yf3)), ((ya 4), .inl (E 0, 3, .inl yf4)), ((ya 5), .inl (E 0, 40, .inl yf5)), ((ya 6), .inl (E 0, 120, .inl yf6)), (xdropRule, .inr (4, G4 u2a u2size)), ((u2a 0), .inl (E 0, 120, .inl u2f0)), ((u2a 1), .inl (E 0, 120, .inl u2f1)), ((u2a 2), .inl (E 0, 120, .inl w_15))]) [1, 0, 2, 3, 4, 5, 6, 7, 8, 9, 10, 11, 12, 13] (by decide) rfl
                      exact W.iret (v := (-2000000000)) hx hb hr (fun t ht hW => ⟨⟨(-2000000000), (w_15, w_16), rfl, trivial, by rw [ht]; exact hP9, hD9⟩, hS.F ht⟩) hS.2.2 dX8_told_135
                  ·
                    have ic_17 : p2.toInt = 1 := (g_eq rfl t_1).mp c_17
                    clear c_17
                    refine lv_iload hx hb dX8_told_103 (lv_at hl 0 rfl) ?_
                    have hP9 := hP.sub (ws' := [(xh, .inr (8, G8 xa xtrialRule xdropRule xtoday)), ((xa 4), .inl (E 4, 5, .inr (.inr (.inr (.inr xf4))))), ((xa 5), .inl (E 0, 9, .inl w_16)), (yh, .inr (5, G5 ya ysights ystage ysailed yvoyage)), ((ya 1), .inl (E 0, 3, .inl yf1)), ((ya 2), .inl (E 0, 3, .inl yf2)), ((ya 3), .inl (E 0, 3, .inl yf3)), ((ya 4), .inl (E 0, 3, .inl yf4)), ((ya 5), .inl (E 0, 40, .inl yf5)), ((ya 6), .inl (E 0, 120, .inl yf6)), (xdropRule, .inr (4, G4 u2a u2size)), ((u2a 0), .inl (E 0, 120, .inl u2f0)), ((u2a 1), .inl (E 0, 120, .inl u2f1)), ((u2a 2), .inl (E 0, 120, .inl w_15))]) [1, 0, 2, 3, 4, 5, 6, 7, 8, 9, 10, 11, 12, 13] rfl
                    have hD9 := hD.sub (ws' := [(xh, .inr (8, G8 xa xtrialRule xdropRule xtoday)), ((xa 4), .inl (E 4, 5, .inr (.inr (.inr (.inr xf4))))), ((xa 5), .inl (E 0, 9, .inl w_16)), (yh, .inr (5, G5 ya ysights ystage ysailed yvoyage)), ((ya 1), .inl (E 0, 3, .inl yf1)), ((ya 2), .inl (E 0, 3, .inl yf2)), ((ya 3), .inl (E 0, 3, .inl yf3)), ((ya 4), .inl (E 0, 3, .inl yf4)), ((ya 5), .inl (E 0, 40, .inl yf5)), ((ya 6), .inl (E 0, 120, .inl yf6)), (xdropRule, .inr (4, G4 u2a u2size)), ((u2a 0), .inl (E 0, 120, .inl u2f0)), ((u2a 1), .inl (E 0, 120, .inl u2f1)), ((u2a 2), .inl (E 0, 120, .inl w_15))]) [1, 0, 2, 3, 4, 5, 6, 7, 8, 9, 10, 11, 12, 13] (by decide) rfl
                    exact W.iret (v := r_12) hx hb hr (fun t ht hW => ⟨⟨r_12, (w_15, w_16), rfl, trivial, by rw [ht]; exact hP9, hD9⟩, hS.F ht⟩) hS.2.2 dX8_told_105
                ·
                  have ic_11 : 4 ≤ p2.toInt := by first | exact (g_le t_4 rfl).mp c_11 | (have h := mt (g_lt rfl t_4).mpr c_11; omega)
                  clear c_11
                  refine lv_aload hx hb dX8_told_79 (lv_at hl 0 rfl) ?_
                  refine lv_iload_n hx hb dX8_told_81 rfl (lv_at hl 3 rfl) ?_
                  refine lv_iload_n hx hb dX8_told_82 rfl (lv_at hl 4 rfl) ?_
                  refine lv_iconst (v := 4) hx hb dX8_told_83 (by decide) ?_
                  refine lv_isub hx hb dX8_told_84 ?_
                  refine lv_topi (fun z_26 ez_26 => ?_)
                  have jz_26 : z_26.toInt = p2.toInt - 4 := by rw [ez_26]; exact g_sub rfl t_4 (by omega) (by omega)
                  refine callRV (rest := []) (As := [.int p1, .int z_26]) hx hb hml hown htb hK (g_X5_timeOf l D E yh ya ysights ystage ysailed yvoyage yf1 yf2 yf4 yf5 yf6 p1 z_26 (by (try dsimp only); omega)) ok_X5_timeOf k_842 k_843 k_844 k_8 k_845 ⟨(Nat.le_of_ble_eq_true rfl), (Nat.le_of_ble_eq_true rfl)⟩ ⟨(Nat.le_of_ble_eq_true rfl), (Nat.le_of_ble_eq_true rfl)⟩ hl.1 (Nat.le_of_ble_eq_true rfl) rfl rfl dX8_told_85 (hP.sub (ws' := [(yh, .inr (5, G5 ya ysights ystage ysailed yvoyage)), ((ya 1), .inl (E 0, 3, .inl yf1)), ((ya 2), .inl (E 0, 3, .inl yf2)), ((ya 4), .inl (E 0, 3, .inl yf4)), ((ya 5), .inl (E 0, 40, .inl yf5)), ((ya 6), .inl (E 0, 120, .inl yf6))]) [3, 4, 5, 7, 8, 9] rfl) rfl rfl 0 rfl (fun r_27 hw_28 => ?_)
                  have hP9 := hP.sub (ws' := [(xh, .inr (8, G8 xa xtrialRule xdropRule xtoday)), ((xa 4), .inl (E 4, 5, .inr (.inr (.inr (.inr xf4))))), ((xa 5), .inl (E 0, 9, .inl xf5)), (yh, .inr (5, G5 ya ysights ystage ysailed yvoyage)), ((ya 1), .inl (E 0, 3, .inl yf1)), ((ya 2), .inl (E 0, 3, .inl yf2)), ((ya 3), .inl (E 0, 3, .inl yf3)), ((ya 4), .inl (E 0, 3, .inl yf4)), ((ya 5), .inl (E 0, 40, .inl yf5)), ((ya 6), .inl (E 0, 120, .inl yf6)), (xdropRule, .inr (4, G4 u2a u2size)), ((u2a 0), .inl (E 0, 120, .inl u2f0)), ((u2a 1), .inl (E 0, 120, .inl u2f1)), ((u2a 2), .inl (E 0, 120, .inl u2f2))]) [0, 1, 2, 3, 4, 5, 6, 7, 8, 9, 10, 11, 12, 13] rfl
                  have hD9 := hD.sub (ws' := [(xh, .inr (8, G8 xa xtrialRule xdropRule xtoday)), ((xa 4), .inl (E 4, 5, .inr (.inr (.inr (.inr xf4))))), ((xa 5), .inl (E 0, 9, .inl xf5)), (yh, .inr (5, G5 ya ysights ystage ysailed yvoyage)), ((ya 1), .inl (E 0, 3, .inl yf1)), ((ya 2), .inl (E 0, 3, .inl yf2)), ((ya 3), .inl (E 0, 3, .inl yf3)), ((ya 4), .inl (E 0, 3, .inl yf4)), ((ya 5), .inl (E 0, 40, .inl yf5)), ((ya 6), .inl (E 0, 120, .inl yf6)), (xdropRule, .inr (4, G4 u2a u2size)), ((u2a 0), .inl (E 0, 120, .inl u2f0)), ((u2a 1), .inl (E 0, 120, .inl u2f1)), ((u2a 2), .inl (E 0, 120, .inl u2f2))]) [0, 1, 2, 3, 4, 5, 6, 7, 8, 9, 10, 11, 12, 13] (by decide) rfl
                  exact W.iret (v := r_27) hx hb hr (fun t ht hW => ⟨⟨r_27, (u2f2, xf5), rfl, trivial, by rw [ht]; exact hP9, hD9⟩, hS.F ht⟩) hS.2.2 dX8_told_88
              ·
                have ic_10 : 7 ≤ p2.toInt := by first | exact (g_le t_7 rfl).mp c_10 | (have h := mt (g_lt rfl t_7).mpr c_10; omega)
                clear c_10
                refine lv_aload hx hb dX8_told_63 (lv_at hl 0 rfl) ?_
                refine lv_iload_n hx hb dX8_told_65 rfl (lv_at hl 3 rfl) ?_
                refine lv_iload_n hx hb dX8_told_66 rfl (lv_at hl 4 rfl) ?_
                refine lv_bipush (v := 7) hx hb dX8_told_67 (by decide) ?_
                refine lv_isub hx hb dX8_told_69 ?_
                refine lv_topi (fun z_30 ez_30 => ?_)
                have jz_30 : z_30.toInt = p2.toInt - 7 := by rw [ez_30]; exact g_sub rfl t_7 (by omega) (by omega)
                refine callRV (rest := []) (As := [.int p1, .int z_30]) hx hb hml hown htb hK (g_X5_widthOf l D E yh ya ysights ystage ysailed yvoyage yf3 yf5 p1 z_30 (by (try dsimp only); omega)) ok_X5_widthOf k_829 k_830 k_831 k_8 k_832 ⟨(Nat.le_of_ble_eq_true rfl), (Nat.le_of_ble_eq_true rfl)⟩ ⟨(Nat.le_of_ble_eq_true rfl), (Nat.le_of_ble_eq_true rfl)⟩ hl.1 (Nat.le_of_ble_eq_true rfl) rfl rfl dX8_told_70 (hP.sub (ws' := [(yh, .inr (5, G5 ya ysights ystage ysailed yvoyage)), ((ya 3), .inl (E 0, 3, .inl yf3)), ((ya 5), .inl (E 0, 40, .inl yf5))]) [3, 6, 8] rfl) rfl rfl 0 rfl (fun r_31 hw_32 => ?_)
                have hP9 := hP.sub (ws' := [(xh, .inr (8, G8 xa xtrialRule xdropRule xtoday)), ((xa 4), .inl (E 4, 5, .inr (.inr (.inr (.inr xf4))))), ((xa 5), .inl (E 0, 9, .inl xf5)), (yh, .inr (5, G5 ya ysights ystage ysailed yvoyage)), ((ya 1), .inl (E 0, 3, .inl yf1)), ((ya 2), .inl (E 0, 3, .inl yf2)), ((ya 3), .inl (E 0, 3, .inl yf3)), ((ya 4), .inl (E 0, 3, .inl yf4)), ((ya 5), .inl (E 0, 40, .inl yf5)), ((ya 6), .inl (E 0, 120, .inl yf6)), (xdropRule, .inr (4, G4 u2a u2size)), ((u2a 0), .inl (E 0, 120, .inl u2f0)), ((u2a 1), .inl (E 0, 120, .inl u2f1)), ((u2a 2), .inl (E 0, 120, .inl u2f2))]) [0, 1, 2, 3, 4, 5, 6, 7, 8, 9, 10, 11, 12, 13] rfl
                have hD9 := hD.sub (ws' := [(xh, .inr (8, G8 xa xtrialRule xdropRule xtoday)), ((xa 4), .inl (E 4, 5, .inr (.inr (.inr (.inr xf4))))), ((xa 5), .inl (E 0, 9, .inl xf5)), (yh, .inr (5, G5 ya ysights ystage ysailed yvoyage)), ((ya 1), .inl (E 0, 3, .inl yf1)), ((ya 2), .inl (E 0, 3, .inl yf2)), ((ya 3), .inl (E 0, 3, .inl yf3)), ((ya 4), .inl (E 0, 3, .inl yf4)), ((ya 5), .inl (E 0, 40, .inl yf5)), ((ya 6), .inl (E 0, 120, .inl yf6)), (xdropRule, .inr (4, G4 u2a u2size)), ((u2a 0), .inl (E 0, 120, .inl u2f0)), ((u2a 1), .inl (E 0, 120, .inl u2f1)), ((u2a 2), .inl (E 0, 120, .inl u2f2))]) [0, 1, 2, 3, 4, 5, 6, 7, 8, 9, 10, 11, 12, 13] (by decide) rfl
                exact W.iret (v := r_31) hx hb hr (fun t ht hW => ⟨⟨r_31, (u2f2, xf5), rfl, trivial, by rw [ht]; exact hP9, hD9⟩, hS.F ht⟩) hS.2.2 dX8_told_73
            ·
              have ic_9 : p2.toInt = 0 := (g_eq rfl t_0).mp c_9
              clear c_9
              refine lv_aload hx hb dX8_told_49 (lv_at hl 0 rfl) ?_
              refine va_getN (D := D) (ci := 5) (v := .ref (ya 5)) (C := RX5) (T := TX5) (N := 11) hx hb htb iX5 hown hK.1 hP 3 rfl rfl 5 (by decide) (va_Nw.use rfl (hK.2.1 (Cond.fieldLinkNest RX8 243 "SeaWatches$Ship" "sightDays" "[I" "SeaWatches") (by decide +kernel))) (fun _ h9 => h9) rfl dX8_told_51 ?_
              refine lv_iload_n hx hb dX8_told_54 rfl (lv_at hl 3 rfl) ?_
              refine va_iald hx hb hK.1 hP 8 0 rfl rfl (g_in rfl (by omega) (by omega)) dX8_told_55 ?_
              refine lv_topi (fun z_34 ez_34 => ?_)
              have kz_34 := congrArg Int32.toInt ez_34
              have hP9 := hP.sub (ws' := [(xh, .inr (8, G8 xa xtrialRule xdropRule xtoday)), ((xa 4), .inl (E 4, 5, .inr (.inr (.inr (.inr xf4))))), ((xa 5), .inl (E 0, 9, .inl xf5)), (yh, .inr (5, G5 ya ysights ystage ysailed yvoyage)), ((ya 1), .inl (E 0, 3, .inl yf1)), ((ya 2), .inl (E 0, 3, .inl yf2)), ((ya 3), .inl (E 0, 3, .inl yf3)), ((ya 4), .inl (E 0, 3, .inl yf4)), ((ya 5), .inl (E 0, 40, .inl yf5)), ((ya 6), .inl (E 0, 120, .inl yf6)), (xdropRule, .inr (4, G4 u2a u2size)), ((u2a 0), .inl (E 0, 120, .inl u2f0)), ((u2a 1), .inl (E 0, 120, .inl u2f1)), ((u2a 2), .inl (E 0, 120, .inl u2f2))]) [0, 1, 2, 3, 4, 5, 6, 7, 8, 9, 10, 11, 12, 13] rfl
              have hD9 := hD.sub (ws' := [(xh, .inr (8, G8 xa xtrialRule xdropRule xtoday)), ((xa 4), .inl (E 4, 5, .inr (.inr (.inr (.inr xf4))))), ((xa 5), .inl (E 0, 9, .inl xf5)), (yh, .inr (5, G5 ya ysights ystage ysailed yvoyage)), ((ya 1), .inl (E 0, 3, .inl yf1)), ((ya 2), .inl (E 0, 3, .inl yf2)), ((ya 3), .inl (E 0, 3, .inl yf3)), ((ya 4), .inl (E 0, 3, .inl yf4)), ((ya 5), .inl (E 0, 40, .inl yf5)), ((ya 6), .inl (E 0, 120, .inl yf6)), (xdropRule, .inr (4, G4 u2a u2size)), ((u2a 0), .inl (E 0, 120, .inl u2f0)), ((u2a 1), .inl (E 0, 120, .inl u2f1)), ((u2a 2), .inl (E 0, 120, .inl u2f2))]) [0, 1, 2, 3, 4, 5, 6, 7, 8, 9, 10, 11, 12, 13] (by decide) rfl
              exact W.iret (v := z_34) hx hb hr (fun t ht hW => ⟨⟨z_34, (u2f2, xf5), rfl, trivial, by rw [ht]; exact hP9, hD9⟩, hS.F ht⟩) hS.2.2 dX8_told_56
          ·
            have ic_8 : 9 < p2.toInt := by first | exact (g_lt t_9 rfl).mp c_8 | (have h := mt (g_le rfl t_9).mpr c_8; omega)
            clear c_8
            refine lv_ldc hx hb hown (htb _ k_386) dX8_told_34 ?_
            have hP9 := hP.sub (ws' := [(xh, .inr (8, G8 xa xtrialRule xdropRule xtoday)), ((xa 4), .inl (E 4, 5, .inr (.inr (.inr (.inr xf4))))), ((xa 5), .inl (E 0, 9, .inl xf5)), (yh, .inr (5, G5 ya ysights ystage ysailed yvoyage)), ((ya 1), .inl (E 0, 3, .inl yf1)), ((ya 2), .inl (E 0, 3, .inl yf2)), ((ya 3), .inl (E 0, 3, .inl yf3)), ((ya 4), .inl (E 0, 3, .inl yf4)), ((ya 5), .inl (E 0, 40, .inl yf5)), ((ya 6), .inl (E 0, 120, .inl yf6)), (xdropRule, .inr (4, G4 u2a u2size)), ((u2a 0), .inl (E 0, 120, .inl u2f0)), ((u2a 1), .inl (E 0, 120, .inl u2f1)), ((u2a 2), .inl (E 0, 120, .inl u2f2))]) [0, 1, 2, 3, 4, 5, 6, 7, 8, 9, 10, 11, 12, 13] rfl
            have hD9 := hD.sub (ws' := [(xh, .inr (8, G8 xa xtrialRule xdropRule xtoday)), ((xa 4), .inl (E 4, 5, .inr (.inr (.inr (.inr xf4))))), ((xa 5), .inl (E 0, 9, .inl xf5)), (yh, .inr (5, G5 ya ysights ystage ysailed yvoyage)), ((ya 1), .inl (E 0, 3, .inl yf1)), ((ya 2), .inl (E 0, 3, .inl yf2)), ((ya 3), .inl (E 0, 3, .inl yf3)), ((ya 4), .inl (E 0, 3, .inl yf4)), ((ya 5), .inl (E 0, 40, .inl yf5)), ((ya 6), .inl (E 0, 120, .inl yf6)), (xdropRule, .inr (4, G4 u2a u2size)), ((u2a 0), .inl (E 0, 120, .inl u2f0)), ((u2a 1), .inl (E 0, 120, .inl u2f1)), ((u2a 2), .inl (E 0, 120, .inl u2f2))]) [0, 1, 2, 3, 4, 5, 6, 7, 8, 9, 10, 11, 12, 13] (by decide) rfl
            exact W.iret (v := (-2000000000)) hx hb hr (fun t ht hW => ⟨⟨(-2000000000), (u2f2, xf5), rfl, trivial, by rw [ht]; exact hP9, hD9⟩, hS.F ht⟩) hS.2.2 dX8_told_36
  ·
    refine W_top (y := .int 0) (by rw [hr_1]) ?_
    refine lv_if_eq (tgt := 34) hx hb dX8_told_4 (by decide) (fun c_35 => ?_) (fun c_35 => absurd (by decide) c_35)
    refine lv_ldc hx hb hown (htb _ k_386) dX8_told_34 ?_
    have hP9 := hP.sub (ws' := [(xh, .inr (8, G8 xa xtrialRule xdropRule xtoday)), ((xa 4), .inl (E 4, 5, .inr (.inr (.inr (.inr xf4))))), ((xa 5), .inl (E 0, 9, .inl xf5)), (yh, .inr (5, G5 ya ysights ystage ysailed yvoyage)), ((ya 1), .inl (E 0, 3, .inl yf1)), ((ya 2), .inl (E 0, 3, .inl yf2)), ((ya 3), .inl (E 0, 3, .inl yf3)), ((ya 4), .inl (E 0, 3, .inl yf4)), ((ya 5), .inl (E 0, 40, .inl yf5)), ((ya 6), .inl (E 0, 120, .inl yf6)), (xdropRule, .inr (4, G4 u2a u2size)), ((u2a 0), .inl (E 0, 120, .inl u2f0)), ((u2a 1), .inl (E 0, 120, .inl u2f1)), ((u2a 2), .inl (E 0, 120, .inl u2f2))]) [0, 1, 2, 3, 4, 5, 6, 7, 8, 9, 10, 11, 12, 13] rfl
    have hD9 := hD.sub (ws' := [(xh, .inr (8, G8 xa xtrialRule xdropRule xtoday)), ((xa 4), .inl (E 4, 5, .inr (.inr (.inr (.inr xf4))))), ((xa 5), .inl (E 0, 9, .inl xf5)), (yh, .inr (5, G5 ya ysights ystage ysailed yvoyage)), ((ya 1), .inl (E 0, 3, .inl yf1)), ((ya 2), .inl (E 0, 3, .inl yf2)), ((ya 3), .inl (E 0, 3, .inl yf3)), ((ya 4), .inl (E 0, 3, .inl yf4)), ((ya 5), .inl (E 0, 40, .inl yf5)), ((ya 6), .inl (E 0, 120, .inl yf6)), (xdropRule, .inr (4, G4 u2a u2size)), ((u2a 0), .inl (E 0, 120, .inl u2f0)), ((u2a 1), .inl (E 0, 120, .inl u2f1)), ((u2a 2), .inl (E 0, 120, .inl u2f2))]) [0, 1, 2, 3, 4, 5, 6, 7, 8, 9, 10, 11, 12, 13] (by decide) rfl
    exact W.iret (v := (-2000000000)) hx hb hr (fun t ht hW => ⟨⟨(-2000000000), (u2f2, xf5), rfl, trivial, by rw [ht]; exact hP9, hD9⟩, hS.F ht⟩) hS.2.2 dX8_told_36
end
section
theorem k_796 : Cond.methodLink RX8 362 yJ9_floorDiv_7cf53 ∈ tb := tb_4 76 (by decide +kernel) (by decide)
end
section
/-! ===== worlds up to their order; contracts over larger worlds ===== -/
theorem vP_mem {D : va_G} {cl : List vw_C} {ws : va_W} {H : Heap} (h : va_P D cl ws H) {q : Nat × va_E} (hq : q ∈ ws) : va_at D cl q H := by
  obtain ⟨k, hk⟩ := List.getElem?_of_mem hq
  exact h k q hk
theorem vP_mono {D : va_G} {cl : List vw_C} {ws ws' : va_W} {H : Heap} (h : va_P D cl ws H) (hs : ∀ q ∈ ws', q ∈ ws) : va_P D cl ws' H := fun _ q hk => vP_mem h (hs q (List.mem_of_getElem? hk))
theorem vP_perm {D : va_G} {cl : List vw_C} {ws ws' : va_W} {H : Heap} (hp : ws.Perm ws') (h : va_P D cl ws H) : va_P D cl ws' H := vP_mono h (fun _ hq => hp.mem_iff.mpr hq)
theorem vD_iff {A : Nat → Prop} {ws : va_W} : va_D A ws ↔ (ws.map Prod.fst).Nodup ∧ ∀ q ∈ ws, A q.1 := by
  constructor
  · intro h
    refine ⟨List.pairwise_iff_getElem.mpr (fun i j hi hj hij e => ?_), fun q hq => ?_⟩
    · rw [List.length_map] at hi hj
      rw [List.getElem_map, List.getElem_map] at e
      have := h.1 i j ws[i] ws[j] (List.getElem?_eq_getElem hi) (List.getElem?_eq_getElem hj) e
      omega
    · obtain ⟨k, hk⟩ := List.getElem?_of_mem hq
      exact h.2 k q hk
  · intro h
    refine ⟨fun i j p q hp hq e => ?_, fun k q hk => h.2 q (List.mem_of_getElem? hk)⟩
    have hn := List.pairwise_iff_getElem.mp h.1
    obtain ⟨hi, ei⟩ := List.getElem?_eq_some_iff.mp hp
    obtain ⟨hj, ej⟩ := List.getElem?_eq_some_iff.mp hq
    rcases Nat.lt_trichotomy i j with h1 | h1 | h1
    · exact absurd (by rw [List.getElem_map, List.getElem_map, ei, ej]; exact e) (hn i j (by rw [List.length_map]; exact hi) (by rw [List.length_map]; exact hj) h1)
    · exact h1
    · exact absurd (by rw [List.getElem_map, List.getElem_map, ei, ej]; exact e.symm) (hn j i (by rw [List.length_map]; exact hj) (by rw [List.length_map]; exact hi) h1)
theorem vD_perm {A : Nat → Prop} {ws ws' : va_W} (hp : ws.Perm ws') (h : va_D A ws) : va_D A ws' := by
  rw [vD_iff] at h ⊢
  exact ⟨(hp.map Prod.fst).nodup h.1, fun q hq => h.2 q (hp.mem_iff.mpr hq)⟩
theorem vD_left {A : Nat → Prop} {w1 w2 : va_W} (h : va_D A (w1 ++ w2)) : va_D A w1 := by
  rw [vD_iff] at h ⊢
  rw [List.map_append, List.nodup_append] at h
  exact ⟨h.1.1, fun q hq => h.2 q (List.mem_append_left _ hq)⟩
theorem vA_mem {ws : va_W} {sz q : Nat} : va_A ws sz q ↔ (∃ e, (q, e) ∈ ws) ∨ sz ≤ q := by
  constructor
  · intro h
    rcases h with ⟨k, e, h⟩ | h
    · exact Or.inl ⟨e, List.mem_of_getElem? h⟩
    · exact Or.inr h
  · intro h
    rcases h with ⟨e, h⟩ | h
    · obtain ⟨k, hk⟩ := List.getElem?_of_mem h
      exact Or.inl ⟨k, e, hk⟩
    · exact Or.inr h
theorem vA_sub {ws ws' : va_W} {sz q : Nat} (hs : ∀ x ∈ ws, x ∈ ws') (h : va_A ws sz q) : va_A ws' sz q := by
  rw [vA_mem] at h ⊢
  rcases h with ⟨e, h⟩ | h
  · exact Or.inl ⟨e, hs _ h⟩
  · exact Or.inr h
theorem ix_all {α : Type} (l : List α) : (List.range l.length).map (fun i => l[i]?) = l.map some := by
  apply List.ext_getElem?
  intro i
  rw [List.getElem?_map, List.getElem?_map]
  rcases Nat.lt_or_ge i l.length with h | h
  · rw [List.getElem?_range h, List.getElem?_eq_getElem h]; simp [List.getElem?_eq_getElem h]
  · rw [List.getElem?_eq_none (by rw [List.length_range]; exact h), List.getElem?_eq_none h]; rfl
theorem pm_ix {ws w2 : va_W} (is : List Nat) (hs : is.map (fun i => ws[i]?) = w2.map some) (hn : is.Perm (List.range ws.length)) : ws.Perm w2 := by
  have h1 := hn.map (fun i => ws[i]?)
  rw [hs, ix_all] at h1
  have h2 := h1.filterMap id
  rw [List.filterMap_map, List.filterMap_map] at h2
  have e : ∀ l : va_W, List.filterMap (id ∘ some) l = l := fun l => by
    show List.filterMap some l = l
    exact List.filterMap_some
  rw [e, e] at h2
  exact h2.symm
theorem pm_tail {ws wc wr PL : va_W} (is : List Nat) (hs : is.map (fun i => ws[i]?) = (wc ++ wr).map some) (hn : is.Perm (List.range ws.length)) : (ws ++ PL).Perm (wc ++ (wr ++ PL)) := by
  rw [← List.append_assoc]
  exact (pm_ix is hs hn).append_right PL
theorem pm_pool {X B wc wr PL pr : va_W} (hp : PL.Perm (B ++ pr)) (is : List Nat) (hs : is.map (fun i => (X ++ B)[i]?) = (wc ++ wr).map some) (hn : is.Perm (List.range (X ++ B).length)) : (X ++ PL).Perm (wc ++ (wr ++ pr)) := by
  have h1 : (X ++ PL).Perm ((X ++ B) ++ pr) := by
    rw [List.append_assoc]
    exact hp.append_left X
  exact h1.trans (pm_tail is hs hn)
theorem mem_ix {ws wc : va_W} (is : List Nat) (hs : is.map (fun i => ws[i]?) = wc.map some) : ∀ q ∈ wc, q ∈ ws := by
  intro q hq
  have h1 : some q ∈ is.map (fun i => ws[i]?) := by rw [hs]; exact List.mem_map_of_mem hq
  obtain ⟨i, -, hi⟩ := List.mem_map.mp h1
  exact List.mem_of_getElem? hi
theorem pm_sub {W wc rest : va_W} (hp : W.Perm (wc ++ rest)) : ∀ q ∈ wc, q ∈ W := fun _ h => hp.mem_iff.mpr (List.mem_append_left _ h)
/-- a contract in a larger room, from more, to less -/
theorem met_up {l : Launch} {y : MethodName} {ws : List Cond} {d d' mc ms mc' ms' : Nat} {Pc Pc' : Array Value → State → Prop} {Qc Qc' : Array Value → State → Outcome → State → Prop} {free free' : Addr → Prop}
    (h : Met l y ws (RM d mc ms) Pc Qc mc ms free) (hd : d ≤ d') (hmc : mc ≤ mc') (hms : ms ≤ ms') (hP : ∀ a s, Pc' a s → Pc a s) (hQ : ∀ a s o t, Pc' a s → Qc a s o t → Qc' a s o t) (hf : ∀ q, free q → free' q) : Met l y ws (RM d' mc' ms') Pc' Qc' mc' ms' free' := by
  intro p e ha hc hk s m args below hfr happ hp hk'
  have happ2 : (headSpec ws (RM d mc ms)).appliesLoose y e.platform s = true := by
    rw [Spec.appliesLoose_iff hfr] at happ ⊢
    refine ⟨happ.1, happ.2.1, happ.2.2.1, happ.2.2.2.1, happ.2.2.2.2.1, happ.2.2.2.2.2.1, ?_, happ.2.2.2.2.2.2.2⟩
    have hr := happ.2.2.2.2.2.2.1
    unfold State.hasRoom at hr ⊢
    rw [Bool.and_eq_true, Bool.and_eq_true, Bool.and_eq_true, Bool.and_eq_true] at hr ⊢
    obtain ⟨⟨⟨⟨h1, h2⟩, h7⟩, h8⟩, h9⟩ := hr
    have k1 := of_decide_eq_true h1
    have k2 := of_decide_eq_true h2
    have k7 := of_decide_eq_true h7
    have k8 := of_decide_eq_true h8
    simp only [headSpec, RM] at k1 k2 k7 k8
    refine ⟨⟨⟨⟨decide_eq_true ?_, decide_eq_true ⟨?_, ?_, ?_, ?_, k2.2.2.2.2⟩⟩, decide_eq_true ?_⟩, decide_eq_true ?_⟩, h9⟩ <;> simp only [headSpec, RM] <;> omega
  obtain ⟨n, o, h1, h2, h3, hq, L, hF, hL⟩ := h p e ha hc hk s m args below hfr happ2 (hP _ _ hp) trivial
  refine ⟨n, o, h1, h2, h3, hQ _ _ _ _ hp hq, L, ⟨hF.1, hF.2.1, ?_⟩, fun q hq2 => hf _ (hL q hq2)⟩
  have h4 := hF.2.2
  unfold State.sameButNew at h4 ⊢
  exact ⟨h4.1, h4.2.1, Nat.le_trans h4.2.2.1 (Nat.add_le_add_left hmc _), h4.2.2.2.1, Nat.le_trans h4.2.2.2.2.1 hms, h4.2.2.2.2.2⟩
section UPS
variable {l : Launch} {y : MethodName} {ws : List Cond} {d d' mc ms mc' ms' sz : Nat} {D : va_G} {E : Nat → Nat} {av : List Value} {wc W rest : va_W}
theorem mu_up (hp : W.Perm (wc ++ rest)) {a : Array Value} {s : State} (h : mu_P D E av W sz a s) : mu_P D E av wc sz a s :=
  ⟨h.1, h.2.1, vP_mono h.2.2.1 (pm_sub hp), h.2.2.2.1, vD_left (vD_perm hp h.2.2.2.2)⟩
theorem rd_up (hs : ∀ q ∈ wc, q ∈ W) {a : Array Value} {s : State} (h : rd_P D E av W a s) : rd_P D E av wc a s := ⟨h.1, vP_mono h.2.1 hs, h.2.2⟩
/-- what stands behind it, in the larger world -/
theorem back_up (hp : W.Perm (wc ++ rest)) {s t : State} {w1 w2 : va_W} (hsz : s.heap.size = sz) (hP : va_P D vwCl W s.heap) (hD : va_D (fun _ => True) W) (hP1 : va_P D vwCl w1 t.heap) (hD1 : va_D (va_A wc sz) w1) (hF : va_F (va_A wc sz) s t) (h2 : (w1 ++ rest).Perm w2) :
    va_P D vwCl w2 t.heap ∧ va_D (va_A W sz) w2 := by
  subst hsz
  have hP' : va_P D vwCl (wc ++ rest) s.heap := vP_perm hp hP
  have hD' : va_D (va_A (wc ++ rest) s.heap.size) (wc ++ rest) := (vD_perm hp hD).self
  obtain ⟨j1, j2⟩ := va_joinQ (cx := wc) (wr := []) (w1 := w1) hP' hD' (List.range wc.length) [] (ix_all wc) rfl rfl (fun i h => by cases h) hF.2 (fun q h => vA_sub (fun x hx => List.mem_append_left _ hx) h) hP1 hD1
  have j2' := vD_perm (show (([] ++ w1) ++ rest).Perm w2 from h2) j2
  exact ⟨vP_perm (show (([] ++ w1) ++ rest).Perm w2 from h2) j1, j2'.weaken (fun _ q _ h => vA_sub (fun x hx => hp.mem_iff.mpr hx) h)⟩
theorem F_up (hp : W.Perm (wc ++ rest)) {s t : State} (h : va_F (va_A wc sz) s t) : va_F (va_A W sz) s t := ⟨h.1, fun q h1 h2 => h.2 q h1 (fun h3 => h2 (vA_sub (pm_sub hp) h3))⟩
theorem up_mi {S T : Type} {post : Int32 → S → Prop} {post2 : Int32 → T → Prop} {w1 : S → va_W} {w2 : T → va_W} (g : S → T) (h : Met l y ws (RM d mc ms) (mu_P D E av wc sz) (va_Qi post (mu_B D (va_A wc sz) w1) (va_A wc sz)) mc ms (va_A wc sz)) (hd : d ≤ d') (hmc : mc ≤ mc') (hms : ms ≤ ms') (hp : W.Perm (wc ++ rest))
    (hg : ∀ r u, post r u → post2 r (g u) ∧ (w1 u ++ rest).Perm (w2 (g u))) : Met l y ws (RM d' mc' ms') (mu_P D E av W sz) (va_Qi post2 (mu_B D (va_A W sz) w2) (va_A W sz)) mc' ms' (va_A W sz) := by
  refine met_up h hd hmc hms (fun a s => mu_up hp) (fun a s o t hpre hq => ?_) (fun q h1 => vA_sub (pm_sub hp) h1)
  obtain ⟨⟨r, u, e, hpost, hP1, hD1⟩, hF⟩ := hq
  obtain ⟨g1, g2⟩ := hg r u hpost
  exact ⟨⟨r, g u, e, g1, back_up hp hpre.2.1 hpre.2.2.1 hpre.2.2.2.2 hP1 hD1 hF g2⟩, F_up hp hF⟩
theorem up_mv {S T : Type} {post : S → Prop} {post2 : T → Prop} {w1 : S → va_W} {w2 : T → va_W} (g : S → T) (h : Met l y ws (RM d mc ms) (mu_P D E av wc sz) (va_Qv post (mu_B D (va_A wc sz) w1) (va_A wc sz)) mc ms (va_A wc sz)) (hd : d ≤ d') (hmc : mc ≤ mc') (hms : ms ≤ ms') (hp : W.Perm (wc ++ rest))
    (hg : ∀ u, post u → post2 (g u) ∧ (w1 u ++ rest).Perm (w2 (g u))) : Met l y ws (RM d' mc' ms') (mu_P D E av W sz) (va_Qv post2 (mu_B D (va_A W sz) w2) (va_A W sz)) mc' ms' (va_A W sz) := by
  refine met_up h hd hmc hms (fun a s => mu_up hp) (fun a s o t hpre hq => ?_) (fun q h1 => vA_sub (pm_sub hp) h1)
  obtain ⟨⟨u, e, hpost, hP1, hD1⟩, hF⟩ := hq
  obtain ⟨g1, g2⟩ := hg u hpost
  exact ⟨⟨g u, e, g1, back_up hp hpre.2.1 hpre.2.2.1 hpre.2.2.2.2 hP1 hD1 hF g2⟩, F_up hp hF⟩
theorem up_ri {T : Type} {post : Int32 → Prop} {post2 : Int32 → T → Prop} {w2 : T → va_W} (u0 : T) (h : Met l y ws (RM d 0 0) (rd_P D E av wc) (rd_Q post) 0 0 (fun _ => False)) (hd : d ≤ d') (hs : ∀ q ∈ wc, q ∈ W) (hw : w2 u0 = W) (hpost : ∀ r, post r → post2 r u0) : Met l y ws (RM d' mc' ms') (mu_P D E av W sz) (va_Qi post2 (mu_B D (va_A W sz) w2) (va_A W sz)) mc' ms' (va_A W sz) := by
  refine met_up h hd (Nat.zero_le _) (Nat.zero_le _) (fun a s hpre => ⟨hpre.1, vP_mono hpre.2.2.1 hs, hpre.2.2.2.1⟩) (fun a s o t hpre hq => ?_) (fun q h1 => h1.elim)
  obtain ⟨r, e, hp1, hh⟩ := hq
  exact ⟨⟨r, u0, e, hpost r hp1, by rw [hw, hh]; exact hpre.2.2.1, by rw [hw]; exact hpre.2.2.2.2.self⟩, Nat.le_of_eq (by rw [hh]), fun q _ _ => by rw [hh]⟩
theorem up_rd {post post2 : Int32 → Prop} (h : Met l y ws (RM d 0 0) (rd_P D E av wc) (rd_Q post) 0 0 (fun _ => False)) (hd : d ≤ d') (hs : ∀ q ∈ wc, q ∈ W) (hpost : ∀ r, post r → post2 r) : Met l y ws (RM d' 0 0) (rd_P D E av W) (rd_Q post2) 0 0 (fun _ => False) := by
  refine met_up h hd (Nat.le_refl _) (Nat.le_refl _) (fun a s => rd_up hs) (fun a s o t hpre hq => ?_) (fun q h1 => h1)
  obtain ⟨r, e, hp1, hh⟩ := hq
  exact ⟨r, e, hpost r hp1, hh⟩
theorem up_rv {T : Type} {post2 : T → Prop} {w2 : T → va_W} (u0 : T) (h : Met l y ws (RM d 0 0) (rd_P D E av wc) (rv_Q) 0 0 (fun _ => False)) (hd : d ≤ d') (hs : ∀ q ∈ wc, q ∈ W) (hw : w2 u0 = W) (hpost : post2 u0) : Met l y ws (RM d' mc' ms') (mu_P D E av W sz) (va_Qv post2 (mu_B D (va_A W sz) w2) (va_A W sz)) mc' ms' (va_A W sz) := by
  refine met_up h hd (Nat.zero_le _) (Nat.zero_le _) (fun a s hpre => ⟨hpre.1, vP_mono hpre.2.2.1 hs, hpre.2.2.2.1⟩) (fun a s o t hpre hq => ?_) (fun q h1 => h1.elim)
  obtain ⟨e, hh⟩ := hq
  exact ⟨⟨u0, e, hpost, by rw [hw, hh]; exact hpre.2.2.1, by rw [hw]; exact hpre.2.2.2.2.self⟩, Nat.le_of_eq (by rw [hh]), fun q _ _ => by rw [hh]⟩
end UPS
/-! ===== pools ===== -/
def pool (n : Nat) (B : Nat → va_W) : va_W := (List.range n).flatMap B
theorem pool_succ (n : Nat) (B : Nat → va_W) : pool (n + 1) B = pool n B ++ B n := by
  unfold pool
  rw [List.range_succ, List.flatMap_append]
  simp
theorem pool_congr {n : Nat} {B C : Nat → va_W} (h : ∀ k, k < n → B k = C k) : pool n B = pool n C := by
  induction n with
  | zero => rfl
  | succ n ih => rw [pool_succ, pool_succ, ih (fun k hk => h k (by omega)), h n (by omega)]
theorem pool_up {n i : Nat} (hi : i < n) (B : Nat → va_W) (x : va_W) : (pool n (va_up B i x)).Perm (x ++ pool n (va_up B i [])) := by
  induction n with
  | zero => omega
  | succ n ih =>
    rw [pool_succ, pool_succ]
    by_cases e : i = n
    · subst e
      have e1 : va_up B i x i = x := by simp [va_up]
      have e2 : va_up B i [] i = [] := by simp [va_up]
      rw [e1, e2, List.append_nil, pool_congr (C := va_up B i []) (fun k hk => by simp only [va_up]; rw [if_neg (by omega), if_neg (by omega)])]
      exact List.perm_append_comm
    · have e1 : va_up B i x n = B n := by simp only [va_up]; rw [if_neg (fun h => e h.symm)]
      have e2 : va_up B i [] n = B n := by simp only [va_up]; rw [if_neg (fun h => e h.symm)]
      rw [e1, e2, ← List.append_assoc]
      exact (ih (by omega)).append_right (B n)
def WB (E : Nat → Nat) (h : Nat) (a : Nat → Nat) (f : Nat → Nat → Int32) : va_W := [(h, .inr (7, G7 a)), (a 0, .inl (E 0, 400, .inl (f 0))), (a 1, .inl (E 0, 400, .inl (f 1))), (a 2, .inl (E 0, 400, .inl (f 2))), (a 3, .inl (E 0, 400, .inl (f 3)))]
def wB (E : Nat → Nat) (Q : Nat → Option Nat) (wa : Nat → Nat → Nat) (wf : Nat → Nat → Nat → Int32) (i : Nat) : va_W := match Q i with
  | none => []
  | some h => WB E h (wa i) (wf i)
def wpool (E : Nat → Nat) (Q : Nat → Option Nat) (wa : Nat → Nat → Nat) (wf : Nat → Nat → Nat → Int32) : va_W := pool 16 (wB E Q wa wf)
def wrest (E : Nat → Nat) (Q : Nat → Option Nat) (wa : Nat → Nat → Nat) (wf : Nat → Nat → Nat → Int32) (i : Nat) : va_W := pool 16 (va_up (wB E Q wa wf) i [])
theorem up_same {α : Type} {f : Nat → α} {i : Nat} {x : α} (h : f i = x) : va_up f i x = f := by
  funext j
  simp only [va_up]
  split
  · rename_i e; rw [e, h]
  · rfl
theorem wpool_ex {E : Nat → Nat} {Q : Nat → Option Nat} {wa : Nat → Nat → Nat} {wf : Nat → Nat → Nat → Int32} {i h : Nat} (hi : i < 16) (hq : Q i = some h) : (wpool E Q wa wf).Perm (WB E h (wa i) (wf i) ++ wrest E Q wa wf i) := by
  have e : va_up (wB E Q wa wf) i (WB E h (wa i) (wf i)) = wB E Q wa wf := up_same (by unfold wB; rw [hq])
  have := pool_up hi (wB E Q wa wf) (WB E h (wa i) (wf i))
  rw [e] at this
  exact this
/-- its contents have changed -/
theorem wpool_set {E : Nat → Nat} {Q : Nat → Option Nat} {wa : Nat → Nat → Nat} {wf : Nat → Nat → Nat → Int32} {i h : Nat} {f : Nat → Nat → Int32} (hi : i < 16) (hq : Q i = some h) : (wpool E Q wa (va_up wf i f)).Perm (WB E h (wa i) f ++ wrest E Q wa wf i) := by
  have e : wB E Q wa (va_up wf i f) = va_up (wB E Q wa wf) i (WB E h (wa i) f) := by
    funext j
    simp only [va_up, wB]
    by_cases e : j = i
    · subst e; simp [hq]
    · simp [e]
  unfold wpool
  rw [e]
  exact pool_up hi _ _
theorem wrest_none {E : Nat → Nat} {Q : Nat → Option Nat} {wa : Nat → Nat → Nat} {wf : Nat → Nat → Nat → Int32} {i : Nat} (hq : Q i = none) : wrest E Q wa wf i = wpool E Q wa wf := by
  unfold wrest wpool
  rw [up_same (by unfold wB; rw [hq])]
/-- a new one has come -/
theorem wpool_new {E : Nat → Nat} {Q : Nat → Option Nat} {wa : Nat → Nat → Nat} {wf : Nat → Nat → Nat → Int32} {i h : Nat} {a : Nat → Nat} {f : Nat → Nat → Int32} (hi : i < 16) (hq : Q i = none) : (wpool E (va_up Q i (some h)) (va_up wa i a) (va_up wf i f)).Perm (WB E h a f ++ wpool E Q wa wf) := by
  have e : wB E (va_up Q i (some h)) (va_up wa i a) (va_up wf i f) = va_up (wB E Q wa wf) i (WB E h a f) := by
    funext j
    simp only [va_up, wB]
    by_cases e : j = i
    · subst e; simp
    · simp [e]
  have h1 := pool_up hi (wB E Q wa wf) (WB E h a f)
  rw [← e] at h1
  have h2 : pool 16 (va_up (wB E Q wa wf) i []) = wpool E Q wa wf := wrest_none hq
  rw [h2] at h1
  exact h1
def JQ (K : Nat → Int32) (Q : Nat → Option Nat) : Prop := ∀ i : Nat, i < 16 → (K i).toInt = 0 ∨ (K i).toInt = 1 → ∃ h, Q i = some h
def K2 (f g : Nat → Int32) : Prop := ∀ k : Nat, g k = f k ∨ ((g k).toInt ≠ 0 ∧ (g k).toInt ≠ 1)
theorem K2_r {f : Nat → Int32} : K2 f f := fun _ => Or.inl rfl
theorem K2_u {f : Nat → Int32} {i : Nat} {v : Int32} (h : v.toInt ≠ 0 ∧ v.toInt ≠ 1) : K2 f (upd f i v) := fun k => by
  unfold upd
  split
  · exact Or.inr h
  · exact Or.inl rfl
theorem JQ_K2 {f g : Nat → Int32} {Q : Nat → Option Nat} (h : JQ f Q) (hk : K2 f g) : JQ g Q := fun i hi hg => by
  rcases hk i with e | e
  · exact h i hi (by rw [← e]; exact hg)
  · omega
theorem JQ_put {f g : Nat → Int32} {Q : Nat → Option Nat} {i h : Nat} {v : Int32} (hj : JQ f Q) (hq : Q i = some h) (hg : g = upd f i v) : JQ g Q := fun k hk hkk => by
  by_cases e : k = i
  · exact ⟨h, by rw [e]; exact hq⟩
  · refine hj k hk ?_
    rw [hg] at hkk
    unfold upd at hkk
    rw [if_neg e] at hkk
    exact hkk
theorem JQ_new {f g : Nat → Int32} {Q R : Nat → Option Nat} {i h : Nat} {v : Int32} (hj : JQ f Q) (hr : R = va_up Q i (some h)) (hg : g = upd f i v) : JQ g R := fun k hk hkk => by
  rw [hr]
  by_cases e : k = i
  · exact ⟨h, by simp [va_up, e]⟩
  · rw [hg] at hkk
    unfold upd at hkk
    rw [if_neg e] at hkk
    obtain ⟨z, hz⟩ := hj k hk hkk
    exact ⟨z, by simp [va_up, e, hz]⟩
def tw6 (k : Nat) : Int32 := ([111, 114, 32, 97, 110, 100, 32, 110, 111, 116, 32, 97, 98, 115, 32, 100, 97, 121, 115, 32, 108, 101, 97, 115, 116, 32, 109, 111, 115, 116, 32, 115, 112, 97, 110, 32, 103, 97, 112, 115, 32, 106, 117, 109, 112, 32, 100, 114, 105, 102, 116, 32, 115, 117, 109, 32, 119, 97, 114, 109] : List Int32).getD k 0
def tw7 (k : Nat) : Int32 := ([111, 114, 32, 97, 110, 100, 32, 110, 111, 116, 32, 97, 98, 115, 32, 111, 102, 102, 32, 100, 111, 117, 98, 116, 32, 100, 97, 121, 115, 32, 119, 104, 105, 99, 104] : List Int32).getD k 0
end
