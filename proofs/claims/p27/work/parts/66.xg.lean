set_option maxHeartbeats 4000000 in
set_option maxRecDepth 100000 in
theorem g_X8_take_N (l : Launch) (D : va_G) (E : Nat → Nat) (xh : Nat) (xa : Nat → Nat) (xtrialRule : Nat) (xdropRule : Nat) (xtoday : Int32) (xf1 : Nat → Int32) (xf3 : Nat → Option Nat) (p0 : Int32) (sz : Nat) (hi_x : (0 ≤ xtoday.toInt ∧ xtoday.toInt ≤ 399)) (hn0 : ¬ (0 ≤ p0.toInt ∧ p0.toInt ≤ 15 ∧ ((xf1 (p0).toNatClampNeg).toInt = 0 ∨ (xf1 (p0).toNatClampNeg).toInt = 1))) : Met l yX8_take (wl yX8_take cX8_take 3 (some .int)) (RM 2 0 0) (mu_P D E [.ref xh, .int p0] [(xh, .inr (8, G8 xa xtrialRule xdropRule xtoday)), ((xa 1), .inl (E 0, 16, .inl xf1)), ((xa 3), .inl (E 3, 16, .inr (.inr (.inr (.inr xf3)))))] sz) (va_Qi (fun (r : Int32) (u : (Nat → Int32)) => (KM xf1 u) ∧ ((r.toInt = -1 ∧ ¬ (0 ≤ p0.toInt ∧ p0.toInt ≤ 15) ∧ u = xf1) ∨ ((0 ≤ p0.toInt ∧ p0.toInt ≤ 15) ∧ (xf1 (p0).toNatClampNeg).toInt = -5 ∧ r.toInt = -2 ∧ u = xf1) ∨ ((0 ≤ p0.toInt ∧ p0.toInt ≤ 15) ∧ (xf1 (p0).toNatClampNeg).toInt ≠ -5 ∧ r.toInt = 1 ∧ u = upd xf1 (p0).toNatClampNeg (-5)))) (mu_B D (va_A [(xh, .inr (8, G8 xa xtrialRule xdropRule xtoday)), ((xa 1), .inl (E 0, 16, .inl xf1)), ((xa 3), .inl (E 3, 16, .inr (.inr (.inr (.inr xf3)))))] sz) (fun (u : (Nat → Int32)) => [(xh, .inr (8, G8 xa xtrialRule xdropRule xtoday)), ((xa 1), .inl (E 0, 16, .inl u)), ((xa 3), .inl (E 3, 16, .inr (.inr (.inr (.inr xf3)))))])) (va_A [(xh, .inr (8, G8 xa xtrialRule xdropRule xtoday)), ((xa 1), .inl (E 0, 16, .inl xf1)), ((xa 3), .inl (E 3, 16, .inr (.inr (.inr (.inr xf3)))))] sz)) 0 0 (va_A [(xh, .inr (8, G8 xa xtrialRule xdropRule xtoday)), ((xa 1), .inl (E 0, 16, .inl xf1)), ((xa 3), .inl (E 3, 16, .inr (.inr (.inr (.inr xf3)))))] sz) := by
  refine Met.ofW (cc := cX8_take) (maxL := 3) (ret := (some .int)) (by decide) rfl ?_
  intro p e s m args below meth c s₁ B hml hv
  obtain ⟨rfl, hsz, hP, hK, hD0⟩ := hv
  have hx := B.exec; have hb := B.bytes; have hr := B.returns
  have hts := atoms_spec (ws := wl yX8_take cX8_take 3 (some .int)) B.pre
  have htb : ∀ w ∈ tb, w.before _ s = true := fun w h => hts w (List.mem_cons_of_mem _ h)
  have hown : s.vm.findClass RX8 = some m.cls := findClass_of_methodNamed B.named
  have hlocks := B.notSynchronized
  subst hsz
  have hD := hD0.self (sz := s.heap.size)
  generalize hAe : va_A [(xh, .inr (8, G8 xa xtrialRule xdropRule xtoday)), ((xa 1), .inl (E 0, 16, .inl xf1)), ((xa 3), .inl (E 3, 16, .inr (.inr (.inr (.inr xf3)))))] s.heap.size = A at hD ⊢
  have hA : ∀ q : Nat, s.heap.size ≤ q → A q := fun q h => by rw [← hAe]; exact Or.inr h
  have hS : va_S A s.heap s.heap [] := va_S.rf
  have hP : va_P D vwCl [(xh, .inr (8, G8 xa xtrialRule xdropRule xtoday)), ((xa 1), .inl (E 0, 16, .inl xf1)), ((xa 3), .inl (E 3, 16, .inr (.inr (.inr (.inr xf3)))))] s.heap := hP
  have hl := lv_entry ([.ref xh, .int p0]) (n := 3) (Nat.le_of_ble_eq_true rfl)
  rw [lg_entry_eq]
  generalize (lg_sl ([.ref xh, .int p0]) ++ List.replicate (3 - (lg_sl ([.ref xh, .int p0])).length) Slot.unset).toArray = ls at hl ⊢
  have hl : lv_has ls 3 [(0, .ref xh), (1, .int p0)] := hl
  have lo_p0 := i_lo p0; have hi_p0 := i_hi p0
  refine lv_iload_n hx hb dX8_take_0 rfl (lv_at hl 1 rfl) ?_
  refine callRS (rest := []) (As := [.int p0]) hx hb hml hown htb hK (g_X8_isPlace l D E p0 ) ok_X8_isPlace k_333 k_334 k_1 k_335 ⟨(Nat.le_of_ble_eq_true rfl), (Nat.le_of_ble_eq_true rfl)⟩ ⟨(Nat.le_of_ble_eq_true rfl), (Nat.le_of_ble_eq_true rfl)⟩ hl.1 (Nat.le_of_ble_eq_true rfl) rfl rfl dX8_take_1 (hP.sub (ws' := ([] : va_W)) [] rfl) (fun r_1 hw_2 => ?_)
  rcases hw_2 with ⟨hr_1, hw_2⟩ | ⟨hr_1, hw_2⟩
  ·
    refine W_top (y := .int 1) (by rw [hr_1]) ?_
    refine lv_if_ne (tgt := 9) hx hb dX8_take_4 (by decide) (fun c_4 => ?_) (fun c_4 => absurd c_4 (by decide))
    refine lv_aload_n hx hb dX8_take_9 rfl (lv_at hl 0 rfl) ?_
    refine va_get (D := D) (ci := 8) (v := .ref (xa 1)) (C := RX8) (T := TX8) (N := 14) hx hb htb iX8 hown hK.1 hP 0 rfl rfl 1 (by decide) (htb _ k_273) (fun _ h9 => h9) rfl dX8_take_10 ?_
    refine lv_iload_n hx hb dX8_take_13 rfl (lv_at hl 1 rfl) ?_
    refine va_iald hx hb hK.1 hP 1 0 rfl rfl (g_in rfl (by omega) (by omega)) dX8_take_14 ?_
    refine lv_topi (fun z_5 ez_5 => ?_)
    have kz_5 := congrArg Int32.toInt ez_5
    refine lv_bipush (v := (-5)) hx hb dX8_take_15 (by decide) ?_
    refine lv_icmp_ne (tgt := 23) hx hb dX8_take_17 (by decide) (fun c_6 => ?_) (fun c_6 => ?_)
    ·
      have ic_6 : z_5.toInt ≠ -5 := mt (g_eq rfl t_m5).mpr c_6
      clear c_6
      refine lv_aload_n hx hb dX8_take_23 rfl (lv_at hl 0 rfl) ?_
      refine lv_iload_n hx hb dX8_take_24 rfl (lv_at hl 1 rfl) ?_
      refine rn_call (runRV (rest := []) (As := [.int p0]) hx hb hml hown htb (g_X8_watchAt_N l D E xh xa xtrialRule xdropRule xtoday xf1 xf3 p0 (by (try dsimp only); omega) hn0) ok_X8_watchAt k_369 k_371 ks_1 k_1 k_372 ⟨(Nat.le_of_ble_eq_true rfl), (Nat.le_of_ble_eq_true rfl)⟩ ⟨(Nat.le_of_ble_eq_true rfl), (Nat.le_of_ble_eq_true rfl)⟩ hl.1 (Nat.le_of_ble_eq_true rfl) rfl rfl dX8_take_25 (prV (hP.sub (ws' := [(xh, .inr (8, G8 xa xtrialRule xdropRule xtoday)), ((xa 1), .inl (E 0, 16, .inl xf1)), ((xa 3), .inl (E 3, 16, .inr (.inr (.inr (.inr xf3)))))]) [0, 1, 2] rfl) hK rfl rfl 0 rfl)) ?_
      refine lv_astore_nN (lv' := [(2, .null), (0, .ref xh), (1, .int p0)]) hx hb dX8_take_28 rfl hl (by decide) rfl (fun ls hl => ?_)
      refine lv_aload_nN hx hb dX8_take_29 rfl (lv_at hl 0 rfl) ?_
      refine lv_ifnullN (tgt := 48) hx hb dX8_take_30 (by decide) ?_
      refine lv_aload_n hx hb dX8_take_48 rfl (lv_at hl 1 rfl) ?_
      refine va_get (D := D) (ci := 8) (v := .ref (xa 1)) (C := RX8) (T := TX8) (N := 14) hx hb htb iX8 hown hK.1 hP 0 rfl rfl 1 (by decide) (htb _ k_273) (fun _ h9 => h9) rfl dX8_take_49 ?_
      refine lv_iload_n hx hb dX8_take_52 rfl (lv_at hl 2 rfl) ?_
      refine lv_bipush (v := (-5)) hx hb dX8_take_53 (by decide) ?_
      refine va_iast hx hb hK.1 hP hD hS 1 0 rfl rfl (g_in rfl (by omega) (by omega)) dX8_take_55 (fun H locs hP hD hS => ?_)
      have hP : va_P D vwCl [(xh, .inr (8, G8 xa xtrialRule xdropRule xtoday)), ((xa 1), .inl (E 0, 16, .inl (upd xf1 (p0 : Int32).toNatClampNeg (-5)))), ((xa 3), .inl (E 3, 16, .inr (.inr (.inr (.inr xf3)))))] H := hP
      have hD := toW hP hD rfl
      refine lv_iconst (v := 1) hx hb dX8_take_56 (by decide) ?_
      have hP9 := hP.sub (ws' := [(xh, .inr (8, G8 xa xtrialRule xdropRule xtoday)), ((xa 1), .inl (E 0, 16, .inl (upd xf1 (p0 : Int32).toNatClampNeg (-5)))), ((xa 3), .inl (E 3, 16, .inr (.inr (.inr (.inr xf3)))))]) [0, 1, 2] rfl
      have hD9 := hD.sub (ws' := [(xh, .inr (8, G8 xa xtrialRule xdropRule xtoday)), ((xa 1), .inl (E 0, 16, .inl (upd xf1 (p0 : Int32).toNatClampNeg (-5)))), ((xa 3), .inl (E 3, 16, .inr (.inr (.inr (.inr xf3)))))]) [0, 1, 2] (by decide) rfl
      exact W.iret (v := 1) hx hb hr (fun t ht hW => ⟨⟨1, (upd xf1 (p0 : Int32).toNatClampNeg (-5)), rfl, ⟨(KM_u (by decide)), (by have hl0 := t_1; (try dsimp only); first | exact Or.inr (Or.inr ⟨by omega, by omega, by omega, rfl⟩))⟩, by rw [ht]; exact hP9, hD9⟩, hS.F ht⟩) hS.2.2 dX8_take_57
    ·
      have ic_6 : z_5.toInt = -5 := (g_eq rfl t_m5).mp c_6
      clear c_6
      refine lv_bipush (v := (-2)) hx hb dX8_take_20 (by decide) ?_
      have hP9 := hP.sub (ws' := [(xh, .inr (8, G8 xa xtrialRule xdropRule xtoday)), ((xa 1), .inl (E 0, 16, .inl xf1)), ((xa 3), .inl (E 3, 16, .inr (.inr (.inr (.inr xf3)))))]) [0, 1, 2] rfl
      have hD9 := hD.sub (ws' := [(xh, .inr (8, G8 xa xtrialRule xdropRule xtoday)), ((xa 1), .inl (E 0, 16, .inl xf1)), ((xa 3), .inl (E 3, 16, .inr (.inr (.inr (.inr xf3)))))]) [0, 1, 2] (by decide) rfl
      exact W.iret (v := (-2)) hx hb hr (fun t ht hW => ⟨⟨(-2), xf1, rfl, ⟨KM_r, (by have hl0 := t_m2; (try dsimp only); first | exact Or.inr (Or.inl ⟨by omega, by omega, by omega, rfl⟩))⟩, by rw [ht]; exact hP9, hD9⟩, hS.F ht⟩) hS.2.2 dX8_take_22
  ·
    refine W_top (y := .int 0) (by rw [hr_1]) ?_
    refine lv_if_ne (tgt := 9) hx hb dX8_take_4 (by decide) (fun c_10 => absurd (by decide) c_10) (fun c_10 => ?_)
    refine lv_iconst (v := (-1)) hx hb dX8_take_7 (by decide) ?_
    have hP9 := hP.sub (ws' := [(xh, .inr (8, G8 xa xtrialRule xdropRule xtoday)), ((xa 1), .inl (E 0, 16, .inl xf1)), ((xa 3), .inl (E 3, 16, .inr (.inr (.inr (.inr xf3)))))]) [0, 1, 2] rfl
    have hD9 := hD.sub (ws' := [(xh, .inr (8, G8 xa xtrialRule xdropRule xtoday)), ((xa 1), .inl (E 0, 16, .inl xf1)), ((xa 3), .inl (E 3, 16, .inr (.inr (.inr (.inr xf3)))))]) [0, 1, 2] (by decide) rfl
    exact W.iret (v := (-1)) hx hb hr (fun t ht hW => ⟨⟨(-1), xf1, rfl, ⟨KM_r, (by have hl0 := t_m1; (try dsimp only); first | exact Or.inl ⟨by omega, by omega, rfl⟩)⟩, by rw [ht]; exact hP9, hD9⟩, hS.F ht⟩) hS.2.2 dX8_take_8
set_option maxHeartbeats 4000000 in
set_option maxRecDepth 100000 in
theorem g_X8_take_W (l : Launch) (D : va_G) (E : Nat → Nat) (xh : Nat) (xa : Nat → Nat) (xtrialRule : Nat) (xdropRule : Nat) (xtoday : Int32) (xf1 : Nat → Int32) (xf3 : Nat → Option Nat) (wh : Nat) (wa : Nat → Nat) (wf3 : Nat → Int32) (p0 : Int32) (sz : Nat) (hi_x : (0 ≤ xtoday.toInt ∧ xtoday.toInt ≤ 399)) (hk0 : (0 ≤ p0.toInt ∧ p0.toInt ≤ 15 ∧ ((xf1 (p0).toNatClampNeg).toInt = 0 ∨ (xf1 (p0).toNatClampNeg).toInt = 1))) (hw0 : xf3 (p0).toNatClampNeg = some wh) : Met l yX8_take (wl yX8_take cX8_take 3 (some .int)) (RM 2 0 0) (mu_P D E [.ref xh, .int p0] [(xh, .inr (8, G8 xa xtrialRule xdropRule xtoday)), ((xa 1), .inl (E 0, 16, .inl xf1)), ((xa 3), .inl (E 3, 16, .inr (.inr (.inr (.inr xf3))))), (wh, .inr (7, G7 wa)), ((wa 3), .inl (E 0, 400, .inl wf3))] sz) (va_Qi (fun (r : Int32) (u : (Nat → Int32)) => (KM xf1 u) ∧ (((wf3 (xtoday).toNatClampNeg).toInt ≠ -1 ∧ r.toInt = -4 ∧ u = xf1) ∨ ((wf3 (xtoday).toNatClampNeg).toInt = -1 ∧ r.toInt = 1 ∧ u = upd xf1 (p0).toNatClampNeg (-5)))) (mu_B D (va_A [(xh, .inr (8, G8 xa xtrialRule xdropRule xtoday)), ((xa 1), .inl (E 0, 16, .inl xf1)), ((xa 3), .inl (E 3, 16, .inr (.inr (.inr (.inr xf3))))), (wh, .inr (7, G7 wa)), ((wa 3), .inl (E 0, 400, .inl wf3))] sz) (fun (u : (Nat → Int32)) => [(xh, .inr (8, G8 xa xtrialRule xdropRule xtoday)), ((xa 1), .inl (E 0, 16, .inl u)), ((xa 3), .inl (E 3, 16, .inr (.inr (.inr (.inr xf3))))), (wh, .inr (7, G7 wa)), ((wa 3), .inl (E 0, 400, .inl wf3))])) (va_A [(xh, .inr (8, G8 xa xtrialRule xdropRule xtoday)), ((xa 1), .inl (E 0, 16, .inl xf1)), ((xa 3), .inl (E 3, 16, .inr (.inr (.inr (.inr xf3))))), (wh, .inr (7, G7 wa)), ((wa 3), .inl (E 0, 400, .inl wf3))] sz)) 0 0 (va_A [(xh, .inr (8, G8 xa xtrialRule xdropRule xtoday)), ((xa 1), .inl (E 0, 16, .inl xf1)), ((xa 3), .inl (E 3, 16, .inr (.inr (.inr (.inr xf3))))), (wh, .inr (7, G7 wa)), ((wa 3), .inl (E 0, 400, .inl wf3))] sz) := by
  refine Met.ofW (cc := cX8_take) (maxL := 3) (ret := (some .int)) (by decide) rfl ?_
  intro p e s m args below meth c s₁ B hml hv
  obtain ⟨rfl, hsz, hP, hK, hD0⟩ := hv
  have hx := B.exec; have hb := B.bytes; have hr := B.returns
  have hts := atoms_spec (ws := wl yX8_take cX8_take 3 (some .int)) B.pre
  have htb : ∀ w ∈ tb, w.before _ s = true := fun w h => hts w (List.mem_cons_of_mem _ h)
  have hown : s.vm.findClass RX8 = some m.cls := findClass_of_methodNamed B.named
  have hlocks := B.notSynchronized
  subst hsz
  have hD := hD0.self (sz := s.heap.size)
  generalize hAe : va_A [(xh, .inr (8, G8 xa xtrialRule xdropRule xtoday)), ((xa 1), .inl (E 0, 16, .inl xf1)), ((xa 3), .inl (E 3, 16, .inr (.inr (.inr (.inr xf3))))), (wh, .inr (7, G7 wa)), ((wa 3), .inl (E 0, 400, .inl wf3))] s.heap.size = A at hD ⊢
  have hA : ∀ q : Nat, s.heap.size ≤ q → A q := fun q h => by rw [← hAe]; exact Or.inr h
  have hS : va_S A s.heap s.heap [] := va_S.rf
  have hP : va_P D vwCl [(xh, .inr (8, G8 xa xtrialRule xdropRule xtoday)), ((xa 1), .inl (E 0, 16, .inl xf1)), ((xa 3), .inl (E 3, 16, .inr (.inr (.inr (.inr xf3))))), (wh, .inr (7, G7 wa)), ((wa 3), .inl (E 0, 400, .inl wf3))] s.heap := hP
  have hl := lv_entry ([.ref xh, .int p0]) (n := 3) (Nat.le_of_ble_eq_true rfl)
  rw [lg_entry_eq]
  generalize (lg_sl ([.ref xh, .int p0]) ++ List.replicate (3 - (lg_sl ([.ref xh, .int p0])).length) Slot.unset).toArray = ls at hl ⊢
  have hl : lv_has ls 3 [(0, .ref xh), (1, .int p0)] := hl
  have lo_p0 := i_lo p0; have hi_p0 := i_hi p0
  refine lv_iload_n hx hb dX8_take_0 rfl (lv_at hl 1 rfl) ?_
  refine callRS (rest := []) (As := [.int p0]) hx hb hml hown htb hK (g_X8_isPlace l D E p0 ) ok_X8_isPlace k_333 k_334 k_1 k_335 ⟨(Nat.le_of_ble_eq_true rfl), (Nat.le_of_ble_eq_true rfl)⟩ ⟨(Nat.le_of_ble_eq_true rfl), (Nat.le_of_ble_eq_true rfl)⟩ hl.1 (Nat.le_of_ble_eq_true rfl) rfl rfl dX8_take_1 (hP.sub (ws' := ([] : va_W)) [] rfl) (fun r_1 hw_2 => ?_)
  rcases hw_2 with ⟨hr_1, hw_2⟩ | ⟨hr_1, hw_2⟩
  ·
    refine W_top (y := .int 1) (by rw [hr_1]) ?_
    refine lv_if_ne (tgt := 9) hx hb dX8_take_4 (by decide) (fun c_4 => ?_) (fun c_4 => absurd c_4 (by decide))
    refine lv_aload_n hx hb dX8_take_9 rfl (lv_at hl 0 rfl) ?_
    refine va_get (D := D) (ci := 8) (v := .ref (xa 1)) (C := RX8) (T := TX8) (N := 14) hx hb htb iX8 hown hK.1 hP 0 rfl rfl 1 (by decide) (htb _ k_273) (fun _ h9 => h9) rfl dX8_take_10 ?_
    refine lv_iload_n hx hb dX8_take_13 rfl (lv_at hl 1 rfl) ?_
    refine va_iald hx hb hK.1 hP 1 0 rfl rfl (g_in rfl (by omega) (by omega)) dX8_take_14 ?_
    refine lv_topi (fun z_5 ez_5 => ?_)
    have kz_5 := congrArg Int32.toInt ez_5
    refine lv_bipush (v := (-5)) hx hb dX8_take_15 (by decide) ?_
    refine lv_icmp_ne (tgt := 23) hx hb dX8_take_17 (by decide) (fun c_6 => ?_) (fun c_6 => ?_)
    ·
      have ic_6 : z_5.toInt ≠ -5 := mt (g_eq rfl t_m5).mpr c_6
      clear c_6
      refine lv_aload_n hx hb dX8_take_23 rfl (lv_at hl 0 rfl) ?_
      refine lv_iload_n hx hb dX8_take_24 rfl (lv_at hl 1 rfl) ?_
      refine rr_call (runRV (rest := []) (As := [.int p0]) hx hb hml hown htb (g_X8_watchAt_W l D E xh xa xtrialRule xdropRule xtoday xf1 xf3 wh wa p0 (by (try dsimp only); omega) hk0 hw0) ok_X8_watchAt k_369 k_371 ks_1 k_1 k_372 ⟨(Nat.le_of_ble_eq_true rfl), (Nat.le_of_ble_eq_true rfl)⟩ ⟨(Nat.le_of_ble_eq_true rfl), (Nat.le_of_ble_eq_true rfl)⟩ hl.1 (Nat.le_of_ble_eq_true rfl) rfl rfl dX8_take_25 (prV (hP.sub (ws' := [(xh, .inr (8, G8 xa xtrialRule xdropRule xtoday)), ((xa 1), .inl (E 0, 16, .inl xf1)), ((xa 3), .inl (E 3, 16, .inr (.inr (.inr (.inr xf3))))), (wh, .inr (7, G7 wa))]) [0, 1, 2, 3] rfl) hK rfl rfl 0 rfl)) ?_
      refine lv_astore_n (lv' := [(2, .ref wh), (0, .ref xh), (1, .int p0)]) hx hb dX8_take_28 rfl hl (by decide) rfl (fun ls hl => ?_)
      refine lv_aload_n hx hb dX8_take_29 rfl (lv_at hl 0 rfl) ?_
      refine lv_ifnull hx hb dX8_take_30 ?_
      refine lv_aload_n hx hb dX8_take_33 rfl (lv_at hl 0 rfl) ?_
      refine lv_aload_n hx hb dX8_take_34 rfl (lv_at hl 1 rfl) ?_
      refine va_get (D := D) (ci := 8) (v := .int xtoday) (C := RX8) (T := TX8) (N := 14) hx hb htb iX8 hown hK.1 hP 0 rfl rfl 13 (by decide) (htb _ k_285) (fun _ h9 => h9) rfl dX8_take_35 ?_
      refine callRV (rest := []) (As := [.int xtoday]) hx hb hml hown htb hK (g_X7_holderOn l D E wh wa wf3 xtoday ) ok_X7_holderOn k_373 k_374 k_375 k_10 k_376 ⟨(Nat.le_of_ble_eq_true rfl), (Nat.le_of_ble_eq_true rfl)⟩ ⟨(Nat.le_of_ble_eq_true rfl), (Nat.le_of_ble_eq_true rfl)⟩ hl.1 (Nat.le_of_ble_eq_true rfl) rfl rfl dX8_take_38 (hP.sub (ws' := [(wh, .inr (7, G7 wa)), ((wa 3), .inl (E 0, 400, .inl wf3))]) [3, 4] rfl) rfl rfl 0 rfl (fun r_10 hw_11 => ?_)
      have hw_11R : r_10.toInt = (wf3 (xtoday).toNatClampNeg).toInt := by rcases hw_11 with h9 | h9 <;> first | exact congrArg Int32.toInt h9.2 | (exfalso; omega)
      refine lv_iconst (v := (-1)) hx hb dX8_take_41 (by decide) ?_
      refine lv_icmp_eq (tgt := 48) hx hb dX8_take_42 (by decide) (fun c_13 => ?_) (fun c_13 => ?_)
      ·
        have ic_13 : r_10.toInt = -1 := (g_eq rfl t_m1).mp c_13
        clear c_13
        refine lv_aload_n hx hb dX8_take_48 rfl (lv_at hl 1 rfl) ?_
        refine va_get (D := D) (ci := 8) (v := .ref (xa 1)) (C := RX8) (T := TX8) (N := 14) hx hb htb iX8 hown hK.1 hP 0 rfl rfl 1 (by decide) (htb _ k_273) (fun _ h9 => h9) rfl dX8_take_49 ?_
        refine lv_iload_n hx hb dX8_take_52 rfl (lv_at hl 2 rfl) ?_
        refine lv_bipush (v := (-5)) hx hb dX8_take_53 (by decide) ?_
        refine va_iast hx hb hK.1 hP hD hS 1 0 rfl rfl (g_in rfl (by omega) (by omega)) dX8_take_55 (fun H locs hP hD hS => ?_)
        have hP : va_P D vwCl [(xh, .inr (8, G8 xa xtrialRule xdropRule xtoday)), ((xa 1), .inl (E 0, 16, .inl (upd xf1 (p0 : Int32).toNatClampNeg (-5)))), ((xa 3), .inl (E 3, 16, .inr (.inr (.inr (.inr xf3))))), (wh, .inr (7, G7 wa)), ((wa 3), .inl (E 0, 400, .inl wf3))] H := hP
        have hD := toW hP hD rfl
        refine lv_iconst (v := 1) hx hb dX8_take_56 (by decide) ?_
        have hP9 := hP.sub (ws' := [(xh, .inr (8, G8 xa xtrialRule xdropRule xtoday)), ((xa 1), .inl (E 0, 16, .inl (upd xf1 (p0 : Int32).toNatClampNeg (-5)))), ((xa 3), .inl (E 3, 16, .inr (.inr (.inr (.inr xf3))))), (wh, .inr (7, G7 wa)), ((wa 3), .inl (E 0, 400, .inl wf3))]) [0, 1, 2, 3, 4] rfl
        have hD9 := hD.sub (ws' := [(xh, .inr (8, G8 xa xtrialRule xdropRule xtoday)), ((xa 1), .inl (E 0, 16, .inl (upd xf1 (p0 : Int32).toNatClampNeg (-5)))), ((xa 3), .inl (E 3, 16, .inr (.inr (.inr (.inr xf3))))), (wh, .inr (7, G7 wa)), ((wa 3), .inl (E 0, 400, .inl wf3))]) [0, 1, 2, 3, 4] (by decide) rfl
        exact W.iret (v := 1) hx hb hr (fun t ht hW => ⟨⟨1, (upd xf1 (p0 : Int32).toNatClampNeg (-5)), rfl, ⟨(KM_u (by decide)), (by have hl0 := t_1; (try dsimp only); first | exact Or.inr ⟨by omega, by omega, rfl⟩)⟩, by rw [ht]; exact hP9, hD9⟩, hS.F ht⟩) hS.2.2 dX8_take_57
      ·
        have ic_13 : r_10.toInt ≠ -1 := mt (g_eq rfl t_m1).mpr c_13
        clear c_13
        refine lv_bipush (v := (-4)) hx hb dX8_take_45 (by decide) ?_
        have hP9 := hP.sub (ws' := [(xh, .inr (8, G8 xa xtrialRule xdropRule xtoday)), ((xa 1), .inl (E 0, 16, .inl xf1)), ((xa 3), .inl (E 3, 16, .inr (.inr (.inr (.inr xf3))))), (wh, .inr (7, G7 wa)), ((wa 3), .inl (E 0, 400, .inl wf3))]) [0, 1, 2, 3, 4] rfl
        have hD9 := hD.sub (ws' := [(xh, .inr (8, G8 xa xtrialRule xdropRule xtoday)), ((xa 1), .inl (E 0, 16, .inl xf1)), ((xa 3), .inl (E 3, 16, .inr (.inr (.inr (.inr xf3))))), (wh, .inr (7, G7 wa)), ((wa 3), .inl (E 0, 400, .inl wf3))]) [0, 1, 2, 3, 4] (by decide) rfl
        exact W.iret (v := (-4)) hx hb hr (fun t ht hW => ⟨⟨(-4), xf1, rfl, ⟨KM_r, (by have hl0 := t_m4; (try dsimp only); first | exact Or.inl ⟨by omega, by omega, rfl⟩)⟩, by rw [ht]; exact hP9, hD9⟩, hS.F ht⟩) hS.2.2 dX8_take_47
    ·
      have ic_6 : z_5.toInt = -5 := (g_eq rfl t_m5).mp c_6
      clear c_6
      refine lv_bipush (v := (-2)) hx hb dX8_take_20 (by decide) ?_
      have hP9 := hP.sub (ws' := [(xh, .inr (8, G8 xa xtrialRule xdropRule xtoday)), ((xa 1), .inl (E 0, 16, .inl xf1)), ((xa 3), .inl (E 3, 16, .inr (.inr (.inr (.inr xf3))))), (wh, .inr (7, G7 wa)), ((wa 3), .inl (E 0, 400, .inl wf3))]) [0, 1, 2, 3, 4] rfl
      have hD9 := hD.sub (ws' := [(xh, .inr (8, G8 xa xtrialRule xdropRule xtoday)), ((xa 1), .inl (E 0, 16, .inl xf1)), ((xa 3), .inl (E 3, 16, .inr (.inr (.inr (.inr xf3))))), (wh, .inr (7, G7 wa)), ((wa 3), .inl (E 0, 400, .inl wf3))]) [0, 1, 2, 3, 4] (by decide) rfl
      exact W.iret (v := (-2)) hx hb hr (fun t ht hW => ⟨⟨(-2), xf1, rfl, ⟨KM_r, (by have hl0 := t_m2; (try dsimp only); first | exact Or.inl ⟨by omega, by omega, rfl⟩ | exact Or.inr ⟨by omega, by omega, rfl⟩)⟩, by rw [ht]; exact hP9, hD9⟩, hS.F ht⟩) hS.2.2 dX8_take_22
  ·
    refine W_top (y := .int 0) (by rw [hr_1]) ?_
    refine lv_if_ne (tgt := 9) hx hb dX8_take_4 (by decide) (fun c_14 => absurd (by decide) c_14) (fun c_14 => ?_)
    refine lv_iconst (v := (-1)) hx hb dX8_take_7 (by decide) ?_
    have hP9 := hP.sub (ws' := [(xh, .inr (8, G8 xa xtrialRule xdropRule xtoday)), ((xa 1), .inl (E 0, 16, .inl xf1)), ((xa 3), .inl (E 3, 16, .inr (.inr (.inr (.inr xf3))))), (wh, .inr (7, G7 wa)), ((wa 3), .inl (E 0, 400, .inl wf3))]) [0, 1, 2, 3, 4] rfl
    have hD9 := hD.sub (ws' := [(xh, .inr (8, G8 xa xtrialRule xdropRule xtoday)), ((xa 1), .inl (E 0, 16, .inl xf1)), ((xa 3), .inl (E 3, 16, .inr (.inr (.inr (.inr xf3))))), (wh, .inr (7, G7 wa)), ((wa 3), .inl (E 0, 400, .inl wf3))]) [0, 1, 2, 3, 4] (by decide) rfl
    exact W.iret (v := (-1)) hx hb hr (fun t ht hW => ⟨⟨(-1), xf1, rfl, ⟨KM_r, (by have hl0 := t_m1; (try dsimp only); first | exact Or.inl ⟨by omega, by omega, rfl⟩ | exact Or.inr ⟨by omega, by omega, rfl⟩)⟩, by rw [ht]; exact hP9, hD9⟩, hS.F ht⟩) hS.2.2 dX8_take_8
set_option maxHeartbeats 4000000 in
set_option maxRecDepth 100000 in
theorem g_X8_compare_N (l : Launch) (D : va_G) (E : Nat → Nat) (xh : Nat) (xa : Nat → Nat) (xtrialRule : Nat) (xdropRule : Nat) (xtoday : Int32) (xf1 : Nat → Int32) (xf3 : Nat → Option Nat) (p0 : Int32) (p1 : Int32) (p2 : Int32) (p3 : Int32) (hi_x : (0 ≤ xtoday.toInt ∧ xtoday.toInt ≤ 399)) (hn0 : ¬ (0 ≤ p0.toInt ∧ p0.toInt ≤ 15 ∧ ((xf1 (p0).toNatClampNeg).toInt = 0 ∨ (xf1 (p0).toNatClampNeg).toInt = 1))) : Met l yX8_compare (wl yX8_compare cX8_compare 6 (some .int)) (RM 2 0 0) (rd_P D E [.ref xh, .int p0, .int p1, .int p2, .int p3] [(xh, .inr (8, G8 xa xtrialRule xdropRule xtoday)), ((xa 1), .inl (E 0, 16, .inl xf1)), ((xa 3), .inl (E 3, 16, .inr (.inr (.inr (.inr xf3)))))]) (rd_Q (fun r => ((r.toInt = -1 ∧ ¬ ((0 ≤ p0.toInt ∧ p0.toInt ≤ 15) ∧ ((0 ≤ p1.toInt ∧ p1.toInt ≤ xtoday.toInt) ∧ (-100000 ≤ p2.toInt ∧ p2.toInt ≤ 100000) ∧ (0 ≤ p3.toInt ∧ p3.toInt ≤ 5)))) ∨ (((0 ≤ p0.toInt ∧ p0.toInt ≤ 15) ∧ ((0 ≤ p1.toInt ∧ p1.toInt ≤ xtoday.toInt) ∧ (-100000 ≤ p2.toInt ∧ p2.toInt ≤ 100000) ∧ (0 ≤ p3.toInt ∧ p3.toInt ≤ 5))) ∧ (((xf1 (p0).toNatClampNeg).toInt = -5 ∧ r.toInt = -2) ∨ ((xf1 (p0).toNatClampNeg).toInt ≠ -5 ∧ r.toInt = -3)))))) 0 0 (fun _ => False) := by
  refine Met.ofW (cc := cX8_compare) (maxL := 6) (ret := (some .int)) (by decide) rfl ?_
  intro p e s m args below meth c s₁ B hml hv
  obtain ⟨rfl, hP, hK⟩ := hv
  have hx := B.exec; have hb := B.bytes; have hr := B.returns
  have hts := atoms_spec (ws := wl yX8_compare cX8_compare 6 (some .int)) B.pre
  have htb : ∀ w ∈ tb, w.before _ s = true := fun w h => hts w (List.mem_cons_of_mem _ h)
  have hown : s.vm.findClass RX8 = some m.cls := findClass_of_methodNamed B.named
  have hlocks := B.notSynchronized
  have hP : va_P D vwCl [(xh, .inr (8, G8 xa xtrialRule xdropRule xtoday)), ((xa 1), .inl (E 0, 16, .inl xf1)), ((xa 3), .inl (E 3, 16, .inr (.inr (.inr (.inr xf3)))))] s.heap := hP
  have hl := lv_entry ([.ref xh, .int p0, .int p1, .int p2, .int p3]) (n := 6) (Nat.le_of_ble_eq_true rfl)
  rw [lg_entry_eq]
  generalize (lg_sl ([.ref xh, .int p0, .int p1, .int p2, .int p3]) ++ List.replicate (6 - (lg_sl ([.ref xh, .int p0, .int p1, .int p2, .int p3])).length) Slot.unset).toArray = ls at hl ⊢
  have hl : lv_has ls 6 [(0, .ref xh), (1, .int p0), (2, .int p1), (3, .int p2), (4, .int p3)] := hl
  have lo_p0 := i_lo p0; have hi_p0 := i_hi p0
  have lo_p1 := i_lo p1; have hi_p1 := i_hi p1
  have lo_p2 := i_lo p2; have hi_p2 := i_hi p2
  have lo_p3 := i_lo p3; have hi_p3 := i_hi p3
  refine lv_iload_n hx hb dX8_compare_0 rfl (lv_at hl 1 rfl) ?_
  refine callRS (rest := []) (As := [.int p0]) hx hb hml hown htb hK (g_X8_isPlace l D E p0 ) ok_X8_isPlace k_333 k_334 k_1 k_335 ⟨(Nat.le_of_ble_eq_true rfl), (Nat.le_of_ble_eq_true rfl)⟩ ⟨(Nat.le_of_ble_eq_true rfl), (Nat.le_of_ble_eq_true rfl)⟩ hl.1 (Nat.le_of_ble_eq_true rfl) rfl rfl dX8_compare_1 (hP.sub (ws' := ([] : va_W)) [] rfl) (fun r_1 hw_2 => ?_)
  rcases hw_2 with ⟨hr_1, hw_2⟩ | ⟨hr_1, hw_2⟩
  ·
    refine W_top (y := .int 1) (by rw [hr_1]) ?_
    refine lv_if_eq (tgt := 36) hx hb dX8_compare_4 (by decide) (fun c_4 => absurd c_4 (by decide)) (fun c_4 => ?_)
    refine lv_aload_n hx hb dX8_compare_7 rfl (lv_at hl 0 rfl) ?_
    refine lv_iload_n hx hb dX8_compare_8 rfl (lv_at hl 2 rfl) ?_
    refine callRV (rest := []) (As := [.int p1]) hx hb hml hown htb hK (g_X8_isPast l D E xh xa xtrialRule xdropRule xtoday p1 (by (try dsimp only); omega)) ok_X8_isPast k_391 k_393 ks_2 k_1 k_394 ⟨(Nat.le_of_ble_eq_true rfl), (Nat.le_of_ble_eq_true rfl)⟩ ⟨(Nat.le_of_ble_eq_true rfl), (Nat.le_of_ble_eq_true rfl)⟩ hl.1 (Nat.le_of_ble_eq_true rfl) rfl rfl dX8_compare_9 (hP.sub (ws' := [(xh, .inr (8, G8 xa xtrialRule xdropRule xtoday))]) [0] rfl) rfl rfl 0 rfl (fun r_5 hw_6 => ?_)
    rcases hw_6 with ⟨hr_5, hw_6⟩ | ⟨hr_5, hw_6⟩
    ·
      refine W_top (y := .int 1) (by rw [hr_5]) ?_
      refine lv_if_eq (tgt := 36) hx hb dX8_compare_12 (by decide) (fun c_8 => absurd c_8 (by decide)) (fun c_8 => ?_)
      refine lv_iload_n hx hb dX8_compare_15 rfl (lv_at hl 3 rfl) ?_
      refine lv_ldc hx hb hown (htb _ k_395) dX8_compare_16 ?_
      refine callRS (rest := []) (As := [.int p2, .int 100000]) hx hb hml hown htb hK (g_X8_isWithin l D E p2 100000 (by decide)) ok_X8_isWithin k_326 k_327 k_1 k_328 ⟨(Nat.le_of_ble_eq_true rfl), (Nat.le_of_ble_eq_true rfl)⟩ ⟨(Nat.le_of_ble_eq_true rfl), (Nat.le_of_ble_eq_true rfl)⟩ hl.1 (Nat.le_of_ble_eq_true rfl) rfl rfl dX8_compare_18 (hP.sub (ws' := ([] : va_W)) [] rfl) (fun r_9 hw_10 => ?_)
      try simp only [t_100000] at hw_10
      rcases hw_10 with ⟨hr_9, hw_10⟩ | ⟨hr_9, hw_10⟩
      ·
        try simp only [t_100000] at hw_10
        refine W_top (y := .int 1) (by rw [hr_9]) ?_
        refine lv_if_eq (tgt := 36) hx hb dX8_compare_21 (by decide) (fun c_12 => absurd c_12 (by decide)) (fun c_12 => ?_)
        refine lv_iload hx hb dX8_compare_24 (lv_at hl 4 rfl) ?_
        refine lv_if_lt (tgt := 36) hx hb dX8_compare_26 (by decide) (fun c_13 => ?_) (fun c_13 => ?_)
        ·
          have ic_13 : p3.toInt < 0 := by first | exact (g_lt rfl t_0).mp c_13 | (have h := mt (g_le t_0 rfl).mpr c_13; omega)
          clear c_13
          refine lv_iconst (v := (-1)) hx hb dX8_compare_36 (by decide) ?_
          exact W.iret (v := (-1)) hx hb hr (fun t ht hW => ⟨(-1), rfl, (by have hl0 := t_m1; (try dsimp only); first | exact Or.inl ⟨by omega, by omega⟩ | exact Or.inr ⟨by omega, by omega⟩), ht⟩) (fun q h => by cases h) dX8_compare_37
        ·
          have ic_13 : 0 ≤ p3.toInt := by first | exact (g_le t_0 rfl).mp c_13 | (have h := mt (g_lt rfl t_0).mpr c_13; omega)
          clear c_13
          refine lv_iload hx hb dX8_compare_29 (lv_at hl 4 rfl) ?_
          refine lv_bipush (v := 6) hx hb dX8_compare_31 (by decide) ?_
          refine lv_icmp_lt (tgt := 38) hx hb dX8_compare_33 (by decide) (fun c_14 => ?_) (fun c_14 => ?_)
          ·
            have ic_14 : p3.toInt < 6 := by first | exact (g_lt rfl t_6).mp c_14 | (have h := mt (g_le t_6 rfl).mpr c_14; omega)
            clear c_14
            refine lv_aload_n hx hb dX8_compare_38 rfl (lv_at hl 0 rfl) ?_
            refine lv_iload_n hx hb dX8_compare_39 rfl (lv_at hl 1 rfl) ?_
            refine rn_call (runRV (rest := []) (As := [.int p0]) hx hb hml hown htb (g_X8_watchAt_N l D E xh xa xtrialRule xdropRule xtoday xf1 xf3 p0 (by (try dsimp only); omega) hn0) ok_X8_watchAt k_369 k_371 ks_1 k_1 k_372 ⟨(Nat.le_of_ble_eq_true rfl), (Nat.le_of_ble_eq_true rfl)⟩ ⟨(Nat.le_of_ble_eq_true rfl), (Nat.le_of_ble_eq_true rfl)⟩ hl.1 (Nat.le_of_ble_eq_true rfl) rfl rfl dX8_compare_40 (prV (hP.sub (ws' := [(xh, .inr (8, G8 xa xtrialRule xdropRule xtoday)), ((xa 1), .inl (E 0, 16, .inl xf1)), ((xa 3), .inl (E 3, 16, .inr (.inr (.inr (.inr xf3)))))]) [0, 1, 2] rfl) hK rfl rfl 0 rfl)) ?_
            refine lv_astoreN (lv' := [(5, .null), (0, .ref xh), (1, .int p0), (2, .int p1), (3, .int p2), (4, .int p3)]) hx hb dX8_compare_43 hl (by decide) rfl (fun ls hl => ?_)
            refine lv_aloadN hx hb dX8_compare_45 (lv_at hl 0 rfl) ?_
            refine lv_ifnonnullN hx hb dX8_compare_47 ?_
            refine lv_aload_n hx hb dX8_compare_50 rfl (lv_at hl 1 rfl) ?_
            refine lv_iload_n hx hb dX8_compare_51 rfl (lv_at hl 2 rfl) ?_
            refine callRV (rest := []) (As := [.int p0]) hx hb hml hown htb hK (g_X8_lackAt l D E xh xa xtrialRule xdropRule xtoday xf1 p0 (by (try dsimp only); omega)) ok_X8_lackAt k_396 k_398 ks_3 k_1 k_399 ⟨(Nat.le_of_ble_eq_true rfl), (Nat.le_of_ble_eq_true rfl)⟩ ⟨(Nat.le_of_ble_eq_true rfl), (Nat.le_of_ble_eq_true rfl)⟩ hl.1 (Nat.le_of_ble_eq_true rfl) rfl rfl dX8_compare_52 (hP.sub (ws' := [(xh, .inr (8, G8 xa xtrialRule xdropRule xtoday)), ((xa 1), .inl (E 0, 16, .inl xf1))]) [0, 1] rfl) rfl rfl 0 rfl (fun r_18 hw_19 => ?_)
            exact W.iret (v := r_18) hx hb hr (fun t ht hW => ⟨r_18, rfl, (by (try dsimp only); first | exact Or.inr ⟨by omega, by omega⟩ | exact Or.inl ⟨by omega, by omega⟩), ht⟩) (fun q h => by cases h) dX8_compare_55
          ·
            have ic_14 : 6 ≤ p3.toInt := by first | exact (g_le t_6 rfl).mp c_14 | (have h := mt (g_lt rfl t_6).mpr c_14; omega)
            clear c_14
            refine lv_iconst (v := (-1)) hx hb dX8_compare_36 (by decide) ?_
            exact W.iret (v := (-1)) hx hb hr (fun t ht hW => ⟨(-1), rfl, (by have hl0 := t_m1; (try dsimp only); first | exact Or.inl ⟨by omega, by omega⟩ | exact Or.inr ⟨by omega, by omega⟩), ht⟩) (fun q h => by cases h) dX8_compare_37
      ·
        try simp only [t_100000] at hw_10
        refine W_top (y := .int 0) (by rw [hr_9]) ?_
        refine lv_if_eq (tgt := 36) hx hb dX8_compare_21 (by decide) (fun c_21 => ?_) (fun c_21 => absurd (by decide) c_21)
        refine lv_iconst (v := (-1)) hx hb dX8_compare_36 (by decide) ?_
        exact W.iret (v := (-1)) hx hb hr (fun t ht hW => ⟨(-1), rfl, (by have hl0 := t_m1; (try dsimp only); first | exact Or.inl ⟨by omega, by omega⟩ | exact Or.inr ⟨by omega, by omega⟩), ht⟩) (fun q h => by cases h) dX8_compare_37
    ·
      refine W_top (y := .int 0) (by rw [hr_5]) ?_
      refine lv_if_eq (tgt := 36) hx hb dX8_compare_12 (by decide) (fun c_22 => ?_) (fun c_22 => absurd (by decide) c_22)
      refine lv_iconst (v := (-1)) hx hb dX8_compare_36 (by decide) ?_
      exact W.iret (v := (-1)) hx hb hr (fun t ht hW => ⟨(-1), rfl, (by have hl0 := t_m1; (try dsimp only); first | exact Or.inl ⟨by omega, by omega⟩ | exact Or.inr ⟨by omega, by omega⟩), ht⟩) (fun q h => by cases h) dX8_compare_37
  ·
    refine W_top (y := .int 0) (by rw [hr_1]) ?_
    refine lv_if_eq (tgt := 36) hx hb dX8_compare_4 (by decide) (fun c_23 => ?_) (fun c_23 => absurd (by decide) c_23)
    refine lv_iconst (v := (-1)) hx hb dX8_compare_36 (by decide) ?_
    exact W.iret (v := (-1)) hx hb hr (fun t ht hW => ⟨(-1), rfl, (by have hl0 := t_m1; (try dsimp only); first | exact Or.inl ⟨by omega, by omega⟩ | exact Or.inr ⟨by omega, by omega⟩), ht⟩) (fun q h => by cases h) dX8_compare_37
set_option maxHeartbeats 4000000 in
set_option maxRecDepth 100000 in
theorem g_X8_compare_W (l : Launch) (D : va_G) (E : Nat → Nat) (xh : Nat) (xa : Nat → Nat) (xtrialRule : Nat) (xdropRule : Nat) (xtoday : Int32) (xf1 : Nat → Int32) (xf3 : Nat → Option Nat) (wh : Nat) (wa : Nat → Nat) (wf0 : Nat → Int32) (wf1 : Nat → Int32) (wf3 : Nat → Int32) (p0 : Int32) (p1 : Int32) (p2 : Int32) (p3 : Int32) (sz : Nat) (hi_x : (0 ≤ xtoday.toInt ∧ xtoday.toInt ≤ 399)) (hk0 : (0 ≤ p0.toInt ∧ p0.toInt ≤ 15 ∧ ((xf1 (p0).toNatClampNeg).toInt = 0 ∨ (xf1 (p0).toNatClampNeg).toInt = 1))) (hw0 : xf3 (p0).toNatClampNeg = some wh) : Met l yX8_compare (wl yX8_compare cX8_compare 6 (some .int)) (RM 2 0 0) (mu_P D E [.ref xh, .int p0, .int p1, .int p2, .int p3] [(xh, .inr (8, G8 xa xtrialRule xdropRule xtoday)), ((xa 1), .inl (E 0, 16, .inl xf1)), ((xa 3), .inl (E 3, 16, .inr (.inr (.inr (.inr xf3))))), (wh, .inr (7, G7 wa)), ((wa 0), .inl (E 0, 400, .inl wf0)), ((wa 1), .inl (E 0, 400, .inl wf1)), ((wa 3), .inl (E 0, 400, .inl wf3))] sz) (va_Qi (fun (r : Int32) (u : (Nat → Int32) × (Nat → Int32)) => ((¬ ((0 ≤ p1.toInt ∧ p1.toInt ≤ xtoday.toInt) ∧ (-100000 ≤ p2.toInt ∧ p2.toInt ≤ 100000) ∧ (0 ≤ p3.toInt ∧ p3.toInt ≤ 5)) ∧ r.toInt = -1 ∧ u.1 = wf0 ∧ u.2 = wf1) ∨ (((0 ≤ p1.toInt ∧ p1.toInt ≤ xtoday.toInt) ∧ (-100000 ≤ p2.toInt ∧ p2.toInt ≤ 100000) ∧ (0 ≤ p3.toInt ∧ p3.toInt ≤ 5)) ∧ ((wf1 (p1).toNatClampNeg).toInt ≠ -1 ∨ (wf3 (p1).toNatClampNeg).toInt ≠ -1) ∧ r.toInt = -4 ∧ u.1 = wf0 ∧ u.2 = wf1) ∨ (((0 ≤ p1.toInt ∧ p1.toInt ≤ xtoday.toInt) ∧ (-100000 ≤ p2.toInt ∧ p2.toInt ≤ 100000) ∧ (0 ≤ p3.toInt ∧ p3.toInt ≤ 5)) ∧ ¬ ((wf1 (p1).toNatClampNeg).toInt ≠ -1 ∨ (wf3 (p1).toNatClampNeg).toInt ≠ -1) ∧ r.toInt = 1 ∧ u.1 = upd wf0 (p1).toNatClampNeg p2 ∧ u.2 = upd wf1 (p1).toNatClampNeg p3))) (mu_B D (va_A [(xh, .inr (8, G8 xa xtrialRule xdropRule xtoday)), ((xa 1), .inl (E 0, 16, .inl xf1)), ((xa 3), .inl (E 3, 16, .inr (.inr (.inr (.inr xf3))))), (wh, .inr (7, G7 wa)), ((wa 0), .inl (E 0, 400, .inl wf0)), ((wa 1), .inl (E 0, 400, .inl wf1)), ((wa 3), .inl (E 0, 400, .inl wf3))] sz) (fun (u : (Nat → Int32) × (Nat → Int32)) => [(xh, .inr (8, G8 xa xtrialRule xdropRule xtoday)), ((xa 1), .inl (E 0, 16, .inl xf1)), ((xa 3), .inl (E 3, 16, .inr (.inr (.inr (.inr xf3))))), (wh, .inr (7, G7 wa)), ((wa 0), .inl (E 0, 400, .inl u.1)), ((wa 1), .inl (E 0, 400, .inl u.2)), ((wa 3), .inl (E 0, 400, .inl wf3))])) (va_A [(xh, .inr (8, G8 xa xtrialRule xdropRule xtoday)), ((xa 1), .inl (E 0, 16, .inl xf1)), ((xa 3), .inl (E 3, 16, .inr (.inr (.inr (.inr xf3))))), (wh, .inr (7, G7 wa)), ((wa 0), .inl (E 0, 400, .inl wf0)), ((wa 1), .inl (E 0, 400, .inl wf1)), ((wa 3), .inl (E 0, 400, .inl wf3))] sz)) 0 0 (va_A [(xh, .inr (8, G8 xa xtrialRule xdropRule xtoday)), ((xa 1), .inl (E 0, 16, .inl xf1)), ((xa 3), .inl (E 3, 16, .inr (.inr (.inr (.inr xf3))))), (wh, .inr (7, G7 wa)), ((wa 0), .inl (E 0, 400, .inl wf0)), ((wa 1), .inl (E 0, 400, .inl wf1)), ((wa 3), .inl (E 0, 400, .inl wf3))] sz) := by
  refine Met.ofW (cc := cX8_compare) (maxL := 6) (ret := (some .int)) (by decide) rfl ?_
  intro p e s m args below meth c s₁ B hml hv
  obtain ⟨rfl, hsz, hP, hK, hD0⟩ := hv
  have hx := B.exec; have hb := B.bytes; have hr := B.returns
  have hts := atoms_spec (ws := wl yX8_compare cX8_compare 6 (some .int)) B.pre
  have htb : ∀ w ∈ tb, w.before _ s = true := fun w h => hts w (List.mem_cons_of_mem _ h)
  have hown : s.vm.findClass RX8 = some m.cls := findClass_of_methodNamed B.named
  have hlocks := B.notSynchronized
  subst hsz
  have hD := hD0.self (sz := s.heap.size)
  generalize hAe : va_A [(xh, .inr (8, G8 xa xtrialRule xdropRule xtoday)), ((xa 1), .inl (E 0, 16, .inl xf1)), ((xa 3), .inl (E 3, 16, .inr (.inr (.inr (.inr xf3))))), (wh, .inr (7, G7 wa)), ((wa 0), .inl (E 0, 400, .inl wf0)), ((wa 1), .inl (E 0, 400, .inl wf1)), ((wa 3), .inl (E 0, 400, .inl wf3))] s.heap.size = A at hD ⊢
  have hA : ∀ q : Nat, s.heap.size ≤ q → A q := fun q h => by rw [← hAe]; exact Or.inr h
  have hS : va_S A s.heap s.heap [] := va_S.rf
  have hP : va_P D vwCl [(xh, .inr (8, G8 xa xtrialRule xdropRule xtoday)), ((xa 1), .inl (E 0, 16, .inl xf1)), ((xa 3), .inl (E 3, 16, .inr (.inr (.inr (.inr xf3))))), (wh, .inr (7, G7 wa)), ((wa 0), .inl (E 0, 400, .inl wf0)), ((wa 1), .inl (E 0, 400, .inl wf1)), ((wa 3), .inl (E 0, 400, .inl wf3))] s.heap := hP
  have hl := lv_entry ([.ref xh, .int p0, .int p1, .int p2, .int p3]) (n := 6) (Nat.le_of_ble_eq_true rfl)
  rw [lg_entry_eq]
  generalize (lg_sl ([.ref xh, .int p0, .int p1, .int p2, .int p3]) ++ List.replicate (6 - (lg_sl ([.ref xh, .int p0, .int p1, .int p2, .int p3])).length) Slot.unset).toArray = ls at hl ⊢
  have hl : lv_has ls 6 [(0, .ref xh), (1, .int p0), (2, .int p1), (3, .int p2), (4, .int p3)] := hl
  have lo_p0 := i_lo p0; have hi_p0 := i_hi p0
  have lo_p1 := i_lo p1; have hi_p1 := i_hi p1
  have lo_p2 := i_lo p2; have hi_p2 := i_hi p2
  have lo_p3 := i_lo p3; have hi_p3 := i_hi p3
  refine lv_iload_n hx hb dX8_compare_0 rfl (lv_at hl 1 rfl) ?_
  refine callRS (rest := []) (As := [.int p0]) hx hb hml hown htb hK (g_X8_isPlace l D E p0 ) ok_X8_isPlace k_333 k_334 k_1 k_335 ⟨(Nat.le_of_ble_eq_true rfl), (Nat.le_of_ble_eq_true rfl)⟩ ⟨(Nat.le_of_ble_eq_true rfl), (Nat.le_of_ble_eq_true rfl)⟩ hl.1 (Nat.le_of_ble_eq_true rfl) rfl rfl dX8_compare_1 (hP.sub (ws' := ([] : va_W)) [] rfl) (fun r_1 hw_2 => ?_)
  rcases hw_2 with ⟨hr_1, hw_2⟩ | ⟨hr_1, hw_2⟩
  ·
    refine W_top (y := .int 1) (by rw [hr_1]) ?_
    refine lv_if_eq (tgt := 36) hx hb dX8_compare_4 (by decide) (fun c_4 => absurd c_4 (by decide)) (fun c_4 => ?_)
    refine lv_aload_n hx hb dX8_compare_7 rfl (lv_at hl 0 rfl) ?_
    refine lv_iload_n hx hb dX8_compare_8 rfl (lv_at hl 2 rfl) ?_
    refine callRV (rest := []) (As := [.int p1]) hx hb hml hown htb hK (g_X8_isPast l D E xh xa xtrialRule xdropRule xtoday p1 (by (try dsimp only); omega)) ok_X8_isPast k_391 k_393 ks_2 k_1 k_394 ⟨(Nat.le_of_ble_eq_true rfl), (Nat.le_of_ble_eq_true rfl)⟩ ⟨(Nat.le_of_ble_eq_true rfl), (Nat.le_of_ble_eq_true rfl)⟩ hl.1 (Nat.le_of_ble_eq_true rfl) rfl rfl dX8_compare_9 (hP.sub (ws' := [(xh, .inr (8, G8 xa xtrialRule xdropRule xtoday))]) [0] rfl) rfl rfl 0 rfl (fun r_5 hw_6 => ?_)
    rcases hw_6 with ⟨hr_5, hw_6⟩ | ⟨hr_5, hw_6⟩
    ·
      refine W_top (y := .int 1) (by rw [hr_5]) ?_
      refine lv_if_eq (tgt := 36) hx hb dX8_compare_12 (by decide) (fun c_8 => absurd c_8 (by decide)) (fun c_8 => ?_)
      refine lv_iload_n hx hb dX8_compare_15 rfl (lv_at hl 3 rfl) ?_
      refine lv_ldc hx hb hown (htb _ k_395) dX8_compare_16 ?_
      refine callRS (rest := []) (As := [.int p2, .int 100000]) hx hb hml hown htb hK (g_X8_isWithin l D E p2 100000 (by decide)) ok_X8_isWithin k_326 k_327 k_1 k_328 ⟨(Nat.le_of_ble_eq_true rfl), (Nat.le_of_ble_eq_true rfl)⟩ ⟨(Nat.le_of_ble_eq_true rfl), (Nat.le_of_ble_eq_true rfl)⟩ hl.1 (Nat.le_of_ble_eq_true rfl) rfl rfl dX8_compare_18 (hP.sub (ws' := ([] : va_W)) [] rfl) (fun r_9 hw_10 => ?_)
      try simp only [t_100000] at hw_10
      rcases hw_10 with ⟨hr_9, hw_10⟩ | ⟨hr_9, hw_10⟩
      ·
        try simp only [t_100000] at hw_10
        refine W_top (y := .int 1) (by rw [hr_9]) ?_
        refine lv_if_eq (tgt := 36) hx hb dX8_compare_21 (by decide) (fun c_12 => absurd c_12 (by decide)) (fun c_12 => ?_)
        refine lv_iload hx hb dX8_compare_24 (lv_at hl 4 rfl) ?_
        refine lv_if_lt (tgt := 36) hx hb dX8_compare_26 (by decide) (fun c_13 => ?_) (fun c_13 => ?_)
        ·
          have ic_13 : p3.toInt < 0 := by first | exact (g_lt rfl t_0).mp c_13 | (have h := mt (g_le t_0 rfl).mpr c_13; omega)
          clear c_13
          refine lv_iconst (v := (-1)) hx hb dX8_compare_36 (by decide) ?_
          have hP9 := hP.sub (ws' := [(xh, .inr (8, G8 xa xtrialRule xdropRule xtoday)), ((xa 1), .inl (E 0, 16, .inl xf1)), ((xa 3), .inl (E 3, 16, .inr (.inr (.inr (.inr xf3))))), (wh, .inr (7, G7 wa)), ((wa 0), .inl (E 0, 400, .inl wf0)), ((wa 1), .inl (E 0, 400, .inl wf1)), ((wa 3), .inl (E 0, 400, .inl wf3))]) [0, 1, 2, 3, 4, 5, 6] rfl
          have hD9 := hD.sub (ws' := [(xh, .inr (8, G8 xa xtrialRule xdropRule xtoday)), ((xa 1), .inl (E 0, 16, .inl xf1)), ((xa 3), .inl (E 3, 16, .inr (.inr (.inr (.inr xf3))))), (wh, .inr (7, G7 wa)), ((wa 0), .inl (E 0, 400, .inl wf0)), ((wa 1), .inl (E 0, 400, .inl wf1)), ((wa 3), .inl (E 0, 400, .inl wf3))]) [0, 1, 2, 3, 4, 5, 6] (by decide) rfl
          exact W.iret (v := (-1)) hx hb hr (fun t ht hW => ⟨⟨(-1), (wf0, wf1), rfl, (by have hl0 := t_m1; (try dsimp only); first | exact Or.inl ⟨by omega, by omega, rfl, rfl⟩), by rw [ht]; exact hP9, hD9⟩, hS.F ht⟩) hS.2.2 dX8_compare_37
        ·
          have ic_13 : 0 ≤ p3.toInt := by first | exact (g_le t_0 rfl).mp c_13 | (have h := mt (g_lt rfl t_0).mpr c_13; omega)
          clear c_13
          refine lv_iload hx hb dX8_compare_29 (lv_at hl 4 rfl) ?_
          refine lv_bipush (v := 6) hx hb dX8_compare_31 (by decide) ?_
          refine lv_icmp_lt (tgt := 38) hx hb dX8_compare_33 (by decide) (fun c_14 => ?_) (fun c_14 => ?_)
          ·
            have ic_14 : p3.toInt < 6 := by first | exact (g_lt rfl t_6).mp c_14 | (have h := mt (g_le t_6 rfl).mpr c_14; omega)
            clear c_14
            refine lv_aload_n hx hb dX8_compare_38 rfl (lv_at hl 0 rfl) ?_
            refine lv_iload_n hx hb dX8_compare_39 rfl (lv_at hl 1 rfl) ?_
            refine rr_call (runRV (rest := []) (As := [.int p0]) hx hb hml hown htb (g_X8_watchAt_W l D E xh xa xtrialRule xdropRule xtoday xf1 xf3 wh wa p0 (by (try dsimp only); omega) hk0 hw0) ok_X8_watchAt k_369 k_371 ks_1 k_1 k_372 ⟨(Nat.le_of_ble_eq_true rfl), (Nat.le_of_ble_eq_true rfl)⟩ ⟨(Nat.le_of_ble_eq_true rfl), (Nat.le_of_ble_eq_true rfl)⟩ hl.1 (Nat.le_of_ble_eq_true rfl) rfl rfl dX8_compare_40 (prV (hP.sub (ws' := [(xh, .inr (8, G8 xa xtrialRule xdropRule xtoday)), ((xa 1), .inl (E 0, 16, .inl xf1)), ((xa 3), .inl (E 3, 16, .inr (.inr (.inr (.inr xf3))))), (wh, .inr (7, G7 wa))]) [0, 1, 2, 3] rfl) hK rfl rfl 0 rfl)) ?_
            refine lv_astore (lv' := [(5, .ref wh), (0, .ref xh), (1, .int p0), (2, .int p1), (3, .int p2), (4, .int p3)]) hx hb dX8_compare_43 hl (by decide) rfl (fun ls hl => ?_)
            refine lv_aload hx hb dX8_compare_45 (lv_at hl 0 rfl) ?_
            refine lv_ifnonnull (tgt := 56) hx hb dX8_compare_47 (by decide) ?_
            refine lv_aload hx hb dX8_compare_56 (lv_at hl 0 rfl) ?_
            refine lv_iload_n hx hb dX8_compare_58 rfl (lv_at hl 3 rfl) ?_
            refine callRV (rest := []) (As := [.int p1]) hx hb hml hown htb hK (g_X7_isCompared l D E wh wa wf1 p1 ) ok_X7_isCompared k_400 k_401 k_402 k_10 k_403 ⟨(Nat.le_of_ble_eq_true rfl), (Nat.le_of_ble_eq_true rfl)⟩ ⟨(Nat.le_of_ble_eq_true rfl), (Nat.le_of_ble_eq_true rfl)⟩ hl.1 (Nat.le_of_ble_eq_true rfl) rfl rfl dX8_compare_59 (hP.sub (ws' := [(wh, .inr (7, G7 wa)), ((wa 1), .inl (E 0, 400, .inl wf1))]) [3, 5] rfl) rfl rfl 0 rfl (fun r_18 hw_19 => ?_)
            refine lv_if_ne (tgt := 75) hx hb dX8_compare_62 (by decide) (fun c_21 => ?_) (fun c_21 => ?_)
            ·
              have ic_21 : r_18.toInt ≠ 0 := mt (g_eq rfl t_0).mpr c_21
              clear c_21
              refine lv_bipush (v := (-4)) hx hb dX8_compare_75 (by decide) ?_
              have hP9 := hP.sub (ws' := [(xh, .inr (8, G8 xa xtrialRule xdropRule xtoday)), ((xa 1), .inl (E 0, 16, .inl xf1)), ((xa 3), .inl (E 3, 16, .inr (.inr (.inr (.inr xf3))))), (wh, .inr (7, G7 wa)), ((wa 0), .inl (E 0, 400, .inl wf0)), ((wa 1), .inl (E 0, 400, .inl wf1)), ((wa 3), .inl (E 0, 400, .inl wf3))]) [0, 1, 2, 3, 4, 5, 6] rfl
              have hD9 := hD.sub (ws' := [(xh, .inr (8, G8 xa xtrialRule xdropRule xtoday)), ((xa 1), .inl (E 0, 16, .inl xf1)), ((xa 3), .inl (E 3, 16, .inr (.inr (.inr (.inr xf3))))), (wh, .inr (7, G7 wa)), ((wa 0), .inl (E 0, 400, .inl wf0)), ((wa 1), .inl (E 0, 400, .inl wf1)), ((wa 3), .inl (E 0, 400, .inl wf3))]) [0, 1, 2, 3, 4, 5, 6] (by decide) rfl
              exact W.iret (v := (-4)) hx hb hr (fun t ht hW => ⟨⟨(-4), (wf0, wf1), rfl, (by have hl0 := t_m4; (try dsimp only); first | exact Or.inr (Or.inl ⟨by omega, by omega, by omega, rfl, rfl⟩)), by rw [ht]; exact hP9, hD9⟩, hS.F ht⟩) hS.2.2 dX8_compare_77
            ·
              have ic_21 : r_18.toInt = 0 := (g_eq rfl t_0).mp c_21
              clear c_21
              refine lv_aload hx hb dX8_compare_65 (lv_at hl 0 rfl) ?_
              refine lv_iload_n hx hb dX8_compare_67 rfl (lv_at hl 3 rfl) ?_
              refine callRV (rest := []) (As := [.int p1]) hx hb hml hown htb hK (g_X7_holderOn l D E wh wa wf3 p1 ) ok_X7_holderOn k_373 k_374 k_375 k_10 k_376 ⟨(Nat.le_of_ble_eq_true rfl), (Nat.le_of_ble_eq_true rfl)⟩ ⟨(Nat.le_of_ble_eq_true rfl), (Nat.le_of_ble_eq_true rfl)⟩ hl.1 (Nat.le_of_ble_eq_true rfl) rfl rfl dX8_compare_68 (hP.sub (ws' := [(wh, .inr (7, G7 wa)), ((wa 3), .inl (E 0, 400, .inl wf3))]) [3, 6] rfl) rfl rfl 0 rfl (fun r_22 hw_23 => ?_)
              have hw_23R : r_22.toInt = (wf3 (p1).toNatClampNeg).toInt := by rcases hw_23 with h9 | h9 <;> first | exact congrArg Int32.toInt h9.2 | (exfalso; omega)
              refine lv_iconst (v := (-1)) hx hb dX8_compare_71 (by decide) ?_
              refine lv_icmp_eq (tgt := 78) hx hb dX8_compare_72 (by decide) (fun c_25 => ?_) (fun c_25 => ?_)
              ·
                have ic_25 : r_22.toInt = -1 := (g_eq rfl t_m1).mp c_25
                clear c_25
                refine lv_aload hx hb dX8_compare_78 (lv_at hl 0 rfl) ?_
                refine lv_iload_n hx hb dX8_compare_80 rfl (lv_at hl 3 rfl) ?_
                refine lv_iload_n hx hb dX8_compare_81 rfl (lv_at hl 4 rfl) ?_
                refine lv_iload hx hb dX8_compare_82 (lv_at hl 5 rfl) ?_
                have hPc := hP.sub (ws' := [(wh, .inr (7, G7 wa)), ((wa 0), .inl (E 0, 400, .inl wf0)), ((wa 1), .inl (E 0, 400, .inl wf1))]) [3, 4, 5] rfl
                have hDc := hD.sub (ws' := [(wh, .inr (7, G7 wa)), ((wa 0), .inl (E 0, 400, .inl wf0)), ((wa 1), .inl (E 0, 400, .inl wf1))]) [3, 4, 5] (by decide) rfl
                refine aft_v (runMV (rest := []) (As := [.int p1, .int p2, .int p3]) hx hb hml hown htb hK (g_X7_tell l D E wh wa wf0 wf1 p1 p2 p3 _ ) ok_X7_tell k_404 k_405 k_406 k_10 k_407 ⟨(Nat.le_of_ble_eq_true rfl), (Nat.le_of_ble_eq_true rfl)⟩ ⟨(Nat.le_of_ble_eq_true rfl), (Nat.le_of_ble_eq_true rfl)⟩ hl.1 (Nat.le_of_ble_eq_true rfl) rfl rfl dX8_compare_84 hPc hDc rfl rfl 0 rfl) hP hD hS hA [3, 4, 5] [0, 1, 2, 6] (wr := [(xh, .inr (8, G8 xa xtrialRule xdropRule xtoday)), ((xa 1), .inl (E 0, 16, .inl xf1)), ((xa 3), .inl (E 3, 16, .inr (.inr (.inr (.inr xf3))))), ((wa 3), .inl (E 0, 400, .inl wf3))]) rfl rfl (by decide) (by decide) (fun u_28 H locs hw_27 hP hD hS => ?_)
                clear hPc hDc
                obtain ⟨w_29, w_30⟩ := u_28
                try dsimp only at hw_27
                have hP : va_P D vwCl [(xh, .inr (8, G8 xa xtrialRule xdropRule xtoday)), ((xa 1), .inl (E 0, 16, .inl xf1)), ((xa 3), .inl (E 3, 16, .inr (.inr (.inr (.inr xf3))))), ((wa 3), .inl (E 0, 400, .inl wf3)), (wh, .inr (7, G7 wa)), ((wa 0), .inl (E 0, 400, .inl w_29)), ((wa 1), .inl (E 0, 400, .inl w_30))] H := hP
                have hD := toW hP hD rfl
                have hw_27A : w_29 = upd wf0 (p1).toNatClampNeg p2 := by rcases hw_27 with h9 | h9 <;> first | exact h9.2.1 | (exfalso; omega)
                have hw_27B : w_30 = upd wf1 (p1).toNatClampNeg p3 := by rcases hw_27 with h9 | h9 <;> first | exact h9.2.2 | (exfalso; omega)
                refine lv_iconst (v := 1) hx hb dX8_compare_87 (by decide) ?_
                have hP9 := hP.sub (ws' := [(xh, .inr (8, G8 xa xtrialRule xdropRule xtoday)), ((xa 1), .inl (E 0, 16, .inl xf1)), ((xa 3), .inl (E 3, 16, .inr (.inr (.inr (.inr xf3))))), (wh, .inr (7, G7 wa)), ((wa 0), .inl (E 0, 400, .inl w_29)), ((wa 1), .inl (E 0, 400, .inl w_30)), ((wa 3), .inl (E 0, 400, .inl wf3))]) [0, 1, 2, 4, 5, 6, 3] rfl
                have hD9 := hD.sub (ws' := [(xh, .inr (8, G8 xa xtrialRule xdropRule xtoday)), ((xa 1), .inl (E 0, 16, .inl xf1)), ((xa 3), .inl (E 3, 16, .inr (.inr (.inr (.inr xf3))))), (wh, .inr (7, G7 wa)), ((wa 0), .inl (E 0, 400, .inl w_29)), ((wa 1), .inl (E 0, 400, .inl w_30)), ((wa 3), .inl (E 0, 400, .inl wf3))]) [0, 1, 2, 4, 5, 6, 3] (by decide) rfl
                exact W.iret (v := 1) hx hb hr (fun t ht hW => ⟨⟨1, (w_29, w_30), rfl, (by have hl0 := t_1; (try dsimp only); first | exact Or.inr (Or.inr ⟨by omega, by omega, by omega, by assumption, by assumption⟩)), by rw [ht]; exact hP9, hD9⟩, hS.F ht⟩) hS.2.2 dX8_compare_88
              ·
                have ic_25 : r_22.toInt ≠ -1 := mt (g_eq rfl t_m1).mpr c_25
                clear c_25
                refine lv_bipush (v := (-4)) hx hb dX8_compare_75 (by decide) ?_
                have hP9 := hP.sub (ws' := [(xh, .inr (8, G8 xa xtrialRule xdropRule xtoday)), ((xa 1), .inl (E 0, 16, .inl xf1)), ((xa 3), .inl (E 3, 16, .inr (.inr (.inr (.inr xf3))))), (wh, .inr (7, G7 wa)), ((wa 0), .inl (E 0, 400, .inl wf0)), ((wa 1), .inl (E 0, 400, .inl wf1)), ((wa 3), .inl (E 0, 400, .inl wf3))]) [0, 1, 2, 3, 4, 5, 6] rfl
                have hD9 := hD.sub (ws' := [(xh, .inr (8, G8 xa xtrialRule xdropRule xtoday)), ((xa 1), .inl (E 0, 16, .inl xf1)), ((xa 3), .inl (E 3, 16, .inr (.inr (.inr (.inr xf3))))), (wh, .inr (7, G7 wa)), ((wa 0), .inl (E 0, 400, .inl wf0)), ((wa 1), .inl (E 0, 400, .inl wf1)), ((wa 3), .inl (E 0, 400, .inl wf3))]) [0, 1, 2, 3, 4, 5, 6] (by decide) rfl
                exact W.iret (v := (-4)) hx hb hr (fun t ht hW => ⟨⟨(-4), (wf0, wf1), rfl, (by have hl0 := t_m4; (try dsimp only); first | exact Or.inr (Or.inl ⟨by omega, by omega, by omega, rfl, rfl⟩)), by rw [ht]; exact hP9, hD9⟩, hS.F ht⟩) hS.2.2 dX8_compare_77
          ·
            have ic_14 : 6 ≤ p3.toInt := by first | exact (g_le t_6 rfl).mp c_14 | (have h := mt (g_lt rfl t_6).mpr c_14; omega)
            clear c_14
            refine lv_iconst (v := (-1)) hx hb dX8_compare_36 (by decide) ?_
            have hP9 := hP.sub (ws' := [(xh, .inr (8, G8 xa xtrialRule xdropRule xtoday)), ((xa 1), .inl (E 0, 16, .inl xf1)), ((xa 3), .inl (E 3, 16, .inr (.inr (.inr (.inr xf3))))), (wh, .inr (7, G7 wa)), ((wa 0), .inl (E 0, 400, .inl wf0)), ((wa 1), .inl (E 0, 400, .inl wf1)), ((wa 3), .inl (E 0, 400, .inl wf3))]) [0, 1, 2, 3, 4, 5, 6] rfl
            have hD9 := hD.sub (ws' := [(xh, .inr (8, G8 xa xtrialRule xdropRule xtoday)), ((xa 1), .inl (E 0, 16, .inl xf1)), ((xa 3), .inl (E 3, 16, .inr (.inr (.inr (.inr xf3))))), (wh, .inr (7, G7 wa)), ((wa 0), .inl (E 0, 400, .inl wf0)), ((wa 1), .inl (E 0, 400, .inl wf1)), ((wa 3), .inl (E 0, 400, .inl wf3))]) [0, 1, 2, 3, 4, 5, 6] (by decide) rfl
            exact W.iret (v := (-1)) hx hb hr (fun t ht hW => ⟨⟨(-1), (wf0, wf1), rfl, (by have hl0 := t_m1; (try dsimp only); first | exact Or.inl ⟨by omega, by omega, rfl, rfl⟩), by rw [ht]; exact hP9, hD9⟩, hS.F ht⟩) hS.2.2 dX8_compare_37
      ·
        try simp only [t_100000] at hw_10
        refine W_top (y := .int 0) (by rw [hr_9]) ?_
        refine lv_if_eq (tgt := 36) hx hb dX8_compare_21 (by decide) (fun c_31 => ?_) (fun c_31 => absurd (by decide) c_31)
        refine lv_iconst (v := (-1)) hx hb dX8_compare_36 (by decide) ?_
        have hP9 := hP.sub (ws' := [(xh, .inr (8, G8 xa xtrialRule xdropRule xtoday)), ((xa 1), .inl (E 0, 16, .inl xf1)), ((xa 3), .inl (E 3, 16, .inr (.inr (.inr (.inr xf3))))), (wh, .inr (7, G7 wa)), ((wa 0), .inl (E 0, 400, .inl wf0)), ((wa 1), .inl (E 0, 400, .inl wf1)), ((wa 3), .inl (E 0, 400, .inl wf3))]) [0, 1, 2, 3, 4, 5, 6] rfl
        have hD9 := hD.sub (ws' := [(xh, .inr (8, G8 xa xtrialRule xdropRule xtoday)), ((xa 1), .inl (E 0, 16, .inl xf1)), ((xa 3), .inl (E 3, 16, .inr (.inr (.inr (.inr xf3))))), (wh, .inr (7, G7 wa)), ((wa 0), .inl (E 0, 400, .inl wf0)), ((wa 1), .inl (E 0, 400, .inl wf1)), ((wa 3), .inl (E 0, 400, .inl wf3))]) [0, 1, 2, 3, 4, 5, 6] (by decide) rfl
        exact W.iret (v := (-1)) hx hb hr (fun t ht hW => ⟨⟨(-1), (wf0, wf1), rfl, (by have hl0 := t_m1; (try dsimp only); first | exact Or.inl ⟨by omega, by omega, rfl, rfl⟩), by rw [ht]; exact hP9, hD9⟩, hS.F ht⟩) hS.2.2 dX8_compare_37
    ·
      refine W_top (y := .int 0) (by rw [hr_5]) ?_
      refine lv_if_eq (tgt := 36) hx hb dX8_compare_12 (by decide) (fun c_32 => ?_) (fun c_32 => absurd (by decide) c_32)
      refine lv_iconst (v := (-1)) hx hb dX8_compare_36 (by decide) ?_
      have hP9 := hP.sub (ws' := [(xh, .inr (8, G8 xa xtrialRule xdropRule xtoday)), ((xa 1), .inl (E 0, 16, .inl xf1)), ((xa 3), .inl (E 3, 16, .inr (.inr (.inr (.inr xf3))))), (wh, .inr (7, G7 wa)), ((wa 0), .inl (E 0, 400, .inl wf0)), ((wa 1), .inl (E 0, 400, .inl wf1)), ((wa 3), .inl (E 0, 400, .inl wf3))]) [0, 1, 2, 3, 4, 5, 6] rfl
      have hD9 := hD.sub (ws' := [(xh, .inr (8, G8 xa xtrialRule xdropRule xtoday)), ((xa 1), .inl (E 0, 16, .inl xf1)), ((xa 3), .inl (E 3, 16, .inr (.inr (.inr (.inr xf3))))), (wh, .inr (7, G7 wa)), ((wa 0), .inl (E 0, 400, .inl wf0)), ((wa 1), .inl (E 0, 400, .inl wf1)), ((wa 3), .inl (E 0, 400, .inl wf3))]) [0, 1, 2, 3, 4, 5, 6] (by decide) rfl
      exact W.iret (v := (-1)) hx hb hr (fun t ht hW => ⟨⟨(-1), (wf0, wf1), rfl, (by have hl0 := t_m1; (try dsimp only); first | exact Or.inl ⟨by omega, by omega, rfl, rfl⟩), by rw [ht]; exact hP9, hD9⟩, hS.F ht⟩) hS.2.2 dX8_compare_37
  ·
    refine W_top (y := .int 0) (by rw [hr_1]) ?_
    refine lv_if_eq (tgt := 36) hx hb dX8_compare_4 (by decide) (fun c_33 => ?_) (fun c_33 => absurd (by decide) c_33)
    refine lv_iconst (v := (-1)) hx hb dX8_compare_36 (by decide) ?_
    have hP9 := hP.sub (ws' := [(xh, .inr (8, G8 xa xtrialRule xdropRule xtoday)), ((xa 1), .inl (E 0, 16, .inl xf1)), ((xa 3), .inl (E 3, 16, .inr (.inr (.inr (.inr xf3))))), (wh, .inr (7, G7 wa)), ((wa 0), .inl (E 0, 400, .inl wf0)), ((wa 1), .inl (E 0, 400, .inl wf1)), ((wa 3), .inl (E 0, 400, .inl wf3))]) [0, 1, 2, 3, 4, 5, 6] rfl
    have hD9 := hD.sub (ws' := [(xh, .inr (8, G8 xa xtrialRule xdropRule xtoday)), ((xa 1), .inl (E 0, 16, .inl xf1)), ((xa 3), .inl (E 3, 16, .inr (.inr (.inr (.inr xf3))))), (wh, .inr (7, G7 wa)), ((wa 0), .inl (E 0, 400, .inl wf0)), ((wa 1), .inl (E 0, 400, .inl wf1)), ((wa 3), .inl (E 0, 400, .inl wf3))]) [0, 1, 2, 3, 4, 5, 6] (by decide) rfl
    exact W.iret (v := (-1)) hx hb hr (fun t ht hW => ⟨⟨(-1), (wf0, wf1), rfl, (by have hl0 := t_m1; (try dsimp only); first | exact Or.inl ⟨by omega, by omega, rfl, rfl⟩), by rw [ht]; exact hP9, hD9⟩, hS.F ht⟩) hS.2.2 dX8_compare_37
set_option maxHeartbeats 4000000 in
set_option maxRecDepth 100000 in
theorem g_X8_error_N (l : Launch) (D : va_G) (E : Nat → Nat) (xh : Nat) (xa : Nat → Nat) (xtrialRule : Nat) (xdropRule : Nat) (xtoday : Int32) (xf1 : Nat → Int32) (xf3 : Nat → Option Nat) (p0 : Int32) (p1 : Int32) (p2 : Int32) (hi_x : (0 ≤ xtoday.toInt ∧ xtoday.toInt ≤ 399)) (hn0 : ¬ (0 ≤ p0.toInt ∧ p0.toInt ≤ 15 ∧ ((xf1 (p0).toNatClampNeg).toInt = 0 ∨ (xf1 (p0).toNatClampNeg).toInt = 1))) : Met l yX8_error (wl yX8_error cX8_error 5 (some .int)) (RM 2 0 0) (rd_P D E [.ref xh, .int p0, .int p1, .int p2] [(xh, .inr (8, G8 xa xtrialRule xdropRule xtoday)), ((xa 1), .inl (E 0, 16, .inl xf1)), ((xa 3), .inl (E 3, 16, .inr (.inr (.inr (.inr xf3)))))]) (rd_Q (fun r => ((r.toInt = -2000000000)))) 0 0 (fun _ => False) := by
  refine Met.ofW (cc := cX8_error) (maxL := 5) (ret := (some .int)) (by decide) rfl ?_
  intro p e s m args below meth c s₁ B hml hv
  obtain ⟨rfl, hP, hK⟩ := hv
  have hx := B.exec; have hb := B.bytes; have hr := B.returns
  have hts := atoms_spec (ws := wl yX8_error cX8_error 5 (some .int)) B.pre
  have htb : ∀ w ∈ tb, w.before _ s = true := fun w h => hts w (List.mem_cons_of_mem _ h)
  have hown : s.vm.findClass RX8 = some m.cls := findClass_of_methodNamed B.named
  have hlocks := B.notSynchronized
  have hP : va_P D vwCl [(xh, .inr (8, G8 xa xtrialRule xdropRule xtoday)), ((xa 1), .inl (E 0, 16, .inl xf1)), ((xa 3), .inl (E 3, 16, .inr (.inr (.inr (.inr xf3)))))] s.heap := hP
  have hl := lv_entry ([.ref xh, .int p0, .int p1, .int p2]) (n := 5) (Nat.le_of_ble_eq_true rfl)
  rw [lg_entry_eq]
  generalize (lg_sl ([.ref xh, .int p0, .int p1, .int p2]) ++ List.replicate (5 - (lg_sl ([.ref xh, .int p0, .int p1, .int p2])).length) Slot.unset).toArray = ls at hl ⊢
  have hl : lv_has ls 5 [(0, .ref xh), (1, .int p0), (2, .int p1), (3, .int p2)] := hl
  have lo_p0 := i_lo p0; have hi_p0 := i_hi p0
  have lo_p1 := i_lo p1; have hi_p1 := i_hi p1
  have lo_p2 := i_lo p2; have hi_p2 := i_hi p2
  refine lv_aload_n hx hb dX8_error_0 rfl (lv_at hl 0 rfl) ?_
  refine lv_iload_n hx hb dX8_error_1 rfl (lv_at hl 1 rfl) ?_
  refine rn_call (runRV (rest := []) (As := [.int p0]) hx hb hml hown htb (g_X8_watchAt_N l D E xh xa xtrialRule xdropRule xtoday xf1 xf3 p0 (by (try dsimp only); omega) hn0) ok_X8_watchAt k_369 k_371 ks_1 k_1 k_372 ⟨(Nat.le_of_ble_eq_true rfl), (Nat.le_of_ble_eq_true rfl)⟩ ⟨(Nat.le_of_ble_eq_true rfl), (Nat.le_of_ble_eq_true rfl)⟩ hl.1 (Nat.le_of_ble_eq_true rfl) rfl rfl dX8_error_2 (prV (hP.sub (ws' := [(xh, .inr (8, G8 xa xtrialRule xdropRule xtoday)), ((xa 1), .inl (E 0, 16, .inl xf1)), ((xa 3), .inl (E 3, 16, .inr (.inr (.inr (.inr xf3)))))]) [0, 1, 2] rfl) hK rfl rfl 0 rfl)) ?_
  refine lv_astoreN (lv' := [(4, .null), (0, .ref xh), (1, .int p0), (2, .int p1), (3, .int p2)]) hx hb dX8_error_5 hl (by decide) rfl (fun ls hl => ?_)
  refine lv_aloadN hx hb dX8_error_7 (lv_at hl 0 rfl) ?_
  refine lv_ifnullN (tgt := 26) hx hb dX8_error_9 (by decide) ?_
  refine lv_ldc hx hb hown (htb _ k_386) dX8_error_26 ?_
  exact W.iret (v := (-2000000000)) hx hb hr (fun t ht hW => ⟨(-2000000000), rfl, (by have hl0 := t_m2000000000; (try dsimp only); first | exact (by omega)), ht⟩) (fun q h => by cases h) dX8_error_28
set_option maxHeartbeats 4000000 in
set_option maxRecDepth 100000 in
theorem g_X8_error_W (l : Launch) (D : va_G) (E : Nat → Nat) (xh : Nat) (xa : Nat → Nat) (xtrialRule : Nat) (xdropRule : Nat) (xtoday : Int32) (xf1 : Nat → Int32) (xf3 : Nat → Option Nat) (wh : Nat) (wa : Nat → Nat) (wf0 : Nat → Int32) (wf1 : Nat → Int32) (oa : Nat → Nat) (osize : Int32) (of0 : Nat → Int32) (of1 : Nat → Int32) (of2 : Nat → Int32) (of3 : Nat → Int32) (of4 : Nat → Int32) (p0 : Int32) (p1 : Int32) (p2 : Int32) (hi_x : (0 ≤ xtoday.toInt ∧ xtoday.toInt ≤ 399)) (hi_o : (0 ≤ osize.toInt ∧ osize.toInt ≤ 60)) (hk0 : (0 ≤ p0.toInt ∧ p0.toInt ≤ 15 ∧ ((xf1 (p0).toNatClampNeg).toInt = 0 ∨ (xf1 (p0).toNatClampNeg).toInt = 1))) (hw0 : xf3 (p0).toNatClampNeg = some wh) : Met l yX8_error (wl yX8_error cX8_error 5 (some .int)) (RM 3 0 0) (rd_P D E [.ref xh, .int p0, .int p1, .int p2] [(xh, .inr (8, G8 xa xtrialRule xdropRule xtoday)), ((xa 1), .inl (E 0, 16, .inl xf1)), ((xa 3), .inl (E 3, 16, .inr (.inr (.inr (.inr xf3))))), (wh, .inr (7, G7 wa)), ((wa 0), .inl (E 0, 400, .inl wf0)), ((wa 1), .inl (E 0, 400, .inl wf1)), ((xa 6), .inr (2, G2 oa osize)), ((oa 0), .inl (E 0, 60, .inl of0)), ((oa 1), .inl (E 0, 60, .inl of1)), ((oa 2), .inl (E 0, 60, .inl of2)), ((oa 3), .inl (E 0, 60, .inl of3)), ((oa 4), .inl (E 0, 60, .inl of4))]) (rd_Q (fun r => ((((0 ≤ p1.toInt ∧ p1.toInt ≤ 399) ∧ (-1 ≤ p2.toInt ∧ p2.toInt ≤ 399)) ∧ r = eX wf0 wf1 of0 of1 of2 of3 of4 osize p1 p2) ∨ (¬ ((0 ≤ p1.toInt ∧ p1.toInt ≤ 399) ∧ (-1 ≤ p2.toInt ∧ p2.toInt ≤ 399)) ∧ r.toInt = -2000000000)))) 0 0 (fun _ => False) := by
  refine Met.ofW (cc := cX8_error) (maxL := 5) (ret := (some .int)) (by decide) rfl ?_
  intro p e s m args below meth c s₁ B hml hv
  obtain ⟨rfl, hP, hK⟩ := hv
  have hx := B.exec; have hb := B.bytes; have hr := B.returns
  have hts := atoms_spec (ws := wl yX8_error cX8_error 5 (some .int)) B.pre
  have htb : ∀ w ∈ tb, w.before _ s = true := fun w h => hts w (List.mem_cons_of_mem _ h)
  have hown : s.vm.findClass RX8 = some m.cls := findClass_of_methodNamed B.named
  have hlocks := B.notSynchronized
  have hP : va_P D vwCl [(xh, .inr (8, G8 xa xtrialRule xdropRule xtoday)), ((xa 1), .inl (E 0, 16, .inl xf1)), ((xa 3), .inl (E 3, 16, .inr (.inr (.inr (.inr xf3))))), (wh, .inr (7, G7 wa)), ((wa 0), .inl (E 0, 400, .inl wf0)), ((wa 1), .inl (E 0, 400, .inl wf1)), ((xa 6), .inr (2, G2 oa osize)), ((oa 0), .inl (E 0, 60, .inl of0)), ((oa 1), .inl (E 0, 60, .inl of1)), ((oa 2), .inl (E 0, 60, .inl of2)), ((oa 3), .inl (E 0, 60, .inl of3)), ((oa 4), .inl (E 0, 60, .inl of4))] s.heap := hP
  have hl := lv_entry ([.ref xh, .int p0, .int p1, .int p2]) (n := 5) (Nat.le_of_ble_eq_true rfl)
  rw [lg_entry_eq]
  generalize (lg_sl ([.ref xh, .int p0, .int p1, .int p2]) ++ List.replicate (5 - (lg_sl ([.ref xh, .int p0, .int p1, .int p2])).length) Slot.unset).toArray = ls at hl ⊢
  have hl : lv_has ls 5 [(0, .ref xh), (1, .int p0), (2, .int p1), (3, .int p2)] := hl
  have lo_p0 := i_lo p0; have hi_p0 := i_hi p0
  have lo_p1 := i_lo p1; have hi_p1 := i_hi p1
  have lo_p2 := i_lo p2; have hi_p2 := i_hi p2
  refine lv_aload_n hx hb dX8_error_0 rfl (lv_at hl 0 rfl) ?_
  refine lv_iload_n hx hb dX8_error_1 rfl (lv_at hl 1 rfl) ?_
  refine rr_call (runRV (rest := []) (As := [.int p0]) hx hb hml hown htb (g_X8_watchAt_W l D E xh xa xtrialRule xdropRule xtoday xf1 xf3 wh wa p0 (by (try dsimp only); omega) hk0 hw0) ok_X8_watchAt k_369 k_371 ks_1 k_1 k_372 ⟨(Nat.le_of_ble_eq_true rfl), (Nat.le_of_ble_eq_true rfl)⟩ ⟨(Nat.le_of_ble_eq_true rfl), (Nat.le_of_ble_eq_true rfl)⟩ hl.1 (Nat.le_of_ble_eq_true rfl) rfl rfl dX8_error_2 (prV (hP.sub (ws' := [(xh, .inr (8, G8 xa xtrialRule xdropRule xtoday)), ((xa 1), .inl (E 0, 16, .inl xf1)), ((xa 3), .inl (E 3, 16, .inr (.inr (.inr (.inr xf3))))), (wh, .inr (7, G7 wa))]) [0, 1, 2, 3] rfl) hK rfl rfl 0 rfl)) ?_
  refine lv_astore (lv' := [(4, .ref wh), (0, .ref xh), (1, .int p0), (2, .int p1), (3, .int p2)]) hx hb dX8_error_5 hl (by decide) rfl (fun ls hl => ?_)
  refine lv_aload hx hb dX8_error_7 (lv_at hl 0 rfl) ?_
  refine lv_ifnull hx hb dX8_error_9 ?_
  refine lv_iload_n hx hb dX8_error_12 rfl (lv_at hl 3 rfl) ?_
  refine callRS (rest := []) (As := [.int p1]) hx hb hml hown htb hK (g_X8_isDay l D E p1 ) ok_X8_isDay k_323 k_324 k_1 k_325 ⟨(Nat.le_of_ble_eq_true rfl), (Nat.le_of_ble_eq_true rfl)⟩ ⟨(Nat.le_of_ble_eq_true rfl), (Nat.le_of_ble_eq_true rfl)⟩ hl.1 (Nat.le_of_ble_eq_true rfl) rfl rfl dX8_error_13 (hP.sub (ws' := ([] : va_W)) [] rfl) (fun r_4 hw_5 => ?_)
  rcases hw_5 with ⟨hr_4, hw_5⟩ | ⟨hr_4, hw_5⟩
  ·
    refine W_top (y := .int 1) (by rw [hr_4]) ?_
    refine lv_if_eq (tgt := 26) hx hb dX8_error_16 (by decide) (fun c_7 => absurd c_7 (by decide)) (fun c_7 => ?_)
    refine lv_iload_n hx hb dX8_error_19 rfl (lv_at hl 4 rfl) ?_
    refine callRS (rest := []) (As := [.int p2]) hx hb hml hown htb hK (g_X8_isKnowledge l D E p2 ) ok_X8_isKnowledge k_412 k_413 k_1 k_414 ⟨(Nat.le_of_ble_eq_true rfl), (Nat.le_of_ble_eq_true rfl)⟩ ⟨(Nat.le_of_ble_eq_true rfl), (Nat.le_of_ble_eq_true rfl)⟩ hl.1 (Nat.le_of_ble_eq_true rfl) rfl rfl dX8_error_20 (hP.sub (ws' := ([] : va_W)) [] rfl) (fun r_8 hw_9 => ?_)
    rcases hw_9 with ⟨hr_8, hw_9⟩ | ⟨hr_8, hw_9⟩
    ·
      refine W_top (y := .int 1) (by rw [hr_8]) ?_
      refine lv_if_ne (tgt := 29) hx hb dX8_error_23 (by decide) (fun c_11 => ?_) (fun c_11 => absurd c_11 (by decide))
      refine lv_aload hx hb dX8_error_29 (lv_at hl 0 rfl) ?_
      refine lv_iload_n hx hb dX8_error_31 rfl (lv_at hl 3 rfl) ?_
      refine lv_aload_n hx hb dX8_error_32 rfl (lv_at hl 1 rfl) ?_
      refine va_get (D := D) (ci := 8) (v := .ref (xa 6)) (C := RX8) (T := TX8) (N := 14) hx hb htb iX8 hown hK.1 hP 0 rfl rfl 6 (by decide) (htb _ k_278) (fun _ h9 => h9) rfl dX8_error_33 ?_
      refine lv_iload_n hx hb dX8_error_36 rfl (lv_at hl 4 rfl) ?_
      refine callRV (rest := []) (As := [.int p1, .ref (xa 6), .int p2]) hx hb hml hown htb hK (g_X7_errorAsKnown l D E wh wa wf0 wf1 (xa 6) oa osize of0 of1 of2 of3 of4 p1 p2 (by (try dsimp only); omega)) ok_X7_errorAsKnown k_415 k_416 k_417 k_10 k_418 ⟨(Nat.le_of_ble_eq_true rfl), (Nat.le_of_ble_eq_true rfl)⟩ ⟨(Nat.le_of_ble_eq_true rfl), (Nat.le_of_ble_eq_true rfl)⟩ hl.1 (Nat.le_of_ble_eq_true rfl) rfl rfl dX8_error_37 (hP.sub (ws' := [(wh, .inr (7, G7 wa)), ((wa 0), .inl (E 0, 400, .inl wf0)), ((wa 1), .inl (E 0, 400, .inl wf1)), ((xa 6), .inr (2, G2 oa osize)), ((oa 0), .inl (E 0, 60, .inl of0)), ((oa 1), .inl (E 0, 60, .inl of1)), ((oa 2), .inl (E 0, 60, .inl of2)), ((oa 3), .inl (E 0, 60, .inl of3)), ((oa 4), .inl (E 0, 60, .inl of4))]) [3, 4, 5, 6, 7, 8, 9, 10, 11] rfl) rfl rfl 0 rfl (fun r_12 hw_13 => ?_)
      exact W.iret (v := r_12) hx hb hr (fun t ht hW => ⟨r_12, rfl, (by (try dsimp only); first | exact Or.inl ⟨by omega, by assumption⟩ | exact Or.inr ⟨by omega, by omega⟩), ht⟩) (fun q h => by cases h) dX8_error_40
    ·
      refine W_top (y := .int 0) (by rw [hr_8]) ?_
      refine lv_if_ne (tgt := 29) hx hb dX8_error_23 (by decide) (fun c_15 => absurd (by decide) c_15) (fun c_15 => ?_)
      refine lv_ldc hx hb hown (htb _ k_386) dX8_error_26 ?_
      exact W.iret (v := (-2000000000)) hx hb hr (fun t ht hW => ⟨(-2000000000), rfl, (by have hl0 := t_m2000000000; (try dsimp only); first | exact Or.inl ⟨by omega, by assumption⟩ | exact Or.inr ⟨by omega, by omega⟩), ht⟩) (fun q h => by cases h) dX8_error_28
  ·
    refine W_top (y := .int 0) (by rw [hr_4]) ?_
    refine lv_if_eq (tgt := 26) hx hb dX8_error_16 (by decide) (fun c_16 => ?_) (fun c_16 => absurd (by decide) c_16)
    refine lv_ldc hx hb hown (htb _ k_386) dX8_error_26 ?_
    exact W.iret (v := (-2000000000)) hx hb hr (fun t ht hW => ⟨(-2000000000), rfl, (by have hl0 := t_m2000000000; (try dsimp only); first | exact Or.inl ⟨by omega, by assumption⟩ | exact Or.inr ⟨by omega, by omega⟩), ht⟩) (fun q h => by cases h) dX8_error_28
set_option maxHeartbeats 4000000 in
set_option maxRecDepth 100000 in
theorem g_X8_rate_N (l : Launch) (D : va_G) (E : Nat → Nat) (xh : Nat) (xa : Nat → Nat) (xtrialRule : Nat) (xdropRule : Nat) (xtoday : Int32) (xf1 : Nat → Int32) (xf3 : Nat → Option Nat) (p0 : Int32) (p1 : Int32) (p2 : Int32) (hi_x : (0 ≤ xtoday.toInt ∧ xtoday.toInt ≤ 399)) (hn0 : ¬ (0 ≤ p0.toInt ∧ p0.toInt ≤ 15 ∧ ((xf1 (p0).toNatClampNeg).toInt = 0 ∨ (xf1 (p0).toNatClampNeg).toInt = 1))) : Met l yX8_rate (wl yX8_rate cX8_rate 5 (some .int)) (RM 2 0 0) (rd_P D E [.ref xh, .int p0, .int p1, .int p2] [(xh, .inr (8, G8 xa xtrialRule xdropRule xtoday)), ((xa 1), .inl (E 0, 16, .inl xf1)), ((xa 3), .inl (E 3, 16, .inr (.inr (.inr (.inr xf3)))))]) (rd_Q (fun r => ((r.toInt = -2000000000)))) 0 0 (fun _ => False) := by
  refine Met.ofW (cc := cX8_rate) (maxL := 5) (ret := (some .int)) (by decide) rfl ?_
  intro p e s m args below meth c s₁ B hml hv
  obtain ⟨rfl, hP, hK⟩ := hv
  have hx := B.exec; have hb := B.bytes; have hr := B.returns
  have hts := atoms_spec (ws := wl yX8_rate cX8_rate 5 (some .int)) B.pre
  have htb : ∀ w ∈ tb, w.before _ s = true := fun w h => hts w (List.mem_cons_of_mem _ h)
  have hown : s.vm.findClass RX8 = some m.cls := findClass_of_methodNamed B.named
  have hlocks := B.notSynchronized
  have hP : va_P D vwCl [(xh, .inr (8, G8 xa xtrialRule xdropRule xtoday)), ((xa 1), .inl (E 0, 16, .inl xf1)), ((xa 3), .inl (E 3, 16, .inr (.inr (.inr (.inr xf3)))))] s.heap := hP
  have hl := lv_entry ([.ref xh, .int p0, .int p1, .int p2]) (n := 5) (Nat.le_of_ble_eq_true rfl)
  rw [lg_entry_eq]
  generalize (lg_sl ([.ref xh, .int p0, .int p1, .int p2]) ++ List.replicate (5 - (lg_sl ([.ref xh, .int p0, .int p1, .int p2])).length) Slot.unset).toArray = ls at hl ⊢
  have hl : lv_has ls 5 [(0, .ref xh), (1, .int p0), (2, .int p1), (3, .int p2)] := hl
  have lo_p0 := i_lo p0; have hi_p0 := i_hi p0
  have lo_p1 := i_lo p1; have hi_p1 := i_hi p1
  have lo_p2 := i_lo p2; have hi_p2 := i_hi p2
  refine lv_aload_n hx hb dX8_rate_0 rfl (lv_at hl 0 rfl) ?_
  refine lv_iload_n hx hb dX8_rate_1 rfl (lv_at hl 1 rfl) ?_
  refine rn_call (runRV (rest := []) (As := [.int p0]) hx hb hml hown htb (g_X8_watchAt_N l D E xh xa xtrialRule xdropRule xtoday xf1 xf3 p0 (by (try dsimp only); omega) hn0) ok_X8_watchAt k_369 k_371 ks_1 k_1 k_372 ⟨(Nat.le_of_ble_eq_true rfl), (Nat.le_of_ble_eq_true rfl)⟩ ⟨(Nat.le_of_ble_eq_true rfl), (Nat.le_of_ble_eq_true rfl)⟩ hl.1 (Nat.le_of_ble_eq_true rfl) rfl rfl dX8_rate_2 (prV (hP.sub (ws' := [(xh, .inr (8, G8 xa xtrialRule xdropRule xtoday)), ((xa 1), .inl (E 0, 16, .inl xf1)), ((xa 3), .inl (E 3, 16, .inr (.inr (.inr (.inr xf3)))))]) [0, 1, 2] rfl) hK rfl rfl 0 rfl)) ?_
  refine lv_astoreN (lv' := [(4, .null), (0, .ref xh), (1, .int p0), (2, .int p1), (3, .int p2)]) hx hb dX8_rate_5 hl (by decide) rfl (fun ls hl => ?_)
  refine lv_aloadN hx hb dX8_rate_7 (lv_at hl 0 rfl) ?_
  refine lv_ifnullN (tgt := 26) hx hb dX8_rate_9 (by decide) ?_
  refine lv_ldc hx hb hown (htb _ k_386) dX8_rate_26 ?_
  exact W.iret (v := (-2000000000)) hx hb hr (fun t ht hW => ⟨(-2000000000), rfl, (by have hl0 := t_m2000000000; (try dsimp only); first | exact (by omega)), ht⟩) (fun q h => by cases h) dX8_rate_28
set_option maxHeartbeats 4000000 in
set_option maxRecDepth 100000 in
theorem g_X8_rate_W (l : Launch) (D : va_G) (E : Nat → Nat) (xh : Nat) (xa : Nat → Nat) (xtrialRule : Nat) (xdropRule : Nat) (xtoday : Int32) (xf1 : Nat → Int32) (xf3 : Nat → Option Nat) (wh : Nat) (wa : Nat → Nat) (wf0 : Nat → Int32) (wf1 : Nat → Int32) (wf2 : Nat → Int32) (oa : Nat → Nat) (osize : Int32) (of0 : Nat → Int32) (of1 : Nat → Int32) (of2 : Nat → Int32) (of3 : Nat → Int32) (of4 : Nat → Int32) (p0 : Int32) (p1 : Int32) (p2 : Int32) (hi_x : (0 ≤ xtoday.toInt ∧ xtoday.toInt ≤ 399)) (hi_o : (0 ≤ osize.toInt ∧ osize.toInt ≤ 60)) (hk0 : (0 ≤ p0.toInt ∧ p0.toInt ≤ 15 ∧ ((xf1 (p0).toNatClampNeg).toInt = 0 ∨ (xf1 (p0).toNatClampNeg).toInt = 1))) (hw0 : xf3 (p0).toNatClampNeg = some wh) : Met l yX8_rate (wl yX8_rate cX8_rate 5 (some .int)) (RM 4 0 0) (rd_P D E [.ref xh, .int p0, .int p1, .int p2] [(xh, .inr (8, G8 xa xtrialRule xdropRule xtoday)), ((xa 1), .inl (E 0, 16, .inl xf1)), ((xa 3), .inl (E 3, 16, .inr (.inr (.inr (.inr xf3))))), (wh, .inr (7, G7 wa)), ((wa 0), .inl (E 0, 400, .inl wf0)), ((wa 1), .inl (E 0, 400, .inl wf1)), ((wa 2), .inl (E 0, 400, .inl wf2)), ((xa 6), .inr (2, G2 oa osize)), ((oa 0), .inl (E 0, 60, .inl of0)), ((oa 1), .inl (E 0, 60, .inl of1)), ((oa 2), .inl (E 0, 60, .inl of2)), ((oa 3), .inl (E 0, 60, .inl of3)), ((oa 4), .inl (E 0, 60, .inl of4))]) (rd_Q (fun r => ((((0 ≤ p1.toInt ∧ p1.toInt ≤ 399) ∧ (-1 ≤ p2.toInt ∧ p2.toInt ≤ 399)) ∧ r = rX wf0 wf1 wf2 of0 of1 of2 of3 of4 osize p1 p2) ∨ (¬ ((0 ≤ p1.toInt ∧ p1.toInt ≤ 399) ∧ (-1 ≤ p2.toInt ∧ p2.toInt ≤ 399)) ∧ r.toInt = -2000000000)))) 0 0 (fun _ => False) := by
  refine Met.ofW (cc := cX8_rate) (maxL := 5) (ret := (some .int)) (by decide) rfl ?_
  intro p e s m args below meth c s₁ B hml hv
  obtain ⟨rfl, hP, hK⟩ := hv
  have hx := B.exec; have hb := B.bytes; have hr := B.returns
  have hts := atoms_spec (ws := wl yX8_rate cX8_rate 5 (some .int)) B.pre
  have htb : ∀ w ∈ tb, w.before _ s = true := fun w h => hts w (List.mem_cons_of_mem _ h)
  have hown : s.vm.findClass RX8 = some m.cls := findClass_of_methodNamed B.named
  have hlocks := B.notSynchronized
  have hP : va_P D vwCl [(xh, .inr (8, G8 xa xtrialRule xdropRule xtoday)), ((xa 1), .inl (E 0, 16, .inl xf1)), ((xa 3), .inl (E 3, 16, .inr (.inr (.inr (.inr xf3))))), (wh, .inr (7, G7 wa)), ((wa 0), .inl (E 0, 400, .inl wf0)), ((wa 1), .inl (E 0, 400, .inl wf1)), ((wa 2), .inl (E 0, 400, .inl wf2)), ((xa 6), .inr (2, G2 oa osize)), ((oa 0), .inl (E 0, 60, .inl of0)), ((oa 1), .inl (E 0, 60, .inl of1)), ((oa 2), .inl (E 0, 60, .inl of2)), ((oa 3), .inl (E 0, 60, .inl of3)), ((oa 4), .inl (E 0, 60, .inl of4))] s.heap := hP
  have hl := lv_entry ([.ref xh, .int p0, .int p1, .int p2]) (n := 5) (Nat.le_of_ble_eq_true rfl)
  rw [lg_entry_eq]
  generalize (lg_sl ([.ref xh, .int p0, .int p1, .int p2]) ++ List.replicate (5 - (lg_sl ([.ref xh, .int p0, .int p1, .int p2])).length) Slot.unset).toArray = ls at hl ⊢
  have hl : lv_has ls 5 [(0, .ref xh), (1, .int p0), (2, .int p1), (3, .int p2)] := hl
  have lo_p0 := i_lo p0; have hi_p0 := i_hi p0
  have lo_p1 := i_lo p1; have hi_p1 := i_hi p1
  have lo_p2 := i_lo p2; have hi_p2 := i_hi p2
  refine lv_aload_n hx hb dX8_rate_0 rfl (lv_at hl 0 rfl) ?_
  refine lv_iload_n hx hb dX8_rate_1 rfl (lv_at hl 1 rfl) ?_
  refine rr_call (runRV (rest := []) (As := [.int p0]) hx hb hml hown htb (g_X8_watchAt_W l D E xh xa xtrialRule xdropRule xtoday xf1 xf3 wh wa p0 (by (try dsimp only); omega) hk0 hw0) ok_X8_watchAt k_369 k_371 ks_1 k_1 k_372 ⟨(Nat.le_of_ble_eq_true rfl), (Nat.le_of_ble_eq_true rfl)⟩ ⟨(Nat.le_of_ble_eq_true rfl), (Nat.le_of_ble_eq_true rfl)⟩ hl.1 (Nat.le_of_ble_eq_true rfl) rfl rfl dX8_rate_2 (prV (hP.sub (ws' := [(xh, .inr (8, G8 xa xtrialRule xdropRule xtoday)), ((xa 1), .inl (E 0, 16, .inl xf1)), ((xa 3), .inl (E 3, 16, .inr (.inr (.inr (.inr xf3))))), (wh, .inr (7, G7 wa))]) [0, 1, 2, 3] rfl) hK rfl rfl 0 rfl)) ?_
  refine lv_astore (lv' := [(4, .ref wh), (0, .ref xh), (1, .int p0), (2, .int p1), (3, .int p2)]) hx hb dX8_rate_5 hl (by decide) rfl (fun ls hl => ?_)
  refine lv_aload hx hb dX8_rate_7 (lv_at hl 0 rfl) ?_
  refine lv_ifnull hx hb dX8_rate_9 ?_
  refine lv_iload_n hx hb dX8_rate_12 rfl (lv_at hl 3 rfl) ?_
  refine callRS (rest := []) (As := [.int p1]) hx hb hml hown htb hK (g_X8_isDay l D E p1 ) ok_X8_isDay k_323 k_324 k_1 k_325 ⟨(Nat.le_of_ble_eq_true rfl), (Nat.le_of_ble_eq_true rfl)⟩ ⟨(Nat.le_of_ble_eq_true rfl), (Nat.le_of_ble_eq_true rfl)⟩ hl.1 (Nat.le_of_ble_eq_true rfl) rfl rfl dX8_rate_13 (hP.sub (ws' := ([] : va_W)) [] rfl) (fun r_4 hw_5 => ?_)
  rcases hw_5 with ⟨hr_4, hw_5⟩ | ⟨hr_4, hw_5⟩
  ·
    refine W_top (y := .int 1) (by rw [hr_4]) ?_
    refine lv_if_eq (tgt := 26) hx hb dX8_rate_16 (by decide) (fun c_7 => absurd c_7 (by decide)) (fun c_7 => ?_)
    refine lv_iload_n hx hb dX8_rate_19 rfl (lv_at hl 4 rfl) ?_
    refine callRS (rest := []) (As := [.int p2]) hx hb hml hown htb hK (g_X8_isKnowledge l D E p2 ) ok_X8_isKnowledge k_412 k_413 k_1 k_414 ⟨(Nat.le_of_ble_eq_true rfl), (Nat.le_of_ble_eq_true rfl)⟩ ⟨(Nat.le_of_ble_eq_true rfl), (Nat.le_of_ble_eq_true rfl)⟩ hl.1 (Nat.le_of_ble_eq_true rfl) rfl rfl dX8_rate_20 (hP.sub (ws' := ([] : va_W)) [] rfl) (fun r_8 hw_9 => ?_)
    rcases hw_9 with ⟨hr_8, hw_9⟩ | ⟨hr_8, hw_9⟩
    ·
      refine W_top (y := .int 1) (by rw [hr_8]) ?_
      refine lv_if_ne (tgt := 29) hx hb dX8_rate_23 (by decide) (fun c_11 => ?_) (fun c_11 => absurd c_11 (by decide))
      refine lv_aload hx hb dX8_rate_29 (lv_at hl 0 rfl) ?_
      refine lv_iload_n hx hb dX8_rate_31 rfl (lv_at hl 3 rfl) ?_
      refine lv_aload_n hx hb dX8_rate_32 rfl (lv_at hl 1 rfl) ?_
      refine va_get (D := D) (ci := 8) (v := .ref (xa 6)) (C := RX8) (T := TX8) (N := 14) hx hb htb iX8 hown hK.1 hP 0 rfl rfl 6 (by decide) (htb _ k_278) (fun _ h9 => h9) rfl dX8_rate_33 ?_
      refine lv_iload_n hx hb dX8_rate_36 rfl (lv_at hl 4 rfl) ?_
      refine callRV (rest := []) (As := [.int p1, .ref (xa 6), .int p2]) hx hb hml hown htb hK (g_X7_rateAsKnown l D E wh wa wf0 wf1 wf2 (xa 6) oa osize of0 of1 of2 of3 of4 p1 p2 (by (try dsimp only); omega) (by (try dsimp only); omega)) ok_X7_rateAsKnown k_429 k_430 k_431 k_10 k_432 ⟨(Nat.le_of_ble_eq_true rfl), (Nat.le_of_ble_eq_true rfl)⟩ ⟨(Nat.le_of_ble_eq_true rfl), (Nat.le_of_ble_eq_true rfl)⟩ hl.1 (Nat.le_of_ble_eq_true rfl) rfl rfl dX8_rate_37 (hP.sub (ws' := [(wh, .inr (7, G7 wa)), ((wa 0), .inl (E 0, 400, .inl wf0)), ((wa 1), .inl (E 0, 400, .inl wf1)), ((wa 2), .inl (E 0, 400, .inl wf2)), ((xa 6), .inr (2, G2 oa osize)), ((oa 0), .inl (E 0, 60, .inl of0)), ((oa 1), .inl (E 0, 60, .inl of1)), ((oa 2), .inl (E 0, 60, .inl of2)), ((oa 3), .inl (E 0, 60, .inl of3)), ((oa 4), .inl (E 0, 60, .inl of4))]) [3, 4, 5, 6, 7, 8, 9, 10, 11, 12] rfl) rfl rfl 0 rfl (fun r_12 hw_13 => ?_)
      exact W.iret (v := r_12) hx hb hr (fun t ht hW => ⟨r_12, rfl, (by (try dsimp only); first | exact Or.inl ⟨by omega, by assumption⟩ | exact Or.inr ⟨by omega, by omega⟩), ht⟩) (fun q h => by cases h) dX8_rate_40
    ·
      refine W_top (y := .int 0) (by rw [hr_8]) ?_
      refine lv_if_ne (tgt := 29) hx hb dX8_rate_23 (by decide) (fun c_15 => absurd (by decide) c_15) (fun c_15 => ?_)
      refine lv_ldc hx hb hown (htb _ k_386) dX8_rate_26 ?_
      exact W.iret (v := (-2000000000)) hx hb hr (fun t ht hW => ⟨(-2000000000), rfl, (by have hl0 := t_m2000000000; (try dsimp only); first | exact Or.inl ⟨by omega, by assumption⟩ | exact Or.inr ⟨by omega, by omega⟩), ht⟩) (fun q h => by cases h) dX8_rate_28
  ·
    refine W_top (y := .int 0) (by rw [hr_4]) ?_
    refine lv_if_eq (tgt := 26) hx hb dX8_rate_16 (by decide) (fun c_16 => ?_) (fun c_16 => absurd (by decide) c_16)
    refine lv_ldc hx hb hown (htb _ k_386) dX8_rate_26 ?_
    exact W.iret (v := (-2000000000)) hx hb hr (fun t ht hW => ⟨(-2000000000), rfl, (by have hl0 := t_m2000000000; (try dsimp only); first | exact Or.inl ⟨by omega, by assumption⟩ | exact Or.inr ⟨by omega, by omega⟩), ht⟩) (fun q h => by cases h) dX8_rate_28
set_option maxHeartbeats 4000000 in
set_option maxRecDepth 100000 in
theorem g_X8_markOn_N (l : Launch) (D : va_G) (E : Nat → Nat) (xh : Nat) (xa : Nat → Nat) (xtrialRule : Nat) (xdropRule : Nat) (xtoday : Int32) (xf1 : Nat → Int32) (xf3 : Nat → Option Nat) (p0 : Int32) (p1 : Int32) (p2 : Int32) (hi_x : (0 ≤ xtoday.toInt ∧ xtoday.toInt ≤ 399)) (hn0 : ¬ (0 ≤ p0.toInt ∧ p0.toInt ≤ 15 ∧ ((xf1 (p0).toNatClampNeg).toInt = 0 ∨ (xf1 (p0).toNatClampNeg).toInt = 1))) : Met l yX8_markOn (wl yX8_markOn cX8_markOn 5 (some .int)) (RM 2 0 0) (rd_P D E [.ref xh, .int p0, .int p1, .int p2] [(xh, .inr (8, G8 xa xtrialRule xdropRule xtoday)), ((xa 1), .inl (E 0, 16, .inl xf1)), ((xa 3), .inl (E 3, 16, .inr (.inr (.inr (.inr xf3)))))]) (rd_Q (fun r => ((r.toInt = -1 ∧ ¬ ((0 ≤ p0.toInt ∧ p0.toInt ≤ 15) ∧ (0 ≤ p1.toInt ∧ p1.toInt ≤ xtoday.toInt))) ∨ (((0 ≤ p0.toInt ∧ p0.toInt ≤ 15) ∧ (0 ≤ p1.toInt ∧ p1.toInt ≤ xtoday.toInt)) ∧ (((xf1 (p0).toNatClampNeg).toInt = -5 ∧ r.toInt = -2) ∨ ((xf1 (p0).toNatClampNeg).toInt ≠ -5 ∧ r.toInt = -3)))))) 0 0 (fun _ => False) := by
  refine Met.ofW (cc := cX8_markOn) (maxL := 5) (ret := (some .int)) (by decide) rfl ?_
  intro p e s m args below meth c s₁ B hml hv
  obtain ⟨rfl, hP, hK⟩ := hv
  have hx := B.exec; have hb := B.bytes; have hr := B.returns
  have hts := atoms_spec (ws := wl yX8_markOn cX8_markOn 5 (some .int)) B.pre
  have htb : ∀ w ∈ tb, w.before _ s = true := fun w h => hts w (List.mem_cons_of_mem _ h)
  have hown : s.vm.findClass RX8 = some m.cls := findClass_of_methodNamed B.named
  have hlocks := B.notSynchronized
  have hP : va_P D vwCl [(xh, .inr (8, G8 xa xtrialRule xdropRule xtoday)), ((xa 1), .inl (E 0, 16, .inl xf1)), ((xa 3), .inl (E 3, 16, .inr (.inr (.inr (.inr xf3)))))] s.heap := hP
  have hl := lv_entry ([.ref xh, .int p0, .int p1, .int p2]) (n := 5) (Nat.le_of_ble_eq_true rfl)
  rw [lg_entry_eq]
  generalize (lg_sl ([.ref xh, .int p0, .int p1, .int p2]) ++ List.replicate (5 - (lg_sl ([.ref xh, .int p0, .int p1, .int p2])).length) Slot.unset).toArray = ls at hl ⊢
  have hl : lv_has ls 5 [(0, .ref xh), (1, .int p0), (2, .int p1), (3, .int p2)] := hl
  have lo_p0 := i_lo p0; have hi_p0 := i_hi p0
  have lo_p1 := i_lo p1; have hi_p1 := i_hi p1
  have lo_p2 := i_lo p2; have hi_p2 := i_hi p2
  refine lv_iload_n hx hb dX8_markOn_0 rfl (lv_at hl 1 rfl) ?_
  refine callRS (rest := []) (As := [.int p0]) hx hb hml hown htb hK (g_X8_isPlace l D E p0 ) ok_X8_isPlace k_333 k_334 k_1 k_335 ⟨(Nat.le_of_ble_eq_true rfl), (Nat.le_of_ble_eq_true rfl)⟩ ⟨(Nat.le_of_ble_eq_true rfl), (Nat.le_of_ble_eq_true rfl)⟩ hl.1 (Nat.le_of_ble_eq_true rfl) rfl rfl dX8_markOn_1 (hP.sub (ws' := ([] : va_W)) [] rfl) (fun r_1 hw_2 => ?_)
  rcases hw_2 with ⟨hr_1, hw_2⟩ | ⟨hr_1, hw_2⟩
  ·
    refine W_top (y := .int 1) (by rw [hr_1]) ?_
    refine lv_if_eq (tgt := 15) hx hb dX8_markOn_4 (by decide) (fun c_4 => absurd c_4 (by decide)) (fun c_4 => ?_)
    refine lv_aload_n hx hb dX8_markOn_7 rfl (lv_at hl 0 rfl) ?_
    refine lv_iload_n hx hb dX8_markOn_8 rfl (lv_at hl 2 rfl) ?_
    refine callRV (rest := []) (As := [.int p1]) hx hb hml hown htb hK (g_X8_isPast l D E xh xa xtrialRule xdropRule xtoday p1 (by (try dsimp only); omega)) ok_X8_isPast k_391 k_393 ks_2 k_1 k_394 ⟨(Nat.le_of_ble_eq_true rfl), (Nat.le_of_ble_eq_true rfl)⟩ ⟨(Nat.le_of_ble_eq_true rfl), (Nat.le_of_ble_eq_true rfl)⟩ hl.1 (Nat.le_of_ble_eq_true rfl) rfl rfl dX8_markOn_9 (hP.sub (ws' := [(xh, .inr (8, G8 xa xtrialRule xdropRule xtoday))]) [0] rfl) rfl rfl 0 rfl (fun r_5 hw_6 => ?_)
    rcases hw_6 with ⟨hr_5, hw_6⟩ | ⟨hr_5, hw_6⟩
    ·
      refine W_top (y := .int 1) (by rw [hr_5]) ?_
      refine lv_if_ne (tgt := 17) hx hb dX8_markOn_12 (by decide) (fun c_8 => ?_) (fun c_8 => absurd c_8 (by decide))
      refine lv_aload_n hx hb dX8_markOn_17 rfl (lv_at hl 0 rfl) ?_
      refine lv_iload_n hx hb dX8_markOn_18 rfl (lv_at hl 1 rfl) ?_
      refine rn_call (runRV (rest := []) (As := [.int p0]) hx hb hml hown htb (g_X8_watchAt_N l D E xh xa xtrialRule xdropRule xtoday xf1 xf3 p0 (by (try dsimp only); omega) hn0) ok_X8_watchAt k_369 k_371 ks_1 k_1 k_372 ⟨(Nat.le_of_ble_eq_true rfl), (Nat.le_of_ble_eq_true rfl)⟩ ⟨(Nat.le_of_ble_eq_true rfl), (Nat.le_of_ble_eq_true rfl)⟩ hl.1 (Nat.le_of_ble_eq_true rfl) rfl rfl dX8_markOn_19 (prV (hP.sub (ws' := [(xh, .inr (8, G8 xa xtrialRule xdropRule xtoday)), ((xa 1), .inl (E 0, 16, .inl xf1)), ((xa 3), .inl (E 3, 16, .inr (.inr (.inr (.inr xf3)))))]) [0, 1, 2] rfl) hK rfl rfl 0 rfl)) ?_
      refine lv_astoreN (lv' := [(4, .null), (0, .ref xh), (1, .int p0), (2, .int p1), (3, .int p2)]) hx hb dX8_markOn_22 hl (by decide) rfl (fun ls hl => ?_)
      refine lv_aloadN hx hb dX8_markOn_24 (lv_at hl 0 rfl) ?_
      refine lv_ifnonnullN hx hb dX8_markOn_26 ?_
      refine lv_aload_n hx hb dX8_markOn_29 rfl (lv_at hl 1 rfl) ?_
      refine lv_iload_n hx hb dX8_markOn_30 rfl (lv_at hl 2 rfl) ?_
      refine callRV (rest := []) (As := [.int p0]) hx hb hml hown htb hK (g_X8_lackAt l D E xh xa xtrialRule xdropRule xtoday xf1 p0 (by (try dsimp only); omega)) ok_X8_lackAt k_396 k_398 ks_3 k_1 k_399 ⟨(Nat.le_of_ble_eq_true rfl), (Nat.le_of_ble_eq_true rfl)⟩ ⟨(Nat.le_of_ble_eq_true rfl), (Nat.le_of_ble_eq_true rfl)⟩ hl.1 (Nat.le_of_ble_eq_true rfl) rfl rfl dX8_markOn_31 (hP.sub (ws' := [(xh, .inr (8, G8 xa xtrialRule xdropRule xtoday)), ((xa 1), .inl (E 0, 16, .inl xf1))]) [0, 1] rfl) rfl rfl 0 rfl (fun r_12 hw_13 => ?_)
      exact W.iret (v := r_12) hx hb hr (fun t ht hW => ⟨r_12, rfl, (by (try dsimp only); first | exact Or.inr ⟨by omega, by omega⟩ | exact Or.inl ⟨by omega, by omega⟩), ht⟩) (fun q h => by cases h) dX8_markOn_34
    ·
      refine W_top (y := .int 0) (by rw [hr_5]) ?_
      refine lv_if_ne (tgt := 17) hx hb dX8_markOn_12 (by decide) (fun c_15 => absurd (by decide) c_15) (fun c_15 => ?_)
      refine lv_iconst (v := (-1)) hx hb dX8_markOn_15 (by decide) ?_
      exact W.iret (v := (-1)) hx hb hr (fun t ht hW => ⟨(-1), rfl, (by have hl0 := t_m1; (try dsimp only); first | exact Or.inl ⟨by omega, by omega⟩ | exact Or.inr ⟨by omega, by omega⟩), ht⟩) (fun q h => by cases h) dX8_markOn_16
  ·
    refine W_top (y := .int 0) (by rw [hr_1]) ?_
    refine lv_if_eq (tgt := 15) hx hb dX8_markOn_4 (by decide) (fun c_16 => ?_) (fun c_16 => absurd (by decide) c_16)
    refine lv_iconst (v := (-1)) hx hb dX8_markOn_15 (by decide) ?_
    exact W.iret (v := (-1)) hx hb hr (fun t ht hW => ⟨(-1), rfl, (by have hl0 := t_m1; (try dsimp only); first | exact Or.inl ⟨by omega, by omega⟩ | exact Or.inr ⟨by omega, by omega⟩), ht⟩) (fun q h => by cases h) dX8_markOn_16
set_option maxHeartbeats 4000000 in
set_option maxRecDepth 100000 in
theorem g_X8_markOn_W (l : Launch) (D : va_G) (E : Nat → Nat) (xh : Nat) (xa : Nat → Nat) (xtrialRule : Nat) (xdropRule : Nat) (xtoday : Int32) (xf1 : Nat → Int32) (xf3 : Nat → Option Nat) (wh : Nat) (wa : Nat → Nat) (wf2 : Nat → Int32) (p0 : Int32) (p1 : Int32) (p2 : Int32) (sz : Nat) (hi_x : (0 ≤ xtoday.toInt ∧ xtoday.toInt ≤ 399)) (hk0 : (0 ≤ p0.toInt ∧ p0.toInt ≤ 15 ∧ ((xf1 (p0).toNatClampNeg).toInt = 0 ∨ (xf1 (p0).toNatClampNeg).toInt = 1))) (hw0 : xf3 (p0).toNatClampNeg = some wh) : Met l yX8_markOn (wl yX8_markOn cX8_markOn 5 (some .int)) (RM 3 0 0) (mu_P D E [.ref xh, .int p0, .int p1, .int p2] [(xh, .inr (8, G8 xa xtrialRule xdropRule xtoday)), ((xa 1), .inl (E 0, 16, .inl xf1)), ((xa 3), .inl (E 3, 16, .inr (.inr (.inr (.inr xf3))))), (wh, .inr (7, G7 wa)), ((wa 2), .inl (E 0, 400, .inl wf2))] sz) (va_Qi (fun (r : Int32) (u : (Nat → Int32)) => ((¬ (0 ≤ p1.toInt ∧ p1.toInt ≤ xtoday.toInt) ∧ r.toInt = -1 ∧ u = wf2) ∨ ((0 ≤ p1.toInt ∧ p1.toInt ≤ xtoday.toInt) ∧ ((wf2 (p1).toNatClampNeg) &&& p2).toInt ≠ 0 ∧ r.toInt = 0 ∧ u = wf2) ∨ ((0 ≤ p1.toInt ∧ p1.toInt ≤ xtoday.toInt) ∧ ¬ ((wf2 (p1).toNatClampNeg) &&& p2).toInt ≠ 0 ∧ r.toInt = 1 ∧ u = upd wf2 (p1).toNatClampNeg ((wf2 (p1).toNatClampNeg) ||| p2)))) (mu_B D (va_A [(xh, .inr (8, G8 xa xtrialRule xdropRule xtoday)), ((xa 1), .inl (E 0, 16, .inl xf1)), ((xa 3), .inl (E 3, 16, .inr (.inr (.inr (.inr xf3))))), (wh, .inr (7, G7 wa)), ((wa 2), .inl (E 0, 400, .inl wf2))] sz) (fun (u : (Nat → Int32)) => [(xh, .inr (8, G8 xa xtrialRule xdropRule xtoday)), ((xa 1), .inl (E 0, 16, .inl xf1)), ((xa 3), .inl (E 3, 16, .inr (.inr (.inr (.inr xf3))))), (wh, .inr (7, G7 wa)), ((wa 2), .inl (E 0, 400, .inl u))])) (va_A [(xh, .inr (8, G8 xa xtrialRule xdropRule xtoday)), ((xa 1), .inl (E 0, 16, .inl xf1)), ((xa 3), .inl (E 3, 16, .inr (.inr (.inr (.inr xf3))))), (wh, .inr (7, G7 wa)), ((wa 2), .inl (E 0, 400, .inl wf2))] sz)) 0 0 (va_A [(xh, .inr (8, G8 xa xtrialRule xdropRule xtoday)), ((xa 1), .inl (E 0, 16, .inl xf1)), ((xa 3), .inl (E 3, 16, .inr (.inr (.inr (.inr xf3))))), (wh, .inr (7, G7 wa)), ((wa 2), .inl (E 0, 400, .inl wf2))] sz) := by
  refine Met.ofW (cc := cX8_markOn) (maxL := 5) (ret := (some .int)) (by decide) rfl ?_
  intro p e s m args below meth c s₁ B hml hv
  obtain ⟨rfl, hsz, hP, hK, hD0⟩ := hv
  have hx := B.exec; have hb := B.bytes; have hr := B.returns
  have hts := atoms_spec (ws := wl yX8_markOn cX8_markOn 5 (some .int)) B.pre
  have htb : ∀ w ∈ tb, w.before _ s = true := fun w h => hts w (List.mem_cons_of_mem _ h)
  have hown : s.vm.findClass RX8 = some m.cls := findClass_of_methodNamed B.named
  have hlocks := B.notSynchronized
  subst hsz
  have hD := hD0.self (sz := s.heap.size)
  generalize hAe : va_A [(xh, .inr (8, G8 xa xtrialRule xdropRule xtoday)), ((xa 1), .inl (E 0, 16, .inl xf1)), ((xa 3), .inl (E 3, 16, .inr (.inr (.inr (.inr xf3))))), (wh, .inr (7, G7 wa)), ((wa 2), .inl (E 0, 400, .inl wf2))] s.heap.size = A at hD ⊢
  have hA : ∀ q : Nat, s.heap.size ≤ q → A q := fun q h => by rw [← hAe]; exact Or.inr h
  have hS : va_S A s.heap s.heap [] := va_S.rf
  have hP : va_P D vwCl [(xh, .inr (8, G8 xa xtrialRule xdropRule xtoday)), ((xa 1), .inl (E 0, 16, .inl xf1)), ((xa 3), .inl (E 3, 16, .inr (.inr (.inr (.inr xf3))))), (wh, .inr (7, G7 wa)), ((wa 2), .inl (E 0, 400, .inl wf2))] s.heap := hP
  have hl := lv_entry ([.ref xh, .int p0, .int p1, .int p2]) (n := 5) (Nat.le_of_ble_eq_true rfl)
  rw [lg_entry_eq]
  generalize (lg_sl ([.ref xh, .int p0, .int p1, .int p2]) ++ List.replicate (5 - (lg_sl ([.ref xh, .int p0, .int p1, .int p2])).length) Slot.unset).toArray = ls at hl ⊢
  have hl : lv_has ls 5 [(0, .ref xh), (1, .int p0), (2, .int p1), (3, .int p2)] := hl
  have lo_p0 := i_lo p0; have hi_p0 := i_hi p0
  have lo_p1 := i_lo p1; have hi_p1 := i_hi p1
  have lo_p2 := i_lo p2; have hi_p2 := i_hi p2
  refine lv_iload_n hx hb dX8_markOn_0 rfl (lv_at hl 1 rfl) ?_
  refine callRS (rest := []) (As := [.int p0]) hx hb hml hown htb hK (g_X8_isPlace l D E p0 ) ok_X8_isPlace k_333 k_334 k_1 k_335 ⟨(Nat.le_of_ble_eq_true rfl), (Nat.le_of_ble_eq_true rfl)⟩ ⟨(Nat.le_of_ble_eq_true rfl), (Nat.le_of_ble_eq_true rfl)⟩ hl.1 (Nat.le_of_ble_eq_true rfl) rfl rfl dX8_markOn_1 (hP.sub (ws' := ([] : va_W)) [] rfl) (fun r_1 hw_2 => ?_)
  rcases hw_2 with ⟨hr_1, hw_2⟩ | ⟨hr_1, hw_2⟩
  ·
    refine W_top (y := .int 1) (by rw [hr_1]) ?_
    refine lv_if_eq (tgt := 15) hx hb dX8_markOn_4 (by decide) (fun c_4 => absurd c_4 (by decide)) (fun c_4 => ?_)
    refine lv_aload_n hx hb dX8_markOn_7 rfl (lv_at hl 0 rfl) ?_
    refine lv_iload_n hx hb dX8_markOn_8 rfl (lv_at hl 2 rfl) ?_
    refine callRV (rest := []) (As := [.int p1]) hx hb hml hown htb hK (g_X8_isPast l D E xh xa xtrialRule xdropRule xtoday p1 (by (try dsimp only); omega)) ok_X8_isPast k_391 k_393 ks_2 k_1 k_394 ⟨(Nat.le_of_ble_eq_true rfl), (Nat.le_of_ble_eq_true rfl)⟩ ⟨(Nat.le_of_ble_eq_true rfl), (Nat.le_of_ble_eq_true rfl)⟩ hl.1 (Nat.le_of_ble_eq_true rfl) rfl rfl dX8_markOn_9 (hP.sub (ws' := [(xh, .inr (8, G8 xa xtrialRule xdropRule xtoday))]) [0] rfl) rfl rfl 0 rfl (fun r_5 hw_6 => ?_)
    rcases hw_6 with ⟨hr_5, hw_6⟩ | ⟨hr_5, hw_6⟩
    ·
      refine W_top (y := .int 1) (by rw [hr_5]) ?_
      refine lv_if_ne (tgt := 17) hx hb dX8_markOn_12 (by decide) (fun c_8 => ?_) (fun c_8 => absurd c_8 (by decide))
      refine lv_aload_n hx hb dX8_markOn_17 rfl (lv_at hl 0 rfl) ?_
      refine lv_iload_n hx hb dX8_markOn_18 rfl (lv_at hl 1 rfl) ?_
      refine rr_call (runRV (rest := []) (As := [.int p0]) hx hb hml hown htb (g_X8_watchAt_W l D E xh xa xtrialRule xdropRule xtoday xf1 xf3 wh wa p0 (by (try dsimp only); omega) hk0 hw0) ok_X8_watchAt k_369 k_371 ks_1 k_1 k_372 ⟨(Nat.le_of_ble_eq_true rfl), (Nat.le_of_ble_eq_true rfl)⟩ ⟨(Nat.le_of_ble_eq_true rfl), (Nat.le_of_ble_eq_true rfl)⟩ hl.1 (Nat.le_of_ble_eq_true rfl) rfl rfl dX8_markOn_19 (prV (hP.sub (ws' := [(xh, .inr (8, G8 xa xtrialRule xdropRule xtoday)), ((xa 1), .inl (E 0, 16, .inl xf1)), ((xa 3), .inl (E 3, 16, .inr (.inr (.inr (.inr xf3))))), (wh, .inr (7, G7 wa))]) [0, 1, 2, 3] rfl) hK rfl rfl 0 rfl)) ?_
      refine lv_astore (lv' := [(4, .ref wh), (0, .ref xh), (1, .int p0), (2, .int p1), (3, .int p2)]) hx hb dX8_markOn_22 hl (by decide) rfl (fun ls hl => ?_)
      refine lv_aload hx hb dX8_markOn_24 (lv_at hl 0 rfl) ?_
      refine lv_ifnonnull (tgt := 35) hx hb dX8_markOn_26 (by decide) ?_
      refine lv_aload hx hb dX8_markOn_35 (lv_at hl 0 rfl) ?_
      refine lv_iload_n hx hb dX8_markOn_37 rfl (lv_at hl 3 rfl) ?_
      refine lv_iload_n hx hb dX8_markOn_38 rfl (lv_at hl 4 rfl) ?_
      have hPc := hP.sub (ws' := [(wh, .inr (7, G7 wa)), ((wa 2), .inl (E 0, 400, .inl wf2))]) [3, 4] rfl
      have hDc := hD.sub (ws' := [(wh, .inr (7, G7 wa)), ((wa 2), .inl (E 0, 400, .inl wf2))]) [3, 4] (by decide) rfl
      refine aft_i (runMV (rest := []) (As := [.int p1, .int p2]) hx hb hml hown htb hK (g_X7_addMark l D E wh wa wf2 p1 p2 _ ) ok_X7_addMark k_451 k_452 k_453 k_10 k_454 ⟨(Nat.le_of_ble_eq_true rfl), (Nat.le_of_ble_eq_true rfl)⟩ ⟨(Nat.le_of_ble_eq_true rfl), (Nat.le_of_ble_eq_true rfl)⟩ hl.1 (Nat.le_of_ble_eq_true rfl) rfl rfl dX8_markOn_39 hPc hDc rfl rfl 0 rfl) hP hD hS hA [3, 4] [0, 1, 2] (wr := [(xh, .inr (8, G8 xa xtrialRule xdropRule xtoday)), ((xa 1), .inl (E 0, 16, .inl xf1)), ((xa 3), .inl (E 3, 16, .inr (.inr (.inr (.inr xf3)))))]) rfl rfl (by decide) (by decide) (fun r_12 u_14 H locs hw_13 hP hD hS => ?_)
      clear hPc hDc
      have hP : va_P D vwCl [(xh, .inr (8, G8 xa xtrialRule xdropRule xtoday)), ((xa 1), .inl (E 0, 16, .inl xf1)), ((xa 3), .inl (E 3, 16, .inr (.inr (.inr (.inr xf3))))), (wh, .inr (7, G7 wa)), ((wa 2), .inl (E 0, 400, .inl u_14))] H := hP
      have hD := toW hP hD rfl
      have hw_13M : (r_12.toInt = 1 ∧ ((wf2 (p1).toNatClampNeg) &&& p2).toInt = 0 ∧ u_14 = upd wf2 (p1).toNatClampNeg ((wf2 (p1).toNatClampNeg) ||| p2)) ∨ (r_12.toInt = 0 ∧ ((wf2 (p1).toNatClampNeg) &&& p2).toInt ≠ 0 ∧ u_14 = wf2) := by rcases hw_13 with ⟨h1, h2, h3, h4⟩ | ⟨h1, h2, h3⟩; exact Or.inl ⟨h1, by omega, h4⟩; exact Or.inr ⟨h1, by have := h2 (by omega); omega, h3⟩
      clear hw_13
      refine lv_if_eq (tgt := 49) hx hb dX8_markOn_42 (by decide) (fun c_15 => ?_) (fun c_15 => ?_)
      ·
        have ic_15 : r_12.toInt = 0 := (g_eq rfl t_0).mp c_15
        clear c_15
        refine lv_iconst (v := 0) hx hb dX8_markOn_49 (by decide) ?_
        have hP9 := hP.sub (ws' := [(xh, .inr (8, G8 xa xtrialRule xdropRule xtoday)), ((xa 1), .inl (E 0, 16, .inl xf1)), ((xa 3), .inl (E 3, 16, .inr (.inr (.inr (.inr xf3))))), (wh, .inr (7, G7 wa)), ((wa 2), .inl (E 0, 400, .inl u_14))]) [0, 1, 2, 3, 4] rfl
        have hD9 := hD.sub (ws' := [(xh, .inr (8, G8 xa xtrialRule xdropRule xtoday)), ((xa 1), .inl (E 0, 16, .inl xf1)), ((xa 3), .inl (E 3, 16, .inr (.inr (.inr (.inr xf3))))), (wh, .inr (7, G7 wa)), ((wa 2), .inl (E 0, 400, .inl u_14))]) [0, 1, 2, 3, 4] (by decide) rfl
        exact W.iret (v := 0) hx hb hr (fun t ht hW => ⟨⟨0, u_14, rfl, (by have hl0 := t_0; rcases hw_13M with ⟨h1, h2, h3⟩ | ⟨h1, h2, h3⟩ <;> first | (exfalso; omega) | exact Or.inr (Or.inr ⟨by omega, by omega, by omega, h3⟩) | exact Or.inr (Or.inl ⟨by omega, by omega, by omega, h3⟩)), by rw [ht]; exact hP9, hD9⟩, hS.F ht⟩) hS.2.2 dX8_markOn_50
      ·
        have ic_15 : r_12.toInt ≠ 0 := mt (g_eq rfl t_0).mpr c_15
        clear c_15
        refine lv_iconst (v := 1) hx hb dX8_markOn_45 (by decide) ?_
        refine lv_goto (tgt := 50) hx hb dX8_markOn_46 (by decide) ?_
        have hP9 := hP.sub (ws' := [(xh, .inr (8, G8 xa xtrialRule xdropRule xtoday)), ((xa 1), .inl (E 0, 16, .inl xf1)), ((xa 3), .inl (E 3, 16, .inr (.inr (.inr (.inr xf3))))), (wh, .inr (7, G7 wa)), ((wa 2), .inl (E 0, 400, .inl u_14))]) [0, 1, 2, 3, 4] rfl
        have hD9 := hD.sub (ws' := [(xh, .inr (8, G8 xa xtrialRule xdropRule xtoday)), ((xa 1), .inl (E 0, 16, .inl xf1)), ((xa 3), .inl (E 3, 16, .inr (.inr (.inr (.inr xf3))))), (wh, .inr (7, G7 wa)), ((wa 2), .inl (E 0, 400, .inl u_14))]) [0, 1, 2, 3, 4] (by decide) rfl
        exact W.iret (v := 1) hx hb hr (fun t ht hW => ⟨⟨1, u_14, rfl, (by have hl0 := t_1; rcases hw_13M with ⟨h1, h2, h3⟩ | ⟨h1, h2, h3⟩ <;> first | (exfalso; omega) | exact Or.inr (Or.inr ⟨by omega, by omega, by omega, h3⟩) | exact Or.inr (Or.inl ⟨by omega, by omega, by omega, h3⟩)), by rw [ht]; exact hP9, hD9⟩, hS.F ht⟩) hS.2.2 dX8_markOn_50
    ·
      refine W_top (y := .int 0) (by rw [hr_5]) ?_
      refine lv_if_ne (tgt := 17) hx hb dX8_markOn_12 (by decide) (fun c_16 => absurd (by decide) c_16) (fun c_16 => ?_)
      refine lv_iconst (v := (-1)) hx hb dX8_markOn_15 (by decide) ?_
      have hP9 := hP.sub (ws' := [(xh, .inr (8, G8 xa xtrialRule xdropRule xtoday)), ((xa 1), .inl (E 0, 16, .inl xf1)), ((xa 3), .inl (E 3, 16, .inr (.inr (.inr (.inr xf3))))), (wh, .inr (7, G7 wa)), ((wa 2), .inl (E 0, 400, .inl wf2))]) [0, 1, 2, 3, 4] rfl
      have hD9 := hD.sub (ws' := [(xh, .inr (8, G8 xa xtrialRule xdropRule xtoday)), ((xa 1), .inl (E 0, 16, .inl xf1)), ((xa 3), .inl (E 3, 16, .inr (.inr (.inr (.inr xf3))))), (wh, .inr (7, G7 wa)), ((wa 2), .inl (E 0, 400, .inl wf2))]) [0, 1, 2, 3, 4] (by decide) rfl
      exact W.iret (v := (-1)) hx hb hr (fun t ht hW => ⟨⟨(-1), wf2, rfl, (by have hl0 := t_m1; exact Or.inl ⟨by omega, by omega, rfl⟩), by rw [ht]; exact hP9, hD9⟩, hS.F ht⟩) hS.2.2 dX8_markOn_16
  ·
    refine W_top (y := .int 0) (by rw [hr_1]) ?_
    refine lv_if_eq (tgt := 15) hx hb dX8_markOn_4 (by decide) (fun c_17 => ?_) (fun c_17 => absurd (by decide) c_17)
    refine lv_iconst (v := (-1)) hx hb dX8_markOn_15 (by decide) ?_
    have hP9 := hP.sub (ws' := [(xh, .inr (8, G8 xa xtrialRule xdropRule xtoday)), ((xa 1), .inl (E 0, 16, .inl xf1)), ((xa 3), .inl (E 3, 16, .inr (.inr (.inr (.inr xf3))))), (wh, .inr (7, G7 wa)), ((wa 2), .inl (E 0, 400, .inl wf2))]) [0, 1, 2, 3, 4] rfl
    have hD9 := hD.sub (ws' := [(xh, .inr (8, G8 xa xtrialRule xdropRule xtoday)), ((xa 1), .inl (E 0, 16, .inl xf1)), ((xa 3), .inl (E 3, 16, .inr (.inr (.inr (.inr xf3))))), (wh, .inr (7, G7 wa)), ((wa 2), .inl (E 0, 400, .inl wf2))]) [0, 1, 2, 3, 4] (by decide) rfl
    exact W.iret (v := (-1)) hx hb hr (fun t ht hW => ⟨⟨(-1), wf2, rfl, (by have hl0 := t_m1; exact Or.inl ⟨by omega, by omega, rfl⟩), by rw [ht]; exact hP9, hD9⟩, hS.F ht⟩) hS.2.2 dX8_markOn_16
set_option maxHeartbeats 4000000 in
set_option maxRecDepth 100000 in
theorem g_X8_repair_N (l : Launch) (D : va_G) (E : Nat → Nat) (xh : Nat) (xa : Nat → Nat) (xtrialRule : Nat) (xdropRule : Nat) (xtoday : Int32) (xf1 : Nat → Int32) (xf3 : Nat → Option Nat) (p0 : Int32) (p1 : Int32) (hi_x : (0 ≤ xtoday.toInt ∧ xtoday.toInt ≤ 399)) (hn0 : ¬ (0 ≤ p0.toInt ∧ p0.toInt ≤ 15 ∧ ((xf1 (p0).toNatClampNeg).toInt = 0 ∨ (xf1 (p0).toNatClampNeg).toInt = 1))) : Met l yX8_repair (wl yX8_repair cX8_repair 3 (some .int)) (RM 3 0 0) (rd_P D E [.ref xh, .int p0, .int p1] [(xh, .inr (8, G8 xa xtrialRule xdropRule xtoday)), ((xa 1), .inl (E 0, 16, .inl xf1)), ((xa 3), .inl (E 3, 16, .inr (.inr (.inr (.inr xf3)))))]) (rd_Q (fun r => ((r.toInt = -1 ∧ ¬ ((0 ≤ p0.toInt ∧ p0.toInt ≤ 15) ∧ (0 ≤ p1.toInt ∧ p1.toInt ≤ xtoday.toInt))) ∨ (((0 ≤ p0.toInt ∧ p0.toInt ≤ 15) ∧ (0 ≤ p1.toInt ∧ p1.toInt ≤ xtoday.toInt)) ∧ (((xf1 (p0).toNatClampNeg).toInt = -5 ∧ r.toInt = -2) ∨ ((xf1 (p0).toNatClampNeg).toInt ≠ -5 ∧ r.toInt = -3)))))) 0 0 (fun _ => False) := by
  refine Met.ofW (cc := cX8_repair) (maxL := 3) (ret := (some .int)) (by decide) rfl ?_
  intro p e s m args below meth c s₁ B hml hv
  obtain ⟨rfl, hP, hK⟩ := hv
  have hx := B.exec; have hb := B.bytes; have hr := B.returns
  have hts := atoms_spec (ws := wl yX8_repair cX8_repair 3 (some .int)) B.pre
  have htb : ∀ w ∈ tb, w.before _ s = true := fun w h => hts w (List.mem_cons_of_mem _ h)
  have hown : s.vm.findClass RX8 = some m.cls := findClass_of_methodNamed B.named
  have hlocks := B.notSynchronized
  have hP : va_P D vwCl [(xh, .inr (8, G8 xa xtrialRule xdropRule xtoday)), ((xa 1), .inl (E 0, 16, .inl xf1)), ((xa 3), .inl (E 3, 16, .inr (.inr (.inr (.inr xf3)))))] s.heap := hP
  have hl := lv_entry ([.ref xh, .int p0, .int p1]) (n := 3) (Nat.le_of_ble_eq_true rfl)
  rw [lg_entry_eq]
  generalize (lg_sl ([.ref xh, .int p0, .int p1]) ++ List.replicate (3 - (lg_sl ([.ref xh, .int p0, .int p1])).length) Slot.unset).toArray = ls at hl ⊢
  have hl : lv_has ls 3 [(0, .ref xh), (1, .int p0), (2, .int p1)] := hl
  have lo_p0 := i_lo p0; have hi_p0 := i_hi p0
  have lo_p1 := i_lo p1; have hi_p1 := i_hi p1
  refine lv_aload_n hx hb dX8_repair_0 rfl (lv_at hl 0 rfl) ?_
  refine lv_iload_n hx hb dX8_repair_1 rfl (lv_at hl 1 rfl) ?_
  refine lv_iload_n hx hb dX8_repair_2 rfl (lv_at hl 2 rfl) ?_
  refine lv_iconst (v := 1) hx hb dX8_repair_3 (by decide) ?_
  refine callRV (rest := []) (As := [.int p0, .int p1, .int 1]) hx hb hml hown htb hK (g_X8_markOn_N l D E xh xa xtrialRule xdropRule xtoday xf1 xf3 p0 p1 1 (by (try dsimp only); omega) hn0) ok_X8_markOn k_447 k_449 ks_4 k_1 k_450 ⟨(Nat.le_of_ble_eq_true rfl), (Nat.le_of_ble_eq_true rfl)⟩ ⟨(Nat.le_of_ble_eq_true rfl), (Nat.le_of_ble_eq_true rfl)⟩ hl.1 (Nat.le_of_ble_eq_true rfl) rfl rfl dX8_repair_4 (hP.sub (ws' := [(xh, .inr (8, G8 xa xtrialRule xdropRule xtoday)), ((xa 1), .inl (E 0, 16, .inl xf1)), ((xa 3), .inl (E 3, 16, .inr (.inr (.inr (.inr xf3)))))]) [0, 1, 2] rfl) rfl rfl 0 rfl (fun r_1 hw_2 => ?_)
  try simp only [t_1] at hw_2
  exact W.iret (v := r_1) hx hb hr (fun t ht hW => ⟨r_1, rfl, hw_2, ht⟩) (fun q h => by cases h) dX8_repair_7
set_option maxHeartbeats 4000000 in
set_option maxRecDepth 100000 in
theorem g_X8_repair_W (l : Launch) (D : va_G) (E : Nat → Nat) (xh : Nat) (xa : Nat → Nat) (xtrialRule : Nat) (xdropRule : Nat) (xtoday : Int32) (xf1 : Nat → Int32) (xf3 : Nat → Option Nat) (wh : Nat) (wa : Nat → Nat) (wf2 : Nat → Int32) (p0 : Int32) (p1 : Int32) (sz : Nat) (hi_x : (0 ≤ xtoday.toInt ∧ xtoday.toInt ≤ 399)) (hk0 : (0 ≤ p0.toInt ∧ p0.toInt ≤ 15 ∧ ((xf1 (p0).toNatClampNeg).toInt = 0 ∨ (xf1 (p0).toNatClampNeg).toInt = 1))) (hw0 : xf3 (p0).toNatClampNeg = some wh) : Met l yX8_repair (wl yX8_repair cX8_repair 3 (some .int)) (RM 4 0 0) (mu_P D E [.ref xh, .int p0, .int p1] [(xh, .inr (8, G8 xa xtrialRule xdropRule xtoday)), ((xa 1), .inl (E 0, 16, .inl xf1)), ((xa 3), .inl (E 3, 16, .inr (.inr (.inr (.inr xf3))))), (wh, .inr (7, G7 wa)), ((wa 2), .inl (E 0, 400, .inl wf2))] sz) (va_Qi (fun (r : Int32) (u : (Nat → Int32)) => ((¬ (0 ≤ p1.toInt ∧ p1.toInt ≤ xtoday.toInt) ∧ r.toInt = -1 ∧ u = wf2) ∨ ((0 ≤ p1.toInt ∧ p1.toInt ≤ xtoday.toInt) ∧ ((wf2 (p1).toNatClampNeg) &&& 1).toInt ≠ 0 ∧ r.toInt = 0 ∧ u = wf2) ∨ ((0 ≤ p1.toInt ∧ p1.toInt ≤ xtoday.toInt) ∧ ¬ ((wf2 (p1).toNatClampNeg) &&& 1).toInt ≠ 0 ∧ r.toInt = 1 ∧ u = upd wf2 (p1).toNatClampNeg ((wf2 (p1).toNatClampNeg) ||| 1)))) (mu_B D (va_A [(xh, .inr (8, G8 xa xtrialRule xdropRule xtoday)), ((xa 1), .inl (E 0, 16, .inl xf1)), ((xa 3), .inl (E 3, 16, .inr (.inr (.inr (.inr xf3))))), (wh, .inr (7, G7 wa)), ((wa 2), .inl (E 0, 400, .inl wf2))] sz) (fun (u : (Nat → Int32)) => [(xh, .inr (8, G8 xa xtrialRule xdropRule xtoday)), ((xa 1), .inl (E 0, 16, .inl xf1)), ((xa 3), .inl (E 3, 16, .inr (.inr (.inr (.inr xf3))))), (wh, .inr (7, G7 wa)), ((wa 2), .inl (E 0, 400, .inl u))])) (va_A [(xh, .inr (8, G8 xa xtrialRule xdropRule xtoday)), ((xa 1), .inl (E 0, 16, .inl xf1)), ((xa 3), .inl (E 3, 16, .inr (.inr (.inr (.inr xf3))))), (wh, .inr (7, G7 wa)), ((wa 2), .inl (E 0, 400, .inl wf2))] sz)) 0 0 (va_A [(xh, .inr (8, G8 xa xtrialRule xdropRule xtoday)), ((xa 1), .inl (E 0, 16, .inl xf1)), ((xa 3), .inl (E 3, 16, .inr (.inr (.inr (.inr xf3))))), (wh, .inr (7, G7 wa)), ((wa 2), .inl (E 0, 400, .inl wf2))] sz) := by
  refine Met.ofW (cc := cX8_repair) (maxL := 3) (ret := (some .int)) (by decide) rfl ?_
  intro p e s m args below meth c s₁ B hml hv
  obtain ⟨rfl, hsz, hP, hK, hD0⟩ := hv
  have hx := B.exec; have hb := B.bytes; have hr := B.returns
  have hts := atoms_spec (ws := wl yX8_repair cX8_repair 3 (some .int)) B.pre
  have htb : ∀ w ∈ tb, w.before _ s = true := fun w h => hts w (List.mem_cons_of_mem _ h)
  have hown : s.vm.findClass RX8 = some m.cls := findClass_of_methodNamed B.named
  have hlocks := B.notSynchronized
  subst hsz
  have hD := hD0.self (sz := s.heap.size)
  generalize hAe : va_A [(xh, .inr (8, G8 xa xtrialRule xdropRule xtoday)), ((xa 1), .inl (E 0, 16, .inl xf1)), ((xa 3), .inl (E 3, 16, .inr (.inr (.inr (.inr xf3))))), (wh, .inr (7, G7 wa)), ((wa 2), .inl (E 0, 400, .inl wf2))] s.heap.size = A at hD ⊢
  have hA : ∀ q : Nat, s.heap.size ≤ q → A q := fun q h => by rw [← hAe]; exact Or.inr h
  have hS : va_S A s.heap s.heap [] := va_S.rf
  have hP : va_P D vwCl [(xh, .inr (8, G8 xa xtrialRule xdropRule xtoday)), ((xa 1), .inl (E 0, 16, .inl xf1)), ((xa 3), .inl (E 3, 16, .inr (.inr (.inr (.inr xf3))))), (wh, .inr (7, G7 wa)), ((wa 2), .inl (E 0, 400, .inl wf2))] s.heap := hP
  have hl := lv_entry ([.ref xh, .int p0, .int p1]) (n := 3) (Nat.le_of_ble_eq_true rfl)
  rw [lg_entry_eq]
  generalize (lg_sl ([.ref xh, .int p0, .int p1]) ++ List.replicate (3 - (lg_sl ([.ref xh, .int p0, .int p1])).length) Slot.unset).toArray = ls at hl ⊢
  have hl : lv_has ls 3 [(0, .ref xh), (1, .int p0), (2, .int p1)] := hl
  have lo_p0 := i_lo p0; have hi_p0 := i_hi p0
  have lo_p1 := i_lo p1; have hi_p1 := i_hi p1
  refine lv_aload_n hx hb dX8_repair_0 rfl (lv_at hl 0 rfl) ?_
  refine lv_iload_n hx hb dX8_repair_1 rfl (lv_at hl 1 rfl) ?_
  refine lv_iload_n hx hb dX8_repair_2 rfl (lv_at hl 2 rfl) ?_
  refine lv_iconst (v := 1) hx hb dX8_repair_3 (by decide) ?_
  have hPc := hP.sub (ws' := [(xh, .inr (8, G8 xa xtrialRule xdropRule xtoday)), ((xa 1), .inl (E 0, 16, .inl xf1)), ((xa 3), .inl (E 3, 16, .inr (.inr (.inr (.inr xf3))))), (wh, .inr (7, G7 wa)), ((wa 2), .inl (E 0, 400, .inl wf2))]) [0, 1, 2, 3, 4] rfl
  have hDc := hD.sub (ws' := [(xh, .inr (8, G8 xa xtrialRule xdropRule xtoday)), ((xa 1), .inl (E 0, 16, .inl xf1)), ((xa 3), .inl (E 3, 16, .inr (.inr (.inr (.inr xf3))))), (wh, .inr (7, G7 wa)), ((wa 2), .inl (E 0, 400, .inl wf2))]) [0, 1, 2, 3, 4] (by decide) rfl
  refine aft_i (runMV (rest := []) (As := [.int p0, .int p1, .int 1]) hx hb hml hown htb hK (g_X8_markOn_W l D E xh xa xtrialRule xdropRule xtoday xf1 xf3 wh wa wf2 p0 p1 1 _ (by (try dsimp only); omega) hk0 hw0) ok_X8_markOn k_447 k_449 ks_4 k_1 k_450 ⟨(Nat.le_of_ble_eq_true rfl), (Nat.le_of_ble_eq_true rfl)⟩ ⟨(Nat.le_of_ble_eq_true rfl), (Nat.le_of_ble_eq_true rfl)⟩ hl.1 (Nat.le_of_ble_eq_true rfl) rfl rfl dX8_repair_4 hPc hDc rfl rfl 0 rfl) hP hD hS hA [0, 1, 2, 3, 4] [] (wr := ([] : va_W)) rfl rfl (by decide) (by decide) (fun r_1 u_3 H locs hw_2 hP hD hS => ?_)
  clear hPc hDc
  have hP : va_P D vwCl [(xh, .inr (8, G8 xa xtrialRule xdropRule xtoday)), ((xa 1), .inl (E 0, 16, .inl xf1)), ((xa 3), .inl (E 3, 16, .inr (.inr (.inr (.inr xf3))))), (wh, .inr (7, G7 wa)), ((wa 2), .inl (E 0, 400, .inl u_3))] H := hP
  have hD := toW hP hD rfl
  try simp only [t_1] at hw_2
  have hP9 := hP.sub (ws' := [(xh, .inr (8, G8 xa xtrialRule xdropRule xtoday)), ((xa 1), .inl (E 0, 16, .inl xf1)), ((xa 3), .inl (E 3, 16, .inr (.inr (.inr (.inr xf3))))), (wh, .inr (7, G7 wa)), ((wa 2), .inl (E 0, 400, .inl u_3))]) [0, 1, 2, 3, 4] rfl
  have hD9 := hD.sub (ws' := [(xh, .inr (8, G8 xa xtrialRule xdropRule xtoday)), ((xa 1), .inl (E 0, 16, .inl xf1)), ((xa 3), .inl (E 3, 16, .inr (.inr (.inr (.inr xf3))))), (wh, .inr (7, G7 wa)), ((wa 2), .inl (E 0, 400, .inl u_3))]) [0, 1, 2, 3, 4] (by decide) rfl
  exact W.iret (v := r_1) hx hb hr (fun t ht hW => ⟨⟨r_1, u_3, rfl, hw_2, by rw [ht]; exact hP9, hD9⟩, hS.F ht⟩) hS.2.2 dX8_repair_7
set_option maxHeartbeats 4000000 in
set_option maxRecDepth 100000 in
theorem g_X8_late_N (l : Launch) (D : va_G) (E : Nat → Nat) (xh : Nat) (xa : Nat → Nat) (xtrialRule : Nat) (xdropRule : Nat) (xtoday : Int32) (xf1 : Nat → Int32) (xf3 : Nat → Option Nat) (p0 : Int32) (p1 : Int32) (hi_x : (0 ≤ xtoday.toInt ∧ xtoday.toInt ≤ 399)) (hn0 : ¬ (0 ≤ p0.toInt ∧ p0.toInt ≤ 15 ∧ ((xf1 (p0).toNatClampNeg).toInt = 0 ∨ (xf1 (p0).toNatClampNeg).toInt = 1))) : Met l yX8_late (wl yX8_late cX8_late 3 (some .int)) (RM 3 0 0) (rd_P D E [.ref xh, .int p0, .int p1] [(xh, .inr (8, G8 xa xtrialRule xdropRule xtoday)), ((xa 1), .inl (E 0, 16, .inl xf1)), ((xa 3), .inl (E 3, 16, .inr (.inr (.inr (.inr xf3)))))]) (rd_Q (fun r => ((r.toInt = -1 ∧ ¬ ((0 ≤ p0.toInt ∧ p0.toInt ≤ 15) ∧ (0 ≤ p1.toInt ∧ p1.toInt ≤ xtoday.toInt))) ∨ (((0 ≤ p0.toInt ∧ p0.toInt ≤ 15) ∧ (0 ≤ p1.toInt ∧ p1.toInt ≤ xtoday.toInt)) ∧ (((xf1 (p0).toNatClampNeg).toInt = -5 ∧ r.toInt = -2) ∨ ((xf1 (p0).toNatClampNeg).toInt ≠ -5 ∧ r.toInt = -3)))))) 0 0 (fun _ => False) := by
  refine Met.ofW (cc := cX8_late) (maxL := 3) (ret := (some .int)) (by decide) rfl ?_
  intro p e s m args below meth c s₁ B hml hv
  obtain ⟨rfl, hP, hK⟩ := hv
  have hx := B.exec; have hb := B.bytes; have hr := B.returns
  have hts := atoms_spec (ws := wl yX8_late cX8_late 3 (some .int)) B.pre
  have htb : ∀ w ∈ tb, w.before _ s = true := fun w h => hts w (List.mem_cons_of_mem _ h)
  have hown : s.vm.findClass RX8 = some m.cls := findClass_of_methodNamed B.named
  have hlocks := B.notSynchronized
  have hP : va_P D vwCl [(xh, .inr (8, G8 xa xtrialRule xdropRule xtoday)), ((xa 1), .inl (E 0, 16, .inl xf1)), ((xa 3), .inl (E 3, 16, .inr (.inr (.inr (.inr xf3)))))] s.heap := hP
  have hl := lv_entry ([.ref xh, .int p0, .int p1]) (n := 3) (Nat.le_of_ble_eq_true rfl)
  rw [lg_entry_eq]
  generalize (lg_sl ([.ref xh, .int p0, .int p1]) ++ List.replicate (3 - (lg_sl ([.ref xh, .int p0, .int p1])).length) Slot.unset).toArray = ls at hl ⊢
  have hl : lv_has ls 3 [(0, .ref xh), (1, .int p0), (2, .int p1)] := hl
  have lo_p0 := i_lo p0; have hi_p0 := i_hi p0
  have lo_p1 := i_lo p1; have hi_p1 := i_hi p1
  refine lv_aload_n hx hb dX8_late_0 rfl (lv_at hl 0 rfl) ?_
  refine lv_iload_n hx hb dX8_late_1 rfl (lv_at hl 1 rfl) ?_
  refine lv_iload_n hx hb dX8_late_2 rfl (lv_at hl 2 rfl) ?_
  refine lv_iconst (v := 2) hx hb dX8_late_3 (by decide) ?_
  refine callRV (rest := []) (As := [.int p0, .int p1, .int 2]) hx hb hml hown htb hK (g_X8_markOn_N l D E xh xa xtrialRule xdropRule xtoday xf1 xf3 p0 p1 2 (by (try dsimp only); omega) hn0) ok_X8_markOn k_447 k_449 ks_4 k_1 k_450 ⟨(Nat.le_of_ble_eq_true rfl), (Nat.le_of_ble_eq_true rfl)⟩ ⟨(Nat.le_of_ble_eq_true rfl), (Nat.le_of_ble_eq_true rfl)⟩ hl.1 (Nat.le_of_ble_eq_true rfl) rfl rfl dX8_late_4 (hP.sub (ws' := [(xh, .inr (8, G8 xa xtrialRule xdropRule xtoday)), ((xa 1), .inl (E 0, 16, .inl xf1)), ((xa 3), .inl (E 3, 16, .inr (.inr (.inr (.inr xf3)))))]) [0, 1, 2] rfl) rfl rfl 0 rfl (fun r_1 hw_2 => ?_)
  try simp only [t_2] at hw_2
  exact W.iret (v := r_1) hx hb hr (fun t ht hW => ⟨r_1, rfl, hw_2, ht⟩) (fun q h => by cases h) dX8_late_7
set_option maxHeartbeats 4000000 in
set_option maxRecDepth 100000 in
theorem g_X8_late_W (l : Launch) (D : va_G) (E : Nat → Nat) (xh : Nat) (xa : Nat → Nat) (xtrialRule : Nat) (xdropRule : Nat) (xtoday : Int32) (xf1 : Nat → Int32) (xf3 : Nat → Option Nat) (wh : Nat) (wa : Nat → Nat) (wf2 : Nat → Int32) (p0 : Int32) (p1 : Int32) (sz : Nat) (hi_x : (0 ≤ xtoday.toInt ∧ xtoday.toInt ≤ 399)) (hk0 : (0 ≤ p0.toInt ∧ p0.toInt ≤ 15 ∧ ((xf1 (p0).toNatClampNeg).toInt = 0 ∨ (xf1 (p0).toNatClampNeg).toInt = 1))) (hw0 : xf3 (p0).toNatClampNeg = some wh) : Met l yX8_late (wl yX8_late cX8_late 3 (some .int)) (RM 4 0 0) (mu_P D E [.ref xh, .int p0, .int p1] [(xh, .inr (8, G8 xa xtrialRule xdropRule xtoday)), ((xa 1), .inl (E 0, 16, .inl xf1)), ((xa 3), .inl (E 3, 16, .inr (.inr (.inr (.inr xf3))))), (wh, .inr (7, G7 wa)), ((wa 2), .inl (E 0, 400, .inl wf2))] sz) (va_Qi (fun (r : Int32) (u : (Nat → Int32)) => ((¬ (0 ≤ p1.toInt ∧ p1.toInt ≤ xtoday.toInt) ∧ r.toInt = -1 ∧ u = wf2) ∨ ((0 ≤ p1.toInt ∧ p1.toInt ≤ xtoday.toInt) ∧ ((wf2 (p1).toNatClampNeg) &&& 2).toInt ≠ 0 ∧ r.toInt = 0 ∧ u = wf2) ∨ ((0 ≤ p1.toInt ∧ p1.toInt ≤ xtoday.toInt) ∧ ¬ ((wf2 (p1).toNatClampNeg) &&& 2).toInt ≠ 0 ∧ r.toInt = 1 ∧ u = upd wf2 (p1).toNatClampNeg ((wf2 (p1).toNatClampNeg) ||| 2)))) (mu_B D (va_A [(xh, .inr (8, G8 xa xtrialRule xdropRule xtoday)), ((xa 1), .inl (E 0, 16, .inl xf1)), ((xa 3), .inl (E 3, 16, .inr (.inr (.inr (.inr xf3))))), (wh, .inr (7, G7 wa)), ((wa 2), .inl (E 0, 400, .inl wf2))] sz) (fun (u : (Nat → Int32)) => [(xh, .inr (8, G8 xa xtrialRule xdropRule xtoday)), ((xa 1), .inl (E 0, 16, .inl xf1)), ((xa 3), .inl (E 3, 16, .inr (.inr (.inr (.inr xf3))))), (wh, .inr (7, G7 wa)), ((wa 2), .inl (E 0, 400, .inl u))])) (va_A [(xh, .inr (8, G8 xa xtrialRule xdropRule xtoday)), ((xa 1), .inl (E 0, 16, .inl xf1)), ((xa 3), .inl (E 3, 16, .inr (.inr (.inr (.inr xf3))))), (wh, .inr (7, G7 wa)), ((wa 2), .inl (E 0, 400, .inl wf2))] sz)) 0 0 (va_A [(xh, .inr (8, G8 xa xtrialRule xdropRule xtoday)), ((xa 1), .inl (E 0, 16, .inl xf1)), ((xa 3), .inl (E 3, 16, .inr (.inr (.inr (.inr xf3))))), (wh, .inr (7, G7 wa)), ((wa 2), .inl (E 0, 400, .inl wf2))] sz) := by
  refine Met.ofW (cc := cX8_late) (maxL := 3) (ret := (some .int)) (by decide) rfl ?_
  intro p e s m args below meth c s₁ B hml hv
  obtain ⟨rfl, hsz, hP, hK, hD0⟩ := hv
  have hx := B.exec; have hb := B.bytes; have hr := B.returns
  have hts := atoms_spec (ws := wl yX8_late cX8_late 3 (some .int)) B.pre
  have htb : ∀ w ∈ tb, w.before _ s = true := fun w h => hts w (List.mem_cons_of_mem _ h)
  have hown : s.vm.findClass RX8 = some m.cls := findClass_of_methodNamed B.named
  have hlocks := B.notSynchronized
  subst hsz
  have hD := hD0.self (sz := s.heap.size)
  generalize hAe : va_A [(xh, .inr (8, G8 xa xtrialRule xdropRule xtoday)), ((xa 1), .inl (E 0, 16, .inl xf1)), ((xa 3), .inl (E 3, 16, .inr (.inr (.inr (.inr xf3))))), (wh, .inr (7, G7 wa)), ((wa 2), .inl (E 0, 400, .inl wf2))] s.heap.size = A at hD ⊢
  have hA : ∀ q : Nat, s.heap.size ≤ q → A q := fun q h => by rw [← hAe]; exact Or.inr h
  have hS : va_S A s.heap s.heap [] := va_S.rf
  have hP : va_P D vwCl [(xh, .inr (8, G8 xa xtrialRule xdropRule xtoday)), ((xa 1), .inl (E 0, 16, .inl xf1)), ((xa 3), .inl (E 3, 16, .inr (.inr (.inr (.inr xf3))))), (wh, .inr (7, G7 wa)), ((wa 2), .inl (E 0, 400, .inl wf2))] s.heap := hP
  have hl := lv_entry ([.ref xh, .int p0, .int p1]) (n := 3) (Nat.le_of_ble_eq_true rfl)
  rw [lg_entry_eq]
  generalize (lg_sl ([.ref xh, .int p0, .int p1]) ++ List.replicate (3 - (lg_sl ([.ref xh, .int p0, .int p1])).length) Slot.unset).toArray = ls at hl ⊢
  have hl : lv_has ls 3 [(0, .ref xh), (1, .int p0), (2, .int p1)] := hl
  have lo_p0 := i_lo p0; have hi_p0 := i_hi p0
  have lo_p1 := i_lo p1; have hi_p1 := i_hi p1
  refine lv_aload_n hx hb dX8_late_0 rfl (lv_at hl 0 rfl) ?_
  refine lv_iload_n hx hb dX8_late_1 rfl (lv_at hl 1 rfl) ?_
  refine lv_iload_n hx hb dX8_late_2 rfl (lv_at hl 2 rfl) ?_
  refine lv_iconst (v := 2) hx hb dX8_late_3 (by decide) ?_
  have hPc := hP.sub (ws' := [(xh, .inr (8, G8 xa xtrialRule xdropRule xtoday)), ((xa 1), .inl (E 0, 16, .inl xf1)), ((xa 3), .inl (E 3, 16, .inr (.inr (.inr (.inr xf3))))), (wh, .inr (7, G7 wa)), ((wa 2), .inl (E 0, 400, .inl wf2))]) [0, 1, 2, 3, 4] rfl
  have hDc := hD.sub (ws' := [(xh, .inr (8, G8 xa xtrialRule xdropRule xtoday)), ((xa 1), .inl (E 0, 16, .inl xf1)), ((xa 3), .inl (E 3, 16, .inr (.inr (.inr (.inr xf3))))), (wh, .inr (7, G7 wa)), ((wa 2), .inl (E 0, 400, .inl wf2))]) [0, 1, 2, 3, 4] (by decide) rfl
  refine aft_i (runMV (rest := []) (As := [.int p0, .int p1, .int 2]) hx hb hml hown htb hK (g_X8_markOn_W l D E xh xa xtrialRule xdropRule xtoday xf1 xf3 wh wa wf2 p0 p1 2 _ (by (try dsimp only); omega) hk0 hw0) ok_X8_markOn k_447 k_449 ks_4 k_1 k_450 ⟨(Nat.le_of_ble_eq_true rfl), (Nat.le_of_ble_eq_true rfl)⟩ ⟨(Nat.le_of_ble_eq_true rfl), (Nat.le_of_ble_eq_true rfl)⟩ hl.1 (Nat.le_of_ble_eq_true rfl) rfl rfl dX8_late_4 hPc hDc rfl rfl 0 rfl) hP hD hS hA [0, 1, 2, 3, 4] [] (wr := ([] : va_W)) rfl rfl (by decide) (by decide) (fun r_1 u_3 H locs hw_2 hP hD hS => ?_)
  clear hPc hDc
  have hP : va_P D vwCl [(xh, .inr (8, G8 xa xtrialRule xdropRule xtoday)), ((xa 1), .inl (E 0, 16, .inl xf1)), ((xa 3), .inl (E 3, 16, .inr (.inr (.inr (.inr xf3))))), (wh, .inr (7, G7 wa)), ((wa 2), .inl (E 0, 400, .inl u_3))] H := hP
  have hD := toW hP hD rfl
  try simp only [t_2] at hw_2
  have hP9 := hP.sub (ws' := [(xh, .inr (8, G8 xa xtrialRule xdropRule xtoday)), ((xa 1), .inl (E 0, 16, .inl xf1)), ((xa 3), .inl (E 3, 16, .inr (.inr (.inr (.inr xf3))))), (wh, .inr (7, G7 wa)), ((wa 2), .inl (E 0, 400, .inl u_3))]) [0, 1, 2, 3, 4] rfl
  have hD9 := hD.sub (ws' := [(xh, .inr (8, G8 xa xtrialRule xdropRule xtoday)), ((xa 1), .inl (E 0, 16, .inl xf1)), ((xa 3), .inl (E 3, 16, .inr (.inr (.inr (.inr xf3))))), (wh, .inr (7, G7 wa)), ((wa 2), .inl (E 0, 400, .inl u_3))]) [0, 1, 2, 3, 4] (by decide) rfl
  exact W.iret (v := r_1) hx hb hr (fun t ht hW => ⟨⟨r_1, u_3, rfl, hw_2, by rw [ht]; exact hP9, hD9⟩, hS.F ht⟩) hS.2.2 dX8_late_7
set_option maxHeartbeats 4000000 in
set_option maxRecDepth 100000 in
theorem g_X8_age_N (l : Launch) (D : va_G) (E : Nat → Nat) (xh : Nat) (xa : Nat → Nat) (xtrialRule : Nat) (xdropRule : Nat) (xtoday : Int32) (xf1 : Nat → Int32) (xf3 : Nat → Option Nat) (p0 : Int32) (p1 : Int32) (hi_x : (0 ≤ xtoday.toInt ∧ xtoday.toInt ≤ 399)) (hn0 : ¬ (0 ≤ p0.toInt ∧ p0.toInt ≤ 15 ∧ ((xf1 (p0).toNatClampNeg).toInt = 0 ∨ (xf1 (p0).toNatClampNeg).toInt = 1))) : Met l yX8_age (wl yX8_age cX8_age 4 (some .int)) (RM 2 0 0) (rd_P D E [.ref xh, .int p0, .int p1] [(xh, .inr (8, G8 xa xtrialRule xdropRule xtoday)), ((xa 1), .inl (E 0, 16, .inl xf1)), ((xa 3), .inl (E 3, 16, .inr (.inr (.inr (.inr xf3)))))]) (rd_Q (fun r => ((r.toInt = -1 ∧ ¬ ((0 ≤ p0.toInt ∧ p0.toInt ≤ 15) ∧ (0 ≤ p1.toInt ∧ p1.toInt ≤ 399))) ∨ (((0 ≤ p0.toInt ∧ p0.toInt ≤ 15) ∧ (0 ≤ p1.toInt ∧ p1.toInt ≤ 399)) ∧ (((xf1 (p0).toNatClampNeg).toInt = -5 ∧ r.toInt = -2) ∨ ((xf1 (p0).toNatClampNeg).toInt ≠ -5 ∧ r.toInt = -3)))))) 0 0 (fun _ => False) := by
  refine Met.ofW (cc := cX8_age) (maxL := 4) (ret := (some .int)) (by decide) rfl ?_
  intro p e s m args below meth c s₁ B hml hv
  obtain ⟨rfl, hP, hK⟩ := hv
  have hx := B.exec; have hb := B.bytes; have hr := B.returns
  have hts := atoms_spec (ws := wl yX8_age cX8_age 4 (some .int)) B.pre
  have htb : ∀ w ∈ tb, w.before _ s = true := fun w h => hts w (List.mem_cons_of_mem _ h)
  have hown : s.vm.findClass RX8 = some m.cls := findClass_of_methodNamed B.named
  have hlocks := B.notSynchronized
  have hP : va_P D vwCl [(xh, .inr (8, G8 xa xtrialRule xdropRule xtoday)), ((xa 1), .inl (E 0, 16, .inl xf1)), ((xa 3), .inl (E 3, 16, .inr (.inr (.inr (.inr xf3)))))] s.heap := hP
  have hl := lv_entry ([.ref xh, .int p0, .int p1]) (n := 4) (Nat.le_of_ble_eq_true rfl)
  rw [lg_entry_eq]
  generalize (lg_sl ([.ref xh, .int p0, .int p1]) ++ List.replicate (4 - (lg_sl ([.ref xh, .int p0, .int p1])).length) Slot.unset).toArray = ls at hl ⊢
  have hl : lv_has ls 4 [(0, .ref xh), (1, .int p0), (2, .int p1)] := hl
  have lo_p0 := i_lo p0; have hi_p0 := i_hi p0
  have lo_p1 := i_lo p1; have hi_p1 := i_hi p1
  refine lv_iload_n hx hb dX8_age_0 rfl (lv_at hl 1 rfl) ?_
  refine callRS (rest := []) (As := [.int p0]) hx hb hml hown htb hK (g_X8_isPlace l D E p0 ) ok_X8_isPlace k_333 k_334 k_1 k_335 ⟨(Nat.le_of_ble_eq_true rfl), (Nat.le_of_ble_eq_true rfl)⟩ ⟨(Nat.le_of_ble_eq_true rfl), (Nat.le_of_ble_eq_true rfl)⟩ hl.1 (Nat.le_of_ble_eq_true rfl) rfl rfl dX8_age_1 (hP.sub (ws' := ([] : va_W)) [] rfl) (fun r_1 hw_2 => ?_)
  rcases hw_2 with ⟨hr_1, hw_2⟩ | ⟨hr_1, hw_2⟩
  ·
    refine W_top (y := .int 1) (by rw [hr_1]) ?_
    refine lv_if_eq (tgt := 14) hx hb dX8_age_4 (by decide) (fun c_4 => absurd c_4 (by decide)) (fun c_4 => ?_)
    refine lv_iload_n hx hb dX8_age_7 rfl (lv_at hl 2 rfl) ?_
    refine callRS (rest := []) (As := [.int p1]) hx hb hml hown htb hK (g_X8_isDay l D E p1 ) ok_X8_isDay k_323 k_324 k_1 k_325 ⟨(Nat.le_of_ble_eq_true rfl), (Nat.le_of_ble_eq_true rfl)⟩ ⟨(Nat.le_of_ble_eq_true rfl), (Nat.le_of_ble_eq_true rfl)⟩ hl.1 (Nat.le_of_ble_eq_true rfl) rfl rfl dX8_age_8 (hP.sub (ws' := ([] : va_W)) [] rfl) (fun r_5 hw_6 => ?_)
    rcases hw_6 with ⟨hr_5, hw_6⟩ | ⟨hr_5, hw_6⟩
    ·
      refine W_top (y := .int 1) (by rw [hr_5]) ?_
      refine lv_if_ne (tgt := 16) hx hb dX8_age_11 (by decide) (fun c_8 => ?_) (fun c_8 => absurd c_8 (by decide))
      refine lv_aload_n hx hb dX8_age_16 rfl (lv_at hl 0 rfl) ?_
      refine lv_iload_n hx hb dX8_age_17 rfl (lv_at hl 1 rfl) ?_
      refine rn_call (runRV (rest := []) (As := [.int p0]) hx hb hml hown htb (g_X8_watchAt_N l D E xh xa xtrialRule xdropRule xtoday xf1 xf3 p0 (by (try dsimp only); omega) hn0) ok_X8_watchAt k_369 k_371 ks_1 k_1 k_372 ⟨(Nat.le_of_ble_eq_true rfl), (Nat.le_of_ble_eq_true rfl)⟩ ⟨(Nat.le_of_ble_eq_true rfl), (Nat.le_of_ble_eq_true rfl)⟩ hl.1 (Nat.le_of_ble_eq_true rfl) rfl rfl dX8_age_18 (prV (hP.sub (ws' := [(xh, .inr (8, G8 xa xtrialRule xdropRule xtoday)), ((xa 1), .inl (E 0, 16, .inl xf1)), ((xa 3), .inl (E 3, 16, .inr (.inr (.inr (.inr xf3)))))]) [0, 1, 2] rfl) hK rfl rfl 0 rfl)) ?_
      refine lv_astore_nN (lv' := [(3, .null), (0, .ref xh), (1, .int p0), (2, .int p1)]) hx hb dX8_age_21 rfl hl (by decide) rfl (fun ls hl => ?_)
      refine lv_aload_nN hx hb dX8_age_22 rfl (lv_at hl 0 rfl) ?_
      refine lv_ifnonnullN hx hb dX8_age_23 ?_
      refine lv_aload_n hx hb dX8_age_26 rfl (lv_at hl 1 rfl) ?_
      refine lv_iload_n hx hb dX8_age_27 rfl (lv_at hl 2 rfl) ?_
      refine callRV (rest := []) (As := [.int p0]) hx hb hml hown htb hK (g_X8_lackAt l D E xh xa xtrialRule xdropRule xtoday xf1 p0 (by (try dsimp only); omega)) ok_X8_lackAt k_396 k_398 ks_3 k_1 k_399 ⟨(Nat.le_of_ble_eq_true rfl), (Nat.le_of_ble_eq_true rfl)⟩ ⟨(Nat.le_of_ble_eq_true rfl), (Nat.le_of_ble_eq_true rfl)⟩ hl.1 (Nat.le_of_ble_eq_true rfl) rfl rfl dX8_age_28 (hP.sub (ws' := [(xh, .inr (8, G8 xa xtrialRule xdropRule xtoday)), ((xa 1), .inl (E 0, 16, .inl xf1))]) [0, 1] rfl) rfl rfl 0 rfl (fun r_12 hw_13 => ?_)
      refine lv_goto (tgt := 39) hx hb dX8_age_31 (by decide) ?_
      exact W.iret (v := r_12) hx hb hr (fun t ht hW => ⟨r_12, rfl, (by (try dsimp only); first | exact Or.inr ⟨by omega, by omega⟩ | exact Or.inl ⟨by omega, by omega⟩), ht⟩) (fun q h => by cases h) dX8_age_39
    ·
      refine W_top (y := .int 0) (by rw [hr_5]) ?_
      refine lv_if_ne (tgt := 16) hx hb dX8_age_11 (by decide) (fun c_15 => absurd (by decide) c_15) (fun c_15 => ?_)
      refine lv_iconst (v := (-1)) hx hb dX8_age_14 (by decide) ?_
      exact W.iret (v := (-1)) hx hb hr (fun t ht hW => ⟨(-1), rfl, (by have hl0 := t_m1; (try dsimp only); first | exact Or.inl ⟨by omega, by omega⟩ | exact Or.inr ⟨by omega, by omega⟩), ht⟩) (fun q h => by cases h) dX8_age_15
  ·
    refine W_top (y := .int 0) (by rw [hr_1]) ?_
    refine lv_if_eq (tgt := 14) hx hb dX8_age_4 (by decide) (fun c_16 => ?_) (fun c_16 => absurd (by decide) c_16)
    refine lv_iconst (v := (-1)) hx hb dX8_age_14 (by decide) ?_
    exact W.iret (v := (-1)) hx hb hr (fun t ht hW => ⟨(-1), rfl, (by have hl0 := t_m1; (try dsimp only); first | exact Or.inl ⟨by omega, by omega⟩ | exact Or.inr ⟨by omega, by omega⟩), ht⟩) (fun q h => by cases h) dX8_age_15
set_option maxHeartbeats 4000000 in
set_option maxRecDepth 100000 in
theorem g_X8_age_W (l : Launch) (D : va_G) (E : Nat → Nat) (xh : Nat) (xa : Nat → Nat) (xtrialRule : Nat) (xdropRule : Nat) (xtoday : Int32) (xf1 : Nat → Int32) (xf3 : Nat → Option Nat) (wh : Nat) (wa : Nat → Nat) (wf2 : Nat → Int32) (p0 : Int32) (p1 : Int32) (hi_x : (0 ≤ xtoday.toInt ∧ xtoday.toInt ≤ 399)) (hk0 : (0 ≤ p0.toInt ∧ p0.toInt ≤ 15 ∧ ((xf1 (p0).toNatClampNeg).toInt = 0 ∨ (xf1 (p0).toNatClampNeg).toInt = 1))) (hw0 : xf3 (p0).toNatClampNeg = some wh) : Met l yX8_age (wl yX8_age cX8_age 4 (some .int)) (RM 3 0 0) (rd_P D E [.ref xh, .int p0, .int p1] [(xh, .inr (8, G8 xa xtrialRule xdropRule xtoday)), ((xa 1), .inl (E 0, 16, .inl xf1)), ((xa 3), .inl (E 3, 16, .inr (.inr (.inr (.inr xf3))))), (wh, .inr (7, G7 wa)), ((wa 2), .inl (E 0, 400, .inl wf2))]) (rd_Q (fun r => ((¬ (0 ≤ p1.toInt ∧ p1.toInt ≤ 399) ∧ r.toInt = -1) ∨ ((0 ≤ p1.toInt ∧ p1.toInt ≤ 399) ∧ r.toInt = ageN wf2 (p1.toInt).toNat)))) 0 0 (fun _ => False) := by
  refine Met.ofW (cc := cX8_age) (maxL := 4) (ret := (some .int)) (by decide) rfl ?_
  intro p e s m args below meth c s₁ B hml hv
  obtain ⟨rfl, hP, hK⟩ := hv
  have hx := B.exec; have hb := B.bytes; have hr := B.returns
  have hts := atoms_spec (ws := wl yX8_age cX8_age 4 (some .int)) B.pre
  have htb : ∀ w ∈ tb, w.before _ s = true := fun w h => hts w (List.mem_cons_of_mem _ h)
  have hown : s.vm.findClass RX8 = some m.cls := findClass_of_methodNamed B.named
  have hlocks := B.notSynchronized
  have hP : va_P D vwCl [(xh, .inr (8, G8 xa xtrialRule xdropRule xtoday)), ((xa 1), .inl (E 0, 16, .inl xf1)), ((xa 3), .inl (E 3, 16, .inr (.inr (.inr (.inr xf3))))), (wh, .inr (7, G7 wa)), ((wa 2), .inl (E 0, 400, .inl wf2))] s.heap := hP
  have hl := lv_entry ([.ref xh, .int p0, .int p1]) (n := 4) (Nat.le_of_ble_eq_true rfl)
  rw [lg_entry_eq]
  generalize (lg_sl ([.ref xh, .int p0, .int p1]) ++ List.replicate (4 - (lg_sl ([.ref xh, .int p0, .int p1])).length) Slot.unset).toArray = ls at hl ⊢
  have hl : lv_has ls 4 [(0, .ref xh), (1, .int p0), (2, .int p1)] := hl
  have lo_p0 := i_lo p0; have hi_p0 := i_hi p0
  have lo_p1 := i_lo p1; have hi_p1 := i_hi p1
  refine lv_iload_n hx hb dX8_age_0 rfl (lv_at hl 1 rfl) ?_
  refine callRS (rest := []) (As := [.int p0]) hx hb hml hown htb hK (g_X8_isPlace l D E p0 ) ok_X8_isPlace k_333 k_334 k_1 k_335 ⟨(Nat.le_of_ble_eq_true rfl), (Nat.le_of_ble_eq_true rfl)⟩ ⟨(Nat.le_of_ble_eq_true rfl), (Nat.le_of_ble_eq_true rfl)⟩ hl.1 (Nat.le_of_ble_eq_true rfl) rfl rfl dX8_age_1 (hP.sub (ws' := ([] : va_W)) [] rfl) (fun r_1 hw_2 => ?_)
  rcases hw_2 with ⟨hr_1, hw_2⟩ | ⟨hr_1, hw_2⟩
  ·
    refine W_top (y := .int 1) (by rw [hr_1]) ?_
    refine lv_if_eq (tgt := 14) hx hb dX8_age_4 (by decide) (fun c_4 => absurd c_4 (by decide)) (fun c_4 => ?_)
    refine lv_iload_n hx hb dX8_age_7 rfl (lv_at hl 2 rfl) ?_
    refine callRS (rest := []) (As := [.int p1]) hx hb hml hown htb hK (g_X8_isDay l D E p1 ) ok_X8_isDay k_323 k_324 k_1 k_325 ⟨(Nat.le_of_ble_eq_true rfl), (Nat.le_of_ble_eq_true rfl)⟩ ⟨(Nat.le_of_ble_eq_true rfl), (Nat.le_of_ble_eq_true rfl)⟩ hl.1 (Nat.le_of_ble_eq_true rfl) rfl rfl dX8_age_8 (hP.sub (ws' := ([] : va_W)) [] rfl) (fun r_5 hw_6 => ?_)
    rcases hw_6 with ⟨hr_5, hw_6⟩ | ⟨hr_5, hw_6⟩
    ·
      refine W_top (y := .int 1) (by rw [hr_5]) ?_
      refine lv_if_ne (tgt := 16) hx hb dX8_age_11 (by decide) (fun c_8 => ?_) (fun c_8 => absurd c_8 (by decide))
      refine lv_aload_n hx hb dX8_age_16 rfl (lv_at hl 0 rfl) ?_
      refine lv_iload_n hx hb dX8_age_17 rfl (lv_at hl 1 rfl) ?_
      refine rr_call (runRV (rest := []) (As := [.int p0]) hx hb hml hown htb (g_X8_watchAt_W l D E xh xa xtrialRule xdropRule xtoday xf1 xf3 wh wa p0 (by (try dsimp only); omega) hk0 hw0) ok_X8_watchAt k_369 k_371 ks_1 k_1 k_372 ⟨(Nat.le_of_ble_eq_true rfl), (Nat.le_of_ble_eq_true rfl)⟩ ⟨(Nat.le_of_ble_eq_true rfl), (Nat.le_of_ble_eq_true rfl)⟩ hl.1 (Nat.le_of_ble_eq_true rfl) rfl rfl dX8_age_18 (prV (hP.sub (ws' := [(xh, .inr (8, G8 xa xtrialRule xdropRule xtoday)), ((xa 1), .inl (E 0, 16, .inl xf1)), ((xa 3), .inl (E 3, 16, .inr (.inr (.inr (.inr xf3))))), (wh, .inr (7, G7 wa))]) [0, 1, 2, 3] rfl) hK rfl rfl 0 rfl)) ?_
      refine lv_astore_n (lv' := [(3, .ref wh), (0, .ref xh), (1, .int p0), (2, .int p1)]) hx hb dX8_age_21 rfl hl (by decide) rfl (fun ls hl => ?_)
      refine lv_aload_n hx hb dX8_age_22 rfl (lv_at hl 0 rfl) ?_
      refine lv_ifnonnull (tgt := 34) hx hb dX8_age_23 (by decide) ?_
      refine lv_aload_n hx hb dX8_age_34 rfl (lv_at hl 0 rfl) ?_
      refine lv_iload_n hx hb dX8_age_35 rfl (lv_at hl 3 rfl) ?_
      refine callRV (rest := []) (As := [.int p1]) hx hb hml hown htb hK (g_X7_ageOn l D E wh wa wf2 p1 (by (try dsimp only); omega)) ok_X7_ageOn k_463 k_464 k_465 k_10 k_466 ⟨(Nat.le_of_ble_eq_true rfl), (Nat.le_of_ble_eq_true rfl)⟩ ⟨(Nat.le_of_ble_eq_true rfl), (Nat.le_of_ble_eq_true rfl)⟩ hl.1 (Nat.le_of_ble_eq_true rfl) rfl rfl dX8_age_36 (hP.sub (ws' := [(wh, .inr (7, G7 wa)), ((wa 2), .inl (E 0, 400, .inl wf2))]) [3, 4] rfl) rfl rfl 0 rfl (fun r_12 hw_13 => ?_)
      exact W.iret (v := r_12) hx hb hr (fun t ht hW => ⟨r_12, rfl, (by (try dsimp only); first | exact Or.inr ⟨by omega, by assumption⟩ | exact Or.inl ⟨by omega, by omega⟩), ht⟩) (fun q h => by cases h) dX8_age_39
    ·
      refine W_top (y := .int 0) (by rw [hr_5]) ?_
      refine lv_if_ne (tgt := 16) hx hb dX8_age_11 (by decide) (fun c_15 => absurd (by decide) c_15) (fun c_15 => ?_)
      refine lv_iconst (v := (-1)) hx hb dX8_age_14 (by decide) ?_
      exact W.iret (v := (-1)) hx hb hr (fun t ht hW => ⟨(-1), rfl, (by have hl0 := t_m1; (try dsimp only); first | exact Or.inl ⟨by omega, by omega⟩ | exact Or.inr ⟨by omega, by assumption⟩), ht⟩) (fun q h => by cases h) dX8_age_15
  ·
    refine W_top (y := .int 0) (by rw [hr_1]) ?_
    refine lv_if_eq (tgt := 14) hx hb dX8_age_4 (by decide) (fun c_16 => ?_) (fun c_16 => absurd (by decide) c_16)
    refine lv_iconst (v := (-1)) hx hb dX8_age_14 (by decide) ?_
    exact W.iret (v := (-1)) hx hb hr (fun t ht hW => ⟨(-1), rfl, (by have hl0 := t_m1; (try dsimp only); first | exact Or.inl ⟨by omega, by omega⟩ | exact Or.inr ⟨by omega, by assumption⟩), ht⟩) (fun q h => by cases h) dX8_age_15
set_option maxHeartbeats 4000000 in
set_option maxRecDepth 100000 in
theorem g_X8_changed_N (l : Launch) (D : va_G) (E : Nat → Nat) (xh : Nat) (xa : Nat → Nat) (xtrialRule : Nat) (xdropRule : Nat) (xtoday : Int32) (xf1 : Nat → Int32) (xf3 : Nat → Option Nat) (p0 : Int32) (p1 : Int32) (p2 : Int32) (p3 : Int32) (hi_x : (0 ≤ xtoday.toInt ∧ xtoday.toInt ≤ 399)) (hn0 : ¬ (0 ≤ p0.toInt ∧ p0.toInt ≤ 15 ∧ ((xf1 (p0).toNatClampNeg).toInt = 0 ∨ (xf1 (p0).toNatClampNeg).toInt = 1))) : Met l yX8_changed (wl yX8_changed cX8_changed 8 (some .int)) (RM 2 0 0) (rd_P D E [.ref xh, .int p0, .int p1, .int p2, .int p3] [(xh, .inr (8, G8 xa xtrialRule xdropRule xtoday)), ((xa 1), .inl (E 0, 16, .inl xf1)), ((xa 3), .inl (E 3, 16, .inr (.inr (.inr (.inr xf3)))))]) (rd_Q (fun r => ((r.toInt = -1 ∧ ¬ ((0 ≤ p0.toInt ∧ p0.toInt ≤ 15) ∧ ((0 ≤ p1.toInt ∧ p2.toInt ≤ 399 ∧ p1.toInt < p2.toInt ∧ p2.toInt - p1.toInt ≤ 60) ∧ (-1 ≤ p3.toInt ∧ p3.toInt ≤ 399)))) ∨ (((0 ≤ p0.toInt ∧ p0.toInt ≤ 15) ∧ ((0 ≤ p1.toInt ∧ p2.toInt ≤ 399 ∧ p1.toInt < p2.toInt ∧ p2.toInt - p1.toInt ≤ 60) ∧ (-1 ≤ p3.toInt ∧ p3.toInt ≤ 399))) ∧ (((xf1 (p0).toNatClampNeg).toInt = -5 ∧ r.toInt = -2) ∨ ((xf1 (p0).toNatClampNeg).toInt ≠ -5 ∧ r.toInt = -3)))))) 0 0 (fun _ => False) := by
  refine Met.ofW (cc := cX8_changed) (maxL := 8) (ret := (some .int)) (by decide) rfl ?_
  intro p e s m args below meth c s₁ B hml hv
  obtain ⟨rfl, hP, hK⟩ := hv
  have hx := B.exec; have hb := B.bytes; have hr := B.returns
  have hts := atoms_spec (ws := wl yX8_changed cX8_changed 8 (some .int)) B.pre
  have htb : ∀ w ∈ tb, w.before _ s = true := fun w h => hts w (List.mem_cons_of_mem _ h)
  have hown : s.vm.findClass RX8 = some m.cls := findClass_of_methodNamed B.named
  have hlocks := B.notSynchronized
  have hP : va_P D vwCl [(xh, .inr (8, G8 xa xtrialRule xdropRule xtoday)), ((xa 1), .inl (E 0, 16, .inl xf1)), ((xa 3), .inl (E 3, 16, .inr (.inr (.inr (.inr xf3)))))] s.heap := hP
  have hl := lv_entry ([.ref xh, .int p0, .int p1, .int p2, .int p3]) (n := 8) (Nat.le_of_ble_eq_true rfl)
  rw [lg_entry_eq]
  generalize (lg_sl ([.ref xh, .int p0, .int p1, .int p2, .int p3]) ++ List.replicate (8 - (lg_sl ([.ref xh, .int p0, .int p1, .int p2, .int p3])).length) Slot.unset).toArray = ls at hl ⊢
  have hl : lv_has ls 8 [(0, .ref xh), (1, .int p0), (2, .int p1), (3, .int p2), (4, .int p3)] := hl
  have lo_p0 := i_lo p0; have hi_p0 := i_hi p0
  have lo_p1 := i_lo p1; have hi_p1 := i_hi p1
  have lo_p2 := i_lo p2; have hi_p2 := i_hi p2
  have lo_p3 := i_lo p3; have hi_p3 := i_hi p3
  refine lv_iload_n hx hb dX8_changed_0 rfl (lv_at hl 1 rfl) ?_
  refine callRS (rest := []) (As := [.int p0]) hx hb hml hown htb hK (g_X8_isPlace l D E p0 ) ok_X8_isPlace k_333 k_334 k_1 k_335 ⟨(Nat.le_of_ble_eq_true rfl), (Nat.le_of_ble_eq_true rfl)⟩ ⟨(Nat.le_of_ble_eq_true rfl), (Nat.le_of_ble_eq_true rfl)⟩ hl.1 (Nat.le_of_ble_eq_true rfl) rfl rfl dX8_changed_1 (hP.sub (ws' := ([] : va_W)) [] rfl) (fun r_1 hw_2 => ?_)
  rcases hw_2 with ⟨hr_1, hw_2⟩ | ⟨hr_1, hw_2⟩
  ·
    refine W_top (y := .int 1) (by rw [hr_1]) ?_
    refine lv_if_eq (tgt := 23) hx hb dX8_changed_4 (by decide) (fun c_4 => absurd c_4 (by decide)) (fun c_4 => ?_)
    refine lv_iload_n hx hb dX8_changed_7 rfl (lv_at hl 2 rfl) ?_
    refine lv_iload_n hx hb dX8_changed_8 rfl (lv_at hl 3 rfl) ?_
    refine callRS (rest := []) (As := [.int p1, .int p2]) hx hb hml hown htb hK (g_X8_isStretch l D E p1 p2 ) ok_X8_isStretch k_479 k_480 k_1 k_481 ⟨(Nat.le_of_ble_eq_true rfl), (Nat.le_of_ble_eq_true rfl)⟩ ⟨(Nat.le_of_ble_eq_true rfl), (Nat.le_of_ble_eq_true rfl)⟩ hl.1 (Nat.le_of_ble_eq_true rfl) rfl rfl dX8_changed_9 (hP.sub (ws' := ([] : va_W)) [] rfl) (fun r_5 hw_6 => ?_)
    rcases hw_6 with ⟨hr_5, hw_6⟩ | ⟨hr_5, hw_6⟩
    ·
      refine W_top (y := .int 1) (by rw [hr_5]) ?_
      refine lv_if_eq (tgt := 23) hx hb dX8_changed_12 (by decide) (fun c_8 => absurd c_8 (by decide)) (fun c_8 => ?_)
      refine lv_iload hx hb dX8_changed_15 (lv_at hl 4 rfl) ?_
      refine callRS (rest := []) (As := [.int p3]) hx hb hml hown htb hK (g_X8_isKnowledge l D E p3 ) ok_X8_isKnowledge k_412 k_413 k_1 k_414 ⟨(Nat.le_of_ble_eq_true rfl), (Nat.le_of_ble_eq_true rfl)⟩ ⟨(Nat.le_of_ble_eq_true rfl), (Nat.le_of_ble_eq_true rfl)⟩ hl.1 (Nat.le_of_ble_eq_true rfl) rfl rfl dX8_changed_17 (hP.sub (ws' := ([] : va_W)) [] rfl) (fun r_9 hw_10 => ?_)
      rcases hw_10 with ⟨hr_9, hw_10⟩ | ⟨hr_9, hw_10⟩
      ·
        refine W_top (y := .int 1) (by rw [hr_9]) ?_
        refine lv_if_ne (tgt := 25) hx hb dX8_changed_20 (by decide) (fun c_12 => ?_) (fun c_12 => absurd c_12 (by decide))
        refine lv_aload_n hx hb dX8_changed_25 rfl (lv_at hl 0 rfl) ?_
        refine lv_iload_n hx hb dX8_changed_26 rfl (lv_at hl 1 rfl) ?_
        refine rn_call (runRV (rest := []) (As := [.int p0]) hx hb hml hown htb (g_X8_watchAt_N l D E xh xa xtrialRule xdropRule xtoday xf1 xf3 p0 (by (try dsimp only); omega) hn0) ok_X8_watchAt k_369 k_371 ks_1 k_1 k_372 ⟨(Nat.le_of_ble_eq_true rfl), (Nat.le_of_ble_eq_true rfl)⟩ ⟨(Nat.le_of_ble_eq_true rfl), (Nat.le_of_ble_eq_true rfl)⟩ hl.1 (Nat.le_of_ble_eq_true rfl) rfl rfl dX8_changed_27 (prV (hP.sub (ws' := [(xh, .inr (8, G8 xa xtrialRule xdropRule xtoday)), ((xa 1), .inl (E 0, 16, .inl xf1)), ((xa 3), .inl (E 3, 16, .inr (.inr (.inr (.inr xf3)))))]) [0, 1, 2] rfl) hK rfl rfl 0 rfl)) ?_
        refine lv_astoreN (lv' := [(5, .null), (0, .ref xh), (1, .int p0), (2, .int p1), (3, .int p2), (4, .int p3)]) hx hb dX8_changed_30 hl (by decide) rfl (fun ls hl => ?_)
        refine lv_aloadN hx hb dX8_changed_32 (lv_at hl 0 rfl) ?_
        refine lv_ifnonnullN hx hb dX8_changed_34 ?_
        refine lv_aload_n hx hb dX8_changed_37 rfl (lv_at hl 1 rfl) ?_
        refine lv_iload_n hx hb dX8_changed_38 rfl (lv_at hl 2 rfl) ?_
        refine callRV (rest := []) (As := [.int p0]) hx hb hml hown htb hK (g_X8_lackAt l D E xh xa xtrialRule xdropRule xtoday xf1 p0 (by (try dsimp only); omega)) ok_X8_lackAt k_396 k_398 ks_3 k_1 k_399 ⟨(Nat.le_of_ble_eq_true rfl), (Nat.le_of_ble_eq_true rfl)⟩ ⟨(Nat.le_of_ble_eq_true rfl), (Nat.le_of_ble_eq_true rfl)⟩ hl.1 (Nat.le_of_ble_eq_true rfl) rfl rfl dX8_changed_39 (hP.sub (ws' := [(xh, .inr (8, G8 xa xtrialRule xdropRule xtoday)), ((xa 1), .inl (E 0, 16, .inl xf1))]) [0, 1] rfl) rfl rfl 0 rfl (fun r_16 hw_17 => ?_)
        exact W.iret (v := r_16) hx hb hr (fun t ht hW => ⟨r_16, rfl, (by (try dsimp only); first | exact Or.inr ⟨by omega, by omega⟩ | exact Or.inl ⟨by omega, by omega⟩), ht⟩) (fun q h => by cases h) dX8_changed_42
      ·
        refine W_top (y := .int 0) (by rw [hr_9]) ?_
        refine lv_if_ne (tgt := 25) hx hb dX8_changed_20 (by decide) (fun c_19 => absurd (by decide) c_19) (fun c_19 => ?_)
        refine lv_iconst (v := (-1)) hx hb dX8_changed_23 (by decide) ?_
        exact W.iret (v := (-1)) hx hb hr (fun t ht hW => ⟨(-1), rfl, (by have hl0 := t_m1; (try dsimp only); first | exact Or.inl ⟨by omega, by omega⟩ | exact Or.inr ⟨by omega, by omega⟩), ht⟩) (fun q h => by cases h) dX8_changed_24
    ·
      refine W_top (y := .int 0) (by rw [hr_5]) ?_
      refine lv_if_eq (tgt := 23) hx hb dX8_changed_12 (by decide) (fun c_20 => ?_) (fun c_20 => absurd (by decide) c_20)
      refine lv_iconst (v := (-1)) hx hb dX8_changed_23 (by decide) ?_
      exact W.iret (v := (-1)) hx hb hr (fun t ht hW => ⟨(-1), rfl, (by have hl0 := t_m1; (try dsimp only); first | exact Or.inl ⟨by omega, by omega⟩ | exact Or.inr ⟨by omega, by omega⟩), ht⟩) (fun q h => by cases h) dX8_changed_24
  ·
    refine W_top (y := .int 0) (by rw [hr_1]) ?_
    refine lv_if_eq (tgt := 23) hx hb dX8_changed_4 (by decide) (fun c_21 => ?_) (fun c_21 => absurd (by decide) c_21)
    refine lv_iconst (v := (-1)) hx hb dX8_changed_23 (by decide) ?_
    exact W.iret (v := (-1)) hx hb hr (fun t ht hW => ⟨(-1), rfl, (by have hl0 := t_m1; (try dsimp only); first | exact Or.inl ⟨by omega, by omega⟩ | exact Or.inr ⟨by omega, by omega⟩), ht⟩) (fun q h => by cases h) dX8_changed_24
set_option maxHeartbeats 4000000 in
set_option maxRecDepth 100000 in
theorem g_X8_changed_W (l : Launch) (D : va_G) (E : Nat → Nat) (xh : Nat) (xa : Nat → Nat) (xtrialRule : Nat) (xdropRule : Nat) (xtoday : Int32) (xf1 : Nat → Int32) (xf3 : Nat → Option Nat) (wh : Nat) (wa : Nat → Nat) (wf0 : Nat → Int32) (wf1 : Nat → Int32) (wf2 : Nat → Int32) (oa : Nat → Nat) (osize : Int32) (of0 : Nat → Int32) (of1 : Nat → Int32) (of2 : Nat → Int32) (of3 : Nat → Int32) (of4 : Nat → Int32) (p0 : Int32) (p1 : Int32) (p2 : Int32) (p3 : Int32) (hi_x : (0 ≤ xtoday.toInt ∧ xtoday.toInt ≤ 399)) (hi_o : (0 ≤ osize.toInt ∧ osize.toInt ≤ 60)) (hk0 : (0 ≤ p0.toInt ∧ p0.toInt ≤ 15 ∧ ((xf1 (p0).toNatClampNeg).toInt = 0 ∨ (xf1 (p0).toNatClampNeg).toInt = 1))) (hw0 : xf3 (p0).toNatClampNeg = some wh) : Met l yX8_changed (wl yX8_changed cX8_changed 8 (some .int)) (RM 4 0 0) (rd_P D E [.ref xh, .int p0, .int p1, .int p2, .int p3] [(xh, .inr (8, G8 xa xtrialRule xdropRule xtoday)), ((xa 1), .inl (E 0, 16, .inl xf1)), ((xa 3), .inl (E 3, 16, .inr (.inr (.inr (.inr xf3))))), (wh, .inr (7, G7 wa)), ((wa 0), .inl (E 0, 400, .inl wf0)), ((wa 1), .inl (E 0, 400, .inl wf1)), ((wa 2), .inl (E 0, 400, .inl wf2)), ((xa 6), .inr (2, G2 oa osize)), ((oa 0), .inl (E 0, 60, .inl of0)), ((oa 1), .inl (E 0, 60, .inl of1)), ((oa 2), .inl (E 0, 60, .inl of2)), ((oa 3), .inl (E 0, 60, .inl of3)), ((oa 4), .inl (E 0, 60, .inl of4))]) (rd_Q (fun r => ((¬ ((0 ≤ p1.toInt ∧ p2.toInt ≤ 399 ∧ p1.toInt < p2.toInt ∧ p2.toInt - p1.toInt ≤ 60) ∧ (-1 ≤ p3.toInt ∧ p3.toInt ≤ 399)) ∧ r.toInt = -1) ∨ (((0 ≤ p1.toInt ∧ p2.toInt ≤ 399 ∧ p1.toInt < p2.toInt ∧ p2.toInt - p1.toInt ≤ 60) ∧ (-1 ≤ p3.toInt ∧ p3.toInt ≤ 399)) ∧ r.toInt = chN (fun d => rX wf0 wf1 wf2 of0 of1 of2 of3 of4 osize d p3) (fun d => rX wf0 wf1 wf2 of0 of1 of2 of3 of4 osize d (-1)) p1 (p2.toInt - p1.toInt).toNat)))) 0 0 (fun _ => False) := by
  refine Met.ofW (cc := cX8_changed) (maxL := 8) (ret := (some .int)) (by decide) rfl ?_
  intro p e s m args below meth c s₁ B hml hv
  obtain ⟨rfl, hP, hK⟩ := hv
  have hx := B.exec; have hb := B.bytes; have hr := B.returns
  have hts := atoms_spec (ws := wl yX8_changed cX8_changed 8 (some .int)) B.pre
  have htb : ∀ w ∈ tb, w.before _ s = true := fun w h => hts w (List.mem_cons_of_mem _ h)
  have hown : s.vm.findClass RX8 = some m.cls := findClass_of_methodNamed B.named
  have hlocks := B.notSynchronized
  have hP : va_P D vwCl [(xh, .inr (8, G8 xa xtrialRule xdropRule xtoday)), ((xa 1), .inl (E 0, 16, .inl xf1)), ((xa 3), .inl (E 3, 16, .inr (.inr (.inr (.inr xf3))))), (wh, .inr (7, G7 wa)), ((wa 0), .inl (E 0, 400, .inl wf0)), ((wa 1), .inl (E 0, 400, .inl wf1)), ((wa 2), .inl (E 0, 400, .inl wf2)), ((xa 6), .inr (2, G2 oa osize)), ((oa 0), .inl (E 0, 60, .inl of0)), ((oa 1), .inl (E 0, 60, .inl of1)), ((oa 2), .inl (E 0, 60, .inl of2)), ((oa 3), .inl (E 0, 60, .inl of3)), ((oa 4), .inl (E 0, 60, .inl of4))] s.heap := hP
  have hl := lv_entry ([.ref xh, .int p0, .int p1, .int p2, .int p3]) (n := 8) (Nat.le_of_ble_eq_true rfl)
  rw [lg_entry_eq]
  generalize (lg_sl ([.ref xh, .int p0, .int p1, .int p2, .int p3]) ++ List.replicate (8 - (lg_sl ([.ref xh, .int p0, .int p1, .int p2, .int p3])).length) Slot.unset).toArray = ls at hl ⊢
  have hl : lv_has ls 8 [(0, .ref xh), (1, .int p0), (2, .int p1), (3, .int p2), (4, .int p3)] := hl
  have lo_p0 := i_lo p0; have hi_p0 := i_hi p0
  have lo_p1 := i_lo p1; have hi_p1 := i_hi p1
  have lo_p2 := i_lo p2; have hi_p2 := i_hi p2
  have lo_p3 := i_lo p3; have hi_p3 := i_hi p3
  refine lv_iload_n hx hb dX8_changed_0 rfl (lv_at hl 1 rfl) ?_
  refine callRS (rest := []) (As := [.int p0]) hx hb hml hown htb hK (g_X8_isPlace l D E p0 ) ok_X8_isPlace k_333 k_334 k_1 k_335 ⟨(Nat.le_of_ble_eq_true rfl), (Nat.le_of_ble_eq_true rfl)⟩ ⟨(Nat.le_of_ble_eq_true rfl), (Nat.le_of_ble_eq_true rfl)⟩ hl.1 (Nat.le_of_ble_eq_true rfl) rfl rfl dX8_changed_1 (hP.sub (ws' := ([] : va_W)) [] rfl) (fun r_1 hw_2 => ?_)
  rcases hw_2 with ⟨hr_1, hw_2⟩ | ⟨hr_1, hw_2⟩
  ·
    refine W_top (y := .int 1) (by rw [hr_1]) ?_
    refine lv_if_eq (tgt := 23) hx hb dX8_changed_4 (by decide) (fun c_4 => absurd c_4 (by decide)) (fun c_4 => ?_)
    refine lv_iload_n hx hb dX8_changed_7 rfl (lv_at hl 2 rfl) ?_
    refine lv_iload_n hx hb dX8_changed_8 rfl (lv_at hl 3 rfl) ?_
    refine callRS (rest := []) (As := [.int p1, .int p2]) hx hb hml hown htb hK (g_X8_isStretch l D E p1 p2 ) ok_X8_isStretch k_479 k_480 k_1 k_481 ⟨(Nat.le_of_ble_eq_true rfl), (Nat.le_of_ble_eq_true rfl)⟩ ⟨(Nat.le_of_ble_eq_true rfl), (Nat.le_of_ble_eq_true rfl)⟩ hl.1 (Nat.le_of_ble_eq_true rfl) rfl rfl dX8_changed_9 (hP.sub (ws' := ([] : va_W)) [] rfl) (fun r_5 hw_6 => ?_)
    rcases hw_6 with ⟨hr_5, hw_6⟩ | ⟨hr_5, hw_6⟩
    ·
      refine W_top (y := .int 1) (by rw [hr_5]) ?_
      refine lv_if_eq (tgt := 23) hx hb dX8_changed_12 (by decide) (fun c_8 => absurd c_8 (by decide)) (fun c_8 => ?_)
      refine lv_iload hx hb dX8_changed_15 (lv_at hl 4 rfl) ?_
      refine callRS (rest := []) (As := [.int p3]) hx hb hml hown htb hK (g_X8_isKnowledge l D E p3 ) ok_X8_isKnowledge k_412 k_413 k_1 k_414 ⟨(Nat.le_of_ble_eq_true rfl), (Nat.le_of_ble_eq_true rfl)⟩ ⟨(Nat.le_of_ble_eq_true rfl), (Nat.le_of_ble_eq_true rfl)⟩ hl.1 (Nat.le_of_ble_eq_true rfl) rfl rfl dX8_changed_17 (hP.sub (ws' := ([] : va_W)) [] rfl) (fun r_9 hw_10 => ?_)
      rcases hw_10 with ⟨hr_9, hw_10⟩ | ⟨hr_9, hw_10⟩
      ·
        refine W_top (y := .int 1) (by rw [hr_9]) ?_
        refine lv_if_ne (tgt := 25) hx hb dX8_changed_20 (by decide) (fun c_12 => ?_) (fun c_12 => absurd c_12 (by decide))
        refine lv_aload_n hx hb dX8_changed_25 rfl (lv_at hl 0 rfl) ?_
        refine lv_iload_n hx hb dX8_changed_26 rfl (lv_at hl 1 rfl) ?_
        refine rr_call (runRV (rest := []) (As := [.int p0]) hx hb hml hown htb (g_X8_watchAt_W l D E xh xa xtrialRule xdropRule xtoday xf1 xf3 wh wa p0 (by (try dsimp only); omega) hk0 hw0) ok_X8_watchAt k_369 k_371 ks_1 k_1 k_372 ⟨(Nat.le_of_ble_eq_true rfl), (Nat.le_of_ble_eq_true rfl)⟩ ⟨(Nat.le_of_ble_eq_true rfl), (Nat.le_of_ble_eq_true rfl)⟩ hl.1 (Nat.le_of_ble_eq_true rfl) rfl rfl dX8_changed_27 (prV (hP.sub (ws' := [(xh, .inr (8, G8 xa xtrialRule xdropRule xtoday)), ((xa 1), .inl (E 0, 16, .inl xf1)), ((xa 3), .inl (E 3, 16, .inr (.inr (.inr (.inr xf3))))), (wh, .inr (7, G7 wa))]) [0, 1, 2, 3] rfl) hK rfl rfl 0 rfl)) ?_
        refine lv_astore (lv' := [(5, .ref wh), (0, .ref xh), (1, .int p0), (2, .int p1), (3, .int p2), (4, .int p3)]) hx hb dX8_changed_30 hl (by decide) rfl (fun ls hl => ?_)
        refine lv_aload hx hb dX8_changed_32 (lv_at hl 0 rfl) ?_
        refine lv_ifnonnull (tgt := 43) hx hb dX8_changed_34 (by decide) ?_
        refine lv_iconst (v := 0) hx hb dX8_changed_43 (by decide) ?_
        refine lv_istore (lv' := [(6, .int 0), (5, .ref wh), (0, .ref xh), (1, .int p0), (2, .int p1), (3, .int p2), (4, .int p3)]) hx hb dX8_changed_44 hl (by decide) rfl (fun ls hl => ?_)
        refine lv_iload_n hx hb dX8_changed_46 rfl (lv_at hl 4 rfl) ?_
        refine lv_istore (lv' := [(7, .int p1), (6, .int 0), (5, .ref wh), (0, .ref xh), (1, .int p0), (2, .int p1), (3, .int p2), (4, .int p3)]) hx hb dX8_changed_47 hl (by decide) rfl (fun ls hl => ?_)
        have loop_16 : ∀ (N_18 : Nat) (L7_49 : Int32) (L6_49 : Int32)  (ls : Array Slot), p2.toInt - L7_49.toInt < (N_18 : Int) → (p1.toInt ≤ L7_49.toInt ∧ L7_49.toInt ≤ p2.toInt ∧ 0 ≤ L6_49.toInt ∧ L6_49.toInt ≤ L7_49.toInt - p1.toInt) → (L6_49.toInt = chN (fun d => rX wf0 wf1 wf2 of0 of1 of2 of3 of4 osize d p3) (fun d => rX wf0 wf1 wf2 of0 of1 of2 of3 of4 osize d (-1)) p1 (L7_49.toInt - p1.toInt).toNat) → lv_has ls 8 [(7, .int L7_49), (6, .int L6_49), (5, .ref wh), (0, .ref xh), (1, .int p0), (2, .int p1), (3, .int p2), (4, .int p3)] → W p l e (headSpec (wl yX8_changed cX8_changed 8 (some .int)) (RM 4 0 0)).room s m [Value.ref xh, .int p0, .int p1, .int p2, .int p3].toArray below meth c s.heap [] 0 0 (MQ below (rd_Q (fun r => ((¬ ((0 ≤ p1.toInt ∧ p2.toInt ≤ 399 ∧ p1.toInt < p2.toInt ∧ p2.toInt - p1.toInt ≤ 60) ∧ (-1 ≤ p3.toInt ∧ p3.toInt ≤ 399)) ∧ r.toInt = -1) ∨ (((0 ≤ p1.toInt ∧ p2.toInt ≤ 399 ∧ p1.toInt < p2.toInt ∧ p2.toInt - p1.toInt ≤ 60) ∧ (-1 ≤ p3.toInt ∧ p3.toInt ≤ 399)) ∧ r.toInt = chN (fun d => rX wf0 wf1 wf2 of0 of1 of2 of3 of4 osize d p3) (fun d => rX wf0 wf1 wf2 of0 of1 of2 of3 of4 osize d (-1)) p1 (p2.toInt - p1.toInt).toNat)))) [Value.ref xh, .int p0, .int p1, .int p2, .int p3].toArray s 0 0 (fun _ => False)) (F0 m 49 ls []) := by
          intro N_18
          induction N_18 with
          | zero => intro L7_49 L6_49  ls hm v0_49 v1_49 _; exfalso; omega
          | succ N_18 ih_17 =>
            intro L7_49 L6_49 ls hm v0_49 v1_49 hl
            have lo_L7_49 := i_lo L7_49; have hi_L7_49 := i_hi L7_49
            have lo_L6_49 := i_lo L6_49; have hi_L6_49 := i_hi L6_49
            refine lv_iload hx hb dX8_changed_49 (lv_at hl 0 rfl) ?_
            refine lv_iload_n hx hb dX8_changed_51 rfl (lv_at hl 6 rfl) ?_
            refine lv_icmp_ge (tgt := 92) hx hb dX8_changed_52 (by decide) (fun c_19 => ?_) (fun c_19 => ?_)
            ·
              have ic_19 : p2.toInt ≤ L7_49.toInt := by first | exact (g_le rfl rfl).mp c_19 | (have h := mt (g_lt rfl rfl).mpr c_19; omega)
              clear c_19
              refine lv_iload hx hb dX8_changed_92 (lv_at hl 1 rfl) ?_
              exact W.iret (v := L6_49) hx hb hr (fun t ht hW => ⟨L6_49, rfl, (by (try dsimp only); first | exact Or.inr ⟨by omega, by rw [show (p2.toInt - p1.toInt).toNat = (L7_49.toInt - p1.toInt).toNat by omega]; assumption⟩ | exact Or.inl ⟨by omega, by omega⟩), ht⟩) (fun q h => by cases h) dX8_changed_94
            ·
              have ic_19 : L7_49.toInt < p2.toInt := by first | exact (g_lt rfl rfl).mp c_19 | (have h := mt (g_le rfl rfl).mpr c_19; omega)
              clear c_19
              refine lv_aload hx hb dX8_changed_55 (lv_at hl 2 rfl) ?_
              refine lv_iload hx hb dX8_changed_57 (lv_at hl 0 rfl) ?_
              refine lv_aload_n hx hb dX8_changed_59 rfl (lv_at hl 3 rfl) ?_
              refine va_get (D := D) (ci := 8) (v := .ref (xa 6)) (C := RX8) (T := TX8) (N := 14) hx hb htb iX8 hown hK.1 hP 0 rfl rfl 6 (by decide) (htb _ k_278) (fun _ h9 => h9) rfl dX8_changed_60 ?_
              refine lv_iload hx hb dX8_changed_63 (lv_at hl 7 rfl) ?_
              refine callRV (rest := []) (As := [.int L7_49, .ref (xa 6), .int p3]) hx hb hml hown htb hK (g_X7_rateAsKnown l D E wh wa wf0 wf1 wf2 (xa 6) oa osize of0 of1 of2 of3 of4 L7_49 p3 (by (try dsimp only); omega) (by (try dsimp only); omega)) ok_X7_rateAsKnown k_429 k_430 k_431 k_10 k_432 ⟨(Nat.le_of_ble_eq_true rfl), (Nat.le_of_ble_eq_true rfl)⟩ ⟨(Nat.le_of_ble_eq_true rfl), (Nat.le_of_ble_eq_true rfl)⟩ hl.1 (Nat.le_of_ble_eq_true rfl) rfl rfl dX8_changed_65 (hP.sub (ws' := [(wh, .inr (7, G7 wa)), ((wa 0), .inl (E 0, 400, .inl wf0)), ((wa 1), .inl (E 0, 400, .inl wf1)), ((wa 2), .inl (E 0, 400, .inl wf2)), ((xa 6), .inr (2, G2 oa osize)), ((oa 0), .inl (E 0, 60, .inl of0)), ((oa 1), .inl (E 0, 60, .inl of1)), ((oa 2), .inl (E 0, 60, .inl of2)), ((oa 3), .inl (E 0, 60, .inl of3)), ((oa 4), .inl (E 0, 60, .inl of4))]) [3, 4, 5, 6, 7, 8, 9, 10, 11, 12] rfl) rfl rfl 0 rfl (fun r_20 hw_21 => ?_)
              refine lv_aload hx hb dX8_changed_68 (lv_at hl 2 rfl) ?_
              refine lv_iload hx hb dX8_changed_70 (lv_at hl 0 rfl) ?_
              refine lv_aload_n hx hb dX8_changed_72 rfl (lv_at hl 3 rfl) ?_
              refine va_get (D := D) (ci := 8) (v := .ref (xa 6)) (C := RX8) (T := TX8) (N := 14) hx hb htb iX8 hown hK.1 hP 0 rfl rfl 6 (by decide) (htb _ k_278) (fun _ h9 => h9) rfl dX8_changed_73 ?_
              refine lv_iconst (v := (-1)) hx hb dX8_changed_76 (by decide) ?_
              refine callRV (rest := [.int r_20]) (As := [.int L7_49, .ref (xa 6), .int (-1)]) hx hb hml hown htb hK (g_X7_rateAsKnown l D E wh wa wf0 wf1 wf2 (xa 6) oa osize of0 of1 of2 of3 of4 L7_49 (-1) (by (try dsimp only); omega) (by have h0 := t_m1; (try dsimp only); omega)) ok_X7_rateAsKnown k_429 k_430 k_431 k_10 k_432 ⟨(Nat.le_of_ble_eq_true rfl), (Nat.le_of_ble_eq_true rfl)⟩ ⟨(Nat.le_of_ble_eq_true rfl), (Nat.le_of_ble_eq_true rfl)⟩ hl.1 (Nat.le_of_ble_eq_true rfl) rfl rfl dX8_changed_77 (hP.sub (ws' := [(wh, .inr (7, G7 wa)), ((wa 0), .inl (E 0, 400, .inl wf0)), ((wa 1), .inl (E 0, 400, .inl wf1)), ((wa 2), .inl (E 0, 400, .inl wf2)), ((xa 6), .inr (2, G2 oa osize)), ((oa 0), .inl (E 0, 60, .inl of0)), ((oa 1), .inl (E 0, 60, .inl of1)), ((oa 2), .inl (E 0, 60, .inl of2)), ((oa 3), .inl (E 0, 60, .inl of3)), ((oa 4), .inl (E 0, 60, .inl of4))]) [3, 4, 5, 6, 7, 8, 9, 10, 11, 12] rfl) rfl rfl 0 rfl (fun r_23 hw_24 => ?_)
              try simp only [t_m1] at hw_24
              refine lv_icmp_eq (tgt := 86) hx hb dX8_changed_80 (by decide) (fun c_26 => ?_) (fun c_26 => ?_)
              ·
                have ic_26 : r_20.toInt = r_23.toInt := (g_eq rfl rfl).mp c_26
                clear c_26
                obtain ⟨z_27, ez_27⟩ : ∃ y : Int32, y = L7_49 + 1 := ⟨_, rfl⟩
                have jz_27 : z_27.toInt = L7_49.toInt + 1 := by rw [ez_27]; exact g_add rfl t_1 (by omega) (by omega)
                refine lv_iinc (v := z_27) (lv' := [(7, .int z_27), (6, .int L6_49), (5, .ref wh), (0, .ref xh), (1, .int p0), (2, .int p1), (3, .int p2), (4, .int p3)]) hx hb dX8_changed_86 hl (k := 0) rfl (by rw [ez_27]; rfl) (by decide) rfl (fun ls hl => ?_)
                refine lv_goto (tgt := 49) hx hb dX8_changed_89 (by decide) ?_
                exact ih_17 z_27 L6_49 _ (by (try dsimp only); omega) (by (try dsimp only); omega) (by have hs := chN_step (A := (fun d => rX wf0 wf1 wf2 of0 of1 of2 of3 of4 osize d p3)) (B := (fun d => rX wf0 wf1 wf2 of0 of1 of2 of3 of4 osize d (-1))) (p := p1) (L := L7_49) (z := z_27) (by omega) (by omega) jz_27; rw [hs]; simp only [← hw_21, ← hw_24]; split <;> omega) (lv_sub hl [0, 1, 2, 3, 4, 5, 6, 7] rfl)
              ·
                have ic_26 : r_20.toInt ≠ r_23.toInt := mt (g_eq rfl rfl).mpr c_26
                clear c_26
                obtain ⟨z_28, ez_28⟩ : ∃ y : Int32, y = L6_49 + 1 := ⟨_, rfl⟩
                have jz_28 : z_28.toInt = L6_49.toInt + 1 := by rw [ez_28]; exact g_add rfl t_1 (by omega) (by omega)
                refine lv_iinc (v := z_28) (lv' := [(6, .int z_28), (7, .int L7_49), (5, .ref wh), (0, .ref xh), (1, .int p0), (2, .int p1), (3, .int p2), (4, .int p3)]) hx hb dX8_changed_83 hl (k := 1) rfl (by rw [ez_28]; rfl) (by decide) rfl (fun ls hl => ?_)
                obtain ⟨z_29, ez_29⟩ : ∃ y : Int32, y = L7_49 + 1 := ⟨_, rfl⟩
                have jz_29 : z_29.toInt = L7_49.toInt + 1 := by rw [ez_29]; exact g_add rfl t_1 (by omega) (by omega)
                refine lv_iinc (v := z_29) (lv' := [(7, .int z_29), (6, .int z_28), (5, .ref wh), (0, .ref xh), (1, .int p0), (2, .int p1), (3, .int p2), (4, .int p3)]) hx hb dX8_changed_86 hl (k := 1) rfl (by rw [ez_29]; rfl) (by decide) rfl (fun ls hl => ?_)
                refine lv_goto (tgt := 49) hx hb dX8_changed_89 (by decide) ?_
                exact ih_17 z_29 z_28 _ (by (try dsimp only); omega) (by (try dsimp only); omega) (by have hs := chN_step (A := (fun d => rX wf0 wf1 wf2 of0 of1 of2 of3 of4 osize d p3)) (B := (fun d => rX wf0 wf1 wf2 of0 of1 of2 of3 of4 osize d (-1))) (p := p1) (L := L7_49) (z := z_29) (by omega) (by omega) jz_29; rw [hs]; simp only [← hw_21, ← hw_24]; split <;> omega) (lv_sub hl [0, 1, 2, 3, 4, 5, 6, 7] rfl)
        exact loop_16 400 p1 0 _ (by have h0 := t_0; (try dsimp only); omega) (by have h0 := t_0; (try dsimp only); omega) (by have h0 := t_0; rw [show (p1.toInt - p1.toInt).toNat = 0 by omega, h0]; rfl)  (lv_sub hl [0, 1, 2, 3, 4, 5, 6, 7] rfl)
      ·
        refine W_top (y := .int 0) (by rw [hr_9]) ?_
        refine lv_if_ne (tgt := 25) hx hb dX8_changed_20 (by decide) (fun c_30 => absurd (by decide) c_30) (fun c_30 => ?_)
        refine lv_iconst (v := (-1)) hx hb dX8_changed_23 (by decide) ?_
        exact W.iret (v := (-1)) hx hb hr (fun t ht hW => ⟨(-1), rfl, (by have hl0 := t_m1; (try dsimp only); first | exact Or.inl ⟨by omega, by omega⟩ | exact Or.inr ⟨by omega, by rw [show (p2.toInt - p1.toInt).toNat = (L7_49.toInt - p1.toInt).toNat by omega]; assumption⟩), ht⟩) (fun q h => by cases h) dX8_changed_24
    ·
      refine W_top (y := .int 0) (by rw [hr_5]) ?_
      refine lv_if_eq (tgt := 23) hx hb dX8_changed_12 (by decide) (fun c_31 => ?_) (fun c_31 => absurd (by decide) c_31)
      refine lv_iconst (v := (-1)) hx hb dX8_changed_23 (by decide) ?_
      exact W.iret (v := (-1)) hx hb hr (fun t ht hW => ⟨(-1), rfl, (by have hl0 := t_m1; (try dsimp only); first | exact Or.inl ⟨by omega, by omega⟩ | exact Or.inr ⟨by omega, by rw [show (p2.toInt - p1.toInt).toNat = (L7_49.toInt - p1.toInt).toNat by omega]; assumption⟩), ht⟩) (fun q h => by cases h) dX8_changed_24
  ·
    refine W_top (y := .int 0) (by rw [hr_1]) ?_
    refine lv_if_eq (tgt := 23) hx hb dX8_changed_4 (by decide) (fun c_32 => ?_) (fun c_32 => absurd (by decide) c_32)
    refine lv_iconst (v := (-1)) hx hb dX8_changed_23 (by decide) ?_
    exact W.iret (v := (-1)) hx hb hr (fun t ht hW => ⟨(-1), rfl, (by have hl0 := t_m1; (try dsimp only); first | exact Or.inl ⟨by omega, by omega⟩ | exact Or.inr ⟨by omega, by rw [show (p2.toInt - p1.toInt).toNat = (L7_49.toInt - p1.toInt).toNat by omega]; assumption⟩), ht⟩) (fun q h => by cases h) dX8_changed_24
set_option maxHeartbeats 4000000 in
set_option maxRecDepth 100000 in
theorem g_X8_lend_N (l : Launch) (D : va_G) (E : Nat → Nat) (xh : Nat) (xa : Nat → Nat) (xtrialRule : Nat) (xdropRule : Nat) (xtoday : Int32) (xf1 : Nat → Int32) (xf3 : Nat → Option Nat) (p0 : Int32) (p1 : Int32) (hi_x : (0 ≤ xtoday.toInt ∧ xtoday.toInt ≤ 399)) (hn0 : ¬ (0 ≤ p0.toInt ∧ p0.toInt ≤ 15 ∧ ((xf1 (p0).toNatClampNeg).toInt = 0 ∨ (xf1 (p0).toNatClampNeg).toInt = 1))) : Met l yX8_lend (wl yX8_lend cX8_lend 4 (some .int)) (RM 2 0 0) (rd_P D E [.ref xh, .int p0, .int p1] [(xh, .inr (8, G8 xa xtrialRule xdropRule xtoday)), ((xa 1), .inl (E 0, 16, .inl xf1)), ((xa 3), .inl (E 3, 16, .inr (.inr (.inr (.inr xf3)))))]) (rd_Q (fun r => ((r.toInt = -1 ∧ ¬ ((0 ≤ p0.toInt ∧ p0.toInt ≤ 15) ∧ (0 ≤ p1.toInt ∧ p1.toInt ≤ 19))) ∨ (((0 ≤ p0.toInt ∧ p0.toInt ≤ 15) ∧ (0 ≤ p1.toInt ∧ p1.toInt ≤ 19)) ∧ (((xf1 (p0).toNatClampNeg).toInt = -5 ∧ r.toInt = -2) ∨ ((xf1 (p0).toNatClampNeg).toInt ≠ -5 ∧ r.toInt = -3)))))) 0 0 (fun _ => False) := by
  refine Met.ofW (cc := cX8_lend) (maxL := 4) (ret := (some .int)) (by decide) rfl ?_
  intro p e s m args below meth c s₁ B hml hv
  obtain ⟨rfl, hP, hK⟩ := hv
  have hx := B.exec; have hb := B.bytes; have hr := B.returns
  have hts := atoms_spec (ws := wl yX8_lend cX8_lend 4 (some .int)) B.pre
  have htb : ∀ w ∈ tb, w.before _ s = true := fun w h => hts w (List.mem_cons_of_mem _ h)
  have hown : s.vm.findClass RX8 = some m.cls := findClass_of_methodNamed B.named
  have hlocks := B.notSynchronized
  have hP : va_P D vwCl [(xh, .inr (8, G8 xa xtrialRule xdropRule xtoday)), ((xa 1), .inl (E 0, 16, .inl xf1)), ((xa 3), .inl (E 3, 16, .inr (.inr (.inr (.inr xf3)))))] s.heap := hP
  have hl := lv_entry ([.ref xh, .int p0, .int p1]) (n := 4) (Nat.le_of_ble_eq_true rfl)
  rw [lg_entry_eq]
  generalize (lg_sl ([.ref xh, .int p0, .int p1]) ++ List.replicate (4 - (lg_sl ([.ref xh, .int p0, .int p1])).length) Slot.unset).toArray = ls at hl ⊢
  have hl : lv_has ls 4 [(0, .ref xh), (1, .int p0), (2, .int p1)] := hl
  have lo_p0 := i_lo p0; have hi_p0 := i_hi p0
  have lo_p1 := i_lo p1; have hi_p1 := i_hi p1
  refine lv_iload_n hx hb dX8_lend_0 rfl (lv_at hl 1 rfl) ?_
  refine callRS (rest := []) (As := [.int p0]) hx hb hml hown htb hK (g_X8_isPlace l D E p0 ) ok_X8_isPlace k_333 k_334 k_1 k_335 ⟨(Nat.le_of_ble_eq_true rfl), (Nat.le_of_ble_eq_true rfl)⟩ ⟨(Nat.le_of_ble_eq_true rfl), (Nat.le_of_ble_eq_true rfl)⟩ hl.1 (Nat.le_of_ble_eq_true rfl) rfl rfl dX8_lend_1 (hP.sub (ws' := ([] : va_W)) [] rfl) (fun r_1 hw_2 => ?_)
  rcases hw_2 with ⟨hr_1, hw_2⟩ | ⟨hr_1, hw_2⟩
  ·
    refine W_top (y := .int 1) (by rw [hr_1]) ?_
    refine lv_if_eq (tgt := 17) hx hb dX8_lend_4 (by decide) (fun c_4 => absurd c_4 (by decide)) (fun c_4 => ?_)
    refine lv_iload_n hx hb dX8_lend_7 rfl (lv_at hl 2 rfl) ?_
    refine lv_if_lt (tgt := 17) hx hb dX8_lend_8 (by decide) (fun c_5 => ?_) (fun c_5 => ?_)
    ·
      have ic_5 : p1.toInt < 0 := by first | exact (g_lt rfl t_0).mp c_5 | (have h := mt (g_le t_0 rfl).mpr c_5; omega)
      clear c_5
      refine lv_iconst (v := (-1)) hx hb dX8_lend_17 (by decide) ?_
      exact W.iret (v := (-1)) hx hb hr (fun t ht hW => ⟨(-1), rfl, (by have hl0 := t_m1; (try dsimp only); first | exact Or.inl ⟨by omega, by omega⟩ | exact Or.inr ⟨by omega, by omega⟩), ht⟩) (fun q h => by cases h) dX8_lend_18
    ·
      have ic_5 : 0 ≤ p1.toInt := by first | exact (g_le t_0 rfl).mp c_5 | (have h := mt (g_lt rfl t_0).mpr c_5; omega)
      clear c_5
      refine lv_iload_n hx hb dX8_lend_11 rfl (lv_at hl 2 rfl) ?_
      refine lv_bipush (v := 20) hx hb dX8_lend_12 (by decide) ?_
      refine lv_icmp_lt (tgt := 19) hx hb dX8_lend_14 (by decide) (fun c_6 => ?_) (fun c_6 => ?_)
      ·
        have ic_6 : p1.toInt < 20 := by first | exact (g_lt rfl t_20).mp c_6 | (have h := mt (g_le t_20 rfl).mpr c_6; omega)
        clear c_6
        refine lv_aload_n hx hb dX8_lend_19 rfl (lv_at hl 0 rfl) ?_
        refine lv_iload_n hx hb dX8_lend_20 rfl (lv_at hl 1 rfl) ?_
        refine rn_call (runRV (rest := []) (As := [.int p0]) hx hb hml hown htb (g_X8_watchAt_N l D E xh xa xtrialRule xdropRule xtoday xf1 xf3 p0 (by (try dsimp only); omega) hn0) ok_X8_watchAt k_369 k_371 ks_1 k_1 k_372 ⟨(Nat.le_of_ble_eq_true rfl), (Nat.le_of_ble_eq_true rfl)⟩ ⟨(Nat.le_of_ble_eq_true rfl), (Nat.le_of_ble_eq_true rfl)⟩ hl.1 (Nat.le_of_ble_eq_true rfl) rfl rfl dX8_lend_21 (prV (hP.sub (ws' := [(xh, .inr (8, G8 xa xtrialRule xdropRule xtoday)), ((xa 1), .inl (E 0, 16, .inl xf1)), ((xa 3), .inl (E 3, 16, .inr (.inr (.inr (.inr xf3)))))]) [0, 1, 2] rfl) hK rfl rfl 0 rfl)) ?_
        refine lv_astore_nN (lv' := [(3, .null), (0, .ref xh), (1, .int p0), (2, .int p1)]) hx hb dX8_lend_24 rfl hl (by decide) rfl (fun ls hl => ?_)
        refine lv_aload_nN hx hb dX8_lend_25 rfl (lv_at hl 0 rfl) ?_
        refine lv_ifnonnullN hx hb dX8_lend_26 ?_
        refine lv_aload_n hx hb dX8_lend_29 rfl (lv_at hl 1 rfl) ?_
        refine lv_iload_n hx hb dX8_lend_30 rfl (lv_at hl 2 rfl) ?_
        refine callRV (rest := []) (As := [.int p0]) hx hb hml hown htb hK (g_X8_lackAt l D E xh xa xtrialRule xdropRule xtoday xf1 p0 (by (try dsimp only); omega)) ok_X8_lackAt k_396 k_398 ks_3 k_1 k_399 ⟨(Nat.le_of_ble_eq_true rfl), (Nat.le_of_ble_eq_true rfl)⟩ ⟨(Nat.le_of_ble_eq_true rfl), (Nat.le_of_ble_eq_true rfl)⟩ hl.1 (Nat.le_of_ble_eq_true rfl) rfl rfl dX8_lend_31 (hP.sub (ws' := [(xh, .inr (8, G8 xa xtrialRule xdropRule xtoday)), ((xa 1), .inl (E 0, 16, .inl xf1))]) [0, 1] rfl) rfl rfl 0 rfl (fun r_10 hw_11 => ?_)
        exact W.iret (v := r_10) hx hb hr (fun t ht hW => ⟨r_10, rfl, (by (try dsimp only); first | exact Or.inr ⟨by omega, by omega⟩ | exact Or.inl ⟨by omega, by omega⟩), ht⟩) (fun q h => by cases h) dX8_lend_34
      ·
        have ic_6 : 20 ≤ p1.toInt := by first | exact (g_le t_20 rfl).mp c_6 | (have h := mt (g_lt rfl t_20).mpr c_6; omega)
        clear c_6
        refine lv_iconst (v := (-1)) hx hb dX8_lend_17 (by decide) ?_
        exact W.iret (v := (-1)) hx hb hr (fun t ht hW => ⟨(-1), rfl, (by have hl0 := t_m1; (try dsimp only); first | exact Or.inl ⟨by omega, by omega⟩ | exact Or.inr ⟨by omega, by omega⟩), ht⟩) (fun q h => by cases h) dX8_lend_18
  ·
    refine W_top (y := .int 0) (by rw [hr_1]) ?_
    refine lv_if_eq (tgt := 17) hx hb dX8_lend_4 (by decide) (fun c_13 => ?_) (fun c_13 => absurd (by decide) c_13)
    refine lv_iconst (v := (-1)) hx hb dX8_lend_17 (by decide) ?_
    exact W.iret (v := (-1)) hx hb hr (fun t ht hW => ⟨(-1), rfl, (by have hl0 := t_m1; (try dsimp only); first | exact Or.inl ⟨by omega, by omega⟩ | exact Or.inr ⟨by omega, by omega⟩), ht⟩) (fun q h => by cases h) dX8_lend_18
set_option maxHeartbeats 4000000 in
set_option maxRecDepth 100000 in
theorem g_X8_lend_W (l : Launch) (D : va_G) (E : Nat → Nat) (xh : Nat) (xa : Nat → Nat) (xtrialRule : Nat) (xdropRule : Nat) (xtoday : Int32) (xf1 : Nat → Int32) (xf3 : Nat → Option Nat) (wh : Nat) (wa : Nat → Nat) (wf3 : Nat → Int32) (p0 : Int32) (p1 : Int32) (sz : Nat) (hi_x : (0 ≤ xtoday.toInt ∧ xtoday.toInt ≤ 399)) (hk0 : (0 ≤ p0.toInt ∧ p0.toInt ≤ 15 ∧ ((xf1 (p0).toNatClampNeg).toInt = 0 ∨ (xf1 (p0).toNatClampNeg).toInt = 1))) (hw0 : xf3 (p0).toNatClampNeg = some wh) : Met l yX8_lend (wl yX8_lend cX8_lend 4 (some .int)) (RM 2 0 0) (mu_P D E [.ref xh, .int p0, .int p1] [(xh, .inr (8, G8 xa xtrialRule xdropRule xtoday)), ((xa 1), .inl (E 0, 16, .inl xf1)), ((xa 3), .inl (E 3, 16, .inr (.inr (.inr (.inr xf3))))), (wh, .inr (7, G7 wa)), ((wa 3), .inl (E 0, 400, .inl wf3))] sz) (va_Qi (fun (r : Int32) (u : (Nat → Int32)) => ((¬ (0 ≤ p1.toInt ∧ p1.toInt ≤ 19) ∧ r.toInt = -1 ∧ u = wf3) ∨ ((0 ≤ p1.toInt ∧ p1.toInt ≤ 19) ∧ (wf3 (xtoday).toNatClampNeg).toInt ≠ -1 ∧ r.toInt = -4 ∧ u = wf3) ∨ ((0 ≤ p1.toInt ∧ p1.toInt ≤ 19) ∧ (wf3 (xtoday).toNatClampNeg).toInt = -1 ∧ r.toInt = 1 ∧ GIV wf3 u xtoday.toInt p1))) (mu_B D (va_A [(xh, .inr (8, G8 xa xtrialRule xdropRule xtoday)), ((xa 1), .inl (E 0, 16, .inl xf1)), ((xa 3), .inl (E 3, 16, .inr (.inr (.inr (.inr xf3))))), (wh, .inr (7, G7 wa)), ((wa 3), .inl (E 0, 400, .inl wf3))] sz) (fun (u : (Nat → Int32)) => [(xh, .inr (8, G8 xa xtrialRule xdropRule xtoday)), ((xa 1), .inl (E 0, 16, .inl xf1)), ((xa 3), .inl (E 3, 16, .inr (.inr (.inr (.inr xf3))))), (wh, .inr (7, G7 wa)), ((wa 3), .inl (E 0, 400, .inl u))])) (va_A [(xh, .inr (8, G8 xa xtrialRule xdropRule xtoday)), ((xa 1), .inl (E 0, 16, .inl xf1)), ((xa 3), .inl (E 3, 16, .inr (.inr (.inr (.inr xf3))))), (wh, .inr (7, G7 wa)), ((wa 3), .inl (E 0, 400, .inl wf3))] sz)) 0 0 (va_A [(xh, .inr (8, G8 xa xtrialRule xdropRule xtoday)), ((xa 1), .inl (E 0, 16, .inl xf1)), ((xa 3), .inl (E 3, 16, .inr (.inr (.inr (.inr xf3))))), (wh, .inr (7, G7 wa)), ((wa 3), .inl (E 0, 400, .inl wf3))] sz) := by
  refine Met.ofW (cc := cX8_lend) (maxL := 4) (ret := (some .int)) (by decide) rfl ?_
  intro p e s m args below meth c s₁ B hml hv
  obtain ⟨rfl, hsz, hP, hK, hD0⟩ := hv
  have hx := B.exec; have hb := B.bytes; have hr := B.returns
  have hts := atoms_spec (ws := wl yX8_lend cX8_lend 4 (some .int)) B.pre
  have htb : ∀ w ∈ tb, w.before _ s = true := fun w h => hts w (List.mem_cons_of_mem _ h)
  have hown : s.vm.findClass RX8 = some m.cls := findClass_of_methodNamed B.named
  have hlocks := B.notSynchronized
  subst hsz
  have hD := hD0.self (sz := s.heap.size)
  generalize hAe : va_A [(xh, .inr (8, G8 xa xtrialRule xdropRule xtoday)), ((xa 1), .inl (E 0, 16, .inl xf1)), ((xa 3), .inl (E 3, 16, .inr (.inr (.inr (.inr xf3))))), (wh, .inr (7, G7 wa)), ((wa 3), .inl (E 0, 400, .inl wf3))] s.heap.size = A at hD ⊢
  have hA : ∀ q : Nat, s.heap.size ≤ q → A q := fun q h => by rw [← hAe]; exact Or.inr h
  have hS : va_S A s.heap s.heap [] := va_S.rf
  have hP : va_P D vwCl [(xh, .inr (8, G8 xa xtrialRule xdropRule xtoday)), ((xa 1), .inl (E 0, 16, .inl xf1)), ((xa 3), .inl (E 3, 16, .inr (.inr (.inr (.inr xf3))))), (wh, .inr (7, G7 wa)), ((wa 3), .inl (E 0, 400, .inl wf3))] s.heap := hP
  have hl := lv_entry ([.ref xh, .int p0, .int p1]) (n := 4) (Nat.le_of_ble_eq_true rfl)
  rw [lg_entry_eq]
  generalize (lg_sl ([.ref xh, .int p0, .int p1]) ++ List.replicate (4 - (lg_sl ([.ref xh, .int p0, .int p1])).length) Slot.unset).toArray = ls at hl ⊢
  have hl : lv_has ls 4 [(0, .ref xh), (1, .int p0), (2, .int p1)] := hl
  have lo_p0 := i_lo p0; have hi_p0 := i_hi p0
  have lo_p1 := i_lo p1; have hi_p1 := i_hi p1
  refine lv_iload_n hx hb dX8_lend_0 rfl (lv_at hl 1 rfl) ?_
  refine callRS (rest := []) (As := [.int p0]) hx hb hml hown htb hK (g_X8_isPlace l D E p0 ) ok_X8_isPlace k_333 k_334 k_1 k_335 ⟨(Nat.le_of_ble_eq_true rfl), (Nat.le_of_ble_eq_true rfl)⟩ ⟨(Nat.le_of_ble_eq_true rfl), (Nat.le_of_ble_eq_true rfl)⟩ hl.1 (Nat.le_of_ble_eq_true rfl) rfl rfl dX8_lend_1 (hP.sub (ws' := ([] : va_W)) [] rfl) (fun r_1 hw_2 => ?_)
  rcases hw_2 with ⟨hr_1, hw_2⟩ | ⟨hr_1, hw_2⟩
  ·
    refine W_top (y := .int 1) (by rw [hr_1]) ?_
    refine lv_if_eq (tgt := 17) hx hb dX8_lend_4 (by decide) (fun c_4 => absurd c_4 (by decide)) (fun c_4 => ?_)
    refine lv_iload_n hx hb dX8_lend_7 rfl (lv_at hl 2 rfl) ?_
    refine lv_if_lt (tgt := 17) hx hb dX8_lend_8 (by decide) (fun c_5 => ?_) (fun c_5 => ?_)
    ·
      have ic_5 : p1.toInt < 0 := by first | exact (g_lt rfl t_0).mp c_5 | (have h := mt (g_le t_0 rfl).mpr c_5; omega)
      clear c_5
      refine lv_iconst (v := (-1)) hx hb dX8_lend_17 (by decide) ?_
      have hP9 := hP.sub (ws' := [(xh, .inr (8, G8 xa xtrialRule xdropRule xtoday)), ((xa 1), .inl (E 0, 16, .inl xf1)), ((xa 3), .inl (E 3, 16, .inr (.inr (.inr (.inr xf3))))), (wh, .inr (7, G7 wa)), ((wa 3), .inl (E 0, 400, .inl wf3))]) [0, 1, 2, 3, 4] rfl
      have hD9 := hD.sub (ws' := [(xh, .inr (8, G8 xa xtrialRule xdropRule xtoday)), ((xa 1), .inl (E 0, 16, .inl xf1)), ((xa 3), .inl (E 3, 16, .inr (.inr (.inr (.inr xf3))))), (wh, .inr (7, G7 wa)), ((wa 3), .inl (E 0, 400, .inl wf3))]) [0, 1, 2, 3, 4] (by decide) rfl
      exact W.iret (v := (-1)) hx hb hr (fun t ht hW => ⟨⟨(-1), wf3, rfl, (by have hl0 := t_m1; (try dsimp only); first | exact Or.inl ⟨by omega, by omega, rfl⟩), by rw [ht]; exact hP9, hD9⟩, hS.F ht⟩) hS.2.2 dX8_lend_18
    ·
      have ic_5 : 0 ≤ p1.toInt := by first | exact (g_le t_0 rfl).mp c_5 | (have h := mt (g_lt rfl t_0).mpr c_5; omega)
      clear c_5
      refine lv_iload_n hx hb dX8_lend_11 rfl (lv_at hl 2 rfl) ?_
      refine lv_bipush (v := 20) hx hb dX8_lend_12 (by decide) ?_
      refine lv_icmp_lt (tgt := 19) hx hb dX8_lend_14 (by decide) (fun c_6 => ?_) (fun c_6 => ?_)
      ·
        have ic_6 : p1.toInt < 20 := by first | exact (g_lt rfl t_20).mp c_6 | (have h := mt (g_le t_20 rfl).mpr c_6; omega)
        clear c_6
        refine lv_aload_n hx hb dX8_lend_19 rfl (lv_at hl 0 rfl) ?_
        refine lv_iload_n hx hb dX8_lend_20 rfl (lv_at hl 1 rfl) ?_
        refine rr_call (runRV (rest := []) (As := [.int p0]) hx hb hml hown htb (g_X8_watchAt_W l D E xh xa xtrialRule xdropRule xtoday xf1 xf3 wh wa p0 (by (try dsimp only); omega) hk0 hw0) ok_X8_watchAt k_369 k_371 ks_1 k_1 k_372 ⟨(Nat.le_of_ble_eq_true rfl), (Nat.le_of_ble_eq_true rfl)⟩ ⟨(Nat.le_of_ble_eq_true rfl), (Nat.le_of_ble_eq_true rfl)⟩ hl.1 (Nat.le_of_ble_eq_true rfl) rfl rfl dX8_lend_21 (prV (hP.sub (ws' := [(xh, .inr (8, G8 xa xtrialRule xdropRule xtoday)), ((xa 1), .inl (E 0, 16, .inl xf1)), ((xa 3), .inl (E 3, 16, .inr (.inr (.inr (.inr xf3))))), (wh, .inr (7, G7 wa))]) [0, 1, 2, 3] rfl) hK rfl rfl 0 rfl)) ?_
        refine lv_astore_n (lv' := [(3, .ref wh), (0, .ref xh), (1, .int p0), (2, .int p1)]) hx hb dX8_lend_24 rfl hl (by decide) rfl (fun ls hl => ?_)
        refine lv_aload_n hx hb dX8_lend_25 rfl (lv_at hl 0 rfl) ?_
        refine lv_ifnonnull (tgt := 35) hx hb dX8_lend_26 (by decide) ?_
        refine lv_aload_n hx hb dX8_lend_35 rfl (lv_at hl 0 rfl) ?_
        refine lv_aload_n hx hb dX8_lend_36 rfl (lv_at hl 1 rfl) ?_
        refine va_get (D := D) (ci := 8) (v := .int xtoday) (C := RX8) (T := TX8) (N := 14) hx hb htb iX8 hown hK.1 hP 0 rfl rfl 13 (by decide) (htb _ k_285) (fun _ h9 => h9) rfl dX8_lend_37 ?_
        refine callRV (rest := []) (As := [.int xtoday]) hx hb hml hown htb hK (g_X7_holderOn l D E wh wa wf3 xtoday ) ok_X7_holderOn k_373 k_374 k_375 k_10 k_376 ⟨(Nat.le_of_ble_eq_true rfl), (Nat.le_of_ble_eq_true rfl)⟩ ⟨(Nat.le_of_ble_eq_true rfl), (Nat.le_of_ble_eq_true rfl)⟩ hl.1 (Nat.le_of_ble_eq_true rfl) rfl rfl dX8_lend_40 (hP.sub (ws' := [(wh, .inr (7, G7 wa)), ((wa 3), .inl (E 0, 400, .inl wf3))]) [3, 4] rfl) rfl rfl 0 rfl (fun r_10 hw_11 => ?_)
        have hw_11R : r_10.toInt = (wf3 (xtoday).toNatClampNeg).toInt := by rcases hw_11 with h9 | h9 <;> first | exact congrArg Int32.toInt h9.2 | (exfalso; omega)
        refine lv_iconst (v := (-1)) hx hb dX8_lend_43 (by decide) ?_
        refine lv_icmp_eq (tgt := 50) hx hb dX8_lend_44 (by decide) (fun c_13 => ?_) (fun c_13 => ?_)
        ·
          have ic_13 : r_10.toInt = -1 := (g_eq rfl t_m1).mp c_13
          clear c_13
          refine lv_aload_n hx hb dX8_lend_50 rfl (lv_at hl 0 rfl) ?_
          refine lv_iload_n hx hb dX8_lend_51 rfl (lv_at hl 3 rfl) ?_
          refine lv_aload_n hx hb dX8_lend_52 rfl (lv_at hl 1 rfl) ?_
          refine va_get (D := D) (ci := 8) (v := .int xtoday) (C := RX8) (T := TX8) (N := 14) hx hb htb iX8 hown hK.1 hP 0 rfl rfl 13 (by decide) (htb _ k_285) (fun _ h9 => h9) rfl dX8_lend_53 ?_
          have hPc := hP.sub (ws' := [(wh, .inr (7, G7 wa)), ((wa 3), .inl (E 0, 400, .inl wf3))]) [3, 4] rfl
          have hDc := hD.sub (ws' := [(wh, .inr (7, G7 wa)), ((wa 3), .inl (E 0, 400, .inl wf3))]) [3, 4] (by decide) rfl
          refine aft_v (runMV (rest := []) (As := [.int p1, .int xtoday]) hx hb hml hown htb hK (g_X7_giveTo l D E wh wa wf3 p1 xtoday _ (by (try dsimp only); omega)) ok_X7_giveTo k_803 k_804 k_805 k_10 k_806 ⟨(Nat.le_of_ble_eq_true rfl), (Nat.le_of_ble_eq_true rfl)⟩ ⟨(Nat.le_of_ble_eq_true rfl), (Nat.le_of_ble_eq_true rfl)⟩ hl.1 (Nat.le_of_ble_eq_true rfl) rfl rfl dX8_lend_56 hPc hDc rfl rfl 0 rfl) hP hD hS hA [3, 4] [0, 1, 2] (wr := [(xh, .inr (8, G8 xa xtrialRule xdropRule xtoday)), ((xa 1), .inl (E 0, 16, .inl xf1)), ((xa 3), .inl (E 3, 16, .inr (.inr (.inr (.inr xf3)))))]) rfl rfl (by decide) (by decide) (fun u_16 H locs hw_15 hP hD hS => ?_)
          clear hPc hDc
          have hP : va_P D vwCl [(xh, .inr (8, G8 xa xtrialRule xdropRule xtoday)), ((xa 1), .inl (E 0, 16, .inl xf1)), ((xa 3), .inl (E 3, 16, .inr (.inr (.inr (.inr xf3))))), (wh, .inr (7, G7 wa)), ((wa 3), .inl (E 0, 400, .inl u_16))] H := hP
          have hD := toW hP hD rfl
          refine lv_iconst (v := 1) hx hb dX8_lend_59 (by decide) ?_
          have hP9 := hP.sub (ws' := [(xh, .inr (8, G8 xa xtrialRule xdropRule xtoday)), ((xa 1), .inl (E 0, 16, .inl xf1)), ((xa 3), .inl (E 3, 16, .inr (.inr (.inr (.inr xf3))))), (wh, .inr (7, G7 wa)), ((wa 3), .inl (E 0, 400, .inl u_16))]) [0, 1, 2, 3, 4] rfl
          have hD9 := hD.sub (ws' := [(xh, .inr (8, G8 xa xtrialRule xdropRule xtoday)), ((xa 1), .inl (E 0, 16, .inl xf1)), ((xa 3), .inl (E 3, 16, .inr (.inr (.inr (.inr xf3))))), (wh, .inr (7, G7 wa)), ((wa 3), .inl (E 0, 400, .inl u_16))]) [0, 1, 2, 3, 4] (by decide) rfl
          exact W.iret (v := 1) hx hb hr (fun t ht hW => ⟨⟨1, u_16, rfl, (by have hl0 := t_1; (try dsimp only); first | exact Or.inr (Or.inr ⟨by omega, by omega, by omega, by assumption⟩)), by rw [ht]; exact hP9, hD9⟩, hS.F ht⟩) hS.2.2 dX8_lend_60
        ·
          have ic_13 : r_10.toInt ≠ -1 := mt (g_eq rfl t_m1).mpr c_13
          clear c_13
          refine lv_bipush (v := (-4)) hx hb dX8_lend_47 (by decide) ?_
          have hP9 := hP.sub (ws' := [(xh, .inr (8, G8 xa xtrialRule xdropRule xtoday)), ((xa 1), .inl (E 0, 16, .inl xf1)), ((xa 3), .inl (E 3, 16, .inr (.inr (.inr (.inr xf3))))), (wh, .inr (7, G7 wa)), ((wa 3), .inl (E 0, 400, .inl wf3))]) [0, 1, 2, 3, 4] rfl
          have hD9 := hD.sub (ws' := [(xh, .inr (8, G8 xa xtrialRule xdropRule xtoday)), ((xa 1), .inl (E 0, 16, .inl xf1)), ((xa 3), .inl (E 3, 16, .inr (.inr (.inr (.inr xf3))))), (wh, .inr (7, G7 wa)), ((wa 3), .inl (E 0, 400, .inl wf3))]) [0, 1, 2, 3, 4] (by decide) rfl
          exact W.iret (v := (-4)) hx hb hr (fun t ht hW => ⟨⟨(-4), wf3, rfl, (by have hl0 := t_m4; (try dsimp only); first | exact Or.inr (Or.inl ⟨by omega, by omega, by omega, rfl⟩)), by rw [ht]; exact hP9, hD9⟩, hS.F ht⟩) hS.2.2 dX8_lend_49
      ·
        have ic_6 : 20 ≤ p1.toInt := by first | exact (g_le t_20 rfl).mp c_6 | (have h := mt (g_lt rfl t_20).mpr c_6; omega)
        clear c_6
        refine lv_iconst (v := (-1)) hx hb dX8_lend_17 (by decide) ?_
        have hP9 := hP.sub (ws' := [(xh, .inr (8, G8 xa xtrialRule xdropRule xtoday)), ((xa 1), .inl (E 0, 16, .inl xf1)), ((xa 3), .inl (E 3, 16, .inr (.inr (.inr (.inr xf3))))), (wh, .inr (7, G7 wa)), ((wa 3), .inl (E 0, 400, .inl wf3))]) [0, 1, 2, 3, 4] rfl
        have hD9 := hD.sub (ws' := [(xh, .inr (8, G8 xa xtrialRule xdropRule xtoday)), ((xa 1), .inl (E 0, 16, .inl xf1)), ((xa 3), .inl (E 3, 16, .inr (.inr (.inr (.inr xf3))))), (wh, .inr (7, G7 wa)), ((wa 3), .inl (E 0, 400, .inl wf3))]) [0, 1, 2, 3, 4] (by decide) rfl
        exact W.iret (v := (-1)) hx hb hr (fun t ht hW => ⟨⟨(-1), wf3, rfl, (by have hl0 := t_m1; (try dsimp only); first | exact Or.inl ⟨by omega, by omega, rfl⟩), by rw [ht]; exact hP9, hD9⟩, hS.F ht⟩) hS.2.2 dX8_lend_18
  ·
    refine W_top (y := .int 0) (by rw [hr_1]) ?_
    refine lv_if_eq (tgt := 17) hx hb dX8_lend_4 (by decide) (fun c_17 => ?_) (fun c_17 => absurd (by decide) c_17)
    refine lv_iconst (v := (-1)) hx hb dX8_lend_17 (by decide) ?_
    have hP9 := hP.sub (ws' := [(xh, .inr (8, G8 xa xtrialRule xdropRule xtoday)), ((xa 1), .inl (E 0, 16, .inl xf1)), ((xa 3), .inl (E 3, 16, .inr (.inr (.inr (.inr xf3))))), (wh, .inr (7, G7 wa)), ((wa 3), .inl (E 0, 400, .inl wf3))]) [0, 1, 2, 3, 4] rfl
    have hD9 := hD.sub (ws' := [(xh, .inr (8, G8 xa xtrialRule xdropRule xtoday)), ((xa 1), .inl (E 0, 16, .inl xf1)), ((xa 3), .inl (E 3, 16, .inr (.inr (.inr (.inr xf3))))), (wh, .inr (7, G7 wa)), ((wa 3), .inl (E 0, 400, .inl wf3))]) [0, 1, 2, 3, 4] (by decide) rfl
    exact W.iret (v := (-1)) hx hb hr (fun t ht hW => ⟨⟨(-1), wf3, rfl, (by have hl0 := t_m1; (try dsimp only); first | exact Or.inl ⟨by omega, by omega, rfl⟩), by rw [ht]; exact hP9, hD9⟩, hS.F ht⟩) hS.2.2 dX8_lend_18
set_option maxHeartbeats 4000000 in
set_option maxRecDepth 100000 in
theorem g_X8_home_N (l : Launch) (D : va_G) (E : Nat → Nat) (xh : Nat) (xa : Nat → Nat) (xtrialRule : Nat) (xdropRule : Nat) (xtoday : Int32) (xf1 : Nat → Int32) (xf3 : Nat → Option Nat) (p0 : Int32) (hi_x : (0 ≤ xtoday.toInt ∧ xtoday.toInt ≤ 399)) (hn0 : ¬ (0 ≤ p0.toInt ∧ p0.toInt ≤ 15 ∧ ((xf1 (p0).toNatClampNeg).toInt = 0 ∨ (xf1 (p0).toNatClampNeg).toInt = 1))) : Met l yX8_home (wl yX8_home cX8_home 4 (some .int)) (RM 2 0 0) (rd_P D E [.ref xh, .int p0] [(xh, .inr (8, G8 xa xtrialRule xdropRule xtoday)), ((xa 1), .inl (E 0, 16, .inl xf1)), ((xa 3), .inl (E 3, 16, .inr (.inr (.inr (.inr xf3)))))]) (rd_Q (fun r => ((r.toInt = -1 ∧ ¬ ((0 ≤ p0.toInt ∧ p0.toInt ≤ 15))) ∨ (((0 ≤ p0.toInt ∧ p0.toInt ≤ 15)) ∧ (((xf1 (p0).toNatClampNeg).toInt = -5 ∧ r.toInt = -2) ∨ ((xf1 (p0).toNatClampNeg).toInt ≠ -5 ∧ r.toInt = -3)))))) 0 0 (fun _ => False) := by
  refine Met.ofW (cc := cX8_home) (maxL := 4) (ret := (some .int)) (by decide) rfl ?_
  intro p e s m args below meth c s₁ B hml hv
  obtain ⟨rfl, hP, hK⟩ := hv
  have hx := B.exec; have hb := B.bytes; have hr := B.returns
  have hts := atoms_spec (ws := wl yX8_home cX8_home 4 (some .int)) B.pre
  have htb : ∀ w ∈ tb, w.before _ s = true := fun w h => hts w (List.mem_cons_of_mem _ h)
  have hown : s.vm.findClass RX8 = some m.cls := findClass_of_methodNamed B.named
  have hlocks := B.notSynchronized
  have hP : va_P D vwCl [(xh, .inr (8, G8 xa xtrialRule xdropRule xtoday)), ((xa 1), .inl (E 0, 16, .inl xf1)), ((xa 3), .inl (E 3, 16, .inr (.inr (.inr (.inr xf3)))))] s.heap := hP
  have hl := lv_entry ([.ref xh, .int p0]) (n := 4) (Nat.le_of_ble_eq_true rfl)
  rw [lg_entry_eq]
  generalize (lg_sl ([.ref xh, .int p0]) ++ List.replicate (4 - (lg_sl ([.ref xh, .int p0])).length) Slot.unset).toArray = ls at hl ⊢
  have hl : lv_has ls 4 [(0, .ref xh), (1, .int p0)] := hl
  have lo_p0 := i_lo p0; have hi_p0 := i_hi p0
  refine lv_iload_n hx hb dX8_home_0 rfl (lv_at hl 1 rfl) ?_
  refine callRS (rest := []) (As := [.int p0]) hx hb hml hown htb hK (g_X8_isPlace l D E p0 ) ok_X8_isPlace k_333 k_334 k_1 k_335 ⟨(Nat.le_of_ble_eq_true rfl), (Nat.le_of_ble_eq_true rfl)⟩ ⟨(Nat.le_of_ble_eq_true rfl), (Nat.le_of_ble_eq_true rfl)⟩ hl.1 (Nat.le_of_ble_eq_true rfl) rfl rfl dX8_home_1 (hP.sub (ws' := ([] : va_W)) [] rfl) (fun r_1 hw_2 => ?_)
  rcases hw_2 with ⟨hr_1, hw_2⟩ | ⟨hr_1, hw_2⟩
  ·
    refine W_top (y := .int 1) (by rw [hr_1]) ?_
    refine lv_if_ne (tgt := 9) hx hb dX8_home_4 (by decide) (fun c_4 => ?_) (fun c_4 => absurd c_4 (by decide))
    refine lv_aload_n hx hb dX8_home_9 rfl (lv_at hl 0 rfl) ?_
    refine lv_iload_n hx hb dX8_home_10 rfl (lv_at hl 1 rfl) ?_
    refine rn_call (runRV (rest := []) (As := [.int p0]) hx hb hml hown htb (g_X8_watchAt_N l D E xh xa xtrialRule xdropRule xtoday xf1 xf3 p0 (by (try dsimp only); omega) hn0) ok_X8_watchAt k_369 k_371 ks_1 k_1 k_372 ⟨(Nat.le_of_ble_eq_true rfl), (Nat.le_of_ble_eq_true rfl)⟩ ⟨(Nat.le_of_ble_eq_true rfl), (Nat.le_of_ble_eq_true rfl)⟩ hl.1 (Nat.le_of_ble_eq_true rfl) rfl rfl dX8_home_11 (prV (hP.sub (ws' := [(xh, .inr (8, G8 xa xtrialRule xdropRule xtoday)), ((xa 1), .inl (E 0, 16, .inl xf1)), ((xa 3), .inl (E 3, 16, .inr (.inr (.inr (.inr xf3)))))]) [0, 1, 2] rfl) hK rfl rfl 0 rfl)) ?_
    refine lv_astore_nN (lv' := [(2, .null), (0, .ref xh), (1, .int p0)]) hx hb dX8_home_14 rfl hl (by decide) rfl (fun ls hl => ?_)
    refine lv_aload_nN hx hb dX8_home_15 rfl (lv_at hl 0 rfl) ?_
    refine lv_ifnonnullN hx hb dX8_home_16 ?_
    refine lv_aload_n hx hb dX8_home_19 rfl (lv_at hl 1 rfl) ?_
    refine lv_iload_n hx hb dX8_home_20 rfl (lv_at hl 2 rfl) ?_
    refine callRV (rest := []) (As := [.int p0]) hx hb hml hown htb hK (g_X8_lackAt l D E xh xa xtrialRule xdropRule xtoday xf1 p0 (by (try dsimp only); omega)) ok_X8_lackAt k_396 k_398 ks_3 k_1 k_399 ⟨(Nat.le_of_ble_eq_true rfl), (Nat.le_of_ble_eq_true rfl)⟩ ⟨(Nat.le_of_ble_eq_true rfl), (Nat.le_of_ble_eq_true rfl)⟩ hl.1 (Nat.le_of_ble_eq_true rfl) rfl rfl dX8_home_21 (hP.sub (ws' := [(xh, .inr (8, G8 xa xtrialRule xdropRule xtoday)), ((xa 1), .inl (E 0, 16, .inl xf1))]) [0, 1] rfl) rfl rfl 0 rfl (fun r_8 hw_9 => ?_)
    exact W.iret (v := r_8) hx hb hr (fun t ht hW => ⟨r_8, rfl, (by (try dsimp only); first | exact Or.inr ⟨by omega, by omega⟩ | exact Or.inl ⟨by omega, by omega⟩), ht⟩) (fun q h => by cases h) dX8_home_24
  ·
    refine W_top (y := .int 0) (by rw [hr_1]) ?_
    refine lv_if_ne (tgt := 9) hx hb dX8_home_4 (by decide) (fun c_11 => absurd (by decide) c_11) (fun c_11 => ?_)
    refine lv_iconst (v := (-1)) hx hb dX8_home_7 (by decide) ?_
    exact W.iret (v := (-1)) hx hb hr (fun t ht hW => ⟨(-1), rfl, (by have hl0 := t_m1; (try dsimp only); first | exact Or.inl ⟨by omega, by omega⟩ | exact Or.inr ⟨by omega, by omega⟩), ht⟩) (fun q h => by cases h) dX8_home_8
set_option maxHeartbeats 4000000 in
set_option maxRecDepth 100000 in
theorem g_X8_home_W (l : Launch) (D : va_G) (E : Nat → Nat) (xh : Nat) (xa : Nat → Nat) (xtrialRule : Nat) (xdropRule : Nat) (xtoday : Int32) (xf1 : Nat → Int32) (xf3 : Nat → Option Nat) (wh : Nat) (wa : Nat → Nat) (wf3 : Nat → Int32) (p0 : Int32) (sz : Nat) (hi_x : (0 ≤ xtoday.toInt ∧ xtoday.toInt ≤ 399)) (hk0 : (0 ≤ p0.toInt ∧ p0.toInt ≤ 15 ∧ ((xf1 (p0).toNatClampNeg).toInt = 0 ∨ (xf1 (p0).toNatClampNeg).toInt = 1))) (hw0 : xf3 (p0).toNatClampNeg = some wh) : Met l yX8_home (wl yX8_home cX8_home 4 (some .int)) (RM 2 0 0) (mu_P D E [.ref xh, .int p0] [(xh, .inr (8, G8 xa xtrialRule xdropRule xtoday)), ((xa 1), .inl (E 0, 16, .inl xf1)), ((xa 3), .inl (E 3, 16, .inr (.inr (.inr (.inr xf3))))), (wh, .inr (7, G7 wa)), ((wa 3), .inl (E 0, 400, .inl wf3))] sz) (va_Qi (fun (r : Int32) (u : (Nat → Int32)) => ((¬ (0 ≤ (wf3 (xtoday).toNatClampNeg).toInt ∧ (wf3 (xtoday).toNatClampNeg).toInt ≤ 19) ∧ r.toInt = -4 ∧ u = wf3) ∨ ((0 ≤ (wf3 (xtoday).toNatClampNeg).toInt ∧ (wf3 (xtoday).toNatClampNeg).toInt ≤ 19) ∧ r.toInt = 1 ∧ GIV wf3 u xtoday.toInt (-1)))) (mu_B D (va_A [(xh, .inr (8, G8 xa xtrialRule xdropRule xtoday)), ((xa 1), .inl (E 0, 16, .inl xf1)), ((xa 3), .inl (E 3, 16, .inr (.inr (.inr (.inr xf3))))), (wh, .inr (7, G7 wa)), ((wa 3), .inl (E 0, 400, .inl wf3))] sz) (fun (u : (Nat → Int32)) => [(xh, .inr (8, G8 xa xtrialRule xdropRule xtoday)), ((xa 1), .inl (E 0, 16, .inl xf1)), ((xa 3), .inl (E 3, 16, .inr (.inr (.inr (.inr xf3))))), (wh, .inr (7, G7 wa)), ((wa 3), .inl (E 0, 400, .inl u))])) (va_A [(xh, .inr (8, G8 xa xtrialRule xdropRule xtoday)), ((xa 1), .inl (E 0, 16, .inl xf1)), ((xa 3), .inl (E 3, 16, .inr (.inr (.inr (.inr xf3))))), (wh, .inr (7, G7 wa)), ((wa 3), .inl (E 0, 400, .inl wf3))] sz)) 0 0 (va_A [(xh, .inr (8, G8 xa xtrialRule xdropRule xtoday)), ((xa 1), .inl (E 0, 16, .inl xf1)), ((xa 3), .inl (E 3, 16, .inr (.inr (.inr (.inr xf3))))), (wh, .inr (7, G7 wa)), ((wa 3), .inl (E 0, 400, .inl wf3))] sz) := by
  refine Met.ofW (cc := cX8_home) (maxL := 4) (ret := (some .int)) (by decide) rfl ?_
  intro p e s m args below meth c s₁ B hml hv
  obtain ⟨rfl, hsz, hP, hK, hD0⟩ := hv
  have hx := B.exec; have hb := B.bytes; have hr := B.returns
  have hts := atoms_spec (ws := wl yX8_home cX8_home 4 (some .int)) B.pre
  have htb : ∀ w ∈ tb, w.before _ s = true := fun w h => hts w (List.mem_cons_of_mem _ h)
  have hown : s.vm.findClass RX8 = some m.cls := findClass_of_methodNamed B.named
  have hlocks := B.notSynchronized
  subst hsz
  have hD := hD0.self (sz := s.heap.size)
  generalize hAe : va_A [(xh, .inr (8, G8 xa xtrialRule xdropRule xtoday)), ((xa 1), .inl (E 0, 16, .inl xf1)), ((xa 3), .inl (E 3, 16, .inr (.inr (.inr (.inr xf3))))), (wh, .inr (7, G7 wa)), ((wa 3), .inl (E 0, 400, .inl wf3))] s.heap.size = A at hD ⊢
  have hA : ∀ q : Nat, s.heap.size ≤ q → A q := fun q h => by rw [← hAe]; exact Or.inr h
  have hS : va_S A s.heap s.heap [] := va_S.rf
  have hP : va_P D vwCl [(xh, .inr (8, G8 xa xtrialRule xdropRule xtoday)), ((xa 1), .inl (E 0, 16, .inl xf1)), ((xa 3), .inl (E 3, 16, .inr (.inr (.inr (.inr xf3))))), (wh, .inr (7, G7 wa)), ((wa 3), .inl (E 0, 400, .inl wf3))] s.heap := hP
  have hl := lv_entry ([.ref xh, .int p0]) (n := 4) (Nat.le_of_ble_eq_true rfl)
  rw [lg_entry_eq]
  generalize (lg_sl ([.ref xh, .int p0]) ++ List.replicate (4 - (lg_sl ([.ref xh, .int p0])).length) Slot.unset).toArray = ls at hl ⊢
  have hl : lv_has ls 4 [(0, .ref xh), (1, .int p0)] := hl
  have lo_p0 := i_lo p0; have hi_p0 := i_hi p0
  refine lv_iload_n hx hb dX8_home_0 rfl (lv_at hl 1 rfl) ?_
  refine callRS (rest := []) (As := [.int p0]) hx hb hml hown htb hK (g_X8_isPlace l D E p0 ) ok_X8_isPlace k_333 k_334 k_1 k_335 ⟨(Nat.le_of_ble_eq_true rfl), (Nat.le_of_ble_eq_true rfl)⟩ ⟨(Nat.le_of_ble_eq_true rfl), (Nat.le_of_ble_eq_true rfl)⟩ hl.1 (Nat.le_of_ble_eq_true rfl) rfl rfl dX8_home_1 (hP.sub (ws' := ([] : va_W)) [] rfl) (fun r_1 hw_2 => ?_)
  rcases hw_2 with ⟨hr_1, hw_2⟩ | ⟨hr_1, hw_2⟩
  ·
    refine W_top (y := .int 1) (by rw [hr_1]) ?_
    refine lv_if_ne (tgt := 9) hx hb dX8_home_4 (by decide) (fun c_4 => ?_) (fun c_4 => absurd c_4 (by decide))
    refine lv_aload_n hx hb dX8_home_9 rfl (lv_at hl 0 rfl) ?_
    refine lv_iload_n hx hb dX8_home_10 rfl (lv_at hl 1 rfl) ?_
    refine rr_call (runRV (rest := []) (As := [.int p0]) hx hb hml hown htb (g_X8_watchAt_W l D E xh xa xtrialRule xdropRule xtoday xf1 xf3 wh wa p0 (by (try dsimp only); omega) hk0 hw0) ok_X8_watchAt k_369 k_371 ks_1 k_1 k_372 ⟨(Nat.le_of_ble_eq_true rfl), (Nat.le_of_ble_eq_true rfl)⟩ ⟨(Nat.le_of_ble_eq_true rfl), (Nat.le_of_ble_eq_true rfl)⟩ hl.1 (Nat.le_of_ble_eq_true rfl) rfl rfl dX8_home_11 (prV (hP.sub (ws' := [(xh, .inr (8, G8 xa xtrialRule xdropRule xtoday)), ((xa 1), .inl (E 0, 16, .inl xf1)), ((xa 3), .inl (E 3, 16, .inr (.inr (.inr (.inr xf3))))), (wh, .inr (7, G7 wa))]) [0, 1, 2, 3] rfl) hK rfl rfl 0 rfl)) ?_
    refine lv_astore_n (lv' := [(2, .ref wh), (0, .ref xh), (1, .int p0)]) hx hb dX8_home_14 rfl hl (by decide) rfl (fun ls hl => ?_)
    refine lv_aload_n hx hb dX8_home_15 rfl (lv_at hl 0 rfl) ?_
    refine lv_ifnonnull (tgt := 25) hx hb dX8_home_16 (by decide) ?_
    refine lv_aload_n hx hb dX8_home_25 rfl (lv_at hl 0 rfl) ?_
    refine lv_aload_n hx hb dX8_home_26 rfl (lv_at hl 1 rfl) ?_
    refine va_get (D := D) (ci := 8) (v := .int xtoday) (C := RX8) (T := TX8) (N := 14) hx hb htb iX8 hown hK.1 hP 0 rfl rfl 13 (by decide) (htb _ k_285) (fun _ h9 => h9) rfl dX8_home_27 ?_
    refine callRV (rest := []) (As := [.int xtoday]) hx hb hml hown htb hK (g_X7_holderOn l D E wh wa wf3 xtoday ) ok_X7_holderOn k_373 k_374 k_375 k_10 k_376 ⟨(Nat.le_of_ble_eq_true rfl), (Nat.le_of_ble_eq_true rfl)⟩ ⟨(Nat.le_of_ble_eq_true rfl), (Nat.le_of_ble_eq_true rfl)⟩ hl.1 (Nat.le_of_ble_eq_true rfl) rfl rfl dX8_home_30 (hP.sub (ws' := [(wh, .inr (7, G7 wa)), ((wa 3), .inl (E 0, 400, .inl wf3))]) [3, 4] rfl) rfl rfl 0 rfl (fun r_8 hw_9 => ?_)
    have hw_9R : r_8.toInt = (wf3 (xtoday).toNatClampNeg).toInt := by rcases hw_9 with h9 | h9 <;> first | exact congrArg Int32.toInt h9.2 | (exfalso; omega)
    refine lv_istore_n (lv' := [(3, .int r_8), (2, .ref wh), (0, .ref xh), (1, .int p0)]) hx hb dX8_home_33 rfl hl (by decide) rfl (fun ls hl => ?_)
    refine lv_iload_n hx hb dX8_home_34 rfl (lv_at hl 0 rfl) ?_
    refine lv_if_lt (tgt := 44) hx hb dX8_home_35 (by decide) (fun c_11 => ?_) (fun c_11 => ?_)
    ·
      have ic_11 : r_8.toInt < 0 := by first | exact (g_lt rfl t_0).mp c_11 | (have h := mt (g_le t_0 rfl).mpr c_11; omega)
      clear c_11
      refine lv_bipush (v := (-4)) hx hb dX8_home_44 (by decide) ?_
      have hP9 := hP.sub (ws' := [(xh, .inr (8, G8 xa xtrialRule xdropRule xtoday)), ((xa 1), .inl (E 0, 16, .inl xf1)), ((xa 3), .inl (E 3, 16, .inr (.inr (.inr (.inr xf3))))), (wh, .inr (7, G7 wa)), ((wa 3), .inl (E 0, 400, .inl wf3))]) [0, 1, 2, 3, 4] rfl
      have hD9 := hD.sub (ws' := [(xh, .inr (8, G8 xa xtrialRule xdropRule xtoday)), ((xa 1), .inl (E 0, 16, .inl xf1)), ((xa 3), .inl (E 3, 16, .inr (.inr (.inr (.inr xf3))))), (wh, .inr (7, G7 wa)), ((wa 3), .inl (E 0, 400, .inl wf3))]) [0, 1, 2, 3, 4] (by decide) rfl
      exact W.iret (v := (-4)) hx hb hr (fun t ht hW => ⟨⟨(-4), wf3, rfl, (by have hl0 := t_m4; (try dsimp only); first | exact Or.inl ⟨by omega, by omega, rfl⟩), by rw [ht]; exact hP9, hD9⟩, hS.F ht⟩) hS.2.2 dX8_home_46
    ·
      have ic_11 : 0 ≤ r_8.toInt := by first | exact (g_le t_0 rfl).mp c_11 | (have h := mt (g_lt rfl t_0).mpr c_11; omega)
      clear c_11
      refine lv_iload_n hx hb dX8_home_38 rfl (lv_at hl 0 rfl) ?_
      refine lv_bipush (v := 20) hx hb dX8_home_39 (by decide) ?_
      refine lv_icmp_lt (tgt := 47) hx hb dX8_home_41 (by decide) (fun c_12 => ?_) (fun c_12 => ?_)
      ·
        have ic_12 : r_8.toInt < 20 := by first | exact (g_lt rfl t_20).mp c_12 | (have h := mt (g_le t_20 rfl).mpr c_12; omega)
        clear c_12
        refine lv_aload_n hx hb dX8_home_47 rfl (lv_at hl 1 rfl) ?_
        refine lv_iconst (v := (-1)) hx hb dX8_home_48 (by decide) ?_
        refine lv_aload_n hx hb dX8_home_49 rfl (lv_at hl 2 rfl) ?_
        refine va_get (D := D) (ci := 8) (v := .int xtoday) (C := RX8) (T := TX8) (N := 14) hx hb htb iX8 hown hK.1 hP 0 rfl rfl 13 (by decide) (htb _ k_285) (fun _ h9 => h9) rfl dX8_home_50 ?_
        have hPc := hP.sub (ws' := [(wh, .inr (7, G7 wa)), ((wa 3), .inl (E 0, 400, .inl wf3))]) [3, 4] rfl
        have hDc := hD.sub (ws' := [(wh, .inr (7, G7 wa)), ((wa 3), .inl (E 0, 400, .inl wf3))]) [3, 4] (by decide) rfl
        refine aft_v (runMV (rest := []) (As := [.int (-1), .int xtoday]) hx hb hml hown htb hK (g_X7_giveTo l D E wh wa wf3 (-1) xtoday _ (by have h0 := t_m1; (try dsimp only); omega)) ok_X7_giveTo k_803 k_804 k_805 k_10 k_806 ⟨(Nat.le_of_ble_eq_true rfl), (Nat.le_of_ble_eq_true rfl)⟩ ⟨(Nat.le_of_ble_eq_true rfl), (Nat.le_of_ble_eq_true rfl)⟩ hl.1 (Nat.le_of_ble_eq_true rfl) rfl rfl dX8_home_53 hPc hDc rfl rfl 0 rfl) hP hD hS hA [3, 4] [0, 1, 2] (wr := [(xh, .inr (8, G8 xa xtrialRule xdropRule xtoday)), ((xa 1), .inl (E 0, 16, .inl xf1)), ((xa 3), .inl (E 3, 16, .inr (.inr (.inr (.inr xf3)))))]) rfl rfl (by decide) (by decide) (fun u_15 H locs hw_14 hP hD hS => ?_)
        clear hPc hDc
        have hP : va_P D vwCl [(xh, .inr (8, G8 xa xtrialRule xdropRule xtoday)), ((xa 1), .inl (E 0, 16, .inl xf1)), ((xa 3), .inl (E 3, 16, .inr (.inr (.inr (.inr xf3))))), (wh, .inr (7, G7 wa)), ((wa 3), .inl (E 0, 400, .inl u_15))] H := hP
        have hD := toW hP hD rfl
        try simp only [t_m1] at hw_14
        refine lv_iconst (v := 1) hx hb dX8_home_56 (by decide) ?_
        have hP9 := hP.sub (ws' := [(xh, .inr (8, G8 xa xtrialRule xdropRule xtoday)), ((xa 1), .inl (E 0, 16, .inl xf1)), ((xa 3), .inl (E 3, 16, .inr (.inr (.inr (.inr xf3))))), (wh, .inr (7, G7 wa)), ((wa 3), .inl (E 0, 400, .inl u_15))]) [0, 1, 2, 3, 4] rfl
        have hD9 := hD.sub (ws' := [(xh, .inr (8, G8 xa xtrialRule xdropRule xtoday)), ((xa 1), .inl (E 0, 16, .inl xf1)), ((xa 3), .inl (E 3, 16, .inr (.inr (.inr (.inr xf3))))), (wh, .inr (7, G7 wa)), ((wa 3), .inl (E 0, 400, .inl u_15))]) [0, 1, 2, 3, 4] (by decide) rfl
        exact W.iret (v := 1) hx hb hr (fun t ht hW => ⟨⟨1, u_15, rfl, (by have hl0 := t_1; (try dsimp only); first | exact Or.inr ⟨by omega, by omega, by assumption⟩), by rw [ht]; exact hP9, hD9⟩, hS.F ht⟩) hS.2.2 dX8_home_57
      ·
        have ic_12 : 20 ≤ r_8.toInt := by first | exact (g_le t_20 rfl).mp c_12 | (have h := mt (g_lt rfl t_20).mpr c_12; omega)
        clear c_12
        refine lv_bipush (v := (-4)) hx hb dX8_home_44 (by decide) ?_
        have hP9 := hP.sub (ws' := [(xh, .inr (8, G8 xa xtrialRule xdropRule xtoday)), ((xa 1), .inl (E 0, 16, .inl xf1)), ((xa 3), .inl (E 3, 16, .inr (.inr (.inr (.inr xf3))))), (wh, .inr (7, G7 wa)), ((wa 3), .inl (E 0, 400, .inl wf3))]) [0, 1, 2, 3, 4] rfl
        have hD9 := hD.sub (ws' := [(xh, .inr (8, G8 xa xtrialRule xdropRule xtoday)), ((xa 1), .inl (E 0, 16, .inl xf1)), ((xa 3), .inl (E 3, 16, .inr (.inr (.inr (.inr xf3))))), (wh, .inr (7, G7 wa)), ((wa 3), .inl (E 0, 400, .inl wf3))]) [0, 1, 2, 3, 4] (by decide) rfl
        exact W.iret (v := (-4)) hx hb hr (fun t ht hW => ⟨⟨(-4), wf3, rfl, (by have hl0 := t_m4; (try dsimp only); first | exact Or.inl ⟨by omega, by omega, rfl⟩), by rw [ht]; exact hP9, hD9⟩, hS.F ht⟩) hS.2.2 dX8_home_46
  ·
    refine W_top (y := .int 0) (by rw [hr_1]) ?_
    refine lv_if_ne (tgt := 9) hx hb dX8_home_4 (by decide) (fun c_16 => absurd (by decide) c_16) (fun c_16 => ?_)
    refine lv_iconst (v := (-1)) hx hb dX8_home_7 (by decide) ?_
    have hP9 := hP.sub (ws' := [(xh, .inr (8, G8 xa xtrialRule xdropRule xtoday)), ((xa 1), .inl (E 0, 16, .inl xf1)), ((xa 3), .inl (E 3, 16, .inr (.inr (.inr (.inr xf3))))), (wh, .inr (7, G7 wa)), ((wa 3), .inl (E 0, 400, .inl wf3))]) [0, 1, 2, 3, 4] rfl
    have hD9 := hD.sub (ws' := [(xh, .inr (8, G8 xa xtrialRule xdropRule xtoday)), ((xa 1), .inl (E 0, 16, .inl xf1)), ((xa 3), .inl (E 3, 16, .inr (.inr (.inr (.inr xf3))))), (wh, .inr (7, G7 wa)), ((wa 3), .inl (E 0, 400, .inl wf3))]) [0, 1, 2, 3, 4] (by decide) rfl
    exact W.iret (v := (-1)) hx hb hr (fun t ht hW => ⟨⟨(-1), wf3, rfl, (by have hl0 := t_m1; (try dsimp only); first | exact Or.inl ⟨by omega, by omega, rfl⟩ | exact Or.inr ⟨by omega, by omega, by assumption⟩), by rw [ht]; exact hP9, hD9⟩, hS.F ht⟩) hS.2.2 dX8_home_8
set_option maxHeartbeats 4000000 in
set_option maxRecDepth 100000 in
theorem g_X8_holder_N (l : Launch) (D : va_G) (E : Nat → Nat) (xh : Nat) (xa : Nat → Nat) (xtrialRule : Nat) (xdropRule : Nat) (xtoday : Int32) (xf1 : Nat → Int32) (xf3 : Nat → Option Nat) (p0 : Int32) (p1 : Int32) (hi_x : (0 ≤ xtoday.toInt ∧ xtoday.toInt ≤ 399)) (hn0 : ¬ (0 ≤ p0.toInt ∧ p0.toInt ≤ 15 ∧ ((xf1 (p0).toNatClampNeg).toInt = 0 ∨ (xf1 (p0).toNatClampNeg).toInt = 1))) : Met l yX8_holder (wl yX8_holder cX8_holder 4 (some .int)) (RM 2 0 0) (rd_P D E [.ref xh, .int p0, .int p1] [(xh, .inr (8, G8 xa xtrialRule xdropRule xtoday)), ((xa 1), .inl (E 0, 16, .inl xf1)), ((xa 3), .inl (E 3, 16, .inr (.inr (.inr (.inr xf3)))))]) (rd_Q (fun r => ((r.toInt = -2000000000)))) 0 0 (fun _ => False) := by
  refine Met.ofW (cc := cX8_holder) (maxL := 4) (ret := (some .int)) (by decide) rfl ?_
  intro p e s m args below meth c s₁ B hml hv
  obtain ⟨rfl, hP, hK⟩ := hv
  have hx := B.exec; have hb := B.bytes; have hr := B.returns
  have hts := atoms_spec (ws := wl yX8_holder cX8_holder 4 (some .int)) B.pre
  have htb : ∀ w ∈ tb, w.before _ s = true := fun w h => hts w (List.mem_cons_of_mem _ h)
  have hown : s.vm.findClass RX8 = some m.cls := findClass_of_methodNamed B.named
  have hlocks := B.notSynchronized
  have hP : va_P D vwCl [(xh, .inr (8, G8 xa xtrialRule xdropRule xtoday)), ((xa 1), .inl (E 0, 16, .inl xf1)), ((xa 3), .inl (E 3, 16, .inr (.inr (.inr (.inr xf3)))))] s.heap := hP
  have hl := lv_entry ([.ref xh, .int p0, .int p1]) (n := 4) (Nat.le_of_ble_eq_true rfl)
  rw [lg_entry_eq]
  generalize (lg_sl ([.ref xh, .int p0, .int p1]) ++ List.replicate (4 - (lg_sl ([.ref xh, .int p0, .int p1])).length) Slot.unset).toArray = ls at hl ⊢
  have hl : lv_has ls 4 [(0, .ref xh), (1, .int p0), (2, .int p1)] := hl
  have lo_p0 := i_lo p0; have hi_p0 := i_hi p0
  have lo_p1 := i_lo p1; have hi_p1 := i_hi p1
  refine lv_aload_n hx hb dX8_holder_0 rfl (lv_at hl 0 rfl) ?_
  refine lv_iload_n hx hb dX8_holder_1 rfl (lv_at hl 1 rfl) ?_
  refine rn_call (runRV (rest := []) (As := [.int p0]) hx hb hml hown htb (g_X8_watchAt_N l D E xh xa xtrialRule xdropRule xtoday xf1 xf3 p0 (by (try dsimp only); omega) hn0) ok_X8_watchAt k_369 k_371 ks_1 k_1 k_372 ⟨(Nat.le_of_ble_eq_true rfl), (Nat.le_of_ble_eq_true rfl)⟩ ⟨(Nat.le_of_ble_eq_true rfl), (Nat.le_of_ble_eq_true rfl)⟩ hl.1 (Nat.le_of_ble_eq_true rfl) rfl rfl dX8_holder_2 (prV (hP.sub (ws' := [(xh, .inr (8, G8 xa xtrialRule xdropRule xtoday)), ((xa 1), .inl (E 0, 16, .inl xf1)), ((xa 3), .inl (E 3, 16, .inr (.inr (.inr (.inr xf3)))))]) [0, 1, 2] rfl) hK rfl rfl 0 rfl)) ?_
  refine lv_astore_nN (lv' := [(3, .null), (0, .ref xh), (1, .int p0), (2, .int p1)]) hx hb dX8_holder_5 rfl hl (by decide) rfl (fun ls hl => ?_)
  refine lv_aload_nN hx hb dX8_holder_6 rfl (lv_at hl 0 rfl) ?_
  refine lv_ifnullN (tgt := 18) hx hb dX8_holder_7 (by decide) ?_
  refine lv_ldc hx hb hown (htb _ k_386) dX8_holder_18 ?_
  refine lv_goto (tgt := 28) hx hb dX8_holder_20 (by decide) ?_
  exact W.iret (v := (-2000000000)) hx hb hr (fun t ht hW => ⟨(-2000000000), rfl, (by have hl0 := t_m2000000000; (try dsimp only); first | exact (by omega)), ht⟩) (fun q h => by cases h) dX8_holder_28
set_option maxHeartbeats 4000000 in
set_option maxRecDepth 100000 in
theorem g_X8_holder_W (l : Launch) (D : va_G) (E : Nat → Nat) (xh : Nat) (xa : Nat → Nat) (xtrialRule : Nat) (xdropRule : Nat) (xtoday : Int32) (xf1 : Nat → Int32) (xf3 : Nat → Option Nat) (wh : Nat) (wa : Nat → Nat) (wf3 : Nat → Int32) (p0 : Int32) (p1 : Int32) (hi_x : (0 ≤ xtoday.toInt ∧ xtoday.toInt ≤ 399)) (hk0 : (0 ≤ p0.toInt ∧ p0.toInt ≤ 15 ∧ ((xf1 (p0).toNatClampNeg).toInt = 0 ∨ (xf1 (p0).toNatClampNeg).toInt = 1))) (hw0 : xf3 (p0).toNatClampNeg = some wh) : Met l yX8_holder (wl yX8_holder cX8_holder 4 (some .int)) (RM 2 0 0) (rd_P D E [.ref xh, .int p0, .int p1] [(xh, .inr (8, G8 xa xtrialRule xdropRule xtoday)), ((xa 1), .inl (E 0, 16, .inl xf1)), ((xa 3), .inl (E 3, 16, .inr (.inr (.inr (.inr xf3))))), (wh, .inr (7, G7 wa)), ((wa 3), .inl (E 0, 400, .inl wf3))]) (rd_Q (fun r => (((0 ≤ p1.toInt ∧ p1.toInt ≤ xtoday.toInt) ∧ r.toInt = (wf3 (p1).toNatClampNeg).toInt) ∨ (¬ (0 ≤ p1.toInt ∧ p1.toInt ≤ xtoday.toInt) ∧ r.toInt = -2000000000)))) 0 0 (fun _ => False) := by
  refine Met.ofW (cc := cX8_holder) (maxL := 4) (ret := (some .int)) (by decide) rfl ?_
  intro p e s m args below meth c s₁ B hml hv
  obtain ⟨rfl, hP, hK⟩ := hv
  have hx := B.exec; have hb := B.bytes; have hr := B.returns
  have hts := atoms_spec (ws := wl yX8_holder cX8_holder 4 (some .int)) B.pre
  have htb : ∀ w ∈ tb, w.before _ s = true := fun w h => hts w (List.mem_cons_of_mem _ h)
  have hown : s.vm.findClass RX8 = some m.cls := findClass_of_methodNamed B.named
  have hlocks := B.notSynchronized
  have hP : va_P D vwCl [(xh, .inr (8, G8 xa xtrialRule xdropRule xtoday)), ((xa 1), .inl (E 0, 16, .inl xf1)), ((xa 3), .inl (E 3, 16, .inr (.inr (.inr (.inr xf3))))), (wh, .inr (7, G7 wa)), ((wa 3), .inl (E 0, 400, .inl wf3))] s.heap := hP
  have hl := lv_entry ([.ref xh, .int p0, .int p1]) (n := 4) (Nat.le_of_ble_eq_true rfl)
  rw [lg_entry_eq]
  generalize (lg_sl ([.ref xh, .int p0, .int p1]) ++ List.replicate (4 - (lg_sl ([.ref xh, .int p0, .int p1])).length) Slot.unset).toArray = ls at hl ⊢
  have hl : lv_has ls 4 [(0, .ref xh), (1, .int p0), (2, .int p1)] := hl
  have lo_p0 := i_lo p0; have hi_p0 := i_hi p0
  have lo_p1 := i_lo p1; have hi_p1 := i_hi p1
  refine lv_aload_n hx hb dX8_holder_0 rfl (lv_at hl 0 rfl) ?_
  refine lv_iload_n hx hb dX8_holder_1 rfl (lv_at hl 1 rfl) ?_
  refine rr_call (runRV (rest := []) (As := [.int p0]) hx hb hml hown htb (g_X8_watchAt_W l D E xh xa xtrialRule xdropRule xtoday xf1 xf3 wh wa p0 (by (try dsimp only); omega) hk0 hw0) ok_X8_watchAt k_369 k_371 ks_1 k_1 k_372 ⟨(Nat.le_of_ble_eq_true rfl), (Nat.le_of_ble_eq_true rfl)⟩ ⟨(Nat.le_of_ble_eq_true rfl), (Nat.le_of_ble_eq_true rfl)⟩ hl.1 (Nat.le_of_ble_eq_true rfl) rfl rfl dX8_holder_2 (prV (hP.sub (ws' := [(xh, .inr (8, G8 xa xtrialRule xdropRule xtoday)), ((xa 1), .inl (E 0, 16, .inl xf1)), ((xa 3), .inl (E 3, 16, .inr (.inr (.inr (.inr xf3))))), (wh, .inr (7, G7 wa))]) [0, 1, 2, 3] rfl) hK rfl rfl 0 rfl)) ?_
  refine lv_astore_n (lv' := [(3, .ref wh), (0, .ref xh), (1, .int p0), (2, .int p1)]) hx hb dX8_holder_5 rfl hl (by decide) rfl (fun ls hl => ?_)
  refine lv_aload_n hx hb dX8_holder_6 rfl (lv_at hl 0 rfl) ?_
  refine lv_ifnull hx hb dX8_holder_7 ?_
  refine lv_aload_n hx hb dX8_holder_10 rfl (lv_at hl 1 rfl) ?_
  refine lv_iload_n hx hb dX8_holder_11 rfl (lv_at hl 3 rfl) ?_
  refine callRV (rest := []) (As := [.int p1]) hx hb hml hown htb hK (g_X8_isPast l D E xh xa xtrialRule xdropRule xtoday p1 (by (try dsimp only); omega)) ok_X8_isPast k_391 k_393 ks_2 k_1 k_394 ⟨(Nat.le_of_ble_eq_true rfl), (Nat.le_of_ble_eq_true rfl)⟩ ⟨(Nat.le_of_ble_eq_true rfl), (Nat.le_of_ble_eq_true rfl)⟩ hl.1 (Nat.le_of_ble_eq_true rfl) rfl rfl dX8_holder_12 (hP.sub (ws' := [(xh, .inr (8, G8 xa xtrialRule xdropRule xtoday))]) [0] rfl) rfl rfl 0 rfl (fun r_4 hw_5 => ?_)
  rcases hw_5 with ⟨hr_4, hw_5⟩ | ⟨hr_4, hw_5⟩
  ·
    refine W_top (y := .int 1) (by rw [hr_4]) ?_
    refine lv_if_ne (tgt := 23) hx hb dX8_holder_15 (by decide) (fun c_7 => ?_) (fun c_7 => absurd c_7 (by decide))
    refine lv_aload_n hx hb dX8_holder_23 rfl (lv_at hl 0 rfl) ?_
    refine lv_iload_n hx hb dX8_holder_24 rfl (lv_at hl 3 rfl) ?_
    refine callRV (rest := []) (As := [.int p1]) hx hb hml hown htb hK (g_X7_holderOn l D E wh wa wf3 p1 ) ok_X7_holderOn k_373 k_374 k_375 k_10 k_376 ⟨(Nat.le_of_ble_eq_true rfl), (Nat.le_of_ble_eq_true rfl)⟩ ⟨(Nat.le_of_ble_eq_true rfl), (Nat.le_of_ble_eq_true rfl)⟩ hl.1 (Nat.le_of_ble_eq_true rfl) rfl rfl dX8_holder_25 (hP.sub (ws' := [(wh, .inr (7, G7 wa)), ((wa 3), .inl (E 0, 400, .inl wf3))]) [3, 4] rfl) rfl rfl 0 rfl (fun r_8 hw_9 => ?_)
    have hw_9R : r_8.toInt = (wf3 (p1).toNatClampNeg).toInt := by rcases hw_9 with h9 | h9 <;> first | exact congrArg Int32.toInt h9.2 | (exfalso; omega)
    exact W.iret (v := r_8) hx hb hr (fun t ht hW => ⟨r_8, rfl, (by (try dsimp only); first | exact Or.inl ⟨by omega, by omega⟩ | exact Or.inr ⟨by omega, by omega⟩), ht⟩) (fun q h => by cases h) dX8_holder_28
  ·
    refine W_top (y := .int 0) (by rw [hr_4]) ?_
    refine lv_if_ne (tgt := 23) hx hb dX8_holder_15 (by decide) (fun c_11 => absurd (by decide) c_11) (fun c_11 => ?_)
    refine lv_ldc hx hb hown (htb _ k_386) dX8_holder_18 ?_
    refine lv_goto (tgt := 28) hx hb dX8_holder_20 (by decide) ?_
    exact W.iret (v := (-2000000000)) hx hb hr (fun t ht hW => ⟨(-2000000000), rfl, (by have hl0 := t_m2000000000; (try dsimp only); first | exact Or.inl ⟨by omega, by omega⟩ | exact Or.inr ⟨by omega, by omega⟩), ht⟩) (fun q h => by cases h) dX8_holder_28
set_option maxHeartbeats 4000000 in
set_option maxRecDepth 100000 in
theorem g_X8_away_N (l : Launch) (D : va_G) (E : Nat → Nat) (xh : Nat) (xa : Nat → Nat) (xtrialRule : Nat) (xdropRule : Nat) (xtoday : Int32) (xf1 : Nat → Int32) (xf3 : Nat → Option Nat) (p0 : Int32) (hi_x : (0 ≤ xtoday.toInt ∧ xtoday.toInt ≤ 399)) (hn0 : ¬ (0 ≤ p0.toInt ∧ p0.toInt ≤ 15 ∧ ((xf1 (p0).toNatClampNeg).toInt = 0 ∨ (xf1 (p0).toNatClampNeg).toInt = 1))) : Met l yX8_away (wl yX8_away cX8_away 3 (some .int)) (RM 2 0 0) (rd_P D E [.ref xh, .int p0] [(xh, .inr (8, G8 xa xtrialRule xdropRule xtoday)), ((xa 1), .inl (E 0, 16, .inl xf1)), ((xa 3), .inl (E 3, 16, .inr (.inr (.inr (.inr xf3)))))]) (rd_Q (fun r => ((r.toInt = -1 ∧ ¬ ((0 ≤ p0.toInt ∧ p0.toInt ≤ 15))) ∨ (((0 ≤ p0.toInt ∧ p0.toInt ≤ 15)) ∧ (((xf1 (p0).toNatClampNeg).toInt = -5 ∧ r.toInt = -2) ∨ ((xf1 (p0).toNatClampNeg).toInt ≠ -5 ∧ r.toInt = -3)))))) 0 0 (fun _ => False) := by
  refine Met.ofW (cc := cX8_away) (maxL := 3) (ret := (some .int)) (by decide) rfl ?_
  intro p e s m args below meth c s₁ B hml hv
  obtain ⟨rfl, hP, hK⟩ := hv
  have hx := B.exec; have hb := B.bytes; have hr := B.returns
  have hts := atoms_spec (ws := wl yX8_away cX8_away 3 (some .int)) B.pre
  have htb : ∀ w ∈ tb, w.before _ s = true := fun w h => hts w (List.mem_cons_of_mem _ h)
  have hown : s.vm.findClass RX8 = some m.cls := findClass_of_methodNamed B.named
  have hlocks := B.notSynchronized
  have hP : va_P D vwCl [(xh, .inr (8, G8 xa xtrialRule xdropRule xtoday)), ((xa 1), .inl (E 0, 16, .inl xf1)), ((xa 3), .inl (E 3, 16, .inr (.inr (.inr (.inr xf3)))))] s.heap := hP
  have hl := lv_entry ([.ref xh, .int p0]) (n := 3) (Nat.le_of_ble_eq_true rfl)
  rw [lg_entry_eq]
  generalize (lg_sl ([.ref xh, .int p0]) ++ List.replicate (3 - (lg_sl ([.ref xh, .int p0])).length) Slot.unset).toArray = ls at hl ⊢
  have hl : lv_has ls 3 [(0, .ref xh), (1, .int p0)] := hl
  have lo_p0 := i_lo p0; have hi_p0 := i_hi p0
  refine lv_iload_n hx hb dX8_away_0 rfl (lv_at hl 1 rfl) ?_
  refine callRS (rest := []) (As := [.int p0]) hx hb hml hown htb hK (g_X8_isPlace l D E p0 ) ok_X8_isPlace k_333 k_334 k_1 k_335 ⟨(Nat.le_of_ble_eq_true rfl), (Nat.le_of_ble_eq_true rfl)⟩ ⟨(Nat.le_of_ble_eq_true rfl), (Nat.le_of_ble_eq_true rfl)⟩ hl.1 (Nat.le_of_ble_eq_true rfl) rfl rfl dX8_away_1 (hP.sub (ws' := ([] : va_W)) [] rfl) (fun r_1 hw_2 => ?_)
  rcases hw_2 with ⟨hr_1, hw_2⟩ | ⟨hr_1, hw_2⟩
  ·
    refine W_top (y := .int 1) (by rw [hr_1]) ?_
    refine lv_if_ne (tgt := 9) hx hb dX8_away_4 (by decide) (fun c_4 => ?_) (fun c_4 => absurd c_4 (by decide))
    refine lv_aload_n hx hb dX8_away_9 rfl (lv_at hl 0 rfl) ?_
    refine lv_iload_n hx hb dX8_away_10 rfl (lv_at hl 1 rfl) ?_
    refine rn_call (runRV (rest := []) (As := [.int p0]) hx hb hml hown htb (g_X8_watchAt_N l D E xh xa xtrialRule xdropRule xtoday xf1 xf3 p0 (by (try dsimp only); omega) hn0) ok_X8_watchAt k_369 k_371 ks_1 k_1 k_372 ⟨(Nat.le_of_ble_eq_true rfl), (Nat.le_of_ble_eq_true rfl)⟩ ⟨(Nat.le_of_ble_eq_true rfl), (Nat.le_of_ble_eq_true rfl)⟩ hl.1 (Nat.le_of_ble_eq_true rfl) rfl rfl dX8_away_11 (prV (hP.sub (ws' := [(xh, .inr (8, G8 xa xtrialRule xdropRule xtoday)), ((xa 1), .inl (E 0, 16, .inl xf1)), ((xa 3), .inl (E 3, 16, .inr (.inr (.inr (.inr xf3)))))]) [0, 1, 2] rfl) hK rfl rfl 0 rfl)) ?_
    refine lv_astore_nN (lv' := [(2, .null), (0, .ref xh), (1, .int p0)]) hx hb dX8_away_14 rfl hl (by decide) rfl (fun ls hl => ?_)
    refine lv_aload_nN hx hb dX8_away_15 rfl (lv_at hl 0 rfl) ?_
    refine lv_ifnonnullN hx hb dX8_away_16 ?_
    refine lv_aload_n hx hb dX8_away_19 rfl (lv_at hl 1 rfl) ?_
    refine lv_iload_n hx hb dX8_away_20 rfl (lv_at hl 2 rfl) ?_
    refine callRV (rest := []) (As := [.int p0]) hx hb hml hown htb hK (g_X8_lackAt l D E xh xa xtrialRule xdropRule xtoday xf1 p0 (by (try dsimp only); omega)) ok_X8_lackAt k_396 k_398 ks_3 k_1 k_399 ⟨(Nat.le_of_ble_eq_true rfl), (Nat.le_of_ble_eq_true rfl)⟩ ⟨(Nat.le_of_ble_eq_true rfl), (Nat.le_of_ble_eq_true rfl)⟩ hl.1 (Nat.le_of_ble_eq_true rfl) rfl rfl dX8_away_21 (hP.sub (ws' := [(xh, .inr (8, G8 xa xtrialRule xdropRule xtoday)), ((xa 1), .inl (E 0, 16, .inl xf1))]) [0, 1] rfl) rfl rfl 0 rfl (fun r_8 hw_9 => ?_)
    refine lv_goto (tgt := 35) hx hb dX8_away_24 (by decide) ?_
    exact W.iret (v := r_8) hx hb hr (fun t ht hW => ⟨r_8, rfl, (by (try dsimp only); first | exact Or.inr ⟨by omega, by omega⟩ | exact Or.inl ⟨by omega, by omega⟩), ht⟩) (fun q h => by cases h) dX8_away_35
  ·
    refine W_top (y := .int 0) (by rw [hr_1]) ?_
    refine lv_if_ne (tgt := 9) hx hb dX8_away_4 (by decide) (fun c_11 => absurd (by decide) c_11) (fun c_11 => ?_)
    refine lv_iconst (v := (-1)) hx hb dX8_away_7 (by decide) ?_
    exact W.iret (v := (-1)) hx hb hr (fun t ht hW => ⟨(-1), rfl, (by have hl0 := t_m1; (try dsimp only); first | exact Or.inl ⟨by omega, by omega⟩ | exact Or.inr ⟨by omega, by omega⟩), ht⟩) (fun q h => by cases h) dX8_away_8
set_option maxHeartbeats 4000000 in
set_option maxRecDepth 100000 in
theorem g_X8_away_W (l : Launch) (D : va_G) (E : Nat → Nat) (xh : Nat) (xa : Nat → Nat) (xtrialRule : Nat) (xdropRule : Nat) (xtoday : Int32) (xf1 : Nat → Int32) (xf3 : Nat → Option Nat) (wh : Nat) (wa : Nat → Nat) (wf3 : Nat → Int32) (p0 : Int32) (hi_x : (0 ≤ xtoday.toInt ∧ xtoday.toInt ≤ 399)) (hk0 : (0 ≤ p0.toInt ∧ p0.toInt ≤ 15 ∧ ((xf1 (p0).toNatClampNeg).toInt = 0 ∨ (xf1 (p0).toNatClampNeg).toInt = 1))) (hw0 : xf3 (p0).toNatClampNeg = some wh) : Met l yX8_away (wl yX8_away cX8_away 3 (some .int)) (RM 2 0 0) (rd_P D E [.ref xh, .int p0] [(xh, .inr (8, G8 xa xtrialRule xdropRule xtoday)), ((xa 1), .inl (E 0, 16, .inl xf1)), ((xa 3), .inl (E 3, 16, .inr (.inr (.inr (.inr xf3))))), (wh, .inr (7, G7 wa)), ((wa 3), .inl (E 0, 400, .inl wf3))]) (rd_Q (fun r => ((r.toInt = awN wf3 (xtoday.toInt + 1).toNat)))) 0 0 (fun _ => False) := by
  refine Met.ofW (cc := cX8_away) (maxL := 3) (ret := (some .int)) (by decide) rfl ?_
  intro p e s m args below meth c s₁ B hml hv
  obtain ⟨rfl, hP, hK⟩ := hv
  have hx := B.exec; have hb := B.bytes; have hr := B.returns
  have hts := atoms_spec (ws := wl yX8_away cX8_away 3 (some .int)) B.pre
  have htb : ∀ w ∈ tb, w.before _ s = true := fun w h => hts w (List.mem_cons_of_mem _ h)
  have hown : s.vm.findClass RX8 = some m.cls := findClass_of_methodNamed B.named
  have hlocks := B.notSynchronized
  have hP : va_P D vwCl [(xh, .inr (8, G8 xa xtrialRule xdropRule xtoday)), ((xa 1), .inl (E 0, 16, .inl xf1)), ((xa 3), .inl (E 3, 16, .inr (.inr (.inr (.inr xf3))))), (wh, .inr (7, G7 wa)), ((wa 3), .inl (E 0, 400, .inl wf3))] s.heap := hP
  have hl := lv_entry ([.ref xh, .int p0]) (n := 3) (Nat.le_of_ble_eq_true rfl)
  rw [lg_entry_eq]
  generalize (lg_sl ([.ref xh, .int p0]) ++ List.replicate (3 - (lg_sl ([.ref xh, .int p0])).length) Slot.unset).toArray = ls at hl ⊢
  have hl : lv_has ls 3 [(0, .ref xh), (1, .int p0)] := hl
  have lo_p0 := i_lo p0; have hi_p0 := i_hi p0
  refine lv_iload_n hx hb dX8_away_0 rfl (lv_at hl 1 rfl) ?_
  refine callRS (rest := []) (As := [.int p0]) hx hb hml hown htb hK (g_X8_isPlace l D E p0 ) ok_X8_isPlace k_333 k_334 k_1 k_335 ⟨(Nat.le_of_ble_eq_true rfl), (Nat.le_of_ble_eq_true rfl)⟩ ⟨(Nat.le_of_ble_eq_true rfl), (Nat.le_of_ble_eq_true rfl)⟩ hl.1 (Nat.le_of_ble_eq_true rfl) rfl rfl dX8_away_1 (hP.sub (ws' := ([] : va_W)) [] rfl) (fun r_1 hw_2 => ?_)
  rcases hw_2 with ⟨hr_1, hw_2⟩ | ⟨hr_1, hw_2⟩
  ·
    refine W_top (y := .int 1) (by rw [hr_1]) ?_
    refine lv_if_ne (tgt := 9) hx hb dX8_away_4 (by decide) (fun c_4 => ?_) (fun c_4 => absurd c_4 (by decide))
    refine lv_aload_n hx hb dX8_away_9 rfl (lv_at hl 0 rfl) ?_
    refine lv_iload_n hx hb dX8_away_10 rfl (lv_at hl 1 rfl) ?_
    refine rr_call (runRV (rest := []) (As := [.int p0]) hx hb hml hown htb (g_X8_watchAt_W l D E xh xa xtrialRule xdropRule xtoday xf1 xf3 wh wa p0 (by (try dsimp only); omega) hk0 hw0) ok_X8_watchAt k_369 k_371 ks_1 k_1 k_372 ⟨(Nat.le_of_ble_eq_true rfl), (Nat.le_of_ble_eq_true rfl)⟩ ⟨(Nat.le_of_ble_eq_true rfl), (Nat.le_of_ble_eq_true rfl)⟩ hl.1 (Nat.le_of_ble_eq_true rfl) rfl rfl dX8_away_11 (prV (hP.sub (ws' := [(xh, .inr (8, G8 xa xtrialRule xdropRule xtoday)), ((xa 1), .inl (E 0, 16, .inl xf1)), ((xa 3), .inl (E 3, 16, .inr (.inr (.inr (.inr xf3))))), (wh, .inr (7, G7 wa))]) [0, 1, 2, 3] rfl) hK rfl rfl 0 rfl)) ?_
    refine lv_astore_n (lv' := [(2, .ref wh), (0, .ref xh), (1, .int p0)]) hx hb dX8_away_14 rfl hl (by decide) rfl (fun ls hl => ?_)
    refine lv_aload_n hx hb dX8_away_15 rfl (lv_at hl 0 rfl) ?_
    refine lv_ifnonnull (tgt := 27) hx hb dX8_away_16 (by decide) ?_
    refine lv_aload_n hx hb dX8_away_27 rfl (lv_at hl 0 rfl) ?_
    refine lv_aload_n hx hb dX8_away_28 rfl (lv_at hl 1 rfl) ?_
    refine va_get (D := D) (ci := 8) (v := .int xtoday) (C := RX8) (T := TX8) (N := 14) hx hb htb iX8 hown hK.1 hP 0 rfl rfl 13 (by decide) (htb _ k_285) (fun _ h9 => h9) rfl dX8_away_29 ?_
    refine callRV (rest := []) (As := [.int xtoday]) hx hb hml hown htb hK (g_X7_daysAway l D E wh wa wf3 xtoday (by (try dsimp only); omega)) ok_X7_daysAway k_937 k_938 k_939 k_10 k_940 ⟨(Nat.le_of_ble_eq_true rfl), (Nat.le_of_ble_eq_true rfl)⟩ ⟨(Nat.le_of_ble_eq_true rfl), (Nat.le_of_ble_eq_true rfl)⟩ hl.1 (Nat.le_of_ble_eq_true rfl) rfl rfl dX8_away_32 (hP.sub (ws' := [(wh, .inr (7, G7 wa)), ((wa 3), .inl (E 0, 400, .inl wf3))]) [3, 4] rfl) rfl rfl 0 rfl (fun r_8 hw_9 => ?_)
    exact W.iret (v := r_8) hx hb hr (fun t ht hW => ⟨r_8, rfl, (by (try dsimp only); first | exact (by first | assumption | (exfalso; omega))), ht⟩) (fun q h => by cases h) dX8_away_35
  ·
    refine W_top (y := .int 0) (by rw [hr_1]) ?_
    refine lv_if_ne (tgt := 9) hx hb dX8_away_4 (by decide) (fun c_11 => absurd (by decide) c_11) (fun c_11 => ?_)
    refine lv_iconst (v := (-1)) hx hb dX8_away_7 (by decide) ?_
    exact W.iret (v := (-1)) hx hb hr (fun t ht hW => ⟨(-1), rfl, (by have hl0 := t_m1; (try dsimp only); first | exact (by first | assumption | (exfalso; omega))), ht⟩) (fun q h => by cases h) dX8_away_8
