set_option maxHeartbeats 4000000 in
set_option maxRecDepth 100000 in
theorem g_X8_unload_N (l : Launch) (D : va_G) (E : Nat → Nat) (xh : Nat) (xa : Nat → Nat) (xtrialRule : Nat) (xdropRule : Nat) (xtoday : Int32) (xf1 : Nat → Int32) (xf3 : Nat → Option Nat) (yh : Nat) (ya : Nat → Nat) (ysights : Int32) (ystage : Int32) (ysailed : Int32) (yvoyage : Int32) (yf0 : Nat → Int32) (yf4 : Nat → Int32) (p1 : Int32) (p2 : Int32) (sz : Nat) (hi_x : (0 ≤ xtoday.toInt ∧ xtoday.toInt ≤ 399)) (hi_y : (0 ≤ ysights.toInt ∧ ysights.toInt ≤ 40)) (g0 : 0 ≤ p1.toInt ∧ p1.toInt ≤ 2) (hn0 : ¬ (0 ≤ (yf0 (p1).toNatClampNeg).toInt ∧ (yf0 (p1).toNatClampNeg).toInt ≤ 15 ∧ ((xf1 ((yf0 (p1).toNatClampNeg)).toNatClampNeg).toInt = 0 ∨ (xf1 ((yf0 (p1).toNatClampNeg)).toNatClampNeg).toInt = 1))) : Met l yX8_unload (wl yX8_unload cX8_unload 5 none) (RM 2 0 0) (mu_P D E [.ref xh, .ref yh, .int p1, .int p2] [(xh, .inr (8, G8 xa xtrialRule xdropRule xtoday)), ((xa 1), .inl (E 0, 16, .inl xf1)), ((xa 3), .inl (E 3, 16, .inr (.inr (.inr (.inr xf3))))), (yh, .inr (5, G5 ya ysights ystage ysailed yvoyage)), ((ya 0), .inl (E 0, 3, .inl yf0)), ((ya 4), .inl (E 0, 3, .inl yf4))] sz) (va_Qv (fun (u : (Nat → Int32)) => (u = upd yf4 (p1).toNatClampNeg p2)) (mu_B D (va_A [(xh, .inr (8, G8 xa xtrialRule xdropRule xtoday)), ((xa 1), .inl (E 0, 16, .inl xf1)), ((xa 3), .inl (E 3, 16, .inr (.inr (.inr (.inr xf3))))), (yh, .inr (5, G5 ya ysights ystage ysailed yvoyage)), ((ya 0), .inl (E 0, 3, .inl yf0)), ((ya 4), .inl (E 0, 3, .inl yf4))] sz) (fun (u : (Nat → Int32)) => [(xh, .inr (8, G8 xa xtrialRule xdropRule xtoday)), ((xa 1), .inl (E 0, 16, .inl xf1)), ((xa 3), .inl (E 3, 16, .inr (.inr (.inr (.inr xf3))))), (yh, .inr (5, G5 ya ysights ystage ysailed yvoyage)), ((ya 0), .inl (E 0, 3, .inl yf0)), ((ya 4), .inl (E 0, 3, .inl u))])) (va_A [(xh, .inr (8, G8 xa xtrialRule xdropRule xtoday)), ((xa 1), .inl (E 0, 16, .inl xf1)), ((xa 3), .inl (E 3, 16, .inr (.inr (.inr (.inr xf3))))), (yh, .inr (5, G5 ya ysights ystage ysailed yvoyage)), ((ya 0), .inl (E 0, 3, .inl yf0)), ((ya 4), .inl (E 0, 3, .inl yf4))] sz)) 0 0 (va_A [(xh, .inr (8, G8 xa xtrialRule xdropRule xtoday)), ((xa 1), .inl (E 0, 16, .inl xf1)), ((xa 3), .inl (E 3, 16, .inr (.inr (.inr (.inr xf3))))), (yh, .inr (5, G5 ya ysights ystage ysailed yvoyage)), ((ya 0), .inl (E 0, 3, .inl yf0)), ((ya 4), .inl (E 0, 3, .inl yf4))] sz) := by
  refine Met.ofW (cc := cX8_unload) (maxL := 5) (ret := none) (by decide) rfl ?_
  intro p e s m args below meth c s₁ B hml hv
  obtain ⟨rfl, hsz, hP, hK, hD0⟩ := hv
  have hx := B.exec; have hb := B.bytes; have hr := B.returns
  have hts := atoms_spec (ws := wl yX8_unload cX8_unload 5 none) B.pre
  have htb : ∀ w ∈ tb, w.before _ s = true := fun w h => hts w (List.mem_cons_of_mem _ h)
  have hown : s.vm.findClass RX8 = some m.cls := findClass_of_methodNamed B.named
  have hlocks := B.notSynchronized
  subst hsz
  have hD := hD0.self (sz := s.heap.size)
  generalize hAe : va_A [(xh, .inr (8, G8 xa xtrialRule xdropRule xtoday)), ((xa 1), .inl (E 0, 16, .inl xf1)), ((xa 3), .inl (E 3, 16, .inr (.inr (.inr (.inr xf3))))), (yh, .inr (5, G5 ya ysights ystage ysailed yvoyage)), ((ya 0), .inl (E 0, 3, .inl yf0)), ((ya 4), .inl (E 0, 3, .inl yf4))] s.heap.size = A at hD ⊢
  have hA : ∀ q : Nat, s.heap.size ≤ q → A q := fun q h => by rw [← hAe]; exact Or.inr h
  have hS : va_S A s.heap s.heap [] := va_S.rf
  have hP : va_P D vwCl [(xh, .inr (8, G8 xa xtrialRule xdropRule xtoday)), ((xa 1), .inl (E 0, 16, .inl xf1)), ((xa 3), .inl (E 3, 16, .inr (.inr (.inr (.inr xf3))))), (yh, .inr (5, G5 ya ysights ystage ysailed yvoyage)), ((ya 0), .inl (E 0, 3, .inl yf0)), ((ya 4), .inl (E 0, 3, .inl yf4))] s.heap := hP
  have hl := lv_entry ([.ref xh, .ref yh, .int p1, .int p2]) (n := 5) (Nat.le_of_ble_eq_true rfl)
  rw [lg_entry_eq]
  generalize (lg_sl ([.ref xh, .ref yh, .int p1, .int p2]) ++ List.replicate (5 - (lg_sl ([.ref xh, .ref yh, .int p1, .int p2])).length) Slot.unset).toArray = ls at hl ⊢
  have hl : lv_has ls 5 [(0, .ref xh), (1, .ref yh), (2, .int p1), (3, .int p2)] := hl
  have lo_p1 := i_lo p1; have hi_p1 := i_hi p1
  have lo_p2 := i_lo p2; have hi_p2 := i_hi p2
  refine lv_iload_n hx hb dX8_unload_0 rfl (lv_at hl 2 rfl) ?_
  refine lv_if_lt (tgt := 9) hx hb dX8_unload_1 (by decide) (fun c_1 => absurd c_1 (by rw [g_lt rfl t_0]; omega)) (fun c_1 => ?_)
  refine lv_iload_n hx hb dX8_unload_4 rfl (lv_at hl 2 rfl) ?_
  refine lv_iconst (v := 3) hx hb dX8_unload_5 (by decide) ?_
  refine lv_icmp_lt (tgt := 10) hx hb dX8_unload_6 (by decide) (fun c_2 => ?_) (fun c_2 => absurd (by rw [g_lt rfl t_3]; omega) c_2)
  refine lv_aload_n hx hb dX8_unload_10 rfl (lv_at hl 1 rfl) ?_
  refine va_getN (D := D) (ci := 5) (v := .ref (ya 4)) (C := RX5) (T := TX5) (N := 11) hx hb htb iX5 hown hK.1 hP 3 rfl rfl 4 (by decide) (va_Nw.use rfl (hK.2.1 (Cond.fieldLinkNest RX8 368 "SeaWatches$Ship" "ends" "[I" "SeaWatches") (by decide +kernel))) (fun _ h9 => h9) rfl dX8_unload_11 ?_
  refine lv_iload_n hx hb dX8_unload_14 rfl (lv_at hl 2 rfl) ?_
  refine lv_iload_n hx hb dX8_unload_15 rfl (lv_at hl 3 rfl) ?_
  refine va_iast hx hb hK.1 hP hD hS 5 0 rfl rfl (g_in rfl (by omega) (by omega)) dX8_unload_16 (fun H locs hP hD hS => ?_)
  have hP : va_P D vwCl [(xh, .inr (8, G8 xa xtrialRule xdropRule xtoday)), ((xa 1), .inl (E 0, 16, .inl xf1)), ((xa 3), .inl (E 3, 16, .inr (.inr (.inr (.inr xf3))))), (yh, .inr (5, G5 ya ysights ystage ysailed yvoyage)), ((ya 0), .inl (E 0, 3, .inl yf0)), ((ya 4), .inl (E 0, 3, .inl (upd yf4 (p1 : Int32).toNatClampNeg p2)))] H := hP
  have hD := toW hP hD rfl
  refine lv_aload_n hx hb dX8_unload_17 rfl (lv_at hl 0 rfl) ?_
  refine lv_aload_n hx hb dX8_unload_18 rfl (lv_at hl 1 rfl) ?_
  refine va_getN (D := D) (ci := 5) (v := .ref (ya 0)) (C := RX5) (T := TX5) (N := 11) hx hb htb iX5 hown hK.1 hP 3 rfl rfl 0 (by decide) (va_Nw.use rfl (hK.2.1 (Cond.fieldLinkNest RX8 220 "SeaWatches$Ship" "places" "[I" "SeaWatches") (by decide +kernel))) (fun _ h9 => h9) rfl dX8_unload_19 ?_
  refine lv_iload_n hx hb dX8_unload_22 rfl (lv_at hl 2 rfl) ?_
  refine va_iald hx hb hK.1 hP 4 0 rfl rfl (g_in rfl (by omega) (by omega)) dX8_unload_23 ?_
  refine lv_topi (fun z_3 ez_3 => ?_)
  have kz_3 := congrArg Int32.toInt ez_3
  have nz_3 : ¬ (0 ≤ z_3.toInt ∧ z_3.toInt ≤ 15 ∧ ((xf1 (z_3).toNatClampNeg).toInt = 0 ∨ (xf1 (z_3).toNatClampNeg).toInt = 1)) := by rw [ez_3]; exact hn0
  refine rn_call (runRV (rest := []) (As := [.int z_3]) hx hb hml hown htb (g_X8_watchAt_N l D E xh xa xtrialRule xdropRule xtoday xf1 xf3 z_3 (by (try dsimp only); omega) nz_3) ok_X8_watchAt k_369 k_371 ks_1 k_1 k_372 ⟨(Nat.le_of_ble_eq_true rfl), (Nat.le_of_ble_eq_true rfl)⟩ ⟨(Nat.le_of_ble_eq_true rfl), (Nat.le_of_ble_eq_true rfl)⟩ hl.1 (Nat.le_of_ble_eq_true rfl) rfl rfl dX8_unload_24 (prV (hP.sub (ws' := [(xh, .inr (8, G8 xa xtrialRule xdropRule xtoday)), ((xa 1), .inl (E 0, 16, .inl xf1)), ((xa 3), .inl (E 3, 16, .inr (.inr (.inr (.inr xf3)))))]) [0, 1, 2] rfl) hK rfl rfl 0 rfl)) ?_
  refine lv_astoreN (lv' := [(4, .null), (0, .ref xh), (1, .ref yh), (2, .int p1), (3, .int p2)]) hx hb dX8_unload_27 hl (by decide) rfl (fun ls hl => ?_)
  refine lv_aloadN hx hb dX8_unload_29 (lv_at hl 0 rfl) ?_
  refine lv_ifnullN (tgt := 55) hx hb dX8_unload_31 (by decide) ?_
  have hP9 := hP.sub (ws' := [(xh, .inr (8, G8 xa xtrialRule xdropRule xtoday)), ((xa 1), .inl (E 0, 16, .inl xf1)), ((xa 3), .inl (E 3, 16, .inr (.inr (.inr (.inr xf3))))), (yh, .inr (5, G5 ya ysights ystage ysailed yvoyage)), ((ya 0), .inl (E 0, 3, .inl yf0)), ((ya 4), .inl (E 0, 3, .inl (upd yf4 (p1 : Int32).toNatClampNeg p2)))]) [0, 1, 2, 3, 4, 5] rfl
  have hD9 := hD.sub (ws' := [(xh, .inr (8, G8 xa xtrialRule xdropRule xtoday)), ((xa 1), .inl (E 0, 16, .inl xf1)), ((xa 3), .inl (E 3, 16, .inr (.inr (.inr (.inr xf3))))), (yh, .inr (5, G5 ya ysights ystage ysailed yvoyage)), ((ya 0), .inl (E 0, 3, .inl yf0)), ((ya 4), .inl (E 0, 3, .inl (upd yf4 (p1 : Int32).toNatClampNeg p2)))]) [0, 1, 2, 3, 4, 5] (by decide) rfl
  exact W.vret hx hb hr (fun t ht hW => ⟨⟨(upd yf4 (p1 : Int32).toNatClampNeg p2), rfl, rfl, by rw [ht]; exact hP9, hD9⟩, hS.F ht⟩) hS.2.2 dX8_unload_55
set_option maxHeartbeats 4000000 in
set_option maxRecDepth 100000 in
theorem g_X8_unload_W (l : Launch) (D : va_G) (E : Nat → Nat) (xh : Nat) (xa : Nat → Nat) (xtrialRule : Nat) (xdropRule : Nat) (xtoday : Int32) (xf1 : Nat → Int32) (xf3 : Nat → Option Nat) (yh : Nat) (ya : Nat → Nat) (ysights : Int32) (ystage : Int32) (ysailed : Int32) (yvoyage : Int32) (yf0 : Nat → Int32) (yf4 : Nat → Int32) (wh : Nat) (wa : Nat → Nat) (wf0 : Nat → Int32) (wf1 : Nat → Int32) (wf3 : Nat → Int32) (p1 : Int32) (p2 : Int32) (sz : Nat) (hi_x : (0 ≤ xtoday.toInt ∧ xtoday.toInt ≤ 399)) (hi_y : (0 ≤ ysights.toInt ∧ ysights.toInt ≤ 40)) (g0 : 0 ≤ p1.toInt ∧ p1.toInt ≤ 2) (hk0 : (0 ≤ (yf0 (p1).toNatClampNeg).toInt ∧ (yf0 (p1).toNatClampNeg).toInt ≤ 15 ∧ ((xf1 ((yf0 (p1).toNatClampNeg)).toNatClampNeg).toInt = 0 ∨ (xf1 ((yf0 (p1).toNatClampNeg)).toNatClampNeg).toInt = 1))) (hw0 : xf3 ((yf0 (p1).toNatClampNeg)).toNatClampNeg = some wh) : Met l yX8_unload (wl yX8_unload cX8_unload 5 none) (RM 2 0 0) (mu_P D E [.ref xh, .ref yh, .int p1, .int p2] [(xh, .inr (8, G8 xa xtrialRule xdropRule xtoday)), ((xa 1), .inl (E 0, 16, .inl xf1)), ((xa 3), .inl (E 3, 16, .inr (.inr (.inr (.inr xf3))))), (yh, .inr (5, G5 ya ysights ystage ysailed yvoyage)), ((ya 0), .inl (E 0, 3, .inl yf0)), ((ya 4), .inl (E 0, 3, .inl yf4)), (wh, .inr (7, G7 wa)), ((wa 0), .inl (E 0, 400, .inl wf0)), ((wa 1), .inl (E 0, 400, .inl wf1)), ((wa 3), .inl (E 0, 400, .inl wf3))] sz) (va_Qv (fun (u : (Nat → Int32) × (Nat → Int32) × (Nat → Int32) × (Nat → Int32)) => (u.1 = upd wf0 (xtoday).toNatClampNeg p2 ∧ u.2.1 = upd wf1 (xtoday).toNatClampNeg 0 ∧ GIV wf3 u.2.2.1 xtoday.toInt (-1)) ∧ (u.2.2.2 = upd yf4 (p1).toNatClampNeg p2)) (mu_B D (va_A [(xh, .inr (8, G8 xa xtrialRule xdropRule xtoday)), ((xa 1), .inl (E 0, 16, .inl xf1)), ((xa 3), .inl (E 3, 16, .inr (.inr (.inr (.inr xf3))))), (yh, .inr (5, G5 ya ysights ystage ysailed yvoyage)), ((ya 0), .inl (E 0, 3, .inl yf0)), ((ya 4), .inl (E 0, 3, .inl yf4)), (wh, .inr (7, G7 wa)), ((wa 0), .inl (E 0, 400, .inl wf0)), ((wa 1), .inl (E 0, 400, .inl wf1)), ((wa 3), .inl (E 0, 400, .inl wf3))] sz) (fun (u : (Nat → Int32) × (Nat → Int32) × (Nat → Int32) × (Nat → Int32)) => [(xh, .inr (8, G8 xa xtrialRule xdropRule xtoday)), ((xa 1), .inl (E 0, 16, .inl xf1)), ((xa 3), .inl (E 3, 16, .inr (.inr (.inr (.inr xf3))))), (yh, .inr (5, G5 ya ysights ystage ysailed yvoyage)), ((ya 0), .inl (E 0, 3, .inl yf0)), ((ya 4), .inl (E 0, 3, .inl u.2.2.2)), (wh, .inr (7, G7 wa)), ((wa 0), .inl (E 0, 400, .inl u.1)), ((wa 1), .inl (E 0, 400, .inl u.2.1)), ((wa 3), .inl (E 0, 400, .inl u.2.2.1))])) (va_A [(xh, .inr (8, G8 xa xtrialRule xdropRule xtoday)), ((xa 1), .inl (E 0, 16, .inl xf1)), ((xa 3), .inl (E 3, 16, .inr (.inr (.inr (.inr xf3))))), (yh, .inr (5, G5 ya ysights ystage ysailed yvoyage)), ((ya 0), .inl (E 0, 3, .inl yf0)), ((ya 4), .inl (E 0, 3, .inl yf4)), (wh, .inr (7, G7 wa)), ((wa 0), .inl (E 0, 400, .inl wf0)), ((wa 1), .inl (E 0, 400, .inl wf1)), ((wa 3), .inl (E 0, 400, .inl wf3))] sz)) 0 0 (va_A [(xh, .inr (8, G8 xa xtrialRule xdropRule xtoday)), ((xa 1), .inl (E 0, 16, .inl xf1)), ((xa 3), .inl (E 3, 16, .inr (.inr (.inr (.inr xf3))))), (yh, .inr (5, G5 ya ysights ystage ysailed yvoyage)), ((ya 0), .inl (E 0, 3, .inl yf0)), ((ya 4), .inl (E 0, 3, .inl yf4)), (wh, .inr (7, G7 wa)), ((wa 0), .inl (E 0, 400, .inl wf0)), ((wa 1), .inl (E 0, 400, .inl wf1)), ((wa 3), .inl (E 0, 400, .inl wf3))] sz) := by
  refine Met.ofW (cc := cX8_unload) (maxL := 5) (ret := none) (by decide) rfl ?_
  intro p e s m args below meth c s₁ B hml hv
  obtain ⟨rfl, hsz, hP, hK, hD0⟩ := hv
  have hx := B.exec; have hb := B.bytes; have hr := B.returns
  have hts := atoms_spec (ws := wl yX8_unload cX8_unload 5 none) B.pre
  have htb : ∀ w ∈ tb, w.before _ s = true := fun w h => hts w (List.mem_cons_of_mem _ h)
  have hown : s.vm.findClass RX8 = some m.cls := findClass_of_methodNamed B.named
  have hlocks := B.notSynchronized
  subst hsz
  have hD := hD0.self (sz := s.heap.size)
  generalize hAe : va_A [(xh, .inr (8, G8 xa xtrialRule xdropRule xtoday)), ((xa 1), .inl (E 0, 16, .inl xf1)), ((xa 3), .inl (E 3, 16, .inr (.inr (.inr (.inr xf3))))), (yh, .inr (5, G5 ya ysights ystage ysailed yvoyage)), ((ya 0), .inl (E 0, 3, .inl yf0)), ((ya 4), .inl (E 0, 3, .inl yf4)), (wh, .inr (7, G7 wa)), ((wa 0), .inl (E 0, 400, .inl wf0)), ((wa 1), .inl (E 0, 400, .inl wf1)), ((wa 3), .inl (E 0, 400, .inl wf3))] s.heap.size = A at hD ⊢
  have hA : ∀ q : Nat, s.heap.size ≤ q → A q := fun q h => by rw [← hAe]; exact Or.inr h
  have hS : va_S A s.heap s.heap [] := va_S.rf
  have hP : va_P D vwCl [(xh, .inr (8, G8 xa xtrialRule xdropRule xtoday)), ((xa 1), .inl (E 0, 16, .inl xf1)), ((xa 3), .inl (E 3, 16, .inr (.inr (.inr (.inr xf3))))), (yh, .inr (5, G5 ya ysights ystage ysailed yvoyage)), ((ya 0), .inl (E 0, 3, .inl yf0)), ((ya 4), .inl (E 0, 3, .inl yf4)), (wh, .inr (7, G7 wa)), ((wa 0), .inl (E 0, 400, .inl wf0)), ((wa 1), .inl (E 0, 400, .inl wf1)), ((wa 3), .inl (E 0, 400, .inl wf3))] s.heap := hP
  have hl := lv_entry ([.ref xh, .ref yh, .int p1, .int p2]) (n := 5) (Nat.le_of_ble_eq_true rfl)
  rw [lg_entry_eq]
  generalize (lg_sl ([.ref xh, .ref yh, .int p1, .int p2]) ++ List.replicate (5 - (lg_sl ([.ref xh, .ref yh, .int p1, .int p2])).length) Slot.unset).toArray = ls at hl ⊢
  have hl : lv_has ls 5 [(0, .ref xh), (1, .ref yh), (2, .int p1), (3, .int p2)] := hl
  have lo_p1 := i_lo p1; have hi_p1 := i_hi p1
  have lo_p2 := i_lo p2; have hi_p2 := i_hi p2
  refine lv_iload_n hx hb dX8_unload_0 rfl (lv_at hl 2 rfl) ?_
  refine lv_if_lt (tgt := 9) hx hb dX8_unload_1 (by decide) (fun c_1 => absurd c_1 (by rw [g_lt rfl t_0]; omega)) (fun c_1 => ?_)
  refine lv_iload_n hx hb dX8_unload_4 rfl (lv_at hl 2 rfl) ?_
  refine lv_iconst (v := 3) hx hb dX8_unload_5 (by decide) ?_
  refine lv_icmp_lt (tgt := 10) hx hb dX8_unload_6 (by decide) (fun c_2 => ?_) (fun c_2 => absurd (by rw [g_lt rfl t_3]; omega) c_2)
  refine lv_aload_n hx hb dX8_unload_10 rfl (lv_at hl 1 rfl) ?_
  refine va_getN (D := D) (ci := 5) (v := .ref (ya 4)) (C := RX5) (T := TX5) (N := 11) hx hb htb iX5 hown hK.1 hP 3 rfl rfl 4 (by decide) (va_Nw.use rfl (hK.2.1 (Cond.fieldLinkNest RX8 368 "SeaWatches$Ship" "ends" "[I" "SeaWatches") (by decide +kernel))) (fun _ h9 => h9) rfl dX8_unload_11 ?_
  refine lv_iload_n hx hb dX8_unload_14 rfl (lv_at hl 2 rfl) ?_
  refine lv_iload_n hx hb dX8_unload_15 rfl (lv_at hl 3 rfl) ?_
  refine va_iast hx hb hK.1 hP hD hS 5 0 rfl rfl (g_in rfl (by omega) (by omega)) dX8_unload_16 (fun H locs hP hD hS => ?_)
  have hP : va_P D vwCl [(xh, .inr (8, G8 xa xtrialRule xdropRule xtoday)), ((xa 1), .inl (E 0, 16, .inl xf1)), ((xa 3), .inl (E 3, 16, .inr (.inr (.inr (.inr xf3))))), (yh, .inr (5, G5 ya ysights ystage ysailed yvoyage)), ((ya 0), .inl (E 0, 3, .inl yf0)), ((ya 4), .inl (E 0, 3, .inl (upd yf4 (p1 : Int32).toNatClampNeg p2))), (wh, .inr (7, G7 wa)), ((wa 0), .inl (E 0, 400, .inl wf0)), ((wa 1), .inl (E 0, 400, .inl wf1)), ((wa 3), .inl (E 0, 400, .inl wf3))] H := hP
  have hD := toW hP hD rfl
  refine lv_aload_n hx hb dX8_unload_17 rfl (lv_at hl 0 rfl) ?_
  refine lv_aload_n hx hb dX8_unload_18 rfl (lv_at hl 1 rfl) ?_
  refine va_getN (D := D) (ci := 5) (v := .ref (ya 0)) (C := RX5) (T := TX5) (N := 11) hx hb htb iX5 hown hK.1 hP 3 rfl rfl 0 (by decide) (va_Nw.use rfl (hK.2.1 (Cond.fieldLinkNest RX8 220 "SeaWatches$Ship" "places" "[I" "SeaWatches") (by decide +kernel))) (fun _ h9 => h9) rfl dX8_unload_19 ?_
  refine lv_iload_n hx hb dX8_unload_22 rfl (lv_at hl 2 rfl) ?_
  refine va_iald hx hb hK.1 hP 4 0 rfl rfl (g_in rfl (by omega) (by omega)) dX8_unload_23 ?_
  refine lv_topi (fun z_3 ez_3 => ?_)
  have kz_3 := congrArg Int32.toInt ez_3
  have hz_3 : (0 ≤ z_3.toInt ∧ z_3.toInt ≤ 15 ∧ ((xf1 (z_3).toNatClampNeg).toInt = 0 ∨ (xf1 (z_3).toNatClampNeg).toInt = 1)) := by rw [ez_3]; exact hk0
  have wz_3 : xf3 (z_3).toNatClampNeg = some wh := by rw [ez_3]; exact hw0
  refine rr_call (runRV (rest := []) (As := [.int z_3]) hx hb hml hown htb (g_X8_watchAt_W l D E xh xa xtrialRule xdropRule xtoday xf1 xf3 wh wa z_3 (by (try dsimp only); omega) hz_3 wz_3) ok_X8_watchAt k_369 k_371 ks_1 k_1 k_372 ⟨(Nat.le_of_ble_eq_true rfl), (Nat.le_of_ble_eq_true rfl)⟩ ⟨(Nat.le_of_ble_eq_true rfl), (Nat.le_of_ble_eq_true rfl)⟩ hl.1 (Nat.le_of_ble_eq_true rfl) rfl rfl dX8_unload_24 (prV (hP.sub (ws' := [(xh, .inr (8, G8 xa xtrialRule xdropRule xtoday)), ((xa 1), .inl (E 0, 16, .inl xf1)), ((xa 3), .inl (E 3, 16, .inr (.inr (.inr (.inr xf3))))), (wh, .inr (7, G7 wa))]) [0, 1, 2, 6] rfl) hK rfl rfl 0 rfl)) ?_
  refine lv_astore (lv' := [(4, .ref wh), (0, .ref xh), (1, .ref yh), (2, .int p1), (3, .int p2)]) hx hb dX8_unload_27 hl (by decide) rfl (fun ls hl => ?_)
  refine lv_aload hx hb dX8_unload_29 (lv_at hl 0 rfl) ?_
  refine lv_ifnull hx hb dX8_unload_31 ?_
  refine lv_aload hx hb dX8_unload_34 (lv_at hl 0 rfl) ?_
  refine lv_aload_n hx hb dX8_unload_36 rfl (lv_at hl 1 rfl) ?_
  refine va_get (D := D) (ci := 8) (v := .int xtoday) (C := RX8) (T := TX8) (N := 14) hx hb htb iX8 hown hK.1 hP 0 rfl rfl 13 (by decide) (htb _ k_285) (fun _ h9 => h9) rfl dX8_unload_37 ?_
  refine lv_iload_n hx hb dX8_unload_40 rfl (lv_at hl 4 rfl) ?_
  refine lv_iconst (v := 0) hx hb dX8_unload_41 (by decide) ?_
  have hPc := hP.sub (ws' := [(wh, .inr (7, G7 wa)), ((wa 0), .inl (E 0, 400, .inl wf0)), ((wa 1), .inl (E 0, 400, .inl wf1))]) [6, 7, 8] rfl
  have hDc := hD.sub (ws' := [(wh, .inr (7, G7 wa)), ((wa 0), .inl (E 0, 400, .inl wf0)), ((wa 1), .inl (E 0, 400, .inl wf1))]) [6, 7, 8] (by decide) rfl
  refine aft_v (runMV (rest := []) (As := [.int xtoday, .int p2, .int 0]) hx hb hml hown htb hK (g_X7_tell l D E wh wa wf0 wf1 xtoday p2 0 _ ) ok_X7_tell k_404 k_405 k_406 k_10 k_407 ⟨(Nat.le_of_ble_eq_true rfl), (Nat.le_of_ble_eq_true rfl)⟩ ⟨(Nat.le_of_ble_eq_true rfl), (Nat.le_of_ble_eq_true rfl)⟩ hl.1 (Nat.le_of_ble_eq_true rfl) rfl rfl dX8_unload_42 hPc hDc rfl rfl 0 rfl) hP hD hS hA [6, 7, 8] [0, 1, 2, 3, 4, 5, 9] (wr := [(xh, .inr (8, G8 xa xtrialRule xdropRule xtoday)), ((xa 1), .inl (E 0, 16, .inl xf1)), ((xa 3), .inl (E 3, 16, .inr (.inr (.inr (.inr xf3))))), (yh, .inr (5, G5 ya ysights ystage ysailed yvoyage)), ((ya 0), .inl (E 0, 3, .inl yf0)), ((ya 4), .inl (E 0, 3, .inl (upd yf4 (p1 : Int32).toNatClampNeg p2))), ((wa 3), .inl (E 0, 400, .inl wf3))]) rfl rfl (by decide) (by decide) (fun u_9 H locs hw_8 hP hD hS => ?_)
  clear hPc hDc
  obtain ⟨w_10, w_11⟩ := u_9
  try dsimp only at hw_8
  have hP : va_P D vwCl [(xh, .inr (8, G8 xa xtrialRule xdropRule xtoday)), ((xa 1), .inl (E 0, 16, .inl xf1)), ((xa 3), .inl (E 3, 16, .inr (.inr (.inr (.inr xf3))))), (yh, .inr (5, G5 ya ysights ystage ysailed yvoyage)), ((ya 0), .inl (E 0, 3, .inl yf0)), ((ya 4), .inl (E 0, 3, .inl (upd yf4 (p1 : Int32).toNatClampNeg p2))), ((wa 3), .inl (E 0, 400, .inl wf3)), (wh, .inr (7, G7 wa)), ((wa 0), .inl (E 0, 400, .inl w_10)), ((wa 1), .inl (E 0, 400, .inl w_11))] H := hP
  have hD := toW hP hD rfl
  try simp only [t_0] at hw_8
  have hw_8A : w_10 = upd wf0 (xtoday).toNatClampNeg p2 := by rcases hw_8 with h9 | h9 <;> first | exact h9.2.1 | (exfalso; omega)
  have hw_8B : w_11 = upd wf1 (xtoday).toNatClampNeg (0 : Int32) := by rcases hw_8 with h9 | h9 <;> first | exact h9.2.2 | (exfalso; omega)
  refine lv_aload hx hb dX8_unload_45 (lv_at hl 0 rfl) ?_
  refine lv_iconst (v := (-1)) hx hb dX8_unload_47 (by decide) ?_
  refine lv_aload_n hx hb dX8_unload_48 rfl (lv_at hl 1 rfl) ?_
  refine va_get (D := D) (ci := 8) (v := .int xtoday) (C := RX8) (T := TX8) (N := 14) hx hb htb iX8 hown hK.1 hP 0 rfl rfl 13 (by decide) (htb _ k_285) (fun _ h9 => h9) rfl dX8_unload_49 ?_
  have hPc := hP.sub (ws' := [(wh, .inr (7, G7 wa)), ((wa 3), .inl (E 0, 400, .inl wf3))]) [7, 6] rfl
  have hDc := hD.sub (ws' := [(wh, .inr (7, G7 wa)), ((wa 3), .inl (E 0, 400, .inl wf3))]) [7, 6] (by decide) rfl
  refine aft_v (runMV (rest := []) (As := [.int (-1), .int xtoday]) hx hb hml hown htb hK (g_X7_giveTo l D E wh wa wf3 (-1) xtoday _ (by have h0 := t_m1; (try dsimp only); omega)) ok_X7_giveTo k_803 k_804 k_805 k_10 k_806 ⟨(Nat.le_of_ble_eq_true rfl), (Nat.le_of_ble_eq_true rfl)⟩ ⟨(Nat.le_of_ble_eq_true rfl), (Nat.le_of_ble_eq_true rfl)⟩ hl.1 (Nat.le_of_ble_eq_true rfl) rfl rfl dX8_unload_52 hPc hDc rfl rfl 0 rfl) hP hD hS hA [7, 6] [0, 1, 2, 3, 4, 5, 8, 9] (wr := [(xh, .inr (8, G8 xa xtrialRule xdropRule xtoday)), ((xa 1), .inl (E 0, 16, .inl xf1)), ((xa 3), .inl (E 3, 16, .inr (.inr (.inr (.inr xf3))))), (yh, .inr (5, G5 ya ysights ystage ysailed yvoyage)), ((ya 0), .inl (E 0, 3, .inl yf0)), ((ya 4), .inl (E 0, 3, .inl (upd yf4 (p1 : Int32).toNatClampNeg p2))), ((wa 0), .inl (E 0, 400, .inl w_10)), ((wa 1), .inl (E 0, 400, .inl w_11))]) rfl rfl (by decide) (by decide) (fun u_14 H locs hw_13 hP hD hS => ?_)
  clear hPc hDc
  have hP : va_P D vwCl [(xh, .inr (8, G8 xa xtrialRule xdropRule xtoday)), ((xa 1), .inl (E 0, 16, .inl xf1)), ((xa 3), .inl (E 3, 16, .inr (.inr (.inr (.inr xf3))))), (yh, .inr (5, G5 ya ysights ystage ysailed yvoyage)), ((ya 0), .inl (E 0, 3, .inl yf0)), ((ya 4), .inl (E 0, 3, .inl (upd yf4 (p1 : Int32).toNatClampNeg p2))), ((wa 0), .inl (E 0, 400, .inl w_10)), ((wa 1), .inl (E 0, 400, .inl w_11)), (wh, .inr (7, G7 wa)), ((wa 3), .inl (E 0, 400, .inl u_14))] H := hP
  have hD := toW hP hD rfl
  try simp only [t_m1] at hw_13
  have hP9 := hP.sub (ws' := [(xh, .inr (8, G8 xa xtrialRule xdropRule xtoday)), ((xa 1), .inl (E 0, 16, .inl xf1)), ((xa 3), .inl (E 3, 16, .inr (.inr (.inr (.inr xf3))))), (yh, .inr (5, G5 ya ysights ystage ysailed yvoyage)), ((ya 0), .inl (E 0, 3, .inl yf0)), ((ya 4), .inl (E 0, 3, .inl (upd yf4 (p1 : Int32).toNatClampNeg p2))), (wh, .inr (7, G7 wa)), ((wa 0), .inl (E 0, 400, .inl w_10)), ((wa 1), .inl (E 0, 400, .inl w_11)), ((wa 3), .inl (E 0, 400, .inl u_14))]) [0, 1, 2, 3, 4, 5, 8, 6, 7, 9] rfl
  have hD9 := hD.sub (ws' := [(xh, .inr (8, G8 xa xtrialRule xdropRule xtoday)), ((xa 1), .inl (E 0, 16, .inl xf1)), ((xa 3), .inl (E 3, 16, .inr (.inr (.inr (.inr xf3))))), (yh, .inr (5, G5 ya ysights ystage ysailed yvoyage)), ((ya 0), .inl (E 0, 3, .inl yf0)), ((ya 4), .inl (E 0, 3, .inl (upd yf4 (p1 : Int32).toNatClampNeg p2))), (wh, .inr (7, G7 wa)), ((wa 0), .inl (E 0, 400, .inl w_10)), ((wa 1), .inl (E 0, 400, .inl w_11)), ((wa 3), .inl (E 0, 400, .inl u_14))]) [0, 1, 2, 3, 4, 5, 8, 6, 7, 9] (by decide) rfl
  exact W.vret hx hb hr (fun t ht hW => ⟨⟨(w_10, w_11, u_14, (upd yf4 (p1 : Int32).toNatClampNeg p2)), rfl, ⟨(by exact ⟨by assumption, by assumption, by assumption⟩), rfl⟩, by rw [ht]; exact hP9, hD9⟩, hS.F ht⟩) hS.2.2 dX8_unload_55
