set_option maxHeartbeats 4000000 in
set_option maxRecDepth 100000 in
theorem g_X8_bringWatch_W (l : Launch) (D : va_G) (E : Nat → Nat) (xh : Nat) (xa : Nat → Nat) (xtrialRule : Nat) (xdropRule : Nat) (xtoday : Int32) (xf3 : Nat → Option Nat) (wh : Nat) (wa : Nat → Nat) (wf0 : Nat → Int32) (wf1 : Nat → Int32) (wf2 : Nat → Int32) (wf3 : Nat → Int32) (p0 : Int32) (sz : Nat) (hi_x : (0 ≤ xtoday.toInt ∧ xtoday.toInt ≤ 399)) (hp0 : 0 ≤ p0.toInt ∧ p0.toInt ≤ 15) (hw0 : xf3 (p0).toNatClampNeg = some wh) : Met l yX8_bringWatch (wl yX8_bringWatch cX8_bringWatch 2 none) (RM 1 0 0) (mu_P D E [.ref xh, .int p0] [(xh, .inr (8, G8 xa xtrialRule xdropRule xtoday)), ((xa 3), .inl (E 3, 16, .inr (.inr (.inr (.inr xf3))))), (wh, .inr (7, G7 wa)), ((wa 0), .inl (E 0, 400, .inl wf0)), ((wa 1), .inl (E 0, 400, .inl wf1)), ((wa 2), .inl (E 0, 400, .inl wf2)), ((wa 3), .inl (E 0, 400, .inl wf3))] sz) (va_Qv (fun (u : (Nat → Int32) × (Nat → Int32) × (Nat → Int32) × (Nat → Int32)) => (NEW4 u.1 u.2.1 u.2.2.1 u.2.2.2 400)) (mu_B D (va_A [(xh, .inr (8, G8 xa xtrialRule xdropRule xtoday)), ((xa 3), .inl (E 3, 16, .inr (.inr (.inr (.inr xf3))))), (wh, .inr (7, G7 wa)), ((wa 0), .inl (E 0, 400, .inl wf0)), ((wa 1), .inl (E 0, 400, .inl wf1)), ((wa 2), .inl (E 0, 400, .inl wf2)), ((wa 3), .inl (E 0, 400, .inl wf3))] sz) (fun (u : (Nat → Int32) × (Nat → Int32) × (Nat → Int32) × (Nat → Int32)) => [(xh, .inr (8, G8 xa xtrialRule xdropRule xtoday)), ((xa 3), .inl (E 3, 16, .inr (.inr (.inr (.inr xf3))))), (wh, .inr (7, G7 wa)), ((wa 0), .inl (E 0, 400, .inl u.1)), ((wa 1), .inl (E 0, 400, .inl u.2.1)), ((wa 2), .inl (E 0, 400, .inl u.2.2.1)), ((wa 3), .inl (E 0, 400, .inl u.2.2.2))])) (va_A [(xh, .inr (8, G8 xa xtrialRule xdropRule xtoday)), ((xa 3), .inl (E 3, 16, .inr (.inr (.inr (.inr xf3))))), (wh, .inr (7, G7 wa)), ((wa 0), .inl (E 0, 400, .inl wf0)), ((wa 1), .inl (E 0, 400, .inl wf1)), ((wa 2), .inl (E 0, 400, .inl wf2)), ((wa 3), .inl (E 0, 400, .inl wf3))] sz)) 0 0 (va_A [(xh, .inr (8, G8 xa xtrialRule xdropRule xtoday)), ((xa 3), .inl (E 3, 16, .inr (.inr (.inr (.inr xf3))))), (wh, .inr (7, G7 wa)), ((wa 0), .inl (E 0, 400, .inl wf0)), ((wa 1), .inl (E 0, 400, .inl wf1)), ((wa 2), .inl (E 0, 400, .inl wf2)), ((wa 3), .inl (E 0, 400, .inl wf3))] sz) := by
  refine Met.ofW (cc := cX8_bringWatch) (maxL := 2) (ret := none) (by decide) rfl ?_
  intro p e s m args below meth c s₁ B hml hv
  obtain ⟨rfl, hsz, hP, hK, hD0⟩ := hv
  have hx := B.exec; have hb := B.bytes; have hr := B.returns
  have hts := atoms_spec (ws := wl yX8_bringWatch cX8_bringWatch 2 none) B.pre
  have htb : ∀ w ∈ tb, w.before _ s = true := fun w h => hts w (List.mem_cons_of_mem _ h)
  have hown : s.vm.findClass RX8 = some m.cls := findClass_of_methodNamed B.named
  have hlocks := B.notSynchronized
  subst hsz
  have hD := hD0.self (sz := s.heap.size)
  generalize hAe : va_A [(xh, .inr (8, G8 xa xtrialRule xdropRule xtoday)), ((xa 3), .inl (E 3, 16, .inr (.inr (.inr (.inr xf3))))), (wh, .inr (7, G7 wa)), ((wa 0), .inl (E 0, 400, .inl wf0)), ((wa 1), .inl (E 0, 400, .inl wf1)), ((wa 2), .inl (E 0, 400, .inl wf2)), ((wa 3), .inl (E 0, 400, .inl wf3))] s.heap.size = A at hD ⊢
  have hA : ∀ q : Nat, s.heap.size ≤ q → A q := fun q h => by rw [← hAe]; exact Or.inr h
  have hS : va_S A s.heap s.heap [] := va_S.rf
  have hP : va_P D vwCl [(xh, .inr (8, G8 xa xtrialRule xdropRule xtoday)), ((xa 3), .inl (E 3, 16, .inr (.inr (.inr (.inr xf3))))), (wh, .inr (7, G7 wa)), ((wa 0), .inl (E 0, 400, .inl wf0)), ((wa 1), .inl (E 0, 400, .inl wf1)), ((wa 2), .inl (E 0, 400, .inl wf2)), ((wa 3), .inl (E 0, 400, .inl wf3))] s.heap := hP
  have hl := lv_entry ([.ref xh, .int p0]) (n := 2) (Nat.le_of_ble_eq_true rfl)
  rw [lg_entry_eq]
  generalize (lg_sl ([.ref xh, .int p0]) ++ List.replicate (2 - (lg_sl ([.ref xh, .int p0])).length) Slot.unset).toArray = ls at hl ⊢
  have hl : lv_has ls 2 [(0, .ref xh), (1, .int p0)] := hl
  have lo_p0 := i_lo p0; have hi_p0 := i_hi p0
  refine lv_iload_n hx hb dX8_bringWatch_0 rfl (lv_at hl 1 rfl) ?_
  refine callRS (rest := []) (As := [.int p0]) hx hb hml hown htb hK (g_X8_isPlace l D E p0 ) ok_X8_isPlace k_333 k_334 k_1 k_335 ⟨(Nat.le_of_ble_eq_true rfl), (Nat.le_of_ble_eq_true rfl)⟩ ⟨(Nat.le_of_ble_eq_true rfl), (Nat.le_of_ble_eq_true rfl)⟩ hl.1 (Nat.le_of_ble_eq_true rfl) rfl rfl dX8_bringWatch_1 (hP.sub (ws' := ([] : va_W)) [] rfl) (fun r_1 hw_2 => ?_)
  rcases hw_2 with ⟨hr_1, hw_2⟩ | ⟨hr_1, hw_2⟩
  ·
    refine W_top (y := .int 1) (by rw [hr_1]) ?_
    refine lv_if_ne (tgt := 8) hx hb dX8_bringWatch_4 (by decide) (fun c_4 => ?_) (fun c_4 => absurd c_4 (by decide))
    refine lv_aload_n hx hb dX8_bringWatch_8 rfl (lv_at hl 0 rfl) ?_
    refine va_get (D := D) (ci := 8) (v := .ref (xa 3)) (C := RX8) (T := TX8) (N := 14) hx hb htb iX8 hown hK.1 hP 0 rfl rfl 3 (by decide) (htb _ k_275) (fun _ h9 => h9) rfl dX8_bringWatch_9 ?_
    refine lv_iload_n hx hb dX8_bringWatch_12 rfl (lv_at hl 1 rfl) ?_
    refine va_aldq hx hb hK.1 hP 1 3 rfl rfl (g_in rfl (by omega) (by omega)) dX8_bringWatch_13 ?_
    refine W_top (y := .ref wh) (congrArg va_rf hw0) ?_
    refine lv_ifnonnull (tgt := 30) hx hb dX8_bringWatch_14 (by decide) ?_
    refine lv_aload_n hx hb dX8_bringWatch_30 rfl (lv_at hl 0 rfl) ?_
    refine va_get (D := D) (ci := 8) (v := .ref (xa 3)) (C := RX8) (T := TX8) (N := 14) hx hb htb iX8 hown hK.1 hP 0 rfl rfl 3 (by decide) (htb _ k_275) (fun _ h9 => h9) rfl dX8_bringWatch_31 ?_
    refine lv_iload_n hx hb dX8_bringWatch_34 rfl (lv_at hl 1 rfl) ?_
    refine va_aldq hx hb hK.1 hP 1 3 rfl rfl (g_in rfl (by omega) (by omega)) dX8_bringWatch_35 ?_
    refine W_top (y := .ref wh) (congrArg va_rf hw0) ?_
    have hPc := hP.sub (ws' := [(wh, .inr (7, G7 wa)), ((wa 0), .inl (E 0, 400, .inl wf0)), ((wa 1), .inl (E 0, 400, .inl wf1)), ((wa 2), .inl (E 0, 400, .inl wf2)), ((wa 3), .inl (E 0, 400, .inl wf3))]) [2, 3, 4, 5, 6] rfl
    have hDc := hD.sub (ws' := [(wh, .inr (7, G7 wa)), ((wa 0), .inl (E 0, 400, .inl wf0)), ((wa 1), .inl (E 0, 400, .inl wf1)), ((wa 2), .inl (E 0, 400, .inl wf2)), ((wa 3), .inl (E 0, 400, .inl wf3))]) [2, 3, 4, 5, 6] (by decide) rfl
    refine aft_v (runMV (rest := []) (As := []) hx hb hml hown htb hK (g_X7_becomeNew l D E wh wa wf0 wf1 wf2 wf3 _ ) ok_X7_becomeNew k_361 k_362 k_363 k_10 k_364 ⟨(Nat.le_of_ble_eq_true rfl), (Nat.le_of_ble_eq_true rfl)⟩ ⟨(Nat.le_of_ble_eq_true rfl), (Nat.le_of_ble_eq_true rfl)⟩ hl.1 (Nat.le_of_ble_eq_true rfl) rfl rfl dX8_bringWatch_36 hPc hDc rfl rfl 0 rfl) hP hD hS hA [2, 3, 4, 5, 6] [0, 1] (wr := [(xh, .inr (8, G8 xa xtrialRule xdropRule xtoday)), ((xa 3), .inl (E 3, 16, .inr (.inr (.inr (.inr xf3)))))]) rfl rfl (by decide) (by decide) (fun u_7 H locs hw_6 hP hD hS => ?_)
    clear hPc hDc
    obtain ⟨w_8, w_9, w_10, w_11⟩ := u_7
    try dsimp only at hw_6
    have hP : va_P D vwCl [(xh, .inr (8, G8 xa xtrialRule xdropRule xtoday)), ((xa 3), .inl (E 3, 16, .inr (.inr (.inr (.inr xf3))))), (wh, .inr (7, G7 wa)), ((wa 0), .inl (E 0, 400, .inl w_8)), ((wa 1), .inl (E 0, 400, .inl w_9)), ((wa 2), .inl (E 0, 400, .inl w_10)), ((wa 3), .inl (E 0, 400, .inl w_11))] H := hP
    have hD := toW hP hD rfl
    have hP9 := hP.sub (ws' := [(xh, .inr (8, G8 xa xtrialRule xdropRule xtoday)), ((xa 3), .inl (E 3, 16, .inr (.inr (.inr (.inr xf3))))), (wh, .inr (7, G7 wa)), ((wa 0), .inl (E 0, 400, .inl w_8)), ((wa 1), .inl (E 0, 400, .inl w_9)), ((wa 2), .inl (E 0, 400, .inl w_10)), ((wa 3), .inl (E 0, 400, .inl w_11))]) [0, 1, 2, 3, 4, 5, 6] rfl
    have hD9 := hD.sub (ws' := [(xh, .inr (8, G8 xa xtrialRule xdropRule xtoday)), ((xa 3), .inl (E 3, 16, .inr (.inr (.inr (.inr xf3))))), (wh, .inr (7, G7 wa)), ((wa 0), .inl (E 0, 400, .inl w_8)), ((wa 1), .inl (E 0, 400, .inl w_9)), ((wa 2), .inl (E 0, 400, .inl w_10)), ((wa 3), .inl (E 0, 400, .inl w_11))]) [0, 1, 2, 3, 4, 5, 6] (by decide) rfl
    exact W.vret hx hb hr (fun t ht hW => ⟨⟨(w_8, w_9, w_10, w_11), rfl, (by first | assumption | (exfalso; omega)), by rw [ht]; exact hP9, hD9⟩, hS.F ht⟩) hS.2.2 dX8_bringWatch_39
  ·
    refine W_top (y := .int 0) (by rw [hr_1]) ?_
    refine lv_if_ne (tgt := 8) hx hb dX8_bringWatch_4 (by decide) (fun c_12 => absurd (by decide) c_12) (fun c_12 => ?_)
    have hP9 := hP.sub (ws' := [(xh, .inr (8, G8 xa xtrialRule xdropRule xtoday)), ((xa 3), .inl (E 3, 16, .inr (.inr (.inr (.inr xf3))))), (wh, .inr (7, G7 wa)), ((wa 0), .inl (E 0, 400, .inl wf0)), ((wa 1), .inl (E 0, 400, .inl wf1)), ((wa 2), .inl (E 0, 400, .inl wf2)), ((wa 3), .inl (E 0, 400, .inl wf3))]) [0, 1, 2, 3, 4, 5, 6] rfl
    have hD9 := hD.sub (ws' := [(xh, .inr (8, G8 xa xtrialRule xdropRule xtoday)), ((xa 3), .inl (E 3, 16, .inr (.inr (.inr (.inr xf3))))), (wh, .inr (7, G7 wa)), ((wa 0), .inl (E 0, 400, .inl wf0)), ((wa 1), .inl (E 0, 400, .inl wf1)), ((wa 2), .inl (E 0, 400, .inl wf2)), ((wa 3), .inl (E 0, 400, .inl wf3))]) [0, 1, 2, 3, 4, 5, 6] (by decide) rfl
    exact W.vret hx hb hr (fun t ht hW => ⟨⟨(wf0, wf1, wf2, wf3), rfl, (by first | assumption | (exfalso; omega)), by rw [ht]; exact hP9, hD9⟩, hS.F ht⟩) hS.2.2 dX8_bringWatch_7
set_option maxHeartbeats 4000000 in
set_option maxRecDepth 100000 in
theorem g_X8_bringWatch_M (l : Launch) (D : va_G) (E : Nat → Nat) (xh : Nat) (xa : Nat → Nat) (xtrialRule : Nat) (xdropRule : Nat) (xtoday : Int32) (xf3 : Nat → Option Nat) (p0 : Int32) (sz : Nat) (hi_x : (0 ≤ xtoday.toInt ∧ xtoday.toInt ≤ 399)) (hp0 : 0 ≤ p0.toInt ∧ p0.toInt ≤ 15) (hw0 : xf3 (p0).toNatClampNeg = none) : Met l yX8_bringWatch (wl yX8_bringWatch cX8_bringWatch 2 none) (RM 2 5 1604) (mu_P D E [.ref xh, .int p0] [(xh, .inr (8, G8 xa xtrialRule xdropRule xtoday)), ((xa 3), .inl (E 3, 16, .inr (.inr (.inr (.inr xf3)))))] sz) (va_Qv (fun (u : (Nat → Option Nat) × (Nat) × (Nat → Nat) × (Nat → Int32) × (Nat → Int32) × (Nat → Int32) × (Nat → Int32)) => (NEW4 u.2.2.2.1 u.2.2.2.2.1 u.2.2.2.2.2.1 u.2.2.2.2.2.2 400) ∧ (u.1 = va_up xf3 (p0).toNatClampNeg (some u.2.1))) (mu_B D (va_A [(xh, .inr (8, G8 xa xtrialRule xdropRule xtoday)), ((xa 3), .inl (E 3, 16, .inr (.inr (.inr (.inr xf3)))))] sz) (fun (u : (Nat → Option Nat) × (Nat) × (Nat → Nat) × (Nat → Int32) × (Nat → Int32) × (Nat → Int32) × (Nat → Int32)) => [(xh, .inr (8, G8 xa xtrialRule xdropRule xtoday)), ((xa 3), .inl (E 3, 16, .inr (.inr (.inr (.inr u.1))))), (u.2.1, .inr (7, G7 u.2.2.1)), ((u.2.2.1 0), .inl (E 0, 400, .inl u.2.2.2.1)), ((u.2.2.1 1), .inl (E 0, 400, .inl u.2.2.2.2.1)), ((u.2.2.1 2), .inl (E 0, 400, .inl u.2.2.2.2.2.1)), ((u.2.2.1 3), .inl (E 0, 400, .inl u.2.2.2.2.2.2))])) (va_A [(xh, .inr (8, G8 xa xtrialRule xdropRule xtoday)), ((xa 3), .inl (E 3, 16, .inr (.inr (.inr (.inr xf3)))))] sz)) 5 1604 (va_A [(xh, .inr (8, G8 xa xtrialRule xdropRule xtoday)), ((xa 3), .inl (E 3, 16, .inr (.inr (.inr (.inr xf3)))))] sz) := by
  refine Met.ofW (cc := cX8_bringWatch) (maxL := 2) (ret := none) (by decide) rfl ?_
  intro p e s m args below meth c s₁ B hml hv
  obtain ⟨rfl, hsz, hP, hK, hD0⟩ := hv
  have hx := B.exec; have hb := B.bytes; have hr := B.returns
  have hts := atoms_spec (ws := wl yX8_bringWatch cX8_bringWatch 2 none) B.pre
  have htb : ∀ w ∈ tb, w.before _ s = true := fun w h => hts w (List.mem_cons_of_mem _ h)
  have hown : s.vm.findClass RX8 = some m.cls := findClass_of_methodNamed B.named
  have hlocks := B.notSynchronized
  subst hsz
  have hD := hD0.self (sz := s.heap.size)
  generalize hAe : va_A [(xh, .inr (8, G8 xa xtrialRule xdropRule xtoday)), ((xa 3), .inl (E 3, 16, .inr (.inr (.inr (.inr xf3)))))] s.heap.size = A at hD ⊢
  have hA : ∀ q : Nat, s.heap.size ≤ q → A q := fun q h => by rw [← hAe]; exact Or.inr h
  have hS : va_S A s.heap s.heap [] := va_S.rf
  have hP : va_P D vwCl [(xh, .inr (8, G8 xa xtrialRule xdropRule xtoday)), ((xa 3), .inl (E 3, 16, .inr (.inr (.inr (.inr xf3)))))] s.heap := hP
  have hl := lv_entry ([.ref xh, .int p0]) (n := 2) (Nat.le_of_ble_eq_true rfl)
  rw [lg_entry_eq]
  generalize (lg_sl ([.ref xh, .int p0]) ++ List.replicate (2 - (lg_sl ([.ref xh, .int p0])).length) Slot.unset).toArray = ls at hl ⊢
  have hl : lv_has ls 2 [(0, .ref xh), (1, .int p0)] := hl
  have lo_p0 := i_lo p0; have hi_p0 := i_hi p0
  refine lv_iload_n hx hb dX8_bringWatch_0 rfl (lv_at hl 1 rfl) ?_
  refine callRS (rest := []) (As := [.int p0]) hx hb hml hown htb hK (g_X8_isPlace l D E p0 ) ok_X8_isPlace k_333 k_334 k_1 k_335 ⟨(Nat.le_of_ble_eq_true rfl), (Nat.le_of_ble_eq_true rfl)⟩ ⟨(Nat.le_of_ble_eq_true rfl), (Nat.le_of_ble_eq_true rfl)⟩ hl.1 (Nat.le_of_ble_eq_true rfl) rfl rfl dX8_bringWatch_1 (hP.sub (ws' := ([] : va_W)) [] rfl) (fun r_1 hw_2 => ?_)
  rcases hw_2 with ⟨hr_1, hw_2⟩ | ⟨hr_1, hw_2⟩
  ·
    refine W_top (y := .int 1) (by rw [hr_1]) ?_
    refine lv_if_ne (tgt := 8) hx hb dX8_bringWatch_4 (by decide) (fun c_4 => ?_) (fun c_4 => absurd c_4 (by decide))
    refine lv_aload_n hx hb dX8_bringWatch_8 rfl (lv_at hl 0 rfl) ?_
    refine va_get (D := D) (ci := 8) (v := .ref (xa 3)) (C := RX8) (T := TX8) (N := 14) hx hb htb iX8 hown hK.1 hP 0 rfl rfl 3 (by decide) (htb _ k_275) (fun _ h9 => h9) rfl dX8_bringWatch_9 ?_
    refine lv_iload_n hx hb dX8_bringWatch_12 rfl (lv_at hl 1 rfl) ?_
    refine va_aldq hx hb hK.1 hP 1 3 rfl rfl (g_in rfl (by omega) (by omega)) dX8_bringWatch_13 ?_
    refine W_top (y := .null) (congrArg va_rf hw0) ?_
    refine lv_ifnonnullN hx hb dX8_bringWatch_14 ?_
    refine lv_aload_n hx hb dX8_bringWatch_17 rfl (lv_at hl 0 rfl) ?_
    refine va_get (D := D) (ci := 8) (v := .ref (xa 3)) (C := RX8) (T := TX8) (N := 14) hx hb htb iX8 hown hK.1 hP 0 rfl rfl 3 (by decide) (htb _ k_275) (fun _ h9 => h9) rfl dX8_bringWatch_18 ?_
    refine lv_iload_n hx hb dX8_bringWatch_21 rfl (lv_at hl 1 rfl) ?_
    refine va_new (ci := 7) (fs := [.null, .null, .null, .null]) (C := RX7) (T := TX7) (N := 4) hx hb htb iX7 tyX7 tyX7_ok hown (htb _ k_24) (htb _ k_343) (htb _ k_10) hK.1 hP hD hS hA rfl (by decide) (Nat.le_of_ble_eq_true rfl) (Nat.le_of_ble_eq_true rfl) dX8_bringWatch_22 (fun q_5 H hP hD hS => ?_)
    have hP : va_P D vwCl [(xh, .inr (8, G8 xa xtrialRule xdropRule xtoday)), ((xa 3), .inl (E 3, 16, .inr (.inr (.inr (.inr xf3))))), (q_5, .inr (7, [.null, .null, .null, .null]))] H := hP
    have hD := toW hP hD rfl
    refine W.widen (k := 1) (n := 4) (Nat.le_of_ble_eq_true rfl) (Nat.le_of_ble_eq_true rfl) ?_
    refine lv_dup hx hb dX8_bringWatch_25 rfl ?_
    have hPc := hP.sub (ws' := [(q_5, .inr (7, [.null, .null, .null, .null]))]) [2] rfl
    have hDc := hD.sub (ws' := [(q_5, .inr (7, [.null, .null, .null, .null]))]) [2] (by decide) rfl
    refine aft_v (runMN (rest := [.ref q_5, .int p0, .ref (xa 3)]) (As := []) hx hb hml hown htb hK (c_X7_init l D E q_5 _ ) ok_X7_init rfl (show Cond.methodLinkNest RX8 301 yX7_init RX8 ∈ nestW by decide +kernel) k_345 k_10 k_346 ⟨(Nat.le_of_ble_eq_true rfl), (Nat.le_of_ble_eq_true rfl)⟩ ⟨(Nat.le_of_ble_eq_true rfl), (Nat.le_of_ble_eq_true rfl)⟩ hl.1 (Nat.le_of_ble_eq_true rfl) rfl rfl dX8_bringWatch_26 hPc hDc) hP hD hS hA [2] [0, 1] (wr := [(xh, .inr (8, G8 xa xtrialRule xdropRule xtoday)), ((xa 3), .inl (E 3, 16, .inr (.inr (.inr (.inr xf3)))))]) rfl rfl (by decide) (by decide) (fun u_6 H locs hw_7 hP hD hS => ?_)
    clear hPc hDc
    have hP : va_P D vwCl [(xh, .inr (8, G8 xa xtrialRule xdropRule xtoday)), ((xa 3), .inl (E 3, 16, .inr (.inr (.inr (.inr xf3))))), (q_5, .inr (7, G7 u_6)), ((u_6 0), .inl (E 0, 400, .inl (fun _ => 0))), ((u_6 1), .inl (E 0, 400, .inl (fun _ => 0))), ((u_6 2), .inl (E 0, 400, .inl (fun _ => 0))), ((u_6 3), .inl (E 0, 400, .inl (fun _ => 0)))] H := hP
    have hD := toW hP hD rfl
    refine W.widen (k := 5) (n := 1604) (Nat.le_of_ble_eq_true rfl) (Nat.le_of_ble_eq_true rfl) ?_
    refine va_astq hx hb hK.1 hP hD hS 1 3 2 7 rfl rfl rfl rfl (g_in rfl (by omega) (by omega)) dX8_bringWatch_29 (fun H locs hP hD hS => ?_)
    have hP : va_P D vwCl [(xh, .inr (8, G8 xa xtrialRule xdropRule xtoday)), ((xa 3), .inl (E 3, 16, .inr (.inr (.inr (.inr (va_up xf3 (p0 : Int32).toNatClampNeg (some q_5))))))), (q_5, .inr (7, G7 u_6)), ((u_6 0), .inl (E 0, 400, .inl (fun _ => 0))), ((u_6 1), .inl (E 0, 400, .inl (fun _ => 0))), ((u_6 2), .inl (E 0, 400, .inl (fun _ => 0))), ((u_6 3), .inl (E 0, 400, .inl (fun _ => 0)))] H := hP
    have hD := toW hP hD rfl
    refine lv_aload_n hx hb dX8_bringWatch_30 rfl (lv_at hl 0 rfl) ?_
    refine va_get (D := D) (ci := 8) (v := .ref (xa 3)) (C := RX8) (T := TX8) (N := 14) hx hb htb iX8 hown hK.1 hP 0 rfl rfl 3 (by decide) (htb _ k_275) (fun _ h9 => h9) rfl dX8_bringWatch_31 ?_
    refine lv_iload_n hx hb dX8_bringWatch_34 rfl (lv_at hl 1 rfl) ?_
    refine va_aldq hx hb hK.1 hP 1 3 rfl rfl (g_in rfl (by omega) (by omega)) dX8_bringWatch_35 ?_
    refine W_top (y := .ref q_5) (by simp [va_up, va_rf]) ?_
    have hPc := hP.sub (ws' := [(q_5, .inr (7, G7 u_6)), ((u_6 0), .inl (E 0, 400, .inl (fun _ => 0))), ((u_6 1), .inl (E 0, 400, .inl (fun _ => 0))), ((u_6 2), .inl (E 0, 400, .inl (fun _ => 0))), ((u_6 3), .inl (E 0, 400, .inl (fun _ => 0)))]) [2, 3, 4, 5, 6] rfl
    have hDc := hD.sub (ws' := [(q_5, .inr (7, G7 u_6)), ((u_6 0), .inl (E 0, 400, .inl (fun _ => 0))), ((u_6 1), .inl (E 0, 400, .inl (fun _ => 0))), ((u_6 2), .inl (E 0, 400, .inl (fun _ => 0))), ((u_6 3), .inl (E 0, 400, .inl (fun _ => 0)))]) [2, 3, 4, 5, 6] (by decide) rfl
    refine aft_v (runMV (rest := []) (As := []) hx hb hml hown htb hK (g_X7_becomeNew l D E q_5 u_6 (fun _ => 0) (fun _ => 0) (fun _ => 0) (fun _ => 0) _ ) ok_X7_becomeNew k_361 k_362 k_363 k_10 k_364 ⟨(Nat.le_of_ble_eq_true rfl), (Nat.le_of_ble_eq_true rfl)⟩ ⟨(Nat.le_of_ble_eq_true rfl), (Nat.le_of_ble_eq_true rfl)⟩ hl.1 (Nat.le_of_ble_eq_true rfl) rfl rfl dX8_bringWatch_36 hPc hDc rfl rfl 0 rfl) hP hD hS hA [2, 3, 4, 5, 6] [0, 1] (wr := [(xh, .inr (8, G8 xa xtrialRule xdropRule xtoday)), ((xa 3), .inl (E 3, 16, .inr (.inr (.inr (.inr (va_up xf3 (p0 : Int32).toNatClampNeg (some q_5)))))))]) rfl rfl (by decide) (by decide) (fun u_11 H locs hw_10 hP hD hS => ?_)
    clear hPc hDc
    obtain ⟨w_12, w_13, w_14, w_15⟩ := u_11
    try dsimp only at hw_10
    have hP : va_P D vwCl [(xh, .inr (8, G8 xa xtrialRule xdropRule xtoday)), ((xa 3), .inl (E 3, 16, .inr (.inr (.inr (.inr (va_up xf3 (p0 : Int32).toNatClampNeg (some q_5))))))), (q_5, .inr (7, G7 u_6)), ((u_6 0), .inl (E 0, 400, .inl w_12)), ((u_6 1), .inl (E 0, 400, .inl w_13)), ((u_6 2), .inl (E 0, 400, .inl w_14)), ((u_6 3), .inl (E 0, 400, .inl w_15))] H := hP
    have hD := toW hP hD rfl
    have hP9 := hP.sub (ws' := [(xh, .inr (8, G8 xa xtrialRule xdropRule xtoday)), ((xa 3), .inl (E 3, 16, .inr (.inr (.inr (.inr (va_up xf3 (p0 : Int32).toNatClampNeg (some q_5))))))), (q_5, .inr (7, G7 u_6)), ((u_6 0), .inl (E 0, 400, .inl w_12)), ((u_6 1), .inl (E 0, 400, .inl w_13)), ((u_6 2), .inl (E 0, 400, .inl w_14)), ((u_6 3), .inl (E 0, 400, .inl w_15))]) [0, 1, 2, 3, 4, 5, 6] rfl
    have hD9 := hD.sub (ws' := [(xh, .inr (8, G8 xa xtrialRule xdropRule xtoday)), ((xa 3), .inl (E 3, 16, .inr (.inr (.inr (.inr (va_up xf3 (p0 : Int32).toNatClampNeg (some q_5))))))), (q_5, .inr (7, G7 u_6)), ((u_6 0), .inl (E 0, 400, .inl w_12)), ((u_6 1), .inl (E 0, 400, .inl w_13)), ((u_6 2), .inl (E 0, 400, .inl w_14)), ((u_6 3), .inl (E 0, 400, .inl w_15))]) [0, 1, 2, 3, 4, 5, 6] (by decide) rfl
    exact W.vret hx hb hr (fun t ht hW => ⟨⟨((va_up xf3 (p0 : Int32).toNatClampNeg (some q_5)), q_5, u_6, w_12, w_13, w_14, w_15), rfl, ⟨(by first | assumption | (exfalso; omega)), rfl⟩, by rw [ht]; exact hP9, hD9⟩, hS.F ht⟩) hS.2.2 dX8_bringWatch_39
  ·
    refine W_top (y := .int 0) (by rw [hr_1]) ?_
    refine lv_if_ne (tgt := 8) hx hb dX8_bringWatch_4 (by decide) (fun c_16 => absurd (by decide) c_16) (fun c_16 => ?_)
    exfalso; omega
