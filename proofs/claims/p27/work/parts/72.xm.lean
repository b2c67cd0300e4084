set_option maxHeartbeats 4000000 in
set_option maxRecDepth 100000 in
theorem g_X8_rule (l : Launch) (D : va_G) (E : Nat → Nat) (xh : Nat) (xa : Nat → Nat) (xtrialRule : Nat) (xdropRule : Nat) (xtoday : Int32) (ta : Nat → Nat) (tsize : Int32) (trule : Nat) (twords : Nat) (tat : Int32) (tword : Int32) (twordAt : Int32) (tvalue : Int32) (tf0 : Nat → Int32) (u3a : Nat → Nat) (u3size : Int32) (u3f0 : Nat → Int32) (u3f1 : Nat → Int32) (p0 : Int32) (sz : Nat) (hi_x : (0 ≤ xtoday.toInt ∧ xtoday.toInt ≤ 399)) (hi_t : (0 ≤ tsize.toInt ∧ tsize.toInt ≤ 120)) (hi_u3 : (0 ≤ u3size.toInt ∧ u3size.toInt ≤ 120)) : Met l yX8_rule (wl yX8_rule cX8_rule 3 (some .int)) (RM 145 0 0) (muS_P D E [.ref xh, .int p0] [(xh, .inr (8, G8 xa xtrialRule xdropRule xtoday)), ((xa 9), .inr (6, G6 ta tsize trule twords tat tword twordAt tvalue)), ((ta 0), .inl (E 0, 120, .inl tf0)), (trule, .inr (4, G4 u3a u3size)), ((u3a 0), .inl (E 0, 120, .inl u3f0)), ((u3a 1), .inl (E 0, 120, .inl u3f1))] sz [((E 6), (E 8), 60, tw6), ((E 7), (E 9), 35, tw7)]) (va_Qi (fun (r : Int32) (u : (Int32) × (Nat) × (Int32) × (Int32) × (Int32) × (Int32) × (Nat) × (Nat → Int32) × (Nat → Int32) × (Int32) × (Nat) × (Nat)) => (0 ≤ u.2.2.1.toInt ∧ u.2.2.1.toInt ≤ 120) ∧ (0 ≤ u.2.2.2.2.2.2.2.2.2.1.toInt ∧ u.2.2.2.2.2.2.2.2.2.1.toInt ≤ 120) ∧ (((0 ≤ p0.toInt ∧ p0.toInt ≤ 1) ∧ u.2.2.1.toInt = 0 ∧ (u.2.2.2.2.2.2.2.2.2.2.2 = xtrialRule ∧ u.2.2.2.2.2.2.2.2.2.2.1 = xdropRule ∧ u.2.1 = trule) ∧ ((p0.toInt = 0 ∧ RAF 60 tw6 tf0 (tsize).toNatClampNeg r.toInt) ∨ (p0.toInt = 1 ∧ RAF 35 tw7 tf0 (tsize).toNatClampNeg r.toInt))) ∨ (p0.toInt = 0 ∧ u.2.2.1.toInt = 0 ∧ (u.2.2.2.2.2.2.2.2.2.2.2 = trule ∧ u.2.2.2.2.2.2.2.2.2.2.1 = xdropRule ∧ u.2.1 = xtrialRule) ∧ r.toInt = 1 ∧ RAG 60 tw6 tf0 (tsize).toNatClampNeg (oC (20 * whN 60) u.2.2.2.2.2.2.2.1 u.2.2.2.2.2.2.2.2.1 (u.2.2.2.2.2.2.2.2.2.1).toNatClampNeg)) ∨ (p0.toInt = 1 ∧ u.2.2.1.toInt = 0 ∧ (u.2.2.2.2.2.2.2.2.2.2.2 = xtrialRule ∧ u.2.2.2.2.2.2.2.2.2.2.1 = trule ∧ u.2.1 = xdropRule) ∧ r.toInt = 1 ∧ RAG 35 tw7 tf0 (tsize).toNatClampNeg (oC (20 * whN 35) u.2.2.2.2.2.2.2.1 u.2.2.2.2.2.2.2.2.1 (u.2.2.2.2.2.2.2.2.2.1).toNatClampNeg)) ∨ (¬ (0 ≤ p0.toInt ∧ p0.toInt ≤ 1) ∧ u.2.2.1.toInt = tsize.toInt ∧ (u.2.2.2.2.2.2.2.2.2.2.2 = xtrialRule ∧ u.2.2.2.2.2.2.2.2.2.2.1 = xdropRule ∧ u.2.1 = trule) ∧ r.toInt = -1))) (mu_B D (va_A [(xh, .inr (8, G8 xa xtrialRule xdropRule xtoday)), ((xa 9), .inr (6, G6 ta tsize trule twords tat tword twordAt tvalue)), ((ta 0), .inl (E 0, 120, .inl tf0)), (trule, .inr (4, G4 u3a u3size)), ((u3a 0), .inl (E 0, 120, .inl u3f0)), ((u3a 1), .inl (E 0, 120, .inl u3f1))] sz) (fun (u : (Int32) × (Nat) × (Int32) × (Int32) × (Int32) × (Int32) × (Nat) × (Nat → Int32) × (Nat → Int32) × (Int32) × (Nat) × (Nat)) => [(xh, .inr (8, G8 xa u.2.2.2.2.2.2.2.2.2.2.2 u.2.2.2.2.2.2.2.2.2.2.1 xtoday)), ((xa 9), .inr (6, G6 ta u.2.2.1 u.2.1 u.2.2.2.2.2.2.1 u.1 u.2.2.2.2.1 u.2.2.2.2.2.1 u.2.2.2.1)), ((ta 0), .inl (E 0, 120, .inl tf0)), (trule, .inr (4, G4 u3a u.2.2.2.2.2.2.2.2.2.1)), ((u3a 0), .inl (E 0, 120, .inl u.2.2.2.2.2.2.2.1)), ((u3a 1), .inl (E 0, 120, .inl u.2.2.2.2.2.2.2.2.1))])) (va_A [(xh, .inr (8, G8 xa xtrialRule xdropRule xtoday)), ((xa 9), .inr (6, G6 ta tsize trule twords tat tword twordAt tvalue)), ((ta 0), .inl (E 0, 120, .inl tf0)), (trule, .inr (4, G4 u3a u3size)), ((u3a 0), .inl (E 0, 120, .inl u3f0)), ((u3a 1), .inl (E 0, 120, .inl u3f1))] sz)) 0 0 (va_A [(xh, .inr (8, G8 xa xtrialRule xdropRule xtoday)), ((xa 9), .inr (6, G6 ta tsize trule twords tat tword twordAt tvalue)), ((ta 0), .inl (E 0, 120, .inl tf0)), (trule, .inr (4, G4 u3a u3size)), ((u3a 0), .inl (E 0, 120, .inl u3f0)), ((u3a 1), .inl (E 0, 120, .inl u3f1))] sz) := by
  refine Met.ofW (cc := cX8_rule) (maxL := 3) (ret := (some .int)) (by decide) rfl ?_
  intro p e s m args below meth c s₁ B hml hv
  obtain ⟨rfl, hsz, hP, hK, hD0, hG⟩ := hv
  have hx := B.exec; have hb := B.bytes; have hr := B.returns
  have hts := atoms_spec (ws := wl yX8_rule cX8_rule 3 (some .int)) B.pre
  have htb : ∀ w ∈ tb, w.before _ s = true := fun w h => hts w (List.mem_cons_of_mem _ h)
  have hown : s.vm.findClass RX8 = some m.cls := findClass_of_methodNamed B.named
  have hlocks := B.notSynchronized
  subst hsz
  have hD := hD0.self (sz := s.heap.size)
  generalize hAe : va_A [(xh, .inr (8, G8 xa xtrialRule xdropRule xtoday)), ((xa 9), .inr (6, G6 ta tsize trule twords tat tword twordAt tvalue)), ((ta 0), .inl (E 0, 120, .inl tf0)), (trule, .inr (4, G4 u3a u3size)), ((u3a 0), .inl (E 0, 120, .inl u3f0)), ((u3a 1), .inl (E 0, 120, .inl u3f1))] s.heap.size = A at hD hG ⊢
  have hA : ∀ q : Nat, s.heap.size ≤ q → A q := fun q h => by rw [← hAe]; exact Or.inr h
  have hS : va_S A s.heap s.heap [] := va_S.rf
  have hP : va_P D vwCl [(xh, .inr (8, G8 xa xtrialRule xdropRule xtoday)), ((xa 9), .inr (6, G6 ta tsize trule twords tat tword twordAt tvalue)), ((ta 0), .inl (E 0, 120, .inl tf0)), (trule, .inr (4, G4 u3a u3size)), ((u3a 0), .inl (E 0, 120, .inl u3f0)), ((u3a 1), .inl (E 0, 120, .inl u3f1))] s.heap := hP
  have hl := lv_entry ([.ref xh, .int p0]) (n := 3) (Nat.le_of_ble_eq_true rfl)
  rw [lg_entry_eq]
  generalize (lg_sl ([.ref xh, .int p0]) ++ List.replicate (3 - (lg_sl ([.ref xh, .int p0])).length) Slot.unset).toArray = ls at hl ⊢
  have hl : lv_has ls 3 [(0, .ref xh), (1, .int p0)] := hl
  have lo_p0 := i_lo p0; have hi_p0 := i_hi p0
  refine lv_iload_n hx hb dX8_rule_0 rfl (lv_at hl 1 rfl) ?_
  refine lv_if_eq (tgt := 11) hx hb dX8_rule_1 (by decide) (fun c_1 => ?_) (fun c_1 => ?_)
  ·
    have ic_1 : p0.toInt = 0 := (g_eq rfl t_0).mp c_1
    clear c_1
    refine lv_aload_n hx hb dX8_rule_11 rfl (lv_at hl 0 rfl) ?_
    refine va_get (D := D) (ci := 8) (v := .ref (xa 9)) (C := RX8) (T := TX8) (N := 14) hx hb htb iX8 hown hK.1 hP 0 rfl rfl 9 (by decide) (htb _ k_281) (fun _ h9 => h9) rfl dX8_rule_12 ?_
    refine lv_iload_n hx hb dX8_rule_15 rfl (lv_at hl 1 rfl) ?_
    refine lv_if_ne (tgt := 24) hx hb dX8_rule_16 (by decide) (fun c_2 => absurd (by rw [g_eq rfl t_0]; omega) c_2) (fun c_2 => ?_)
    refine va_ldcS hx hb hown hK.2.2.2.2.1 dX8_rule_19 ?_
    refine lv_goto (tgt := 26) hx hb dX8_rule_21 (by decide) ?_
    have hPc := hP.sub (ws' := [((xa 9), .inr (6, G6 ta tsize trule twords tat tword twordAt tvalue)), ((ta 0), .inl (E 0, 120, .inl tf0)), (trule, .inr (4, G4 u3a u3size)), ((u3a 0), .inl (E 0, 120, .inl u3f0)), ((u3a 1), .inl (E 0, 120, .inl u3f1))]) [1, 2, 3, 4, 5] rfl
    have hDc := hD.sub (ws' := [((xa 9), .inr (6, G6 ta tsize trule twords tat tword twordAt tvalue)), ((ta 0), .inl (E 0, 120, .inl tf0)), (trule, .inr (4, G4 u3a u3size)), ((u3a 0), .inl (E 0, 120, .inl u3f0)), ((u3a 1), .inl (E 0, 120, .inl u3f1))]) [1, 2, 3, 4, 5] (by decide) rfl
    refine aft_i (runMG (rest := []) (As := [.ref (E 6)]) hx hb hml hown htb (g_X6_readAsRule l D E (xa 9) ta tsize trule twords tat tword twordAt tvalue tf0 u3a u3size u3f0 u3f1 (E 6) (E 8) 60 tw6 _ (by (try dsimp only); omega) (by (try dsimp only); omega) (by decide) (by decide)) ok_X6_readAsRule k_587 k_588 k_589 k_5 k_590 ⟨(Nat.le_of_ble_eq_true rfl), (Nat.le_of_ble_eq_true rfl)⟩ ⟨(Nat.le_of_ble_eq_true rfl), (Nat.le_of_ble_eq_true rfl)⟩ hl.1 (Nat.le_of_ble_eq_true rfl) rfl rfl dX8_rule_26 (pmVS hPc hDc hK rfl rfl 0 rfl (hG.one 0 rfl) hS (va_free hD hS hA [1, 2, 3, 4, 5] rfl))) hP hD hS hA [1, 2, 3, 4, 5] [0] (wr := [(xh, .inr (8, G8 xa xtrialRule xdropRule xtoday))]) rfl rfl (by decide) (by decide) (fun r_3 u_5 H locs hw_4 hP hD hS => ?_)
    clear hPc hDc
    obtain ⟨w_6, w_7, w_8, w_9, w_10, w_11, w_12, w_13⟩ := u_5
    try dsimp only at hw_4
    have hP : va_P D vwCl [(xh, .inr (8, G8 xa xtrialRule xdropRule xtoday)), ((xa 9), .inr (6, G6 ta tsize trule w_10 w_6 w_8 w_9 w_7)), ((ta 0), .inl (E 0, 120, .inl tf0)), (trule, .inr (4, G4 u3a w_13)), ((u3a 0), .inl (E 0, 120, .inl w_11)), ((u3a 1), .inl (E 0, 120, .inl w_12))] H := hP
    have hD := toW hP hD rfl
    obtain ⟨hw_4_0, hw_4_1⟩ := hw_4
    try simp only [t_60] at hw_4_0
    try simp only [t_60] at hw_4_1
    refine lv_istore_n (lv' := [(2, .int r_3), (0, .ref xh), (1, .int p0)]) hx hb dX8_rule_29 rfl hl (by decide) rfl (fun ls hl => ?_)
    refine lv_aload_n hx hb dX8_rule_30 rfl (lv_at hl 1 rfl) ?_
    refine va_get (D := D) (ci := 8) (v := .ref (xa 9)) (C := RX8) (T := TX8) (N := 14) hx hb htb iX8 hown hK.1 hP 0 rfl rfl 9 (by decide) (htb _ k_281) (fun _ h9 => h9) rfl dX8_rule_31 ?_
    refine lv_iconst (v := 0) hx hb dX8_rule_34 (by decide) ?_
    refine va_putN (D := D) (ci := 6) (v := .int 0) (ty := .int) (C := RX6) (T := TX6) (N := 8) hx hb htb iX6 tyX6 tyX6_ok nmX6 hown hK.1 hP hD hS 1 rfl rfl 1 (by decide) (va_Nw.use rfl (hK.2.1 (Cond.fieldLinkNest RX8 179 "SeaWatches$Tape" "size" "I" "SeaWatches") (by decide +kernel))) (fun _ h9 => h9) rfl (by decide +kernel) rfl rfl (Nat.le_of_ble_eq_true rfl) dX8_rule_35 (fun H locs hP hD hS => ?_)
    have hP : va_P D vwCl [(xh, .inr (8, G8 xa xtrialRule xdropRule xtoday)), ((xa 9), .inr (6, G6 ta 0 trule w_10 w_6 w_8 w_9 w_7)), ((ta 0), .inl (E 0, 120, .inl tf0)), (trule, .inr (4, G4 u3a w_13)), ((u3a 0), .inl (E 0, 120, .inl w_11)), ((u3a 1), .inl (E 0, 120, .inl w_12))] H := hP
    have hD := toW hP hD rfl
    refine lv_iload_n hx hb dX8_rule_38 rfl (lv_at hl 0 rfl) ?_
    refine lv_iconst (v := (-1)) hx hb dX8_rule_39 (by decide) ?_
    refine lv_icmp_eq (tgt := 48) hx hb dX8_rule_40 (by decide) (fun c_14 => ?_) (fun c_14 => ?_)
    ·
      have ic_14 : r_3.toInt = -1 := (g_eq rfl t_m1).mp c_14
      clear c_14
      refine lv_iload_n hx hb dX8_rule_48 rfl (lv_at hl 2 rfl) ?_
      refine lv_if_ne (tgt := 70) hx hb dX8_rule_49 (by decide) (fun c_15 => absurd (by rw [g_eq rfl t_0]; omega) c_15) (fun c_15 => ?_)
      refine lv_aload_n hx hb dX8_rule_52 rfl (lv_at hl 1 rfl) ?_
      refine lv_aload_n hx hb dX8_rule_53 rfl (lv_at hl 1 rfl) ?_
      refine va_get (D := D) (ci := 8) (v := .ref (xa 9)) (C := RX8) (T := TX8) (N := 14) hx hb htb iX8 hown hK.1 hP 0 rfl rfl 9 (by decide) (htb _ k_281) (fun _ h9 => h9) rfl dX8_rule_54 ?_
      refine lv_aload_n hx hb dX8_rule_57 rfl (lv_at hl 1 rfl) ?_
      refine va_get (D := D) (ci := 8) (v := .ref xtrialRule) (C := RX8) (T := TX8) (N := 14) hx hb htb iX8 hown hK.1 hP 0 rfl rfl 11 (by decide) (htb _ k_283) (fun _ h9 => h9) rfl dX8_rule_58 ?_
      have hPc := hP.sub (ws' := [((xa 9), .inr (6, G6 ta 0 trule w_10 w_6 w_8 w_9 w_7))]) [1] rfl
      have hDc := hD.sub (ws' := [((xa 9), .inr (6, G6 ta 0 trule w_10 w_6 w_8 w_9 w_7))]) [1] (by decide) rfl
      refine aft_r (runMV (rest := [.ref xh]) (As := [.ref xtrialRule]) hx hb hml hown htb hK (g_X6_exchangeRule l D E (xa 9) ta 0 trule w_10 w_6 w_8 w_9 w_7 xtrialRule _ (by have h0 := t_0; (try dsimp only); omega)) ok_X6_exchangeRule k_704 k_705 k_706 k_5 k_707 ⟨(Nat.le_of_ble_eq_true rfl), (Nat.le_of_ble_eq_true rfl)⟩ ⟨(Nat.le_of_ble_eq_true rfl), (Nat.le_of_ble_eq_true rfl)⟩ hl.1 (Nat.le_of_ble_eq_true rfl) rfl rfl dX8_rule_61 hPc hDc rfl rfl 0 rfl) hP hD hS hA [1] [0, 2, 3, 4, 5] (wr := [(xh, .inr (8, G8 xa xtrialRule xdropRule xtoday)), ((ta 0), .inl (E 0, 120, .inl tf0)), (trule, .inr (4, G4 u3a w_13)), ((u3a 0), .inl (E 0, 120, .inl w_11)), ((u3a 1), .inl (E 0, 120, .inl w_12))]) rfl rfl (by decide) (by decide) (fun u_18 H locs hw_17 hP hD hS => ?_)
      clear hPc hDc
      have hP : va_P D vwCl [(xh, .inr (8, G8 xa xtrialRule xdropRule xtoday)), ((ta 0), .inl (E 0, 120, .inl tf0)), (trule, .inr (4, G4 u3a w_13)), ((u3a 0), .inl (E 0, 120, .inl w_11)), ((u3a 1), .inl (E 0, 120, .inl w_12)), ((xa 9), .inr (6, G6 ta 0 u_18 w_10 w_6 w_8 w_9 w_7))] H := hP
      have hD := toW hP hD rfl
      try simp only [t_0] at hw_17
      refine va_put (D := D) (ci := 8) (v := .ref trule) (ty := .object "SeaWatches$Rule") (C := RX8) (T := TX8) (N := 14) hx hb htb iX8 tyX8 tyX8_ok nmX8 hown hK.1 hP hD hS 0 rfl rfl 11 (by decide) (htb _ k_283) (fun _ h9 => h9) rfl (by decide +kernel) rfl rfl (Nat.le_of_ble_eq_true rfl) dX8_rule_64 (fun H locs hP hD hS => ?_)
      have hP : va_P D vwCl [(xh, .inr (8, G8 xa trule xdropRule xtoday)), ((ta 0), .inl (E 0, 120, .inl tf0)), (trule, .inr (4, G4 u3a w_13)), ((u3a 0), .inl (E 0, 120, .inl w_11)), ((u3a 1), .inl (E 0, 120, .inl w_12)), ((xa 9), .inr (6, G6 ta 0 u_18 w_10 w_6 w_8 w_9 w_7))] H := hP
      have hD := toW hP hD rfl
      refine lv_goto (tgt := 85) hx hb dX8_rule_67 (by decide) ?_
      refine lv_iconst (v := 1) hx hb dX8_rule_85 (by decide) ?_
      have hP9 := hP.sub (ws' := [(xh, .inr (8, G8 xa trule xdropRule xtoday)), ((xa 9), .inr (6, G6 ta 0 u_18 w_10 w_6 w_8 w_9 w_7)), ((ta 0), .inl (E 0, 120, .inl tf0)), (trule, .inr (4, G4 u3a w_13)), ((u3a 0), .inl (E 0, 120, .inl w_11)), ((u3a 1), .inl (E 0, 120, .inl w_12))]) [0, 5, 1, 2, 3, 4] rfl
      have hD9 := hD.sub (ws' := [(xh, .inr (8, G8 xa trule xdropRule xtoday)), ((xa 9), .inr (6, G6 ta 0 u_18 w_10 w_6 w_8 w_9 w_7)), ((ta 0), .inl (E 0, 120, .inl tf0)), (trule, .inr (4, G4 u3a w_13)), ((u3a 0), .inl (E 0, 120, .inl w_11)), ((u3a 1), .inl (E 0, 120, .inl w_12))]) [0, 5, 1, 2, 3, 4] (by decide) rfl
      exact W.iret (v := 1) hx hb hr (fun t ht hW => ⟨⟨1, (w_6, u_18, (0 : Int32), w_7, w_8, w_9, w_10, w_11, w_12, w_13, xdropRule, trule), rfl, ⟨(by have h0 := t_0; (try dsimp only); omega), (by (try dsimp only); omega), (by have hl := t_1; have hl0 := t_0; (try dsimp only); first | exact Or.inr (Or.inl ⟨by omega, by omega, ⟨by first | rfl | assumption, by first | rfl | assumption, by first | rfl | assumption⟩, by omega, RAG_of (hw_4_1).2.2 (by omega)⟩) | exact Or.inr (Or.inr (Or.inl ⟨by omega, by omega, ⟨by first | rfl | assumption, by first | rfl | assumption, by first | rfl | assumption⟩, by omega, RAG_of (hw_4_1).2.2 (by omega)⟩)))⟩, by rw [ht]; exact hP9, hD9⟩, hS.F ht⟩) hS.2.2 dX8_rule_86
    ·
      have ic_14 : r_3.toInt ≠ -1 := mt (g_eq rfl t_m1).mpr c_14
      clear c_14
      refine lv_bipush (v := (-100)) hx hb dX8_rule_43 (by decide) ?_
      refine lv_iload_n hx hb dX8_rule_45 rfl (lv_at hl 0 rfl) ?_
      refine lv_isub hx hb dX8_rule_46 ?_
      refine lv_topi (fun z_19 ez_19 => ?_)
      have jz_19 : z_19.toInt = -100 - r_3.toInt := by rw [ez_19]; exact g_sub t_m100 rfl (by omega) (by omega)
      have hP9 := hP.sub (ws' := [(xh, .inr (8, G8 xa xtrialRule xdropRule xtoday)), ((xa 9), .inr (6, G6 ta 0 trule w_10 w_6 w_8 w_9 w_7)), ((ta 0), .inl (E 0, 120, .inl tf0)), (trule, .inr (4, G4 u3a w_13)), ((u3a 0), .inl (E 0, 120, .inl w_11)), ((u3a 1), .inl (E 0, 120, .inl w_12))]) [0, 1, 2, 3, 4, 5] rfl
      have hD9 := hD.sub (ws' := [(xh, .inr (8, G8 xa xtrialRule xdropRule xtoday)), ((xa 9), .inr (6, G6 ta 0 trule w_10 w_6 w_8 w_9 w_7)), ((ta 0), .inl (E 0, 120, .inl tf0)), (trule, .inr (4, G4 u3a w_13)), ((u3a 0), .inl (E 0, 120, .inl w_11)), ((u3a 1), .inl (E 0, 120, .inl w_12))]) [0, 1, 2, 3, 4, 5] (by decide) rfl
      exact W.iret (v := z_19) hx hb hr (fun t ht hW => ⟨⟨z_19, (w_6, trule, (0 : Int32), w_7, w_8, w_9, w_10, w_11, w_12, w_13, xdropRule, xtrialRule), rfl, ⟨(by have h0 := t_0; (try dsimp only); omega), (by (try dsimp only); omega), (by have hl0 := t_0; (try dsimp only); first | exact Or.inl ⟨by omega, by omega, ⟨by first | rfl | assumption, by first | rfl | assumption, by first | rfl | assumption⟩, Or.inl ⟨by omega, RAF_of (hw_4_1).2.2 (by omega) (by omega)⟩⟩ | exact Or.inl ⟨by omega, by omega, ⟨by first | rfl | assumption, by first | rfl | assumption, by first | rfl | assumption⟩, Or.inr ⟨by omega, RAF_of (hw_4_1).2.2 (by omega) (by omega)⟩⟩)⟩, by rw [ht]; exact hP9, hD9⟩, hS.F ht⟩) hS.2.2 dX8_rule_47
  ·
    have ic_1 : p0.toInt ≠ 0 := mt (g_eq rfl t_0).mpr c_1
    clear c_1
    refine lv_iload_n hx hb dX8_rule_4 rfl (lv_at hl 1 rfl) ?_
    refine lv_iconst (v := 1) hx hb dX8_rule_5 (by decide) ?_
    refine lv_icmp_eq (tgt := 11) hx hb dX8_rule_6 (by decide) (fun c_20 => ?_) (fun c_20 => ?_)
    ·
      have ic_20 : p0.toInt = 1 := (g_eq rfl t_1).mp c_20
      clear c_20
      refine lv_aload_n hx hb dX8_rule_11 rfl (lv_at hl 0 rfl) ?_
      refine va_get (D := D) (ci := 8) (v := .ref (xa 9)) (C := RX8) (T := TX8) (N := 14) hx hb htb iX8 hown hK.1 hP 0 rfl rfl 9 (by decide) (htb _ k_281) (fun _ h9 => h9) rfl dX8_rule_12 ?_
      refine lv_iload_n hx hb dX8_rule_15 rfl (lv_at hl 1 rfl) ?_
      refine lv_if_ne (tgt := 24) hx hb dX8_rule_16 (by decide) (fun c_21 => ?_) (fun c_21 => absurd c_21 (by rw [g_eq rfl t_0]; omega))
      refine va_ldcS hx hb hown hK.2.2.2.2.2 dX8_rule_24 ?_
      have hPc := hP.sub (ws' := [((xa 9), .inr (6, G6 ta tsize trule twords tat tword twordAt tvalue)), ((ta 0), .inl (E 0, 120, .inl tf0)), (trule, .inr (4, G4 u3a u3size)), ((u3a 0), .inl (E 0, 120, .inl u3f0)), ((u3a 1), .inl (E 0, 120, .inl u3f1))]) [1, 2, 3, 4, 5] rfl
      have hDc := hD.sub (ws' := [((xa 9), .inr (6, G6 ta tsize trule twords tat tword twordAt tvalue)), ((ta 0), .inl (E 0, 120, .inl tf0)), (trule, .inr (4, G4 u3a u3size)), ((u3a 0), .inl (E 0, 120, .inl u3f0)), ((u3a 1), .inl (E 0, 120, .inl u3f1))]) [1, 2, 3, 4, 5] (by decide) rfl
      refine aft_i (runMG (rest := []) (As := [.ref (E 7)]) hx hb hml hown htb (g_X6_readAsRule l D E (xa 9) ta tsize trule twords tat tword twordAt tvalue tf0 u3a u3size u3f0 u3f1 (E 7) (E 9) 35 tw7 _ (by (try dsimp only); omega) (by (try dsimp only); omega) (by decide) (by decide)) ok_X6_readAsRule k_587 k_588 k_589 k_5 k_590 ⟨(Nat.le_of_ble_eq_true rfl), (Nat.le_of_ble_eq_true rfl)⟩ ⟨(Nat.le_of_ble_eq_true rfl), (Nat.le_of_ble_eq_true rfl)⟩ hl.1 (Nat.le_of_ble_eq_true rfl) rfl rfl dX8_rule_26 (pmVS hPc hDc hK rfl rfl 0 rfl (hG.one 1 rfl) hS (va_free hD hS hA [1, 2, 3, 4, 5] rfl))) hP hD hS hA [1, 2, 3, 4, 5] [0] (wr := [(xh, .inr (8, G8 xa xtrialRule xdropRule xtoday))]) rfl rfl (by decide) (by decide) (fun r_22 u_24 H locs hw_23 hP hD hS => ?_)
      clear hPc hDc
      obtain ⟨w_25, w_26, w_27, w_28, w_29, w_30, w_31, w_32⟩ := u_24
      try dsimp only at hw_23
      have hP : va_P D vwCl [(xh, .inr (8, G8 xa xtrialRule xdropRule xtoday)), ((xa 9), .inr (6, G6 ta tsize trule w_29 w_25 w_27 w_28 w_26)), ((ta 0), .inl (E 0, 120, .inl tf0)), (trule, .inr (4, G4 u3a w_32)), ((u3a 0), .inl (E 0, 120, .inl w_30)), ((u3a 1), .inl (E 0, 120, .inl w_31))] H := hP
      have hD := toW hP hD rfl
      obtain ⟨hw_23_0, hw_23_1⟩ := hw_23
      try simp only [t_35] at hw_23_0
      try simp only [t_35] at hw_23_1
      refine lv_istore_n (lv' := [(2, .int r_22), (0, .ref xh), (1, .int p0)]) hx hb dX8_rule_29 rfl hl (by decide) rfl (fun ls hl => ?_)
      refine lv_aload_n hx hb dX8_rule_30 rfl (lv_at hl 1 rfl) ?_
      refine va_get (D := D) (ci := 8) (v := .ref (xa 9)) (C := RX8) (T := TX8) (N := 14) hx hb htb iX8 hown hK.1 hP 0 rfl rfl 9 (by decide) (htb _ k_281) (fun _ h9 => h9) rfl dX8_rule_31 ?_
      refine lv_iconst (v := 0) hx hb dX8_rule_34 (by decide) ?_
      refine va_putN (D := D) (ci := 6) (v := .int 0) (ty := .int) (C := RX6) (T := TX6) (N := 8) hx hb htb iX6 tyX6 tyX6_ok nmX6 hown hK.1 hP hD hS 1 rfl rfl 1 (by decide) (va_Nw.use rfl (hK.2.1 (Cond.fieldLinkNest RX8 179 "SeaWatches$Tape" "size" "I" "SeaWatches") (by decide +kernel))) (fun _ h9 => h9) rfl (by decide +kernel) rfl rfl (Nat.le_of_ble_eq_true rfl) dX8_rule_35 (fun H locs hP hD hS => ?_)
      have hP : va_P D vwCl [(xh, .inr (8, G8 xa xtrialRule xdropRule xtoday)), ((xa 9), .inr (6, G6 ta 0 trule w_29 w_25 w_27 w_28 w_26)), ((ta 0), .inl (E 0, 120, .inl tf0)), (trule, .inr (4, G4 u3a w_32)), ((u3a 0), .inl (E 0, 120, .inl w_30)), ((u3a 1), .inl (E 0, 120, .inl w_31))] H := hP
      have hD := toW hP hD rfl
      refine lv_iload_n hx hb dX8_rule_38 rfl (lv_at hl 0 rfl) ?_
      refine lv_iconst (v := (-1)) hx hb dX8_rule_39 (by decide) ?_
      refine lv_icmp_eq (tgt := 48) hx hb dX8_rule_40 (by decide) (fun c_33 => ?_) (fun c_33 => ?_)
      ·
        have ic_33 : r_22.toInt = -1 := (g_eq rfl t_m1).mp c_33
        clear c_33
        refine lv_iload_n hx hb dX8_rule_48 rfl (lv_at hl 2 rfl) ?_
        refine lv_if_ne (tgt := 70) hx hb dX8_rule_49 (by decide) (fun c_34 => ?_) (fun c_34 => absurd c_34 (by rw [g_eq rfl t_0]; omega))
        refine lv_aload_n hx hb dX8_rule_70 rfl (lv_at hl 1 rfl) ?_
        refine lv_aload_n hx hb dX8_rule_71 rfl (lv_at hl 1 rfl) ?_
        refine va_get (D := D) (ci := 8) (v := .ref (xa 9)) (C := RX8) (T := TX8) (N := 14) hx hb htb iX8 hown hK.1 hP 0 rfl rfl 9 (by decide) (htb _ k_281) (fun _ h9 => h9) rfl dX8_rule_72 ?_
        refine lv_aload_n hx hb dX8_rule_75 rfl (lv_at hl 1 rfl) ?_
        refine va_get (D := D) (ci := 8) (v := .ref xdropRule) (C := RX8) (T := TX8) (N := 14) hx hb htb iX8 hown hK.1 hP 0 rfl rfl 12 (by decide) (htb _ k_284) (fun _ h9 => h9) rfl dX8_rule_76 ?_
        have hPc := hP.sub (ws' := [((xa 9), .inr (6, G6 ta 0 trule w_29 w_25 w_27 w_28 w_26))]) [1] rfl
        have hDc := hD.sub (ws' := [((xa 9), .inr (6, G6 ta 0 trule w_29 w_25 w_27 w_28 w_26))]) [1] (by decide) rfl
        refine aft_r (runMV (rest := [.ref xh]) (As := [.ref xdropRule]) hx hb hml hown htb hK (g_X6_exchangeRule l D E (xa 9) ta 0 trule w_29 w_25 w_27 w_28 w_26 xdropRule _ (by have h0 := t_0; (try dsimp only); omega)) ok_X6_exchangeRule k_704 k_705 k_706 k_5 k_707 ⟨(Nat.le_of_ble_eq_true rfl), (Nat.le_of_ble_eq_true rfl)⟩ ⟨(Nat.le_of_ble_eq_true rfl), (Nat.le_of_ble_eq_true rfl)⟩ hl.1 (Nat.le_of_ble_eq_true rfl) rfl rfl dX8_rule_79 hPc hDc rfl rfl 0 rfl) hP hD hS hA [1] [0, 2, 3, 4, 5] (wr := [(xh, .inr (8, G8 xa xtrialRule xdropRule xtoday)), ((ta 0), .inl (E 0, 120, .inl tf0)), (trule, .inr (4, G4 u3a w_32)), ((u3a 0), .inl (E 0, 120, .inl w_30)), ((u3a 1), .inl (E 0, 120, .inl w_31))]) rfl rfl (by decide) (by decide) (fun u_37 H locs hw_36 hP hD hS => ?_)
        clear hPc hDc
        have hP : va_P D vwCl [(xh, .inr (8, G8 xa xtrialRule xdropRule xtoday)), ((ta 0), .inl (E 0, 120, .inl tf0)), (trule, .inr (4, G4 u3a w_32)), ((u3a 0), .inl (E 0, 120, .inl w_30)), ((u3a 1), .inl (E 0, 120, .inl w_31)), ((xa 9), .inr (6, G6 ta 0 u_37 w_29 w_25 w_27 w_28 w_26))] H := hP
        have hD := toW hP hD rfl
        try simp only [t_0] at hw_36
        refine va_put (D := D) (ci := 8) (v := .ref trule) (ty := .object "SeaWatches$Rule") (C := RX8) (T := TX8) (N := 14) hx hb htb iX8 tyX8 tyX8_ok nmX8 hown hK.1 hP hD hS 0 rfl rfl 12 (by decide) (htb _ k_284) (fun _ h9 => h9) rfl (by decide +kernel) rfl rfl (Nat.le_of_ble_eq_true rfl) dX8_rule_82 (fun H locs hP hD hS => ?_)
        have hP : va_P D vwCl [(xh, .inr (8, G8 xa xtrialRule trule xtoday)), ((ta 0), .inl (E 0, 120, .inl tf0)), (trule, .inr (4, G4 u3a w_32)), ((u3a 0), .inl (E 0, 120, .inl w_30)), ((u3a 1), .inl (E 0, 120, .inl w_31)), ((xa 9), .inr (6, G6 ta 0 u_37 w_29 w_25 w_27 w_28 w_26))] H := hP
        have hD := toW hP hD rfl
        refine lv_iconst (v := 1) hx hb dX8_rule_85 (by decide) ?_
        have hP9 := hP.sub (ws' := [(xh, .inr (8, G8 xa xtrialRule trule xtoday)), ((xa 9), .inr (6, G6 ta 0 u_37 w_29 w_25 w_27 w_28 w_26)), ((ta 0), .inl (E 0, 120, .inl tf0)), (trule, .inr (4, G4 u3a w_32)), ((u3a 0), .inl (E 0, 120, .inl w_30)), ((u3a 1), .inl (E 0, 120, .inl w_31))]) [0, 5, 1, 2, 3, 4] rfl
        have hD9 := hD.sub (ws' := [(xh, .inr (8, G8 xa xtrialRule trule xtoday)), ((xa 9), .inr (6, G6 ta 0 u_37 w_29 w_25 w_27 w_28 w_26)), ((ta 0), .inl (E 0, 120, .inl tf0)), (trule, .inr (4, G4 u3a w_32)), ((u3a 0), .inl (E 0, 120, .inl w_30)), ((u3a 1), .inl (E 0, 120, .inl w_31))]) [0, 5, 1, 2, 3, 4] (by decide) rfl
        exact W.iret (v := 1) hx hb hr (fun t ht hW => ⟨⟨1, (w_25, u_37, (0 : Int32), w_26, w_27, w_28, w_29, w_30, w_31, w_32, trule, xtrialRule), rfl, ⟨(by have h0 := t_0; (try dsimp only); omega), (by (try dsimp only); omega), (by have hl := t_1; have hl0 := t_0; (try dsimp only); first | exact Or.inr (Or.inl ⟨by omega, by omega, ⟨by first | rfl | assumption, by first | rfl | assumption, by first | rfl | assumption⟩, by omega, RAG_of (hw_23_1).2.2 (by omega)⟩) | exact Or.inr (Or.inr (Or.inl ⟨by omega, by omega, ⟨by first | rfl | assumption, by first | rfl | assumption, by first | rfl | assumption⟩, by omega, RAG_of (hw_23_1).2.2 (by omega)⟩)))⟩, by rw [ht]; exact hP9, hD9⟩, hS.F ht⟩) hS.2.2 dX8_rule_86
      ·
        have ic_33 : r_22.toInt ≠ -1 := mt (g_eq rfl t_m1).mpr c_33
        clear c_33
        refine lv_bipush (v := (-100)) hx hb dX8_rule_43 (by decide) ?_
        refine lv_iload_n hx hb dX8_rule_45 rfl (lv_at hl 0 rfl) ?_
        refine lv_isub hx hb dX8_rule_46 ?_
        refine lv_topi (fun z_38 ez_38 => ?_)
        have jz_38 : z_38.toInt = -100 - r_22.toInt := by rw [ez_38]; exact g_sub t_m100 rfl (by omega) (by omega)
        have hP9 := hP.sub (ws' := [(xh, .inr (8, G8 xa xtrialRule xdropRule xtoday)), ((xa 9), .inr (6, G6 ta 0 trule w_29 w_25 w_27 w_28 w_26)), ((ta 0), .inl (E 0, 120, .inl tf0)), (trule, .inr (4, G4 u3a w_32)), ((u3a 0), .inl (E 0, 120, .inl w_30)), ((u3a 1), .inl (E 0, 120, .inl w_31))]) [0, 1, 2, 3, 4, 5] rfl
        have hD9 := hD.sub (ws' := [(xh, .inr (8, G8 xa xtrialRule xdropRule xtoday)), ((xa 9), .inr (6, G6 ta 0 trule w_29 w_25 w_27 w_28 w_26)), ((ta 0), .inl (E 0, 120, .inl tf0)), (trule, .inr (4, G4 u3a w_32)), ((u3a 0), .inl (E 0, 120, .inl w_30)), ((u3a 1), .inl (E 0, 120, .inl w_31))]) [0, 1, 2, 3, 4, 5] (by decide) rfl
        exact W.iret (v := z_38) hx hb hr (fun t ht hW => ⟨⟨z_38, (w_25, trule, (0 : Int32), w_26, w_27, w_28, w_29, w_30, w_31, w_32, xdropRule, xtrialRule), rfl, ⟨(by have h0 := t_0; (try dsimp only); omega), (by (try dsimp only); omega), (by have hl0 := t_0; (try dsimp only); first | exact Or.inl ⟨by omega, by omega, ⟨by first | rfl | assumption, by first | rfl | assumption, by first | rfl | assumption⟩, Or.inl ⟨by omega, RAF_of (hw_23_1).2.2 (by omega) (by omega)⟩⟩ | exact Or.inl ⟨by omega, by omega, ⟨by first | rfl | assumption, by first | rfl | assumption, by first | rfl | assumption⟩, Or.inr ⟨by omega, RAF_of (hw_23_1).2.2 (by omega) (by omega)⟩⟩)⟩, by rw [ht]; exact hP9, hD9⟩, hS.F ht⟩) hS.2.2 dX8_rule_47
    ·
      have ic_20 : p0.toInt ≠ 1 := mt (g_eq rfl t_1).mpr c_20
      clear c_20
      refine lv_iconst (v := (-1)) hx hb dX8_rule_9 (by decide) ?_
      have hP9 := hP.sub (ws' := [(xh, .inr (8, G8 xa xtrialRule xdropRule xtoday)), ((xa 9), .inr (6, G6 ta tsize trule twords tat tword twordAt tvalue)), ((ta 0), .inl (E 0, 120, .inl tf0)), (trule, .inr (4, G4 u3a u3size)), ((u3a 0), .inl (E 0, 120, .inl u3f0)), ((u3a 1), .inl (E 0, 120, .inl u3f1))]) [0, 1, 2, 3, 4, 5] rfl
      have hD9 := hD.sub (ws' := [(xh, .inr (8, G8 xa xtrialRule xdropRule xtoday)), ((xa 9), .inr (6, G6 ta tsize trule twords tat tword twordAt tvalue)), ((ta 0), .inl (E 0, 120, .inl tf0)), (trule, .inr (4, G4 u3a u3size)), ((u3a 0), .inl (E 0, 120, .inl u3f0)), ((u3a 1), .inl (E 0, 120, .inl u3f1))]) [0, 1, 2, 3, 4, 5] (by decide) rfl
      exact W.iret (v := (-1)) hx hb hr (fun t ht hW => ⟨⟨(-1), (tat, trule, tsize, tvalue, tword, twordAt, twords, u3f0, u3f1, u3size, xdropRule, xtrialRule), rfl, ⟨(by (try dsimp only); omega), (by (try dsimp only); omega), (by have hl := t_m1; (try dsimp only); exact Or.inr (Or.inr (Or.inr ⟨by omega, by omega, ⟨by first | rfl | assumption, by first | rfl | assumption, by first | rfl | assumption⟩, by omega⟩)))⟩, by rw [ht]; exact hP9, hD9⟩, hS.F ht⟩) hS.2.2 dX8_rule_10
