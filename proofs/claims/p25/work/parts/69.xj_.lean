section
set_option maxHeartbeats 4000000 in
set_option maxRecDepth 100000 in
theorem c_X2_init (l : Launch) (D : va_G) (E : Nat → Nat) (h0 : Nat) (sz : Nat)  : Met l yX2_init (wl yX2_init cX2_init 1 none) (RM 1 5 300) (mu_P D E [.ref h0] [(h0, .inr (2, [.null, .null, .null, .null, .null, .int 0]))] sz) (va_Qv (fun (u : Nat → Nat) => True) (mu_B D (va_A [(h0, .inr (2, [.null, .null, .null, .null, .null, .int 0]))] sz) (fun (u : Nat → Nat) => [(h0, .inr (2, G2 u 0)), ((u 0), .inl (E 0, 60, .inl (fun _ => 0))), ((u 1), .inl (E 0, 60, .inl (fun _ => 0))), ((u 2), .inl (E 0, 60, .inl (fun _ => 0))), ((u 3), .inl (E 0, 60, .inl (fun _ => 0))), ((u 4), .inl (E 0, 60, .inl (fun _ => 0)))])) (va_A [(h0, .inr (2, [.null, .null, .null, .null, .null, .int 0]))] sz)) 5 300 (va_A [(h0, .inr (2, [.null, .null, .null, .null, .null, .int 0]))] sz) := by
  refine Met.ofW (cc := cX2_init) (maxL := 1) (ret := none) (by decide) rfl ?_
  intro p e s m args below meth c s₁ B hml hv
  obtain ⟨rfl, hsz, hP, hK, hD0⟩ := hv
  have hx := B.exec
  have hb := B.bytes
  have hr := B.returns
  have hts := atoms_spec (ws := wl yX2_init cX2_init 1 none) B.pre
  have htb : ∀ w ∈ tb, w.before _ s = true := fun w h => hts w (List.mem_cons_of_mem _ h)
  have hown : s.vm.findClass RX2 = some m.cls := findClass_of_methodNamed B.named
  have hlocks := B.notSynchronized
  have hin : meth.name = "<init>" := (name_of_methodNamed B.named B.method).1
  subst hsz
  have hD := hD0.self (sz := s.heap.size)
  generalize hAe : va_A [(h0, .inr (2, [.null, .null, .null, .null, .null, .int 0]))] s.heap.size = A at hD ⊢
  have hA : ∀ q : Nat, s.heap.size ≤ q → A q := fun q h => by rw [← hAe]; exact Or.inr h
  have hS : va_S A s.heap s.heap [] := va_S.rf
  have hP : va_P D vwCl [(h0, .inr (2, [.null, .null, .null, .null, .null, .int 0]))] s.heap := hP
  have hl := lv_entry ([.ref h0]) (n := 1) (Nat.le_of_ble_eq_true rfl)
  rw [lg_entry_eq]
  generalize (lg_sl ([.ref h0]) ++ List.replicate (1 - (lg_sl ([.ref h0])).length) Slot.unset).toArray = ls at hl ⊢
  have hl : lv_has ls 1 [(0, .ref h0)] := hl
  refine lv_aload_n hx hb dX2_init_0 rfl (lv_at hl 0 rfl) ?_
  refine W.objInit hx hb hown (htb _ k_33) (htb _ k_22) (htb _ k_23) rfl (by rw [hml]; exact hl.1) rfl dX2_init_1 (Nat.le_of_ble_eq_true rfl) (Nat.le_of_ble_eq_true rfl) ?_
  refine W.eq (g2 := F0 m 4 ls []) rfl ?_
  refine lv_aload_n hx hb dX2_init_4 rfl (lv_at hl 0 rfl) ?_
  refine lv_bipush (v := 60) hx hb dX2_init_5 (by decide) ?_
  refine va_newa (atype := .int) (a0 := (60, .inl (fun _ => 0))) hx hb (htb _ k_54) rfl hK.1 hP hD hS hA (fun cA => nw_i cA) (by decide) (by decide) (by decide) (Nat.le_of_ble_eq_true rfl) (Nat.le_of_ble_eq_true rfl) dX2_init_7 (fun q_1 cA H hK2 hP hD hS => ?_)
  obtain rfl : E 0 = cA := (ka_i (fun C h => by cases h) hK2 0 rfl).symm
  clear hK2
  have hP : va_P D vwCl [(h0, .inr (2, [.null, .null, .null, .null, .null, .int 0])), (q_1, .inl (E 0, 60, .inl (fun _ => 0)))] H := hP
  have hD := toW hP hD rfl
  refine W.widen (k := 1) (n := 60) (Nat.le_of_ble_eq_true rfl) (Nat.le_of_ble_eq_true rfl) ?_
  refine va_putF (D := D) (ci := 2) (v := .ref q_1) (ty := .array .int) (C := RX2) (T := TX2) (N := 6) hx hb htb iX2 tyX2 tyX2_ok nmX2 hown hK.1 hP hD hS 0 rfl rfl 0 (by decide) (htb _ k_34) (fun _ h9 => h9) rfl hin rfl (by decide +kernel) rfl rfl (Nat.le_of_ble_eq_true rfl) dX2_init_9 (fun H locs hP hD hS => ?_)
  have hP : va_P D vwCl [(h0, .inr (2, [.ref q_1, .null, .null, .null, .null, .int 0])), (q_1, .inl (E 0, 60, .inl (fun _ => 0)))] H := hP
  have hD := toW hP hD rfl
  refine lv_aload_n hx hb dX2_init_12 rfl (lv_at hl 0 rfl) ?_
  refine lv_bipush (v := 60) hx hb dX2_init_13 (by decide) ?_
  refine va_newa (atype := .int) (a0 := (60, .inl (fun _ => 0))) hx hb (htb _ k_54) rfl hK.1 hP hD hS hA (fun cA => nw_i cA) (by decide) (by decide) (by decide) (Nat.le_of_ble_eq_true rfl) (Nat.le_of_ble_eq_true rfl) dX2_init_15 (fun q_2 cA H hK2 hP hD hS => ?_)
  obtain rfl : E 0 = cA := (ka_i (fun C h => by cases h) hK2 0 rfl).symm
  clear hK2
  have hP : va_P D vwCl [(h0, .inr (2, [.ref q_1, .null, .null, .null, .null, .int 0])), (q_1, .inl (E 0, 60, .inl (fun _ => 0))), (q_2, .inl (E 0, 60, .inl (fun _ => 0)))] H := hP
  have hD := toW hP hD rfl
  refine W.widen (k := 2) (n := 120) (Nat.le_of_ble_eq_true rfl) (Nat.le_of_ble_eq_true rfl) ?_
  refine va_putF (D := D) (ci := 2) (v := .ref q_2) (ty := .array .int) (C := RX2) (T := TX2) (N := 6) hx hb htb iX2 tyX2 tyX2_ok nmX2 hown hK.1 hP hD hS 0 rfl rfl 1 (by decide) (htb _ k_35) (fun _ h9 => h9) rfl hin rfl (by decide +kernel) rfl rfl (Nat.le_of_ble_eq_true rfl) dX2_init_17 (fun H locs hP hD hS => ?_)
  have hP : va_P D vwCl [(h0, .inr (2, [.ref q_1, .ref q_2, .null, .null, .null, .int 0])), (q_1, .inl (E 0, 60, .inl (fun _ => 0))), (q_2, .inl (E 0, 60, .inl (fun _ => 0)))] H := hP
  have hD := toW hP hD rfl
  refine lv_aload_n hx hb dX2_init_20 rfl (lv_at hl 0 rfl) ?_
  refine lv_bipush (v := 60) hx hb dX2_init_21 (by decide) ?_
  refine va_newa (atype := .int) (a0 := (60, .inl (fun _ => 0))) hx hb (htb _ k_54) rfl hK.1 hP hD hS hA (fun cA => nw_i cA) (by decide) (by decide) (by decide) (Nat.le_of_ble_eq_true rfl) (Nat.le_of_ble_eq_true rfl) dX2_init_23 (fun q_3 cA H hK2 hP hD hS => ?_)
  obtain rfl : E 0 = cA := (ka_i (fun C h => by cases h) hK2 0 rfl).symm
  clear hK2
  have hP : va_P D vwCl [(h0, .inr (2, [.ref q_1, .ref q_2, .null, .null, .null, .int 0])), (q_1, .inl (E 0, 60, .inl (fun _ => 0))), (q_2, .inl (E 0, 60, .inl (fun _ => 0))), (q_3, .inl (E 0, 60, .inl (fun _ => 0)))] H := hP
  have hD := toW hP hD rfl
  refine W.widen (k := 3) (n := 180) (Nat.le_of_ble_eq_true rfl) (Nat.le_of_ble_eq_true rfl) ?_
  refine va_putF (D := D) (ci := 2) (v := .ref q_3) (ty := .array .int) (C := RX2) (T := TX2) (N := 6) hx hb htb iX2 tyX2 tyX2_ok nmX2 hown hK.1 hP hD hS 0 rfl rfl 2 (by decide) (htb _ k_36) (fun _ h9 => h9) rfl hin rfl (by decide +kernel) rfl rfl (Nat.le_of_ble_eq_true rfl) dX2_init_25 (fun H locs hP hD hS => ?_)
  have hP : va_P D vwCl [(h0, .inr (2, [.ref q_1, .ref q_2, .ref q_3, .null, .null, .int 0])), (q_1, .inl (E 0, 60, .inl (fun _ => 0))), (q_2, .inl (E 0, 60, .inl (fun _ => 0))), (q_3, .inl (E 0, 60, .inl (fun _ => 0)))] H := hP
  have hD := toW hP hD rfl
  refine lv_aload_n hx hb dX2_init_28 rfl (lv_at hl 0 rfl) ?_
  refine lv_bipush (v := 60) hx hb dX2_init_29 (by decide) ?_
  refine va_newa (atype := .int) (a0 := (60, .inl (fun _ => 0))) hx hb (htb _ k_54) rfl hK.1 hP hD hS hA (fun cA => nw_i cA) (by decide) (by decide) (by decide) (Nat.le_of_ble_eq_true rfl) (Nat.le_of_ble_eq_true rfl) dX2_init_31 (fun q_4 cA H hK2 hP hD hS => ?_)
  obtain rfl : E 0 = cA := (ka_i (fun C h => by cases h) hK2 0 rfl).symm
  clear hK2
  have hP : va_P D vwCl [(h0, .inr (2, [.ref q_1, .ref q_2, .ref q_3, .null, .null, .int 0])), (q_1, .inl (E 0, 60, .inl (fun _ => 0))), (q_2, .inl (E 0, 60, .inl (fun _ => 0))), (q_3, .inl (E 0, 60, .inl (fun _ => 0))), (q_4, .inl (E 0, 60, .inl (fun _ => 0)))] H := hP
  have hD := toW hP hD rfl
  refine W.widen (k := 4) (n := 240) (Nat.le_of_ble_eq_true rfl) (Nat.le_of_ble_eq_true rfl) ?_
  refine va_putF (D := D) (ci := 2) (v := .ref q_4) (ty := .array .int) (C := RX2) (T := TX2) (N := 6) hx hb htb iX2 tyX2 tyX2_ok nmX2 hown hK.1 hP hD hS 0 rfl rfl 3 (by decide) (htb _ k_37) (fun _ h9 => h9) rfl hin rfl (by decide +kernel) rfl rfl (Nat.le_of_ble_eq_true rfl) dX2_init_33 (fun H locs hP hD hS => ?_)
  have hP : va_P D vwCl [(h0, .inr (2, [.ref q_1, .ref q_2, .ref q_3, .ref q_4, .null, .int 0])), (q_1, .inl (E 0, 60, .inl (fun _ => 0))), (q_2, .inl (E 0, 60, .inl (fun _ => 0))), (q_3, .inl (E 0, 60, .inl (fun _ => 0))), (q_4, .inl (E 0, 60, .inl (fun _ => 0)))] H := hP
  have hD := toW hP hD rfl
  refine lv_aload_n hx hb dX2_init_36 rfl (lv_at hl 0 rfl) ?_
  refine lv_bipush (v := 60) hx hb dX2_init_37 (by decide) ?_
  refine va_newa (atype := .int) (a0 := (60, .inl (fun _ => 0))) hx hb (htb _ k_54) rfl hK.1 hP hD hS hA (fun cA => nw_i cA) (by decide) (by decide) (by decide) (Nat.le_of_ble_eq_true rfl) (Nat.le_of_ble_eq_true rfl) dX2_init_39 (fun q_5 cA H hK2 hP hD hS => ?_)
  obtain rfl : E 0 = cA := (ka_i (fun C h => by cases h) hK2 0 rfl).symm
  clear hK2
  have hP : va_P D vwCl [(h0, .inr (2, [.ref q_1, .ref q_2, .ref q_3, .ref q_4, .null, .int 0])), (q_1, .inl (E 0, 60, .inl (fun _ => 0))), (q_2, .inl (E 0, 60, .inl (fun _ => 0))), (q_3, .inl (E 0, 60, .inl (fun _ => 0))), (q_4, .inl (E 0, 60, .inl (fun _ => 0))), (q_5, .inl (E 0, 60, .inl (fun _ => 0)))] H := hP
  have hD := toW hP hD rfl
  refine W.widen (k := 5) (n := 300) (Nat.le_of_ble_eq_true rfl) (Nat.le_of_ble_eq_true rfl) ?_
  refine va_putF (D := D) (ci := 2) (v := .ref q_5) (ty := .array .int) (C := RX2) (T := TX2) (N := 6) hx hb htb iX2 tyX2 tyX2_ok nmX2 hown hK.1 hP hD hS 0 rfl rfl 4 (by decide) (htb _ k_38) (fun _ h9 => h9) rfl hin rfl (by decide +kernel) rfl rfl (Nat.le_of_ble_eq_true rfl) dX2_init_41 (fun H locs hP hD hS => ?_)
  have hP : va_P D vwCl [(h0, .inr (2, [.ref q_1, .ref q_2, .ref q_3, .ref q_4, .ref q_5, .int 0])), (q_1, .inl (E 0, 60, .inl (fun _ => 0))), (q_2, .inl (E 0, 60, .inl (fun _ => 0))), (q_3, .inl (E 0, 60, .inl (fun _ => 0))), (q_4, .inl (E 0, 60, .inl (fun _ => 0))), (q_5, .inl (E 0, 60, .inl (fun _ => 0)))] H := hP
  have hD := toW hP hD rfl
  refine lv_aload_n hx hb dX2_init_44 rfl (lv_at hl 0 rfl) ?_
  refine lv_iconst (v := 0) hx hb dX2_init_45 (by decide) ?_
  refine va_put (D := D) (ci := 2) (v := .int 0) (ty := .int) (C := RX2) (T := TX2) (N := 6) hx hb htb iX2 tyX2 tyX2_ok nmX2 hown hK.1 hP hD hS 0 rfl rfl 5 (by decide) (htb _ k_39) (fun _ h9 => h9) rfl (by decide +kernel) rfl rfl (Nat.le_of_ble_eq_true rfl) dX2_init_46 (fun H locs hP hD hS => ?_)
  have hP : va_P D vwCl [(h0, .inr (2, [.ref q_1, .ref q_2, .ref q_3, .ref q_4, .ref q_5, .int 0])), (q_1, .inl (E 0, 60, .inl (fun _ => 0))), (q_2, .inl (E 0, 60, .inl (fun _ => 0))), (q_3, .inl (E 0, 60, .inl (fun _ => 0))), (q_4, .inl (E 0, 60, .inl (fun _ => 0))), (q_5, .inl (E 0, 60, .inl (fun _ => 0)))] H := hP
  have hD := toW hP hD rfl
  have hP9 := hP.sub (ws' := [(h0, .inr (2, [.ref q_1, .ref q_2, .ref q_3, .ref q_4, .ref q_5, .int 0])), (q_1, .inl (E 0, 60, .inl (fun _ => 0))), (q_2, .inl (E 0, 60, .inl (fun _ => 0))), (q_3, .inl (E 0, 60, .inl (fun _ => 0))), (q_4, .inl (E 0, 60, .inl (fun _ => 0))), (q_5, .inl (E 0, 60, .inl (fun _ => 0)))]) [0, 1, 2, 3, 4, 5] rfl
  have hD9 := hD.sub (ws' := [(h0, .inr (2, [.ref q_1, .ref q_2, .ref q_3, .ref q_4, .ref q_5, .int 0])), (q_1, .inl (E 0, 60, .inl (fun _ => 0))), (q_2, .inl (E 0, 60, .inl (fun _ => 0))), (q_3, .inl (E 0, 60, .inl (fun _ => 0))), (q_4, .inl (E 0, 60, .inl (fun _ => 0))), (q_5, .inl (E 0, 60, .inl (fun _ => 0)))]) [0, 1, 2, 3, 4, 5] (by decide) rfl
  exact W.vret hx hb hr (fun t ht hW => ⟨⟨(fun k => ([q_1, q_2, q_3, q_4, q_5, 0] : List Nat).getD k 0), rfl, trivial, by rw [ht]; exact hP9, hD9⟩, hS.F ht⟩) hS.2.2 dX2_init_49
set_option maxHeartbeats 4000000 in
set_option maxRecDepth 100000 in
theorem c_X3_init (l : Launch) (D : va_G) (E : Nat → Nat) (h0 : Nat) (sz : Nat)  : Met l yX3_init (wl yX3_init cX3_init 1 none) (RM 1 3 180) (mu_P D E [.ref h0] [(h0, .inr (3, [.null, .null, .null, .int 0]))] sz) (va_Qv (fun (u : Nat → Nat) => True) (mu_B D (va_A [(h0, .inr (3, [.null, .null, .null, .int 0]))] sz) (fun (u : Nat → Nat) => [(h0, .inr (3, G3 u 0)), ((u 0), .inl (E 0, 60, .inl (fun _ => 0))), ((u 1), .inl (E 0, 60, .inl (fun _ => 0))), ((u 2), .inl (E 0, 60, .inl (fun _ => 0)))])) (va_A [(h0, .inr (3, [.null, .null, .null, .int 0]))] sz)) 3 180 (va_A [(h0, .inr (3, [.null, .null, .null, .int 0]))] sz) := by
  refine Met.ofW (cc := cX3_init) (maxL := 1) (ret := none) (by decide) rfl ?_
  intro p e s m args below meth c s₁ B hml hv
  obtain ⟨rfl, hsz, hP, hK, hD0⟩ := hv
  have hx := B.exec
  have hb := B.bytes
  have hr := B.returns
  have hts := atoms_spec (ws := wl yX3_init cX3_init 1 none) B.pre
  have htb : ∀ w ∈ tb, w.before _ s = true := fun w h => hts w (List.mem_cons_of_mem _ h)
  have hown : s.vm.findClass RX3 = some m.cls := findClass_of_methodNamed B.named
  have hlocks := B.notSynchronized
  have hin : meth.name = "<init>" := (name_of_methodNamed B.named B.method).1
  subst hsz
  have hD := hD0.self (sz := s.heap.size)
  generalize hAe : va_A [(h0, .inr (3, [.null, .null, .null, .int 0]))] s.heap.size = A at hD ⊢
  have hA : ∀ q : Nat, s.heap.size ≤ q → A q := fun q h => by rw [← hAe]; exact Or.inr h
  have hS : va_S A s.heap s.heap [] := va_S.rf
  have hP : va_P D vwCl [(h0, .inr (3, [.null, .null, .null, .int 0]))] s.heap := hP
  have hl := lv_entry ([.ref h0]) (n := 1) (Nat.le_of_ble_eq_true rfl)
  rw [lg_entry_eq]
  generalize (lg_sl ([.ref h0]) ++ List.replicate (1 - (lg_sl ([.ref h0])).length) Slot.unset).toArray = ls at hl ⊢
  have hl : lv_has ls 1 [(0, .ref h0)] := hl
  refine lv_aload_n hx hb dX3_init_0 rfl (lv_at hl 0 rfl) ?_
  refine W.objInit hx hb hown (htb _ k_60) (htb _ k_22) (htb _ k_23) rfl (by rw [hml]; exact hl.1) rfl dX3_init_1 (Nat.le_of_ble_eq_true rfl) (Nat.le_of_ble_eq_true rfl) ?_
  refine W.eq (g2 := F0 m 4 ls []) rfl ?_
  refine lv_aload_n hx hb dX3_init_4 rfl (lv_at hl 0 rfl) ?_
  refine lv_bipush (v := 60) hx hb dX3_init_5 (by decide) ?_
  refine va_newa (atype := .int) (a0 := (60, .inl (fun _ => 0))) hx hb (htb _ k_54) rfl hK.1 hP hD hS hA (fun cA => nw_i cA) (by decide) (by decide) (by decide) (Nat.le_of_ble_eq_true rfl) (Nat.le_of_ble_eq_true rfl) dX3_init_7 (fun q_1 cA H hK2 hP hD hS => ?_)
  obtain rfl : E 0 = cA := (ka_i (fun C h => by cases h) hK2 0 rfl).symm
  clear hK2
  have hP : va_P D vwCl [(h0, .inr (3, [.null, .null, .null, .int 0])), (q_1, .inl (E 0, 60, .inl (fun _ => 0)))] H := hP
  have hD := toW hP hD rfl
  refine W.widen (k := 1) (n := 60) (Nat.le_of_ble_eq_true rfl) (Nat.le_of_ble_eq_true rfl) ?_
  refine va_putF (D := D) (ci := 3) (v := .ref q_1) (ty := .array .int) (C := RX3) (T := TX3) (N := 4) hx hb htb iX3 tyX3 tyX3_ok nmX3 hown hK.1 hP hD hS 0 rfl rfl 0 (by decide) (htb _ k_61) (fun _ h9 => h9) rfl hin rfl (by decide +kernel) rfl rfl (Nat.le_of_ble_eq_true rfl) dX3_init_9 (fun H locs hP hD hS => ?_)
  have hP : va_P D vwCl [(h0, .inr (3, [.ref q_1, .null, .null, .int 0])), (q_1, .inl (E 0, 60, .inl (fun _ => 0)))] H := hP
  have hD := toW hP hD rfl
  refine lv_aload_n hx hb dX3_init_12 rfl (lv_at hl 0 rfl) ?_
  refine lv_bipush (v := 60) hx hb dX3_init_13 (by decide) ?_
  refine va_newa (atype := .int) (a0 := (60, .inl (fun _ => 0))) hx hb (htb _ k_54) rfl hK.1 hP hD hS hA (fun cA => nw_i cA) (by decide) (by decide) (by decide) (Nat.le_of_ble_eq_true rfl) (Nat.le_of_ble_eq_true rfl) dX3_init_15 (fun q_2 cA H hK2 hP hD hS => ?_)
  obtain rfl : E 0 = cA := (ka_i (fun C h => by cases h) hK2 0 rfl).symm
  clear hK2
  have hP : va_P D vwCl [(h0, .inr (3, [.ref q_1, .null, .null, .int 0])), (q_1, .inl (E 0, 60, .inl (fun _ => 0))), (q_2, .inl (E 0, 60, .inl (fun _ => 0)))] H := hP
  have hD := toW hP hD rfl
  refine W.widen (k := 2) (n := 120) (Nat.le_of_ble_eq_true rfl) (Nat.le_of_ble_eq_true rfl) ?_
  refine va_putF (D := D) (ci := 3) (v := .ref q_2) (ty := .array .int) (C := RX3) (T := TX3) (N := 4) hx hb htb iX3 tyX3 tyX3_ok nmX3 hown hK.1 hP hD hS 0 rfl rfl 1 (by decide) (htb _ k_63) (fun _ h9 => h9) rfl hin rfl (by decide +kernel) rfl rfl (Nat.le_of_ble_eq_true rfl) dX3_init_17 (fun H locs hP hD hS => ?_)
  have hP : va_P D vwCl [(h0, .inr (3, [.ref q_1, .ref q_2, .null, .int 0])), (q_1, .inl (E 0, 60, .inl (fun _ => 0))), (q_2, .inl (E 0, 60, .inl (fun _ => 0)))] H := hP
  have hD := toW hP hD rfl
  refine lv_aload_n hx hb dX3_init_20 rfl (lv_at hl 0 rfl) ?_
  refine lv_bipush (v := 60) hx hb dX3_init_21 (by decide) ?_
  refine va_newa (atype := .int) (a0 := (60, .inl (fun _ => 0))) hx hb (htb _ k_54) rfl hK.1 hP hD hS hA (fun cA => nw_i cA) (by decide) (by decide) (by decide) (Nat.le_of_ble_eq_true rfl) (Nat.le_of_ble_eq_true rfl) dX3_init_23 (fun q_3 cA H hK2 hP hD hS => ?_)
  obtain rfl : E 0 = cA := (ka_i (fun C h => by cases h) hK2 0 rfl).symm
  clear hK2
  have hP : va_P D vwCl [(h0, .inr (3, [.ref q_1, .ref q_2, .null, .int 0])), (q_1, .inl (E 0, 60, .inl (fun _ => 0))), (q_2, .inl (E 0, 60, .inl (fun _ => 0))), (q_3, .inl (E 0, 60, .inl (fun _ => 0)))] H := hP
  have hD := toW hP hD rfl
  refine W.widen (k := 3) (n := 180) (Nat.le_of_ble_eq_true rfl) (Nat.le_of_ble_eq_true rfl) ?_
  refine va_putF (D := D) (ci := 3) (v := .ref q_3) (ty := .array .int) (C := RX3) (T := TX3) (N := 4) hx hb htb iX3 tyX3 tyX3_ok nmX3 hown hK.1 hP hD hS 0 rfl rfl 2 (by decide) (htb _ k_65) (fun _ h9 => h9) rfl hin rfl (by decide +kernel) rfl rfl (Nat.le_of_ble_eq_true rfl) dX3_init_25 (fun H locs hP hD hS => ?_)
  have hP : va_P D vwCl [(h0, .inr (3, [.ref q_1, .ref q_2, .ref q_3, .int 0])), (q_1, .inl (E 0, 60, .inl (fun _ => 0))), (q_2, .inl (E 0, 60, .inl (fun _ => 0))), (q_3, .inl (E 0, 60, .inl (fun _ => 0)))] H := hP
  have hD := toW hP hD rfl
  refine lv_aload_n hx hb dX3_init_28 rfl (lv_at hl 0 rfl) ?_
  refine lv_iconst (v := 0) hx hb dX3_init_29 (by decide) ?_
  refine va_put (D := D) (ci := 3) (v := .int 0) (ty := .int) (C := RX3) (T := TX3) (N := 4) hx hb htb iX3 tyX3 tyX3_ok nmX3 hown hK.1 hP hD hS 0 rfl rfl 3 (by decide) (htb _ k_66) (fun _ h9 => h9) rfl (by decide +kernel) rfl rfl (Nat.le_of_ble_eq_true rfl) dX3_init_30 (fun H locs hP hD hS => ?_)
  have hP : va_P D vwCl [(h0, .inr (3, [.ref q_1, .ref q_2, .ref q_3, .int 0])), (q_1, .inl (E 0, 60, .inl (fun _ => 0))), (q_2, .inl (E 0, 60, .inl (fun _ => 0))), (q_3, .inl (E 0, 60, .inl (fun _ => 0)))] H := hP
  have hD := toW hP hD rfl
  have hP9 := hP.sub (ws' := [(h0, .inr (3, [.ref q_1, .ref q_2, .ref q_3, .int 0])), (q_1, .inl (E 0, 60, .inl (fun _ => 0))), (q_2, .inl (E 0, 60, .inl (fun _ => 0))), (q_3, .inl (E 0, 60, .inl (fun _ => 0)))]) [0, 1, 2, 3] rfl
  have hD9 := hD.sub (ws' := [(h0, .inr (3, [.ref q_1, .ref q_2, .ref q_3, .int 0])), (q_1, .inl (E 0, 60, .inl (fun _ => 0))), (q_2, .inl (E 0, 60, .inl (fun _ => 0))), (q_3, .inl (E 0, 60, .inl (fun _ => 0)))]) [0, 1, 2, 3] (by decide) rfl
  exact W.vret hx hb hr (fun t ht hW => ⟨⟨(fun k => ([q_1, q_2, q_3, 0] : List Nat).getD k 0), rfl, trivial, by rw [ht]; exact hP9, hD9⟩, hS.F ht⟩) hS.2.2 dX3_init_33
set_option maxHeartbeats 4000000 in
set_option maxRecDepth 100000 in
theorem c_X4_init (l : Launch) (D : va_G) (E : Nat → Nat) (h0 : Nat) (sz : Nat)  : Met l yX4_init (wl yX4_init cX4_init 1 none) (RM 1 3 360) (mu_P D E [.ref h0] [(h0, .inr (4, [.null, .null, .null, .int 0]))] sz) (va_Qv (fun (u : Nat → Nat) => True) (mu_B D (va_A [(h0, .inr (4, [.null, .null, .null, .int 0]))] sz) (fun (u : Nat → Nat) => [(h0, .inr (4, G4 u 0)), ((u 0), .inl (E 0, 120, .inl (fun _ => 0))), ((u 1), .inl (E 0, 120, .inl (fun _ => 0))), ((u 2), .inl (E 0, 120, .inl (fun _ => 0)))])) (va_A [(h0, .inr (4, [.null, .null, .null, .int 0]))] sz)) 3 360 (va_A [(h0, .inr (4, [.null, .null, .null, .int 0]))] sz) := by
  refine Met.ofW (cc := cX4_init) (maxL := 1) (ret := none) (by decide) rfl ?_
  intro p e s m args below meth c s₁ B hml hv
  obtain ⟨rfl, hsz, hP, hK, hD0⟩ := hv
  have hx := B.exec
  have hb := B.bytes
  have hr := B.returns
  have hts := atoms_spec (ws := wl yX4_init cX4_init 1 none) B.pre
  have htb : ∀ w ∈ tb, w.before _ s = true := fun w h => hts w (List.mem_cons_of_mem _ h)
  have hown : s.vm.findClass RX4 = some m.cls := findClass_of_methodNamed B.named
  have hlocks := B.notSynchronized
  have hin : meth.name = "<init>" := (name_of_methodNamed B.named B.method).1
  subst hsz
  have hD := hD0.self (sz := s.heap.size)
  generalize hAe : va_A [(h0, .inr (4, [.null, .null, .null, .int 0]))] s.heap.size = A at hD ⊢
  have hA : ∀ q : Nat, s.heap.size ≤ q → A q := fun q h => by rw [← hAe]; exact Or.inr h
  have hS : va_S A s.heap s.heap [] := va_S.rf
  have hP : va_P D vwCl [(h0, .inr (4, [.null, .null, .null, .int 0]))] s.heap := hP
  have hl := lv_entry ([.ref h0]) (n := 1) (Nat.le_of_ble_eq_true rfl)
  rw [lg_entry_eq]
  generalize (lg_sl ([.ref h0]) ++ List.replicate (1 - (lg_sl ([.ref h0])).length) Slot.unset).toArray = ls at hl ⊢
  have hl : lv_has ls 1 [(0, .ref h0)] := hl
  refine lv_aload_n hx hb dX4_init_0 rfl (lv_at hl 0 rfl) ?_
  refine W.objInit hx hb hown (htb _ k_140) (htb _ k_22) (htb _ k_23) rfl (by rw [hml]; exact hl.1) rfl dX4_init_1 (Nat.le_of_ble_eq_true rfl) (Nat.le_of_ble_eq_true rfl) ?_
  refine W.eq (g2 := F0 m 4 ls []) rfl ?_
  refine lv_aload_n hx hb dX4_init_4 rfl (lv_at hl 0 rfl) ?_
  refine lv_bipush (v := 120) hx hb dX4_init_5 (by decide) ?_
  refine va_newa (atype := .int) (a0 := (120, .inl (fun _ => 0))) hx hb (htb _ k_54) rfl hK.1 hP hD hS hA (fun cA => nw_i cA) (by decide) (by decide) (by decide) (Nat.le_of_ble_eq_true rfl) (Nat.le_of_ble_eq_true rfl) dX4_init_7 (fun q_1 cA H hK2 hP hD hS => ?_)
  obtain rfl : E 0 = cA := (ka_i (fun C h => by cases h) hK2 0 rfl).symm
  clear hK2
  have hP : va_P D vwCl [(h0, .inr (4, [.null, .null, .null, .int 0])), (q_1, .inl (E 0, 120, .inl (fun _ => 0)))] H := hP
  have hD := toW hP hD rfl
  refine W.widen (k := 1) (n := 120) (Nat.le_of_ble_eq_true rfl) (Nat.le_of_ble_eq_true rfl) ?_
  refine va_putF (D := D) (ci := 4) (v := .ref q_1) (ty := .array .int) (C := RX4) (T := TX4) (N := 4) hx hb htb iX4 tyX4 tyX4_ok nmX4 hown hK.1 hP hD hS 0 rfl rfl 0 (by decide) (htb _ k_141) (fun _ h9 => h9) rfl hin rfl (by decide +kernel) rfl rfl (Nat.le_of_ble_eq_true rfl) dX4_init_9 (fun H locs hP hD hS => ?_)
  have hP : va_P D vwCl [(h0, .inr (4, [.ref q_1, .null, .null, .int 0])), (q_1, .inl (E 0, 120, .inl (fun _ => 0)))] H := hP
  have hD := toW hP hD rfl
  refine lv_aload_n hx hb dX4_init_12 rfl (lv_at hl 0 rfl) ?_
  refine lv_bipush (v := 120) hx hb dX4_init_13 (by decide) ?_
  refine va_newa (atype := .int) (a0 := (120, .inl (fun _ => 0))) hx hb (htb _ k_54) rfl hK.1 hP hD hS hA (fun cA => nw_i cA) (by decide) (by decide) (by decide) (Nat.le_of_ble_eq_true rfl) (Nat.le_of_ble_eq_true rfl) dX4_init_15 (fun q_2 cA H hK2 hP hD hS => ?_)
  obtain rfl : E 0 = cA := (ka_i (fun C h => by cases h) hK2 0 rfl).symm
  clear hK2
  have hP : va_P D vwCl [(h0, .inr (4, [.ref q_1, .null, .null, .int 0])), (q_1, .inl (E 0, 120, .inl (fun _ => 0))), (q_2, .inl (E 0, 120, .inl (fun _ => 0)))] H := hP
  have hD := toW hP hD rfl
  refine W.widen (k := 2) (n := 240) (Nat.le_of_ble_eq_true rfl) (Nat.le_of_ble_eq_true rfl) ?_
  refine va_putF (D := D) (ci := 4) (v := .ref q_2) (ty := .array .int) (C := RX4) (T := TX4) (N := 4) hx hb htb iX4 tyX4 tyX4_ok nmX4 hown hK.1 hP hD hS 0 rfl rfl 1 (by decide) (htb _ k_142) (fun _ h9 => h9) rfl hin rfl (by decide +kernel) rfl rfl (Nat.le_of_ble_eq_true rfl) dX4_init_17 (fun H locs hP hD hS => ?_)
  have hP : va_P D vwCl [(h0, .inr (4, [.ref q_1, .ref q_2, .null, .int 0])), (q_1, .inl (E 0, 120, .inl (fun _ => 0))), (q_2, .inl (E 0, 120, .inl (fun _ => 0)))] H := hP
  have hD := toW hP hD rfl
  refine lv_aload_n hx hb dX4_init_20 rfl (lv_at hl 0 rfl) ?_
  refine lv_bipush (v := 120) hx hb dX4_init_21 (by decide) ?_
  refine va_newa (atype := .int) (a0 := (120, .inl (fun _ => 0))) hx hb (htb _ k_54) rfl hK.1 hP hD hS hA (fun cA => nw_i cA) (by decide) (by decide) (by decide) (Nat.le_of_ble_eq_true rfl) (Nat.le_of_ble_eq_true rfl) dX4_init_23 (fun q_3 cA H hK2 hP hD hS => ?_)
  obtain rfl : E 0 = cA := (ka_i (fun C h => by cases h) hK2 0 rfl).symm
  clear hK2
  have hP : va_P D vwCl [(h0, .inr (4, [.ref q_1, .ref q_2, .null, .int 0])), (q_1, .inl (E 0, 120, .inl (fun _ => 0))), (q_2, .inl (E 0, 120, .inl (fun _ => 0))), (q_3, .inl (E 0, 120, .inl (fun _ => 0)))] H := hP
  have hD := toW hP hD rfl
  refine W.widen (k := 3) (n := 360) (Nat.le_of_ble_eq_true rfl) (Nat.le_of_ble_eq_true rfl) ?_
  refine va_putF (D := D) (ci := 4) (v := .ref q_3) (ty := .array .int) (C := RX4) (T := TX4) (N := 4) hx hb htb iX4 tyX4 tyX4_ok nmX4 hown hK.1 hP hD hS 0 rfl rfl 2 (by decide) (htb _ k_143) (fun _ h9 => h9) rfl hin rfl (by decide +kernel) rfl rfl (Nat.le_of_ble_eq_true rfl) dX4_init_25 (fun H locs hP hD hS => ?_)
  have hP : va_P D vwCl [(h0, .inr (4, [.ref q_1, .ref q_2, .ref q_3, .int 0])), (q_1, .inl (E 0, 120, .inl (fun _ => 0))), (q_2, .inl (E 0, 120, .inl (fun _ => 0))), (q_3, .inl (E 0, 120, .inl (fun _ => 0)))] H := hP
  have hD := toW hP hD rfl
  refine lv_aload_n hx hb dX4_init_28 rfl (lv_at hl 0 rfl) ?_
  refine lv_iconst (v := 0) hx hb dX4_init_29 (by decide) ?_
  refine va_put (D := D) (ci := 4) (v := .int 0) (ty := .int) (C := RX4) (T := TX4) (N := 4) hx hb htb iX4 tyX4 tyX4_ok nmX4 hown hK.1 hP hD hS 0 rfl rfl 3 (by decide) (htb _ k_144) (fun _ h9 => h9) rfl (by decide +kernel) rfl rfl (Nat.le_of_ble_eq_true rfl) dX4_init_30 (fun H locs hP hD hS => ?_)
  have hP : va_P D vwCl [(h0, .inr (4, [.ref q_1, .ref q_2, .ref q_3, .int 0])), (q_1, .inl (E 0, 120, .inl (fun _ => 0))), (q_2, .inl (E 0, 120, .inl (fun _ => 0))), (q_3, .inl (E 0, 120, .inl (fun _ => 0)))] H := hP
  have hD := toW hP hD rfl
  have hP9 := hP.sub (ws' := [(h0, .inr (4, [.ref q_1, .ref q_2, .ref q_3, .int 0])), (q_1, .inl (E 0, 120, .inl (fun _ => 0))), (q_2, .inl (E 0, 120, .inl (fun _ => 0))), (q_3, .inl (E 0, 120, .inl (fun _ => 0)))]) [0, 1, 2, 3] rfl
  have hD9 := hD.sub (ws' := [(h0, .inr (4, [.ref q_1, .ref q_2, .ref q_3, .int 0])), (q_1, .inl (E 0, 120, .inl (fun _ => 0))), (q_2, .inl (E 0, 120, .inl (fun _ => 0))), (q_3, .inl (E 0, 120, .inl (fun _ => 0)))]) [0, 1, 2, 3] (by decide) rfl
  exact W.vret hx hb hr (fun t ht hW => ⟨⟨(fun k => ([q_1, q_2, q_3, 0] : List Nat).getD k 0), rfl, trivial, by rw [ht]; exact hP9, hD9⟩, hS.F ht⟩) hS.2.2 dX4_init_33
set_option maxHeartbeats 4000000 in
set_option maxRecDepth 100000 in
theorem c_X5_init (l : Launch) (D : va_G) (E : Nat → Nat) (h0 : Nat) (sz : Nat)  : Met l yX5_init (wl yX5_init cX5_init 1 none) (RM 1 7 175) (mu_P D E [.ref h0] [(h0, .inr (5, [.null, .null, .null, .null, .null, .null, .null, .int 0, .int 0, .int 0, .int 0]))] sz) (va_Qv (fun (u : Nat → Nat) => True) (mu_B D (va_A [(h0, .inr (5, [.null, .null, .null, .null, .null, .null, .null, .int 0, .int 0, .int 0, .int 0]))] sz) (fun (u : Nat → Nat) => [(h0, .inr (5, G5 u 0 0 0 0)), ((u 0), .inl (E 0, 3, .inl (fun _ => 0))), ((u 1), .inl (E 0, 3, .inl (fun _ => 0))), ((u 2), .inl (E 0, 3, .inl (fun _ => 0))), ((u 3), .inl (E 0, 3, .inl (fun _ => 0))), ((u 4), .inl (E 0, 3, .inl (fun _ => 0))), ((u 5), .inl (E 0, 40, .inl (fun _ => 0))), ((u 6), .inl (E 0, 120, .inl (fun _ => 0)))])) (va_A [(h0, .inr (5, [.null, .null, .null, .null, .null, .null, .null, .int 0, .int 0, .int 0, .int 0]))] sz)) 7 175 (va_A [(h0, .inr (5, [.null, .null, .null, .null, .null, .null, .null, .int 0, .int 0, .int 0, .int 0]))] sz) := by
  refine Met.ofW (cc := cX5_init) (maxL := 1) (ret := none) (by decide) rfl ?_
  intro p e s m args below meth c s₁ B hml hv
  obtain ⟨rfl, hsz, hP, hK, hD0⟩ := hv
  have hx := B.exec
  have hb := B.bytes
  have hr := B.returns
  have hts := atoms_spec (ws := wl yX5_init cX5_init 1 none) B.pre
  have htb : ∀ w ∈ tb, w.before _ s = true := fun w h => hts w (List.mem_cons_of_mem _ h)
  have hown : s.vm.findClass RX5 = some m.cls := findClass_of_methodNamed B.named
  have hlocks := B.notSynchronized
  have hin : meth.name = "<init>" := (name_of_methodNamed B.named B.method).1
  subst hsz
  have hD := hD0.self (sz := s.heap.size)
  generalize hAe : va_A [(h0, .inr (5, [.null, .null, .null, .null, .null, .null, .null, .int 0, .int 0, .int 0, .int 0]))] s.heap.size = A at hD ⊢
  have hA : ∀ q : Nat, s.heap.size ≤ q → A q := fun q h => by rw [← hAe]; exact Or.inr h
  have hS : va_S A s.heap s.heap [] := va_S.rf
  have hP : va_P D vwCl [(h0, .inr (5, [.null, .null, .null, .null, .null, .null, .null, .int 0, .int 0, .int 0, .int 0]))] s.heap := hP
  have hl := lv_entry ([.ref h0]) (n := 1) (Nat.le_of_ble_eq_true rfl)
  rw [lg_entry_eq]
  generalize (lg_sl ([.ref h0]) ++ List.replicate (1 - (lg_sl ([.ref h0])).length) Slot.unset).toArray = ls at hl ⊢
  have hl : lv_has ls 1 [(0, .ref h0)] := hl
  refine lv_aload_n hx hb dX5_init_0 rfl (lv_at hl 0 rfl) ?_
  refine W.objInit hx hb hown (htb _ k_227) (htb _ k_22) (htb _ k_23) rfl (by rw [hml]; exact hl.1) rfl dX5_init_1 (Nat.le_of_ble_eq_true rfl) (Nat.le_of_ble_eq_true rfl) ?_
  refine W.eq (g2 := F0 m 4 ls []) rfl ?_
  refine lv_aload_n hx hb dX5_init_4 rfl (lv_at hl 0 rfl) ?_
  refine lv_iconst (v := 3) hx hb dX5_init_5 (by decide) ?_
  refine va_newa (atype := .int) (a0 := (3, .inl (fun _ => 0))) hx hb (htb _ k_54) rfl hK.1 hP hD hS hA (fun cA => nw_i cA) (by decide) (by decide) (by decide) (Nat.le_of_ble_eq_true rfl) (Nat.le_of_ble_eq_true rfl) dX5_init_6 (fun q_1 cA H hK2 hP hD hS => ?_)
  obtain rfl : E 0 = cA := (ka_i (fun C h => by cases h) hK2 0 rfl).symm
  clear hK2
  have hP : va_P D vwCl [(h0, .inr (5, [.null, .null, .null, .null, .null, .null, .null, .int 0, .int 0, .int 0, .int 0])), (q_1, .inl (E 0, 3, .inl (fun _ => 0)))] H := hP
  have hD := toW hP hD rfl
  refine W.widen (k := 1) (n := 3) (Nat.le_of_ble_eq_true rfl) (Nat.le_of_ble_eq_true rfl) ?_
  refine va_putF (D := D) (ci := 5) (v := .ref q_1) (ty := .array .int) (C := RX5) (T := TX5) (N := 11) hx hb htb iX5 tyX5 tyX5_ok nmX5 hown hK.1 hP hD hS 0 rfl rfl 0 (by decide) (htb _ k_228) (fun _ h9 => h9) rfl hin rfl (by decide +kernel) rfl rfl (Nat.le_of_ble_eq_true rfl) dX5_init_8 (fun H locs hP hD hS => ?_)
  have hP : va_P D vwCl [(h0, .inr (5, [.ref q_1, .null, .null, .null, .null, .null, .null, .int 0, .int 0, .int 0, .int 0])), (q_1, .inl (E 0, 3, .inl (fun _ => 0)))] H := hP
  have hD := toW hP hD rfl
  refine lv_aload_n hx hb dX5_init_11 rfl (lv_at hl 0 rfl) ?_
  refine lv_iconst (v := 3) hx hb dX5_init_12 (by decide) ?_
  refine va_newa (atype := .int) (a0 := (3, .inl (fun _ => 0))) hx hb (htb _ k_54) rfl hK.1 hP hD hS hA (fun cA => nw_i cA) (by decide) (by decide) (by decide) (Nat.le_of_ble_eq_true rfl) (Nat.le_of_ble_eq_true rfl) dX5_init_13 (fun q_2 cA H hK2 hP hD hS => ?_)
  obtain rfl : E 0 = cA := (ka_i (fun C h => by cases h) hK2 0 rfl).symm
  clear hK2
  have hP : va_P D vwCl [(h0, .inr (5, [.ref q_1, .null, .null, .null, .null, .null, .null, .int 0, .int 0, .int 0, .int 0])), (q_1, .inl (E 0, 3, .inl (fun _ => 0))), (q_2, .inl (E 0, 3, .inl (fun _ => 0)))] H := hP
  have hD := toW hP hD rfl
  refine W.widen (k := 2) (n := 6) (Nat.le_of_ble_eq_true rfl) (Nat.le_of_ble_eq_true rfl) ?_
  refine va_putF (D := D) (ci := 5) (v := .ref q_2) (ty := .array .int) (C := RX5) (T := TX5) (N := 11) hx hb htb iX5 tyX5 tyX5_ok nmX5 hown hK.1 hP hD hS 0 rfl rfl 1 (by decide) (htb _ k_230) (fun _ h9 => h9) rfl hin rfl (by decide +kernel) rfl rfl (Nat.le_of_ble_eq_true rfl) dX5_init_15 (fun H locs hP hD hS => ?_)
  have hP : va_P D vwCl [(h0, .inr (5, [.ref q_1, .ref q_2, .null, .null, .null, .null, .null, .int 0, .int 0, .int 0, .int 0])), (q_1, .inl (E 0, 3, .inl (fun _ => 0))), (q_2, .inl (E 0, 3, .inl (fun _ => 0)))] H := hP
  have hD := toW hP hD rfl
  refine lv_aload_n hx hb dX5_init_18 rfl (lv_at hl 0 rfl) ?_
  refine lv_iconst (v := 3) hx hb dX5_init_19 (by decide) ?_
  refine va_newa (atype := .int) (a0 := (3, .inl (fun _ => 0))) hx hb (htb _ k_54) rfl hK.1 hP hD hS hA (fun cA => nw_i cA) (by decide) (by decide) (by decide) (Nat.le_of_ble_eq_true rfl) (Nat.le_of_ble_eq_true rfl) dX5_init_20 (fun q_3 cA H hK2 hP hD hS => ?_)
  obtain rfl : E 0 = cA := (ka_i (fun C h => by cases h) hK2 0 rfl).symm
  clear hK2
  have hP : va_P D vwCl [(h0, .inr (5, [.ref q_1, .ref q_2, .null, .null, .null, .null, .null, .int 0, .int 0, .int 0, .int 0])), (q_1, .inl (E 0, 3, .inl (fun _ => 0))), (q_2, .inl (E 0, 3, .inl (fun _ => 0))), (q_3, .inl (E 0, 3, .inl (fun _ => 0)))] H := hP
  have hD := toW hP hD rfl
  refine W.widen (k := 3) (n := 9) (Nat.le_of_ble_eq_true rfl) (Nat.le_of_ble_eq_true rfl) ?_
  refine va_putF (D := D) (ci := 5) (v := .ref q_3) (ty := .array .int) (C := RX5) (T := TX5) (N := 11) hx hb htb iX5 tyX5 tyX5_ok nmX5 hown hK.1 hP hD hS 0 rfl rfl 2 (by decide) (htb _ k_232) (fun _ h9 => h9) rfl hin rfl (by decide +kernel) rfl rfl (Nat.le_of_ble_eq_true rfl) dX5_init_22 (fun H locs hP hD hS => ?_)
  have hP : va_P D vwCl [(h0, .inr (5, [.ref q_1, .ref q_2, .ref q_3, .null, .null, .null, .null, .int 0, .int 0, .int 0, .int 0])), (q_1, .inl (E 0, 3, .inl (fun _ => 0))), (q_2, .inl (E 0, 3, .inl (fun _ => 0))), (q_3, .inl (E 0, 3, .inl (fun _ => 0)))] H := hP
  have hD := toW hP hD rfl
  refine lv_aload_n hx hb dX5_init_25 rfl (lv_at hl 0 rfl) ?_
  refine lv_iconst (v := 3) hx hb dX5_init_26 (by decide) ?_
  refine va_newa (atype := .int) (a0 := (3, .inl (fun _ => 0))) hx hb (htb _ k_54) rfl hK.1 hP hD hS hA (fun cA => nw_i cA) (by decide) (by decide) (by decide) (Nat.le_of_ble_eq_true rfl) (Nat.le_of_ble_eq_true rfl) dX5_init_27 (fun q_4 cA H hK2 hP hD hS => ?_)
  obtain rfl : E 0 = cA := (ka_i (fun C h => by cases h) hK2 0 rfl).symm
  clear hK2
  have hP : va_P D vwCl [(h0, .inr (5, [.ref q_1, .ref q_2, .ref q_3, .null, .null, .null, .null, .int 0, .int 0, .int 0, .int 0])), (q_1, .inl (E 0, 3, .inl (fun _ => 0))), (q_2, .inl (E 0, 3, .inl (fun _ => 0))), (q_3, .inl (E 0, 3, .inl (fun _ => 0))), (q_4, .inl (E 0, 3, .inl (fun _ => 0)))] H := hP
  have hD := toW hP hD rfl
  refine W.widen (k := 4) (n := 12) (Nat.le_of_ble_eq_true rfl) (Nat.le_of_ble_eq_true rfl) ?_
  refine va_putF (D := D) (ci := 5) (v := .ref q_4) (ty := .array .int) (C := RX5) (T := TX5) (N := 11) hx hb htb iX5 tyX5 tyX5_ok nmX5 hown hK.1 hP hD hS 0 rfl rfl 3 (by decide) (htb _ k_234) (fun _ h9 => h9) rfl hin rfl (by decide +kernel) rfl rfl (Nat.le_of_ble_eq_true rfl) dX5_init_29 (fun H locs hP hD hS => ?_)
  have hP : va_P D vwCl [(h0, .inr (5, [.ref q_1, .ref q_2, .ref q_3, .ref q_4, .null, .null, .null, .int 0, .int 0, .int 0, .int 0])), (q_1, .inl (E 0, 3, .inl (fun _ => 0))), (q_2, .inl (E 0, 3, .inl (fun _ => 0))), (q_3, .inl (E 0, 3, .inl (fun _ => 0))), (q_4, .inl (E 0, 3, .inl (fun _ => 0)))] H := hP
  have hD := toW hP hD rfl
  refine lv_aload_n hx hb dX5_init_32 rfl (lv_at hl 0 rfl) ?_
  refine lv_iconst (v := 3) hx hb dX5_init_33 (by decide) ?_
  refine va_newa (atype := .int) (a0 := (3, .inl (fun _ => 0))) hx hb (htb _ k_54) rfl hK.1 hP hD hS hA (fun cA => nw_i cA) (by decide) (by decide) (by decide) (Nat.le_of_ble_eq_true rfl) (Nat.le_of_ble_eq_true rfl) dX5_init_34 (fun q_5 cA H hK2 hP hD hS => ?_)
  obtain rfl : E 0 = cA := (ka_i (fun C h => by cases h) hK2 0 rfl).symm
  clear hK2
  have hP : va_P D vwCl [(h0, .inr (5, [.ref q_1, .ref q_2, .ref q_3, .ref q_4, .null, .null, .null, .int 0, .int 0, .int 0, .int 0])), (q_1, .inl (E 0, 3, .inl (fun _ => 0))), (q_2, .inl (E 0, 3, .inl (fun _ => 0))), (q_3, .inl (E 0, 3, .inl (fun _ => 0))), (q_4, .inl (E 0, 3, .inl (fun _ => 0))), (q_5, .inl (E 0, 3, .inl (fun _ => 0)))] H := hP
  have hD := toW hP hD rfl
  refine W.widen (k := 5) (n := 15) (Nat.le_of_ble_eq_true rfl) (Nat.le_of_ble_eq_true rfl) ?_
  refine va_putF (D := D) (ci := 5) (v := .ref q_5) (ty := .array .int) (C := RX5) (T := TX5) (N := 11) hx hb htb iX5 tyX5 tyX5_ok nmX5 hown hK.1 hP hD hS 0 rfl rfl 4 (by decide) (htb _ k_236) (fun _ h9 => h9) rfl hin rfl (by decide +kernel) rfl rfl (Nat.le_of_ble_eq_true rfl) dX5_init_36 (fun H locs hP hD hS => ?_)
  have hP : va_P D vwCl [(h0, .inr (5, [.ref q_1, .ref q_2, .ref q_3, .ref q_4, .ref q_5, .null, .null, .int 0, .int 0, .int 0, .int 0])), (q_1, .inl (E 0, 3, .inl (fun _ => 0))), (q_2, .inl (E 0, 3, .inl (fun _ => 0))), (q_3, .inl (E 0, 3, .inl (fun _ => 0))), (q_4, .inl (E 0, 3, .inl (fun _ => 0))), (q_5, .inl (E 0, 3, .inl (fun _ => 0)))] H := hP
  have hD := toW hP hD rfl
  refine lv_aload_n hx hb dX5_init_39 rfl (lv_at hl 0 rfl) ?_
  refine lv_bipush (v := 40) hx hb dX5_init_40 (by decide) ?_
  refine va_newa (atype := .int) (a0 := (40, .inl (fun _ => 0))) hx hb (htb _ k_54) rfl hK.1 hP hD hS hA (fun cA => nw_i cA) (by decide) (by decide) (by decide) (Nat.le_of_ble_eq_true rfl) (Nat.le_of_ble_eq_true rfl) dX5_init_42 (fun q_6 cA H hK2 hP hD hS => ?_)
  obtain rfl : E 0 = cA := (ka_i (fun C h => by cases h) hK2 0 rfl).symm
  clear hK2
  have hP : va_P D vwCl [(h0, .inr (5, [.ref q_1, .ref q_2, .ref q_3, .ref q_4, .ref q_5, .null, .null, .int 0, .int 0, .int 0, .int 0])), (q_1, .inl (E 0, 3, .inl (fun _ => 0))), (q_2, .inl (E 0, 3, .inl (fun _ => 0))), (q_3, .inl (E 0, 3, .inl (fun _ => 0))), (q_4, .inl (E 0, 3, .inl (fun _ => 0))), (q_5, .inl (E 0, 3, .inl (fun _ => 0))), (q_6, .inl (E 0, 40, .inl (fun _ => 0)))] H := hP
  have hD := toW hP hD rfl
  refine W.widen (k := 6) (n := 55) (Nat.le_of_ble_eq_true rfl) (Nat.le_of_ble_eq_true rfl) ?_
  refine va_putF (D := D) (ci := 5) (v := .ref q_6) (ty := .array .int) (C := RX5) (T := TX5) (N := 11) hx hb htb iX5 tyX5 tyX5_ok nmX5 hown hK.1 hP hD hS 0 rfl rfl 5 (by decide) (htb _ k_238) (fun _ h9 => h9) rfl hin rfl (by decide +kernel) rfl rfl (Nat.le_of_ble_eq_true rfl) dX5_init_44 (fun H locs hP hD hS => ?_)
  have hP : va_P D vwCl [(h0, .inr (5, [.ref q_1, .ref q_2, .ref q_3, .ref q_4, .ref q_5, .ref q_6, .null, .int 0, .int 0, .int 0, .int 0])), (q_1, .inl (E 0, 3, .inl (fun _ => 0))), (q_2, .inl (E 0, 3, .inl (fun _ => 0))), (q_3, .inl (E 0, 3, .inl (fun _ => 0))), (q_4, .inl (E 0, 3, .inl (fun _ => 0))), (q_5, .inl (E 0, 3, .inl (fun _ => 0))), (q_6, .inl (E 0, 40, .inl (fun _ => 0)))] H := hP
  have hD := toW hP hD rfl
  refine lv_aload_n hx hb dX5_init_47 rfl (lv_at hl 0 rfl) ?_
  refine lv_bipush (v := 120) hx hb dX5_init_48 (by decide) ?_
  refine va_newa (atype := .int) (a0 := (120, .inl (fun _ => 0))) hx hb (htb _ k_54) rfl hK.1 hP hD hS hA (fun cA => nw_i cA) (by decide) (by decide) (by decide) (Nat.le_of_ble_eq_true rfl) (Nat.le_of_ble_eq_true rfl) dX5_init_50 (fun q_7 cA H hK2 hP hD hS => ?_)
  obtain rfl : E 0 = cA := (ka_i (fun C h => by cases h) hK2 0 rfl).symm
  clear hK2
  have hP : va_P D vwCl [(h0, .inr (5, [.ref q_1, .ref q_2, .ref q_3, .ref q_4, .ref q_5, .ref q_6, .null, .int 0, .int 0, .int 0, .int 0])), (q_1, .inl (E 0, 3, .inl (fun _ => 0))), (q_2, .inl (E 0, 3, .inl (fun _ => 0))), (q_3, .inl (E 0, 3, .inl (fun _ => 0))), (q_4, .inl (E 0, 3, .inl (fun _ => 0))), (q_5, .inl (E 0, 3, .inl (fun _ => 0))), (q_6, .inl (E 0, 40, .inl (fun _ => 0))), (q_7, .inl (E 0, 120, .inl (fun _ => 0)))] H := hP
  have hD := toW hP hD rfl
  refine W.widen (k := 7) (n := 175) (Nat.le_of_ble_eq_true rfl) (Nat.le_of_ble_eq_true rfl) ?_
  refine va_putF (D := D) (ci := 5) (v := .ref q_7) (ty := .array .int) (C := RX5) (T := TX5) (N := 11) hx hb htb iX5 tyX5 tyX5_ok nmX5 hown hK.1 hP hD hS 0 rfl rfl 6 (by decide) (htb _ k_240) (fun _ h9 => h9) rfl hin rfl (by decide +kernel) rfl rfl (Nat.le_of_ble_eq_true rfl) dX5_init_52 (fun H locs hP hD hS => ?_)
  have hP : va_P D vwCl [(h0, .inr (5, [.ref q_1, .ref q_2, .ref q_3, .ref q_4, .ref q_5, .ref q_6, .ref q_7, .int 0, .int 0, .int 0, .int 0])), (q_1, .inl (E 0, 3, .inl (fun _ => 0))), (q_2, .inl (E 0, 3, .inl (fun _ => 0))), (q_3, .inl (E 0, 3, .inl (fun _ => 0))), (q_4, .inl (E 0, 3, .inl (fun _ => 0))), (q_5, .inl (E 0, 3, .inl (fun _ => 0))), (q_6, .inl (E 0, 40, .inl (fun _ => 0))), (q_7, .inl (E 0, 120, .inl (fun _ => 0)))] H := hP
  have hD := toW hP hD rfl
  refine lv_aload_n hx hb dX5_init_55 rfl (lv_at hl 0 rfl) ?_
  refine lv_iconst (v := 0) hx hb dX5_init_56 (by decide) ?_
  refine va_put (D := D) (ci := 5) (v := .int 0) (ty := .int) (C := RX5) (T := TX5) (N := 11) hx hb htb iX5 tyX5 tyX5_ok nmX5 hown hK.1 hP hD hS 0 rfl rfl 7 (by decide) (htb _ k_241) (fun _ h9 => h9) rfl (by decide +kernel) rfl rfl (Nat.le_of_ble_eq_true rfl) dX5_init_57 (fun H locs hP hD hS => ?_)
  have hP : va_P D vwCl [(h0, .inr (5, [.ref q_1, .ref q_2, .ref q_3, .ref q_4, .ref q_5, .ref q_6, .ref q_7, .int 0, .int 0, .int 0, .int 0])), (q_1, .inl (E 0, 3, .inl (fun _ => 0))), (q_2, .inl (E 0, 3, .inl (fun _ => 0))), (q_3, .inl (E 0, 3, .inl (fun _ => 0))), (q_4, .inl (E 0, 3, .inl (fun _ => 0))), (q_5, .inl (E 0, 3, .inl (fun _ => 0))), (q_6, .inl (E 0, 40, .inl (fun _ => 0))), (q_7, .inl (E 0, 120, .inl (fun _ => 0)))] H := hP
  have hD := toW hP hD rfl
  refine lv_aload_n hx hb dX5_init_60 rfl (lv_at hl 0 rfl) ?_
  refine lv_iconst (v := 0) hx hb dX5_init_61 (by decide) ?_
  refine va_put (D := D) (ci := 5) (v := .int 0) (ty := .int) (C := RX5) (T := TX5) (N := 11) hx hb htb iX5 tyX5 tyX5_ok nmX5 hown hK.1 hP hD hS 0 rfl rfl 8 (by decide) (htb _ k_243) (fun _ h9 => h9) rfl (by decide +kernel) rfl rfl (Nat.le_of_ble_eq_true rfl) dX5_init_62 (fun H locs hP hD hS => ?_)
  have hP : va_P D vwCl [(h0, .inr (5, [.ref q_1, .ref q_2, .ref q_3, .ref q_4, .ref q_5, .ref q_6, .ref q_7, .int 0, .int 0, .int 0, .int 0])), (q_1, .inl (E 0, 3, .inl (fun _ => 0))), (q_2, .inl (E 0, 3, .inl (fun _ => 0))), (q_3, .inl (E 0, 3, .inl (fun _ => 0))), (q_4, .inl (E 0, 3, .inl (fun _ => 0))), (q_5, .inl (E 0, 3, .inl (fun _ => 0))), (q_6, .inl (E 0, 40, .inl (fun _ => 0))), (q_7, .inl (E 0, 120, .inl (fun _ => 0)))] H := hP
  have hD := toW hP hD rfl
  refine lv_aload_n hx hb dX5_init_65 rfl (lv_at hl 0 rfl) ?_
  refine lv_iconst (v := 0) hx hb dX5_init_66 (by decide) ?_
  refine va_put (D := D) (ci := 5) (v := .int 0) (ty := .int) (C := RX5) (T := TX5) (N := 11) hx hb htb iX5 tyX5 tyX5_ok nmX5 hown hK.1 hP hD hS 0 rfl rfl 9 (by decide) (htb _ k_245) (fun _ h9 => h9) rfl (by decide +kernel) rfl rfl (Nat.le_of_ble_eq_true rfl) dX5_init_67 (fun H locs hP hD hS => ?_)
  have hP : va_P D vwCl [(h0, .inr (5, [.ref q_1, .ref q_2, .ref q_3, .ref q_4, .ref q_5, .ref q_6, .ref q_7, .int 0, .int 0, .int 0, .int 0])), (q_1, .inl (E 0, 3, .inl (fun _ => 0))), (q_2, .inl (E 0, 3, .inl (fun _ => 0))), (q_3, .inl (E 0, 3, .inl (fun _ => 0))), (q_4, .inl (E 0, 3, .inl (fun _ => 0))), (q_5, .inl (E 0, 3, .inl (fun _ => 0))), (q_6, .inl (E 0, 40, .inl (fun _ => 0))), (q_7, .inl (E 0, 120, .inl (fun _ => 0)))] H := hP
  have hD := toW hP hD rfl
  refine lv_aload_n hx hb dX5_init_70 rfl (lv_at hl 0 rfl) ?_
  refine lv_iconst (v := 0) hx hb dX5_init_71 (by decide) ?_
  refine va_put (D := D) (ci := 5) (v := .int 0) (ty := .int) (C := RX5) (T := TX5) (N := 11) hx hb htb iX5 tyX5 tyX5_ok nmX5 hown hK.1 hP hD hS 0 rfl rfl 10 (by decide) (htb _ k_247) (fun _ h9 => h9) rfl (by decide +kernel) rfl rfl (Nat.le_of_ble_eq_true rfl) dX5_init_72 (fun H locs hP hD hS => ?_)
  have hP : va_P D vwCl [(h0, .inr (5, [.ref q_1, .ref q_2, .ref q_3, .ref q_4, .ref q_5, .ref q_6, .ref q_7, .int 0, .int 0, .int 0, .int 0])), (q_1, .inl (E 0, 3, .inl (fun _ => 0))), (q_2, .inl (E 0, 3, .inl (fun _ => 0))), (q_3, .inl (E 0, 3, .inl (fun _ => 0))), (q_4, .inl (E 0, 3, .inl (fun _ => 0))), (q_5, .inl (E 0, 3, .inl (fun _ => 0))), (q_6, .inl (E 0, 40, .inl (fun _ => 0))), (q_7, .inl (E 0, 120, .inl (fun _ => 0)))] H := hP
  have hD := toW hP hD rfl
  have hP9 := hP.sub (ws' := [(h0, .inr (5, [.ref q_1, .ref q_2, .ref q_3, .ref q_4, .ref q_5, .ref q_6, .ref q_7, .int 0, .int 0, .int 0, .int 0])), (q_1, .inl (E 0, 3, .inl (fun _ => 0))), (q_2, .inl (E 0, 3, .inl (fun _ => 0))), (q_3, .inl (E 0, 3, .inl (fun _ => 0))), (q_4, .inl (E 0, 3, .inl (fun _ => 0))), (q_5, .inl (E 0, 3, .inl (fun _ => 0))), (q_6, .inl (E 0, 40, .inl (fun _ => 0))), (q_7, .inl (E 0, 120, .inl (fun _ => 0)))]) [0, 1, 2, 3, 4, 5, 6, 7] rfl
  have hD9 := hD.sub (ws' := [(h0, .inr (5, [.ref q_1, .ref q_2, .ref q_3, .ref q_4, .ref q_5, .ref q_6, .ref q_7, .int 0, .int 0, .int 0, .int 0])), (q_1, .inl (E 0, 3, .inl (fun _ => 0))), (q_2, .inl (E 0, 3, .inl (fun _ => 0))), (q_3, .inl (E 0, 3, .inl (fun _ => 0))), (q_4, .inl (E 0, 3, .inl (fun _ => 0))), (q_5, .inl (E 0, 3, .inl (fun _ => 0))), (q_6, .inl (E 0, 40, .inl (fun _ => 0))), (q_7, .inl (E 0, 120, .inl (fun _ => 0)))]) [0, 1, 2, 3, 4, 5, 6, 7] (by decide) rfl
  exact W.vret hx hb hr (fun t ht hW => ⟨⟨(fun k => ([q_1, q_2, q_3, q_4, q_5, q_6, q_7, 0, 0, 0, 0] : List Nat).getD k 0), rfl, trivial, by rw [ht]; exact hP9, hD9⟩, hS.F ht⟩) hS.2.2 dX5_init_75
set_option maxHeartbeats 4000000 in
set_option maxRecDepth 100000 in
theorem c_X7_init (l : Launch) (D : va_G) (E : Nat → Nat) (h0 : Nat) (sz : Nat)  : Met l yX7_init (wl yX7_init cX7_init 1 none) (RM 1 4 1600) (mu_P D E [.ref h0] [(h0, .inr (7, [.null, .null, .null, .null]))] sz) (va_Qv (fun (u : Nat → Nat) => True) (mu_B D (va_A [(h0, .inr (7, [.null, .null, .null, .null]))] sz) (fun (u : Nat → Nat) => [(h0, .inr (7, G7 u)), ((u 0), .inl (E 0, 400, .inl (fun _ => 0))), ((u 1), .inl (E 0, 400, .inl (fun _ => 0))), ((u 2), .inl (E 0, 400, .inl (fun _ => 0))), ((u 3), .inl (E 0, 400, .inl (fun _ => 0)))])) (va_A [(h0, .inr (7, [.null, .null, .null, .null]))] sz)) 4 1600 (va_A [(h0, .inr (7, [.null, .null, .null, .null]))] sz) := by
  refine Met.ofW (cc := cX7_init) (maxL := 1) (ret := none) (by decide) rfl ?_
  intro p e s m args below meth c s₁ B hml hv
  obtain ⟨rfl, hsz, hP, hK, hD0⟩ := hv
  have hx := B.exec
  have hb := B.bytes
  have hr := B.returns
  have hts := atoms_spec (ws := wl yX7_init cX7_init 1 none) B.pre
  have htb : ∀ w ∈ tb, w.before _ s = true := fun w h => hts w (List.mem_cons_of_mem _ h)
  have hown : s.vm.findClass RX7 = some m.cls := findClass_of_methodNamed B.named
  have hlocks := B.notSynchronized
  have hin : meth.name = "<init>" := (name_of_methodNamed B.named B.method).1
  subst hsz
  have hD := hD0.self (sz := s.heap.size)
  generalize hAe : va_A [(h0, .inr (7, [.null, .null, .null, .null]))] s.heap.size = A at hD ⊢
  have hA : ∀ q : Nat, s.heap.size ≤ q → A q := fun q h => by rw [← hAe]; exact Or.inr h
  have hS : va_S A s.heap s.heap [] := va_S.rf
  have hP : va_P D vwCl [(h0, .inr (7, [.null, .null, .null, .null]))] s.heap := hP
  have hl := lv_entry ([.ref h0]) (n := 1) (Nat.le_of_ble_eq_true rfl)
  rw [lg_entry_eq]
  generalize (lg_sl ([.ref h0]) ++ List.replicate (1 - (lg_sl ([.ref h0])).length) Slot.unset).toArray = ls at hl ⊢
  have hl : lv_has ls 1 [(0, .ref h0)] := hl
  refine lv_aload_n hx hb dX7_init_0 rfl (lv_at hl 0 rfl) ?_
  refine W.objInit hx hb hown (htb _ k_347) (htb _ k_22) (htb _ k_23) rfl (by rw [hml]; exact hl.1) rfl dX7_init_1 (Nat.le_of_ble_eq_true rfl) (Nat.le_of_ble_eq_true rfl) ?_
  refine W.eq (g2 := F0 m 4 ls []) rfl ?_
  refine lv_aload_n hx hb dX7_init_4 rfl (lv_at hl 0 rfl) ?_
  refine lv_sipush (v := 400) hx hb dX7_init_5 (by decide) ?_
  refine va_newa (atype := .int) (a0 := (400, .inl (fun _ => 0))) hx hb (htb _ k_54) rfl hK.1 hP hD hS hA (fun cA => nw_i cA) (by decide) (by decide) (by decide) (Nat.le_of_ble_eq_true rfl) (Nat.le_of_ble_eq_true rfl) dX7_init_8 (fun q_1 cA H hK2 hP hD hS => ?_)
  obtain rfl : E 0 = cA := (ka_i (fun C h => by cases h) hK2 0 rfl).symm
  clear hK2
  have hP : va_P D vwCl [(h0, .inr (7, [.null, .null, .null, .null])), (q_1, .inl (E 0, 400, .inl (fun _ => 0)))] H := hP
  have hD := toW hP hD rfl
  refine W.widen (k := 1) (n := 400) (Nat.le_of_ble_eq_true rfl) (Nat.le_of_ble_eq_true rfl) ?_
  refine va_putF (D := D) (ci := 7) (v := .ref q_1) (ty := .array .int) (C := RX7) (T := TX7) (N := 4) hx hb htb iX7 tyX7 tyX7_ok nmX7 hown hK.1 hP hD hS 0 rfl rfl 0 (by decide) (htb _ k_348) (fun _ h9 => h9) rfl hin rfl (by decide +kernel) rfl rfl (Nat.le_of_ble_eq_true rfl) dX7_init_10 (fun H locs hP hD hS => ?_)
  have hP : va_P D vwCl [(h0, .inr (7, [.ref q_1, .null, .null, .null])), (q_1, .inl (E 0, 400, .inl (fun _ => 0)))] H := hP
  have hD := toW hP hD rfl
  refine lv_aload_n hx hb dX7_init_13 rfl (lv_at hl 0 rfl) ?_
  refine lv_sipush (v := 400) hx hb dX7_init_14 (by decide) ?_
  refine va_newa (atype := .int) (a0 := (400, .inl (fun _ => 0))) hx hb (htb _ k_54) rfl hK.1 hP hD hS hA (fun cA => nw_i cA) (by decide) (by decide) (by decide) (Nat.le_of_ble_eq_true rfl) (Nat.le_of_ble_eq_true rfl) dX7_init_17 (fun q_2 cA H hK2 hP hD hS => ?_)
  obtain rfl : E 0 = cA := (ka_i (fun C h => by cases h) hK2 0 rfl).symm
  clear hK2
  have hP : va_P D vwCl [(h0, .inr (7, [.ref q_1, .null, .null, .null])), (q_1, .inl (E 0, 400, .inl (fun _ => 0))), (q_2, .inl (E 0, 400, .inl (fun _ => 0)))] H := hP
  have hD := toW hP hD rfl
  refine W.widen (k := 2) (n := 800) (Nat.le_of_ble_eq_true rfl) (Nat.le_of_ble_eq_true rfl) ?_
  refine va_putF (D := D) (ci := 7) (v := .ref q_2) (ty := .array .int) (C := RX7) (T := TX7) (N := 4) hx hb htb iX7 tyX7 tyX7_ok nmX7 hown hK.1 hP hD hS 0 rfl rfl 1 (by decide) (htb _ k_349) (fun _ h9 => h9) rfl hin rfl (by decide +kernel) rfl rfl (Nat.le_of_ble_eq_true rfl) dX7_init_19 (fun H locs hP hD hS => ?_)
  have hP : va_P D vwCl [(h0, .inr (7, [.ref q_1, .ref q_2, .null, .null])), (q_1, .inl (E 0, 400, .inl (fun _ => 0))), (q_2, .inl (E 0, 400, .inl (fun _ => 0)))] H := hP
  have hD := toW hP hD rfl
  refine lv_aload_n hx hb dX7_init_22 rfl (lv_at hl 0 rfl) ?_
  refine lv_sipush (v := 400) hx hb dX7_init_23 (by decide) ?_
  refine va_newa (atype := .int) (a0 := (400, .inl (fun _ => 0))) hx hb (htb _ k_54) rfl hK.1 hP hD hS hA (fun cA => nw_i cA) (by decide) (by decide) (by decide) (Nat.le_of_ble_eq_true rfl) (Nat.le_of_ble_eq_true rfl) dX7_init_26 (fun q_3 cA H hK2 hP hD hS => ?_)
  obtain rfl : E 0 = cA := (ka_i (fun C h => by cases h) hK2 0 rfl).symm
  clear hK2
  have hP : va_P D vwCl [(h0, .inr (7, [.ref q_1, .ref q_2, .null, .null])), (q_1, .inl (E 0, 400, .inl (fun _ => 0))), (q_2, .inl (E 0, 400, .inl (fun _ => 0))), (q_3, .inl (E 0, 400, .inl (fun _ => 0)))] H := hP
  have hD := toW hP hD rfl
  refine W.widen (k := 3) (n := 1200) (Nat.le_of_ble_eq_true rfl) (Nat.le_of_ble_eq_true rfl) ?_
  refine va_putF (D := D) (ci := 7) (v := .ref q_3) (ty := .array .int) (C := RX7) (T := TX7) (N := 4) hx hb htb iX7 tyX7 tyX7_ok nmX7 hown hK.1 hP hD hS 0 rfl rfl 2 (by decide) (htb _ k_350) (fun _ h9 => h9) rfl hin rfl (by decide +kernel) rfl rfl (Nat.le_of_ble_eq_true rfl) dX7_init_28 (fun H locs hP hD hS => ?_)
  have hP : va_P D vwCl [(h0, .inr (7, [.ref q_1, .ref q_2, .ref q_3, .null])), (q_1, .inl (E 0, 400, .inl (fun _ => 0))), (q_2, .inl (E 0, 400, .inl (fun _ => 0))), (q_3, .inl (E 0, 400, .inl (fun _ => 0)))] H := hP
  have hD := toW hP hD rfl
  refine lv_aload_n hx hb dX7_init_31 rfl (lv_at hl 0 rfl) ?_
  refine lv_sipush (v := 400) hx hb dX7_init_32 (by decide) ?_
  refine va_newa (atype := .int) (a0 := (400, .inl (fun _ => 0))) hx hb (htb _ k_54) rfl hK.1 hP hD hS hA (fun cA => nw_i cA) (by decide) (by decide) (by decide) (Nat.le_of_ble_eq_true rfl) (Nat.le_of_ble_eq_true rfl) dX7_init_35 (fun q_4 cA H hK2 hP hD hS => ?_)
  obtain rfl : E 0 = cA := (ka_i (fun C h => by cases h) hK2 0 rfl).symm
  clear hK2
  have hP : va_P D vwCl [(h0, .inr (7, [.ref q_1, .ref q_2, .ref q_3, .null])), (q_1, .inl (E 0, 400, .inl (fun _ => 0))), (q_2, .inl (E 0, 400, .inl (fun _ => 0))), (q_3, .inl (E 0, 400, .inl (fun _ => 0))), (q_4, .inl (E 0, 400, .inl (fun _ => 0)))] H := hP
  have hD := toW hP hD rfl
  refine W.widen (k := 4) (n := 1600) (Nat.le_of_ble_eq_true rfl) (Nat.le_of_ble_eq_true rfl) ?_
  refine va_putF (D := D) (ci := 7) (v := .ref q_4) (ty := .array .int) (C := RX7) (T := TX7) (N := 4) hx hb htb iX7 tyX7 tyX7_ok nmX7 hown hK.1 hP hD hS 0 rfl rfl 3 (by decide) (htb _ k_351) (fun _ h9 => h9) rfl hin rfl (by decide +kernel) rfl rfl (Nat.le_of_ble_eq_true rfl) dX7_init_37 (fun H locs hP hD hS => ?_)
  have hP : va_P D vwCl [(h0, .inr (7, [.ref q_1, .ref q_2, .ref q_3, .ref q_4])), (q_1, .inl (E 0, 400, .inl (fun _ => 0))), (q_2, .inl (E 0, 400, .inl (fun _ => 0))), (q_3, .inl (E 0, 400, .inl (fun _ => 0))), (q_4, .inl (E 0, 400, .inl (fun _ => 0)))] H := hP
  have hD := toW hP hD rfl
  have hP9 := hP.sub (ws' := [(h0, .inr (7, [.ref q_1, .ref q_2, .ref q_3, .ref q_4])), (q_1, .inl (E 0, 400, .inl (fun _ => 0))), (q_2, .inl (E 0, 400, .inl (fun _ => 0))), (q_3, .inl (E 0, 400, .inl (fun _ => 0))), (q_4, .inl (E 0, 400, .inl (fun _ => 0)))]) [0, 1, 2, 3, 4] rfl
  have hD9 := hD.sub (ws' := [(h0, .inr (7, [.ref q_1, .ref q_2, .ref q_3, .ref q_4])), (q_1, .inl (E 0, 400, .inl (fun _ => 0))), (q_2, .inl (E 0, 400, .inl (fun _ => 0))), (q_3, .inl (E 0, 400, .inl (fun _ => 0))), (q_4, .inl (E 0, 400, .inl (fun _ => 0)))]) [0, 1, 2, 3, 4] (by decide) rfl
  exact W.vret hx hb hr (fun t ht hW => ⟨⟨(fun k => ([q_1, q_2, q_3, q_4] : List Nat).getD k 0), rfl, trivial, by rw [ht]; exact hP9, hD9⟩, hS.F ht⟩) hS.2.2 dX7_init_40
set_option maxHeartbeats 4000000 in
set_option maxRecDepth 100000 in
theorem c_X0_init (l : Launch) (D : va_G) (E : Nat → Nat) (h0 : Nat) (sz : Nat)  : Met l yX0_init (wl yX0_init cX0_init 1 none) (RM 1 5 33) (mu_P D E [.ref h0] [(h0, .inr (0, [.null, .null, .null, .null, .null, .int 0, .int 0, .int 0, .int 0]))] sz) (va_Qv (fun (u : Nat → Nat) => True) (mu_B D (va_A [(h0, .inr (0, [.null, .null, .null, .null, .null, .int 0, .int 0, .int 0, .int 0]))] sz) (fun (u : Nat → Nat) => [(h0, .inr (0, G0 u 0 0 0 0)), ((u 0), .inl (E 0, 9, .inl (fun _ => 0))), ((u 1), .inl (E 0, 9, .inl (fun _ => 0))), ((u 2), .inl (E 0, 9, .inl (fun _ => 0))), ((u 3), .inl (E 0, 3, .inl (fun _ => 0))), ((u 4), .inl (E 0, 3, .inl (fun _ => 0)))])) (va_A [(h0, .inr (0, [.null, .null, .null, .null, .null, .int 0, .int 0, .int 0, .int 0]))] sz)) 5 33 (va_A [(h0, .inr (0, [.null, .null, .null, .null, .null, .int 0, .int 0, .int 0, .int 0]))] sz) := by
  refine Met.ofW (cc := cX0_init) (maxL := 1) (ret := none) (by decide) rfl ?_
  intro p e s m args below meth c s₁ B hml hv
  obtain ⟨rfl, hsz, hP, hK, hD0⟩ := hv
  have hx := B.exec
  have hb := B.bytes
  have hr := B.returns
  have hts := atoms_spec (ws := wl yX0_init cX0_init 1 none) B.pre
  have htb : ∀ w ∈ tb, w.before _ s = true := fun w h => hts w (List.mem_cons_of_mem _ h)
  have hown : s.vm.findClass RX0 = some m.cls := findClass_of_methodNamed B.named
  have hlocks := B.notSynchronized
  have hin : meth.name = "<init>" := (name_of_methodNamed B.named B.method).1
  subst hsz
  have hD := hD0.self (sz := s.heap.size)
  generalize hAe : va_A [(h0, .inr (0, [.null, .null, .null, .null, .null, .int 0, .int 0, .int 0, .int 0]))] s.heap.size = A at hD ⊢
  have hA : ∀ q : Nat, s.heap.size ≤ q → A q := fun q h => by rw [← hAe]; exact Or.inr h
  have hS : va_S A s.heap s.heap [] := va_S.rf
  have hP : va_P D vwCl [(h0, .inr (0, [.null, .null, .null, .null, .null, .int 0, .int 0, .int 0, .int 0]))] s.heap := hP
  have hl := lv_entry ([.ref h0]) (n := 1) (Nat.le_of_ble_eq_true rfl)
  rw [lg_entry_eq]
  generalize (lg_sl ([.ref h0]) ++ List.replicate (1 - (lg_sl ([.ref h0])).length) Slot.unset).toArray = ls at hl ⊢
  have hl : lv_has ls 1 [(0, .ref h0)] := hl
  refine lv_aload_n hx hb dX0_init_0 rfl (lv_at hl 0 rfl) ?_
  refine W.objInit hx hb hown (htb _ k_189) (htb _ k_22) (htb _ k_23) rfl (by rw [hml]; exact hl.1) rfl dX0_init_1 (Nat.le_of_ble_eq_true rfl) (Nat.le_of_ble_eq_true rfl) ?_
  refine W.eq (g2 := F0 m 4 ls []) rfl ?_
  refine lv_aload_n hx hb dX0_init_4 rfl (lv_at hl 0 rfl) ?_
  refine lv_bipush (v := 9) hx hb dX0_init_5 (by decide) ?_
  refine va_newa (atype := .int) (a0 := (9, .inl (fun _ => 0))) hx hb (htb _ k_54) rfl hK.1 hP hD hS hA (fun cA => nw_i cA) (by decide) (by decide) (by decide) (Nat.le_of_ble_eq_true rfl) (Nat.le_of_ble_eq_true rfl) dX0_init_7 (fun q_1 cA H hK2 hP hD hS => ?_)
  obtain rfl : E 0 = cA := (ka_i (fun C h => by cases h) hK2 0 rfl).symm
  clear hK2
  have hP : va_P D vwCl [(h0, .inr (0, [.null, .null, .null, .null, .null, .int 0, .int 0, .int 0, .int 0])), (q_1, .inl (E 0, 9, .inl (fun _ => 0)))] H := hP
  have hD := toW hP hD rfl
  refine W.widen (k := 1) (n := 9) (Nat.le_of_ble_eq_true rfl) (Nat.le_of_ble_eq_true rfl) ?_
  refine va_putF (D := D) (ci := 0) (v := .ref q_1) (ty := .array .int) (C := RX0) (T := TX0) (N := 9) hx hb htb iX0 tyX0 tyX0_ok nmX0 hown hK.1 hP hD hS 0 rfl rfl 0 (by decide) (htb _ k_190) (fun _ h9 => h9) rfl hin rfl (by decide +kernel) rfl rfl (Nat.le_of_ble_eq_true rfl) dX0_init_9 (fun H locs hP hD hS => ?_)
  have hP : va_P D vwCl [(h0, .inr (0, [.ref q_1, .null, .null, .null, .null, .int 0, .int 0, .int 0, .int 0])), (q_1, .inl (E 0, 9, .inl (fun _ => 0)))] H := hP
  have hD := toW hP hD rfl
  refine lv_aload_n hx hb dX0_init_12 rfl (lv_at hl 0 rfl) ?_
  refine lv_bipush (v := 9) hx hb dX0_init_13 (by decide) ?_
  refine va_newa (atype := .int) (a0 := (9, .inl (fun _ => 0))) hx hb (htb _ k_54) rfl hK.1 hP hD hS hA (fun cA => nw_i cA) (by decide) (by decide) (by decide) (Nat.le_of_ble_eq_true rfl) (Nat.le_of_ble_eq_true rfl) dX0_init_15 (fun q_2 cA H hK2 hP hD hS => ?_)
  obtain rfl : E 0 = cA := (ka_i (fun C h => by cases h) hK2 0 rfl).symm
  clear hK2
  have hP : va_P D vwCl [(h0, .inr (0, [.ref q_1, .null, .null, .null, .null, .int 0, .int 0, .int 0, .int 0])), (q_1, .inl (E 0, 9, .inl (fun _ => 0))), (q_2, .inl (E 0, 9, .inl (fun _ => 0)))] H := hP
  have hD := toW hP hD rfl
  refine W.widen (k := 2) (n := 18) (Nat.le_of_ble_eq_true rfl) (Nat.le_of_ble_eq_true rfl) ?_
  refine va_putF (D := D) (ci := 0) (v := .ref q_2) (ty := .array .int) (C := RX0) (T := TX0) (N := 9) hx hb htb iX0 tyX0 tyX0_ok nmX0 hown hK.1 hP hD hS 0 rfl rfl 1 (by decide) (htb _ k_191) (fun _ h9 => h9) rfl hin rfl (by decide +kernel) rfl rfl (Nat.le_of_ble_eq_true rfl) dX0_init_17 (fun H locs hP hD hS => ?_)
  have hP : va_P D vwCl [(h0, .inr (0, [.ref q_1, .ref q_2, .null, .null, .null, .int 0, .int 0, .int 0, .int 0])), (q_1, .inl (E 0, 9, .inl (fun _ => 0))), (q_2, .inl (E 0, 9, .inl (fun _ => 0)))] H := hP
  have hD := toW hP hD rfl
  refine lv_aload_n hx hb dX0_init_20 rfl (lv_at hl 0 rfl) ?_
  refine lv_bipush (v := 9) hx hb dX0_init_21 (by decide) ?_
  refine va_newa (atype := .int) (a0 := (9, .inl (fun _ => 0))) hx hb (htb _ k_54) rfl hK.1 hP hD hS hA (fun cA => nw_i cA) (by decide) (by decide) (by decide) (Nat.le_of_ble_eq_true rfl) (Nat.le_of_ble_eq_true rfl) dX0_init_23 (fun q_3 cA H hK2 hP hD hS => ?_)
  obtain rfl : E 0 = cA := (ka_i (fun C h => by cases h) hK2 0 rfl).symm
  clear hK2
  have hP : va_P D vwCl [(h0, .inr (0, [.ref q_1, .ref q_2, .null, .null, .null, .int 0, .int 0, .int 0, .int 0])), (q_1, .inl (E 0, 9, .inl (fun _ => 0))), (q_2, .inl (E 0, 9, .inl (fun _ => 0))), (q_3, .inl (E 0, 9, .inl (fun _ => 0)))] H := hP
  have hD := toW hP hD rfl
  refine W.widen (k := 3) (n := 27) (Nat.le_of_ble_eq_true rfl) (Nat.le_of_ble_eq_true rfl) ?_
  refine va_putF (D := D) (ci := 0) (v := .ref q_3) (ty := .array .int) (C := RX0) (T := TX0) (N := 9) hx hb htb iX0 tyX0 tyX0_ok nmX0 hown hK.1 hP hD hS 0 rfl rfl 2 (by decide) (htb _ k_192) (fun _ h9 => h9) rfl hin rfl (by decide +kernel) rfl rfl (Nat.le_of_ble_eq_true rfl) dX0_init_25 (fun H locs hP hD hS => ?_)
  have hP : va_P D vwCl [(h0, .inr (0, [.ref q_1, .ref q_2, .ref q_3, .null, .null, .int 0, .int 0, .int 0, .int 0])), (q_1, .inl (E 0, 9, .inl (fun _ => 0))), (q_2, .inl (E 0, 9, .inl (fun _ => 0))), (q_3, .inl (E 0, 9, .inl (fun _ => 0)))] H := hP
  have hD := toW hP hD rfl
  refine lv_aload_n hx hb dX0_init_28 rfl (lv_at hl 0 rfl) ?_
  refine lv_iconst (v := 3) hx hb dX0_init_29 (by decide) ?_
  refine va_newa (atype := .int) (a0 := (3, .inl (fun _ => 0))) hx hb (htb _ k_54) rfl hK.1 hP hD hS hA (fun cA => nw_i cA) (by decide) (by decide) (by decide) (Nat.le_of_ble_eq_true rfl) (Nat.le_of_ble_eq_true rfl) dX0_init_30 (fun q_4 cA H hK2 hP hD hS => ?_)
  obtain rfl : E 0 = cA := (ka_i (fun C h => by cases h) hK2 0 rfl).symm
  clear hK2
  have hP : va_P D vwCl [(h0, .inr (0, [.ref q_1, .ref q_2, .ref q_3, .null, .null, .int 0, .int 0, .int 0, .int 0])), (q_1, .inl (E 0, 9, .inl (fun _ => 0))), (q_2, .inl (E 0, 9, .inl (fun _ => 0))), (q_3, .inl (E 0, 9, .inl (fun _ => 0))), (q_4, .inl (E 0, 3, .inl (fun _ => 0)))] H := hP
  have hD := toW hP hD rfl
  refine W.widen (k := 4) (n := 30) (Nat.le_of_ble_eq_true rfl) (Nat.le_of_ble_eq_true rfl) ?_
  refine va_putF (D := D) (ci := 0) (v := .ref q_4) (ty := .array .int) (C := RX0) (T := TX0) (N := 9) hx hb htb iX0 tyX0 tyX0_ok nmX0 hown hK.1 hP hD hS 0 rfl rfl 3 (by decide) (htb _ k_194) (fun _ h9 => h9) rfl hin rfl (by decide +kernel) rfl rfl (Nat.le_of_ble_eq_true rfl) dX0_init_32 (fun H locs hP hD hS => ?_)
  have hP : va_P D vwCl [(h0, .inr (0, [.ref q_1, .ref q_2, .ref q_3, .ref q_4, .null, .int 0, .int 0, .int 0, .int 0])), (q_1, .inl (E 0, 9, .inl (fun _ => 0))), (q_2, .inl (E 0, 9, .inl (fun _ => 0))), (q_3, .inl (E 0, 9, .inl (fun _ => 0))), (q_4, .inl (E 0, 3, .inl (fun _ => 0)))] H := hP
  have hD := toW hP hD rfl
  refine lv_aload_n hx hb dX0_init_35 rfl (lv_at hl 0 rfl) ?_
  refine lv_iconst (v := 3) hx hb dX0_init_36 (by decide) ?_
  refine va_newa (atype := .int) (a0 := (3, .inl (fun _ => 0))) hx hb (htb _ k_54) rfl hK.1 hP hD hS hA (fun cA => nw_i cA) (by decide) (by decide) (by decide) (Nat.le_of_ble_eq_true rfl) (Nat.le_of_ble_eq_true rfl) dX0_init_37 (fun q_5 cA H hK2 hP hD hS => ?_)
  obtain rfl : E 0 = cA := (ka_i (fun C h => by cases h) hK2 0 rfl).symm
  clear hK2
  have hP : va_P D vwCl [(h0, .inr (0, [.ref q_1, .ref q_2, .ref q_3, .ref q_4, .null, .int 0, .int 0, .int 0, .int 0])), (q_1, .inl (E 0, 9, .inl (fun _ => 0))), (q_2, .inl (E 0, 9, .inl (fun _ => 0))), (q_3, .inl (E 0, 9, .inl (fun _ => 0))), (q_4, .inl (E 0, 3, .inl (fun _ => 0))), (q_5, .inl (E 0, 3, .inl (fun _ => 0)))] H := hP
  have hD := toW hP hD rfl
  refine W.widen (k := 5) (n := 33) (Nat.le_of_ble_eq_true rfl) (Nat.le_of_ble_eq_true rfl) ?_
  refine va_putF (D := D) (ci := 0) (v := .ref q_5) (ty := .array .int) (C := RX0) (T := TX0) (N := 9) hx hb htb iX0 tyX0 tyX0_ok nmX0 hown hK.1 hP hD hS 0 rfl rfl 4 (by decide) (htb _ k_195) (fun _ h9 => h9) rfl hin rfl (by decide +kernel) rfl rfl (Nat.le_of_ble_eq_true rfl) dX0_init_39 (fun H locs hP hD hS => ?_)
  have hP : va_P D vwCl [(h0, .inr (0, [.ref q_1, .ref q_2, .ref q_3, .ref q_4, .ref q_5, .int 0, .int 0, .int 0, .int 0])), (q_1, .inl (E 0, 9, .inl (fun _ => 0))), (q_2, .inl (E 0, 9, .inl (fun _ => 0))), (q_3, .inl (E 0, 9, .inl (fun _ => 0))), (q_4, .inl (E 0, 3, .inl (fun _ => 0))), (q_5, .inl (E 0, 3, .inl (fun _ => 0)))] H := hP
  have hD := toW hP hD rfl
  refine lv_aload_n hx hb dX0_init_42 rfl (lv_at hl 0 rfl) ?_
  refine lv_iconst (v := 0) hx hb dX0_init_43 (by decide) ?_
  refine va_put (D := D) (ci := 0) (v := .int 0) (ty := .int) (C := RX0) (T := TX0) (N := 9) hx hb htb iX0 tyX0 tyX0_ok nmX0 hown hK.1 hP hD hS 0 rfl rfl 5 (by decide) (htb _ k_196) (fun _ h9 => h9) rfl (by decide +kernel) rfl rfl (Nat.le_of_ble_eq_true rfl) dX0_init_44 (fun H locs hP hD hS => ?_)
  have hP : va_P D vwCl [(h0, .inr (0, [.ref q_1, .ref q_2, .ref q_3, .ref q_4, .ref q_5, .int 0, .int 0, .int 0, .int 0])), (q_1, .inl (E 0, 9, .inl (fun _ => 0))), (q_2, .inl (E 0, 9, .inl (fun _ => 0))), (q_3, .inl (E 0, 9, .inl (fun _ => 0))), (q_4, .inl (E 0, 3, .inl (fun _ => 0))), (q_5, .inl (E 0, 3, .inl (fun _ => 0)))] H := hP
  have hD := toW hP hD rfl
  refine lv_aload_n hx hb dX0_init_47 rfl (lv_at hl 0 rfl) ?_
  refine lv_iconst (v := 0) hx hb dX0_init_48 (by decide) ?_
  refine va_put (D := D) (ci := 0) (v := .int 0) (ty := .int) (C := RX0) (T := TX0) (N := 9) hx hb htb iX0 tyX0 tyX0_ok nmX0 hown hK.1 hP hD hS 0 rfl rfl 6 (by decide) (htb _ k_198) (fun _ h9 => h9) rfl (by decide +kernel) rfl rfl (Nat.le_of_ble_eq_true rfl) dX0_init_49 (fun H locs hP hD hS => ?_)
  have hP : va_P D vwCl [(h0, .inr (0, [.ref q_1, .ref q_2, .ref q_3, .ref q_4, .ref q_5, .int 0, .int 0, .int 0, .int 0])), (q_1, .inl (E 0, 9, .inl (fun _ => 0))), (q_2, .inl (E 0, 9, .inl (fun _ => 0))), (q_3, .inl (E 0, 9, .inl (fun _ => 0))), (q_4, .inl (E 0, 3, .inl (fun _ => 0))), (q_5, .inl (E 0, 3, .inl (fun _ => 0)))] H := hP
  have hD := toW hP hD rfl
  refine lv_aload_n hx hb dX0_init_52 rfl (lv_at hl 0 rfl) ?_
  refine lv_iconst (v := 0) hx hb dX0_init_53 (by decide) ?_
  refine va_put (D := D) (ci := 0) (v := .int 0) (ty := .int) (C := RX0) (T := TX0) (N := 9) hx hb htb iX0 tyX0 tyX0_ok nmX0 hown hK.1 hP hD hS 0 rfl rfl 7 (by decide) (htb _ k_200) (fun _ h9 => h9) rfl (by decide +kernel) rfl rfl (Nat.le_of_ble_eq_true rfl) dX0_init_54 (fun H locs hP hD hS => ?_)
  have hP : va_P D vwCl [(h0, .inr (0, [.ref q_1, .ref q_2, .ref q_3, .ref q_4, .ref q_5, .int 0, .int 0, .int 0, .int 0])), (q_1, .inl (E 0, 9, .inl (fun _ => 0))), (q_2, .inl (E 0, 9, .inl (fun _ => 0))), (q_3, .inl (E 0, 9, .inl (fun _ => 0))), (q_4, .inl (E 0, 3, .inl (fun _ => 0))), (q_5, .inl (E 0, 3, .inl (fun _ => 0)))] H := hP
  have hD := toW hP hD rfl
  refine lv_aload_n hx hb dX0_init_57 rfl (lv_at hl 0 rfl) ?_
  refine lv_iconst (v := 0) hx hb dX0_init_58 (by decide) ?_
  refine va_put (D := D) (ci := 0) (v := .int 0) (ty := .int) (C := RX0) (T := TX0) (N := 9) hx hb htb iX0 tyX0 tyX0_ok nmX0 hown hK.1 hP hD hS 0 rfl rfl 8 (by decide) (htb _ k_201) (fun _ h9 => h9) rfl (by decide +kernel) rfl rfl (Nat.le_of_ble_eq_true rfl) dX0_init_59 (fun H locs hP hD hS => ?_)
  have hP : va_P D vwCl [(h0, .inr (0, [.ref q_1, .ref q_2, .ref q_3, .ref q_4, .ref q_5, .int 0, .int 0, .int 0, .int 0])), (q_1, .inl (E 0, 9, .inl (fun _ => 0))), (q_2, .inl (E 0, 9, .inl (fun _ => 0))), (q_3, .inl (E 0, 9, .inl (fun _ => 0))), (q_4, .inl (E 0, 3, .inl (fun _ => 0))), (q_5, .inl (E 0, 3, .inl (fun _ => 0)))] H := hP
  have hD := toW hP hD rfl
  have hP9 := hP.sub (ws' := [(h0, .inr (0, [.ref q_1, .ref q_2, .ref q_3, .ref q_4, .ref q_5, .int 0, .int 0, .int 0, .int 0])), (q_1, .inl (E 0, 9, .inl (fun _ => 0))), (q_2, .inl (E 0, 9, .inl (fun _ => 0))), (q_3, .inl (E 0, 9, .inl (fun _ => 0))), (q_4, .inl (E 0, 3, .inl (fun _ => 0))), (q_5, .inl (E 0, 3, .inl (fun _ => 0)))]) [0, 1, 2, 3, 4, 5] rfl
  have hD9 := hD.sub (ws' := [(h0, .inr (0, [.ref q_1, .ref q_2, .ref q_3, .ref q_4, .ref q_5, .int 0, .int 0, .int 0, .int 0])), (q_1, .inl (E 0, 9, .inl (fun _ => 0))), (q_2, .inl (E 0, 9, .inl (fun _ => 0))), (q_3, .inl (E 0, 9, .inl (fun _ => 0))), (q_4, .inl (E 0, 3, .inl (fun _ => 0))), (q_5, .inl (E 0, 3, .inl (fun _ => 0)))]) [0, 1, 2, 3, 4, 5] (by decide) rfl
  exact W.vret hx hb hr (fun t ht hW => ⟨⟨(fun k => ([q_1, q_2, q_3, q_4, q_5, 0, 0, 0, 0] : List Nat).getD k 0), rfl, trivial, by rw [ht]; exact hP9, hD9⟩, hS.F ht⟩) hS.2.2 dX0_init_62
set_option maxHeartbeats 4000000 in
set_option maxRecDepth 100000 in
theorem c_X1_init (l : Launch) (D : va_G) (E : Nat → Nat) (h0 : Nat) (sz : Nat)  : Met l yX1_init (wl yX1_init cX1_init 1 none) (RM 1 0 0) (mu_P D E [.ref h0] [(h0, .inr (1, [.long 0, .long 0, .long 0, .long 0, .long 0, .long 0, .long 0, .long 0, .long 0, .long 0, .long 0, .long 0, .int 0, .long 0, .long 0]))] sz) (va_Qv (fun (u : Nat → Nat) => True) (mu_B D (va_A [(h0, .inr (1, [.long 0, .long 0, .long 0, .long 0, .long 0, .long 0, .long 0, .long 0, .long 0, .long 0, .long 0, .long 0, .int 0, .long 0, .long 0]))] sz) (fun (u : Nat → Nat) => [(h0, .inr (1, G1 u 0 0 0 0 0 0 0 0 0 1 0 0 1 0 0))])) (va_A [(h0, .inr (1, [.long 0, .long 0, .long 0, .long 0, .long 0, .long 0, .long 0, .long 0, .long 0, .long 0, .long 0, .long 0, .int 0, .long 0, .long 0]))] sz)) 0 0 (va_A [(h0, .inr (1, [.long 0, .long 0, .long 0, .long 0, .long 0, .long 0, .long 0, .long 0, .long 0, .long 0, .long 0, .long 0, .int 0, .long 0, .long 0]))] sz) := by
  refine Met.ofW (cc := cX1_init) (maxL := 1) (ret := none) (by decide) rfl ?_
  intro p e s m args below meth c s₁ B hml hv
  obtain ⟨rfl, hsz, hP, hK, hD0⟩ := hv
  have hx := B.exec
  have hb := B.bytes
  have hr := B.returns
  have hts := atoms_spec (ws := wl yX1_init cX1_init 1 none) B.pre
  have htb : ∀ w ∈ tb, w.before _ s = true := fun w h => hts w (List.mem_cons_of_mem _ h)
  have hown : s.vm.findClass RX1 = some m.cls := findClass_of_methodNamed B.named
  have hlocks := B.notSynchronized
  have hin : meth.name = "<init>" := (name_of_methodNamed B.named B.method).1
  subst hsz
  have hD := hD0.self (sz := s.heap.size)
  generalize hAe : va_A [(h0, .inr (1, [.long 0, .long 0, .long 0, .long 0, .long 0, .long 0, .long 0, .long 0, .long 0, .long 0, .long 0, .long 0, .int 0, .long 0, .long 0]))] s.heap.size = A at hD ⊢
  have hA : ∀ q : Nat, s.heap.size ≤ q → A q := fun q h => by rw [← hAe]; exact Or.inr h
  have hS : va_S A s.heap s.heap [] := va_S.rf
  have hP : va_P D vwCl [(h0, .inr (1, [.long 0, .long 0, .long 0, .long 0, .long 0, .long 0, .long 0, .long 0, .long 0, .long 0, .long 0, .long 0, .int 0, .long 0, .long 0]))] s.heap := hP
  have hl := lv_entry ([.ref h0]) (n := 1) (Nat.le_of_ble_eq_true rfl)
  rw [lg_entry_eq]
  generalize (lg_sl ([.ref h0]) ++ List.replicate (1 - (lg_sl ([.ref h0])).length) Slot.unset).toArray = ls at hl ⊢
  have hl : lv_has ls 1 [(0, .ref h0)] := hl
  refine lv_aload_n hx hb dX1_init_0 rfl (lv_at hl 0 rfl) ?_
  refine W.objInit hx hb hown (htb _ k_82) (htb _ k_22) (htb _ k_23) rfl (by rw [hml]; exact hl.1) rfl dX1_init_1 (Nat.le_of_ble_eq_true rfl) (Nat.le_of_ble_eq_true rfl) ?_
  refine W.eq (g2 := F0 m 4 ls []) rfl ?_
  refine lv_aload_n hx hb dX1_init_4 rfl (lv_at hl 0 rfl) ?_
  refine lv_lconst (v := 1) hx hb dX1_init_5 (by decide) ?_
  refine va_put (D := D) (ci := 1) (v := .long 1) (ty := .long) (C := RX1) (T := TX1) (N := 15) hx hb htb iX1 tyX1 tyX1_ok nmX1 hown hK.1 hP hD hS 0 rfl rfl 9 (by decide) (htb _ k_92) (fun _ h9 => h9) rfl (by decide +kernel) rfl rfl (Nat.le_of_ble_eq_true rfl) dX1_init_6 (fun H locs hP hD hS => ?_)
  have hP : va_P D vwCl [(h0, .inr (1, [.long 0, .long 0, .long 0, .long 0, .long 0, .long 0, .long 0, .long 0, .long 0, .long 1, .long 0, .long 0, .int 0, .long 0, .long 0]))] H := hP
  have hD := toW hP hD rfl
  refine lv_aload_n hx hb dX1_init_9 rfl (lv_at hl 0 rfl) ?_
  refine lv_iconst (v := 1) hx hb dX1_init_10 (by decide) ?_
  refine va_put (D := D) (ci := 1) (v := .int 1) (ty := .int) (C := RX1) (T := TX1) (N := 15) hx hb htb iX1 tyX1 tyX1_ok nmX1 hown hK.1 hP hD hS 0 rfl rfl 12 (by decide) (htb _ k_95) (fun _ h9 => h9) rfl (by decide +kernel) rfl rfl (Nat.le_of_ble_eq_true rfl) dX1_init_11 (fun H locs hP hD hS => ?_)
  have hP : va_P D vwCl [(h0, .inr (1, [.long 0, .long 0, .long 0, .long 0, .long 0, .long 0, .long 0, .long 0, .long 0, .long 1, .long 0, .long 0, .int 1, .long 0, .long 0]))] H := hP
  have hD := toW hP hD rfl
  have hP9 := hP.sub (ws' := [(h0, .inr (1, [.long 0, .long 0, .long 0, .long 0, .long 0, .long 0, .long 0, .long 0, .long 0, .long 1, .long 0, .long 0, .int 1, .long 0, .long 0]))]) [0] rfl
  have hD9 := hD.sub (ws' := [(h0, .inr (1, [.long 0, .long 0, .long 0, .long 0, .long 0, .long 0, .long 0, .long 0, .long 0, .long 1, .long 0, .long 0, .int 1, .long 0, .long 0]))]) [0] (by decide) rfl
  exact W.vret hx hb hr (fun t ht hW => ⟨⟨(fun k => ([0, 0, 0, 0, 0, 0, 0, 0, 0, 0, 0, 0, 0, 0, 0] : List Nat).getD k 0), rfl, trivial, by rw [ht]; exact hP9, hD9⟩, hS.F ht⟩) hS.2.2 dX1_init_14
end
section
/-! ===== the state of the class, and of the reference; their worlds; what always holds ===== -/
abbrev XS : Type := (Nat → Nat) × (Nat → Nat) × (Nat → Int32) × (Nat → Int64) × (Nat → Nat → Int32) × (Nat → Option Nat) × (Nat → Nat → Nat) × (Nat → Nat → Nat → Int32) × (Nat → Nat → Nat) × (Nat → Nat → Int32) × (Nat → Nat → Nat → Int32)
abbrev MS : Type := (Nat → Nat) × (Nat → Int32) × (Nat → Int64) × (Nat → Nat → Int32)
def xA (s : XS) : Nat → Nat := s.1
def xB (s : XS) : Nat → Nat := s.2.1
def xV (s : XS) : Nat → Int32 := s.2.2.1
def xG (s : XS) : Nat → Int64 := s.2.2.2.1
def xF (s : XS) : Nat → Nat → Int32 := s.2.2.2.2.1
def xQ (s : XS) : Nat → Option Nat := s.2.2.2.2.2.1
def xwa (s : XS) : Nat → Nat → Nat := s.2.2.2.2.2.2.1
def xwf (s : XS) : Nat → Nat → Nat → Int32 := s.2.2.2.2.2.2.2.1
def xya (s : XS) : Nat → Nat → Nat := s.2.2.2.2.2.2.2.2.1
def xyv (s : XS) : Nat → Nat → Int32 := s.2.2.2.2.2.2.2.2.2.1
def xyf (s : XS) : Nat → Nat → Nat → Int32 := s.2.2.2.2.2.2.2.2.2.2
def mA (s : MS) : Nat → Nat := s.1
def mV (s : MS) : Nat → Int32 := s.2.1
def mG (s : MS) : Nat → Int64 := s.2.2.1
def mF (s : MS) : Nat → Nat → Int32 := s.2.2.2
def sh (A : Nat → Nat) (n : Nat) : Nat → Nat := fun k => A (n + k)
def lkN (l : List Nat) : Nat → Nat := fun k => l.getD k 0
def lkV (l : List Int32) : Nat → Int32 := fun k => l.getD k 0
def lkG (l : List Int64) : Nat → Int64 := fun k => l.getD k 0
def lkF (l : List (Nat → Int32)) : Nat → Nat → Int32 := fun k => l.getD k (fun _ => 0)
def XC (E : Nat → Nat) (q : Nat) (s : XS) : va_W := ((q, .inr (8, G8 (xA s) (xB s 0) (xB s 1) (xV s 0))) :: ((xA s 0), .inl (E 0, 400, .inl (xF s 0))) :: ((xA s 1), .inl (E 0, 16, .inl (xF s 1))) :: ((xA s 2), .inl (E 0, 16, .inl (xF s 2))) :: ((xA s 3), .inl (E 3, 16, .inr (.inr (.inr (.inr (xQ s)))))) :: ((xA s 4), .inl (E 4, 5, .inr (.inr (.inr (.inr (fun k => some (xya s k 7))))))) :: ((xA s 5), .inl (E 0, 9, .inl (xF s 3))) :: ((xA s 6), .inr (2, G2 (sh (xA s) 20) (xV s 1))) :: (((sh (xA s) 20) 0), .inl (E 0, 60, .inl (xF s 4))) :: (((sh (xA s) 20) 1), .inl (E 0, 60, .inl (xF s 5))) :: (((sh (xA s) 20) 2), .inl (E 0, 60, .inl (xF s 6))) :: (((sh (xA s) 20) 3), .inl (E 0, 60, .inl (xF s 7))) :: (((sh (xA s) 20) 4), .inl (E 0, 60, .inl (xF s 8))) :: ((xA s 7), .inr (3, G3 (sh (xA s) 25) (xV s 2))) :: (((sh (xA s) 25) 0), .inl (E 0, 60, .inl (xF s 9))) :: (((sh (xA s) 25) 1), .inl (E 0, 60, .inl (xF s 10))) :: (((sh (xA s) 25) 2), .inl (E 0, 60, .inl (xF s 11))) :: ((xA s 8), .inr (1, G1 (sh (xA s) 50) (xG s 0) (xG s 1) (xG s 2) (xG s 3) (xG s 4) (xG s 5) (xG s 6) (xG s 7) (xG s 8) (xG s 9) (xG s 10) (xG s 11) (xV s 3) (xG s 12) (xG s 13))) :: ((xA s 9), .inr (6, G6 (sh (xA s) 28) (xV s 4) (xB s 2) (xB s 3) (xV s 5) (xV s 6) (xV s 7) (xV s 8))) :: (((sh (xA s) 28) 0), .inl (E 0, 120, .inl (xF s 12))) :: ((xA s 10), .inr (0, G0 (sh (xA s) 31) (xV s 9) (xV s 10) (xV s 11) (xV s 12))) :: (((sh (xA s) 31) 0), .inl (E 0, 9, .inl (xF s 13))) :: (((sh (xA s) 31) 1), .inl (E 0, 9, .inl (xF s 14))) :: (((sh (xA s) 31) 2), .inl (E 0, 9, .inl (xF s 15))) :: (((sh (xA s) 31) 3), .inl (E 0, 3, .inl (xF s 16))) :: (((sh (xA s) 31) 4), .inl (E 0, 3, .inl (xF s 17))) :: ((xB s 0), .inr (4, G4 (sh (xB s) 10) (xV s 13))) :: (((sh (xB s) 10) 0), .inl (E 0, 120, .inl (xF s 18))) :: (((sh (xB s) 10) 1), .inl (E 0, 120, .inl (xF s 19))) :: (((sh (xB s) 10) 2), .inl (E 0, 120, .inl (xF s 20))) :: ((xB s 1), .inr (4, G4 (sh (xB s) 13) (xV s 14))) :: (((sh (xB s) 13) 0), .inl (E 0, 120, .inl (xF s 21))) :: (((sh (xB s) 13) 1), .inl (E 0, 120, .inl (xF s 22))) :: (((sh (xB s) 13) 2), .inl (E 0, 120, .inl (xF s 23))) :: ((xB s 2), .inr (4, G4 (sh (xB s) 16) (xV s 15))) :: (((sh (xB s) 16) 0), .inl (E 0, 120, .inl (xF s 24))) :: (((sh (xB s) 16) 1), .inl (E 0, 120, .inl (xF s 25))) :: (((sh (xB s) 16) 2), .inl (E 0, 120, .inl (xF s 26))) :: [])
theorem e_V {A A' : Nat → Nat} {B B' : Nat → Nat} {V V' : Nat → Int32} {G G' : Nat → Int64} {F F' : Nat → Nat → Int32} {Q Q' : Nat → Option Nat} {wa wa' : Nat → Nat → Nat} {wf wf' : Nat → Nat → Nat → Int32} {ya ya' : Nat → Nat → Nat} {yv yv' : Nat → Nat → Int32} {yf yf' : Nat → Nat → Nat → Int32} {k : Nat} (h : V' k = V k) : xV ((A', B', V', G', F', Q', wa', wf', ya', yv', yf') : XS) k = xV ((A, B, V, G, F, Q, wa, wf, ya, yv, yf) : XS) k := h
theorem e_F {A A' : Nat → Nat} {B B' : Nat → Nat} {V V' : Nat → Int32} {G G' : Nat → Int64} {F F' : Nat → Nat → Int32} {Q Q' : Nat → Option Nat} {wa wa' : Nat → Nat → Nat} {wf wf' : Nat → Nat → Nat → Int32} {ya ya' : Nat → Nat → Nat} {yv yv' : Nat → Nat → Int32} {yf yf' : Nat → Nat → Nat → Int32} {k : Nat} (h : F' k = F k) : xF ((A', B', V', G', F', Q', wa', wf', ya', yv', yf') : XS) k = xF ((A, B, V, G, F, Q, wa, wf, ya, yv, yf) : XS) k := h
theorem e_A {A A' : Nat → Nat} {B B' : Nat → Nat} {V V' : Nat → Int32} {G G' : Nat → Int64} {F F' : Nat → Nat → Int32} {Q Q' : Nat → Option Nat} {wa wa' : Nat → Nat → Nat} {wf wf' : Nat → Nat → Nat → Int32} {ya ya' : Nat → Nat → Nat} {yv yv' : Nat → Nat → Int32} {yf yf' : Nat → Nat → Nat → Int32} (h : A' = A) : xA ((A', B', V', G', F', Q', wa', wf', ya', yv', yf') : XS) = xA ((A, B, V, G, F, Q, wa, wf, ya, yv, yf) : XS) := h
theorem e_ya {A A' : Nat → Nat} {B B' : Nat → Nat} {V V' : Nat → Int32} {G G' : Nat → Int64} {F F' : Nat → Nat → Int32} {Q Q' : Nat → Option Nat} {wa wa' : Nat → Nat → Nat} {wf wf' : Nat → Nat → Nat → Int32} {ya ya' : Nat → Nat → Nat} {yv yv' : Nat → Nat → Int32} {yf yf' : Nat → Nat → Nat → Int32} (h : ya' = ya) : xya ((A', B', V', G', F', Q', wa', wf', ya', yv', yf') : XS) = xya ((A, B, V, G, F, Q, wa, wf, ya, yv, yf) : XS) := h
theorem e_wf {A A' : Nat → Nat} {B B' : Nat → Nat} {V V' : Nat → Int32} {G G' : Nat → Int64} {F F' : Nat → Nat → Int32} {Q Q' : Nat → Option Nat} {wa wa' : Nat → Nat → Nat} {wf wf' : Nat → Nat → Nat → Int32} {ya ya' : Nat → Nat → Nat} {yv yv' : Nat → Nat → Int32} {yf yf' : Nat → Nat → Nat → Int32} (h : wf' = wf) : xwf ((A', B', V', G', F', Q', wa', wf', ya', yv', yf') : XS) = xwf ((A, B, V, G, F, Q, wa, wf, ya, yv, yf) : XS) := h
def SB (E : Nat → Nat) (ya : Nat → Nat → Nat) (yv : Nat → Nat → Int32) (yf : Nat → Nat → Nat → Int32) (i : Nat) : va_W := [((ya i 7), .inr (5, G5 (ya i) (yv i 0) (yv i 1) (yv i 2) (yv i 3))), (((ya i) 0), .inl (E 0, 3, .inl (yf i 0))), (((ya i) 1), .inl (E 0, 3, .inl (yf i 1))), (((ya i) 2), .inl (E 0, 3, .inl (yf i 2))), (((ya i) 3), .inl (E 0, 3, .inl (yf i 3))), (((ya i) 4), .inl (E 0, 3, .inl (yf i 4))), (((ya i) 5), .inl (E 0, 40, .inl (yf i 5))), (((ya i) 6), .inl (E 0, 120, .inl (yf i 6)))]
def spool (E : Nat → Nat) (ya : Nat → Nat → Nat) (yv : Nat → Nat → Int32) (yf : Nat → Nat → Nat → Int32) : va_W := pool 5 (SB E ya yv yf)
def srest (E : Nat → Nat) (ya : Nat → Nat → Nat) (yv : Nat → Nat → Int32) (yf : Nat → Nat → Nat → Int32) (i : Nat) : va_W := pool 5 (va_up (SB E ya yv yf) i [])
theorem spool_ex {E : Nat → Nat} {ya : Nat → Nat → Nat} {yv : Nat → Nat → Int32} {yf : Nat → Nat → Nat → Int32} {i : Nat} (hi : i < 5) : (spool E ya yv yf).Perm (SB E ya yv yf i ++ srest E ya yv yf i) := by
  have := pool_up hi (SB E ya yv yf) (SB E ya yv yf i)
  rw [up_same rfl] at this
  exact this
theorem up_at {α : Type} {f : Nat → α} {i : Nat} {x : α} : va_up f i x i = x := by simp [va_up]
theorem up_ne {α : Type} {f : Nat → α} {i j : Nat} {x : α} (h : j ≠ i) : va_up f i x j = f j := by simp [va_up, h]
theorem spool_set {E : Nat → Nat} {ya : Nat → Nat → Nat} {yv : Nat → Nat → Int32} {yf : Nat → Nat → Nat → Int32} {i : Nat} {v : Nat → Int32} {f : Nat → Nat → Int32} {B : va_W} (hi : i < 5) (hB : SB E ya (fun _ => v) (fun _ => f) i = B) : (spool E ya (va_up yv i v) (va_up yf i f)).Perm (B ++ srest E ya yv yf i) := by
  have e : SB E ya (va_up yv i v) (va_up yf i f) = va_up (SB E ya yv yf) i B := by
    funext j
    by_cases h : j = i
    · subst h
      rw [up_at, ← hB]
      unfold SB
      rw [up_at, up_at]
    · rw [up_ne h]
      unfold SB
      rw [up_ne h, up_ne h]
  unfold spool
  rw [e]
  exact pool_up hi _ _
theorem pl_w {a b c d : va_W} (h : a.Perm (b ++ c)) : (a ++ d).Perm (b ++ (c ++ d)) := by rw [← List.append_assoc]; exact h.append_right d
theorem pl_s {a b c d : va_W} (h : a.Perm (b ++ c)) : (d ++ a).Perm (b ++ (d ++ c)) := (h.append_left d).trans (List.perm_append_comm_assoc d b c)
theorem pl_ws {a b c a' b' c' : va_W} (h : a.Perm (b ++ c)) (h' : a'.Perm (b' ++ c')) : (a ++ a').Perm ((b ++ b') ++ (c ++ c')) := by
  have h1 := h.append h'
  refine h1.trans ?_
  rw [List.append_assoc, List.append_assoc]
  exact (List.perm_append_comm_assoc c b' c').append_left b
def wf4 (a b c d : Nat → Int32) : Nat → Nat → Int32
  | 0 => a
  | 1 => b
  | 2 => c
  | _ => d
def yv4 (a b c d : Int32) : Nat → Int32
  | 0 => a
  | 1 => b
  | 2 => c
  | _ => d
def yf7 (a b c d e f g : Nat → Int32) : Nat → Nat → Int32
  | 0 => a
  | 1 => b
  | 2 => c
  | 3 => d
  | 4 => e
  | 5 => f
  | _ => g
theorem sg_up {yv : Nat → Nat → Int32} {i : Nat} {v : Nat → Int32} {hi : Int} (h : ∀ j : Nat, j < 5 → 0 ≤ (yv j 0).toInt ∧ (yv j 0).toInt ≤ hi) (h2 : 0 ≤ (v 0).toInt ∧ (v 0).toInt ≤ hi) : ∀ j : Nat, j < 5 → 0 ≤ (va_up yv i v j 0).toInt ∧ (va_up yv i v j 0).toInt ≤ hi := by
  intro j hj
  by_cases e : j = i
  · subst e; rw [up_at]; exact h2
  · rw [up_ne e]; exact h j hj
theorem sp_mem {E : Nat → Nat} {ya : Nat → Nat → Nat} {yv : Nat → Nat → Int32} {yf : Nat → Nat → Nat → Int32} {k : Nat} {x : Nat × va_E} (hk : k < 5) (h : x ∈ SB E ya yv yf k) : x ∈ spool E ya yv yf := List.mem_flatMap.mpr ⟨k, List.mem_range.mpr hk, h⟩
theorem JQ_KM {f g : Nat → Int32} {Q : Nat → Option Nat} (h : JQ f Q) (hk : KM f g) : JQ g Q := fun i hi hg => by
  rcases hk i with e | e
  · exact h i hi (by rw [← e]; exact hg)
  · omega
def XW (E : Nat → Nat) (q : Nat) (s : XS) : va_W := XC E q s ++ (wpool E (xQ s) (xwa s) (xwf s) ++ spool E (xya s) (xyv s) (xyf s))
theorem XWp {E : Nat → Nat} {q : Nat} {A B : Nat → Nat} {V : Nat → Int32} {G : Nat → Int64} {F : Nat → Nat → Int32} {Q : Nat → Option Nat} {wa : Nat → Nat → Nat} {wf : Nat → Nat → Nat → Int32} {ya : Nat → Nat → Nat} {yv : Nat → Nat → Int32} {yf : Nat → Nat → Nat → Int32} {Y : va_W} (h : (XC E q (A, B, V, G, F, Q, wa, wf, ya, yv, yf) ++ (wpool E Q wa wf ++ spool E ya yv yf)).Perm Y) : (XW E q (A, B, V, G, F, Q, wa, wf, ya, yv, yf)).Perm Y := h
theorem XWm {E : Nat → Nat} {q : Nat} {A B : Nat → Nat} {V : Nat → Int32} {G : Nat → Int64} {F : Nat → Nat → Int32} {Q : Nat → Option Nat} {wa : Nat → Nat → Nat} {wf : Nat → Nat → Nat → Int32} {ya : Nat → Nat → Nat} {yv : Nat → Nat → Int32} {yf : Nat → Nat → Nat → Int32} {Y : va_W} (h : ∀ z ∈ Y, z ∈ XC E q (A, B, V, G, F, Q, wa, wf, ya, yv, yf) ++ (wpool E Q wa wf ++ spool E ya yv yf)) : ∀ z ∈ Y, z ∈ XW E q (A, B, V, G, F, Q, wa, wf, ya, yv, yf) := h
def XI (s : XS) : Prop := (0 ≤ (xV s 0).toInt ∧ (xV s 0).toInt ≤ 399) ∧ (0 ≤ (xV s 1).toInt ∧ (xV s 1).toInt ≤ 60) ∧ (0 ≤ (xV s 2).toInt ∧ (xV s 2).toInt ≤ 60) ∧ (0 ≤ (xV s 4).toInt ∧ (xV s 4).toInt ≤ 120) ∧ (0 ≤ (xV s 9).toInt ∧ (xV s 9).toInt ≤ 9) ∧ (0 ≤ (xV s 10).toInt ∧ (xV s 10).toInt ≤ 9) ∧ (0 ≤ (xV s 11).toInt ∧ (xV s 11).toInt ≤ 3) ∧ (0 ≤ (xV s 13).toInt ∧ (xV s 13).toInt ≤ 120) ∧ (0 ≤ (xV s 14).toInt ∧ (xV s 14).toInt ≤ 120) ∧ (0 ≤ (xV s 15).toInt ∧ (xV s 15).toInt ≤ 120) ∧ (∀ k : Nat, k < 60 → 0 ≤ (xF s 9 k).toInt ∧ (xF s 9 k).toInt ≤ 399) ∧ JQ (xF s 1) (xQ s) ∧ (∀ i : Nat, i < 5 → 0 ≤ (xyv s i 0).toInt ∧ (xyv s i 0).toInt ≤ 40)
def MW (E : Nat → Nat) (q : Nat) (s : MS) : va_W := ((q, .inr (9, G9 (mA s) (mV s 0) (mV s 1) (mV s 2) (mG s 0) (mG s 1) (mG s 2) (mG s 3) (mG s 4) (mG s 5) (mG s 6) (mG s 7) (mG s 8) (mG s 9) (mG s 10) (mV s 3) (mV s 4) (mV s 5) (mV s 6) (mV s 7) (mV s 8) (mV s 9) (mV s 10) (mV s 11) (mV s 12))) :: ((mA s 2), .inl (E 0, 400, .inl (mF s 0))) :: ((mA s 3), .inl (E 0, 16, .inl (mF s 1))) :: ((mA s 4), .inl (E 0, 16, .inl (mF s 2))) :: ((mA s 5), .inl (E 1, 6400, .inl (mF s 3))) :: ((mA s 6), .inl (E 0, 6400, .inl (mF s 4))) :: ((mA s 7), .inl (E 0, 6400, .inl (mF s 5))) :: ((mA s 8), .inl (E 1, 6400, .inl (mF s 6))) :: ((mA s 9), .inl (E 1, 6400, .inl (mF s 7))) :: ((mA s 10), .inl (E 0, 6400, .inl (mF s 8))) :: ((mA s 12), .inl (E 0, 60, .inl (mF s 9))) :: ((mA s 13), .inl (E 0, 60, .inl (mF s 10))) :: ((mA s 14), .inl (E 0, 60, .inl (mF s 11))) :: ((mA s 15), .inl (E 0, 60, .inl (mF s 12))) :: ((mA s 16), .inl (E 0, 60, .inl (mF s 13))) :: ((mA s 29), .inl (E 0, 60, .inl (mF s 14))) :: ((mA s 30), .inl (E 0, 60, .inl (mF s 15))) :: ((mA s 31), .inl (E 0, 60, .inl (mF s 16))) :: ((mA s 32), .inl (E 2, 120, .inl (mF s 17))) :: ((mA s 34), .inl (E 1, 2, .inl (mF s 18))) :: ((mA s 35), .inl (E 0, 2, .inl (mF s 19))) :: ((mA s 36), .inl (E 0, 384, .inl (mF s 20))) :: ((mA s 37), .inl (E 0, 384, .inl (mF s 21))) :: ((mA s 43), .inl (E 0, 130, .inl (mF s 22))) :: ((mA s 45), .inl (E 0, 130, .inl (mF s 23))) :: ((mA s 46), .inl (E 0, 24, .inl (mF s 24))) :: ((mA s 47), .inl (E 0, 5, .inl (mF s 25))) :: ((mA s 48), .inl (E 0, 5, .inl (mF s 26))) :: ((mA s 49), .inl (E 0, 5, .inl (mF s 27))) :: ((mA s 50), .inl (E 0, 15, .inl (mF s 28))) :: ((mA s 51), .inl (E 0, 15, .inl (mF s 29))) :: ((mA s 52), .inl (E 0, 15, .inl (mF s 30))) :: ((mA s 53), .inl (E 0, 15, .inl (mF s 31))) :: ((mA s 54), .inl (E 0, 15, .inl (mF s 32))) :: ((mA s 55), .inl (E 0, 5, .inl (mF s 33))) :: ((mA s 56), .inl (E 0, 200, .inl (mF s 34))) :: ((mA s 57), .inl (E 0, 600, .inl (mF s 35))) :: ((mA s 58), .inl (E 0, 3, .inl (mF s 36))) :: ((mA s 59), .inl (E 0, 3, .inl (mF s 37))) :: ((mA s 60), .inl (E 0, 3, .inl (mF s 38))) :: ((mA s 62), .inl (E 0, 9, .inl (mF s 39))) :: ((mA s 63), .inl (E 0, 9, .inl (mF s 40))) :: ((mA s 65), .inl (E 0, 9, .inl (mF s 41))) :: ((mA s 66), .inl (E 0, 3, .inl (mF s 42))) :: ((mA s 67), .inl (E 0, 3, .inl (mF s 43))) :: [])
/-- what most calls leave as it was -/
def TK (s s' : XS) : Prop := xV s' 0 = xV s 0 ∧ xV s' 1 = xV s 1 ∧ xV s' 4 = xV s 4 ∧ xV s' 9 = xV s 9 ∧ xA s' = xA s ∧ xya s' = xya s
theorem TK.rf {s : XS} : TK s s := ⟨rfl, rfl, rfl, rfl, rfl, rfl⟩
theorem TK.tr {s t u : XS} (h : TK s t) (k : TK t u) : TK s u := ⟨k.1.trans h.1, k.2.1.trans h.2.1, k.2.2.1.trans h.2.2.1, k.2.2.2.1.trans h.2.2.2.1, k.2.2.2.2.1.trans h.2.2.2.2.1, k.2.2.2.2.2.trans h.2.2.2.2.2⟩
def TKM (s s' : MS) : Prop := mV s' 1 = mV s 1 ∧ mV s' 2 = mV s 2 ∧ mV s' 4 = mV s 4 ∧ mV s' 11 = mV s 11
def MI (s : MS) : Prop := (0 ≤ (mV s 1).toInt ∧ (mV s 1).toInt ≤ 399) ∧ (0 ≤ (mV s 2).toInt ∧ (mV s 2).toInt ≤ 60) ∧ (0 ≤ (mV s 3).toInt ∧ (mV s 3).toInt ≤ 60) ∧ (0 ≤ (mV s 4).toInt ∧ (mV s 4).toInt ≤ 120) ∧ (0 ≤ (mV s 11).toInt ∧ (mV s 11).toInt ≤ 9) ∧ (0 ≤ (mV s 12).toInt ∧ (mV s 12).toInt ≤ 9) ∧ (∀ k : Nat, k < 60 → 0 ≤ (mF s 14 k).toInt ∧ (mF s 14 k).toInt ≤ 399) ∧ (∀ k : Nat, k < 2 → 0 ≤ (mF s 19 k).toInt ∧ (mF s 19 k).toInt ≤ 127) ∧ (∀ k : Nat, k < 15 → 0 ≤ (mF s 28 k).toInt ∧ (mF s 28 k).toInt ≤ 15) ∧ (∀ k : Nat, k < 5 → 0 ≤ (mF s 33 k).toInt ∧ (mF s 33 k).toInt ≤ 40) ∧ (∀ k : Nat, k < 9 → 0 ≤ (mF s 41 k).toInt ∧ (mF s 41 k).toInt ≤ 3) ∧ J49 (mF s 25) (mF s 27) ∧ JW (mF s 20) (mF s 19)
end
section
set_option maxHeartbeats 4000000 in
set_option maxRecDepth 100000 in
theorem g_X8_bringWatch_W (l : Launch) (D : va_G) (E : Nat → Nat) (xh : Nat) (xa : Nat → Nat) (xtrialRule : Nat) (xdropRule : Nat) (xtoday : Int32) (xf3 : Nat → Option Nat) (wh : Nat) (wa : Nat → Nat) (wf0 : Nat → Int32) (wf1 : Nat → Int32) (wf2 : Nat → Int32) (wf3 : Nat → Int32) (p0 : Int32) (sz : Nat) (hi_x : (0 ≤ xtoday.toInt ∧ xtoday.toInt ≤ 399)) (hp0 : 0 ≤ p0.toInt ∧ p0.toInt ≤ 15) (hw0 : xf3 (p0).toNatClampNeg = some wh) : Met l yX8_bringWatch (wl yX8_bringWatch cX8_bringWatch 2 none) (RM 1 0 0) (mu_P D E [.ref xh, .int p0] [(xh, .inr (8, G8 xa xtrialRule xdropRule xtoday)), ((xa 3), .inl (E 3, 16, .inr (.inr (.inr (.inr xf3))))), (wh, .inr (7, G7 wa)), ((wa 0), .inl (E 0, 400, .inl wf0)), ((wa 1), .inl (E 0, 400, .inl wf1)), ((wa 2), .inl (E 0, 400, .inl wf2)), ((wa 3), .inl (E 0, 400, .inl wf3))] sz) (va_Qv (fun (u : (Nat → Int32) × (Nat → Int32) × (Nat → Int32) × (Nat → Int32)) => (NEW4 u.1 u.2.1 u.2.2.1 u.2.2.2 400)) (mu_B D (va_A [(xh, .inr (8, G8 xa xtrialRule xdropRule xtoday)), ((xa 3), .inl (E 3, 16, .inr (.inr (.inr (.inr xf3))))), (wh, .inr (7, G7 wa)), ((wa 0), .inl (E 0, 400, .inl wf0)), ((wa 1), .inl (E 0, 400, .inl wf1)), ((wa 2), .inl (E 0, 400, .inl wf2)), ((wa 3), .inl (E 0, 400, .inl wf3))] sz) (fun (u : (Nat → Int32) × (Nat → Int32) × (Nat → Int32) × (Nat → Int32)) => [(xh, .inr (8, G8 xa xtrialRule xdropRule xtoday)), ((xa 3), .inl (E 3, 16, .inr (.inr (.inr (.inr xf3))))), (wh, .inr (7, G7 wa)), ((wa 0), .inl (E 0, 400, .inl u.1)), ((wa 1), .inl (E 0, 400, .inl u.2.1)), ((wa 2), .inl (E 0, 400, .inl u.2.2.1)), ((wa 3), .inl (E 0, 400, .inl u.2.2.2))])) (va_A [(xh, .inr (8, G8 xa xtrialRule xdropRule xtoday)), ((xa 3), .inl (E 3, 16, .inr (.inr (.inr (.inr xf3))))), (wh, .inr (7, G7 wa)), ((wa 0), .inl (E 0, 400, .inl wf0)), ((wa 1), .inl (E 0, 400, .inl wf1)), ((wa 2), .inl (E 0, 400, .inl wf2)), ((wa 3), .inl (E 0, 400, .inl wf3))] sz)) 0 0 (va_A [(xh, .inr (8, G8 xa xtrialRule xdropRule xtoday)), ((xa 3), .inl (E 3, 16, .inr (.inr (.inr (.inr xf3))))), (wh, .inr (7, G7 wa)), ((wa 0), .inl (E 0, 400, .inl wf0)), ((wa 1), .inl (E 0, 400, .inl wf1)), ((wa 2), .inl (E 0, 400, .inl wf2)), ((wa 3), .inl (E 0, 400, .inl wf3))] sz) := by
  refine Met.ofW (cc := cX8_bringWatch) (maxL := 2) (ret := none) (by decide) rfl ?_
  intro p e s m args below meth c s₁ B hml hv
  obtain ⟨rfl, hsz, hP, hK, hD0⟩ := hv
  have hx := B.exec; have hb := B.bytes; have hr := B.returns
  have hts := atoms_spec (ws := wl yX8_bringWatch cX8_bringWatch 2 none) B.pre
  have htb : ∀ w ∈ tb, w.before _ s = true := fun w h => hts w (List.mem_cons_of_mem _ h)
  have hown : s.vm.findClass RX8 = some m.cls := findClass_of_methodNamed B.named
  have hlocks := B.notSynchronized
  subst hsz
  have hD := hD0.self (sz := s.heap.size)
  generalize hAe : va_A [(xh, .inr (8, G8 xa xtrialRule xdropRule xtoday)), ((xa 3), .inl (E 3, 16, .inr (.inr (.inr (.inr xf3))))), (wh, .inr (7, G7 wa)), ((wa 0), .inl (E 0, 400, .inl wf0)), ((wa 1), .inl (E 0, 400, .inl wf1)), ((wa 2), .inl (E 0, 400, .inl wf2)), ((wa 3), .inl (E 0, 400, .inl wf3))] s.heap.size = A at hD ⊢
  have hA : ∀ q : Nat, s.heap.size ≤ q → A q := fun q h => by rw [← hAe]; exact Or.inr h
  have hS : va_S A s.heap s.heap [] := va_S.rf
  have hP : va_P D vwCl [(xh, .inr (8, G8 xa xtrialRule xdropRule xtoday)), ((xa 3), .inl (E 3, 16, .inr (.inr (.inr (.inr xf3))))), (wh, .inr (7, G7 wa)), ((wa 0), .inl (E 0, 400, .inl wf0)), ((wa 1), .inl (E 0, 400, .inl wf1)), ((wa 2), .inl (E 0, 400, .inl wf2)), ((wa 3), .inl (E 0, 400, .inl wf3))] s.heap := hP
  have hl := lv_entry ([.ref xh, .int p0]) (n := 2) (Nat.le_of_ble_eq_true rfl)
  rw [lg_entry_eq]
  generalize (lg_sl ([.ref xh, .int p0]) ++ List.replicate (2 - (lg_sl ([.ref xh, .int p0])).length) Slot.unset).toArray = ls at hl ⊢
  have hl : lv_has ls 2 [(0, .ref xh), (1, .int p0)] := hl
  have lo_p0 := i_lo p0; have hi_p0 := i_hi p0
  refine lv_iload_n hx hb dX8_bringWatch_0 rfl (lv_at hl 1 rfl) ?_
  refine callRS (rest := []) (As := [.int p0]) hx hb hml hown htb hK (g_X8_isPlace l D E p0 ) ok_X8_isPlace k_333 k_334 k_1 k_335 ⟨(Nat.le_of_ble_eq_true rfl), (Nat.le_of_ble_eq_true rfl)⟩ ⟨(Nat.le_of_ble_eq_true rfl), (Nat.le_of_ble_eq_true rfl)⟩ hl.1 (Nat.le_of_ble_eq_true rfl) rfl rfl dX8_bringWatch_1 (hP.sub (ws' := ([] : va_W)) [] rfl) (fun r_1 hw_2 => ?_)
  rcases hw_2 with ⟨hr_1, hw_2⟩ | ⟨hr_1, hw_2⟩
  ·
    refine W_top (y := .int 1) (by rw [hr_1]) ?_
    refine lv_if_ne (tgt := 8) hx hb dX8_bringWatch_4 (by decide) (fun c_4 => ?_) (fun c_4 => absurd c_4 (by decide))
    refine lv_aload_n hx hb dX8_bringWatch_8 rfl (lv_at hl 0 rfl) ?_
    refine va_get (D := D) (ci := 8) (v := .ref (xa 3)) (C := RX8) (T := TX8) (N := 14) hx hb htb iX8 hown hK.1 hP 0 rfl rfl 3 (by decide) (htb _ k_275) (fun _ h9 => h9) rfl dX8_bringWatch_9 ?_
    refine lv_iload_n hx hb dX8_bringWatch_12 rfl (lv_at hl 1 rfl) ?_
    refine va_aldq hx hb hK.1 hP 1 3 rfl rfl (g_in rfl (by omega) (by omega)) dX8_bringWatch_13 ?_
    refine W_top (y := .ref wh) (congrArg va_rf hw0) ?_
    refine lv_ifnonnull (tgt := 30) hx hb dX8_bringWatch_14 (by decide) ?_
    refine lv_aload_n hx hb dX8_bringWatch_30 rfl (lv_at hl 0 rfl) ?_
    refine va_get (D := D) (ci := 8) (v := .ref (xa 3)) (C := RX8) (T := TX8) (N := 14) hx hb htb iX8 hown hK.1 hP 0 rfl rfl 3 (by decide) (htb _ k_275) (fun _ h9 => h9) rfl dX8_bringWatch_31 ?_
    refine lv_iload_n hx hb dX8_bringWatch_34 rfl (lv_at hl 1 rfl) ?_
    refine va_aldq hx hb hK.1 hP 1 3 rfl rfl (g_in rfl (by omega) (by omega)) dX8_bringWatch_35 ?_
    refine W_top (y := .ref wh) (congrArg va_rf hw0) ?_
    have hPc := hP.sub (ws' := [(wh, .inr (7, G7 wa)), ((wa 0), .inl (E 0, 400, .inl wf0)), ((wa 1), .inl (E 0, 400, .inl wf1)), ((wa 2), .inl (E 0, 400, .inl wf2)), ((wa 3), .inl (E 0, 400, .inl wf3))]) [2, 3, 4, 5, 6] rfl
    have hDc := hD.sub (ws' := [(wh, .inr (7, G7 wa)), ((wa 0), .inl (E 0, 400, .inl wf0)), ((wa 1), .inl (E 0, 400, .inl wf1)), ((wa 2), .inl (E 0, 400, .inl wf2)), ((wa 3), .inl (E 0, 400, .inl wf3))]) [2, 3, 4, 5, 6] (by decide) rfl
    refine aft_v (runMV (rest := []) (As := []) hx hb hml hown htb hK (g_X7_becomeNew l D E wh wa wf0 wf1 wf2 wf3 _ ) ok_X7_becomeNew k_361 k_362 k_363 k_10 k_364 ⟨(Nat.le_of_ble_eq_true rfl), (Nat.le_of_ble_eq_true rfl)⟩ ⟨(Nat.le_of_ble_eq_true rfl), (Nat.le_of_ble_eq_true rfl)⟩ hl.1 (Nat.le_of_ble_eq_true rfl) rfl rfl dX8_bringWatch_36 hPc hDc rfl rfl 0 rfl) hP hD hS hA [2, 3, 4, 5, 6] [0, 1] (wr := [(xh, .inr (8, G8 xa xtrialRule xdropRule xtoday)), ((xa 3), .inl (E 3, 16, .inr (.inr (.inr (.inr xf3)))))]) rfl rfl (by decide) (by decide) (fun u_7 H locs hw_6 hP hD hS => ?_)
    clear hPc hDc
    obtain ⟨w_8, w_9, w_10, w_11⟩ := u_7
    try dsimp only at hw_6
    have hP : va_P D vwCl [(xh, .inr (8, G8 xa xtrialRule xdropRule xtoday)), ((xa 3), .inl (E 3, 16, .inr (.inr (.inr (.inr xf3))))), (wh, .inr (7, G7 wa)), ((wa 0), .inl (E 0, 400, .inl w_8)), ((wa 1), .inl (E 0, 400, .inl w_9)), ((wa 2), .inl (E 0, 400, .inl w_10)), ((wa 3), .inl (E 0, 400, .inl w_11))] H := hP
    have hD := toW hP hD rfl
    have hP9 := hP.sub (ws' := [(xh, .inr (8, G8 xa xtrialRule xdropRule xtoday)), ((xa 3), .inl (E 3, 16, .inr (.inr (.inr (.inr xf3))))), (wh, .inr (7, G7 wa)), ((wa 0), .inl (E 0, 400, .inl w_8)), ((wa 1), .inl (E 0, 400, .inl w_9)), ((wa 2), .inl (E 0, 400, .inl w_10)), ((wa 3), .inl (E 0, 400, .inl w_11))]) [0, 1, 2, 3, 4, 5, 6] rfl
    have hD9 := hD.sub (ws' := [(xh, .inr (8, G8 xa xtrialRule xdropRule xtoday)), ((xa 3), .inl (E 3, 16, .inr (.inr (.inr (.inr xf3))))), (wh, .inr (7, G7 wa)), ((wa 0), .inl (E 0, 400, .inl w_8)), ((wa 1), .inl (E 0, 400, .inl w_9)), ((wa 2), .inl (E 0, 400, .inl w_10)), ((wa 3), .inl (E 0, 400, .inl w_11))]) [0, 1, 2, 3, 4, 5, 6] (by decide) rfl
    exact W.vret hx hb hr (fun t ht hW => ⟨⟨(w_8, w_9, w_10, w_11), rfl, (by first | assumption | (exfalso; omega)), by rw [ht]; exact hP9, hD9⟩, hS.F ht⟩) hS.2.2 dX8_bringWatch_39
  ·
    refine W_top (y := .int 0) (by rw [hr_1]) ?_
    refine lv_if_ne (tgt := 8) hx hb dX8_bringWatch_4 (by decide) (fun c_12 => absurd (by decide) c_12) (fun c_12 => ?_)
    have hP9 := hP.sub (ws' := [(xh, .inr (8, G8 xa xtrialRule xdropRule xtoday)), ((xa 3), .inl (E 3, 16, .inr (.inr (.inr (.inr xf3))))), (wh, .inr (7, G7 wa)), ((wa 0), .inl (E 0, 400, .inl wf0)), ((wa 1), .inl (E 0, 400, .inl wf1)), ((wa 2), .inl (E 0, 400, .inl wf2)), ((wa 3), .inl (E 0, 400, .inl wf3))]) [0, 1, 2, 3, 4, 5, 6] rfl
    have hD9 := hD.sub (ws' := [(xh, .inr (8, G8 xa xtrialRule xdropRule xtoday)), ((xa 3), .inl (E 3, 16, .inr (.inr (.inr (.inr xf3))))), (wh, .inr (7, G7 wa)), ((wa 0), .inl (E 0, 400, .inl wf0)), ((wa 1), .inl (E 0, 400, .inl wf1)), ((wa 2), .inl (E 0, 400, .inl wf2)), ((wa 3), .inl (E 0, 400, .inl wf3))]) [0, 1, 2, 3, 4, 5, 6] (by decide) rfl
    exact W.vret hx hb hr (fun t ht hW => ⟨⟨(wf0, wf1, wf2, wf3), rfl, (by first | assumption | (exfalso; omega)), by rw [ht]; exact hP9, hD9⟩, hS.F ht⟩) hS.2.2 dX8_bringWatch_7
set_option maxHeartbeats 4000000 in
set_option maxRecDepth 100000 in
theorem g_X8_bringWatch_M (l : Launch) (D : va_G) (E : Nat → Nat) (xh : Nat) (xa : Nat → Nat) (xtrialRule : Nat) (xdropRule : Nat) (xtoday : Int32) (xf3 : Nat → Option Nat) (p0 : Int32) (sz : Nat) (hi_x : (0 ≤ xtoday.toInt ∧ xtoday.toInt ≤ 399)) (hp0 : 0 ≤ p0.toInt ∧ p0.toInt ≤ 15) (hw0 : xf3 (p0).toNatClampNeg = none) : Met l yX8_bringWatch (wl yX8_bringWatch cX8_bringWatch 2 none) (RM 2 5 1604) (mu_P D E [.ref xh, .int p0] [(xh, .inr (8, G8 xa xtrialRule xdropRule xtoday)), ((xa 3), .inl (E 3, 16, .inr (.inr (.inr (.inr xf3)))))] sz) (va_Qv (fun (u : (Nat → Option Nat) × (Nat) × (Nat → Nat) × (Nat → Int32) × (Nat → Int32) × (Nat → Int32) × (Nat → Int32)) => (NEW4 u.2.2.2.1 u.2.2.2.2.1 u.2.2.2.2.2.1 u.2.2.2.2.2.2 400) ∧ (u.1 = va_up xf3 (p0).toNatClampNeg (some u.2.1))) (mu_B D (va_A [(xh, .inr (8, G8 xa xtrialRule xdropRule xtoday)), ((xa 3), .inl (E 3, 16, .inr (.inr (.inr (.inr xf3)))))] sz) (fun (u : (Nat → Option Nat) × (Nat) × (Nat → Nat) × (Nat → Int32) × (Nat → Int32) × (Nat → Int32) × (Nat → Int32)) => [(xh, .inr (8, G8 xa xtrialRule xdropRule xtoday)), ((xa 3), .inl (E 3, 16, .inr (.inr (.inr (.inr u.1))))), (u.2.1, .inr (7, G7 u.2.2.1)), ((u.2.2.1 0), .inl (E 0, 400, .inl u.2.2.2.1)), ((u.2.2.1 1), .inl (E 0, 400, .inl u.2.2.2.2.1)), ((u.2.2.1 2), .inl (E 0, 400, .inl u.2.2.2.2.2.1)), ((u.2.2.1 3), .inl (E 0, 400, .inl u.2.2.2.2.2.2))])) (va_A [(xh, .inr (8, G8 xa xtrialRule xdropRule xtoday)), ((xa 3), .inl (E 3, 16, .inr (.inr (.inr (.inr xf3)))))] sz)) 5 1604 (va_A [(xh, .inr (8, G8 xa xtrialRule xdropRule xtoday)), ((xa 3), .inl (E 3, 16, .inr (.inr (.inr (.inr xf3)))))] sz) := by
  refine Met.ofW (cc := cX8_bringWatch) (maxL := 2) (ret := none) (by decide) rfl ?_
  intro p e s m args below meth c s₁ B hml hv
  obtain ⟨rfl, hsz, hP, hK, hD0⟩ := hv
  have hx := B.exec; have hb := B.bytes; have hr := B.returns
  have hts := atoms_spec (ws := wl yX8_bringWatch cX8_bringWatch 2 none) B.pre
  have htb : ∀ w ∈ tb, w.before _ s = true := fun w h => hts w (List.mem_cons_of_mem _ h)
  have hown : s.vm.findClass RX8 = some m.cls := findClass_of_methodNamed B.named
  have hlocks := B.notSynchronized
  subst hsz
  have hD := hD0.self (sz := s.heap.size)
  generalize hAe : va_A [(xh, .inr (8, G8 xa xtrialRule xdropRule xtoday)), ((xa 3), .inl (E 3, 16, .inr (.inr (.inr (.inr xf3)))))] s.heap.size = A at hD ⊢
  have hA : ∀ q : Nat, s.heap.size ≤ q → A q := fun q h => by rw [← hAe]; exact Or.inr h
  have hS : va_S A s.heap s.heap [] := va_S.rf
  have hP : va_P D vwCl [(xh, .inr (8, G8 xa xtrialRule xdropRule xtoday)), ((xa 3), .inl (E 3, 16, .inr (.inr (.inr (.inr xf3)))))] s.heap := hP
  have hl := lv_entry ([.ref xh, .int p0]) (n := 2) (Nat.le_of_ble_eq_true rfl)
  rw [lg_entry_eq]
  generalize (lg_sl ([.ref xh, .int p0]) ++ List.replicate (2 - (lg_sl ([.ref xh, .int p0])).length) Slot.unset).toArray = ls at hl ⊢
  have hl : lv_has ls 2 [(0, .ref xh), (1, .int p0)] := hl
  have lo_p0 := i_lo p0; have hi_p0 := i_hi p0
  refine lv_iload_n hx hb dX8_bringWatch_0 rfl (lv_at hl 1 rfl) ?_
  refine callRS (rest := []) (As := [.int p0]) hx hb hml hown htb hK (g_X8_isPlace l D E p0 ) ok_X8_isPlace k_333 k_334 k_1 k_335 ⟨(Nat.le_of_ble_eq_true rfl), (Nat.le_of_ble_eq_true rfl)⟩ ⟨(Nat.le_of_ble_eq_true rfl), (Nat.le_of_ble_eq_true rfl)⟩ hl.1 (Nat.le_of_ble_eq_true rfl) rfl rfl dX8_bringWatch_1 (hP.sub (ws' := ([] : va_W)) [] rfl) (fun r_1 hw_2 => ?_)
  rcases hw_2 with ⟨hr_1, hw_2⟩ | ⟨hr_1, hw_2⟩
  ·
    refine W_top (y := .int 1) (by rw [hr_1]) ?_
    refine lv_if_ne (tgt := 8) hx hb dX8_bringWatch_4 (by decide) (fun c_4 => ?_) (fun c_4 => absurd c_4 (by decide))
    refine lv_aload_n hx hb dX8_bringWatch_8 rfl (lv_at hl 0 rfl) ?_
    refine va_get (D := D) (ci := 8) (v := .ref (xa 3)) (C := RX8) (T := TX8) (N := 14) hx hb htb iX8 hown hK.1 hP 0 rfl rfl 3 (by decide) (htb _ k_275) (fun _ h9 => h9) rfl dX8_bringWatch_9 ?_
    refine lv_iload_n hx hb dX8_bringWatch_12 rfl (lv_at hl 1 rfl) ?_
    refine va_aldq hx hb hK.1 hP 1 3 rfl rfl (g_in rfl (by omega) (by omega)) dX8_bringWatch_13 ?_
    refine W_top (y := .null) (congrArg va_rf hw0) ?_
    refine lv_ifnonnullN hx hb dX8_bringWatch_14 ?_
    refine lv_aload_n hx hb dX8_bringWatch_17 rfl (lv_at hl 0 rfl) ?_
    refine va_get (D := D) (ci := 8) (v := .ref (xa 3)) (C := RX8) (T := TX8) (N := 14) hx hb htb iX8 hown hK.1 hP 0 rfl rfl 3 (by decide) (htb _ k_275) (fun _ h9 => h9) rfl dX8_bringWatch_18 ?_
    refine lv_iload_n hx hb dX8_bringWatch_21 rfl (lv_at hl 1 rfl) ?_
    refine va_new (ci := 7) (fs := [.null, .null, .null, .null]) (C := RX7) (T := TX7) (N := 4) hx hb htb iX7 tyX7 tyX7_ok hown (htb _ k_24) (htb _ k_343) (htb _ k_10) hK.1 hP hD hS hA rfl (by decide) (Nat.le_of_ble_eq_true rfl) (Nat.le_of_ble_eq_true rfl) dX8_bringWatch_22 (fun q_5 H hP hD hS => ?_)
    have hP : va_P D vwCl [(xh, .inr (8, G8 xa xtrialRule xdropRule xtoday)), ((xa 3), .inl (E 3, 16, .inr (.inr (.inr (.inr xf3))))), (q_5, .inr (7, [.null, .null, .null, .null]))] H := hP
    have hD := toW hP hD rfl
    refine W.widen (k := 1) (n := 4) (Nat.le_of_ble_eq_true rfl) (Nat.le_of_ble_eq_true rfl) ?_
    refine lv_dup hx hb dX8_bringWatch_25 rfl ?_
    have hPc := hP.sub (ws' := [(q_5, .inr (7, [.null, .null, .null, .null]))]) [2] rfl
    have hDc := hD.sub (ws' := [(q_5, .inr (7, [.null, .null, .null, .null]))]) [2] (by decide) rfl
    refine aft_v (runMN (rest := [.ref q_5, .int p0, .ref (xa 3)]) (As := []) hx hb hml hown htb hK (c_X7_init l D E q_5 _ ) ok_X7_init rfl (show Cond.methodLinkNest RX8 301 yX7_init RX8 ∈ nestW by decide +kernel) k_345 k_10 k_346 ⟨(Nat.le_of_ble_eq_true rfl), (Nat.le_of_ble_eq_true rfl)⟩ ⟨(Nat.le_of_ble_eq_true rfl), (Nat.le_of_ble_eq_true rfl)⟩ hl.1 (Nat.le_of_ble_eq_true rfl) rfl rfl dX8_bringWatch_26 hPc hDc) hP hD hS hA [2] [0, 1] (wr := [(xh, .inr (8, G8 xa xtrialRule xdropRule xtoday)), ((xa 3), .inl (E 3, 16, .inr (.inr (.inr (.inr xf3)))))]) rfl rfl (by decide) (by decide) (fun u_6 H locs hw_7 hP hD hS => ?_)
    clear hPc hDc
    have hP : va_P D vwCl [(xh, .inr (8, G8 xa xtrialRule xdropRule xtoday)), ((xa 3), .inl (E 3, 16, .inr (.inr (.inr (.inr xf3))))), (q_5, .inr (7, G7 u_6)), ((u_6 0), .inl (E 0, 400, .inl (fun _ => 0))), ((u_6 1), .inl (E 0, 400, .inl (fun _ => 0))), ((u_6 2), .inl (E 0, 400, .inl (fun _ => 0))), ((u_6 3), .inl (E 0, 400, .inl (fun _ => 0)))] H := hP
    have hD := toW hP hD rfl
    refine W.widen (k := 5) (n := 1604) (Nat.le_of_ble_eq_true rfl) (Nat.le_of_ble_eq_true rfl) ?_
    refine va_astq hx hb hK.1 hP hD hS 1 3 2 7 rfl rfl rfl rfl (g_in rfl (by omega) (by omega)) dX8_bringWatch_29 (fun H locs hP hD hS => ?_)
    have hP : va_P D vwCl [(xh, .inr (8, G8 xa xtrialRule xdropRule xtoday)), ((xa 3), .inl (E 3, 16, .inr (.inr (.inr (.inr (va_up xf3 (p0 : Int32).toNatClampNeg (some q_5))))))), (q_5, .inr (7, G7 u_6)), ((u_6 0), .inl (E 0, 400, .inl (fun _ => 0))), ((u_6 1), .inl (E 0, 400, .inl (fun _ => 0))), ((u_6 2), .inl (E 0, 400, .inl (fun _ => 0))), ((u_6 3), .inl (E 0, 400, .inl (fun _ => 0)))] H := hP
    have hD := toW hP hD rfl
    refine lv_aload_n hx hb dX8_bringWatch_30 rfl (lv_at hl 0 rfl) ?_
    refine va_get (D := D) (ci := 8) (v := .ref (xa 3)) (C := RX8) (T := TX8) (N := 14) hx hb htb iX8 hown hK.1 hP 0 rfl rfl 3 (by decide) (htb _ k_275) (fun _ h9 => h9) rfl dX8_bringWatch_31 ?_
    refine lv_iload_n hx hb dX8_bringWatch_34 rfl (lv_at hl 1 rfl) ?_
    refine va_aldq hx hb hK.1 hP 1 3 rfl rfl (g_in rfl (by omega) (by omega)) dX8_bringWatch_35 ?_
    refine W_top (y := .ref q_5) (by simp [va_up, va_rf]) ?_
    have hPc := hP.sub (ws' := [(q_5, .inr (7, G7 u_6)), ((u_6 0), .inl (E 0, 400, .inl (fun _ => 0))), ((u_6 1), .inl (E 0, 400, .inl (fun _ => 0))), ((u_6 2), .inl (E 0, 400, .inl (fun _ => 0))), ((u_6 3), .inl (E 0, 400, .inl (fun _ => 0)))]) [2, 3, 4, 5, 6] rfl
    have hDc := hD.sub (ws' := [(q_5, .inr (7, G7 u_6)), ((u_6 0), .inl (E 0, 400, .inl (fun _ => 0))), ((u_6 1), .inl (E 0, 400, .inl (fun _ => 0))), ((u_6 2), .inl (E 0, 400, .inl (fun _ => 0))), ((u_6 3), .inl (E 0, 400, .inl (fun _ => 0)))]) [2, 3, 4, 5, 6] (by decide) rfl
    refine aft_v (runMV (rest := []) (As := []) hx hb hml hown htb hK (g_X7_becomeNew l D E q_5 u_6 (fun _ => 0) (fun _ => 0) (fun _ => 0) (fun _ => 0) _ ) ok_X7_becomeNew k_361 k_362 k_363 k_10 k_364 ⟨(Nat.le_of_ble_eq_true rfl), (Nat.le_of_ble_eq_true rfl)⟩ ⟨(Nat.le_of_ble_eq_true rfl), (Nat.le_of_ble_eq_true rfl)⟩ hl.1 (Nat.le_of_ble_eq_true rfl) rfl rfl dX8_bringWatch_36 hPc hDc rfl rfl 0 rfl) hP hD hS hA [2, 3, 4, 5, 6] [0, 1] (wr := [(xh, .inr (8, G8 xa xtrialRule xdropRule xtoday)), ((xa 3), .inl (E 3, 16, .inr (.inr (.inr (.inr (va_up xf3 (p0 : Int32).toNatClampNeg (some q_5)))))))]) rfl rfl (by decide) (by decide) (fun u_11 H locs hw_10 hP hD hS => ?_)
    clear hPc hDc
    obtain ⟨w_12, w_13, w_14, w_15⟩ := u_11
    try dsimp only at hw_10
    have hP : va_P D vwCl [(xh, .inr (8, G8 xa xtrialRule xdropRule xtoday)), ((xa 3), .inl (E 3, 16, .inr (.inr (.inr (.inr (va_up xf3 (p0 : Int32).toNatClampNeg (some q_5))))))), (q_5, .inr (7, G7 u_6)), ((u_6 0), .inl (E 0, 400, .inl w_12)), ((u_6 1), .inl (E 0, 400, .inl w_13)), ((u_6 2), .inl (E 0, 400, .inl w_14)), ((u_6 3), .inl (E 0, 400, .inl w_15))] H := hP
    have hD := toW hP hD rfl
    have hP9 := hP.sub (ws' := [(xh, .inr (8, G8 xa xtrialRule xdropRule xtoday)), ((xa 3), .inl (E 3, 16, .inr (.inr (.inr (.inr (va_up xf3 (p0 : Int32).toNatClampNeg (some q_5))))))), (q_5, .inr (7, G7 u_6)), ((u_6 0), .inl (E 0, 400, .inl w_12)), ((u_6 1), .inl (E 0, 400, .inl w_13)), ((u_6 2), .inl (E 0, 400, .inl w_14)), ((u_6 3), .inl (E 0, 400, .inl w_15))]) [0, 1, 2, 3, 4, 5, 6] rfl
    have hD9 := hD.sub (ws' := [(xh, .inr (8, G8 xa xtrialRule xdropRule xtoday)), ((xa 3), .inl (E 3, 16, .inr (.inr (.inr (.inr (va_up xf3 (p0 : Int32).toNatClampNeg (some q_5))))))), (q_5, .inr (7, G7 u_6)), ((u_6 0), .inl (E 0, 400, .inl w_12)), ((u_6 1), .inl (E 0, 400, .inl w_13)), ((u_6 2), .inl (E 0, 400, .inl w_14)), ((u_6 3), .inl (E 0, 400, .inl w_15))]) [0, 1, 2, 3, 4, 5, 6] (by decide) rfl
    exact W.vret hx hb hr (fun t ht hW => ⟨⟨((va_up xf3 (p0 : Int32).toNatClampNeg (some q_5)), q_5, u_6, w_12, w_13, w_14, w_15), rfl, ⟨(by first | assumption | (exfalso; omega)), rfl⟩, by rw [ht]; exact hP9, hD9⟩, hS.F ht⟩) hS.2.2 dX8_bringWatch_39
  ·
    refine W_top (y := .int 0) (by rw [hr_1]) ?_
    refine lv_if_ne (tgt := 8) hx hb dX8_bringWatch_4 (by decide) (fun c_16 => absurd (by decide) c_16) (fun c_16 => ?_)
    exfalso; omega
end
section
set_option maxHeartbeats 4000000 in
set_option maxRecDepth 100000 in
theorem g_X8_put_0 (l : Launch) (D : va_G) (E : Nat → Nat) (xh : Nat) (xa : Nat → Nat) (xtrialRule : Nat) (xdropRule : Nat) (xtoday : Int32) (xf1 : Nat → Int32) (xf2 : Nat → Int32) (p0 : Int32) (p1 : Int32) (p2 : Int32) (sz : Nat) (hi_x : (0 ≤ xtoday.toInt ∧ xtoday.toInt ≤ 399)) (hn : ¬ ((0 ≤ p0.toInt ∧ p0.toInt ≤ 15) ∧ ((p1.toInt = 0 ∧ p2.toInt = 0) ∨ (p1.toInt = 1 ∧ -50 ≤ p2.toInt ∧ p2.toInt ≤ 50) ∨ p1.toInt = 2) ∧ p1.toInt ≠ 2 ∧ (xf1 (p0).toNatClampNeg).toInt = -5)) : Met l yX8_put (wl yX8_put cX8_put 4 (some .int)) (RM 2 0 0) (mu_P D E [.ref xh, .int p0, .int p1, .int p2] [(xh, .inr (8, G8 xa xtrialRule xdropRule xtoday)), ((xa 1), .inl (E 0, 16, .inl xf1)), ((xa 2), .inl (E 0, 16, .inl xf2))] sz) (va_Qi (fun (r : Int32) (u : (Nat → Int32) × (Nat → Int32)) => (K2 xf1 u.1) ∧ ((¬ ((0 ≤ p0.toInt ∧ p0.toInt ≤ 15) ∧ ((p1.toInt = 0 ∧ p2.toInt = 0) ∨ (p1.toInt = 1 ∧ -50 ≤ p2.toInt ∧ p2.toInt ≤ 50) ∨ p1.toInt = 2)) ∧ r.toInt = -1 ∧ u.1 = xf1 ∧ u.2 = xf2) ∨ (((0 ≤ p0.toInt ∧ p0.toInt ≤ 15) ∧ ((p1.toInt = 0 ∧ p2.toInt = 0) ∨ (p1.toInt = 1 ∧ -50 ≤ p2.toInt ∧ p2.toInt ≤ 50) ∨ p1.toInt = 2)) ∧ (xf1 (p0).toNatClampNeg).toInt ≠ -5 ∧ r.toInt = -4 ∧ u.1 = xf1 ∧ u.2 = xf2) ∨ (((0 ≤ p0.toInt ∧ p0.toInt ≤ 15) ∧ ((p1.toInt = 0 ∧ p2.toInt = 0) ∨ (p1.toInt = 1 ∧ -50 ≤ p2.toInt ∧ p2.toInt ≤ 50) ∨ p1.toInt = 2)) ∧ (xf1 (p0).toNatClampNeg).toInt = -5 ∧ p1.toInt = 2 ∧ r.toInt = 1 ∧ u.1 = upd xf1 (p0).toNatClampNeg p1 ∧ u.2 = upd xf2 (p0).toNatClampNeg p2))) (mu_B D (va_A [(xh, .inr (8, G8 xa xtrialRule xdropRule xtoday)), ((xa 1), .inl (E 0, 16, .inl xf1)), ((xa 2), .inl (E 0, 16, .inl xf2))] sz) (fun (u : (Nat → Int32) × (Nat → Int32)) => [(xh, .inr (8, G8 xa xtrialRule xdropRule xtoday)), ((xa 1), .inl (E 0, 16, .inl u.1)), ((xa 2), .inl (E 0, 16, .inl u.2))])) (va_A [(xh, .inr (8, G8 xa xtrialRule xdropRule xtoday)), ((xa 1), .inl (E 0, 16, .inl xf1)), ((xa 2), .inl (E 0, 16, .inl xf2))] sz)) 0 0 (va_A [(xh, .inr (8, G8 xa xtrialRule xdropRule xtoday)), ((xa 1), .inl (E 0, 16, .inl xf1)), ((xa 2), .inl (E 0, 16, .inl xf2))] sz) := by
  refine Met.ofW (cc := cX8_put) (maxL := 4) (ret := (some .int)) (by decide) rfl ?_
  intro p e s m args below meth c s₁ B hml hv
  obtain ⟨rfl, hsz, hP, hK, hD0⟩ := hv
  have hx := B.exec; have hb := B.bytes; have hr := B.returns
  have hts := atoms_spec (ws := wl yX8_put cX8_put 4 (some .int)) B.pre
  have htb : ∀ w ∈ tb, w.before _ s = true := fun w h => hts w (List.mem_cons_of_mem _ h)
  have hown : s.vm.findClass RX8 = some m.cls := findClass_of_methodNamed B.named
  have hlocks := B.notSynchronized
  subst hsz
  have hD := hD0.self (sz := s.heap.size)
  generalize hAe : va_A [(xh, .inr (8, G8 xa xtrialRule xdropRule xtoday)), ((xa 1), .inl (E 0, 16, .inl xf1)), ((xa 2), .inl (E 0, 16, .inl xf2))] s.heap.size = A at hD ⊢
  have hA : ∀ q : Nat, s.heap.size ≤ q → A q := fun q h => by rw [← hAe]; exact Or.inr h
  have hS : va_S A s.heap s.heap [] := va_S.rf
  have hP : va_P D vwCl [(xh, .inr (8, G8 xa xtrialRule xdropRule xtoday)), ((xa 1), .inl (E 0, 16, .inl xf1)), ((xa 2), .inl (E 0, 16, .inl xf2))] s.heap := hP
  have hl := lv_entry ([.ref xh, .int p0, .int p1, .int p2]) (n := 4) (Nat.le_of_ble_eq_true rfl)
  rw [lg_entry_eq]
  generalize (lg_sl ([.ref xh, .int p0, .int p1, .int p2]) ++ List.replicate (4 - (lg_sl ([.ref xh, .int p0, .int p1, .int p2])).length) Slot.unset).toArray = ls at hl ⊢
  have hl : lv_has ls 4 [(0, .ref xh), (1, .int p0), (2, .int p1), (3, .int p2)] := hl
  have lo_p0 := i_lo p0; have hi_p0 := i_hi p0
  have lo_p1 := i_lo p1; have hi_p1 := i_hi p1
  have lo_p2 := i_lo p2; have hi_p2 := i_hi p2
  refine lv_iload_n hx hb dX8_put_0 rfl (lv_at hl 1 rfl) ?_
  refine callRS (rest := []) (As := [.int p0]) hx hb hml hown htb hK (g_X8_isPlace l D E p0 ) ok_X8_isPlace k_333 k_334 k_1 k_335 ⟨(Nat.le_of_ble_eq_true rfl), (Nat.le_of_ble_eq_true rfl)⟩ ⟨(Nat.le_of_ble_eq_true rfl), (Nat.le_of_ble_eq_true rfl)⟩ hl.1 (Nat.le_of_ble_eq_true rfl) rfl rfl dX8_put_1 (hP.sub (ws' := ([] : va_W)) [] rfl) (fun r_1 hw_2 => ?_)
  rcases hw_2 with ⟨hr_1, hw_2⟩ | ⟨hr_1, hw_2⟩
  ·
    refine W_top (y := .int 1) (by rw [hr_1]) ?_
    refine lv_if_eq (tgt := 15) hx hb dX8_put_4 (by decide) (fun c_4 => absurd c_4 (by decide)) (fun c_4 => ?_)
    refine lv_iload_n hx hb dX8_put_7 rfl (lv_at hl 2 rfl) ?_
    refine lv_iload_n hx hb dX8_put_8 rfl (lv_at hl 3 rfl) ?_
    refine callRS (rest := []) (As := [.int p1, .int p2]) hx hb hml hown htb hK (g_X8_fitsKind l D E p1 p2 ) ok_X8_fitsKind k_336 k_337 k_1 k_338 ⟨(Nat.le_of_ble_eq_true rfl), (Nat.le_of_ble_eq_true rfl)⟩ ⟨(Nat.le_of_ble_eq_true rfl), (Nat.le_of_ble_eq_true rfl)⟩ hl.1 (Nat.le_of_ble_eq_true rfl) rfl rfl dX8_put_9 (hP.sub (ws' := ([] : va_W)) [] rfl) (fun r_5 hw_6 => ?_)
    rcases hw_6 with ⟨hr_5, hw_6⟩ | ⟨hr_5, hw_6⟩
    ·
      refine W_top (y := .int 1) (by rw [hr_5]) ?_
      refine lv_if_ne (tgt := 17) hx hb dX8_put_12 (by decide) (fun c_8 => ?_) (fun c_8 => absurd c_8 (by decide))
      refine lv_aload_n hx hb dX8_put_17 rfl (lv_at hl 0 rfl) ?_
      refine va_get (D := D) (ci := 8) (v := .ref (xa 1)) (C := RX8) (T := TX8) (N := 14) hx hb htb iX8 hown hK.1 hP 0 rfl rfl 1 (by decide) (htb _ k_273) (fun _ h9 => h9) rfl dX8_put_18 ?_
      refine lv_iload_n hx hb dX8_put_21 rfl (lv_at hl 1 rfl) ?_
      refine va_iald hx hb hK.1 hP 1 0 rfl rfl (g_in rfl (by omega) (by omega)) dX8_put_22 ?_
      refine lv_topi (fun z_9 ez_9 => ?_)
      have kz_9 := congrArg Int32.toInt ez_9
      refine lv_bipush (v := (-5)) hx hb dX8_put_23 (by decide) ?_
      refine lv_icmp_eq (tgt := 31) hx hb dX8_put_25 (by decide) (fun c_10 => ?_) (fun c_10 => ?_)
      ·
        have ic_10 : z_9.toInt = -5 := (g_eq rfl t_m5).mp c_10
        clear c_10
        refine lv_aload_n hx hb dX8_put_31 rfl (lv_at hl 0 rfl) ?_
        refine va_get (D := D) (ci := 8) (v := .ref (xa 1)) (C := RX8) (T := TX8) (N := 14) hx hb htb iX8 hown hK.1 hP 0 rfl rfl 1 (by decide) (htb _ k_273) (fun _ h9 => h9) rfl dX8_put_32 ?_
        refine lv_iload_n hx hb dX8_put_35 rfl (lv_at hl 1 rfl) ?_
        refine lv_iload_n hx hb dX8_put_36 rfl (lv_at hl 2 rfl) ?_
        refine va_iast hx hb hK.1 hP hD hS 1 0 rfl rfl (g_in rfl (by omega) (by omega)) dX8_put_37 (fun H locs hP hD hS => ?_)
        have hP : va_P D vwCl [(xh, .inr (8, G8 xa xtrialRule xdropRule xtoday)), ((xa 1), .inl (E 0, 16, .inl (upd xf1 (p0 : Int32).toNatClampNeg p1))), ((xa 2), .inl (E 0, 16, .inl xf2))] H := hP
        have hD := toW hP hD rfl
        refine lv_aload_n hx hb dX8_put_38 rfl (lv_at hl 0 rfl) ?_
        refine va_get (D := D) (ci := 8) (v := .ref (xa 2)) (C := RX8) (T := TX8) (N := 14) hx hb htb iX8 hown hK.1 hP 0 rfl rfl 2 (by decide) (htb _ k_274) (fun _ h9 => h9) rfl dX8_put_39 ?_
        refine lv_iload_n hx hb dX8_put_42 rfl (lv_at hl 1 rfl) ?_
        refine lv_iload_n hx hb dX8_put_43 rfl (lv_at hl 3 rfl) ?_
        refine va_iast hx hb hK.1 hP hD hS 2 0 rfl rfl (g_in rfl (by omega) (by omega)) dX8_put_44 (fun H locs hP hD hS => ?_)
        have hP : va_P D vwCl [(xh, .inr (8, G8 xa xtrialRule xdropRule xtoday)), ((xa 1), .inl (E 0, 16, .inl (upd xf1 (p0 : Int32).toNatClampNeg p1))), ((xa 2), .inl (E 0, 16, .inl (upd xf2 (p0 : Int32).toNatClampNeg p2)))] H := hP
        have hD := toW hP hD rfl
        refine lv_iload_n hx hb dX8_put_45 rfl (lv_at hl 2 rfl) ?_
        refine lv_iconst (v := 2) hx hb dX8_put_46 (by decide) ?_
        refine lv_icmp_eq (tgt := 55) hx hb dX8_put_47 (by decide) (fun c_11 => ?_) (fun c_11 => ?_)
        ·
          have ic_11 : p1.toInt = 2 := (g_eq rfl t_2).mp c_11
          clear c_11
          refine lv_iconst (v := 1) hx hb dX8_put_55 (by decide) ?_
          have hP9 := hP.sub (ws' := [(xh, .inr (8, G8 xa xtrialRule xdropRule xtoday)), ((xa 1), .inl (E 0, 16, .inl (upd xf1 (p0 : Int32).toNatClampNeg p1))), ((xa 2), .inl (E 0, 16, .inl (upd xf2 (p0 : Int32).toNatClampNeg p2)))]) [0, 1, 2] rfl
          have hD9 := hD.sub (ws' := [(xh, .inr (8, G8 xa xtrialRule xdropRule xtoday)), ((xa 1), .inl (E 0, 16, .inl (upd xf1 (p0 : Int32).toNatClampNeg p1))), ((xa 2), .inl (E 0, 16, .inl (upd xf2 (p0 : Int32).toNatClampNeg p2)))]) [0, 1, 2] (by decide) rfl
          exact W.iret (v := 1) hx hb hr (fun t ht hW => ⟨⟨1, ((upd xf1 (p0 : Int32).toNatClampNeg p1), (upd xf2 (p0 : Int32).toNatClampNeg p2)), rfl, ⟨(K2_u (by omega)), (by have hl0 := t_1; (try dsimp only); first | exact Or.inl ⟨by omega, by omega, rfl, rfl⟩ | exact Or.inr (Or.inl ⟨by omega, by omega, by omega, rfl, rfl⟩) | exact Or.inr (Or.inr ⟨by omega, by omega, by omega, by omega, rfl, rfl⟩))⟩, by rw [ht]; exact hP9, hD9⟩, hS.F ht⟩) hS.2.2 dX8_put_56
        ·
          have ic_11 : p1.toInt ≠ 2 := mt (g_eq rfl t_2).mpr c_11
          clear c_11
          refine lv_aload_n hx hb dX8_put_50 rfl (lv_at hl 0 rfl) ?_
          refine lv_iload_n hx hb dX8_put_51 rfl (lv_at hl 1 rfl) ?_
          exfalso; omega
      ·
        have ic_10 : z_9.toInt ≠ -5 := mt (g_eq rfl t_m5).mpr c_10
        clear c_10
        refine lv_bipush (v := (-4)) hx hb dX8_put_28 (by decide) ?_
        have hP9 := hP.sub (ws' := [(xh, .inr (8, G8 xa xtrialRule xdropRule xtoday)), ((xa 1), .inl (E 0, 16, .inl xf1)), ((xa 2), .inl (E 0, 16, .inl xf2))]) [0, 1, 2] rfl
        have hD9 := hD.sub (ws' := [(xh, .inr (8, G8 xa xtrialRule xdropRule xtoday)), ((xa 1), .inl (E 0, 16, .inl xf1)), ((xa 2), .inl (E 0, 16, .inl xf2))]) [0, 1, 2] (by decide) rfl
        exact W.iret (v := (-4)) hx hb hr (fun t ht hW => ⟨⟨(-4), (xf1, xf2), rfl, ⟨K2_r, (by have hl0 := t_m4; (try dsimp only); first | exact Or.inl ⟨by omega, by omega, rfl, rfl⟩ | exact Or.inr (Or.inl ⟨by omega, by omega, by omega, rfl, rfl⟩) | exact Or.inr (Or.inr ⟨by omega, by omega, by omega, by omega, rfl, rfl⟩))⟩, by rw [ht]; exact hP9, hD9⟩, hS.F ht⟩) hS.2.2 dX8_put_30
    ·
      refine W_top (y := .int 0) (by rw [hr_5]) ?_
      refine lv_if_ne (tgt := 17) hx hb dX8_put_12 (by decide) (fun c_12 => absurd (by decide) c_12) (fun c_12 => ?_)
      refine lv_iconst (v := (-1)) hx hb dX8_put_15 (by decide) ?_
      have hP9 := hP.sub (ws' := [(xh, .inr (8, G8 xa xtrialRule xdropRule xtoday)), ((xa 1), .inl (E 0, 16, .inl xf1)), ((xa 2), .inl (E 0, 16, .inl xf2))]) [0, 1, 2] rfl
      have hD9 := hD.sub (ws' := [(xh, .inr (8, G8 xa xtrialRule xdropRule xtoday)), ((xa 1), .inl (E 0, 16, .inl xf1)), ((xa 2), .inl (E 0, 16, .inl xf2))]) [0, 1, 2] (by decide) rfl
      exact W.iret (v := (-1)) hx hb hr (fun t ht hW => ⟨⟨(-1), (xf1, xf2), rfl, ⟨K2_r, (by have hl0 := t_m1; (try dsimp only); first | exact Or.inl ⟨by omega, by omega, rfl, rfl⟩ | exact Or.inr (Or.inl ⟨by omega, by omega, by omega, rfl, rfl⟩) | exact Or.inr (Or.inr ⟨by omega, by omega, by omega, by omega, rfl, rfl⟩))⟩, by rw [ht]; exact hP9, hD9⟩, hS.F ht⟩) hS.2.2 dX8_put_16
  ·
    refine W_top (y := .int 0) (by rw [hr_1]) ?_
    refine lv_if_eq (tgt := 15) hx hb dX8_put_4 (by decide) (fun c_13 => ?_) (fun c_13 => absurd (by decide) c_13)
    refine lv_iconst (v := (-1)) hx hb dX8_put_15 (by decide) ?_
    have hP9 := hP.sub (ws' := [(xh, .inr (8, G8 xa xtrialRule xdropRule xtoday)), ((xa 1), .inl (E 0, 16, .inl xf1)), ((xa 2), .inl (E 0, 16, .inl xf2))]) [0, 1, 2] rfl
    have hD9 := hD.sub (ws' := [(xh, .inr (8, G8 xa xtrialRule xdropRule xtoday)), ((xa 1), .inl (E 0, 16, .inl xf1)), ((xa 2), .inl (E 0, 16, .inl xf2))]) [0, 1, 2] (by decide) rfl
    exact W.iret (v := (-1)) hx hb hr (fun t ht hW => ⟨⟨(-1), (xf1, xf2), rfl, ⟨K2_r, (by have hl0 := t_m1; (try dsimp only); first | exact Or.inl ⟨by omega, by omega, rfl, rfl⟩ | exact Or.inr (Or.inl ⟨by omega, by omega, by omega, rfl, rfl⟩) | exact Or.inr (Or.inr ⟨by omega, by omega, by omega, by omega, rfl, rfl⟩))⟩, by rw [ht]; exact hP9, hD9⟩, hS.F ht⟩) hS.2.2 dX8_put_16
set_option maxHeartbeats 4000000 in
set_option maxRecDepth 100000 in
theorem g_X8_put_W (l : Launch) (D : va_G) (E : Nat → Nat) (xh : Nat) (xa : Nat → Nat) (xtrialRule : Nat) (xdropRule : Nat) (xtoday : Int32) (xf1 : Nat → Int32) (xf2 : Nat → Int32) (xf3 : Nat → Option Nat) (wh : Nat) (wa : Nat → Nat) (wf0 : Nat → Int32) (wf1 : Nat → Int32) (wf2 : Nat → Int32) (wf3 : Nat → Int32) (p0 : Int32) (p1 : Int32) (p2 : Int32) (sz : Nat) (hi_x : (0 ≤ xtoday.toInt ∧ xtoday.toInt ≤ 399)) (hm : ((0 ≤ p0.toInt ∧ p0.toInt ≤ 15) ∧ ((p1.toInt = 0 ∧ p2.toInt = 0) ∨ (p1.toInt = 1 ∧ -50 ≤ p2.toInt ∧ p2.toInt ≤ 50) ∨ p1.toInt = 2) ∧ p1.toInt ≠ 2 ∧ (xf1 (p0).toNatClampNeg).toInt = -5)) (hw0 : xf3 (p0).toNatClampNeg = some wh) : Met l yX8_put (wl yX8_put cX8_put 4 (some .int)) (RM 2 0 0) (mu_P D E [.ref xh, .int p0, .int p1, .int p2] [(xh, .inr (8, G8 xa xtrialRule xdropRule xtoday)), ((xa 1), .inl (E 0, 16, .inl xf1)), ((xa 2), .inl (E 0, 16, .inl xf2)), ((xa 3), .inl (E 3, 16, .inr (.inr (.inr (.inr xf3))))), (wh, .inr (7, G7 wa)), ((wa 0), .inl (E 0, 400, .inl wf0)), ((wa 1), .inl (E 0, 400, .inl wf1)), ((wa 2), .inl (E 0, 400, .inl wf2)), ((wa 3), .inl (E 0, 400, .inl wf3))] sz) (va_Qi (fun (r : Int32) (u : (Nat → Int32) × (Nat → Int32) × (Nat → Int32) × (Nat → Int32) × (Nat → Int32) × (Nat → Int32)) => (u.2.2.2.2.1 = upd xf1 (p0).toNatClampNeg p1) ∧ ((r.toInt = 1 ∧ u.2.2.2.2.1 = upd xf1 (p0).toNatClampNeg p1 ∧ u.2.2.2.2.2 = upd xf2 (p0).toNatClampNeg p2 ∧ NEW4 u.1 u.2.1 u.2.2.1 u.2.2.2.1 400))) (mu_B D (va_A [(xh, .inr (8, G8 xa xtrialRule xdropRule xtoday)), ((xa 1), .inl (E 0, 16, .inl xf1)), ((xa 2), .inl (E 0, 16, .inl xf2)), ((xa 3), .inl (E 3, 16, .inr (.inr (.inr (.inr xf3))))), (wh, .inr (7, G7 wa)), ((wa 0), .inl (E 0, 400, .inl wf0)), ((wa 1), .inl (E 0, 400, .inl wf1)), ((wa 2), .inl (E 0, 400, .inl wf2)), ((wa 3), .inl (E 0, 400, .inl wf3))] sz) (fun (u : (Nat → Int32) × (Nat → Int32) × (Nat → Int32) × (Nat → Int32) × (Nat → Int32) × (Nat → Int32)) => [(xh, .inr (8, G8 xa xtrialRule xdropRule xtoday)), ((xa 1), .inl (E 0, 16, .inl u.2.2.2.2.1)), ((xa 2), .inl (E 0, 16, .inl u.2.2.2.2.2)), ((xa 3), .inl (E 3, 16, .inr (.inr (.inr (.inr xf3))))), (wh, .inr (7, G7 wa)), ((wa 0), .inl (E 0, 400, .inl u.1)), ((wa 1), .inl (E 0, 400, .inl u.2.1)), ((wa 2), .inl (E 0, 400, .inl u.2.2.1)), ((wa 3), .inl (E 0, 400, .inl u.2.2.2.1))])) (va_A [(xh, .inr (8, G8 xa xtrialRule xdropRule xtoday)), ((xa 1), .inl (E 0, 16, .inl xf1)), ((xa 2), .inl (E 0, 16, .inl xf2)), ((xa 3), .inl (E 3, 16, .inr (.inr (.inr (.inr xf3))))), (wh, .inr (7, G7 wa)), ((wa 0), .inl (E 0, 400, .inl wf0)), ((wa 1), .inl (E 0, 400, .inl wf1)), ((wa 2), .inl (E 0, 400, .inl wf2)), ((wa 3), .inl (E 0, 400, .inl wf3))] sz)) 0 0 (va_A [(xh, .inr (8, G8 xa xtrialRule xdropRule xtoday)), ((xa 1), .inl (E 0, 16, .inl xf1)), ((xa 2), .inl (E 0, 16, .inl xf2)), ((xa 3), .inl (E 3, 16, .inr (.inr (.inr (.inr xf3))))), (wh, .inr (7, G7 wa)), ((wa 0), .inl (E 0, 400, .inl wf0)), ((wa 1), .inl (E 0, 400, .inl wf1)), ((wa 2), .inl (E 0, 400, .inl wf2)), ((wa 3), .inl (E 0, 400, .inl wf3))] sz) := by
  refine Met.ofW (cc := cX8_put) (maxL := 4) (ret := (some .int)) (by decide) rfl ?_
  intro p e s m args below meth c s₁ B hml hv
  obtain ⟨rfl, hsz, hP, hK, hD0⟩ := hv
  have hx := B.exec; have hb := B.bytes; have hr := B.returns
  have hts := atoms_spec (ws := wl yX8_put cX8_put 4 (some .int)) B.pre
  have htb : ∀ w ∈ tb, w.before _ s = true := fun w h => hts w (List.mem_cons_of_mem _ h)
  have hown : s.vm.findClass RX8 = some m.cls := findClass_of_methodNamed B.named
  have hlocks := B.notSynchronized
  subst hsz
  have hD := hD0.self (sz := s.heap.size)
  generalize hAe : va_A [(xh, .inr (8, G8 xa xtrialRule xdropRule xtoday)), ((xa 1), .inl (E 0, 16, .inl xf1)), ((xa 2), .inl (E 0, 16, .inl xf2)), ((xa 3), .inl (E 3, 16, .inr (.inr (.inr (.inr xf3))))), (wh, .inr (7, G7 wa)), ((wa 0), .inl (E 0, 400, .inl wf0)), ((wa 1), .inl (E 0, 400, .inl wf1)), ((wa 2), .inl (E 0, 400, .inl wf2)), ((wa 3), .inl (E 0, 400, .inl wf3))] s.heap.size = A at hD ⊢
  have hA : ∀ q : Nat, s.heap.size ≤ q → A q := fun q h => by rw [← hAe]; exact Or.inr h
  have hS : va_S A s.heap s.heap [] := va_S.rf
  have hP : va_P D vwCl [(xh, .inr (8, G8 xa xtrialRule xdropRule xtoday)), ((xa 1), .inl (E 0, 16, .inl xf1)), ((xa 2), .inl (E 0, 16, .inl xf2)), ((xa 3), .inl (E 3, 16, .inr (.inr (.inr (.inr xf3))))), (wh, .inr (7, G7 wa)), ((wa 0), .inl (E 0, 400, .inl wf0)), ((wa 1), .inl (E 0, 400, .inl wf1)), ((wa 2), .inl (E 0, 400, .inl wf2)), ((wa 3), .inl (E 0, 400, .inl wf3))] s.heap := hP
  have hl := lv_entry ([.ref xh, .int p0, .int p1, .int p2]) (n := 4) (Nat.le_of_ble_eq_true rfl)
  rw [lg_entry_eq]
  generalize (lg_sl ([.ref xh, .int p0, .int p1, .int p2]) ++ List.replicate (4 - (lg_sl ([.ref xh, .int p0, .int p1, .int p2])).length) Slot.unset).toArray = ls at hl ⊢
  have hl : lv_has ls 4 [(0, .ref xh), (1, .int p0), (2, .int p1), (3, .int p2)] := hl
  have lo_p0 := i_lo p0; have hi_p0 := i_hi p0
  have lo_p1 := i_lo p1; have hi_p1 := i_hi p1
  have lo_p2 := i_lo p2; have hi_p2 := i_hi p2
  refine lv_iload_n hx hb dX8_put_0 rfl (lv_at hl 1 rfl) ?_
  refine callRS (rest := []) (As := [.int p0]) hx hb hml hown htb hK (g_X8_isPlace l D E p0 ) ok_X8_isPlace k_333 k_334 k_1 k_335 ⟨(Nat.le_of_ble_eq_true rfl), (Nat.le_of_ble_eq_true rfl)⟩ ⟨(Nat.le_of_ble_eq_true rfl), (Nat.le_of_ble_eq_true rfl)⟩ hl.1 (Nat.le_of_ble_eq_true rfl) rfl rfl dX8_put_1 (hP.sub (ws' := ([] : va_W)) [] rfl) (fun r_1 hw_2 => ?_)
  rcases hw_2 with ⟨hr_1, hw_2⟩ | ⟨hr_1, hw_2⟩
  ·
    refine W_top (y := .int 1) (by rw [hr_1]) ?_
    refine lv_if_eq (tgt := 15) hx hb dX8_put_4 (by decide) (fun c_4 => absurd c_4 (by decide)) (fun c_4 => ?_)
    refine lv_iload_n hx hb dX8_put_7 rfl (lv_at hl 2 rfl) ?_
    refine lv_iload_n hx hb dX8_put_8 rfl (lv_at hl 3 rfl) ?_
    refine callRS (rest := []) (As := [.int p1, .int p2]) hx hb hml hown htb hK (g_X8_fitsKind l D E p1 p2 ) ok_X8_fitsKind k_336 k_337 k_1 k_338 ⟨(Nat.le_of_ble_eq_true rfl), (Nat.le_of_ble_eq_true rfl)⟩ ⟨(Nat.le_of_ble_eq_true rfl), (Nat.le_of_ble_eq_true rfl)⟩ hl.1 (Nat.le_of_ble_eq_true rfl) rfl rfl dX8_put_9 (hP.sub (ws' := ([] : va_W)) [] rfl) (fun r_5 hw_6 => ?_)
    rcases hw_6 with ⟨hr_5, hw_6⟩ | ⟨hr_5, hw_6⟩
    ·
      refine W_top (y := .int 1) (by rw [hr_5]) ?_
      refine lv_if_ne (tgt := 17) hx hb dX8_put_12 (by decide) (fun c_8 => ?_) (fun c_8 => absurd c_8 (by decide))
      refine lv_aload_n hx hb dX8_put_17 rfl (lv_at hl 0 rfl) ?_
      refine va_get (D := D) (ci := 8) (v := .ref (xa 1)) (C := RX8) (T := TX8) (N := 14) hx hb htb iX8 hown hK.1 hP 0 rfl rfl 1 (by decide) (htb _ k_273) (fun _ h9 => h9) rfl dX8_put_18 ?_
      refine lv_iload_n hx hb dX8_put_21 rfl (lv_at hl 1 rfl) ?_
      refine va_iald hx hb hK.1 hP 1 0 rfl rfl (g_in rfl (by omega) (by omega)) dX8_put_22 ?_
      refine lv_topi (fun z_9 ez_9 => ?_)
      have kz_9 := congrArg Int32.toInt ez_9
      refine lv_bipush (v := (-5)) hx hb dX8_put_23 (by decide) ?_
      refine lv_icmp_eq (tgt := 31) hx hb dX8_put_25 (by decide) (fun c_10 => ?_) (fun c_10 => ?_)
      ·
        have ic_10 : z_9.toInt = -5 := (g_eq rfl t_m5).mp c_10
        clear c_10
        refine lv_aload_n hx hb dX8_put_31 rfl (lv_at hl 0 rfl) ?_
        refine va_get (D := D) (ci := 8) (v := .ref (xa 1)) (C := RX8) (T := TX8) (N := 14) hx hb htb iX8 hown hK.1 hP 0 rfl rfl 1 (by decide) (htb _ k_273) (fun _ h9 => h9) rfl dX8_put_32 ?_
        refine lv_iload_n hx hb dX8_put_35 rfl (lv_at hl 1 rfl) ?_
        refine lv_iload_n hx hb dX8_put_36 rfl (lv_at hl 2 rfl) ?_
        refine va_iast hx hb hK.1 hP hD hS 1 0 rfl rfl (g_in rfl (by omega) (by omega)) dX8_put_37 (fun H locs hP hD hS => ?_)
        have hP : va_P D vwCl [(xh, .inr (8, G8 xa xtrialRule xdropRule xtoday)), ((xa 1), .inl (E 0, 16, .inl (upd xf1 (p0 : Int32).toNatClampNeg p1))), ((xa 2), .inl (E 0, 16, .inl xf2)), ((xa 3), .inl (E 3, 16, .inr (.inr (.inr (.inr xf3))))), (wh, .inr (7, G7 wa)), ((wa 0), .inl (E 0, 400, .inl wf0)), ((wa 1), .inl (E 0, 400, .inl wf1)), ((wa 2), .inl (E 0, 400, .inl wf2)), ((wa 3), .inl (E 0, 400, .inl wf3))] H := hP
        have hD := toW hP hD rfl
        refine lv_aload_n hx hb dX8_put_38 rfl (lv_at hl 0 rfl) ?_
        refine va_get (D := D) (ci := 8) (v := .ref (xa 2)) (C := RX8) (T := TX8) (N := 14) hx hb htb iX8 hown hK.1 hP 0 rfl rfl 2 (by decide) (htb _ k_274) (fun _ h9 => h9) rfl dX8_put_39 ?_
        refine lv_iload_n hx hb dX8_put_42 rfl (lv_at hl 1 rfl) ?_
        refine lv_iload_n hx hb dX8_put_43 rfl (lv_at hl 3 rfl) ?_
        refine va_iast hx hb hK.1 hP hD hS 2 0 rfl rfl (g_in rfl (by omega) (by omega)) dX8_put_44 (fun H locs hP hD hS => ?_)
        have hP : va_P D vwCl [(xh, .inr (8, G8 xa xtrialRule xdropRule xtoday)), ((xa 1), .inl (E 0, 16, .inl (upd xf1 (p0 : Int32).toNatClampNeg p1))), ((xa 2), .inl (E 0, 16, .inl (upd xf2 (p0 : Int32).toNatClampNeg p2))), ((xa 3), .inl (E 3, 16, .inr (.inr (.inr (.inr xf3))))), (wh, .inr (7, G7 wa)), ((wa 0), .inl (E 0, 400, .inl wf0)), ((wa 1), .inl (E 0, 400, .inl wf1)), ((wa 2), .inl (E 0, 400, .inl wf2)), ((wa 3), .inl (E 0, 400, .inl wf3))] H := hP
        have hD := toW hP hD rfl
        refine lv_iload_n hx hb dX8_put_45 rfl (lv_at hl 2 rfl) ?_
        refine lv_iconst (v := 2) hx hb dX8_put_46 (by decide) ?_
        refine lv_icmp_eq (tgt := 55) hx hb dX8_put_47 (by decide) (fun c_11 => ?_) (fun c_11 => ?_)
        ·
          have ic_11 : p1.toInt = 2 := (g_eq rfl t_2).mp c_11
          clear c_11
          refine lv_iconst (v := 1) hx hb dX8_put_55 (by decide) ?_
          exfalso; omega
        ·
          have ic_11 : p1.toInt ≠ 2 := mt (g_eq rfl t_2).mpr c_11
          clear c_11
          refine lv_aload_n hx hb dX8_put_50 rfl (lv_at hl 0 rfl) ?_
          refine lv_iload_n hx hb dX8_put_51 rfl (lv_at hl 1 rfl) ?_
          have hPc := hP.sub (ws' := [(xh, .inr (8, G8 xa xtrialRule xdropRule xtoday)), ((xa 3), .inl (E 3, 16, .inr (.inr (.inr (.inr xf3))))), (wh, .inr (7, G7 wa)), ((wa 0), .inl (E 0, 400, .inl wf0)), ((wa 1), .inl (E 0, 400, .inl wf1)), ((wa 2), .inl (E 0, 400, .inl wf2)), ((wa 3), .inl (E 0, 400, .inl wf3))]) [0, 3, 4, 5, 6, 7, 8] rfl
          have hDc := hD.sub (ws' := [(xh, .inr (8, G8 xa xtrialRule xdropRule xtoday)), ((xa 3), .inl (E 3, 16, .inr (.inr (.inr (.inr xf3))))), (wh, .inr (7, G7 wa)), ((wa 0), .inl (E 0, 400, .inl wf0)), ((wa 1), .inl (E 0, 400, .inl wf1)), ((wa 2), .inl (E 0, 400, .inl wf2)), ((wa 3), .inl (E 0, 400, .inl wf3))]) [0, 3, 4, 5, 6, 7, 8] (by decide) rfl
          refine aft_v (runMV (rest := []) (As := [.int p0]) hx hb hml hown htb hK (g_X8_bringWatch_W l D E xh xa xtrialRule xdropRule xtoday xf3 wh wa wf0 wf1 wf2 wf3 p0 _ (by (try dsimp only); omega) (by (try dsimp only); omega) hw0) ok_X8_bringWatch k_339 k_341 ks_0 k_1 k_342 ⟨(Nat.le_of_ble_eq_true rfl), (Nat.le_of_ble_eq_true rfl)⟩ ⟨(Nat.le_of_ble_eq_true rfl), (Nat.le_of_ble_eq_true rfl)⟩ hl.1 (Nat.le_of_ble_eq_true rfl) rfl rfl dX8_put_52 hPc hDc rfl rfl 0 rfl) hP hD hS hA [0, 3, 4, 5, 6, 7, 8] [1, 2] (wr := [((xa 1), .inl (E 0, 16, .inl (upd xf1 (p0 : Int32).toNatClampNeg p1))), ((xa 2), .inl (E 0, 16, .inl (upd xf2 (p0 : Int32).toNatClampNeg p2)))]) rfl rfl (by decide) (by decide) (fun u_14 H locs hw_13 hP hD hS => ?_)
          clear hPc hDc
          obtain ⟨w_15, w_16, w_17, w_18⟩ := u_14
          try dsimp only at hw_13
          have hP : va_P D vwCl [((xa 1), .inl (E 0, 16, .inl (upd xf1 (p0 : Int32).toNatClampNeg p1))), ((xa 2), .inl (E 0, 16, .inl (upd xf2 (p0 : Int32).toNatClampNeg p2))), (xh, .inr (8, G8 xa xtrialRule xdropRule xtoday)), ((xa 3), .inl (E 3, 16, .inr (.inr (.inr (.inr xf3))))), (wh, .inr (7, G7 wa)), ((wa 0), .inl (E 0, 400, .inl w_15)), ((wa 1), .inl (E 0, 400, .inl w_16)), ((wa 2), .inl (E 0, 400, .inl w_17)), ((wa 3), .inl (E 0, 400, .inl w_18))] H := hP
          have hD := toW hP hD rfl
          refine lv_iconst (v := 1) hx hb dX8_put_55 (by decide) ?_
          have hP9 := hP.sub (ws' := [(xh, .inr (8, G8 xa xtrialRule xdropRule xtoday)), ((xa 1), .inl (E 0, 16, .inl (upd xf1 (p0 : Int32).toNatClampNeg p1))), ((xa 2), .inl (E 0, 16, .inl (upd xf2 (p0 : Int32).toNatClampNeg p2))), ((xa 3), .inl (E 3, 16, .inr (.inr (.inr (.inr xf3))))), (wh, .inr (7, G7 wa)), ((wa 0), .inl (E 0, 400, .inl w_15)), ((wa 1), .inl (E 0, 400, .inl w_16)), ((wa 2), .inl (E 0, 400, .inl w_17)), ((wa 3), .inl (E 0, 400, .inl w_18))]) [2, 0, 1, 3, 4, 5, 6, 7, 8] rfl
          have hD9 := hD.sub (ws' := [(xh, .inr (8, G8 xa xtrialRule xdropRule xtoday)), ((xa 1), .inl (E 0, 16, .inl (upd xf1 (p0 : Int32).toNatClampNeg p1))), ((xa 2), .inl (E 0, 16, .inl (upd xf2 (p0 : Int32).toNatClampNeg p2))), ((xa 3), .inl (E 3, 16, .inr (.inr (.inr (.inr xf3))))), (wh, .inr (7, G7 wa)), ((wa 0), .inl (E 0, 400, .inl w_15)), ((wa 1), .inl (E 0, 400, .inl w_16)), ((wa 2), .inl (E 0, 400, .inl w_17)), ((wa 3), .inl (E 0, 400, .inl w_18))]) [2, 0, 1, 3, 4, 5, 6, 7, 8] (by decide) rfl
          exact W.iret (v := 1) hx hb hr (fun t ht hW => ⟨⟨1, (w_15, w_16, w_17, w_18, (upd xf1 (p0 : Int32).toNatClampNeg p1), (upd xf2 (p0 : Int32).toNatClampNeg p2)), rfl, ⟨rfl, (by have hl0 := t_1; (try dsimp only); first | exact ⟨by omega, rfl, rfl, by assumption⟩)⟩, by rw [ht]; exact hP9, hD9⟩, hS.F ht⟩) hS.2.2 dX8_put_56
      ·
        have ic_10 : z_9.toInt ≠ -5 := mt (g_eq rfl t_m5).mpr c_10
        clear c_10
        refine lv_bipush (v := (-4)) hx hb dX8_put_28 (by decide) ?_
        exfalso; omega
    ·
      refine W_top (y := .int 0) (by rw [hr_5]) ?_
      refine lv_if_ne (tgt := 17) hx hb dX8_put_12 (by decide) (fun c_19 => absurd (by decide) c_19) (fun c_19 => ?_)
      refine lv_iconst (v := (-1)) hx hb dX8_put_15 (by decide) ?_
      exfalso; omega
  ·
    refine W_top (y := .int 0) (by rw [hr_1]) ?_
    refine lv_if_eq (tgt := 15) hx hb dX8_put_4 (by decide) (fun c_20 => ?_) (fun c_20 => absurd (by decide) c_20)
    refine lv_iconst (v := (-1)) hx hb dX8_put_15 (by decide) ?_
    exfalso; omega
set_option maxHeartbeats 4000000 in
set_option maxRecDepth 100000 in
theorem g_X8_put_M (l : Launch) (D : va_G) (E : Nat → Nat) (xh : Nat) (xa : Nat → Nat) (xtrialRule : Nat) (xdropRule : Nat) (xtoday : Int32) (xf1 : Nat → Int32) (xf2 : Nat → Int32) (xf3 : Nat → Option Nat) (p0 : Int32) (p1 : Int32) (p2 : Int32) (sz : Nat) (hi_x : (0 ≤ xtoday.toInt ∧ xtoday.toInt ≤ 399)) (hm : ((0 ≤ p0.toInt ∧ p0.toInt ≤ 15) ∧ ((p1.toInt = 0 ∧ p2.toInt = 0) ∨ (p1.toInt = 1 ∧ -50 ≤ p2.toInt ∧ p2.toInt ≤ 50) ∨ p1.toInt = 2) ∧ p1.toInt ≠ 2 ∧ (xf1 (p0).toNatClampNeg).toInt = -5)) (hw0 : xf3 (p0).toNatClampNeg = none) : Met l yX8_put (wl yX8_put cX8_put 4 (some .int)) (RM 3 5 1604) (mu_P D E [.ref xh, .int p0, .int p1, .int p2] [(xh, .inr (8, G8 xa xtrialRule xdropRule xtoday)), ((xa 1), .inl (E 0, 16, .inl xf1)), ((xa 2), .inl (E 0, 16, .inl xf2)), ((xa 3), .inl (E 3, 16, .inr (.inr (.inr (.inr xf3)))))] sz) (va_Qi (fun (r : Int32) (u : (Nat → Int32) × (Nat → Int32) × (Nat → Option Nat) × (Nat) × (Nat → Nat) × (Nat → Int32) × (Nat → Int32) × (Nat → Int32) × (Nat → Int32)) => (u.1 = upd xf1 (p0).toNatClampNeg p1) ∧ (u.2.2.1 = va_up xf3 (p0).toNatClampNeg (some u.2.2.2.1)) ∧ ((r.toInt = 1 ∧ u.1 = upd xf1 (p0).toNatClampNeg p1 ∧ u.2.1 = upd xf2 (p0).toNatClampNeg p2 ∧ NEW4 u.2.2.2.2.2.1 u.2.2.2.2.2.2.1 u.2.2.2.2.2.2.2.1 u.2.2.2.2.2.2.2.2 400))) (mu_B D (va_A [(xh, .inr (8, G8 xa xtrialRule xdropRule xtoday)), ((xa 1), .inl (E 0, 16, .inl xf1)), ((xa 2), .inl (E 0, 16, .inl xf2)), ((xa 3), .inl (E 3, 16, .inr (.inr (.inr (.inr xf3)))))] sz) (fun (u : (Nat → Int32) × (Nat → Int32) × (Nat → Option Nat) × (Nat) × (Nat → Nat) × (Nat → Int32) × (Nat → Int32) × (Nat → Int32) × (Nat → Int32)) => [(xh, .inr (8, G8 xa xtrialRule xdropRule xtoday)), ((xa 1), .inl (E 0, 16, .inl u.1)), ((xa 2), .inl (E 0, 16, .inl u.2.1)), ((xa 3), .inl (E 3, 16, .inr (.inr (.inr (.inr u.2.2.1))))), (u.2.2.2.1, .inr (7, G7 u.2.2.2.2.1)), ((u.2.2.2.2.1 0), .inl (E 0, 400, .inl u.2.2.2.2.2.1)), ((u.2.2.2.2.1 1), .inl (E 0, 400, .inl u.2.2.2.2.2.2.1)), ((u.2.2.2.2.1 2), .inl (E 0, 400, .inl u.2.2.2.2.2.2.2.1)), ((u.2.2.2.2.1 3), .inl (E 0, 400, .inl u.2.2.2.2.2.2.2.2))])) (va_A [(xh, .inr (8, G8 xa xtrialRule xdropRule xtoday)), ((xa 1), .inl (E 0, 16, .inl xf1)), ((xa 2), .inl (E 0, 16, .inl xf2)), ((xa 3), .inl (E 3, 16, .inr (.inr (.inr (.inr xf3)))))] sz)) 5 1604 (va_A [(xh, .inr (8, G8 xa xtrialRule xdropRule xtoday)), ((xa 1), .inl (E 0, 16, .inl xf1)), ((xa 2), .inl (E 0, 16, .inl xf2)), ((xa 3), .inl (E 3, 16, .inr (.inr (.inr (.inr xf3)))))] sz) := by
  refine Met.ofW (cc := cX8_put) (maxL := 4) (ret := (some .int)) (by decide) rfl ?_
  intro p e s m args below meth c s₁ B hml hv
  obtain ⟨rfl, hsz, hP, hK, hD0⟩ := hv
  have hx := B.exec; have hb := B.bytes; have hr := B.returns
  have hts := atoms_spec (ws := wl yX8_put cX8_put 4 (some .int)) B.pre
  have htb : ∀ w ∈ tb, w.before _ s = true := fun w h => hts w (List.mem_cons_of_mem _ h)
  have hown : s.vm.findClass RX8 = some m.cls := findClass_of_methodNamed B.named
  have hlocks := B.notSynchronized
  subst hsz
  have hD := hD0.self (sz := s.heap.size)
  generalize hAe : va_A [(xh, .inr (8, G8 xa xtrialRule xdropRule xtoday)), ((xa 1), .inl (E 0, 16, .inl xf1)), ((xa 2), .inl (E 0, 16, .inl xf2)), ((xa 3), .inl (E 3, 16, .inr (.inr (.inr (.inr xf3)))))] s.heap.size = A at hD ⊢
  have hA : ∀ q : Nat, s.heap.size ≤ q → A q := fun q h => by rw [← hAe]; exact Or.inr h
  have hS : va_S A s.heap s.heap [] := va_S.rf
  have hP : va_P D vwCl [(xh, .inr (8, G8 xa xtrialRule xdropRule xtoday)), ((xa 1), .inl (E 0, 16, .inl xf1)), ((xa 2), .inl (E 0, 16, .inl xf2)), ((xa 3), .inl (E 3, 16, .inr (.inr (.inr (.inr xf3)))))] s.heap := hP
  have hl := lv_entry ([.ref xh, .int p0, .int p1, .int p2]) (n := 4) (Nat.le_of_ble_eq_true rfl)
  rw [lg_entry_eq]
  generalize (lg_sl ([.ref xh, .int p0, .int p1, .int p2]) ++ List.replicate (4 - (lg_sl ([.ref xh, .int p0, .int p1, .int p2])).length) Slot.unset).toArray = ls at hl ⊢
  have hl : lv_has ls 4 [(0, .ref xh), (1, .int p0), (2, .int p1), (3, .int p2)] := hl
  have lo_p0 := i_lo p0; have hi_p0 := i_hi p0
  have lo_p1 := i_lo p1; have hi_p1 := i_hi p1
  have lo_p2 := i_lo p2; have hi_p2 := i_hi p2
  refine lv_iload_n hx hb dX8_put_0 rfl (lv_at hl 1 rfl) ?_
  refine callRS (rest := []) (As := [.int p0]) hx hb hml hown htb hK (g_X8_isPlace l D E p0 ) ok_X8_isPlace k_333 k_334 k_1 k_335 ⟨(Nat.le_of_ble_eq_true rfl), (Nat.le_of_ble_eq_true rfl)⟩ ⟨(Nat.le_of_ble_eq_true rfl), (Nat.le_of_ble_eq_true rfl)⟩ hl.1 (Nat.le_of_ble_eq_true rfl) rfl rfl dX8_put_1 (hP.sub (ws' := ([] : va_W)) [] rfl) (fun r_1 hw_2 => ?_)
  rcases hw_2 with ⟨hr_1, hw_2⟩ | ⟨hr_1, hw_2⟩
  ·
    refine W_top (y := .int 1) (by rw [hr_1]) ?_
    refine lv_if_eq (tgt := 15) hx hb dX8_put_4 (by decide) (fun c_4 => absurd c_4 (by decide)) (fun c_4 => ?_)
    refine lv_iload_n hx hb dX8_put_7 rfl (lv_at hl 2 rfl) ?_
    refine lv_iload_n hx hb dX8_put_8 rfl (lv_at hl 3 rfl) ?_
    refine callRS (rest := []) (As := [.int p1, .int p2]) hx hb hml hown htb hK (g_X8_fitsKind l D E p1 p2 ) ok_X8_fitsKind k_336 k_337 k_1 k_338 ⟨(Nat.le_of_ble_eq_true rfl), (Nat.le_of_ble_eq_true rfl)⟩ ⟨(Nat.le_of_ble_eq_true rfl), (Nat.le_of_ble_eq_true rfl)⟩ hl.1 (Nat.le_of_ble_eq_true rfl) rfl rfl dX8_put_9 (hP.sub (ws' := ([] : va_W)) [] rfl) (fun r_5 hw_6 => ?_)
    rcases hw_6 with ⟨hr_5, hw_6⟩ | ⟨hr_5, hw_6⟩
    ·
      refine W_top (y := .int 1) (by rw [hr_5]) ?_
      refine lv_if_ne (tgt := 17) hx hb dX8_put_12 (by decide) (fun c_8 => ?_) (fun c_8 => absurd c_8 (by decide))
      refine lv_aload_n hx hb dX8_put_17 rfl (lv_at hl 0 rfl) ?_
      refine va_get (D := D) (ci := 8) (v := .ref (xa 1)) (C := RX8) (T := TX8) (N := 14) hx hb htb iX8 hown hK.1 hP 0 rfl rfl 1 (by decide) (htb _ k_273) (fun _ h9 => h9) rfl dX8_put_18 ?_
      refine lv_iload_n hx hb dX8_put_21 rfl (lv_at hl 1 rfl) ?_
      refine va_iald hx hb hK.1 hP 1 0 rfl rfl (g_in rfl (by omega) (by omega)) dX8_put_22 ?_
      refine lv_topi (fun z_9 ez_9 => ?_)
      have kz_9 := congrArg Int32.toInt ez_9
      refine lv_bipush (v := (-5)) hx hb dX8_put_23 (by decide) ?_
      refine lv_icmp_eq (tgt := 31) hx hb dX8_put_25 (by decide) (fun c_10 => ?_) (fun c_10 => ?_)
      ·
        have ic_10 : z_9.toInt = -5 := (g_eq rfl t_m5).mp c_10
        clear c_10
        refine lv_aload_n hx hb dX8_put_31 rfl (lv_at hl 0 rfl) ?_
        refine va_get (D := D) (ci := 8) (v := .ref (xa 1)) (C := RX8) (T := TX8) (N := 14) hx hb htb iX8 hown hK.1 hP 0 rfl rfl 1 (by decide) (htb _ k_273) (fun _ h9 => h9) rfl dX8_put_32 ?_
        refine lv_iload_n hx hb dX8_put_35 rfl (lv_at hl 1 rfl) ?_
        refine lv_iload_n hx hb dX8_put_36 rfl (lv_at hl 2 rfl) ?_
        refine va_iast hx hb hK.1 hP hD hS 1 0 rfl rfl (g_in rfl (by omega) (by omega)) dX8_put_37 (fun H locs hP hD hS => ?_)
        have hP : va_P D vwCl [(xh, .inr (8, G8 xa xtrialRule xdropRule xtoday)), ((xa 1), .inl (E 0, 16, .inl (upd xf1 (p0 : Int32).toNatClampNeg p1))), ((xa 2), .inl (E 0, 16, .inl xf2)), ((xa 3), .inl (E 3, 16, .inr (.inr (.inr (.inr xf3)))))] H := hP
        have hD := toW hP hD rfl
        refine lv_aload_n hx hb dX8_put_38 rfl (lv_at hl 0 rfl) ?_
        refine va_get (D := D) (ci := 8) (v := .ref (xa 2)) (C := RX8) (T := TX8) (N := 14) hx hb htb iX8 hown hK.1 hP 0 rfl rfl 2 (by decide) (htb _ k_274) (fun _ h9 => h9) rfl dX8_put_39 ?_
        refine lv_iload_n hx hb dX8_put_42 rfl (lv_at hl 1 rfl) ?_
        refine lv_iload_n hx hb dX8_put_43 rfl (lv_at hl 3 rfl) ?_
        refine va_iast hx hb hK.1 hP hD hS 2 0 rfl rfl (g_in rfl (by omega) (by omega)) dX8_put_44 (fun H locs hP hD hS => ?_)
        have hP : va_P D vwCl [(xh, .inr (8, G8 xa xtrialRule xdropRule xtoday)), ((xa 1), .inl (E 0, 16, .inl (upd xf1 (p0 : Int32).toNatClampNeg p1))), ((xa 2), .inl (E 0, 16, .inl (upd xf2 (p0 : Int32).toNatClampNeg p2))), ((xa 3), .inl (E 3, 16, .inr (.inr (.inr (.inr xf3)))))] H := hP
        have hD := toW hP hD rfl
        refine lv_iload_n hx hb dX8_put_45 rfl (lv_at hl 2 rfl) ?_
        refine lv_iconst (v := 2) hx hb dX8_put_46 (by decide) ?_
        refine lv_icmp_eq (tgt := 55) hx hb dX8_put_47 (by decide) (fun c_11 => ?_) (fun c_11 => ?_)
        ·
          have ic_11 : p1.toInt = 2 := (g_eq rfl t_2).mp c_11
          clear c_11
          refine lv_iconst (v := 1) hx hb dX8_put_55 (by decide) ?_
          exfalso; omega
        ·
          have ic_11 : p1.toInt ≠ 2 := mt (g_eq rfl t_2).mpr c_11
          clear c_11
          refine lv_aload_n hx hb dX8_put_50 rfl (lv_at hl 0 rfl) ?_
          refine lv_iload_n hx hb dX8_put_51 rfl (lv_at hl 1 rfl) ?_
          have hPc := hP.sub (ws' := [(xh, .inr (8, G8 xa xtrialRule xdropRule xtoday)), ((xa 3), .inl (E 3, 16, .inr (.inr (.inr (.inr xf3)))))]) [0, 3] rfl
          have hDc := hD.sub (ws' := [(xh, .inr (8, G8 xa xtrialRule xdropRule xtoday)), ((xa 3), .inl (E 3, 16, .inr (.inr (.inr (.inr xf3)))))]) [0, 3] (by decide) rfl
          refine aft_v (runMV (rest := []) (As := [.int p0]) hx hb hml hown htb hK (g_X8_bringWatch_M l D E xh xa xtrialRule xdropRule xtoday xf3 p0 _ (by (try dsimp only); omega) (by (try dsimp only); omega) hw0) ok_X8_bringWatch k_339 k_341 ks_0 k_1 k_342 ⟨(Nat.le_of_ble_eq_true rfl), (Nat.le_of_ble_eq_true rfl)⟩ ⟨(Nat.le_of_ble_eq_true rfl), (Nat.le_of_ble_eq_true rfl)⟩ hl.1 (Nat.le_of_ble_eq_true rfl) rfl rfl dX8_put_52 hPc hDc rfl rfl 0 rfl) hP hD hS hA [0, 3] [1, 2] (wr := [((xa 1), .inl (E 0, 16, .inl (upd xf1 (p0 : Int32).toNatClampNeg p1))), ((xa 2), .inl (E 0, 16, .inl (upd xf2 (p0 : Int32).toNatClampNeg p2)))]) rfl rfl (by decide) (by decide) (fun u_14 H locs hw_13 hP hD hS => ?_)
          clear hPc hDc
          obtain ⟨w_15, w_16, w_17, w_18, w_19, w_20, w_21⟩ := u_14
          try dsimp only at hw_13
          have hP : va_P D vwCl [((xa 1), .inl (E 0, 16, .inl (upd xf1 (p0 : Int32).toNatClampNeg p1))), ((xa 2), .inl (E 0, 16, .inl (upd xf2 (p0 : Int32).toNatClampNeg p2))), (xh, .inr (8, G8 xa xtrialRule xdropRule xtoday)), ((xa 3), .inl (E 3, 16, .inr (.inr (.inr (.inr w_15))))), (w_16, .inr (7, G7 w_17)), ((w_17 0), .inl (E 0, 400, .inl w_18)), ((w_17 1), .inl (E 0, 400, .inl w_19)), ((w_17 2), .inl (E 0, 400, .inl w_20)), ((w_17 3), .inl (E 0, 400, .inl w_21))] H := hP
          have hD := toW hP hD rfl
          refine W.widen (k := 5) (n := 1604) (Nat.le_of_ble_eq_true rfl) (Nat.le_of_ble_eq_true rfl) ?_
          obtain ⟨hw_13_0, hw_13_1⟩ := hw_13
          refine lv_iconst (v := 1) hx hb dX8_put_55 (by decide) ?_
          have hP9 := hP.sub (ws' := [(xh, .inr (8, G8 xa xtrialRule xdropRule xtoday)), ((xa 1), .inl (E 0, 16, .inl (upd xf1 (p0 : Int32).toNatClampNeg p1))), ((xa 2), .inl (E 0, 16, .inl (upd xf2 (p0 : Int32).toNatClampNeg p2))), ((xa 3), .inl (E 3, 16, .inr (.inr (.inr (.inr w_15))))), (w_16, .inr (7, G7 w_17)), ((w_17 0), .inl (E 0, 400, .inl w_18)), ((w_17 1), .inl (E 0, 400, .inl w_19)), ((w_17 2), .inl (E 0, 400, .inl w_20)), ((w_17 3), .inl (E 0, 400, .inl w_21))]) [2, 0, 1, 3, 4, 5, 6, 7, 8] rfl
          have hD9 := hD.sub (ws' := [(xh, .inr (8, G8 xa xtrialRule xdropRule xtoday)), ((xa 1), .inl (E 0, 16, .inl (upd xf1 (p0 : Int32).toNatClampNeg p1))), ((xa 2), .inl (E 0, 16, .inl (upd xf2 (p0 : Int32).toNatClampNeg p2))), ((xa 3), .inl (E 3, 16, .inr (.inr (.inr (.inr w_15))))), (w_16, .inr (7, G7 w_17)), ((w_17 0), .inl (E 0, 400, .inl w_18)), ((w_17 1), .inl (E 0, 400, .inl w_19)), ((w_17 2), .inl (E 0, 400, .inl w_20)), ((w_17 3), .inl (E 0, 400, .inl w_21))]) [2, 0, 1, 3, 4, 5, 6, 7, 8] (by decide) rfl
          exact W.iret (v := 1) hx hb hr (fun t ht hW => ⟨⟨1, ((upd xf1 (p0 : Int32).toNatClampNeg p1), (upd xf2 (p0 : Int32).toNatClampNeg p2), w_15, w_16, w_17, w_18, w_19, w_20, w_21), rfl, ⟨rfl, hw_13_1, (by have hl0 := t_1; (try dsimp only); first | exact ⟨by omega, rfl, rfl, by assumption⟩)⟩, by rw [ht]; exact hP9, hD9⟩, hS.F ht⟩) hS.2.2 dX8_put_56
      ·
        have ic_10 : z_9.toInt ≠ -5 := mt (g_eq rfl t_m5).mpr c_10
        clear c_10
        refine lv_bipush (v := (-4)) hx hb dX8_put_28 (by decide) ?_
        exfalso; omega
    ·
      refine W_top (y := .int 0) (by rw [hr_5]) ?_
      refine lv_if_ne (tgt := 17) hx hb dX8_put_12 (by decide) (fun c_22 => absurd (by decide) c_22) (fun c_22 => ?_)
      refine lv_iconst (v := (-1)) hx hb dX8_put_15 (by decide) ?_
      exfalso; omega
  ·
    refine W_top (y := .int 0) (by rw [hr_1]) ?_
    refine lv_if_eq (tgt := 15) hx hb dX8_put_4 (by decide) (fun c_23 => ?_) (fun c_23 => absurd (by decide) c_23)
    refine lv_iconst (v := (-1)) hx hb dX8_put_15 (by decide) ?_
    exfalso; omega
end
section
set_option maxHeartbeats 4000000 in
set_option maxRecDepth 100000 in
theorem g_X8_rule (l : Launch) (D : va_G) (E : Nat → Nat) (xh : Nat) (xa : Nat → Nat) (xtrialRule : Nat) (xdropRule : Nat) (xtoday : Int32) (ta : Nat → Nat) (tsize : Int32) (trule : Nat) (twords : Nat) (tat : Int32) (tword : Int32) (twordAt : Int32) (tvalue : Int32) (tf0 : Nat → Int32) (u3a : Nat → Nat) (u3size : Int32) (u3f0 : Nat → Int32) (u3f1 : Nat → Int32) (p0 : Int32) (sz : Nat) (hi_x : (0 ≤ xtoday.toInt ∧ xtoday.toInt ≤ 399)) (hi_t : (0 ≤ tsize.toInt ∧ tsize.toInt ≤ 120)) (hi_u3 : (0 ≤ u3size.toInt ∧ u3size.toInt ≤ 120)) : Met l yX8_rule (wl yX8_rule cX8_rule 3 (some .int)) (RM 145 0 0) (muS_P D E [.ref xh, .int p0] [(xh, .inr (8, G8 xa xtrialRule xdropRule xtoday)), ((xa 9), .inr (6, G6 ta tsize trule twords tat tword twordAt tvalue)), ((ta 0), .inl (E 0, 120, .inl tf0)), (trule, .inr (4, G4 u3a u3size)), ((u3a 0), .inl (E 0, 120, .inl u3f0)), ((u3a 1), .inl (E 0, 120, .inl u3f1))] sz [((E 6), (E 8), 60, tw6), ((E 7), (E 9), 35, tw7)]) (va_Qi (fun (r : Int32) (u : (Int32) × (Nat) × (Int32) × (Int32) × (Int32) × (Int32) × (Nat) × (Nat → Int32) × (Nat → Int32) × (Int32) × (Nat) × (Nat)) => (0 ≤ u.2.2.1.toInt ∧ u.2.2.1.toInt ≤ 120) ∧ (0 ≤ u.2.2.2.2.2.2.2.2.2.1.toInt ∧ u.2.2.2.2.2.2.2.2.2.1.toInt ≤ 120) ∧ ((u.2.2.2.2.2.2.2.2.2.2.2 = xtrialRule ∧ u.2.2.2.2.2.2.2.2.2.2.1 = xdropRule ∧ u.2.1 = trule) ∨ (u.2.2.2.2.2.2.2.2.2.2.2 = trule ∧ u.2.2.2.2.2.2.2.2.2.2.1 = xdropRule ∧ u.2.1 = xtrialRule) ∨ (u.2.2.2.2.2.2.2.2.2.2.2 = xtrialRule ∧ u.2.2.2.2.2.2.2.2.2.2.1 = trule ∧ u.2.1 = xdropRule)) ∧ (((0 ≤ p0.toInt ∧ p0.toInt ≤ 1) ∧ u.2.2.1.toInt = 0) ∨ (¬ (0 ≤ p0.toInt ∧ p0.toInt ≤ 1) ∧ u.2.2.1.toInt = tsize.toInt))) (mu_B D (va_A [(xh, .inr (8, G8 xa xtrialRule xdropRule xtoday)), ((xa 9), .inr (6, G6 ta tsize trule twords tat tword twordAt tvalue)), ((ta 0), .inl (E 0, 120, .inl tf0)), (trule, .inr (4, G4 u3a u3size)), ((u3a 0), .inl (E 0, 120, .inl u3f0)), ((u3a 1), .inl (E 0, 120, .inl u3f1))] sz) (fun (u : (Int32) × (Nat) × (Int32) × (Int32) × (Int32) × (Int32) × (Nat) × (Nat → Int32) × (Nat → Int32) × (Int32) × (Nat) × (Nat)) => [(xh, .inr (8, G8 xa u.2.2.2.2.2.2.2.2.2.2.2 u.2.2.2.2.2.2.2.2.2.2.1 xtoday)), ((xa 9), .inr (6, G6 ta u.2.2.1 u.2.1 u.2.2.2.2.2.2.1 u.1 u.2.2.2.2.1 u.2.2.2.2.2.1 u.2.2.2.1)), ((ta 0), .inl (E 0, 120, .inl tf0)), (trule, .inr (4, G4 u3a u.2.2.2.2.2.2.2.2.2.1)), ((u3a 0), .inl (E 0, 120, .inl u.2.2.2.2.2.2.2.1)), ((u3a 1), .inl (E 0, 120, .inl u.2.2.2.2.2.2.2.2.1))])) (va_A [(xh, .inr (8, G8 xa xtrialRule xdropRule xtoday)), ((xa 9), .inr (6, G6 ta tsize trule twords tat tword twordAt tvalue)), ((ta 0), .inl (E 0, 120, .inl tf0)), (trule, .inr (4, G4 u3a u3size)), ((u3a 0), .inl (E 0, 120, .inl u3f0)), ((u3a 1), .inl (E 0, 120, .inl u3f1))] sz)) 0 0 (va_A [(xh, .inr (8, G8 xa xtrialRule xdropRule xtoday)), ((xa 9), .inr (6, G6 ta tsize trule twords tat tword twordAt tvalue)), ((ta 0), .inl (E 0, 120, .inl tf0)), (trule, .inr (4, G4 u3a u3size)), ((u3a 0), .inl (E 0, 120, .inl u3f0)), ((u3a 1), .inl (E 0, 120, .inl u3f1))] sz) := by
  refine Met.ofW (cc := cX8_rule) (maxL := 3) (ret := (some .int)) (by decide) rfl ?_
  intro p e s m args below meth c s₁ B hml hv
  obtain ⟨rfl, hsz, hP, hK, hD0, hG⟩ := hv
  have hx := B.exec; have hb := B.bytes; have hr := B.returns
  have hts := atoms_spec (ws := wl yX8_rule cX8_rule 3 (some .int)) B.pre
  have htb : ∀ w ∈ tb, w.before _ s = true := fun w h => hts w (List.mem_cons_of_mem _ h)
  have hown : s.vm.findClass RX8 = some m.cls := findClass_of_methodNamed B.named
  have hlocks := B.notSynchronized
  subst hsz
  have hD := hD0.self (sz := s.heap.size)
  generalize hAe : va_A [(xh, .inr (8, G8 xa xtrialRule xdropRule xtoday)), ((xa 9), .inr (6, G6 ta tsize trule twords tat tword twordAt tvalue)), ((ta 0), .inl (E 0, 120, .inl tf0)), (trule, .inr (4, G4 u3a u3size)), ((u3a 0), .inl (E 0, 120, .inl u3f0)), ((u3a 1), .inl (E 0, 120, .inl u3f1))] s.heap.size = A at hD hG ⊢
  have hA : ∀ q : Nat, s.heap.size ≤ q → A q := fun q h => by rw [← hAe]; exact Or.inr h
  have hS : va_S A s.heap s.heap [] := va_S.rf
  have hP : va_P D vwCl [(xh, .inr (8, G8 xa xtrialRule xdropRule xtoday)), ((xa 9), .inr (6, G6 ta tsize trule twords tat tword twordAt tvalue)), ((ta 0), .inl (E 0, 120, .inl tf0)), (trule, .inr (4, G4 u3a u3size)), ((u3a 0), .inl (E 0, 120, .inl u3f0)), ((u3a 1), .inl (E 0, 120, .inl u3f1))] s.heap := hP
  have hl := lv_entry ([.ref xh, .int p0]) (n := 3) (Nat.le_of_ble_eq_true rfl)
  rw [lg_entry_eq]
  generalize (lg_sl ([.ref xh, .int p0]) ++ List.replicate (3 - (lg_sl ([.ref xh, .int p0])).length) Slot.unset).toArray = ls at hl ⊢
  have hl : lv_has ls 3 [(0, .ref xh), (1, .int p0)] := hl
  have lo_p0 := i_lo p0; have hi_p0 := i_hi p0
  refine lv_iload_n hx hb dX8_rule_0 rfl (lv_at hl 1 rfl) ?_
  refine lv_if_eq (tgt := 11) hx hb dX8_rule_1 (by decide) (fun c_1 => ?_) (fun c_1 => ?_)
  ·
    have ic_1 : p0.toInt = 0 := (g_eq rfl t_0).mp c_1
    clear c_1
    refine lv_aload_n hx hb dX8_rule_11 rfl (lv_at hl 0 rfl) ?_
    refine va_get (D := D) (ci := 8) (v := .ref (xa 9)) (C := RX8) (T := TX8) (N := 14) hx hb htb iX8 hown hK.1 hP 0 rfl rfl 9 (by decide) (htb _ k_281) (fun _ h9 => h9) rfl dX8_rule_12 ?_
    refine lv_iload_n hx hb dX8_rule_15 rfl (lv_at hl 1 rfl) ?_
    refine lv_if_ne (tgt := 24) hx hb dX8_rule_16 (by decide) (fun c_2 => absurd (by rw [g_eq rfl t_0]; omega) c_2) (fun c_2 => ?_)
    refine va_ldcS hx hb hown hK.2.2.2.2.1 dX8_rule_19 ?_
    refine lv_goto (tgt := 26) hx hb dX8_rule_21 (by decide) ?_
    have hPc := hP.sub (ws' := [((xa 9), .inr (6, G6 ta tsize trule twords tat tword twordAt tvalue)), ((ta 0), .inl (E 0, 120, .inl tf0)), (trule, .inr (4, G4 u3a u3size)), ((u3a 0), .inl (E 0, 120, .inl u3f0)), ((u3a 1), .inl (E 0, 120, .inl u3f1))]) [1, 2, 3, 4, 5] rfl
    have hDc := hD.sub (ws' := [((xa 9), .inr (6, G6 ta tsize trule twords tat tword twordAt tvalue)), ((ta 0), .inl (E 0, 120, .inl tf0)), (trule, .inr (4, G4 u3a u3size)), ((u3a 0), .inl (E 0, 120, .inl u3f0)), ((u3a 1), .inl (E 0, 120, .inl u3f1))]) [1, 2, 3, 4, 5] (by decide) rfl
    refine aft_i (runMG (rest := []) (As := [.ref (E 6)]) hx hb hml hown htb (g_X6_readAsRule l D E (xa 9) ta tsize trule twords tat tword twordAt tvalue tf0 u3a u3size u3f0 u3f1 (E 6) (E 8) 60 tw6 _ (by (try dsimp only); omega) (by (try dsimp only); omega) (by decide) (by decide)) ok_X6_readAsRule k_587 k_588 k_589 k_5 k_590 ⟨(Nat.le_of_ble_eq_true rfl), (Nat.le_of_ble_eq_true rfl)⟩ ⟨(Nat.le_of_ble_eq_true rfl), (Nat.le_of_ble_eq_true rfl)⟩ hl.1 (Nat.le_of_ble_eq_true rfl) rfl rfl dX8_rule_26 (pmVS hPc hDc hK rfl rfl 0 rfl (hG.one 0 rfl) hS (va_free hD hS hA [1, 2, 3, 4, 5] rfl))) hP hD hS hA [1, 2, 3, 4, 5] [0] (wr := [(xh, .inr (8, G8 xa xtrialRule xdropRule xtoday))]) rfl rfl (by decide) (by decide) (fun r_3 u_5 H locs hw_4 hP hD hS => ?_)
    clear hPc hDc
    obtain ⟨w_6, w_7, w_8, w_9, w_10, w_11, w_12, w_13⟩ := u_5
    try dsimp only at hw_4
    have hP : va_P D vwCl [(xh, .inr (8, G8 xa xtrialRule xdropRule xtoday)), ((xa 9), .inr (6, G6 ta tsize trule w_10 w_6 w_8 w_9 w_7)), ((ta 0), .inl (E 0, 120, .inl tf0)), (trule, .inr (4, G4 u3a w_13)), ((u3a 0), .inl (E 0, 120, .inl w_11)), ((u3a 1), .inl (E 0, 120, .inl w_12))] H := hP
    have hD := toW hP hD rfl
    obtain ⟨hw_4_0, hw_4_1⟩ := hw_4
    try simp only [t_60] at hw_4_0
    try simp only [t_60] at hw_4_1
    refine lv_istore_n (lv' := [(2, .int r_3), (0, .ref xh), (1, .int p0)]) hx hb dX8_rule_29 rfl hl (by decide) rfl (fun ls hl => ?_)
    refine lv_aload_n hx hb dX8_rule_30 rfl (lv_at hl 1 rfl) ?_
    refine va_get (D := D) (ci := 8) (v := .ref (xa 9)) (C := RX8) (T := TX8) (N := 14) hx hb htb iX8 hown hK.1 hP 0 rfl rfl 9 (by decide) (htb _ k_281) (fun _ h9 => h9) rfl dX8_rule_31 ?_
    refine lv_iconst (v := 0) hx hb dX8_rule_34 (by decide) ?_
    refine va_putN (D := D) (ci := 6) (v := .int 0) (ty := .int) (C := RX6) (T := TX6) (N := 8) hx hb htb iX6 tyX6 tyX6_ok nmX6 hown hK.1 hP hD hS 1 rfl rfl 1 (by decide) (va_Nw.use rfl (hK.2.1 (Cond.fieldLinkNest RX8 179 "SeaWatches$Tape" "size" "I" "SeaWatches") (by decide +kernel))) (fun _ h9 => h9) rfl (by decide +kernel) rfl rfl (Nat.le_of_ble_eq_true rfl) dX8_rule_35 (fun H locs hP hD hS => ?_)
    have hP : va_P D vwCl [(xh, .inr (8, G8 xa xtrialRule xdropRule xtoday)), ((xa 9), .inr (6, G6 ta 0 trule w_10 w_6 w_8 w_9 w_7)), ((ta 0), .inl (E 0, 120, .inl tf0)), (trule, .inr (4, G4 u3a w_13)), ((u3a 0), .inl (E 0, 120, .inl w_11)), ((u3a 1), .inl (E 0, 120, .inl w_12))] H := hP
    have hD := toW hP hD rfl
    refine lv_iload_n hx hb dX8_rule_38 rfl (lv_at hl 0 rfl) ?_
    refine lv_iconst (v := (-1)) hx hb dX8_rule_39 (by decide) ?_
    refine lv_icmp_eq (tgt := 48) hx hb dX8_rule_40 (by decide) (fun c_14 => ?_) (fun c_14 => ?_)
    ·
      have ic_14 : r_3.toInt = -1 := (g_eq rfl t_m1).mp c_14
      clear c_14
      refine lv_iload_n hx hb dX8_rule_48 rfl (lv_at hl 2 rfl) ?_
      refine lv_if_ne (tgt := 70) hx hb dX8_rule_49 (by decide) (fun c_15 => absurd (by rw [g_eq rfl t_0]; omega) c_15) (fun c_15 => ?_)
      refine lv_aload_n hx hb dX8_rule_52 rfl (lv_at hl 1 rfl) ?_
      refine lv_aload_n hx hb dX8_rule_53 rfl (lv_at hl 1 rfl) ?_
      refine va_get (D := D) (ci := 8) (v := .ref (xa 9)) (C := RX8) (T := TX8) (N := 14) hx hb htb iX8 hown hK.1 hP 0 rfl rfl 9 (by decide) (htb _ k_281) (fun _ h9 => h9) rfl dX8_rule_54 ?_
      refine lv_aload_n hx hb dX8_rule_57 rfl (lv_at hl 1 rfl) ?_
      refine va_get (D := D) (ci := 8) (v := .ref xtrialRule) (C := RX8) (T := TX8) (N := 14) hx hb htb iX8 hown hK.1 hP 0 rfl rfl 11 (by decide) (htb _ k_283) (fun _ h9 => h9) rfl dX8_rule_58 ?_
      have hPc := hP.sub (ws' := [((xa 9), .inr (6, G6 ta 0 trule w_10 w_6 w_8 w_9 w_7))]) [1] rfl
      have hDc := hD.sub (ws' := [((xa 9), .inr (6, G6 ta 0 trule w_10 w_6 w_8 w_9 w_7))]) [1] (by decide) rfl
      refine aft_r (runMV (rest := [.ref xh]) (As := [.ref xtrialRule]) hx hb hml hown htb hK (g_X6_exchangeRule l D E (xa 9) ta 0 trule w_10 w_6 w_8 w_9 w_7 xtrialRule _ (by have h0 := t_0; (try dsimp only); omega)) ok_X6_exchangeRule k_704 k_705 k_706 k_5 k_707 ⟨(Nat.le_of_ble_eq_true rfl), (Nat.le_of_ble_eq_true rfl)⟩ ⟨(Nat.le_of_ble_eq_true rfl), (Nat.le_of_ble_eq_true rfl)⟩ hl.1 (Nat.le_of_ble_eq_true rfl) rfl rfl dX8_rule_61 hPc hDc rfl rfl 0 rfl) hP hD hS hA [1] [0, 2, 3, 4, 5] (wr := [(xh, .inr (8, G8 xa xtrialRule xdropRule xtoday)), ((ta 0), .inl (E 0, 120, .inl tf0)), (trule, .inr (4, G4 u3a w_13)), ((u3a 0), .inl (E 0, 120, .inl w_11)), ((u3a 1), .inl (E 0, 120, .inl w_12))]) rfl rfl (by decide) (by decide) (fun u_18 H locs hw_17 hP hD hS => ?_)
      clear hPc hDc
      have hP : va_P D vwCl [(xh, .inr (8, G8 xa xtrialRule xdropRule xtoday)), ((ta 0), .inl (E 0, 120, .inl tf0)), (trule, .inr (4, G4 u3a w_13)), ((u3a 0), .inl (E 0, 120, .inl w_11)), ((u3a 1), .inl (E 0, 120, .inl w_12)), ((xa 9), .inr (6, G6 ta 0 u_18 w_10 w_6 w_8 w_9 w_7))] H := hP
      have hD := toW hP hD rfl
      try simp only [t_0] at hw_17
      refine va_put (D := D) (ci := 8) (v := .ref trule) (ty := .object "SeaWatches$Rule") (C := RX8) (T := TX8) (N := 14) hx hb htb iX8 tyX8 tyX8_ok nmX8 hown hK.1 hP hD hS 0 rfl rfl 11 (by decide) (htb _ k_283) (fun _ h9 => h9) rfl (by decide +kernel) rfl rfl (Nat.le_of_ble_eq_true rfl) dX8_rule_64 (fun H locs hP hD hS => ?_)
      have hP : va_P D vwCl [(xh, .inr (8, G8 xa trule xdropRule xtoday)), ((ta 0), .inl (E 0, 120, .inl tf0)), (trule, .inr (4, G4 u3a w_13)), ((u3a 0), .inl (E 0, 120, .inl w_11)), ((u3a 1), .inl (E 0, 120, .inl w_12)), ((xa 9), .inr (6, G6 ta 0 u_18 w_10 w_6 w_8 w_9 w_7))] H := hP
      have hD := toW hP hD rfl
      refine lv_goto (tgt := 85) hx hb dX8_rule_67 (by decide) ?_
      refine lv_iconst (v := 1) hx hb dX8_rule_85 (by decide) ?_
      have hP9 := hP.sub (ws' := [(xh, .inr (8, G8 xa trule xdropRule xtoday)), ((xa 9), .inr (6, G6 ta 0 u_18 w_10 w_6 w_8 w_9 w_7)), ((ta 0), .inl (E 0, 120, .inl tf0)), (trule, .inr (4, G4 u3a w_13)), ((u3a 0), .inl (E 0, 120, .inl w_11)), ((u3a 1), .inl (E 0, 120, .inl w_12))]) [0, 5, 1, 2, 3, 4] rfl
      have hD9 := hD.sub (ws' := [(xh, .inr (8, G8 xa trule xdropRule xtoday)), ((xa 9), .inr (6, G6 ta 0 u_18 w_10 w_6 w_8 w_9 w_7)), ((ta 0), .inl (E 0, 120, .inl tf0)), (trule, .inr (4, G4 u3a w_13)), ((u3a 0), .inl (E 0, 120, .inl w_11)), ((u3a 1), .inl (E 0, 120, .inl w_12))]) [0, 5, 1, 2, 3, 4] (by decide) rfl
      exact W.iret (v := 1) hx hb hr (fun t ht hW => ⟨⟨1, (w_6, u_18, (0 : Int32), w_7, w_8, w_9, w_10, w_11, w_12, w_13, xdropRule, trule), rfl, ⟨(by have h0 := t_0; (try dsimp only); omega), (by (try dsimp only); omega), (by (try dsimp only); first | exact Or.inl ⟨by first | rfl | assumption, by first | rfl | assumption, by first | rfl | assumption⟩ | exact Or.inr (Or.inl ⟨by first | rfl | assumption, by first | rfl | assumption, by first | rfl | assumption⟩) | exact Or.inr (Or.inr ⟨by first | rfl | assumption, by first | rfl | assumption, by first | rfl | assumption⟩)), (by have h0 := t_0; (try dsimp only); omega)⟩, by rw [ht]; exact hP9, hD9⟩, hS.F ht⟩) hS.2.2 dX8_rule_86
    ·
      have ic_14 : r_3.toInt ≠ -1 := mt (g_eq rfl t_m1).mpr c_14
      clear c_14
      refine lv_bipush (v := (-100)) hx hb dX8_rule_43 (by decide) ?_
      refine lv_iload_n hx hb dX8_rule_45 rfl (lv_at hl 0 rfl) ?_
      refine lv_isub hx hb dX8_rule_46 ?_
      refine lv_topi (fun z_19 ez_19 => ?_)
      have hP9 := hP.sub (ws' := [(xh, .inr (8, G8 xa xtrialRule xdropRule xtoday)), ((xa 9), .inr (6, G6 ta 0 trule w_10 w_6 w_8 w_9 w_7)), ((ta 0), .inl (E 0, 120, .inl tf0)), (trule, .inr (4, G4 u3a w_13)), ((u3a 0), .inl (E 0, 120, .inl w_11)), ((u3a 1), .inl (E 0, 120, .inl w_12))]) [0, 1, 2, 3, 4, 5] rfl
      have hD9 := hD.sub (ws' := [(xh, .inr (8, G8 xa xtrialRule xdropRule xtoday)), ((xa 9), .inr (6, G6 ta 0 trule w_10 w_6 w_8 w_9 w_7)), ((ta 0), .inl (E 0, 120, .inl tf0)), (trule, .inr (4, G4 u3a w_13)), ((u3a 0), .inl (E 0, 120, .inl w_11)), ((u3a 1), .inl (E 0, 120, .inl w_12))]) [0, 1, 2, 3, 4, 5] (by decide) rfl
      exact W.iret (v := z_19) hx hb hr (fun t ht hW => ⟨⟨z_19, (w_6, trule, (0 : Int32), w_7, w_8, w_9, w_10, w_11, w_12, w_13, xdropRule, xtrialRule), rfl, ⟨(by have h0 := t_0; (try dsimp only); omega), (by (try dsimp only); omega), (by (try dsimp only); first | exact Or.inl ⟨by first | rfl | assumption, by first | rfl | assumption, by first | rfl | assumption⟩ | exact Or.inr (Or.inl ⟨by first | rfl | assumption, by first | rfl | assumption, by first | rfl | assumption⟩) | exact Or.inr (Or.inr ⟨by first | rfl | assumption, by first | rfl | assumption, by first | rfl | assumption⟩)), (by have h0 := t_0; (try dsimp only); omega)⟩, by rw [ht]; exact hP9, hD9⟩, hS.F ht⟩) hS.2.2 dX8_rule_47
  ·
    have ic_1 : p0.toInt ≠ 0 := mt (g_eq rfl t_0).mpr c_1
    clear c_1
    refine lv_iload_n hx hb dX8_rule_4 rfl (lv_at hl 1 rfl) ?_
    refine lv_iconst (v := 1) hx hb dX8_rule_5 (by decide) ?_
    refine lv_icmp_eq (tgt := 11) hx hb dX8_rule_6 (by decide) (fun c_20 => ?_) (fun c_20 => ?_)
    ·
      have ic_20 : p0.toInt = 1 := (g_eq rfl t_1).mp c_20
      clear c_20
      refine lv_aload_n hx hb dX8_rule_11 rfl (lv_at hl 0 rfl) ?_
      refine va_get (D := D) (ci := 8) (v := .ref (xa 9)) (C := RX8) (T := TX8) (N := 14) hx hb htb iX8 hown hK.1 hP 0 rfl rfl 9 (by decide) (htb _ k_281) (fun _ h9 => h9) rfl dX8_rule_12 ?_
      refine lv_iload_n hx hb dX8_rule_15 rfl (lv_at hl 1 rfl) ?_
      refine lv_if_ne (tgt := 24) hx hb dX8_rule_16 (by decide) (fun c_21 => ?_) (fun c_21 => absurd c_21 (by rw [g_eq rfl t_0]; omega))
      refine va_ldcS hx hb hown hK.2.2.2.2.2 dX8_rule_24 ?_
      have hPc := hP.sub (ws' := [((xa 9), .inr (6, G6 ta tsize trule twords tat tword twordAt tvalue)), ((ta 0), .inl (E 0, 120, .inl tf0)), (trule, .inr (4, G4 u3a u3size)), ((u3a 0), .inl (E 0, 120, .inl u3f0)), ((u3a 1), .inl (E 0, 120, .inl u3f1))]) [1, 2, 3, 4, 5] rfl
      have hDc := hD.sub (ws' := [((xa 9), .inr (6, G6 ta tsize trule twords tat tword twordAt tvalue)), ((ta 0), .inl (E 0, 120, .inl tf0)), (trule, .inr (4, G4 u3a u3size)), ((u3a 0), .inl (E 0, 120, .inl u3f0)), ((u3a 1), .inl (E 0, 120, .inl u3f1))]) [1, 2, 3, 4, 5] (by decide) rfl
      refine aft_i (runMG (rest := []) (As := [.ref (E 7)]) hx hb hml hown htb (g_X6_readAsRule l D E (xa 9) ta tsize trule twords tat tword twordAt tvalue tf0 u3a u3size u3f0 u3f1 (E 7) (E 9) 35 tw7 _ (by (try dsimp only); omega) (by (try dsimp only); omega) (by decide) (by decide)) ok_X6_readAsRule k_587 k_588 k_589 k_5 k_590 ⟨(Nat.le_of_ble_eq_true rfl), (Nat.le_of_ble_eq_true rfl)⟩ ⟨(Nat.le_of_ble_eq_true rfl), (Nat.le_of_ble_eq_true rfl)⟩ hl.1 (Nat.le_of_ble_eq_true rfl) rfl rfl dX8_rule_26 (pmVS hPc hDc hK rfl rfl 0 rfl (hG.one 1 rfl) hS (va_free hD hS hA [1, 2, 3, 4, 5] rfl))) hP hD hS hA [1, 2, 3, 4, 5] [0] (wr := [(xh, .inr (8, G8 xa xtrialRule xdropRule xtoday))]) rfl rfl (by decide) (by decide) (fun r_22 u_24 H locs hw_23 hP hD hS => ?_)
      clear hPc hDc
      obtain ⟨w_25, w_26, w_27, w_28, w_29, w_30, w_31, w_32⟩ := u_24
      try dsimp only at hw_23
      have hP : va_P D vwCl [(xh, .inr (8, G8 xa xtrialRule xdropRule xtoday)), ((xa 9), .inr (6, G6 ta tsize trule w_29 w_25 w_27 w_28 w_26)), ((ta 0), .inl (E 0, 120, .inl tf0)), (trule, .inr (4, G4 u3a w_32)), ((u3a 0), .inl (E 0, 120, .inl w_30)), ((u3a 1), .inl (E 0, 120, .inl w_31))] H := hP
      have hD := toW hP hD rfl
      obtain ⟨hw_23_0, hw_23_1⟩ := hw_23
      try simp only [t_35] at hw_23_0
      try simp only [t_35] at hw_23_1
      refine lv_istore_n (lv' := [(2, .int r_22), (0, .ref xh), (1, .int p0)]) hx hb dX8_rule_29 rfl hl (by decide) rfl (fun ls hl => ?_)
      refine lv_aload_n hx hb dX8_rule_30 rfl (lv_at hl 1 rfl) ?_
      refine va_get (D := D) (ci := 8) (v := .ref (xa 9)) (C := RX8) (T := TX8) (N := 14) hx hb htb iX8 hown hK.1 hP 0 rfl rfl 9 (by decide) (htb _ k_281) (fun _ h9 => h9) rfl dX8_rule_31 ?_
      refine lv_iconst (v := 0) hx hb dX8_rule_34 (by decide) ?_
      refine va_putN (D := D) (ci := 6) (v := .int 0) (ty := .int) (C := RX6) (T := TX6) (N := 8) hx hb htb iX6 tyX6 tyX6_ok nmX6 hown hK.1 hP hD hS 1 rfl rfl 1 (by decide) (va_Nw.use rfl (hK.2.1 (Cond.fieldLinkNest RX8 179 "SeaWatches$Tape" "size" "I" "SeaWatches") (by decide +kernel))) (fun _ h9 => h9) rfl (by decide +kernel) rfl rfl (Nat.le_of_ble_eq_true rfl) dX8_rule_35 (fun H locs hP hD hS => ?_)
      have hP : va_P D vwCl [(xh, .inr (8, G8 xa xtrialRule xdropRule xtoday)), ((xa 9), .inr (6, G6 ta 0 trule w_29 w_25 w_27 w_28 w_26)), ((ta 0), .inl (E 0, 120, .inl tf0)), (trule, .inr (4, G4 u3a w_32)), ((u3a 0), .inl (E 0, 120, .inl w_30)), ((u3a 1), .inl (E 0, 120, .inl w_31))] H := hP
      have hD := toW hP hD rfl
      refine lv_iload_n hx hb dX8_rule_38 rfl (lv_at hl 0 rfl) ?_
      refine lv_iconst (v := (-1)) hx hb dX8_rule_39 (by decide) ?_
      refine lv_icmp_eq (tgt := 48) hx hb dX8_rule_40 (by decide) (fun c_33 => ?_) (fun c_33 => ?_)
      ·
        have ic_33 : r_22.toInt = -1 := (g_eq rfl t_m1).mp c_33
        clear c_33
        refine lv_iload_n hx hb dX8_rule_48 rfl (lv_at hl 2 rfl) ?_
        refine lv_if_ne (tgt := 70) hx hb dX8_rule_49 (by decide) (fun c_34 => ?_) (fun c_34 => absurd c_34 (by rw [g_eq rfl t_0]; omega))
        refine lv_aload_n hx hb dX8_rule_70 rfl (lv_at hl 1 rfl) ?_
        refine lv_aload_n hx hb dX8_rule_71 rfl (lv_at hl 1 rfl) ?_
        refine va_get (D := D) (ci := 8) (v := .ref (xa 9)) (C := RX8) (T := TX8) (N := 14) hx hb htb iX8 hown hK.1 hP 0 rfl rfl 9 (by decide) (htb _ k_281) (fun _ h9 => h9) rfl dX8_rule_72 ?_
        refine lv_aload_n hx hb dX8_rule_75 rfl (lv_at hl 1 rfl) ?_
        refine va_get (D := D) (ci := 8) (v := .ref xdropRule) (C := RX8) (T := TX8) (N := 14) hx hb htb iX8 hown hK.1 hP 0 rfl rfl 12 (by decide) (htb _ k_284) (fun _ h9 => h9) rfl dX8_rule_76 ?_
        have hPc := hP.sub (ws' := [((xa 9), .inr (6, G6 ta 0 trule w_29 w_25 w_27 w_28 w_26))]) [1] rfl
        have hDc := hD.sub (ws' := [((xa 9), .inr (6, G6 ta 0 trule w_29 w_25 w_27 w_28 w_26))]) [1] (by decide) rfl
        refine aft_r (runMV (rest := [.ref xh]) (As := [.ref xdropRule]) hx hb hml hown htb hK (g_X6_exchangeRule l D E (xa 9) ta 0 trule w_29 w_25 w_27 w_28 w_26 xdropRule _ (by have h0 := t_0; (try dsimp only); omega)) ok_X6_exchangeRule k_704 k_705 k_706 k_5 k_707 ⟨(Nat.le_of_ble_eq_true rfl), (Nat.le_of_ble_eq_true rfl)⟩ ⟨(Nat.le_of_ble_eq_true rfl), (Nat.le_of_ble_eq_true rfl)⟩ hl.1 (Nat.le_of_ble_eq_true rfl) rfl rfl dX8_rule_79 hPc hDc rfl rfl 0 rfl) hP hD hS hA [1] [0, 2, 3, 4, 5] (wr := [(xh, .inr (8, G8 xa xtrialRule xdropRule xtoday)), ((ta 0), .inl (E 0, 120, .inl tf0)), (trule, .inr (4, G4 u3a w_32)), ((u3a 0), .inl (E 0, 120, .inl w_30)), ((u3a 1), .inl (E 0, 120, .inl w_31))]) rfl rfl (by decide) (by decide) (fun u_37 H locs hw_36 hP hD hS => ?_)
        clear hPc hDc
        have hP : va_P D vwCl [(xh, .inr (8, G8 xa xtrialRule xdropRule xtoday)), ((ta 0), .inl (E 0, 120, .inl tf0)), (trule, .inr (4, G4 u3a w_32)), ((u3a 0), .inl (E 0, 120, .inl w_30)), ((u3a 1), .inl (E 0, 120, .inl w_31)), ((xa 9), .inr (6, G6 ta 0 u_37 w_29 w_25 w_27 w_28 w_26))] H := hP
        have hD := toW hP hD rfl
        try simp only [t_0] at hw_36
        refine va_put (D := D) (ci := 8) (v := .ref trule) (ty := .object "SeaWatches$Rule") (C := RX8) (T := TX8) (N := 14) hx hb htb iX8 tyX8 tyX8_ok nmX8 hown hK.1 hP hD hS 0 rfl rfl 12 (by decide) (htb _ k_284) (fun _ h9 => h9) rfl (by decide +kernel) rfl rfl (Nat.le_of_ble_eq_true rfl) dX8_rule_82 (fun H locs hP hD hS => ?_)
        have hP : va_P D vwCl [(xh, .inr (8, G8 xa xtrialRule trule xtoday)), ((ta 0), .inl (E 0, 120, .inl tf0)), (trule, .inr (4, G4 u3a w_32)), ((u3a 0), .inl (E 0, 120, .inl w_30)), ((u3a 1), .inl (E 0, 120, .inl w_31)), ((xa 9), .inr (6, G6 ta 0 u_37 w_29 w_25 w_27 w_28 w_26))] H := hP
        have hD := toW hP hD rfl
        refine lv_iconst (v := 1) hx hb dX8_rule_85 (by decide) ?_
        have hP9 := hP.sub (ws' := [(xh, .inr (8, G8 xa xtrialRule trule xtoday)), ((xa 9), .inr (6, G6 ta 0 u_37 w_29 w_25 w_27 w_28 w_26)), ((ta 0), .inl (E 0, 120, .inl tf0)), (trule, .inr (4, G4 u3a w_32)), ((u3a 0), .inl (E 0, 120, .inl w_30)), ((u3a 1), .inl (E 0, 120, .inl w_31))]) [0, 5, 1, 2, 3, 4] rfl
        have hD9 := hD.sub (ws' := [(xh, .inr (8, G8 xa xtrialRule trule xtoday)), ((xa 9), .inr (6, G6 ta 0 u_37 w_29 w_25 w_27 w_28 w_26)), ((ta 0), .inl (E 0, 120, .inl tf0)), (trule, .inr (4, G4 u3a w_32)), ((u3a 0), .inl (E 0, 120, .inl w_30)), ((u3a 1), .inl (E 0, 120, .inl w_31))]) [0, 5, 1, 2, 3, 4] (by decide) rfl
        exact W.iret (v := 1) hx hb hr (fun t ht hW => ⟨⟨1, (w_25, u_37, (0 : Int32), w_26, w_27, w_28, w_29, w_30, w_31, w_32, trule, xtrialRule), rfl, ⟨(by have h0 := t_0; (try dsimp only); omega), (by (try dsimp only); omega), (by (try dsimp only); first | exact Or.inl ⟨by first | rfl | assumption, by first | rfl | assumption, by first | rfl | assumption⟩ | exact Or.inr (Or.inl ⟨by first | rfl | assumption, by first | rfl | assumption, by first | rfl | assumption⟩) | exact Or.inr (Or.inr ⟨by first | rfl | assumption, by first | rfl | assumption, by first | rfl | assumption⟩)), (by have h0 := t_0; (try dsimp only); omega)⟩, by rw [ht]; exact hP9, hD9⟩, hS.F ht⟩) hS.2.2 dX8_rule_86
      ·
        have ic_33 : r_22.toInt ≠ -1 := mt (g_eq rfl t_m1).mpr c_33
        clear c_33
        refine lv_bipush (v := (-100)) hx hb dX8_rule_43 (by decide) ?_
        refine lv_iload_n hx hb dX8_rule_45 rfl (lv_at hl 0 rfl) ?_
        refine lv_isub hx hb dX8_rule_46 ?_
        refine lv_topi (fun z_38 ez_38 => ?_)
        have hP9 := hP.sub (ws' := [(xh, .inr (8, G8 xa xtrialRule xdropRule xtoday)), ((xa 9), .inr (6, G6 ta 0 trule w_29 w_25 w_27 w_28 w_26)), ((ta 0), .inl (E 0, 120, .inl tf0)), (trule, .inr (4, G4 u3a w_32)), ((u3a 0), .inl (E 0, 120, .inl w_30)), ((u3a 1), .inl (E 0, 120, .inl w_31))]) [0, 1, 2, 3, 4, 5] rfl
        have hD9 := hD.sub (ws' := [(xh, .inr (8, G8 xa xtrialRule xdropRule xtoday)), ((xa 9), .inr (6, G6 ta 0 trule w_29 w_25 w_27 w_28 w_26)), ((ta 0), .inl (E 0, 120, .inl tf0)), (trule, .inr (4, G4 u3a w_32)), ((u3a 0), .inl (E 0, 120, .inl w_30)), ((u3a 1), .inl (E 0, 120, .inl w_31))]) [0, 1, 2, 3, 4, 5] (by decide) rfl
        exact W.iret (v := z_38) hx hb hr (fun t ht hW => ⟨⟨z_38, (w_25, trule, (0 : Int32), w_26, w_27, w_28, w_29, w_30, w_31, w_32, xdropRule, xtrialRule), rfl, ⟨(by have h0 := t_0; (try dsimp only); omega), (by (try dsimp only); omega), (by (try dsimp only); first | exact Or.inl ⟨by first | rfl | assumption, by first | rfl | assumption, by first | rfl | assumption⟩ | exact Or.inr (Or.inl ⟨by first | rfl | assumption, by first | rfl | assumption, by first | rfl | assumption⟩) | exact Or.inr (Or.inr ⟨by first | rfl | assumption, by first | rfl | assumption, by first | rfl | assumption⟩)), (by have h0 := t_0; (try dsimp only); omega)⟩, by rw [ht]; exact hP9, hD9⟩, hS.F ht⟩) hS.2.2 dX8_rule_47
    ·
      have ic_20 : p0.toInt ≠ 1 := mt (g_eq rfl t_1).mpr c_20
      clear c_20
      refine lv_iconst (v := (-1)) hx hb dX8_rule_9 (by decide) ?_
      have hP9 := hP.sub (ws' := [(xh, .inr (8, G8 xa xtrialRule xdropRule xtoday)), ((xa 9), .inr (6, G6 ta tsize trule twords tat tword twordAt tvalue)), ((ta 0), .inl (E 0, 120, .inl tf0)), (trule, .inr (4, G4 u3a u3size)), ((u3a 0), .inl (E 0, 120, .inl u3f0)), ((u3a 1), .inl (E 0, 120, .inl u3f1))]) [0, 1, 2, 3, 4, 5] rfl
      have hD9 := hD.sub (ws' := [(xh, .inr (8, G8 xa xtrialRule xdropRule xtoday)), ((xa 9), .inr (6, G6 ta tsize trule twords tat tword twordAt tvalue)), ((ta 0), .inl (E 0, 120, .inl tf0)), (trule, .inr (4, G4 u3a u3size)), ((u3a 0), .inl (E 0, 120, .inl u3f0)), ((u3a 1), .inl (E 0, 120, .inl u3f1))]) [0, 1, 2, 3, 4, 5] (by decide) rfl
      exact W.iret (v := (-1)) hx hb hr (fun t ht hW => ⟨⟨(-1), (tat, trule, tsize, tvalue, tword, twordAt, twords, u3f0, u3f1, u3size, xdropRule, xtrialRule), rfl, ⟨(by (try dsimp only); omega), (by (try dsimp only); omega), (by (try dsimp only); first | exact Or.inl ⟨by first | rfl | assumption, by first | rfl | assumption, by first | rfl | assumption⟩ | exact Or.inr (Or.inl ⟨by first | rfl | assumption, by first | rfl | assumption, by first | rfl | assumption⟩) | exact Or.inr (Or.inr ⟨by first | rfl | assumption, by first | rfl | assumption, by first | rfl | assumption⟩)), (by (try dsimp only); omega)⟩, by rw [ht]; exact hP9, hD9⟩, hS.F ht⟩) hS.2.2 dX8_rule_10
end
section
set_option maxHeartbeats 4000000 in
set_option maxRecDepth 100000 in
theorem g_X8_watchAt_O (l : Launch) (D : va_G) (E : Nat → Nat) (xh : Nat) (xa : Nat → Nat) (xtrialRule : Nat) (xdropRule : Nat) (xtoday : Int32) (xf1 : Nat → Int32) (xf3 : Nat → Option Nat) (p0 : Int32) (hi_x : (0 ≤ xtoday.toInt ∧ xtoday.toInt ≤ 399)) (jq : JQ xf1 xf3) : Met l yX8_watchAt (wl yX8_watchAt cX8_watchAt 2 (some (.object "SeaWatches$Watch"))) (RM 1 0 0) (rd_P D E [.ref xh, .int p0] [(xh, .inr (8, G8 xa xtrialRule xdropRule xtoday)), ((xa 1), .inl (E 0, 16, .inl xf1)), ((xa 3), .inl (E 3, 16, .inr (.inr (.inr (.inr xf3)))))]) (ro_Q (fun r => (r = none ∧ ¬ (0 ≤ p0.toInt ∧ p0.toInt ≤ 15 ∧ ((xf1 (p0).toNatClampNeg).toInt = 0 ∨ (xf1 (p0).toNatClampNeg).toInt = 1))) ∨ (r ≠ none ∧ (0 ≤ p0.toInt ∧ p0.toInt ≤ 15 ∧ ((xf1 (p0).toNatClampNeg).toInt = 0 ∨ (xf1 (p0).toNatClampNeg).toInt = 1))))) 0 0 (fun _ => False) := by
  refine Met.ofW (cc := cX8_watchAt) (maxL := 2) (ret := (some (.object "SeaWatches$Watch"))) (by decide) rfl ?_
  intro p e s m args below meth c s₁ B hml hv
  obtain ⟨rfl, hP, hK⟩ := hv
  have hx := B.exec; have hb := B.bytes; have hr := B.returns
  have hts := atoms_spec (ws := wl yX8_watchAt cX8_watchAt 2 (some (.object "SeaWatches$Watch"))) B.pre
  have htb : ∀ w ∈ tb, w.before _ s = true := fun w h => hts w (List.mem_cons_of_mem _ h)
  have hown : s.vm.findClass RX8 = some m.cls := findClass_of_methodNamed B.named
  have hlocks := B.notSynchronized
  have hP : va_P D vwCl [(xh, .inr (8, G8 xa xtrialRule xdropRule xtoday)), ((xa 1), .inl (E 0, 16, .inl xf1)), ((xa 3), .inl (E 3, 16, .inr (.inr (.inr (.inr xf3)))))] s.heap := hP
  have hl := lv_entry ([.ref xh, .int p0]) (n := 2) (Nat.le_of_ble_eq_true rfl)
  rw [lg_entry_eq]
  generalize (lg_sl ([.ref xh, .int p0]) ++ List.replicate (2 - (lg_sl ([.ref xh, .int p0])).length) Slot.unset).toArray = ls at hl ⊢
  have hl : lv_has ls 2 [(0, .ref xh), (1, .int p0)] := hl
  have lo_p0 := i_lo p0; have hi_p0 := i_hi p0
  refine lv_iload_n hx hb dX8_watchAt_0 rfl (lv_at hl 1 rfl) ?_
  refine callRS (rest := []) (As := [.int p0]) hx hb hml hown htb hK (g_X8_isPlace l D E p0 ) ok_X8_isPlace k_333 k_334 k_1 k_335 ⟨(Nat.le_of_ble_eq_true rfl), (Nat.le_of_ble_eq_true rfl)⟩ ⟨(Nat.le_of_ble_eq_true rfl), (Nat.le_of_ble_eq_true rfl)⟩ hl.1 (Nat.le_of_ble_eq_true rfl) rfl rfl dX8_watchAt_1 (hP.sub (ws' := ([] : va_W)) [] rfl) (fun r_1 hw_2 => ?_)
  rcases hw_2 with ⟨hr_1, hw_2⟩ | ⟨hr_1, hw_2⟩
  ·
    refine W_top (y := .int 1) (by rw [hr_1]) ?_
    refine lv_if_eq (tgt := 26) hx hb dX8_watchAt_4 (by decide) (fun c_4 => absurd c_4 (by decide)) (fun c_4 => ?_)
    refine lv_aload_n hx hb dX8_watchAt_7 rfl (lv_at hl 0 rfl) ?_
    refine va_get (D := D) (ci := 8) (v := .ref (xa 1)) (C := RX8) (T := TX8) (N := 14) hx hb htb iX8 hown hK.1 hP 0 rfl rfl 1 (by decide) (htb _ k_273) (fun _ h9 => h9) rfl dX8_watchAt_8 ?_
    refine lv_iload_n hx hb dX8_watchAt_11 rfl (lv_at hl 1 rfl) ?_
    refine va_iald hx hb hK.1 hP 1 0 rfl rfl (g_in rfl (by omega) (by omega)) dX8_watchAt_12 ?_
    refine lv_topi (fun z_5 ez_5 => ?_)
    have kz_5 := congrArg Int32.toInt ez_5
    refine lv_if_eq (tgt := 28) hx hb dX8_watchAt_13 (by decide) (fun c_6 => ?_) (fun c_6 => ?_)
    ·
      have ic_6 : z_5.toInt = 0 := (g_eq rfl t_0).mp c_6
      clear c_6
      refine lv_aload_n hx hb dX8_watchAt_28 rfl (lv_at hl 0 rfl) ?_
      refine va_get (D := D) (ci := 8) (v := .ref (xa 3)) (C := RX8) (T := TX8) (N := 14) hx hb htb iX8 hown hK.1 hP 0 rfl rfl 3 (by decide) (htb _ k_275) (fun _ h9 => h9) rfl dX8_watchAt_29 ?_
      refine lv_iload_n hx hb dX8_watchAt_32 rfl (lv_at hl 1 rfl) ?_
      refine va_aldq hx hb hK.1 hP 2 3 rfl rfl (g_in rfl (by omega) (by omega)) dX8_watchAt_33 ?_
      generalize hro : xf3 (p0 : Int32).toNatClampNeg = ro
      exact W.aret (v := va_rf ro) hx hb hr (Or.inl ⟨_, rfl⟩) (va_rf_or ro) (fun t ht hW => ⟨ro, rfl, Or.inr ⟨by obtain ⟨h, e⟩ := jq (p0).toNatClampNeg (by have h9 := i_clamp0 (x := p0) (by omega); omega) (by omega); rw [← hro, e]; simp, by omega⟩, ht⟩) (fun q h => by cases h) dX8_watchAt_34
    ·
      have ic_6 : z_5.toInt ≠ 0 := mt (g_eq rfl t_0).mpr c_6
      clear c_6
      refine lv_aload_n hx hb dX8_watchAt_16 rfl (lv_at hl 0 rfl) ?_
      refine va_get (D := D) (ci := 8) (v := .ref (xa 1)) (C := RX8) (T := TX8) (N := 14) hx hb htb iX8 hown hK.1 hP 0 rfl rfl 1 (by decide) (htb _ k_273) (fun _ h9 => h9) rfl dX8_watchAt_17 ?_
      refine lv_iload_n hx hb dX8_watchAt_20 rfl (lv_at hl 1 rfl) ?_
      refine va_iald hx hb hK.1 hP 1 0 rfl rfl (g_in rfl (by omega) (by omega)) dX8_watchAt_21 ?_
      refine lv_topi (fun z_7 ez_7 => ?_)
      have kz_7 := congrArg Int32.toInt ez_7
      refine lv_iconst (v := 1) hx hb dX8_watchAt_22 (by decide) ?_
      refine lv_icmp_eq (tgt := 28) hx hb dX8_watchAt_23 (by decide) (fun c_8 => ?_) (fun c_8 => ?_)
      ·
        have ic_8 : z_7.toInt = 1 := (g_eq rfl t_1).mp c_8
        clear c_8
        refine lv_aload_n hx hb dX8_watchAt_28 rfl (lv_at hl 0 rfl) ?_
        refine va_get (D := D) (ci := 8) (v := .ref (xa 3)) (C := RX8) (T := TX8) (N := 14) hx hb htb iX8 hown hK.1 hP 0 rfl rfl 3 (by decide) (htb _ k_275) (fun _ h9 => h9) rfl dX8_watchAt_29 ?_
        refine lv_iload_n hx hb dX8_watchAt_32 rfl (lv_at hl 1 rfl) ?_
        refine va_aldq hx hb hK.1 hP 2 3 rfl rfl (g_in rfl (by omega) (by omega)) dX8_watchAt_33 ?_
        generalize hro : xf3 (p0 : Int32).toNatClampNeg = ro
        exact W.aret (v := va_rf ro) hx hb hr (Or.inl ⟨_, rfl⟩) (va_rf_or ro) (fun t ht hW => ⟨ro, rfl, Or.inr ⟨by obtain ⟨h, e⟩ := jq (p0).toNatClampNeg (by have h9 := i_clamp0 (x := p0) (by omega); omega) (by omega); rw [← hro, e]; simp, by omega⟩, ht⟩) (fun q h => by cases h) dX8_watchAt_34
      ·
        have ic_8 : z_7.toInt ≠ 1 := mt (g_eq rfl t_1).mpr c_8
        clear c_8
        refine lv_null hx hb dX8_watchAt_26 ?_
        exact W.aret hx hb hr (Or.inl ⟨_, rfl⟩) (Or.inl rfl) (fun t ht hW => ⟨none, rfl, Or.inl ⟨rfl, by omega⟩, ht⟩) (fun q h => by cases h) dX8_watchAt_27
  ·
    refine W_top (y := .int 0) (by rw [hr_1]) ?_
    refine lv_if_eq (tgt := 26) hx hb dX8_watchAt_4 (by decide) (fun c_9 => ?_) (fun c_9 => absurd (by decide) c_9)
    refine lv_null hx hb dX8_watchAt_26 ?_
    exact W.aret hx hb hr (Or.inl ⟨_, rfl⟩) (Or.inl rfl) (fun t ht hW => ⟨none, rfl, Or.inl ⟨rfl, by omega⟩, ht⟩) (fun q h => by cases h) dX8_watchAt_27
set_option maxHeartbeats 4000000 in
set_option maxRecDepth 100000 in
theorem g_X8_firstLack (l : Launch) (D : va_G) (E : Nat → Nat) (xh : Nat) (xa : Nat → Nat) (xtrialRule : Nat) (xdropRule : Nat) (xtoday : Int32) (xf1 : Nat → Int32) (xf3 : Nat → Option Nat) (p0 : Int32) (p1 : Int32) (p2 : Int32) (hi_x : (0 ≤ xtoday.toInt ∧ xtoday.toInt ≤ 399)) (jq : JQ xf1 xf3) : Met l yX8_firstLack (wl yX8_firstLack cX8_firstLack 4 (some .int)) (RM 2 0 0) (rd_P D E [.ref xh, .int p0, .int p1, .int p2] [(xh, .inr (8, G8 xa xtrialRule xdropRule xtoday)), ((xa 1), .inl (E 0, 16, .inl xf1)), ((xa 3), .inl (E 3, 16, .inr (.inr (.inr (.inr xf3)))))]) (rd_Q (fun r => ((r.toInt = 0 ∧ (0 ≤ p0.toInt ∧ p0.toInt ≤ 15 ∧ ((xf1 (p0).toNatClampNeg).toInt = 0 ∨ (xf1 (p0).toNatClampNeg).toInt = 1)) ∧ (0 ≤ p1.toInt ∧ p1.toInt ≤ 15 ∧ ((xf1 (p1).toNatClampNeg).toInt = 0 ∨ (xf1 (p1).toNatClampNeg).toInt = 1)) ∧ (0 ≤ p2.toInt ∧ p2.toInt ≤ 15 ∧ ((xf1 (p2).toNatClampNeg).toInt = 0 ∨ (xf1 (p2).toNatClampNeg).toInt = 1))) ∨ (¬ (0 ≤ p0.toInt ∧ p0.toInt ≤ 15 ∧ ((xf1 (p0).toNatClampNeg).toInt = 0 ∨ (xf1 (p0).toNatClampNeg).toInt = 1)) ∧ ((¬ (0 ≤ p0.toInt ∧ p0.toInt ≤ 15) ∧ r.toInt = -1) ∨ ((0 ≤ p0.toInt ∧ p0.toInt ≤ 15) ∧ (xf1 (p0).toNatClampNeg).toInt = -5 ∧ r.toInt = -2) ∨ ((0 ≤ p0.toInt ∧ p0.toInt ≤ 15) ∧ (xf1 (p0).toNatClampNeg).toInt ≠ -5 ∧ r.toInt = -3))) ∨ ((0 ≤ p0.toInt ∧ p0.toInt ≤ 15 ∧ ((xf1 (p0).toNatClampNeg).toInt = 0 ∨ (xf1 (p0).toNatClampNeg).toInt = 1)) ∧ ¬ (0 ≤ p1.toInt ∧ p1.toInt ≤ 15 ∧ ((xf1 (p1).toNatClampNeg).toInt = 0 ∨ (xf1 (p1).toNatClampNeg).toInt = 1)) ∧ ((¬ (0 ≤ p1.toInt ∧ p1.toInt ≤ 15) ∧ r.toInt = -1) ∨ ((0 ≤ p1.toInt ∧ p1.toInt ≤ 15) ∧ (xf1 (p1).toNatClampNeg).toInt = -5 ∧ r.toInt = -2) ∨ ((0 ≤ p1.toInt ∧ p1.toInt ≤ 15) ∧ (xf1 (p1).toNatClampNeg).toInt ≠ -5 ∧ r.toInt = -3))) ∨ ((0 ≤ p0.toInt ∧ p0.toInt ≤ 15 ∧ ((xf1 (p0).toNatClampNeg).toInt = 0 ∨ (xf1 (p0).toNatClampNeg).toInt = 1)) ∧ (0 ≤ p1.toInt ∧ p1.toInt ≤ 15 ∧ ((xf1 (p1).toNatClampNeg).toInt = 0 ∨ (xf1 (p1).toNatClampNeg).toInt = 1)) ∧ ¬ (0 ≤ p2.toInt ∧ p2.toInt ≤ 15 ∧ ((xf1 (p2).toNatClampNeg).toInt = 0 ∨ (xf1 (p2).toNatClampNeg).toInt = 1)) ∧ ((¬ (0 ≤ p2.toInt ∧ p2.toInt ≤ 15) ∧ r.toInt = -1) ∨ ((0 ≤ p2.toInt ∧ p2.toInt ≤ 15) ∧ (xf1 (p2).toNatClampNeg).toInt = -5 ∧ r.toInt = -2) ∨ ((0 ≤ p2.toInt ∧ p2.toInt ≤ 15) ∧ (xf1 (p2).toNatClampNeg).toInt ≠ -5 ∧ r.toInt = -3)))))) 0 0 (fun _ => False) := by
  refine Met.ofW (cc := cX8_firstLack) (maxL := 4) (ret := (some .int)) (by decide) rfl ?_
  intro p e s m args below meth c s₁ B hml hv
  obtain ⟨rfl, hP, hK⟩ := hv
  have hx := B.exec; have hb := B.bytes; have hr := B.returns
  have hts := atoms_spec (ws := wl yX8_firstLack cX8_firstLack 4 (some .int)) B.pre
  have htb : ∀ w ∈ tb, w.before _ s = true := fun w h => hts w (List.mem_cons_of_mem _ h)
  have hown : s.vm.findClass RX8 = some m.cls := findClass_of_methodNamed B.named
  have hlocks := B.notSynchronized
  have hP : va_P D vwCl [(xh, .inr (8, G8 xa xtrialRule xdropRule xtoday)), ((xa 1), .inl (E 0, 16, .inl xf1)), ((xa 3), .inl (E 3, 16, .inr (.inr (.inr (.inr xf3)))))] s.heap := hP
  have hl := lv_entry ([.ref xh, .int p0, .int p1, .int p2]) (n := 4) (Nat.le_of_ble_eq_true rfl)
  rw [lg_entry_eq]
  generalize (lg_sl ([.ref xh, .int p0, .int p1, .int p2]) ++ List.replicate (4 - (lg_sl ([.ref xh, .int p0, .int p1, .int p2])).length) Slot.unset).toArray = ls at hl ⊢
  have hl : lv_has ls 4 [(0, .ref xh), (1, .int p0), (2, .int p1), (3, .int p2)] := hl
  have lo_p0 := i_lo p0; have hi_p0 := i_hi p0
  have lo_p1 := i_lo p1; have hi_p1 := i_hi p1
  have lo_p2 := i_lo p2; have hi_p2 := i_hi p2
  refine lv_aload_n hx hb dX8_firstLack_0 rfl (lv_at hl 0 rfl) ?_
  refine lv_iload_n hx hb dX8_firstLack_1 rfl (lv_at hl 1 rfl) ?_
  refine ro_call (runRV (rest := []) (As := [.int p0]) hx hb hml hown htb (g_X8_watchAt_O l D E xh xa xtrialRule xdropRule xtoday xf1 xf3 p0 (by (try dsimp only); omega) jq) ok_X8_watchAt k_369 k_371 ks_1 k_1 k_372 ⟨(Nat.le_of_ble_eq_true rfl), (Nat.le_of_ble_eq_true rfl)⟩ ⟨(Nat.le_of_ble_eq_true rfl), (Nat.le_of_ble_eq_true rfl)⟩ hl.1 (Nat.le_of_ble_eq_true rfl) rfl rfl dX8_firstLack_2 (prV (hP.sub (ws' := [(xh, .inr (8, G8 xa xtrialRule xdropRule xtoday)), ((xa 1), .inl (E 0, 16, .inl xf1)), ((xa 3), .inl (E 3, 16, .inr (.inr (.inr (.inr xf3)))))]) [0, 1, 2] rfl) hK rfl rfl 0 rfl)) (fun hw_2 => ?_) (fun b_4 hw_2 => ?_)
  ·
    try dsimp only at hw_2
    have hk_5 : ¬ (0 ≤ p0.toInt ∧ p0.toInt ≤ 15 ∧ ((xf1 (p0).toNatClampNeg).toInt = 0 ∨ (xf1 (p0).toNatClampNeg).toInt = 1)) := hw_2.elim (fun h => h.2) (fun h => absurd rfl h.1)
    clear hw_2
    refine lv_ifnonnullN hx hb dX8_firstLack_5 ?_
    refine lv_aload_n hx hb dX8_firstLack_8 rfl (lv_at hl 0 rfl) ?_
    refine lv_iload_n hx hb dX8_firstLack_9 rfl (lv_at hl 1 rfl) ?_
    refine callRV (rest := []) (As := [.int p0]) hx hb hml hown htb hK (g_X8_lackAt l D E xh xa xtrialRule xdropRule xtoday xf1 p0 (by (try dsimp only); omega)) ok_X8_lackAt k_396 k_398 ks_3 k_1 k_399 ⟨(Nat.le_of_ble_eq_true rfl), (Nat.le_of_ble_eq_true rfl)⟩ ⟨(Nat.le_of_ble_eq_true rfl), (Nat.le_of_ble_eq_true rfl)⟩ hl.1 (Nat.le_of_ble_eq_true rfl) rfl rfl dX8_firstLack_10 (hP.sub (ws' := [(xh, .inr (8, G8 xa xtrialRule xdropRule xtoday)), ((xa 1), .inl (E 0, 16, .inl xf1))]) [0, 1] rfl) rfl rfl 0 rfl (fun r_6 hw_7 => ?_)
    exact W.iret (v := r_6) hx hb hr (fun t ht hW => ⟨r_6, rfl, (Or.inr (Or.inl ⟨hk_5, by have h9 := hw_7; omega⟩)), ht⟩) (fun q h => by cases h) dX8_firstLack_13
  ·
    try dsimp only at hw_2
    have hk_9 : (0 ≤ p0.toInt ∧ p0.toInt ≤ 15 ∧ ((xf1 (p0).toNatClampNeg).toInt = 0 ∨ (xf1 (p0).toNatClampNeg).toInt = 1)) := hw_2.elim (fun h => by cases h.1) (fun h => h.2)
    clear hw_2
    refine lv_ifnonnull (tgt := 14) hx hb dX8_firstLack_5 (by decide) ?_
    refine lv_aload_n hx hb dX8_firstLack_14 rfl (lv_at hl 0 rfl) ?_
    refine lv_iload_n hx hb dX8_firstLack_15 rfl (lv_at hl 2 rfl) ?_
    refine ro_call (runRV (rest := []) (As := [.int p1]) hx hb hml hown htb (g_X8_watchAt_O l D E xh xa xtrialRule xdropRule xtoday xf1 xf3 p1 (by (try dsimp only); omega) jq) ok_X8_watchAt k_369 k_371 ks_1 k_1 k_372 ⟨(Nat.le_of_ble_eq_true rfl), (Nat.le_of_ble_eq_true rfl)⟩ ⟨(Nat.le_of_ble_eq_true rfl), (Nat.le_of_ble_eq_true rfl)⟩ hl.1 (Nat.le_of_ble_eq_true rfl) rfl rfl dX8_firstLack_16 (prV (hP.sub (ws' := [(xh, .inr (8, G8 xa xtrialRule xdropRule xtoday)), ((xa 1), .inl (E 0, 16, .inl xf1)), ((xa 3), .inl (E 3, 16, .inr (.inr (.inr (.inr xf3)))))]) [0, 1, 2] rfl) hK rfl rfl 0 rfl)) (fun hw_11 => ?_) (fun b_13 hw_11 => ?_)
    ·
      try dsimp only at hw_11
      have hk_14 : ¬ (0 ≤ p1.toInt ∧ p1.toInt ≤ 15 ∧ ((xf1 (p1).toNatClampNeg).toInt = 0 ∨ (xf1 (p1).toNatClampNeg).toInt = 1)) := hw_11.elim (fun h => h.2) (fun h => absurd rfl h.1)
      clear hw_11
      refine lv_ifnonnullN hx hb dX8_firstLack_19 ?_
      refine lv_aload_n hx hb dX8_firstLack_22 rfl (lv_at hl 0 rfl) ?_
      refine lv_iload_n hx hb dX8_firstLack_23 rfl (lv_at hl 2 rfl) ?_
      refine callRV (rest := []) (As := [.int p1]) hx hb hml hown htb hK (g_X8_lackAt l D E xh xa xtrialRule xdropRule xtoday xf1 p1 (by (try dsimp only); omega)) ok_X8_lackAt k_396 k_398 ks_3 k_1 k_399 ⟨(Nat.le_of_ble_eq_true rfl), (Nat.le_of_ble_eq_true rfl)⟩ ⟨(Nat.le_of_ble_eq_true rfl), (Nat.le_of_ble_eq_true rfl)⟩ hl.1 (Nat.le_of_ble_eq_true rfl) rfl rfl dX8_firstLack_24 (hP.sub (ws' := [(xh, .inr (8, G8 xa xtrialRule xdropRule xtoday)), ((xa 1), .inl (E 0, 16, .inl xf1))]) [0, 1] rfl) rfl rfl 0 rfl (fun r_15 hw_16 => ?_)
      exact W.iret (v := r_15) hx hb hr (fun t ht hW => ⟨r_15, rfl, (Or.inr (Or.inr (Or.inl ⟨hk_9, hk_14, by have h9 := hw_16; omega⟩))), ht⟩) (fun q h => by cases h) dX8_firstLack_27
    ·
      try dsimp only at hw_11
      have hk_18 : (0 ≤ p1.toInt ∧ p1.toInt ≤ 15 ∧ ((xf1 (p1).toNatClampNeg).toInt = 0 ∨ (xf1 (p1).toNatClampNeg).toInt = 1)) := hw_11.elim (fun h => by cases h.1) (fun h => h.2)
      clear hw_11
      refine lv_ifnonnull (tgt := 28) hx hb dX8_firstLack_19 (by decide) ?_
      refine lv_aload_n hx hb dX8_firstLack_28 rfl (lv_at hl 0 rfl) ?_
      refine lv_iload_n hx hb dX8_firstLack_29 rfl (lv_at hl 3 rfl) ?_
      refine ro_call (runRV (rest := []) (As := [.int p2]) hx hb hml hown htb (g_X8_watchAt_O l D E xh xa xtrialRule xdropRule xtoday xf1 xf3 p2 (by (try dsimp only); omega) jq) ok_X8_watchAt k_369 k_371 ks_1 k_1 k_372 ⟨(Nat.le_of_ble_eq_true rfl), (Nat.le_of_ble_eq_true rfl)⟩ ⟨(Nat.le_of_ble_eq_true rfl), (Nat.le_of_ble_eq_true rfl)⟩ hl.1 (Nat.le_of_ble_eq_true rfl) rfl rfl dX8_firstLack_30 (prV (hP.sub (ws' := [(xh, .inr (8, G8 xa xtrialRule xdropRule xtoday)), ((xa 1), .inl (E 0, 16, .inl xf1)), ((xa 3), .inl (E 3, 16, .inr (.inr (.inr (.inr xf3)))))]) [0, 1, 2] rfl) hK rfl rfl 0 rfl)) (fun hw_20 => ?_) (fun b_22 hw_20 => ?_)
      ·
        try dsimp only at hw_20
        have hk_23 : ¬ (0 ≤ p2.toInt ∧ p2.toInt ≤ 15 ∧ ((xf1 (p2).toNatClampNeg).toInt = 0 ∨ (xf1 (p2).toNatClampNeg).toInt = 1)) := hw_20.elim (fun h => h.2) (fun h => absurd rfl h.1)
        clear hw_20
        refine lv_ifnonnullN hx hb dX8_firstLack_33 ?_
        refine lv_aload_n hx hb dX8_firstLack_36 rfl (lv_at hl 0 rfl) ?_
        refine lv_iload_n hx hb dX8_firstLack_37 rfl (lv_at hl 3 rfl) ?_
        refine callRV (rest := []) (As := [.int p2]) hx hb hml hown htb hK (g_X8_lackAt l D E xh xa xtrialRule xdropRule xtoday xf1 p2 (by (try dsimp only); omega)) ok_X8_lackAt k_396 k_398 ks_3 k_1 k_399 ⟨(Nat.le_of_ble_eq_true rfl), (Nat.le_of_ble_eq_true rfl)⟩ ⟨(Nat.le_of_ble_eq_true rfl), (Nat.le_of_ble_eq_true rfl)⟩ hl.1 (Nat.le_of_ble_eq_true rfl) rfl rfl dX8_firstLack_38 (hP.sub (ws' := [(xh, .inr (8, G8 xa xtrialRule xdropRule xtoday)), ((xa 1), .inl (E 0, 16, .inl xf1))]) [0, 1] rfl) rfl rfl 0 rfl (fun r_24 hw_25 => ?_)
        refine lv_goto (tgt := 45) hx hb dX8_firstLack_41 (by decide) ?_
        exact W.iret (v := r_24) hx hb hr (fun t ht hW => ⟨r_24, rfl, (Or.inr (Or.inr (Or.inr ⟨hk_9, hk_18, hk_23, by have h9 := hw_25; omega⟩))), ht⟩) (fun q h => by cases h) dX8_firstLack_45
      ·
        try dsimp only at hw_20
        have hk_27 : (0 ≤ p2.toInt ∧ p2.toInt ≤ 15 ∧ ((xf1 (p2).toNatClampNeg).toInt = 0 ∨ (xf1 (p2).toNatClampNeg).toInt = 1)) := hw_20.elim (fun h => by cases h.1) (fun h => h.2)
        clear hw_20
        refine lv_ifnonnull (tgt := 44) hx hb dX8_firstLack_33 (by decide) ?_
        refine lv_iconst (v := 0) hx hb dX8_firstLack_44 (by decide) ?_
        exact W.iret (v := 0) hx hb hr (fun t ht hW => ⟨0, rfl, (Or.inl ⟨by decide, hk_9, hk_18, hk_27⟩), ht⟩) (fun q h => by cases h) dX8_firstLack_45
end
section
set_option maxHeartbeats 4000000 in
set_option maxRecDepth 100000 in
theorem c_X6_init (l : Launch) (D : va_G) (E : Nat → Nat) (h0 : Nat) (sz : Nat)  : Met l yX6_init (wl yX6_init cX6_init 1 none) (RM 2 5 484) (mu_P D E [.ref h0] [(h0, .inr (6, [.null, .int 0, .null, .null, .int 0, .int 0, .int 0, .int 0]))] sz) (va_Qv (fun (u : (Nat → Nat) × Nat × (Nat → Nat)) => True) (mu_B D (va_A [(h0, .inr (6, [.null, .int 0, .null, .null, .int 0, .int 0, .int 0, .int 0]))] sz) (fun (u : (Nat → Nat) × Nat × (Nat → Nat)) => [(h0, .inr (6, G6 u.1 0 u.2.1 (E 5) 0 0 0 0)), ((u.1 0), .inl (E 0, 120, .inl (fun _ => 0))), (u.2.1, .inr (4, G4 u.2.2 0)), ((u.2.2 0), .inl (E 0, 120, .inl (fun _ => 0))), ((u.2.2 1), .inl (E 0, 120, .inl (fun _ => 0))), ((u.2.2 2), .inl (E 0, 120, .inl (fun _ => 0)))])) (va_A [(h0, .inr (6, [.null, .int 0, .null, .null, .int 0, .int 0, .int 0, .int 0]))] sz)) 5 484 (va_A [(h0, .inr (6, [.null, .int 0, .null, .null, .int 0, .int 0, .int 0, .int 0]))] sz) := by
  refine Met.ofW (cc := cX6_init) (maxL := 1) (ret := none) (by decide) rfl ?_
  intro p e s m args below meth c s₁ B hml hv
  obtain ⟨rfl, hsz, hP, hK, hD0⟩ := hv
  have hx := B.exec
  have hb := B.bytes
  have hr := B.returns
  have hts := atoms_spec (ws := wl yX6_init cX6_init 1 none) B.pre
  have htb : ∀ w ∈ tb, w.before _ s = true := fun w h => hts w (List.mem_cons_of_mem _ h)
  have hown : s.vm.findClass RX6 = some m.cls := findClass_of_methodNamed B.named
  have hlocks := B.notSynchronized
  have hin : meth.name = "<init>" := (name_of_methodNamed B.named B.method).1
  subst hsz
  have hD := hD0.self (sz := s.heap.size)
  generalize hAe : va_A [(h0, .inr (6, [.null, .int 0, .null, .null, .int 0, .int 0, .int 0, .int 0]))] s.heap.size = A at hD ⊢
  have hA : ∀ q : Nat, s.heap.size ≤ q → A q := fun q h => by rw [← hAe]; exact Or.inr h
  have hS : va_S A s.heap s.heap [] := va_S.rf
  have hP : va_P D vwCl [(h0, .inr (6, [.null, .int 0, .null, .null, .int 0, .int 0, .int 0, .int 0]))] s.heap := hP
  have hl := lv_entry ([.ref h0]) (n := 1) (Nat.le_of_ble_eq_true rfl)
  rw [lg_entry_eq]
  generalize (lg_sl ([.ref h0]) ++ List.replicate (1 - (lg_sl ([.ref h0])).length) Slot.unset).toArray = ls at hl ⊢
  have hl : lv_has ls 1 [(0, .ref h0)] := hl
  refine lv_aload_n hx hb dX6_init_0 rfl (lv_at hl 0 rfl) ?_
  refine W.objInit hx hb hown (htb _ k_134) (htb _ k_22) (htb _ k_23) rfl (by rw [hml]; exact hl.1) rfl dX6_init_1 (Nat.le_of_ble_eq_true rfl) (Nat.le_of_ble_eq_true rfl) ?_
  refine W.eq (g2 := F0 m 4 ls []) rfl ?_
  refine lv_aload_n hx hb dX6_init_4 rfl (lv_at hl 0 rfl) ?_
  refine lv_bipush (v := 120) hx hb dX6_init_5 (by decide) ?_
  refine va_newa (atype := .int) (a0 := (120, .inl (fun _ => 0))) hx hb (htb _ k_54) rfl hK.1 hP hD hS hA (fun cA => nw_i cA) (by decide) (by decide) (by decide) (Nat.le_of_ble_eq_true rfl) (Nat.le_of_ble_eq_true rfl) dX6_init_7 (fun q_1 cA H hK2 hP hD hS => ?_)
  obtain rfl : E 0 = cA := (ka_i (fun C h => by cases h) hK2 0 rfl).symm
  clear hK2
  have hP : va_P D vwCl [(h0, .inr (6, [.null, .int 0, .null, .null, .int 0, .int 0, .int 0, .int 0])), (q_1, .inl (E 0, 120, .inl (fun _ => 0)))] H := hP
  have hD := toW hP hD rfl
  refine W.widen (k := 1) (n := 120) (Nat.le_of_ble_eq_true rfl) (Nat.le_of_ble_eq_true rfl) ?_
  refine va_putF (D := D) (ci := 6) (v := .ref q_1) (ty := .array .int) (C := RX6) (T := TX6) (N := 8) hx hb htb iX6 tyX6 tyX6_ok nmX6 hown hK.1 hP hD hS 0 rfl rfl 0 (by decide) (htb _ k_157) (fun _ h9 => h9) rfl hin rfl (by decide +kernel) rfl rfl (Nat.le_of_ble_eq_true rfl) dX6_init_9 (fun H locs hP hD hS => ?_)
  have hP : va_P D vwCl [(h0, .inr (6, [.ref q_1, .int 0, .null, .null, .int 0, .int 0, .int 0, .int 0])), (q_1, .inl (E 0, 120, .inl (fun _ => 0)))] H := hP
  have hD := toW hP hD rfl
  refine lv_aload_n hx hb dX6_init_12 rfl (lv_at hl 0 rfl) ?_
  refine lv_iconst (v := 0) hx hb dX6_init_13 (by decide) ?_
  refine va_put (D := D) (ci := 6) (v := .int 0) (ty := .int) (C := RX6) (T := TX6) (N := 8) hx hb htb iX6 tyX6 tyX6_ok nmX6 hown hK.1 hP hD hS 0 rfl rfl 1 (by decide) (htb _ k_158) (fun _ h9 => h9) rfl (by decide +kernel) rfl rfl (Nat.le_of_ble_eq_true rfl) dX6_init_14 (fun H locs hP hD hS => ?_)
  have hP : va_P D vwCl [(h0, .inr (6, [.ref q_1, .int 0, .null, .null, .int 0, .int 0, .int 0, .int 0])), (q_1, .inl (E 0, 120, .inl (fun _ => 0)))] H := hP
  have hD := toW hP hD rfl
  refine lv_aload_n hx hb dX6_init_17 rfl (lv_at hl 0 rfl) ?_
  refine va_new (ci := 4) (fs := [.null, .null, .null, .int 0]) (C := RX4) (T := TX4) (N := 4) hx hb htb iX4 tyX4 tyX4_ok hown (htb _ k_135) (htb _ k_136) (htb _ k_6) hK.1 hP hD hS hA rfl (by decide) (Nat.le_of_ble_eq_true rfl) (Nat.le_of_ble_eq_true rfl) dX6_init_18 (fun q_2 H hP hD hS => ?_)
  have hP : va_P D vwCl [(h0, .inr (6, [.ref q_1, .int 0, .null, .null, .int 0, .int 0, .int 0, .int 0])), (q_1, .inl (E 0, 120, .inl (fun _ => 0))), (q_2, .inr (4, [.null, .null, .null, .int 0]))] H := hP
  have hD := toW hP hD rfl
  refine W.widen (k := 2) (n := 124) (Nat.le_of_ble_eq_true rfl) (Nat.le_of_ble_eq_true rfl) ?_
  refine lv_dup hx hb dX6_init_21 rfl ?_
  have hPc := hP.sub (ws' := [(q_2, .inr (4, [.null, .null, .null, .int 0]))]) [2] rfl
  have hDc := hD.sub (ws' := [(q_2, .inr (4, [.null, .null, .null, .int 0]))]) [2] (by decide) rfl
  refine aft_v (runMN (rest := [.ref q_2, .ref h0]) (As := []) hx hb hml hown htb hK (c_X4_init l D E q_2 _ ) ok_X4_init rfl (show Cond.methodLinkNest RX6 21 yX4_init RX8 ∈ nestW by decide +kernel) k_138 k_6 k_139 ⟨(Nat.le_of_ble_eq_true rfl), (Nat.le_of_ble_eq_true rfl)⟩ ⟨(Nat.le_of_ble_eq_true rfl), (Nat.le_of_ble_eq_true rfl)⟩ hl.1 (Nat.le_of_ble_eq_true rfl) rfl rfl dX6_init_22 hPc hDc) hP hD hS hA [2] [0, 1] (wr := [(h0, .inr (6, [.ref q_1, .int 0, .null, .null, .int 0, .int 0, .int 0, .int 0])), (q_1, .inl (E 0, 120, .inl (fun _ => 0)))]) rfl rfl (by decide) (by decide) (fun u_3 H locs hw_4 hP hD hS => ?_)
  clear hPc hDc
  have hP : va_P D vwCl [(h0, .inr (6, [.ref q_1, .int 0, .null, .null, .int 0, .int 0, .int 0, .int 0])), (q_1, .inl (E 0, 120, .inl (fun _ => 0))), (q_2, .inr (4, G4 u_3 0)), ((u_3 0), .inl (E 0, 120, .inl (fun _ => 0))), ((u_3 1), .inl (E 0, 120, .inl (fun _ => 0))), ((u_3 2), .inl (E 0, 120, .inl (fun _ => 0)))] H := hP
  have hD := toW hP hD rfl
  refine W.widen (k := 5) (n := 484) (Nat.le_of_ble_eq_true rfl) (Nat.le_of_ble_eq_true rfl) ?_
  refine va_put (D := D) (ci := 6) (v := .ref q_2) (ty := .object "SeaWatches$Rule") (C := RX6) (T := TX6) (N := 8) hx hb htb iX6 tyX6 tyX6_ok nmX6 hown hK.1 hP hD hS 0 rfl rfl 2 (by decide) (htb _ k_160) (fun _ h9 => h9) rfl (by decide +kernel) rfl rfl (Nat.le_of_ble_eq_true rfl) dX6_init_25 (fun H locs hP hD hS => ?_)
  have hP : va_P D vwCl [(h0, .inr (6, [.ref q_1, .int 0, .ref q_2, .null, .int 0, .int 0, .int 0, .int 0])), (q_1, .inl (E 0, 120, .inl (fun _ => 0))), (q_2, .inr (4, G4 u_3 0)), ((u_3 0), .inl (E 0, 120, .inl (fun _ => 0))), ((u_3 1), .inl (E 0, 120, .inl (fun _ => 0))), ((u_3 2), .inl (E 0, 120, .inl (fun _ => 0)))] H := hP
  have hD := toW hP hD rfl
  refine lv_aload_n hx hb dX6_init_28 rfl (lv_at hl 0 rfl) ?_
  refine va_ldcS hx hb hown hK.2.2.2.1 dX6_init_29 ?_
  refine va_put (D := D) (ci := 6) (v := .ref (E 5)) (ty := .object "java/lang/String") (C := RX6) (T := TX6) (N := 8) hx hb htb iX6 tyX6 tyX6_ok nmX6 hown hK.1 hP hD hS 0 rfl rfl 3 (by decide) (htb _ k_161) (fun _ h9 => h9) rfl (by decide +kernel) rfl rfl (Nat.le_of_ble_eq_true rfl) dX6_init_31 (fun H locs hP hD hS => ?_)
  have hP : va_P D vwCl [(h0, .inr (6, [.ref q_1, .int 0, .ref q_2, .ref (E 5), .int 0, .int 0, .int 0, .int 0])), (q_1, .inl (E 0, 120, .inl (fun _ => 0))), (q_2, .inr (4, G4 u_3 0)), ((u_3 0), .inl (E 0, 120, .inl (fun _ => 0))), ((u_3 1), .inl (E 0, 120, .inl (fun _ => 0))), ((u_3 2), .inl (E 0, 120, .inl (fun _ => 0)))] H := hP
  have hD := toW hP hD rfl
  refine lv_aload_n hx hb dX6_init_34 rfl (lv_at hl 0 rfl) ?_
  refine lv_iconst (v := 0) hx hb dX6_init_35 (by decide) ?_
  refine va_put (D := D) (ci := 6) (v := .int 0) (ty := .int) (C := RX6) (T := TX6) (N := 8) hx hb htb iX6 tyX6 tyX6_ok nmX6 hown hK.1 hP hD hS 0 rfl rfl 4 (by decide) (htb _ k_162) (fun _ h9 => h9) rfl (by decide +kernel) rfl rfl (Nat.le_of_ble_eq_true rfl) dX6_init_36 (fun H locs hP hD hS => ?_)
  have hP : va_P D vwCl [(h0, .inr (6, [.ref q_1, .int 0, .ref q_2, .ref (E 5), .int 0, .int 0, .int 0, .int 0])), (q_1, .inl (E 0, 120, .inl (fun _ => 0))), (q_2, .inr (4, G4 u_3 0)), ((u_3 0), .inl (E 0, 120, .inl (fun _ => 0))), ((u_3 1), .inl (E 0, 120, .inl (fun _ => 0))), ((u_3 2), .inl (E 0, 120, .inl (fun _ => 0)))] H := hP
  have hD := toW hP hD rfl
  refine lv_aload_n hx hb dX6_init_39 rfl (lv_at hl 0 rfl) ?_
  refine lv_iconst (v := 0) hx hb dX6_init_40 (by decide) ?_
  refine va_put (D := D) (ci := 6) (v := .int 0) (ty := .int) (C := RX6) (T := TX6) (N := 8) hx hb htb iX6 tyX6 tyX6_ok nmX6 hown hK.1 hP hD hS 0 rfl rfl 5 (by decide) (htb _ k_163) (fun _ h9 => h9) rfl (by decide +kernel) rfl rfl (Nat.le_of_ble_eq_true rfl) dX6_init_41 (fun H locs hP hD hS => ?_)
  have hP : va_P D vwCl [(h0, .inr (6, [.ref q_1, .int 0, .ref q_2, .ref (E 5), .int 0, .int 0, .int 0, .int 0])), (q_1, .inl (E 0, 120, .inl (fun _ => 0))), (q_2, .inr (4, G4 u_3 0)), ((u_3 0), .inl (E 0, 120, .inl (fun _ => 0))), ((u_3 1), .inl (E 0, 120, .inl (fun _ => 0))), ((u_3 2), .inl (E 0, 120, .inl (fun _ => 0)))] H := hP
  have hD := toW hP hD rfl
  refine lv_aload_n hx hb dX6_init_44 rfl (lv_at hl 0 rfl) ?_
  refine lv_iconst (v := 0) hx hb dX6_init_45 (by decide) ?_
  refine va_put (D := D) (ci := 6) (v := .int 0) (ty := .int) (C := RX6) (T := TX6) (N := 8) hx hb htb iX6 tyX6 tyX6_ok nmX6 hown hK.1 hP hD hS 0 rfl rfl 6 (by decide) (htb _ k_164) (fun _ h9 => h9) rfl (by decide +kernel) rfl rfl (Nat.le_of_ble_eq_true rfl) dX6_init_46 (fun H locs hP hD hS => ?_)
  have hP : va_P D vwCl [(h0, .inr (6, [.ref q_1, .int 0, .ref q_2, .ref (E 5), .int 0, .int 0, .int 0, .int 0])), (q_1, .inl (E 0, 120, .inl (fun _ => 0))), (q_2, .inr (4, G4 u_3 0)), ((u_3 0), .inl (E 0, 120, .inl (fun _ => 0))), ((u_3 1), .inl (E 0, 120, .inl (fun _ => 0))), ((u_3 2), .inl (E 0, 120, .inl (fun _ => 0)))] H := hP
  have hD := toW hP hD rfl
  refine lv_aload_n hx hb dX6_init_49 rfl (lv_at hl 0 rfl) ?_
  refine lv_iconst (v := 0) hx hb dX6_init_50 (by decide) ?_
  refine va_put (D := D) (ci := 6) (v := .int 0) (ty := .int) (C := RX6) (T := TX6) (N := 8) hx hb htb iX6 tyX6 tyX6_ok nmX6 hown hK.1 hP hD hS 0 rfl rfl 7 (by decide) (htb _ k_165) (fun _ h9 => h9) rfl (by decide +kernel) rfl rfl (Nat.le_of_ble_eq_true rfl) dX6_init_51 (fun H locs hP hD hS => ?_)
  have hP : va_P D vwCl [(h0, .inr (6, [.ref q_1, .int 0, .ref q_2, .ref (E 5), .int 0, .int 0, .int 0, .int 0])), (q_1, .inl (E 0, 120, .inl (fun _ => 0))), (q_2, .inr (4, G4 u_3 0)), ((u_3 0), .inl (E 0, 120, .inl (fun _ => 0))), ((u_3 1), .inl (E 0, 120, .inl (fun _ => 0))), ((u_3 2), .inl (E 0, 120, .inl (fun _ => 0)))] H := hP
  have hD := toW hP hD rfl
  have hP9 := hP.sub (ws' := [(h0, .inr (6, [.ref q_1, .int 0, .ref q_2, .ref (E 5), .int 0, .int 0, .int 0, .int 0])), (q_1, .inl (E 0, 120, .inl (fun _ => 0))), (q_2, .inr (4, G4 u_3 0)), ((u_3 0), .inl (E 0, 120, .inl (fun _ => 0))), ((u_3 1), .inl (E 0, 120, .inl (fun _ => 0))), ((u_3 2), .inl (E 0, 120, .inl (fun _ => 0)))]) [0, 1, 2, 3, 4, 5] rfl
  have hD9 := hD.sub (ws' := [(h0, .inr (6, [.ref q_1, .int 0, .ref q_2, .ref (E 5), .int 0, .int 0, .int 0, .int 0])), (q_1, .inl (E 0, 120, .inl (fun _ => 0))), (q_2, .inr (4, G4 u_3 0)), ((u_3 0), .inl (E 0, 120, .inl (fun _ => 0))), ((u_3 1), .inl (E 0, 120, .inl (fun _ => 0))), ((u_3 2), .inl (E 0, 120, .inl (fun _ => 0)))]) [0, 1, 2, 3, 4, 5] (by decide) rfl
  exact W.vret hx hb hr (fun t ht hW => ⟨⟨((fun k => ([q_1, 0, q_2, (E 5), 0, 0, 0, 0] : List Nat).getD k 0), q_2, (fun k => ([(u_3 0), (u_3 1), (u_3 2), 0] : List Nat).getD k 0)), rfl, trivial, by rw [ht]; exact hP9, hD9⟩, hS.F ht⟩) hS.2.2 dX6_init_54
end
section
set_option maxHeartbeats 4000000 in
set_option maxRecDepth 100000 in
theorem g_X8_board_W_S (l : Launch) (D : va_G) (E : Nat → Nat) (xh : Nat) (xa : Nat → Nat) (xtrialRule : Nat) (xdropRule : Nat) (xtoday : Int32) (xf1 : Nat → Int32) (xf3 : Nat → Option Nat) (xf4 : Nat → Option Nat) (wh : Nat) (wa : Nat → Nat) (wf0 : Nat → Int32) (wf1 : Nat → Int32) (wf2 : Nat → Int32) (wf3 : Nat → Int32) (yh : Nat) (ya : Nat → Nat) (ysights : Int32) (ystage : Int32) (ysailed : Int32) (yvoyage : Int32) (yf0 : Nat → Int32) (yf1 : Nat → Int32) (yf2 : Nat → Int32) (yf3 : Nat → Int32) (oa : Nat → Nat) (osize : Int32) (of0 : Nat → Int32) (of1 : Nat → Int32) (of2 : Nat → Int32) (of3 : Nat → Int32) (of4 : Nat → Int32) (ra : Nat → Nat) (rsize : Int32) (rf0 : Nat → Int32) (rf1 : Nat → Int32) (p0 : Int32) (p1 : Int32) (p2 : Int32) (sz : Nat) (hi_x : (0 ≤ xtoday.toInt ∧ xtoday.toInt ≤ 399)) (hi_y : (0 ≤ ysights.toInt ∧ ysights.toInt ≤ 40)) (hi_o : (0 ≤ osize.toInt ∧ osize.toInt ≤ 60)) (hi_r : (0 ≤ rsize.toInt ∧ rsize.toInt ≤ 60)) (hr_r0 : ∀ k : Nat, k < 60 → 0 ≤ (rf0 k).toInt ∧ (rf0 k).toInt ≤ 399) (hk0 : (0 ≤ p2.toInt ∧ p2.toInt ≤ 15 ∧ ((xf1 (p2).toNatClampNeg).toInt = 0 ∨ (xf1 (p2).toNatClampNeg).toInt = 1))) (hw0 : xf3 (p2).toNatClampNeg = some wh) (hs0 : 0 ≤ p0.toInt ∧ p0.toInt ≤ 4) (hy0 : xf4 (p0).toNatClampNeg = some yh) (gi : (0 ≤ p1.toInt ∧ p1.toInt ≤ 2)) : Met l yX8_board (wl yX8_board cX8_board 7 none) (RM 5 0 0) (mu_P D E [.ref xh, .int p0, .int p1, .int p2] [(xh, .inr (8, G8 xa xtrialRule xdropRule xtoday)), ((xa 1), .inl (E 0, 16, .inl xf1)), ((xa 3), .inl (E 3, 16, .inr (.inr (.inr (.inr xf3))))), ((xa 4), .inl (E 4, 5, .inr (.inr (.inr (.inr xf4))))), (wh, .inr (7, G7 wa)), ((wa 0), .inl (E 0, 400, .inl wf0)), ((wa 1), .inl (E 0, 400, .inl wf1)), ((wa 2), .inl (E 0, 400, .inl wf2)), ((wa 3), .inl (E 0, 400, .inl wf3)), (yh, .inr (5, G5 ya ysights ystage ysailed yvoyage)), ((ya 0), .inl (E 0, 3, .inl yf0)), ((ya 1), .inl (E 0, 3, .inl yf1)), ((ya 2), .inl (E 0, 3, .inl yf2)), ((ya 3), .inl (E 0, 3, .inl yf3)), ((xa 6), .inr (2, G2 oa osize)), ((oa 0), .inl (E 0, 60, .inl of0)), ((oa 1), .inl (E 0, 60, .inl of1)), ((oa 2), .inl (E 0, 60, .inl of2)), ((oa 3), .inl (E 0, 60, .inl of3)), ((oa 4), .inl (E 0, 60, .inl of4)), ((xa 7), .inr (3, G3 ra rsize)), ((ra 0), .inl (E 0, 60, .inl rf0)), ((ra 1), .inl (E 0, 60, .inl rf1))] sz) (va_Qv (fun (u : (Nat → Int32) × (Nat → Int32) × (Int32) × (Nat → Int32) × (Nat → Int32) × (Nat → Int32) × (Nat → Int32) × (Nat → Int32)) => (∀ k : Nat, k < 60 → 0 ≤ (u.1 k).toInt ∧ (u.1 k).toInt ≤ 399) ∧ (0 ≤ u.2.2.1.toInt ∧ u.2.2.1.toInt ≤ 60) ∧ (((rateL (rXn wf0 wf1 wf2 of0 of1 of2 of3 of4 osize) (loD xtoday) (xtoday.toInt - (loD xtoday).toInt).toNat).length = 0 ∧ u.2.2.2.1 = wf3 ∧ u.2.2.2.2.1 = yf0 ∧ u.2.2.2.2.2.1 = yf1 ∧ u.2.2.2.2.2.2.1 = yf2 ∧ u.2.2.2.2.2.2.2 = yf3) ∨ ((rateL (rXn wf0 wf1 wf2 of0 of1 of2 of3 of4 osize) (loD xtoday) (xtoday.toInt - (loD xtoday).toInt).toNat).length ≠ 0 ∧ u.2.2.2.2.1 = upd yf0 (p1).toNatClampNeg p2 ∧ GIV wf3 u.2.2.2.1 xtoday.toInt (100 + p0) ∧ u.2.2.2.2.2.1 = upd yf1 (p1).toNatClampNeg (eX wf0 wf1 of0 of1 of2 of3 of4 osize xtoday (-1)) ∧ u.2.2.2.2.2.2.1 = upd yf2 (p1).toNatClampNeg (goX (rateL (rXn wf0 wf1 wf2 of0 of1 of2 of3 of4 osize) (loD xtoday) (xtoday.toInt - (loD xtoday).toInt).toNat)) ∧ u.2.2.2.2.2.2.2 = upd yf3 (p1).toNatClampNeg (duX (rateL (rXn wf0 wf1 wf2 of0 of1 of2 of3 of4 osize) (loD xtoday) (xtoday.toInt - (loD xtoday).toInt).toNat))))) (mu_B D (va_A [(xh, .inr (8, G8 xa xtrialRule xdropRule xtoday)), ((xa 1), .inl (E 0, 16, .inl xf1)), ((xa 3), .inl (E 3, 16, .inr (.inr (.inr (.inr xf3))))), ((xa 4), .inl (E 4, 5, .inr (.inr (.inr (.inr xf4))))), (wh, .inr (7, G7 wa)), ((wa 0), .inl (E 0, 400, .inl wf0)), ((wa 1), .inl (E 0, 400, .inl wf1)), ((wa 2), .inl (E 0, 400, .inl wf2)), ((wa 3), .inl (E 0, 400, .inl wf3)), (yh, .inr (5, G5 ya ysights ystage ysailed yvoyage)), ((ya 0), .inl (E 0, 3, .inl yf0)), ((ya 1), .inl (E 0, 3, .inl yf1)), ((ya 2), .inl (E 0, 3, .inl yf2)), ((ya 3), .inl (E 0, 3, .inl yf3)), ((xa 6), .inr (2, G2 oa osize)), ((oa 0), .inl (E 0, 60, .inl of0)), ((oa 1), .inl (E 0, 60, .inl of1)), ((oa 2), .inl (E 0, 60, .inl of2)), ((oa 3), .inl (E 0, 60, .inl of3)), ((oa 4), .inl (E 0, 60, .inl of4)), ((xa 7), .inr (3, G3 ra rsize)), ((ra 0), .inl (E 0, 60, .inl rf0)), ((ra 1), .inl (E 0, 60, .inl rf1))] sz) (fun (u : (Nat → Int32) × (Nat → Int32) × (Int32) × (Nat → Int32) × (Nat → Int32) × (Nat → Int32) × (Nat → Int32) × (Nat → Int32)) => [(xh, .inr (8, G8 xa xtrialRule xdropRule xtoday)), ((xa 1), .inl (E 0, 16, .inl xf1)), ((xa 3), .inl (E 3, 16, .inr (.inr (.inr (.inr xf3))))), ((xa 4), .inl (E 4, 5, .inr (.inr (.inr (.inr xf4))))), (wh, .inr (7, G7 wa)), ((wa 0), .inl (E 0, 400, .inl wf0)), ((wa 1), .inl (E 0, 400, .inl wf1)), ((wa 2), .inl (E 0, 400, .inl wf2)), ((wa 3), .inl (E 0, 400, .inl u.2.2.2.1)), (yh, .inr (5, G5 ya ysights ystage ysailed yvoyage)), ((ya 0), .inl (E 0, 3, .inl u.2.2.2.2.1)), ((ya 1), .inl (E 0, 3, .inl u.2.2.2.2.2.1)), ((ya 2), .inl (E 0, 3, .inl u.2.2.2.2.2.2.1)), ((ya 3), .inl (E 0, 3, .inl u.2.2.2.2.2.2.2)), ((xa 6), .inr (2, G2 oa osize)), ((oa 0), .inl (E 0, 60, .inl of0)), ((oa 1), .inl (E 0, 60, .inl of1)), ((oa 2), .inl (E 0, 60, .inl of2)), ((oa 3), .inl (E 0, 60, .inl of3)), ((oa 4), .inl (E 0, 60, .inl of4)), ((xa 7), .inr (3, G3 ra u.2.2.1)), ((ra 0), .inl (E 0, 60, .inl u.1)), ((ra 1), .inl (E 0, 60, .inl u.2.1))])) (va_A [(xh, .inr (8, G8 xa xtrialRule xdropRule xtoday)), ((xa 1), .inl (E 0, 16, .inl xf1)), ((xa 3), .inl (E 3, 16, .inr (.inr (.inr (.inr xf3))))), ((xa 4), .inl (E 4, 5, .inr (.inr (.inr (.inr xf4))))), (wh, .inr (7, G7 wa)), ((wa 0), .inl (E 0, 400, .inl wf0)), ((wa 1), .inl (E 0, 400, .inl wf1)), ((wa 2), .inl (E 0, 400, .inl wf2)), ((wa 3), .inl (E 0, 400, .inl wf3)), (yh, .inr (5, G5 ya ysights ystage ysailed yvoyage)), ((ya 0), .inl (E 0, 3, .inl yf0)), ((ya 1), .inl (E 0, 3, .inl yf1)), ((ya 2), .inl (E 0, 3, .inl yf2)), ((ya 3), .inl (E 0, 3, .inl yf3)), ((xa 6), .inr (2, G2 oa osize)), ((oa 0), .inl (E 0, 60, .inl of0)), ((oa 1), .inl (E 0, 60, .inl of1)), ((oa 2), .inl (E 0, 60, .inl of2)), ((oa 3), .inl (E 0, 60, .inl of3)), ((oa 4), .inl (E 0, 60, .inl of4)), ((xa 7), .inr (3, G3 ra rsize)), ((ra 0), .inl (E 0, 60, .inl rf0)), ((ra 1), .inl (E 0, 60, .inl rf1))] sz)) 0 0 (va_A [(xh, .inr (8, G8 xa xtrialRule xdropRule xtoday)), ((xa 1), .inl (E 0, 16, .inl xf1)), ((xa 3), .inl (E 3, 16, .inr (.inr (.inr (.inr xf3))))), ((xa 4), .inl (E 4, 5, .inr (.inr (.inr (.inr xf4))))), (wh, .inr (7, G7 wa)), ((wa 0), .inl (E 0, 400, .inl wf0)), ((wa 1), .inl (E 0, 400, .inl wf1)), ((wa 2), .inl (E 0, 400, .inl wf2)), ((wa 3), .inl (E 0, 400, .inl wf3)), (yh, .inr (5, G5 ya ysights ystage ysailed yvoyage)), ((ya 0), .inl (E 0, 3, .inl yf0)), ((ya 1), .inl (E 0, 3, .inl yf1)), ((ya 2), .inl (E 0, 3, .inl yf2)), ((ya 3), .inl (E 0, 3, .inl yf3)), ((xa 6), .inr (2, G2 oa osize)), ((oa 0), .inl (E 0, 60, .inl of0)), ((oa 1), .inl (E 0, 60, .inl of1)), ((oa 2), .inl (E 0, 60, .inl of2)), ((oa 3), .inl (E 0, 60, .inl of3)), ((oa 4), .inl (E 0, 60, .inl of4)), ((xa 7), .inr (3, G3 ra rsize)), ((ra 0), .inl (E 0, 60, .inl rf0)), ((ra 1), .inl (E 0, 60, .inl rf1))] sz) := by
  refine Met.ofW (cc := cX8_board) (maxL := 7) (ret := none) (by decide) rfl ?_
  intro p e s m args below meth c s₁ B hml hv
  obtain ⟨rfl, hsz, hP, hK, hD0⟩ := hv
  have hx := B.exec; have hb := B.bytes; have hr := B.returns
  have hts := atoms_spec (ws := wl yX8_board cX8_board 7 none) B.pre
  have htb : ∀ w ∈ tb, w.before _ s = true := fun w h => hts w (List.mem_cons_of_mem _ h)
  have hown : s.vm.findClass RX8 = some m.cls := findClass_of_methodNamed B.named
  have hlocks := B.notSynchronized
  subst hsz
  have hD := hD0.self (sz := s.heap.size)
  generalize hAe : va_A [(xh, .inr (8, G8 xa xtrialRule xdropRule xtoday)), ((xa 1), .inl (E 0, 16, .inl xf1)), ((xa 3), .inl (E 3, 16, .inr (.inr (.inr (.inr xf3))))), ((xa 4), .inl (E 4, 5, .inr (.inr (.inr (.inr xf4))))), (wh, .inr (7, G7 wa)), ((wa 0), .inl (E 0, 400, .inl wf0)), ((wa 1), .inl (E 0, 400, .inl wf1)), ((wa 2), .inl (E 0, 400, .inl wf2)), ((wa 3), .inl (E 0, 400, .inl wf3)), (yh, .inr (5, G5 ya ysights ystage ysailed yvoyage)), ((ya 0), .inl (E 0, 3, .inl yf0)), ((ya 1), .inl (E 0, 3, .inl yf1)), ((ya 2), .inl (E 0, 3, .inl yf2)), ((ya 3), .inl (E 0, 3, .inl yf3)), ((xa 6), .inr (2, G2 oa osize)), ((oa 0), .inl (E 0, 60, .inl of0)), ((oa 1), .inl (E 0, 60, .inl of1)), ((oa 2), .inl (E 0, 60, .inl of2)), ((oa 3), .inl (E 0, 60, .inl of3)), ((oa 4), .inl (E 0, 60, .inl of4)), ((xa 7), .inr (3, G3 ra rsize)), ((ra 0), .inl (E 0, 60, .inl rf0)), ((ra 1), .inl (E 0, 60, .inl rf1))] s.heap.size = A at hD ⊢
  have hA : ∀ q : Nat, s.heap.size ≤ q → A q := fun q h => by rw [← hAe]; exact Or.inr h
  have hS : va_S A s.heap s.heap [] := va_S.rf
  have hP : va_P D vwCl [(xh, .inr (8, G8 xa xtrialRule xdropRule xtoday)), ((xa 1), .inl (E 0, 16, .inl xf1)), ((xa 3), .inl (E 3, 16, .inr (.inr (.inr (.inr xf3))))), ((xa 4), .inl (E 4, 5, .inr (.inr (.inr (.inr xf4))))), (wh, .inr (7, G7 wa)), ((wa 0), .inl (E 0, 400, .inl wf0)), ((wa 1), .inl (E 0, 400, .inl wf1)), ((wa 2), .inl (E 0, 400, .inl wf2)), ((wa 3), .inl (E 0, 400, .inl wf3)), (yh, .inr (5, G5 ya ysights ystage ysailed yvoyage)), ((ya 0), .inl (E 0, 3, .inl yf0)), ((ya 1), .inl (E 0, 3, .inl yf1)), ((ya 2), .inl (E 0, 3, .inl yf2)), ((ya 3), .inl (E 0, 3, .inl yf3)), ((xa 6), .inr (2, G2 oa osize)), ((oa 0), .inl (E 0, 60, .inl of0)), ((oa 1), .inl (E 0, 60, .inl of1)), ((oa 2), .inl (E 0, 60, .inl of2)), ((oa 3), .inl (E 0, 60, .inl of3)), ((oa 4), .inl (E 0, 60, .inl of4)), ((xa 7), .inr (3, G3 ra rsize)), ((ra 0), .inl (E 0, 60, .inl rf0)), ((ra 1), .inl (E 0, 60, .inl rf1))] s.heap := hP
  have hl := lv_entry ([.ref xh, .int p0, .int p1, .int p2]) (n := 7) (Nat.le_of_ble_eq_true rfl)
  rw [lg_entry_eq]
  generalize (lg_sl ([.ref xh, .int p0, .int p1, .int p2]) ++ List.replicate (7 - (lg_sl ([.ref xh, .int p0, .int p1, .int p2])).length) Slot.unset).toArray = ls at hl ⊢
  have hl : lv_has ls 7 [(0, .ref xh), (1, .int p0), (2, .int p1), (3, .int p2)] := hl
  have lo_p0 := i_lo p0; have hi_p0 := i_hi p0
  have lo_p1 := i_lo p1; have hi_p1 := i_hi p1
  have lo_p2 := i_lo p2; have hi_p2 := i_hi p2
  refine lv_aload_n hx hb dX8_board_0 rfl (lv_at hl 0 rfl) ?_
  refine lv_iload_n hx hb dX8_board_1 rfl (lv_at hl 3 rfl) ?_
  refine rr_call (runRV (rest := []) (As := [.int p2]) hx hb hml hown htb (g_X8_watchAt_W l D E xh xa xtrialRule xdropRule xtoday xf1 xf3 wh wa p2 (by (try dsimp only); omega) hk0 hw0) ok_X8_watchAt k_369 k_371 ks_1 k_1 k_372 ⟨(Nat.le_of_ble_eq_true rfl), (Nat.le_of_ble_eq_true rfl)⟩ ⟨(Nat.le_of_ble_eq_true rfl), (Nat.le_of_ble_eq_true rfl)⟩ hl.1 (Nat.le_of_ble_eq_true rfl) rfl rfl dX8_board_2 (prV (hP.sub (ws' := [(xh, .inr (8, G8 xa xtrialRule xdropRule xtoday)), ((xa 1), .inl (E 0, 16, .inl xf1)), ((xa 3), .inl (E 3, 16, .inr (.inr (.inr (.inr xf3))))), (wh, .inr (7, G7 wa))]) [0, 1, 2, 4] rfl) hK rfl rfl 0 rfl)) ?_
  refine lv_astore (lv' := [(4, .ref wh), (0, .ref xh), (1, .int p0), (2, .int p1), (3, .int p2)]) hx hb dX8_board_5 hl (by decide) rfl (fun ls hl => ?_)
  refine lv_aload hx hb dX8_board_7 (lv_at hl 0 rfl) ?_
  refine lv_ifnull hx hb dX8_board_9 ?_
  refine lv_iload_n hx hb dX8_board_12 rfl (lv_at hl 2 rfl) ?_
  refine callRS (rest := []) (As := [.int p0]) hx hb hml hown htb hK (g_X8_isShip l D E p0 ) ok_X8_isShip k_773 k_774 k_1 k_775 ⟨(Nat.le_of_ble_eq_true rfl), (Nat.le_of_ble_eq_true rfl)⟩ ⟨(Nat.le_of_ble_eq_true rfl), (Nat.le_of_ble_eq_true rfl)⟩ hl.1 (Nat.le_of_ble_eq_true rfl) rfl rfl dX8_board_13 (hP.sub (ws' := ([] : va_W)) [] rfl) (fun r_4 hw_5 => ?_)
  rcases hw_5 with ⟨hr_4, hw_5⟩ | ⟨hr_4, hw_5⟩
  ·
    refine W_top (y := .int 1) (by rw [hr_4]) ?_
    refine lv_if_ne (tgt := 20) hx hb dX8_board_16 (by decide) (fun c_7 => ?_) (fun c_7 => absurd c_7 (by decide))
    refine lv_aload_n hx hb dX8_board_20 rfl (lv_at hl 1 rfl) ?_
    refine lv_aload hx hb dX8_board_21 (lv_at hl 0 rfl) ?_
    have hPc := hP.sub (ws' := [(xh, .inr (8, G8 xa xtrialRule xdropRule xtoday)), (wh, .inr (7, G7 wa)), ((wa 0), .inl (E 0, 400, .inl wf0)), ((wa 1), .inl (E 0, 400, .inl wf1)), ((wa 2), .inl (E 0, 400, .inl wf2)), ((xa 6), .inr (2, G2 oa osize)), ((oa 0), .inl (E 0, 60, .inl of0)), ((oa 1), .inl (E 0, 60, .inl of1)), ((oa 2), .inl (E 0, 60, .inl of2)), ((oa 3), .inl (E 0, 60, .inl of3)), ((oa 4), .inl (E 0, 60, .inl of4)), ((xa 7), .inr (3, G3 ra rsize)), ((ra 0), .inl (E 0, 60, .inl rf0)), ((ra 1), .inl (E 0, 60, .inl rf1))]) [0, 4, 5, 6, 7, 14, 15, 16, 17, 18, 19, 20, 21, 22] rfl
    have hDc := hD.sub (ws' := [(xh, .inr (8, G8 xa xtrialRule xdropRule xtoday)), (wh, .inr (7, G7 wa)), ((wa 0), .inl (E 0, 400, .inl wf0)), ((wa 1), .inl (E 0, 400, .inl wf1)), ((wa 2), .inl (E 0, 400, .inl wf2)), ((xa 6), .inr (2, G2 oa osize)), ((oa 0), .inl (E 0, 60, .inl of0)), ((oa 1), .inl (E 0, 60, .inl of1)), ((oa 2), .inl (E 0, 60, .inl of2)), ((oa 3), .inl (E 0, 60, .inl of3)), ((oa 4), .inl (E 0, 60, .inl of4)), ((xa 7), .inr (3, G3 ra rsize)), ((ra 0), .inl (E 0, 60, .inl rf0)), ((ra 1), .inl (E 0, 60, .inl rf1))]) [0, 4, 5, 6, 7, 14, 15, 16, 17, 18, 19, 20, 21, 22] (by decide) rfl
    refine aft_v (runMV (rest := []) (As := [.ref wh]) hx hb hml hown htb hK (g_X8_gatherBeforeSailing l D E xh xa xtrialRule xdropRule xtoday wh wa wf0 wf1 wf2 oa osize of0 of1 of2 of3 of4 ra rsize rf0 rf1 _ (by (try dsimp only); omega) (by (try dsimp only); omega) (by (try dsimp only); omega) hr_r0) ok_X8_gatherBeforeSailing k_784 k_786 ks_29 k_1 k_787 ⟨(Nat.le_of_ble_eq_true rfl), (Nat.le_of_ble_eq_true rfl)⟩ ⟨(Nat.le_of_ble_eq_true rfl), (Nat.le_of_ble_eq_true rfl)⟩ hl.1 (Nat.le_of_ble_eq_true rfl) rfl rfl dX8_board_23 hPc hDc rfl rfl 0 rfl) hP hD hS hA [0, 4, 5, 6, 7, 14, 15, 16, 17, 18, 19, 20, 21, 22] [1, 2, 3, 8, 9, 10, 11, 12, 13] (wr := [((xa 1), .inl (E 0, 16, .inl xf1)), ((xa 3), .inl (E 3, 16, .inr (.inr (.inr (.inr xf3))))), ((xa 4), .inl (E 4, 5, .inr (.inr (.inr (.inr xf4))))), ((wa 3), .inl (E 0, 400, .inl wf3)), (yh, .inr (5, G5 ya ysights ystage ysailed yvoyage)), ((ya 0), .inl (E 0, 3, .inl yf0)), ((ya 1), .inl (E 0, 3, .inl yf1)), ((ya 2), .inl (E 0, 3, .inl yf2)), ((ya 3), .inl (E 0, 3, .inl yf3))]) rfl rfl (by decide) (by decide) (fun u_10 H locs hw_9 hP hD hS => ?_)
    clear hPc hDc
    obtain ⟨w_11, w_12, w_13⟩ := u_10
    try dsimp only at hw_9
    have hP : va_P D vwCl [((xa 1), .inl (E 0, 16, .inl xf1)), ((xa 3), .inl (E 3, 16, .inr (.inr (.inr (.inr xf3))))), ((xa 4), .inl (E 4, 5, .inr (.inr (.inr (.inr xf4))))), ((wa 3), .inl (E 0, 400, .inl wf3)), (yh, .inr (5, G5 ya ysights ystage ysailed yvoyage)), ((ya 0), .inl (E 0, 3, .inl yf0)), ((ya 1), .inl (E 0, 3, .inl yf1)), ((ya 2), .inl (E 0, 3, .inl yf2)), ((ya 3), .inl (E 0, 3, .inl yf3)), (xh, .inr (8, G8 xa xtrialRule xdropRule xtoday)), (wh, .inr (7, G7 wa)), ((wa 0), .inl (E 0, 400, .inl wf0)), ((wa 1), .inl (E 0, 400, .inl wf1)), ((wa 2), .inl (E 0, 400, .inl wf2)), ((xa 6), .inr (2, G2 oa osize)), ((oa 0), .inl (E 0, 60, .inl of0)), ((oa 1), .inl (E 0, 60, .inl of1)), ((oa 2), .inl (E 0, 60, .inl of2)), ((oa 3), .inl (E 0, 60, .inl of3)), ((oa 4), .inl (E 0, 60, .inl of4)), ((xa 7), .inr (3, G3 ra w_13)), ((ra 0), .inl (E 0, 60, .inl w_11)), ((ra 1), .inl (E 0, 60, .inl w_12))] H := hP
    have hD := toW hP hD rfl
    obtain ⟨hw_9_0, hw_9_1, hw_9_2⟩ := hw_9
    refine lv_aload_n hx hb dX8_board_26 rfl (lv_at hl 1 rfl) ?_
    refine va_get (D := D) (ci := 8) (v := .ref (xa 7)) (C := RX8) (T := TX8) (N := 14) hx hb htb iX8 hown hK.1 hP 9 rfl rfl 7 (by decide) (htb _ k_279) (fun _ h9 => h9) rfl dX8_board_27 ?_
    refine va_getN (D := D) (ci := 3) (v := .int w_13) (C := RX3) (T := TX3) (N := 4) hx hb htb iX3 hown hK.1 hP 20 rfl rfl 3 (by decide) (va_Nw.use rfl (hK.2.1 (Cond.fieldLinkNest RX8 311 "SeaWatches$Rates" "size" "I" "SeaWatches") (by decide +kernel))) (fun _ h9 => h9) rfl dX8_board_30 ?_
    refine lv_if_ne (tgt := 37) hx hb dX8_board_33 (by decide) (fun c_14 => ?_) (fun c_14 => ?_)
    ·
      have ic_14 : w_13.toInt ≠ 0 := mt (g_eq rfl t_0).mpr c_14
      clear c_14
      refine lv_aload_n hx hb dX8_board_37 rfl (lv_at hl 1 rfl) ?_
      refine va_get (D := D) (ci := 8) (v := .ref (xa 7)) (C := RX8) (T := TX8) (N := 14) hx hb htb iX8 hown hK.1 hP 9 rfl rfl 7 (by decide) (htb _ k_279) (fun _ h9 => h9) rfl dX8_board_38 ?_
      refine callRV (rest := []) (As := []) hx hb hml hown htb hK (g_X3_sum l D E (xa 7) ra w_13 w_12 (by (try dsimp only); omega)) ok_X3_sum k_742 k_743 k_744 k_3 k_745 ⟨(Nat.le_of_ble_eq_true rfl), (Nat.le_of_ble_eq_true rfl)⟩ ⟨(Nat.le_of_ble_eq_true rfl), (Nat.le_of_ble_eq_true rfl)⟩ hl.1 (Nat.le_of_ble_eq_true rfl) rfl rfl dX8_board_41 (hP.sub (ws' := [((xa 7), .inr (3, G3 ra w_13)), ((ra 1), .inl (E 0, 60, .inl w_12))]) [20, 22] rfl) rfl rfl 0 rfl (fun r_15 hw_16 => ?_)
      refine lv_aload_n hx hb dX8_board_44 rfl (lv_at hl 1 rfl) ?_
      refine va_get (D := D) (ci := 8) (v := .ref (xa 7)) (C := RX8) (T := TX8) (N := 14) hx hb htb iX8 hown hK.1 hP 9 rfl rfl 7 (by decide) (htb _ k_279) (fun _ h9 => h9) rfl dX8_board_45 ?_
      refine va_getN (D := D) (ci := 3) (v := .int w_13) (C := RX3) (T := TX3) (N := 4) hx hb htb iX3 hown hK.1 hP 20 rfl rfl 3 (by decide) (va_Nw.use rfl (hK.2.1 (Cond.fieldLinkNest RX8 311 "SeaWatches$Rates" "size" "I" "SeaWatches") (by decide +kernel))) (fun _ h9 => h9) rfl dX8_board_48 ?_
      refine callRS (rest := []) (As := [.int r_15, .int w_13]) hx hb hml hown htb hK (g_J9_floorDiv_7cf53 l D E r_15 w_13 (by (try dsimp only); omega)) ok_J9_floorDiv_7cf53 k_796 k_797 k_11 k_798 ⟨(Nat.le_of_ble_eq_true rfl), (Nat.le_of_ble_eq_true rfl)⟩ ⟨(Nat.le_of_ble_eq_true rfl), (Nat.le_of_ble_eq_true rfl)⟩ hl.1 (Nat.le_of_ble_eq_true rfl) rfl rfl dX8_board_51 (hP.sub (ws' := ([] : va_W)) [] rfl) (fun r_18 hw_19 => ?_)
      refine lv_istore (lv' := [(5, .int r_18), (4, .ref wh), (0, .ref xh), (1, .int p0), (2, .int p1), (3, .int p2)]) hx hb dX8_board_54 hl (by decide) rfl (fun ls hl => ?_)
      refine lv_iconst (v := 1) hx hb dX8_board_56 (by decide) ?_
      refine lv_aload_n hx hb dX8_board_57 rfl (lv_at hl 2 rfl) ?_
      refine va_get (D := D) (ci := 8) (v := .ref (xa 7)) (C := RX8) (T := TX8) (N := 14) hx hb htb iX8 hown hK.1 hP 9 rfl rfl 7 (by decide) (htb _ k_279) (fun _ h9 => h9) rfl dX8_board_58 ?_
      refine callRV (rest := [.int 1]) (As := []) hx hb hml hown htb hK (g_X3_most l D E (xa 7) ra w_13 w_12 (by (try dsimp only); omega)) ok_X3_most k_727 k_728 k_729 k_3 k_730 ⟨(Nat.le_of_ble_eq_true rfl), (Nat.le_of_ble_eq_true rfl)⟩ ⟨(Nat.le_of_ble_eq_true rfl), (Nat.le_of_ble_eq_true rfl)⟩ hl.1 (Nat.le_of_ble_eq_true rfl) rfl rfl dX8_board_61 (hP.sub (ws' := [((xa 7), .inr (3, G3 ra w_13)), ((ra 1), .inl (E 0, 60, .inl w_12))]) [20, 22] rfl) rfl rfl 0 rfl (fun r_21 hw_22 => ?_)
      refine lv_aload_n hx hb dX8_board_64 rfl (lv_at hl 2 rfl) ?_
      refine va_get (D := D) (ci := 8) (v := .ref (xa 7)) (C := RX8) (T := TX8) (N := 14) hx hb htb iX8 hown hK.1 hP 9 rfl rfl 7 (by decide) (htb _ k_279) (fun _ h9 => h9) rfl dX8_board_65 ?_
      refine callRV (rest := [.int r_21, .int 1]) (As := []) hx hb hml hown htb hK (g_X3_least l D E (xa 7) ra w_13 w_12 (by (try dsimp only); omega)) ok_X3_least k_720 k_721 k_722 k_3 k_723 ⟨(Nat.le_of_ble_eq_true rfl), (Nat.le_of_ble_eq_true rfl)⟩ ⟨(Nat.le_of_ble_eq_true rfl), (Nat.le_of_ble_eq_true rfl)⟩ hl.1 (Nat.le_of_ble_eq_true rfl) rfl rfl dX8_board_68 (hP.sub (ws' := [((xa 7), .inr (3, G3 ra w_13)), ((ra 1), .inl (E 0, 60, .inl w_12))]) [20, 22] rfl) rfl rfl 0 rfl (fun r_24 hw_25 => ?_)
      refine lv_isub hx hb dX8_board_71 ?_
      refine lv_topi (fun z_27 ez_27 => ?_)
      refine lv_iconst (v := 2) hx hb dX8_board_72 (by decide) ?_
      refine lv_idiv hx hb dX8_board_73 (by decide) ?_
      refine lv_topi (fun z_28 ez_28 => ?_)
      refine lv_iadd hx hb dX8_board_74 ?_
      refine lv_topi (fun z_29 ez_29 => ?_)
      refine lv_istore (lv' := [(6, .int z_29), (5, .int r_18), (4, .ref wh), (0, .ref xh), (1, .int p0), (2, .int p1), (3, .int p2)]) hx hb dX8_board_75 hl (by decide) rfl (fun ls hl => ?_)
      refine lv_aload_n hx hb dX8_board_77 rfl (lv_at hl 3 rfl) ?_
      refine va_get (D := D) (ci := 8) (v := .ref (xa 4)) (C := RX8) (T := TX8) (N := 14) hx hb htb iX8 hown hK.1 hP 9 rfl rfl 4 (by decide) (htb _ k_276) (fun _ h9 => h9) rfl dX8_board_78 ?_
      refine lv_iload_n hx hb dX8_board_81 rfl (lv_at hl 4 rfl) ?_
      refine va_aldq hx hb hK.1 hP 2 4 rfl rfl (g_in rfl (by omega) (by omega)) dX8_board_82 ?_
      refine W_top (y := .ref yh) (congrArg va_rf hy0) ?_
      refine lv_iload_n hx hb dX8_board_83 rfl (lv_at hl 5 rfl) ?_
      refine lv_iload_n hx hb dX8_board_84 rfl (lv_at hl 6 rfl) ?_
      refine lv_aload hx hb dX8_board_85 (lv_at hl 2 rfl) ?_
      refine lv_aload_n hx hb dX8_board_87 rfl (lv_at hl 3 rfl) ?_
      refine va_get (D := D) (ci := 8) (v := .int xtoday) (C := RX8) (T := TX8) (N := 14) hx hb htb iX8 hown hK.1 hP 9 rfl rfl 13 (by decide) (htb _ k_285) (fun _ h9 => h9) rfl dX8_board_88 ?_
      refine lv_aload_n hx hb dX8_board_91 rfl (lv_at hl 3 rfl) ?_
      refine va_get (D := D) (ci := 8) (v := .ref (xa 6)) (C := RX8) (T := TX8) (N := 14) hx hb htb iX8 hown hK.1 hP 9 rfl rfl 6 (by decide) (htb _ k_278) (fun _ h9 => h9) rfl dX8_board_92 ?_
      refine lv_iconst (v := (-1)) hx hb dX8_board_95 (by decide) ?_
      refine callRV (rest := [.int p2, .int p1, .ref yh]) (As := [.int xtoday, .ref (xa 6), .int (-1)]) hx hb hml hown htb hK (g_X7_errorAsKnown l D E wh wa wf0 wf1 (xa 6) oa osize of0 of1 of2 of3 of4 xtoday (-1) (by (try dsimp only); omega)) ok_X7_errorAsKnown k_415 k_416 k_417 k_10 k_418 ⟨(Nat.le_of_ble_eq_true rfl), (Nat.le_of_ble_eq_true rfl)⟩ ⟨(Nat.le_of_ble_eq_true rfl), (Nat.le_of_ble_eq_true rfl)⟩ hl.1 (Nat.le_of_ble_eq_true rfl) rfl rfl dX8_board_96 (hP.sub (ws' := [(wh, .inr (7, G7 wa)), ((wa 0), .inl (E 0, 400, .inl wf0)), ((wa 1), .inl (E 0, 400, .inl wf1)), ((xa 6), .inr (2, G2 oa osize)), ((oa 0), .inl (E 0, 60, .inl of0)), ((oa 1), .inl (E 0, 60, .inl of1)), ((oa 2), .inl (E 0, 60, .inl of2)), ((oa 3), .inl (E 0, 60, .inl of3)), ((oa 4), .inl (E 0, 60, .inl of4))]) [10, 11, 12, 14, 15, 16, 17, 18, 19] rfl) rfl rfl 0 rfl (fun r_30 hw_31 => ?_)
      try simp only [t_m1] at hw_31
      refine lv_iload hx hb dX8_board_99 (lv_at hl 1 rfl) ?_
      refine lv_iload hx hb dX8_board_101 (lv_at hl 0 rfl) ?_
      have hPc := hP.sub (ws' := [(yh, .inr (5, G5 ya ysights ystage ysailed yvoyage)), ((ya 0), .inl (E 0, 3, .inl yf0)), ((ya 1), .inl (E 0, 3, .inl yf1)), ((ya 2), .inl (E 0, 3, .inl yf2)), ((ya 3), .inl (E 0, 3, .inl yf3))]) [4, 5, 6, 7, 8] rfl
      have hDc := hD.sub (ws' := [(yh, .inr (5, G5 ya ysights ystage ysailed yvoyage)), ((ya 0), .inl (E 0, 3, .inl yf0)), ((ya 1), .inl (E 0, 3, .inl yf1)), ((ya 2), .inl (E 0, 3, .inl yf2)), ((ya 3), .inl (E 0, 3, .inl yf3))]) [4, 5, 6, 7, 8] (by decide) rfl
      refine aft_v (runMV (rest := []) (As := [.int p1, .int p2, .int r_30, .int r_18, .int z_29]) hx hb hml hown htb hK (g_X5_carry l D E yh ya ysights ystage ysailed yvoyage yf0 yf1 yf2 yf3 p1 p2 r_30 r_18 z_29 _ (by (try dsimp only); omega)) ok_X5_carry k_799 k_800 k_801 k_8 k_802 ⟨(Nat.le_of_ble_eq_true rfl), (Nat.le_of_ble_eq_true rfl)⟩ ⟨(Nat.le_of_ble_eq_true rfl), (Nat.le_of_ble_eq_true rfl)⟩ hl.1 (Nat.le_of_ble_eq_true rfl) rfl rfl dX8_board_103 hPc hDc rfl rfl 0 rfl) hP hD hS hA [4, 5, 6, 7, 8] [0, 1, 2, 3, 9, 10, 11, 12, 13, 14, 15, 16, 17, 18, 19, 20, 21, 22] (wr := [((xa 1), .inl (E 0, 16, .inl xf1)), ((xa 3), .inl (E 3, 16, .inr (.inr (.inr (.inr xf3))))), ((xa 4), .inl (E 4, 5, .inr (.inr (.inr (.inr xf4))))), ((wa 3), .inl (E 0, 400, .inl wf3)), (xh, .inr (8, G8 xa xtrialRule xdropRule xtoday)), (wh, .inr (7, G7 wa)), ((wa 0), .inl (E 0, 400, .inl wf0)), ((wa 1), .inl (E 0, 400, .inl wf1)), ((wa 2), .inl (E 0, 400, .inl wf2)), ((xa 6), .inr (2, G2 oa osize)), ((oa 0), .inl (E 0, 60, .inl of0)), ((oa 1), .inl (E 0, 60, .inl of1)), ((oa 2), .inl (E 0, 60, .inl of2)), ((oa 3), .inl (E 0, 60, .inl of3)), ((oa 4), .inl (E 0, 60, .inl of4)), ((xa 7), .inr (3, G3 ra w_13)), ((ra 0), .inl (E 0, 60, .inl w_11)), ((ra 1), .inl (E 0, 60, .inl w_12))]) rfl rfl (by decide) (by decide) (fun u_35 H locs hw_34 hP hD hS => ?_)
      clear hPc hDc
      obtain ⟨w_36, w_37, w_38, w_39⟩ := u_35
      try dsimp only at hw_34
      have hP : va_P D vwCl [((xa 1), .inl (E 0, 16, .inl xf1)), ((xa 3), .inl (E 3, 16, .inr (.inr (.inr (.inr xf3))))), ((xa 4), .inl (E 4, 5, .inr (.inr (.inr (.inr xf4))))), ((wa 3), .inl (E 0, 400, .inl wf3)), (xh, .inr (8, G8 xa xtrialRule xdropRule xtoday)), (wh, .inr (7, G7 wa)), ((wa 0), .inl (E 0, 400, .inl wf0)), ((wa 1), .inl (E 0, 400, .inl wf1)), ((wa 2), .inl (E 0, 400, .inl wf2)), ((xa 6), .inr (2, G2 oa osize)), ((oa 0), .inl (E 0, 60, .inl of0)), ((oa 1), .inl (E 0, 60, .inl of1)), ((oa 2), .inl (E 0, 60, .inl of2)), ((oa 3), .inl (E 0, 60, .inl of3)), ((oa 4), .inl (E 0, 60, .inl of4)), ((xa 7), .inr (3, G3 ra w_13)), ((ra 0), .inl (E 0, 60, .inl w_11)), ((ra 1), .inl (E 0, 60, .inl w_12)), (yh, .inr (5, G5 ya ysights ystage ysailed yvoyage)), ((ya 0), .inl (E 0, 3, .inl w_36)), ((ya 1), .inl (E 0, 3, .inl w_37)), ((ya 2), .inl (E 0, 3, .inl w_38)), ((ya 3), .inl (E 0, 3, .inl w_39))] H := hP
      have hD := toW hP hD rfl
      have hw_34C : w_36 = upd yf0 (p1).toNatClampNeg p2 := by rcases hw_34 with h9 | h9 <;> first | exact h9.2.1 | exact h9.2 | (exfalso; omega)
      have hw_34C1 : w_37 = upd yf1 (p1).toNatClampNeg r_30 := by rcases hw_34 with h9 | h9 <;> first | exact h9.2.2.1 | exact h9.2.2 | (exfalso; omega)
      have hw_34C2 : w_38 = upd yf2 (p1).toNatClampNeg r_18 := by rcases hw_34 with h9 | h9 <;> first | exact h9.2.2.2.1 | exact h9.2.2.2 | (exfalso; omega)
      have hw_34C3 : w_39 = upd yf3 (p1).toNatClampNeg z_29 := by rcases hw_34 with h9 | h9 <;> first | exact h9.2.2.2.2.1 | exact h9.2.2.2.2 | (exfalso; omega)
      refine lv_aload hx hb dX8_board_106 (lv_at hl 2 rfl) ?_
      refine lv_bipush (v := 100) hx hb dX8_board_108 (by decide) ?_
      refine lv_iload_n hx hb dX8_board_110 rfl (lv_at hl 4 rfl) ?_
      refine lv_iadd hx hb dX8_board_111 ?_
      refine lv_topi (fun z_40 ez_40 => ?_)
      have jz_40 : z_40.toInt = 100 + p0.toInt := by rw [ez_40]; exact g_add t_100 rfl (by omega) (by omega)
      refine lv_aload_n hx hb dX8_board_112 rfl (lv_at hl 3 rfl) ?_
      refine va_get (D := D) (ci := 8) (v := .int xtoday) (C := RX8) (T := TX8) (N := 14) hx hb htb iX8 hown hK.1 hP 4 rfl rfl 13 (by decide) (htb _ k_285) (fun _ h9 => h9) rfl dX8_board_113 ?_
      have hPc := hP.sub (ws' := [(wh, .inr (7, G7 wa)), ((wa 3), .inl (E 0, 400, .inl wf3))]) [5, 3] rfl
      have hDc := hD.sub (ws' := [(wh, .inr (7, G7 wa)), ((wa 3), .inl (E 0, 400, .inl wf3))]) [5, 3] (by decide) rfl
      refine aft_v (runMV (rest := []) (As := [.int z_40, .int xtoday]) hx hb hml hown htb hK (g_X7_giveTo l D E wh wa wf3 z_40 xtoday _ (by (try dsimp only); omega)) ok_X7_giveTo k_803 k_804 k_805 k_10 k_806 ⟨(Nat.le_of_ble_eq_true rfl), (Nat.le_of_ble_eq_true rfl)⟩ ⟨(Nat.le_of_ble_eq_true rfl), (Nat.le_of_ble_eq_true rfl)⟩ hl.1 (Nat.le_of_ble_eq_true rfl) rfl rfl dX8_board_116 hPc hDc rfl rfl 0 rfl) hP hD hS hA [5, 3] [0, 1, 2, 4, 6, 7, 8, 9, 10, 11, 12, 13, 14, 15, 16, 17, 18, 19, 20, 21, 22] (wr := [((xa 1), .inl (E 0, 16, .inl xf1)), ((xa 3), .inl (E 3, 16, .inr (.inr (.inr (.inr xf3))))), ((xa 4), .inl (E 4, 5, .inr (.inr (.inr (.inr xf4))))), (xh, .inr (8, G8 xa xtrialRule xdropRule xtoday)), ((wa 0), .inl (E 0, 400, .inl wf0)), ((wa 1), .inl (E 0, 400, .inl wf1)), ((wa 2), .inl (E 0, 400, .inl wf2)), ((xa 6), .inr (2, G2 oa osize)), ((oa 0), .inl (E 0, 60, .inl of0)), ((oa 1), .inl (E 0, 60, .inl of1)), ((oa 2), .inl (E 0, 60, .inl of2)), ((oa 3), .inl (E 0, 60, .inl of3)), ((oa 4), .inl (E 0, 60, .inl of4)), ((xa 7), .inr (3, G3 ra w_13)), ((ra 0), .inl (E 0, 60, .inl w_11)), ((ra 1), .inl (E 0, 60, .inl w_12)), (yh, .inr (5, G5 ya ysights ystage ysailed yvoyage)), ((ya 0), .inl (E 0, 3, .inl w_36)), ((ya 1), .inl (E 0, 3, .inl w_37)), ((ya 2), .inl (E 0, 3, .inl w_38)), ((ya 3), .inl (E 0, 3, .inl w_39))]) rfl rfl (by decide) (by decide) (fun u_43 H locs hw_42 hP hD hS => ?_)
      clear hPc hDc
      have hP : va_P D vwCl [((xa 1), .inl (E 0, 16, .inl xf1)), ((xa 3), .inl (E 3, 16, .inr (.inr (.inr (.inr xf3))))), ((xa 4), .inl (E 4, 5, .inr (.inr (.inr (.inr xf4))))), (xh, .inr (8, G8 xa xtrialRule xdropRule xtoday)), ((wa 0), .inl (E 0, 400, .inl wf0)), ((wa 1), .inl (E 0, 400, .inl wf1)), ((wa 2), .inl (E 0, 400, .inl wf2)), ((xa 6), .inr (2, G2 oa osize)), ((oa 0), .inl (E 0, 60, .inl of0)), ((oa 1), .inl (E 0, 60, .inl of1)), ((oa 2), .inl (E 0, 60, .inl of2)), ((oa 3), .inl (E 0, 60, .inl of3)), ((oa 4), .inl (E 0, 60, .inl of4)), ((xa 7), .inr (3, G3 ra w_13)), ((ra 0), .inl (E 0, 60, .inl w_11)), ((ra 1), .inl (E 0, 60, .inl w_12)), (yh, .inr (5, G5 ya ysights ystage ysailed yvoyage)), ((ya 0), .inl (E 0, 3, .inl w_36)), ((ya 1), .inl (E 0, 3, .inl w_37)), ((ya 2), .inl (E 0, 3, .inl w_38)), ((ya 3), .inl (E 0, 3, .inl w_39)), (wh, .inr (7, G7 wa)), ((wa 3), .inl (E 0, 400, .inl u_43))] H := hP
      have hD := toW hP hD rfl
      rw [ez_40] at hw_42
      have hP9 := hP.sub (ws' := [(xh, .inr (8, G8 xa xtrialRule xdropRule xtoday)), ((xa 1), .inl (E 0, 16, .inl xf1)), ((xa 3), .inl (E 3, 16, .inr (.inr (.inr (.inr xf3))))), ((xa 4), .inl (E 4, 5, .inr (.inr (.inr (.inr xf4))))), (wh, .inr (7, G7 wa)), ((wa 0), .inl (E 0, 400, .inl wf0)), ((wa 1), .inl (E 0, 400, .inl wf1)), ((wa 2), .inl (E 0, 400, .inl wf2)), ((wa 3), .inl (E 0, 400, .inl u_43)), (yh, .inr (5, G5 ya ysights ystage ysailed yvoyage)), ((ya 0), .inl (E 0, 3, .inl w_36)), ((ya 1), .inl (E 0, 3, .inl w_37)), ((ya 2), .inl (E 0, 3, .inl w_38)), ((ya 3), .inl (E 0, 3, .inl w_39)), ((xa 6), .inr (2, G2 oa osize)), ((oa 0), .inl (E 0, 60, .inl of0)), ((oa 1), .inl (E 0, 60, .inl of1)), ((oa 2), .inl (E 0, 60, .inl of2)), ((oa 3), .inl (E 0, 60, .inl of3)), ((oa 4), .inl (E 0, 60, .inl of4)), ((xa 7), .inr (3, G3 ra w_13)), ((ra 0), .inl (E 0, 60, .inl w_11)), ((ra 1), .inl (E 0, 60, .inl w_12))]) [3, 0, 1, 2, 21, 4, 5, 6, 22, 16, 17, 18, 19, 20, 7, 8, 9, 10, 11, 12, 13, 14, 15] rfl
      have hD9 := hD.sub (ws' := [(xh, .inr (8, G8 xa xtrialRule xdropRule xtoday)), ((xa 1), .inl (E 0, 16, .inl xf1)), ((xa 3), .inl (E 3, 16, .inr (.inr (.inr (.inr xf3))))), ((xa 4), .inl (E 4, 5, .inr (.inr (.inr (.inr xf4))))), (wh, .inr (7, G7 wa)), ((wa 0), .inl (E 0, 400, .inl wf0)), ((wa 1), .inl (E 0, 400, .inl wf1)), ((wa 2), .inl (E 0, 400, .inl wf2)), ((wa 3), .inl (E 0, 400, .inl u_43)), (yh, .inr (5, G5 ya ysights ystage ysailed yvoyage)), ((ya 0), .inl (E 0, 3, .inl w_36)), ((ya 1), .inl (E 0, 3, .inl w_37)), ((ya 2), .inl (E 0, 3, .inl w_38)), ((ya 3), .inl (E 0, 3, .inl w_39)), ((xa 6), .inr (2, G2 oa osize)), ((oa 0), .inl (E 0, 60, .inl of0)), ((oa 1), .inl (E 0, 60, .inl of1)), ((oa 2), .inl (E 0, 60, .inl of2)), ((oa 3), .inl (E 0, 60, .inl of3)), ((oa 4), .inl (E 0, 60, .inl of4)), ((xa 7), .inr (3, G3 ra w_13)), ((ra 0), .inl (E 0, 60, .inl w_11)), ((ra 1), .inl (E 0, 60, .inl w_12))]) [3, 0, 1, 2, 21, 4, 5, 6, 22, 16, 17, 18, 19, 20, 7, 8, 9, 10, 11, 12, 13, 14, 15] (by decide) rfl
      exact W.vret hx hb hr (fun t ht hW => ⟨⟨(w_11, w_12, w_13, u_43, w_36, w_37, w_38, w_39), rfl, ⟨hw_9_0, (by (try dsimp only); omega), (by have hn := hw_9_2.1; exact Or.inr ⟨by omega, hw_34C, by assumption, hw_34C1.trans (by rw [hw_31]), hw_34C2.trans (by rw [goX_of hw_9_2 (by omega) hw_16 hw_19]), hw_34C3.trans (by rw [duX_of (a := r_21) (b := r_24) (z := z_29) hw_9_2 (by omega) hw_22 hw_25 (by subst_vars; rfl)])⟩)⟩, by rw [ht]; exact hP9, hD9⟩, hS.F ht⟩) hS.2.2 dX8_board_119
    ·
      have ic_14 : w_13.toInt = 0 := (g_eq rfl t_0).mp c_14
      clear c_14
      have hP9 := hP.sub (ws' := [(xh, .inr (8, G8 xa xtrialRule xdropRule xtoday)), ((xa 1), .inl (E 0, 16, .inl xf1)), ((xa 3), .inl (E 3, 16, .inr (.inr (.inr (.inr xf3))))), ((xa 4), .inl (E 4, 5, .inr (.inr (.inr (.inr xf4))))), (wh, .inr (7, G7 wa)), ((wa 0), .inl (E 0, 400, .inl wf0)), ((wa 1), .inl (E 0, 400, .inl wf1)), ((wa 2), .inl (E 0, 400, .inl wf2)), ((wa 3), .inl (E 0, 400, .inl wf3)), (yh, .inr (5, G5 ya ysights ystage ysailed yvoyage)), ((ya 0), .inl (E 0, 3, .inl yf0)), ((ya 1), .inl (E 0, 3, .inl yf1)), ((ya 2), .inl (E 0, 3, .inl yf2)), ((ya 3), .inl (E 0, 3, .inl yf3)), ((xa 6), .inr (2, G2 oa osize)), ((oa 0), .inl (E 0, 60, .inl of0)), ((oa 1), .inl (E 0, 60, .inl of1)), ((oa 2), .inl (E 0, 60, .inl of2)), ((oa 3), .inl (E 0, 60, .inl of3)), ((oa 4), .inl (E 0, 60, .inl of4)), ((xa 7), .inr (3, G3 ra w_13)), ((ra 0), .inl (E 0, 60, .inl w_11)), ((ra 1), .inl (E 0, 60, .inl w_12))]) [9, 0, 1, 2, 10, 11, 12, 13, 3, 4, 5, 6, 7, 8, 14, 15, 16, 17, 18, 19, 20, 21, 22] rfl
      have hD9 := hD.sub (ws' := [(xh, .inr (8, G8 xa xtrialRule xdropRule xtoday)), ((xa 1), .inl (E 0, 16, .inl xf1)), ((xa 3), .inl (E 3, 16, .inr (.inr (.inr (.inr xf3))))), ((xa 4), .inl (E 4, 5, .inr (.inr (.inr (.inr xf4))))), (wh, .inr (7, G7 wa)), ((wa 0), .inl (E 0, 400, .inl wf0)), ((wa 1), .inl (E 0, 400, .inl wf1)), ((wa 2), .inl (E 0, 400, .inl wf2)), ((wa 3), .inl (E 0, 400, .inl wf3)), (yh, .inr (5, G5 ya ysights ystage ysailed yvoyage)), ((ya 0), .inl (E 0, 3, .inl yf0)), ((ya 1), .inl (E 0, 3, .inl yf1)), ((ya 2), .inl (E 0, 3, .inl yf2)), ((ya 3), .inl (E 0, 3, .inl yf3)), ((xa 6), .inr (2, G2 oa osize)), ((oa 0), .inl (E 0, 60, .inl of0)), ((oa 1), .inl (E 0, 60, .inl of1)), ((oa 2), .inl (E 0, 60, .inl of2)), ((oa 3), .inl (E 0, 60, .inl of3)), ((oa 4), .inl (E 0, 60, .inl of4)), ((xa 7), .inr (3, G3 ra w_13)), ((ra 0), .inl (E 0, 60, .inl w_11)), ((ra 1), .inl (E 0, 60, .inl w_12))]) [9, 0, 1, 2, 10, 11, 12, 13, 3, 4, 5, 6, 7, 8, 14, 15, 16, 17, 18, 19, 20, 21, 22] (by decide) rfl
      exact W.vret hx hb hr (fun t ht hW => ⟨⟨(w_11, w_12, w_13, wf3, yf0, yf1, yf2, yf3), rfl, ⟨hw_9_0, (by (try dsimp only); omega), (by have hn := hw_9_2.1; exact Or.inl ⟨by omega, rfl, rfl, rfl, rfl, rfl⟩)⟩, by rw [ht]; exact hP9, hD9⟩, hS.F ht⟩) hS.2.2 dX8_board_36
  ·
    refine W_top (y := .int 0) (by rw [hr_4]) ?_
    refine lv_if_ne (tgt := 20) hx hb dX8_board_16 (by decide) (fun c_44 => absurd (by decide) c_44) (fun c_44 => ?_)
    have hP9 := hP.sub (ws' := [(xh, .inr (8, G8 xa xtrialRule xdropRule xtoday)), ((xa 1), .inl (E 0, 16, .inl xf1)), ((xa 3), .inl (E 3, 16, .inr (.inr (.inr (.inr xf3))))), ((xa 4), .inl (E 4, 5, .inr (.inr (.inr (.inr xf4))))), (wh, .inr (7, G7 wa)), ((wa 0), .inl (E 0, 400, .inl wf0)), ((wa 1), .inl (E 0, 400, .inl wf1)), ((wa 2), .inl (E 0, 400, .inl wf2)), ((wa 3), .inl (E 0, 400, .inl wf3)), (yh, .inr (5, G5 ya ysights ystage ysailed yvoyage)), ((ya 0), .inl (E 0, 3, .inl yf0)), ((ya 1), .inl (E 0, 3, .inl yf1)), ((ya 2), .inl (E 0, 3, .inl yf2)), ((ya 3), .inl (E 0, 3, .inl yf3)), ((xa 6), .inr (2, G2 oa osize)), ((oa 0), .inl (E 0, 60, .inl of0)), ((oa 1), .inl (E 0, 60, .inl of1)), ((oa 2), .inl (E 0, 60, .inl of2)), ((oa 3), .inl (E 0, 60, .inl of3)), ((oa 4), .inl (E 0, 60, .inl of4)), ((xa 7), .inr (3, G3 ra rsize)), ((ra 0), .inl (E 0, 60, .inl rf0)), ((ra 1), .inl (E 0, 60, .inl rf1))]) [0, 1, 2, 3, 4, 5, 6, 7, 8, 9, 10, 11, 12, 13, 14, 15, 16, 17, 18, 19, 20, 21, 22] rfl
    have hD9 := hD.sub (ws' := [(xh, .inr (8, G8 xa xtrialRule xdropRule xtoday)), ((xa 1), .inl (E 0, 16, .inl xf1)), ((xa 3), .inl (E 3, 16, .inr (.inr (.inr (.inr xf3))))), ((xa 4), .inl (E 4, 5, .inr (.inr (.inr (.inr xf4))))), (wh, .inr (7, G7 wa)), ((wa 0), .inl (E 0, 400, .inl wf0)), ((wa 1), .inl (E 0, 400, .inl wf1)), ((wa 2), .inl (E 0, 400, .inl wf2)), ((wa 3), .inl (E 0, 400, .inl wf3)), (yh, .inr (5, G5 ya ysights ystage ysailed yvoyage)), ((ya 0), .inl (E 0, 3, .inl yf0)), ((ya 1), .inl (E 0, 3, .inl yf1)), ((ya 2), .inl (E 0, 3, .inl yf2)), ((ya 3), .inl (E 0, 3, .inl yf3)), ((xa 6), .inr (2, G2 oa osize)), ((oa 0), .inl (E 0, 60, .inl of0)), ((oa 1), .inl (E 0, 60, .inl of1)), ((oa 2), .inl (E 0, 60, .inl of2)), ((oa 3), .inl (E 0, 60, .inl of3)), ((oa 4), .inl (E 0, 60, .inl of4)), ((xa 7), .inr (3, G3 ra rsize)), ((ra 0), .inl (E 0, 60, .inl rf0)), ((ra 1), .inl (E 0, 60, .inl rf1))]) [0, 1, 2, 3, 4, 5, 6, 7, 8, 9, 10, 11, 12, 13, 14, 15, 16, 17, 18, 19, 20, 21, 22] (by decide) rfl
    exact W.vret hx hb hr (fun t ht hW => ⟨⟨(rf0, rf1, rsize, wf3, yf0, yf1, yf2, yf3), rfl, ⟨hr_r0, (by (try dsimp only); omega), (by exfalso; omega)⟩, by rw [ht]; exact hP9, hD9⟩, hS.F ht⟩) hS.2.2 dX8_board_19
end
section
set_option maxHeartbeats 4000000 in
set_option maxRecDepth 100000 in
theorem g_X8_unload_N (l : Launch) (D : va_G) (E : Nat → Nat) (xh : Nat) (xa : Nat → Nat) (xtrialRule : Nat) (xdropRule : Nat) (xtoday : Int32) (xf1 : Nat → Int32) (xf3 : Nat → Option Nat) (yh : Nat) (ya : Nat → Nat) (ysights : Int32) (ystage : Int32) (ysailed : Int32) (yvoyage : Int32) (yf0 : Nat → Int32) (yf4 : Nat → Int32) (p1 : Int32) (p2 : Int32) (sz : Nat) (hi_x : (0 ≤ xtoday.toInt ∧ xtoday.toInt ≤ 399)) (hi_y : (0 ≤ ysights.toInt ∧ ysights.toInt ≤ 40)) (g0 : 0 ≤ p1.toInt ∧ p1.toInt ≤ 2) (hn0 : ¬ (0 ≤ (yf0 (p1).toNatClampNeg).toInt ∧ (yf0 (p1).toNatClampNeg).toInt ≤ 15 ∧ ((xf1 ((yf0 (p1).toNatClampNeg)).toNatClampNeg).toInt = 0 ∨ (xf1 ((yf0 (p1).toNatClampNeg)).toNatClampNeg).toInt = 1))) : Met l yX8_unload (wl yX8_unload cX8_unload 5 none) (RM 2 0 0) (mu_P D E [.ref xh, .ref yh, .int p1, .int p2] [(xh, .inr (8, G8 xa xtrialRule xdropRule xtoday)), ((xa 1), .inl (E 0, 16, .inl xf1)), ((xa 3), .inl (E 3, 16, .inr (.inr (.inr (.inr xf3))))), (yh, .inr (5, G5 ya ysights ystage ysailed yvoyage)), ((ya 0), .inl (E 0, 3, .inl yf0)), ((ya 4), .inl (E 0, 3, .inl yf4))] sz) (va_Qv (fun (u : (Nat → Int32)) => True) (mu_B D (va_A [(xh, .inr (8, G8 xa xtrialRule xdropRule xtoday)), ((xa 1), .inl (E 0, 16, .inl xf1)), ((xa 3), .inl (E 3, 16, .inr (.inr (.inr (.inr xf3))))), (yh, .inr (5, G5 ya ysights ystage ysailed yvoyage)), ((ya 0), .inl (E 0, 3, .inl yf0)), ((ya 4), .inl (E 0, 3, .inl yf4))] sz) (fun (u : (Nat → Int32)) => [(xh, .inr (8, G8 xa xtrialRule xdropRule xtoday)), ((xa 1), .inl (E 0, 16, .inl xf1)), ((xa 3), .inl (E 3, 16, .inr (.inr (.inr (.inr xf3))))), (yh, .inr (5, G5 ya ysights ystage ysailed yvoyage)), ((ya 0), .inl (E 0, 3, .inl yf0)), ((ya 4), .inl (E 0, 3, .inl u))])) (va_A [(xh, .inr (8, G8 xa xtrialRule xdropRule xtoday)), ((xa 1), .inl (E 0, 16, .inl xf1)), ((xa 3), .inl (E 3, 16, .inr (.inr (.inr (.inr xf3))))), (yh, .inr (5, G5 ya ysights ystage ysailed yvoyage)), ((ya 0), .inl (E 0, 3, .inl yf0)), ((ya 4), .inl (E 0, 3, .inl yf4))] sz)) 0 0 (va_A [(xh, .inr (8, G8 xa xtrialRule xdropRule xtoday)), ((xa 1), .inl (E 0, 16, .inl xf1)), ((xa 3), .inl (E 3, 16, .inr (.inr (.inr (.inr xf3))))), (yh, .inr (5, G5 ya ysights ystage ysailed yvoyage)), ((ya 0), .inl (E 0, 3, .inl yf0)), ((ya 4), .inl (E 0, 3, .inl yf4))] sz) := by
  refine Met.ofW (cc := cX8_unload) (maxL := 5) (ret := none) (by decide) rfl ?_
  intro p e s m args below meth c s₁ B hml hv
  obtain ⟨rfl, hsz, hP, hK, hD0⟩ := hv
  have hx := B.exec; have hb := B.bytes; have hr := B.returns
  have hts := atoms_spec (ws := wl yX8_unload cX8_unload 5 none) B.pre
  have htb : ∀ w ∈ tb, w.before _ s = true := fun w h => hts w (List.mem_cons_of_mem _ h)
  have hown : s.vm.findClass RX8 = some m.cls := findClass_of_methodNamed B.named
  have hlocks := B.notSynchronized
  subst hsz
  have hD := hD0.self (sz := s.heap.size)
  generalize hAe : va_A [(xh, .inr (8, G8 xa xtrialRule xdropRule xtoday)), ((xa 1), .inl (E 0, 16, .inl xf1)), ((xa 3), .inl (E 3, 16, .inr (.inr (.inr (.inr xf3))))), (yh, .inr (5, G5 ya ysights ystage ysailed yvoyage)), ((ya 0), .inl (E 0, 3, .inl yf0)), ((ya 4), .inl (E 0, 3, .inl yf4))] s.heap.size = A at hD ⊢
  have hA : ∀ q : Nat, s.heap.size ≤ q → A q := fun q h => by rw [← hAe]; exact Or.inr h
  have hS : va_S A s.heap s.heap [] := va_S.rf
  have hP : va_P D vwCl [(xh, .inr (8, G8 xa xtrialRule xdropRule xtoday)), ((xa 1), .inl (E 0, 16, .inl xf1)), ((xa 3), .inl (E 3, 16, .inr (.inr (.inr (.inr xf3))))), (yh, .inr (5, G5 ya ysights ystage ysailed yvoyage)), ((ya 0), .inl (E 0, 3, .inl yf0)), ((ya 4), .inl (E 0, 3, .inl yf4))] s.heap := hP
  have hl := lv_entry ([.ref xh, .ref yh, .int p1, .int p2]) (n := 5) (Nat.le_of_ble_eq_true rfl)
  rw [lg_entry_eq]
  generalize (lg_sl ([.ref xh, .ref yh, .int p1, .int p2]) ++ List.replicate (5 - (lg_sl ([.ref xh, .ref yh, .int p1, .int p2])).length) Slot.unset).toArray = ls at hl ⊢
  have hl : lv_has ls 5 [(0, .ref xh), (1, .ref yh), (2, .int p1), (3, .int p2)] := hl
  have lo_p1 := i_lo p1; have hi_p1 := i_hi p1
  have lo_p2 := i_lo p2; have hi_p2 := i_hi p2
  refine lv_iload_n hx hb dX8_unload_0 rfl (lv_at hl 2 rfl) ?_
  refine lv_if_lt (tgt := 9) hx hb dX8_unload_1 (by decide) (fun c_1 => absurd c_1 (by rw [g_lt rfl t_0]; omega)) (fun c_1 => ?_)
  refine lv_iload_n hx hb dX8_unload_4 rfl (lv_at hl 2 rfl) ?_
  refine lv_iconst (v := 3) hx hb dX8_unload_5 (by decide) ?_
  refine lv_icmp_lt (tgt := 10) hx hb dX8_unload_6 (by decide) (fun c_2 => ?_) (fun c_2 => absurd (by rw [g_lt rfl t_3]; omega) c_2)
  refine lv_aload_n hx hb dX8_unload_10 rfl (lv_at hl 1 rfl) ?_
  refine va_getN (D := D) (ci := 5) (v := .ref (ya 4)) (C := RX5) (T := TX5) (N := 11) hx hb htb iX5 hown hK.1 hP 3 rfl rfl 4 (by decide) (va_Nw.use rfl (hK.2.1 (Cond.fieldLinkNest RX8 368 "SeaWatches$Ship" "ends" "[I" "SeaWatches") (by decide +kernel))) (fun _ h9 => h9) rfl dX8_unload_11 ?_
  refine lv_iload_n hx hb dX8_unload_14 rfl (lv_at hl 2 rfl) ?_
  refine lv_iload_n hx hb dX8_unload_15 rfl (lv_at hl 3 rfl) ?_
  refine va_iast hx hb hK.1 hP hD hS 5 0 rfl rfl (g_in rfl (by omega) (by omega)) dX8_unload_16 (fun H locs hP hD hS => ?_)
  have hP : va_P D vwCl [(xh, .inr (8, G8 xa xtrialRule xdropRule xtoday)), ((xa 1), .inl (E 0, 16, .inl xf1)), ((xa 3), .inl (E 3, 16, .inr (.inr (.inr (.inr xf3))))), (yh, .inr (5, G5 ya ysights ystage ysailed yvoyage)), ((ya 0), .inl (E 0, 3, .inl yf0)), ((ya 4), .inl (E 0, 3, .inl (upd yf4 (p1 : Int32).toNatClampNeg p2)))] H := hP
  have hD := toW hP hD rfl
  refine lv_aload_n hx hb dX8_unload_17 rfl (lv_at hl 0 rfl) ?_
  refine lv_aload_n hx hb dX8_unload_18 rfl (lv_at hl 1 rfl) ?_
  refine va_getN (D := D) (ci := 5) (v := .ref (ya 0)) (C := RX5) (T := TX5) (N := 11) hx hb htb iX5 hown hK.1 hP 3 rfl rfl 0 (by decide) (va_Nw.use rfl (hK.2.1 (Cond.fieldLinkNest RX8 220 "SeaWatches$Ship" "places" "[I" "SeaWatches") (by decide +kernel))) (fun _ h9 => h9) rfl dX8_unload_19 ?_
  refine lv_iload_n hx hb dX8_unload_22 rfl (lv_at hl 2 rfl) ?_
  refine va_iald hx hb hK.1 hP 4 0 rfl rfl (g_in rfl (by omega) (by omega)) dX8_unload_23 ?_
  refine lv_topi (fun z_3 ez_3 => ?_)
  have kz_3 := congrArg Int32.toInt ez_3
  have nz_3 : ¬ (0 ≤ z_3.toInt ∧ z_3.toInt ≤ 15 ∧ ((xf1 (z_3).toNatClampNeg).toInt = 0 ∨ (xf1 (z_3).toNatClampNeg).toInt = 1)) := by rw [ez_3]; exact hn0
  refine rn_call (runRV (rest := []) (As := [.int z_3]) hx hb hml hown htb (g_X8_watchAt_N l D E xh xa xtrialRule xdropRule xtoday xf1 xf3 z_3 (by (try dsimp only); omega) nz_3) ok_X8_watchAt k_369 k_371 ks_1 k_1 k_372 ⟨(Nat.le_of_ble_eq_true rfl), (Nat.le_of_ble_eq_true rfl)⟩ ⟨(Nat.le_of_ble_eq_true rfl), (Nat.le_of_ble_eq_true rfl)⟩ hl.1 (Nat.le_of_ble_eq_true rfl) rfl rfl dX8_unload_24 (prV (hP.sub (ws' := [(xh, .inr (8, G8 xa xtrialRule xdropRule xtoday)), ((xa 1), .inl (E 0, 16, .inl xf1)), ((xa 3), .inl (E 3, 16, .inr (.inr (.inr (.inr xf3)))))]) [0, 1, 2] rfl) hK rfl rfl 0 rfl)) ?_
  refine lv_astoreN (lv' := [(4, .null), (0, .ref xh), (1, .ref yh), (2, .int p1), (3, .int p2)]) hx hb dX8_unload_27 hl (by decide) rfl (fun ls hl => ?_)
  refine lv_aloadN hx hb dX8_unload_29 (lv_at hl 0 rfl) ?_
  refine lv_ifnullN (tgt := 55) hx hb dX8_unload_31 (by decide) ?_
  have hP9 := hP.sub (ws' := [(xh, .inr (8, G8 xa xtrialRule xdropRule xtoday)), ((xa 1), .inl (E 0, 16, .inl xf1)), ((xa 3), .inl (E 3, 16, .inr (.inr (.inr (.inr xf3))))), (yh, .inr (5, G5 ya ysights ystage ysailed yvoyage)), ((ya 0), .inl (E 0, 3, .inl yf0)), ((ya 4), .inl (E 0, 3, .inl (upd yf4 (p1 : Int32).toNatClampNeg p2)))]) [0, 1, 2, 3, 4, 5] rfl
  have hD9 := hD.sub (ws' := [(xh, .inr (8, G8 xa xtrialRule xdropRule xtoday)), ((xa 1), .inl (E 0, 16, .inl xf1)), ((xa 3), .inl (E 3, 16, .inr (.inr (.inr (.inr xf3))))), (yh, .inr (5, G5 ya ysights ystage ysailed yvoyage)), ((ya 0), .inl (E 0, 3, .inl yf0)), ((ya 4), .inl (E 0, 3, .inl (upd yf4 (p1 : Int32).toNatClampNeg p2)))]) [0, 1, 2, 3, 4, 5] (by decide) rfl
  exact W.vret hx hb hr (fun t ht hW => ⟨⟨(upd yf4 (p1 : Int32).toNatClampNeg p2), rfl, trivial, by rw [ht]; exact hP9, hD9⟩, hS.F ht⟩) hS.2.2 dX8_unload_55
set_option maxHeartbeats 4000000 in
set_option maxRecDepth 100000 in
theorem g_X8_unload_W (l : Launch) (D : va_G) (E : Nat → Nat) (xh : Nat) (xa : Nat → Nat) (xtrialRule : Nat) (xdropRule : Nat) (xtoday : Int32) (xf1 : Nat → Int32) (xf3 : Nat → Option Nat) (yh : Nat) (ya : Nat → Nat) (ysights : Int32) (ystage : Int32) (ysailed : Int32) (yvoyage : Int32) (yf0 : Nat → Int32) (yf4 : Nat → Int32) (wh : Nat) (wa : Nat → Nat) (wf0 : Nat → Int32) (wf1 : Nat → Int32) (wf3 : Nat → Int32) (p1 : Int32) (p2 : Int32) (sz : Nat) (hi_x : (0 ≤ xtoday.toInt ∧ xtoday.toInt ≤ 399)) (hi_y : (0 ≤ ysights.toInt ∧ ysights.toInt ≤ 40)) (g0 : 0 ≤ p1.toInt ∧ p1.toInt ≤ 2) (hk0 : (0 ≤ (yf0 (p1).toNatClampNeg).toInt ∧ (yf0 (p1).toNatClampNeg).toInt ≤ 15 ∧ ((xf1 ((yf0 (p1).toNatClampNeg)).toNatClampNeg).toInt = 0 ∨ (xf1 ((yf0 (p1).toNatClampNeg)).toNatClampNeg).toInt = 1))) (hw0 : xf3 ((yf0 (p1).toNatClampNeg)).toNatClampNeg = some wh) : Met l yX8_unload (wl yX8_unload cX8_unload 5 none) (RM 2 0 0) (mu_P D E [.ref xh, .ref yh, .int p1, .int p2] [(xh, .inr (8, G8 xa xtrialRule xdropRule xtoday)), ((xa 1), .inl (E 0, 16, .inl xf1)), ((xa 3), .inl (E 3, 16, .inr (.inr (.inr (.inr xf3))))), (yh, .inr (5, G5 ya ysights ystage ysailed yvoyage)), ((ya 0), .inl (E 0, 3, .inl yf0)), ((ya 4), .inl (E 0, 3, .inl yf4)), (wh, .inr (7, G7 wa)), ((wa 0), .inl (E 0, 400, .inl wf0)), ((wa 1), .inl (E 0, 400, .inl wf1)), ((wa 3), .inl (E 0, 400, .inl wf3))] sz) (va_Qv (fun (u : (Nat → Int32) × (Nat → Int32) × (Nat → Int32) × (Nat → Int32)) => (u.1 = upd wf0 (xtoday).toNatClampNeg p2 ∧ u.2.1 = upd wf1 (xtoday).toNatClampNeg 0 ∧ GIV wf3 u.2.2.1 xtoday.toInt (-1))) (mu_B D (va_A [(xh, .inr (8, G8 xa xtrialRule xdropRule xtoday)), ((xa 1), .inl (E 0, 16, .inl xf1)), ((xa 3), .inl (E 3, 16, .inr (.inr (.inr (.inr xf3))))), (yh, .inr (5, G5 ya ysights ystage ysailed yvoyage)), ((ya 0), .inl (E 0, 3, .inl yf0)), ((ya 4), .inl (E 0, 3, .inl yf4)), (wh, .inr (7, G7 wa)), ((wa 0), .inl (E 0, 400, .inl wf0)), ((wa 1), .inl (E 0, 400, .inl wf1)), ((wa 3), .inl (E 0, 400, .inl wf3))] sz) (fun (u : (Nat → Int32) × (Nat → Int32) × (Nat → Int32) × (Nat → Int32)) => [(xh, .inr (8, G8 xa xtrialRule xdropRule xtoday)), ((xa 1), .inl (E 0, 16, .inl xf1)), ((xa 3), .inl (E 3, 16, .inr (.inr (.inr (.inr xf3))))), (yh, .inr (5, G5 ya ysights ystage ysailed yvoyage)), ((ya 0), .inl (E 0, 3, .inl yf0)), ((ya 4), .inl (E 0, 3, .inl u.2.2.2)), (wh, .inr (7, G7 wa)), ((wa 0), .inl (E 0, 400, .inl u.1)), ((wa 1), .inl (E 0, 400, .inl u.2.1)), ((wa 3), .inl (E 0, 400, .inl u.2.2.1))])) (va_A [(xh, .inr (8, G8 xa xtrialRule xdropRule xtoday)), ((xa 1), .inl (E 0, 16, .inl xf1)), ((xa 3), .inl (E 3, 16, .inr (.inr (.inr (.inr xf3))))), (yh, .inr (5, G5 ya ysights ystage ysailed yvoyage)), ((ya 0), .inl (E 0, 3, .inl yf0)), ((ya 4), .inl (E 0, 3, .inl yf4)), (wh, .inr (7, G7 wa)), ((wa 0), .inl (E 0, 400, .inl wf0)), ((wa 1), .inl (E 0, 400, .inl wf1)), ((wa 3), .inl (E 0, 400, .inl wf3))] sz)) 0 0 (va_A [(xh, .inr (8, G8 xa xtrialRule xdropRule xtoday)), ((xa 1), .inl (E 0, 16, .inl xf1)), ((xa 3), .inl (E 3, 16, .inr (.inr (.inr (.inr xf3))))), (yh, .inr (5, G5 ya ysights ystage ysailed yvoyage)), ((ya 0), .inl (E 0, 3, .inl yf0)), ((ya 4), .inl (E 0, 3, .inl yf4)), (wh, .inr (7, G7 wa)), ((wa 0), .inl (E 0, 400, .inl wf0)), ((wa 1), .inl (E 0, 400, .inl wf1)), ((wa 3), .inl (E 0, 400, .inl wf3))] sz) := by
  refine Met.ofW (cc := cX8_unload) (maxL := 5) (ret := none) (by decide) rfl ?_
  intro p e s m args below meth c s₁ B hml hv
  obtain ⟨rfl, hsz, hP, hK, hD0⟩ := hv
  have hx := B.exec; have hb := B.bytes; have hr := B.returns
  have hts := atoms_spec (ws := wl yX8_unload cX8_unload 5 none) B.pre
  have htb : ∀ w ∈ tb, w.before _ s = true := fun w h => hts w (List.mem_cons_of_mem _ h)
  have hown : s.vm.findClass RX8 = some m.cls := findClass_of_methodNamed B.named
  have hlocks := B.notSynchronized
  subst hsz
  have hD := hD0.self (sz := s.heap.size)
  generalize hAe : va_A [(xh, .inr (8, G8 xa xtrialRule xdropRule xtoday)), ((xa 1), .inl (E 0, 16, .inl xf1)), ((xa 3), .inl (E 3, 16, .inr (.inr (.inr (.inr xf3))))), (yh, .inr (5, G5 ya ysights ystage ysailed yvoyage)), ((ya 0), .inl (E 0, 3, .inl yf0)), ((ya 4), .inl (E 0, 3, .inl yf4)), (wh, .inr (7, G7 wa)), ((wa 0), .inl (E 0, 400, .inl wf0)), ((wa 1), .inl (E 0, 400, .inl wf1)), ((wa 3), .inl (E 0, 400, .inl wf3))] s.heap.size = A at hD ⊢
  have hA : ∀ q : Nat, s.heap.size ≤ q → A q := fun q h => by rw [← hAe]; exact Or.inr h
  have hS : va_S A s.heap s.heap [] := va_S.rf
  have hP : va_P D vwCl [(xh, .inr (8, G8 xa xtrialRule xdropRule xtoday)), ((xa 1), .inl (E 0, 16, .inl xf1)), ((xa 3), .inl (E 3, 16, .inr (.inr (.inr (.inr xf3))))), (yh, .inr (5, G5 ya ysights ystage ysailed yvoyage)), ((ya 0), .inl (E 0, 3, .inl yf0)), ((ya 4), .inl (E 0, 3, .inl yf4)), (wh, .inr (7, G7 wa)), ((wa 0), .inl (E 0, 400, .inl wf0)), ((wa 1), .inl (E 0, 400, .inl wf1)), ((wa 3), .inl (E 0, 400, .inl wf3))] s.heap := hP
  have hl := lv_entry ([.ref xh, .ref yh, .int p1, .int p2]) (n := 5) (Nat.le_of_ble_eq_true rfl)
  rw [lg_entry_eq]
  generalize (lg_sl ([.ref xh, .ref yh, .int p1, .int p2]) ++ List.replicate (5 - (lg_sl ([.ref xh, .ref yh, .int p1, .int p2])).length) Slot.unset).toArray = ls at hl ⊢
  have hl : lv_has ls 5 [(0, .ref xh), (1, .ref yh), (2, .int p1), (3, .int p2)] := hl
  have lo_p1 := i_lo p1; have hi_p1 := i_hi p1
  have lo_p2 := i_lo p2; have hi_p2 := i_hi p2
  refine lv_iload_n hx hb dX8_unload_0 rfl (lv_at hl 2 rfl) ?_
  refine lv_if_lt (tgt := 9) hx hb dX8_unload_1 (by decide) (fun c_1 => absurd c_1 (by rw [g_lt rfl t_0]; omega)) (fun c_1 => ?_)
  refine lv_iload_n hx hb dX8_unload_4 rfl (lv_at hl 2 rfl) ?_
  refine lv_iconst (v := 3) hx hb dX8_unload_5 (by decide) ?_
  refine lv_icmp_lt (tgt := 10) hx hb dX8_unload_6 (by decide) (fun c_2 => ?_) (fun c_2 => absurd (by rw [g_lt rfl t_3]; omega) c_2)
  refine lv_aload_n hx hb dX8_unload_10 rfl (lv_at hl 1 rfl) ?_
  refine va_getN (D := D) (ci := 5) (v := .ref (ya 4)) (C := RX5) (T := TX5) (N := 11) hx hb htb iX5 hown hK.1 hP 3 rfl rfl 4 (by decide) (va_Nw.use rfl (hK.2.1 (Cond.fieldLinkNest RX8 368 "SeaWatches$Ship" "ends" "[I" "SeaWatches") (by decide +kernel))) (fun _ h9 => h9) rfl dX8_unload_11 ?_
  refine lv_iload_n hx hb dX8_unload_14 rfl (lv_at hl 2 rfl) ?_
  refine lv_iload_n hx hb dX8_unload_15 rfl (lv_at hl 3 rfl) ?_
  refine va_iast hx hb hK.1 hP hD hS 5 0 rfl rfl (g_in rfl (by omega) (by omega)) dX8_unload_16 (fun H locs hP hD hS => ?_)
  have hP : va_P D vwCl [(xh, .inr (8, G8 xa xtrialRule xdropRule xtoday)), ((xa 1), .inl (E 0, 16, .inl xf1)), ((xa 3), .inl (E 3, 16, .inr (.inr (.inr (.inr xf3))))), (yh, .inr (5, G5 ya ysights ystage ysailed yvoyage)), ((ya 0), .inl (E 0, 3, .inl yf0)), ((ya 4), .inl (E 0, 3, .inl (upd yf4 (p1 : Int32).toNatClampNeg p2))), (wh, .inr (7, G7 wa)), ((wa 0), .inl (E 0, 400, .inl wf0)), ((wa 1), .inl (E 0, 400, .inl wf1)), ((wa 3), .inl (E 0, 400, .inl wf3))] H := hP
  have hD := toW hP hD rfl
  refine lv_aload_n hx hb dX8_unload_17 rfl (lv_at hl 0 rfl) ?_
  refine lv_aload_n hx hb dX8_unload_18 rfl (lv_at hl 1 rfl) ?_
  refine va_getN (D := D) (ci := 5) (v := .ref (ya 0)) (C := RX5) (T := TX5) (N := 11) hx hb htb iX5 hown hK.1 hP 3 rfl rfl 0 (by decide) (va_Nw.use rfl (hK.2.1 (Cond.fieldLinkNest RX8 220 "SeaWatches$Ship" "places" "[I" "SeaWatches") (by decide +kernel))) (fun _ h9 => h9) rfl dX8_unload_19 ?_
  refine lv_iload_n hx hb dX8_unload_22 rfl (lv_at hl 2 rfl) ?_
  refine va_iald hx hb hK.1 hP 4 0 rfl rfl (g_in rfl (by omega) (by omega)) dX8_unload_23 ?_
  refine lv_topi (fun z_3 ez_3 => ?_)
  have kz_3 := congrArg Int32.toInt ez_3
  have hz_3 : (0 ≤ z_3.toInt ∧ z_3.toInt ≤ 15 ∧ ((xf1 (z_3).toNatClampNeg).toInt = 0 ∨ (xf1 (z_3).toNatClampNeg).toInt = 1)) := by rw [ez_3]; exact hk0
  have wz_3 : xf3 (z_3).toNatClampNeg = some wh := by rw [ez_3]; exact hw0
  refine rr_call (runRV (rest := []) (As := [.int z_3]) hx hb hml hown htb (g_X8_watchAt_W l D E xh xa xtrialRule xdropRule xtoday xf1 xf3 wh wa z_3 (by (try dsimp only); omega) hz_3 wz_3) ok_X8_watchAt k_369 k_371 ks_1 k_1 k_372 ⟨(Nat.le_of_ble_eq_true rfl), (Nat.le_of_ble_eq_true rfl)⟩ ⟨(Nat.le_of_ble_eq_true rfl), (Nat.le_of_ble_eq_true rfl)⟩ hl.1 (Nat.le_of_ble_eq_true rfl) rfl rfl dX8_unload_24 (prV (hP.sub (ws' := [(xh, .inr (8, G8 xa xtrialRule xdropRule xtoday)), ((xa 1), .inl (E 0, 16, .inl xf1)), ((xa 3), .inl (E 3, 16, .inr (.inr (.inr (.inr xf3))))), (wh, .inr (7, G7 wa))]) [0, 1, 2, 6] rfl) hK rfl rfl 0 rfl)) ?_
  refine lv_astore (lv' := [(4, .ref wh), (0, .ref xh), (1, .ref yh), (2, .int p1), (3, .int p2)]) hx hb dX8_unload_27 hl (by decide) rfl (fun ls hl => ?_)
  refine lv_aload hx hb dX8_unload_29 (lv_at hl 0 rfl) ?_
  refine lv_ifnull hx hb dX8_unload_31 ?_
  refine lv_aload hx hb dX8_unload_34 (lv_at hl 0 rfl) ?_
  refine lv_aload_n hx hb dX8_unload_36 rfl (lv_at hl 1 rfl) ?_
  refine va_get (D := D) (ci := 8) (v := .int xtoday) (C := RX8) (T := TX8) (N := 14) hx hb htb iX8 hown hK.1 hP 0 rfl rfl 13 (by decide) (htb _ k_285) (fun _ h9 => h9) rfl dX8_unload_37 ?_
  refine lv_iload_n hx hb dX8_unload_40 rfl (lv_at hl 4 rfl) ?_
  refine lv_iconst (v := 0) hx hb dX8_unload_41 (by decide) ?_
  have hPc := hP.sub (ws' := [(wh, .inr (7, G7 wa)), ((wa 0), .inl (E 0, 400, .inl wf0)), ((wa 1), .inl (E 0, 400, .inl wf1))]) [6, 7, 8] rfl
  have hDc := hD.sub (ws' := [(wh, .inr (7, G7 wa)), ((wa 0), .inl (E 0, 400, .inl wf0)), ((wa 1), .inl (E 0, 400, .inl wf1))]) [6, 7, 8] (by decide) rfl
  refine aft_v (runMV (rest := []) (As := [.int xtoday, .int p2, .int 0]) hx hb hml hown htb hK (g_X7_tell l D E wh wa wf0 wf1 xtoday p2 0 _ ) ok_X7_tell k_404 k_405 k_406 k_10 k_407 ⟨(Nat.le_of_ble_eq_true rfl), (Nat.le_of_ble_eq_true rfl)⟩ ⟨(Nat.le_of_ble_eq_true rfl), (Nat.le_of_ble_eq_true rfl)⟩ hl.1 (Nat.le_of_ble_eq_true rfl) rfl rfl dX8_unload_42 hPc hDc rfl rfl 0 rfl) hP hD hS hA [6, 7, 8] [0, 1, 2, 3, 4, 5, 9] (wr := [(xh, .inr (8, G8 xa xtrialRule xdropRule xtoday)), ((xa 1), .inl (E 0, 16, .inl xf1)), ((xa 3), .inl (E 3, 16, .inr (.inr (.inr (.inr xf3))))), (yh, .inr (5, G5 ya ysights ystage ysailed yvoyage)), ((ya 0), .inl (E 0, 3, .inl yf0)), ((ya 4), .inl (E 0, 3, .inl (upd yf4 (p1 : Int32).toNatClampNeg p2))), ((wa 3), .inl (E 0, 400, .inl wf3))]) rfl rfl (by decide) (by decide) (fun u_9 H locs hw_8 hP hD hS => ?_)
  clear hPc hDc
  obtain ⟨w_10, w_11⟩ := u_9
  try dsimp only at hw_8
  have hP : va_P D vwCl [(xh, .inr (8, G8 xa xtrialRule xdropRule xtoday)), ((xa 1), .inl (E 0, 16, .inl xf1)), ((xa 3), .inl (E 3, 16, .inr (.inr (.inr (.inr xf3))))), (yh, .inr (5, G5 ya ysights ystage ysailed yvoyage)), ((ya 0), .inl (E 0, 3, .inl yf0)), ((ya 4), .inl (E 0, 3, .inl (upd yf4 (p1 : Int32).toNatClampNeg p2))), ((wa 3), .inl (E 0, 400, .inl wf3)), (wh, .inr (7, G7 wa)), ((wa 0), .inl (E 0, 400, .inl w_10)), ((wa 1), .inl (E 0, 400, .inl w_11))] H := hP
  have hD := toW hP hD rfl
  try simp only [t_0] at hw_8
  have hw_8A : w_10 = upd wf0 (xtoday).toNatClampNeg p2 := by rcases hw_8 with h9 | h9 <;> first | exact h9.2.1 | (exfalso; omega)
  have hw_8B : w_11 = upd wf1 (xtoday).toNatClampNeg (0 : Int32) := by rcases hw_8 with h9 | h9 <;> first | exact h9.2.2 | (exfalso; omega)
  refine lv_aload hx hb dX8_unload_45 (lv_at hl 0 rfl) ?_
  refine lv_iconst (v := (-1)) hx hb dX8_unload_47 (by decide) ?_
  refine lv_aload_n hx hb dX8_unload_48 rfl (lv_at hl 1 rfl) ?_
  refine va_get (D := D) (ci := 8) (v := .int xtoday) (C := RX8) (T := TX8) (N := 14) hx hb htb iX8 hown hK.1 hP 0 rfl rfl 13 (by decide) (htb _ k_285) (fun _ h9 => h9) rfl dX8_unload_49 ?_
  have hPc := hP.sub (ws' := [(wh, .inr (7, G7 wa)), ((wa 3), .inl (E 0, 400, .inl wf3))]) [7, 6] rfl
  have hDc := hD.sub (ws' := [(wh, .inr (7, G7 wa)), ((wa 3), .inl (E 0, 400, .inl wf3))]) [7, 6] (by decide) rfl
  refine aft_v (runMV (rest := []) (As := [.int (-1), .int xtoday]) hx hb hml hown htb hK (g_X7_giveTo l D E wh wa wf3 (-1) xtoday _ (by have h0 := t_m1; (try dsimp only); omega)) ok_X7_giveTo k_803 k_804 k_805 k_10 k_806 ⟨(Nat.le_of_ble_eq_true rfl), (Nat.le_of_ble_eq_true rfl)⟩ ⟨(Nat.le_of_ble_eq_true rfl), (Nat.le_of_ble_eq_true rfl)⟩ hl.1 (Nat.le_of_ble_eq_true rfl) rfl rfl dX8_unload_52 hPc hDc rfl rfl 0 rfl) hP hD hS hA [7, 6] [0, 1, 2, 3, 4, 5, 8, 9] (wr := [(xh, .inr (8, G8 xa xtrialRule xdropRule xtoday)), ((xa 1), .inl (E 0, 16, .inl xf1)), ((xa 3), .inl (E 3, 16, .inr (.inr (.inr (.inr xf3))))), (yh, .inr (5, G5 ya ysights ystage ysailed yvoyage)), ((ya 0), .inl (E 0, 3, .inl yf0)), ((ya 4), .inl (E 0, 3, .inl (upd yf4 (p1 : Int32).toNatClampNeg p2))), ((wa 0), .inl (E 0, 400, .inl w_10)), ((wa 1), .inl (E 0, 400, .inl w_11))]) rfl rfl (by decide) (by decide) (fun u_14 H locs hw_13 hP hD hS => ?_)
  clear hPc hDc
  have hP : va_P D vwCl [(xh, .inr (8, G8 xa xtrialRule xdropRule xtoday)), ((xa 1), .inl (E 0, 16, .inl xf1)), ((xa 3), .inl (E 3, 16, .inr (.inr (.inr (.inr xf3))))), (yh, .inr (5, G5 ya ysights ystage ysailed yvoyage)), ((ya 0), .inl (E 0, 3, .inl yf0)), ((ya 4), .inl (E 0, 3, .inl (upd yf4 (p1 : Int32).toNatClampNeg p2))), ((wa 0), .inl (E 0, 400, .inl w_10)), ((wa 1), .inl (E 0, 400, .inl w_11)), (wh, .inr (7, G7 wa)), ((wa 3), .inl (E 0, 400, .inl u_14))] H := hP
  have hD := toW hP hD rfl
  try simp only [t_m1] at hw_13
  have hP9 := hP.sub (ws' := [(xh, .inr (8, G8 xa xtrialRule xdropRule xtoday)), ((xa 1), .inl (E 0, 16, .inl xf1)), ((xa 3), .inl (E 3, 16, .inr (.inr (.inr (.inr xf3))))), (yh, .inr (5, G5 ya ysights ystage ysailed yvoyage)), ((ya 0), .inl (E 0, 3, .inl yf0)), ((ya 4), .inl (E 0, 3, .inl (upd yf4 (p1 : Int32).toNatClampNeg p2))), (wh, .inr (7, G7 wa)), ((wa 0), .inl (E 0, 400, .inl w_10)), ((wa 1), .inl (E 0, 400, .inl w_11)), ((wa 3), .inl (E 0, 400, .inl u_14))]) [0, 1, 2, 3, 4, 5, 8, 6, 7, 9] rfl
  have hD9 := hD.sub (ws' := [(xh, .inr (8, G8 xa xtrialRule xdropRule xtoday)), ((xa 1), .inl (E 0, 16, .inl xf1)), ((xa 3), .inl (E 3, 16, .inr (.inr (.inr (.inr xf3))))), (yh, .inr (5, G5 ya ysights ystage ysailed yvoyage)), ((ya 0), .inl (E 0, 3, .inl yf0)), ((ya 4), .inl (E 0, 3, .inl (upd yf4 (p1 : Int32).toNatClampNeg p2))), (wh, .inr (7, G7 wa)), ((wa 0), .inl (E 0, 400, .inl w_10)), ((wa 1), .inl (E 0, 400, .inl w_11)), ((wa 3), .inl (E 0, 400, .inl u_14))]) [0, 1, 2, 3, 4, 5, 8, 6, 7, 9] (by decide) rfl
  exact W.vret hx hb hr (fun t ht hW => ⟨⟨(w_10, w_11, u_14, (upd yf4 (p1 : Int32).toNatClampNeg p2)), rfl, (by exact ⟨by assumption, by assumption, by assumption⟩), by rw [ht]; exact hP9, hD9⟩, hS.F ht⟩) hS.2.2 dX8_unload_55
end
