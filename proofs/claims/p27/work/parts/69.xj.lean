set_option maxHeartbeats 4000000 in
set_option maxRecDepth 100000 in
theorem c_X2_init (l : Launch) (D : va_G) (E : Nat → Nat) (h0 : Nat) (sz : Nat)  : Met l yX2_init (wl yX2_init cX2_init 1 none) (RM 1 5 300) (mu_P D E [.ref h0] [(h0, .inr (2, [.null, .null, .null, .null, .null, .int 0]))] sz) (va_Qv (fun (u : Nat → Nat) => True) (mu_B D (va_A [(h0, .inr (2, [.null, .null, .null, .null, .null, .int 0]))] sz) (fun (u : Nat → Nat) => [(h0, .inr (2, G2 u 0)), ((u 0), .inl (E 0, 60, .inl (fun _ => 0))), ((u 1), .inl (E 0, 60, .inl (fun _ => 0))), ((u 2), .inl (E 0, 60, .inl (fun _ => 0))), ((u 3), .inl (E 0, 60, .inl (fun _ => 0))), ((u 4), .inl (E 0, 60, .inl (fun _ => 0)))])) (va_A [(h0, .inr (2, [.null, .null, .null, .null, .null, .int 0]))] sz)) 5 300 (va_A [(h0, .inr (2, [.null, .null, .null, .null, .null, .int 0]))] sz) := by
  refine Met.ofW (cc := cX2_init) (maxL := 1) (ret := none) (by decide) rfl ?_
  intro p e s m args below meth c s₁ B hml hv
  obtain ⟨rfl, hsz, hP, hK, hD0⟩ := hv
  have hx := B.exec
  have hb := B.bytes
  have hr := B.returns
  have hts := atoms_spec (ws := wl yX2_init cX2_init 1 none) B.pre
  have htb : ∀ w ∈ tb, w.before _ s = true := fun w h => hts w (List.mem_cons_of_mem _ h)
  have hown : s.vm.findClass RX2 = some m.cls := findClass_of_methodNamed B.named
  have hlocks := B.notSynchronized
  have hin : meth.name = "<init>" := (name_of_methodNamed B.named B.method).1
  subst hsz
  have hD := hD0.self (sz := s.heap.size)
  generalize hAe : va_A [(h0, .inr (2, [.null, .null, .null, .null, .null, .int 0]))] s.heap.size = A at hD ⊢
  have hA : ∀ q : Nat, s.heap.size ≤ q → A q := fun q h => by rw [← hAe]; exact Or.inr h
  have hS : va_S A s.heap s.heap [] := va_S.rf
  have hP : va_P D vwCl [(h0, .inr (2, [.null, .null, .null, .null, .null, .int 0]))] s.heap := hP
  have hl := lv_entry ([.ref h0]) (n := 1) (Nat.le_of_ble_eq_true rfl)
  rw [lg_entry_eq]
  generalize (lg_sl ([.ref h0]) ++ List.replicate (1 - (lg_sl ([.ref h0])).length) Slot.unset).toArray = ls at hl ⊢
  have hl : lv_has ls 1 [(0, .ref h0)] := hl
  refine lv_aload_n hx hb dX2_init_0 rfl (lv_at hl 0 rfl) ?_
  refine W.objInit hx hb hown (htb _ k_33) (htb _ k_22) (htb _ k_23) rfl (by rw [hml]; exact hl.1) rfl dX2_init_1 (Nat.le_of_ble_eq_true rfl) (Nat.le_of_ble_eq_true rfl) ?_
  refine W.eq (g2 := F0 m 4 ls []) rfl ?_
  refine lv_aload_n hx hb dX2_init_4 rfl (lv_at hl 0 rfl) ?_
  refine lv_bipush (v := 60) hx hb dX2_init_5 (by decide) ?_
  refine va_newa (atype := .int) (a0 := (60, .inl (fun _ => 0))) hx hb (htb _ k_54) rfl hK.1 hP hD hS hA (fun cA => nw_i cA) (by decide) (by decide) (by decide) (Nat.le_of_ble_eq_true rfl) (Nat.le_of_ble_eq_true rfl) dX2_init_7 (fun q_1 cA H hK2 hP hD hS => ?_)
  obtain rfl : E 0 = cA := (ka_i (fun C h => by cases h) hK2 0 rfl).symm
  clear hK2
  have hP : va_P D vwCl [(h0, .inr (2, [.null, .null, .null, .null, .null, .int 0])), (q_1, .inl (E 0, 60, .inl (fun _ => 0)))] H := hP
  have hD := toW hP hD rfl
  refine W.widen (k := 1) (n := 60) (Nat.le_of_ble_eq_true rfl) (Nat.le_of_ble_eq_true rfl) ?_
  refine va_putF (D := D) (ci := 2) (v := .ref q_1) (ty := .array .int) (C := RX2) (T := TX2) (N := 6) hx hb htb iX2 tyX2 tyX2_ok nmX2 hown hK.1 hP hD hS 0 rfl rfl 0 (by decide) (htb _ k_34) (fun _ h9 => h9) rfl hin rfl (by decide +kernel) rfl rfl (Nat.le_of_ble_eq_true rfl) dX2_init_9 (fun H locs hP hD hS => ?_)
  have hP : va_P D vwCl [(h0, .inr (2, [.ref q_1, .null, .null, .null, .null, .int 0])), (q_1, .inl (E 0, 60, .inl (fun _ => 0)))] H := hP
  have hD := toW hP hD rfl
  refine lv_aload_n hx hb dX2_init_12 rfl (lv_at hl 0 rfl) ?_
  refine lv_bipush (v := 60) hx hb dX2_init_13 (by decide) ?_
  refine va_newa (atype := .int) (a0 := (60, .inl (fun _ => 0))) hx hb (htb _ k_54) rfl hK.1 hP hD hS hA (fun cA => nw_i cA) (by decide) (by decide) (by decide) (Nat.le_of_ble_eq_true rfl) (Nat.le_of_ble_eq_true rfl) dX2_init_15 (fun q_2 cA H hK2 hP hD hS => ?_)
  obtain rfl : E 0 = cA := (ka_i (fun C h => by cases h) hK2 0 rfl).symm
  clear hK2
  have hP : va_P D vwCl [(h0, .inr (2, [.ref q_1, .null, .null, .null, .null, .int 0])), (q_1, .inl (E 0, 60, .inl (fun _ => 0))), (q_2, .inl (E 0, 60, .inl (fun _ => 0)))] H := hP
  have hD := toW hP hD rfl
  refine W.widen (k := 2) (n := 120) (Nat.le_of_ble_eq_true rfl) (Nat.le_of_ble_eq_true rfl) ?_
  refine va_putF (D := D) (ci := 2) (v := .ref q_2) (ty := .array .int) (C := RX2) (T := TX2) (N := 6) hx hb htb iX2 tyX2 tyX2_ok nmX2 hown hK.1 hP hD hS 0 rfl rfl 1 (by decide) (htb _ k_35) (fun _ h9 => h9) rfl hin rfl (by decide +kernel) rfl rfl (Nat.le_of_ble_eq_true rfl) dX2_init_17 (fun H locs hP hD hS => ?_)
  have hP : va_P D vwCl [(h0, .inr (2, [.ref q_1, .ref q_2, .null, .null, .null, .int 0])), (q_1, .inl (E 0, 60, .inl (fun _ => 0))), (q_2, .inl (E 0, 60, .inl (fun _ => 0)))] H := hP
  have hD := toW hP hD rfl
  refine lv_aload_n hx hb dX2_init_20 rfl (lv_at hl 0 rfl) ?_
  refine lv_bipush (v := 60) hx hb dX2_init_21 (by decide) ?_
  refine va_newa (atype := .int) (a0 := (60, .inl (fun _ => 0))) hx hb (htb _ k_54) rfl hK.1 hP hD hS hA (fun cA => nw_i cA) (by decide) (by decide) (by decide) (Nat.le_of_ble_eq_true rfl) (Nat.le_of_ble_eq_true rfl) dX2_init_23 (fun q_3 cA H hK2 hP hD hS => ?_)
  obtain rfl : E 0 = cA := (ka_i (fun C h => by cases h) hK2 0 rfl).symm
  clear hK2
  have hP : va_P D vwCl [(h0, .inr (2, [.ref q_1, .ref q_2, .null, .null, .null, .int 0])), (q_1, .inl (E 0, 60, .inl (fun _ => 0))), (q_2, .inl (E 0, 60, .inl (fun _ => 0))), (q_3, .inl (E 0, 60, .inl (fun _ => 0)))] H := hP
  have hD := toW hP hD rfl
  refine W.widen (k := 3) (n := 180) (Nat.le_of_ble_eq_true rfl) (Nat.le_of_ble_eq_true rfl) ?_
  refine va_putF (D := D) (ci := 2) (v := .ref q_3) (ty := .array .int) (C := RX2) (T := TX2) (N := 6) hx hb htb iX2 tyX2 tyX2_ok nmX2 hown hK.1 hP hD hS 0 rfl rfl 2 (by decide) (htb _ k_36) (fun _ h9 => h9) rfl hin rfl (by decide +kernel) rfl rfl (Nat.le_of_ble_eq_true rfl) dX2_init_25 (fun H locs hP hD hS => ?_)
  have hP : va_P D vwCl [(h0, .inr (2, [.ref q_1, .ref q_2, .ref q_3, .null, .null, .int 0])), (q_1, .inl (E 0, 60, .inl (fun _ => 0))), (q_2, .inl (E 0, 60, .inl (fun _ => 0))), (q_3, .inl (E 0, 60, .inl (fun _ => 0)))] H := hP
  have hD := toW hP hD rfl
  refine lv_aload_n hx hb dX2_init_28 rfl (lv_at hl 0 rfl) ?_
  refine lv_bipush (v := 60) hx hb dX2_init_29 (by decide) ?_
  refine va_newa (atype := .int) (a0 := (60, .inl (fun _ => 0))) hx hb (htb _ k_54) rfl hK.1 hP hD hS hA (fun cA => nw_i cA) (by decide) (by decide) (by decide) (Nat.le_of_ble_eq_true rfl) (Nat.le_of_ble_eq_true rfl) dX2_init_31 (fun q_4 cA H hK2 hP hD hS => ?_)
  obtain rfl : E 0 = cA := (ka_i (fun C h => by cases h) hK2 0 rfl).symm
  clear hK2
  have hP : va_P D vwCl [(h0, .inr (2, [.ref q_1, .ref q_2, .ref q_3, .null, .null, .int 0])), (q_1, .inl (E 0, 60, .inl (fun _ => 0))), (q_2, .inl (E 0, 60, .inl (fun _ => 0))), (q_3, .inl (E 0, 60, .inl (fun _ => 0))), (q_4, .inl (E 0, 60, .inl (fun _ => 0)))] H := hP
  have hD := toW hP hD rfl
  refine W.widen (k := 4) (n := 240) (Nat.le_of_ble_eq_true rfl) (Nat.le_of_ble_eq_true rfl) ?_
  refine va_putF (D := D) (ci := 2) (v := .ref q_4) (ty := .array .int) (C := RX2) (T := TX2) (N := 6) hx hb htb iX2 tyX2 tyX2_ok nmX2 hown hK.1 hP hD hS 0 rfl rfl 3 (by decide) (htb _ k_37) (fun _ h9 => h9) rfl hin rfl (by decide +kernel) rfl rfl (Nat.le_of_ble_eq_true rfl) dX2_init_33 (fun H locs hP hD hS => ?_)
  have hP : va_P D vwCl [(h0, .inr (2, [.ref q_1, .ref q_2, .ref q_3, .ref q_4, .null, .int 0])), (q_1, .inl (E 0, 60, .inl (fun _ => 0))), (q_2, .inl (E 0, 60, .inl (fun _ => 0))), (q_3, .inl (E 0, 60, .inl (fun _ => 0))), (q_4, .inl (E 0, 60, .inl (fun _ => 0)))] H := hP
  have hD := toW hP hD rfl
  refine lv_aload_n hx hb dX2_init_36 rfl (lv_at hl 0 rfl) ?_
  refine lv_bipush (v := 60) hx hb dX2_init_37 (by decide) ?_
  refine va_newa (atype := .int) (a0 := (60, .inl (fun _ => 0))) hx hb (htb _ k_54) rfl hK.1 hP hD hS hA (fun cA => nw_i cA) (by decide) (by decide) (by decide) (Nat.le_of_ble_eq_true rfl) (Nat.le_of_ble_eq_true rfl) dX2_init_39 (fun q_5 cA H hK2 hP hD hS => ?_)
  obtain rfl : E 0 = cA := (ka_i (fun C h => by cases h) hK2 0 rfl).symm
  clear hK2
  have hP : va_P D vwCl [(h0, .inr (2, [.ref q_1, .ref q_2, .ref q_3, .ref q_4, .null, .int 0])), (q_1, .inl (E 0, 60, .inl (fun _ => 0))), (q_2, .inl (E 0, 60, .inl (fun _ => 0))), (q_3, .inl (E 0, 60, .inl (fun _ => 0))), (q_4, .inl (E 0, 60, .inl (fun _ => 0))), (q_5, .inl (E 0, 60, .inl (fun _ => 0)))] H := hP
  have hD := toW hP hD rfl
  refine W.widen (k := 5) (n := 300) (Nat.le_of_ble_eq_true rfl) (Nat.le_of_ble_eq_true rfl) ?_
  refine va_putF (D := D) (ci := 2) (v := .ref q_5) (ty := .array .int) (C := RX2) (T := TX2) (N := 6) hx hb htb iX2 tyX2 tyX2_ok nmX2 hown hK.1 hP hD hS 0 rfl rfl 4 (by decide) (htb _ k_38) (fun _ h9 => h9) rfl hin rfl (by decide +kernel) rfl rfl (Nat.le_of_ble_eq_true rfl) dX2_init_41 (fun H locs hP hD hS => ?_)
  have hP : va_P D vwCl [(h0, .inr (2, [.ref q_1, .ref q_2, .ref q_3, .ref q_4, .ref q_5, .int 0])), (q_1, .inl (E 0, 60, .inl (fun _ => 0))), (q_2, .inl (E 0, 60, .inl (fun _ => 0))), (q_3, .inl (E 0, 60, .inl (fun _ => 0))), (q_4, .inl (E 0, 60, .inl (fun _ => 0))), (q_5, .inl (E 0, 60, .inl (fun _ => 0)))] H := hP
  have hD := toW hP hD rfl
  refine lv_aload_n hx hb dX2_init_44 rfl (lv_at hl 0 rfl) ?_
  refine lv_iconst (v := 0) hx hb dX2_init_45 (by decide) ?_
  refine va_put (D := D) (ci := 2) (v := .int 0) (ty := .int) (C := RX2) (T := TX2) (N := 6) hx hb htb iX2 tyX2 tyX2_ok nmX2 hown hK.1 hP hD hS 0 rfl rfl 5 (by decide) (htb _ k_39) (fun _ h9 => h9) rfl (by decide +kernel) rfl rfl (Nat.le_of_ble_eq_true rfl) dX2_init_46 (fun H locs hP hD hS => ?_)
  have hP : va_P D vwCl [(h0, .inr (2, [.ref q_1, .ref q_2, .ref q_3, .ref q_4, .ref q_5, .int 0])), (q_1, .inl (E 0, 60, .inl (fun _ => 0))), (q_2, .inl (E 0, 60, .inl (fun _ => 0))), (q_3, .inl (E 0, 60, .inl (fun _ => 0))), (q_4, .inl (E 0, 60, .inl (fun _ => 0))), (q_5, .inl (E 0, 60, .inl (fun _ => 0)))] H := hP
  have hD := toW hP hD rfl
  have hP9 := hP.sub (ws' := [(h0, .inr (2, [.ref q_1, .ref q_2, .ref q_3, .ref q_4, .ref q_5, .int 0])), (q_1, .inl (E 0, 60, .inl (fun _ => 0))), (q_2, .inl (E 0, 60, .inl (fun _ => 0))), (q_3, .inl (E 0, 60, .inl (fun _ => 0))), (q_4, .inl (E 0, 60, .inl (fun _ => 0))), (q_5, .inl (E 0, 60, .inl (fun _ => 0)))]) [0, 1, 2, 3, 4, 5] rfl
  have hD9 := hD.sub (ws' := [(h0, .inr (2, [.ref q_1, .ref q_2, .ref q_3, .ref q_4, .ref q_5, .int 0])), (q_1, .inl (E 0, 60, .inl (fun _ => 0))), (q_2, .inl (E 0, 60, .inl (fun _ => 0))), (q_3, .inl (E 0, 60, .inl (fun _ => 0))), (q_4, .inl (E 0, 60, .inl (fun _ => 0))), (q_5, .inl (E 0, 60, .inl (fun _ => 0)))]) [0, 1, 2, 3, 4, 5] (by decide) rfl
  exact W.vret hx hb hr (fun t ht hW => ⟨⟨(fun k => ([q_1, q_2, q_3, q_4, q_5, 0] : List Nat).getD k 0), rfl, trivial, by rw [ht]; exact hP9, hD9⟩, hS.F ht⟩) hS.2.2 dX2_init_49
set_option maxHeartbeats 4000000 in
set_option maxRecDepth 100000 in
theorem c_X3_init (l : Launch) (D : va_G) (E : Nat → Nat) (h0 : Nat) (sz : Nat)  : Met l yX3_init (wl yX3_init cX3_init 1 none) (RM 1 3 180) (mu_P D E [.ref h0] [(h0, .inr (3, [.null, .null, .null, .int 0]))] sz) (va_Qv (fun (u : Nat → Nat) => True) (mu_B D (va_A [(h0, .inr (3, [.null, .null, .null, .int 0]))] sz) (fun (u : Nat → Nat) => [(h0, .inr (3, G3 u 0)), ((u 0), .inl (E 0, 60, .inl (fun _ => 0))), ((u 1), .inl (E 0, 60, .inl (fun _ => 0))), ((u 2), .inl (E 0, 60, .inl (fun _ => 0)))])) (va_A [(h0, .inr (3, [.null, .null, .null, .int 0]))] sz)) 3 180 (va_A [(h0, .inr (3, [.null, .null, .null, .int 0]))] sz) := by
  refine Met.ofW (cc := cX3_init) (maxL := 1) (ret := none) (by decide) rfl ?_
  intro p e s m args below meth c s₁ B hml hv
  obtain ⟨rfl, hsz, hP, hK, hD0⟩ := hv
  have hx := B.exec
  have hb := B.bytes
  have hr := B.returns
  have hts := atoms_spec (ws := wl yX3_init cX3_init 1 none) B.pre
  have htb : ∀ w ∈ tb, w.before _ s = true := fun w h => hts w (List.mem_cons_of_mem _ h)
  have hown : s.vm.findClass RX3 = some m.cls := findClass_of_methodNamed B.named
  have hlocks := B.notSynchronized
  have hin : meth.name = "<init>" := (name_of_methodNamed B.named B.method).1
  subst hsz
  have hD := hD0.self (sz := s.heap.size)
  generalize hAe : va_A [(h0, .inr (3, [.null, .null, .null, .int 0]))] s.heap.size = A at hD ⊢
  have hA : ∀ q : Nat, s.heap.size ≤ q → A q := fun q h => by rw [← hAe]; exact Or.inr h
  have hS : va_S A s.heap s.heap [] := va_S.rf
  have hP : va_P D vwCl [(h0, .inr (3, [.null, .null, .null, .int 0]))] s.heap := hP
  have hl := lv_entry ([.ref h0]) (n := 1) (Nat.le_of_ble_eq_true rfl)
  rw [lg_entry_eq]
  generalize (lg_sl ([.ref h0]) ++ List.replicate (1 - (lg_sl ([.ref h0])).length) Slot.unset).toArray = ls at hl ⊢
  have hl : lv_has ls 1 [(0, .ref h0)] := hl
  refine lv_aload_n hx hb dX3_init_0 rfl (lv_at hl 0 rfl) ?_
  refine W.objInit hx hb hown (htb _ k_60) (htb _ k_22) (htb _ k_23) rfl (by rw [hml]; exact hl.1) rfl dX3_init_1 (Nat.le_of_ble_eq_true rfl) (Nat.le_of_ble_eq_true rfl) ?_
  refine W.eq (g2 := F0 m 4 ls []) rfl ?_
  refine lv_aload_n hx hb dX3_init_4 rfl (lv_at hl 0 rfl) ?_
  refine lv_bipush (v := 60) hx hb dX3_init_5 (by decide) ?_
  refine va_newa (atype := .int) (a0 := (60, .inl (fun _ => 0))) hx hb (htb _ k_54) rfl hK.1 hP hD hS hA (fun cA => nw_i cA) (by decide) (by decide) (by decide) (Nat.le_of_ble_eq_true rfl) (Nat.le_of_ble_eq_true rfl) dX3_init_7 (fun q_1 cA H hK2 hP hD hS => ?_)
  obtain rfl : E 0 = cA := (ka_i (fun C h => by cases h) hK2 0 rfl).symm
  clear hK2
  have hP : va_P D vwCl [(h0, .inr (3, [.null, .null, .null, .int 0])), (q_1, .inl (E 0, 60, .inl (fun _ => 0)))] H := hP
  have hD := toW hP hD rfl
  refine W.widen (k := 1) (n := 60) (Nat.le_of_ble_eq_true rfl) (Nat.le_of_ble_eq_true rfl) ?_
  refine va_putF (D := D) (ci := 3) (v := .ref q_1) (ty := .array .int) (C := RX3) (T := TX3) (N := 4) hx hb htb iX3 tyX3 tyX3_ok nmX3 hown hK.1 hP hD hS 0 rfl rfl 0 (by decide) (htb _ k_61) (fun _ h9 => h9) rfl hin rfl (by decide +kernel) rfl rfl (Nat.le_of_ble_eq_true rfl) dX3_init_9 (fun H locs hP hD hS => ?_)
  have hP : va_P D vwCl [(h0, .inr (3, [.ref q_1, .null, .null, .int 0])), (q_1, .inl (E 0, 60, .inl (fun _ => 0)))] H := hP
  have hD := toW hP hD rfl
  refine lv_aload_n hx hb dX3_init_12 rfl (lv_at hl 0 rfl) ?_
  refine lv_bipush (v := 60) hx hb dX3_init_13 (by decide) ?_
  refine va_newa (atype := .int) (a0 := (60, .inl (fun _ => 0))) hx hb (htb _ k_54) rfl hK.1 hP hD hS hA (fun cA => nw_i cA) (by decide) (by decide) (by decide) (Nat.le_of_ble_eq_true rfl) (Nat.le_of_ble_eq_true rfl) dX3_init_15 (fun q_2 cA H hK2 hP hD hS => ?_)
  obtain rfl : E 0 = cA := (ka_i (fun C h => by cases h) hK2 0 rfl).symm
  clear hK2
  have hP : va_P D vwCl [(h0, .inr (3, [.ref q_1, .null, .null, .int 0])), (q_1, .inl (E 0, 60, .inl (fun _ => 0))), (q_2, .inl (E 0, 60, .inl (fun _ => 0)))] H := hP
  have hD := toW hP hD rfl
  refine W.widen (k := 2) (n := 120) (Nat.le_of_ble_eq_true rfl) (Nat.le_of_ble_eq_true rfl) ?_
  refine va_putF (D := D) (ci := 3) (v := .ref q_2) (ty := .array .int) (C := RX3) (T := TX3) (N := 4) hx hb htb iX3 tyX3 tyX3_ok nmX3 hown hK.1 hP hD hS 0 rfl rfl 1 (by decide) (htb _ k_63) (fun _ h9 => h9) rfl hin rfl (by decide +kernel) rfl rfl (Nat.le_of_ble_eq_true rfl) dX3_init_17 (fun H locs hP hD hS => ?_)
  have hP : va_P D vwCl [(h0, .inr (3, [.ref q_1, .ref q_2, .null, .int 0])), (q_1, .inl (E 0, 60, .inl (fun _ => 0))), (q_2, .inl (E 0, 60, .inl (fun _ => 0)))] H := hP
  have hD := toW hP hD rfl
  refine lv_aload_n hx hb dX3_init_20 rfl (lv_at hl 0 rfl) ?_
  refine lv_bipush (v := 60) hx hb dX3_init_21 (by decide) ?_
  refine va_newa (atype := .int) (a0 := (60, .inl (fun _ => 0))) hx hb (htb _ k_54) rfl hK.1 hP hD hS hA (fun cA => nw_i cA) (by decide) (by decide) (by decide) (Nat.le_of_ble_eq_true rfl) (Nat.le_of_ble_eq_true rfl) dX3_init_23 (fun q_3 cA H hK2 hP hD hS => ?_)
  obtain rfl : E 0 = cA := (ka_i (fun C h => by cases h) hK2 0 rfl).symm
  clear hK2
  have hP : va_P D vwCl [(h0, .inr (3, [.ref q_1, .ref q_2, .null, .int 0])), (q_1, .inl (E 0, 60, .inl (fun _ => 0))), (q_2, .inl (E 0, 60, .inl (fun _ => 0))), (q_3, .inl (E 0, 60, .inl (fun _ => 0)))] H := hP
  have hD := toW hP hD rfl
  refine W.widen (k := 3) (n := 180) (Nat.le_of_ble_eq_true rfl) (Nat.le_of_ble_eq_true rfl) ?_
  refine va_putF (D := D) (ci := 3) (v := .ref q_3) (ty := .array .int) (C := RX3) (T := TX3) (N := 4) hx hb htb iX3 tyX3 tyX3_ok nmX3 hown hK.1 hP hD hS 0 rfl rfl 2 (by decide) (htb _ k_65) (fun _ h9 => h9) rfl hin rfl (by decide +kernel) rfl rfl (Nat.le_of_ble_eq_true rfl) dX3_init_25 (fun H locs hP hD hS => ?_)
  have hP : va_P D vwCl [(h0, .inr (3, [.ref q_1, .ref q_2, .ref q_3, .int 0])), (q_1, .inl (E 0, 60, .inl (fun _ => 0))), (q_2, .inl (E 0, 60, .inl (fun _ => 0))), (q_3, .inl (E 0, 60, .inl (fun _ => 0)))] H := hP
  have hD := toW hP hD rfl
  refine lv_aload_n hx hb dX3_init_28 rfl (lv_at hl 0 rfl) ?_
  refine lv_iconst (v := 0) hx hb dX3_init_29 (by decide) ?_
  refine va_put (D := D) (ci := 3) (v := .int 0) (ty := .int) (C := RX3) (T := TX3) (N := 4) hx hb htb iX3 tyX3 tyX3_ok nmX3 hown hK.1 hP hD hS 0 rfl rfl 3 (by decide) (htb _ k_66) (fun _ h9 => h9) rfl (by decide +kernel) rfl rfl (Nat.le_of_ble_eq_true rfl) dX3_init_30 (fun H locs hP hD hS => ?_)
  have hP : va_P D vwCl [(h0, .inr (3, [.ref q_1, .ref q_2, .ref q_3, .int 0])), (q_1, .inl (E 0, 60, .inl (fun _ => 0))), (q_2, .inl (E 0, 60, .inl (fun _ => 0))), (q_3, .inl (E 0, 60, .inl (fun _ => 0)))] H := hP
  have hD := toW hP hD rfl
  have hP9 := hP.sub (ws' := [(h0, .inr (3, [.ref q_1, .ref q_2, .ref q_3, .int 0])), (q_1, .inl (E 0, 60, .inl (fun _ => 0))), (q_2, .inl (E 0, 60, .inl (fun _ => 0))), (q_3, .inl (E 0, 60, .inl (fun _ => 0)))]) [0, 1, 2, 3] rfl
  have hD9 := hD.sub (ws' := [(h0, .inr (3, [.ref q_1, .ref q_2, .ref q_3, .int 0])), (q_1, .inl (E 0, 60, .inl (fun _ => 0))), (q_2, .inl (E 0, 60, .inl (fun _ => 0))), (q_3, .inl (E 0, 60, .inl (fun _ => 0)))]) [0, 1, 2, 3] (by decide) rfl
  exact W.vret hx hb hr (fun t ht hW => ⟨⟨(fun k => ([q_1, q_2, q_3, 0] : List Nat).getD k 0), rfl, trivial, by rw [ht]; exact hP9, hD9⟩, hS.F ht⟩) hS.2.2 dX3_init_33
set_option maxHeartbeats 4000000 in
set_option maxRecDepth 100000 in
theorem c_X4_init (l : Launch) (D : va_G) (E : Nat → Nat) (h0 : Nat) (sz : Nat)  : Met l yX4_init (wl yX4_init cX4_init 1 none) (RM 1 3 360) (mu_P D E [.ref h0] [(h0, .inr (4, [.null, .null, .null, .int 0]))] sz) (va_Qv (fun (u : Nat → Nat) => True) (mu_B D (va_A [(h0, .inr (4, [.null, .null, .null, .int 0]))] sz) (fun (u : Nat → Nat) => [(h0, .inr (4, G4 u 0)), ((u 0), .inl (E 0, 120, .inl (fun _ => 0))), ((u 1), .inl (E 0, 120, .inl (fun _ => 0))), ((u 2), .inl (E 0, 120, .inl (fun _ => 0)))])) (va_A [(h0, .inr (4, [.null, .null, .null, .int 0]))] sz)) 3 360 (va_A [(h0, .inr (4, [.null, .null, .null, .int 0]))] sz) := by
  refine Met.ofW (cc := cX4_init) (maxL := 1) (ret := none) (by decide) rfl ?_
  intro p e s m args below meth c s₁ B hml hv
  obtain ⟨rfl, hsz, hP, hK, hD0⟩ := hv
  have hx := B.exec
  have hb := B.bytes
  have hr := B.returns
  have hts := atoms_spec (ws := wl yX4_init cX4_init 1 none) B.pre
  have htb : ∀ w ∈ tb, w.before _ s = true := fun w h => hts w (List.mem_cons_of_mem _ h)
  have hown : s.vm.findClass RX4 = some m.cls := findClass_of_methodNamed B.named
  have hlocks := B.notSynchronized
  have hin : meth.name = "<init>" := (name_of_methodNamed B.named B.method).1
  subst hsz
  have hD := hD0.self (sz := s.heap.size)
  generalize hAe : va_A [(h0, .inr (4, [.null, .null, .null, .int 0]))] s.heap.size = A at hD ⊢
  have hA : ∀ q : Nat, s.heap.size ≤ q → A q := fun q h => by rw [← hAe]; exact Or.inr h
  have hS : va_S A s.heap s.heap [] := va_S.rf
  have hP : va_P D vwCl [(h0, .inr (4, [.null, .null, .null, .int 0]))] s.heap := hP
  have hl := lv_entry ([.ref h0]) (n := 1) (Nat.le_of_ble_eq_true rfl)
  rw [lg_entry_eq]
  generalize (lg_sl ([.ref h0]) ++ List.replicate (1 - (lg_sl ([.ref h0])).length) Slot.unset).toArray = ls at hl ⊢
  have hl : lv_has ls 1 [(0, .ref h0)] := hl
  refine lv_aload_n hx hb dX4_init_0 rfl (lv_at hl 0 rfl) ?_
  refine W.objInit hx hb hown (htb _ k_140) (htb _ k_22) (htb _ k_23) rfl (by rw [hml]; exact hl.1) rfl dX4_init_1 (Nat.le_of_ble_eq_true rfl) (Nat.le_of_ble_eq_true rfl) ?_
  refine W.eq (g2 := F0 m 4 ls []) rfl ?_
  refine lv_aload_n hx hb dX4_init_4 rfl (lv_at hl 0 rfl) ?_
  refine lv_bipush (v := 120) hx hb dX4_init_5 (by decide) ?_
  refine va_newa (atype := .int) (a0 := (120, .inl (fun _ => 0))) hx hb (htb _ k_54) rfl hK.1 hP hD hS hA (fun cA => nw_i cA) (by decide) (by decide) (by decide) (Nat.le_of_ble_eq_true rfl) (Nat.le_of_ble_eq_true rfl) dX4_init_7 (fun q_1 cA H hK2 hP hD hS => ?_)
  obtain rfl : E 0 = cA := (ka_i (fun C h => by cases h) hK2 0 rfl).symm
  clear hK2
  have hP : va_P D vwCl [(h0, .inr (4, [.null, .null, .null, .int 0])), (q_1, .inl (E 0, 120, .inl (fun _ => 0)))] H := hP
  have hD := toW hP hD rfl
  refine W.widen (k := 1) (n := 120) (Nat.le_of_ble_eq_true rfl) (Nat.le_of_ble_eq_true rfl) ?_
  refine va_putF (D := D) (ci := 4) (v := .ref q_1) (ty := .array .int) (C := RX4) (T := TX4) (N := 4) hx hb htb iX4 tyX4 tyX4_ok nmX4 hown hK.1 hP hD hS 0 rfl rfl 0 (by decide) (htb _ k_141) (fun _ h9 => h9) rfl hin rfl (by decide +kernel) rfl rfl (Nat.le_of_ble_eq_true rfl) dX4_init_9 (fun H locs hP hD hS => ?_)
  have hP : va_P D vwCl [(h0, .inr (4, [.ref q_1, .null, .null, .int 0])), (q_1, .inl (E 0, 120, .inl (fun _ => 0)))] H := hP
  have hD := toW hP hD rfl
  refine lv_aload_n hx hb dX4_init_12 rfl (lv_at hl 0 rfl) ?_
  refine lv_bipush (v := 120) hx hb dX4_init_13 (by decide) ?_
  refine va_newa (atype := .int) (a0 := (120, .inl (fun _ => 0))) hx hb (htb _ k_54) rfl hK.1 hP hD hS hA (fun cA => nw_i cA) (by decide) (by decide) (by decide) (Nat.le_of_ble_eq_true rfl) (Nat.le_of_ble_eq_true rfl) dX4_init_15 (fun q_2 cA H hK2 hP hD hS => ?_)
  obtain rfl : E 0 = cA := (ka_i (fun C h => by cases h) hK2 0 rfl).symm
  clear hK2
  have hP : va_P D vwCl [(h0, .inr (4, [.ref q_1, .null, .null, .int 0])), (q_1, .inl (E 0, 120, .inl (fun _ => 0))), (q_2, .inl (E 0, 120, .inl (fun _ => 0)))] H := hP
  have hD := toW hP hD rfl
  refine W.widen (k := 2) (n := 240) (Nat.le_of_ble_eq_true rfl) (Nat.le_of_ble_eq_true rfl) ?_
  refine va_putF (D := D) (ci := 4) (v := .ref q_2) (ty := .array .int) (C := RX4) (T := TX4) (N := 4) hx hb htb iX4 tyX4 tyX4_ok nmX4 hown hK.1 hP hD hS 0 rfl rfl 1 (by decide) (htb _ k_142) (fun _ h9 => h9) rfl hin rfl (by decide +kernel) rfl rfl (Nat.le_of_ble_eq_true rfl) dX4_init_17 (fun H locs hP hD hS => ?_)
  have hP : va_P D vwCl [(h0, .inr (4, [.ref q_1, .ref q_2, .null, .int 0])), (q_1, .inl (E 0, 120, .inl (fun _ => 0))), (q_2, .inl (E 0, 120, .inl (fun _ => 0)))] H := hP
  have hD := toW hP hD rfl
  refine lv_aload_n hx hb dX4_init_20 rfl (lv_at hl 0 rfl) ?_
  refine lv_bipush (v := 120) hx hb dX4_init_21 (by decide) ?_
  refine va_newa (atype := .int) (a0 := (120, .inl (fun _ => 0))) hx hb (htb _ k_54) rfl hK.1 hP hD hS hA (fun cA => nw_i cA) (by decide) (by decide) (by decide) (Nat.le_of_ble_eq_true rfl) (Nat.le_of_ble_eq_true rfl) dX4_init_23 (fun q_3 cA H hK2 hP hD hS => ?_)
  obtain rfl : E 0 = cA := (ka_i (fun C h => by cases h) hK2 0 rfl).symm
  clear hK2
  have hP : va_P D vwCl [(h0, .inr (4, [.ref q_1, .ref q_2, .null, .int 0])), (q_1, .inl (E 0, 120, .inl (fun _ => 0))), (q_2, .inl (E 0, 120, .inl (fun _ => 0))), (q_3, .inl (E 0, 120, .inl (fun _ => 0)))] H := hP
  have hD := toW hP hD rfl
  refine W.widen (k := 3) (n := 360) (Nat.le_of_ble_eq_true rfl) (Nat.le_of_ble_eq_true rfl) ?_
  refine va_putF (D := D) (ci := 4) (v := .ref q_3) (ty := .array .int) (C := RX4) (T := TX4) (N := 4) hx hb htb iX4 tyX4 tyX4_ok nmX4 hown hK.1 hP hD hS 0 rfl rfl 2 (by decide) (htb _ k_143) (fun _ h9 => h9) rfl hin rfl (by decide +kernel) rfl rfl (Nat.le_of_ble_eq_true rfl) dX4_init_25 (fun H locs hP hD hS => ?_)
  have hP : va_P D vwCl [(h0, .inr (4, [.ref q_1, .ref q_2, .ref q_3, .int 0])), (q_1, .inl (E 0, 120, .inl (fun _ => 0))), (q_2, .inl (E 0, 120, .inl (fun _ => 0))), (q_3, .inl (E 0, 120, .inl (fun _ => 0)))] H := hP
  have hD := toW hP hD rfl
  refine lv_aload_n hx hb dX4_init_28 rfl (lv_at hl 0 rfl) ?_
  refine lv_iconst (v := 0) hx hb dX4_init_29 (by decide) ?_
  refine va_put (D := D) (ci := 4) (v := .int 0) (ty := .int) (C := RX4) (T := TX4) (N := 4) hx hb htb iX4 tyX4 tyX4_ok nmX4 hown hK.1 hP hD hS 0 rfl rfl 3 (by decide) (htb _ k_144) (fun _ h9 => h9) rfl (by decide +kernel) rfl rfl (Nat.le_of_ble_eq_true rfl) dX4_init_30 (fun H locs hP hD hS => ?_)
  have hP : va_P D vwCl [(h0, .inr (4, [.ref q_1, .ref q_2, .ref q_3, .int 0])), (q_1, .inl (E 0, 120, .inl (fun _ => 0))), (q_2, .inl (E 0, 120, .inl (fun _ => 0))), (q_3, .inl (E 0, 120, .inl (fun _ => 0)))] H := hP
  have hD := toW hP hD rfl
  have hP9 := hP.sub (ws' := [(h0, .inr (4, [.ref q_1, .ref q_2, .ref q_3, .int 0])), (q_1, .inl (E 0, 120, .inl (fun _ => 0))), (q_2, .inl (E 0, 120, .inl (fun _ => 0))), (q_3, .inl (E 0, 120, .inl (fun _ => 0)))]) [0, 1, 2, 3] rfl
  have hD9 := hD.sub (ws' := [(h0, .inr (4, [.ref q_1, .ref q_2, .ref q_3, .int 0])), (q_1, .inl (E 0, 120, .inl (fun _ => 0))), (q_2, .inl (E 0, 120, .inl (fun _ => 0))), (q_3, .inl (E 0, 120, .inl (fun _ => 0)))]) [0, 1, 2, 3] (by decide) rfl
  exact W.vret hx hb hr (fun t ht hW => ⟨⟨(fun k => ([q_1, q_2, q_3, 0] : List Nat).getD k 0), rfl, trivial, by rw [ht]; exact hP9, hD9⟩, hS.F ht⟩) hS.2.2 dX4_init_33
set_option maxHeartbeats 4000000 in
set_option maxRecDepth 100000 in
theorem c_X5_init (l : Launch) (D : va_G) (E : Nat → Nat) (h0 : Nat) (sz : Nat)  : Met l yX5_init (wl yX5_init cX5_init 1 none) (RM 1 7 175) (mu_P D E [.ref h0] [(h0, .inr (5, [.null, .null, .null, .null, .null, .null, .null, .int 0, .int 0, .int 0, .int 0]))] sz) (va_Qv (fun (u : Nat → Nat) => True) (mu_B D (va_A [(h0, .inr (5, [.null, .null, .null, .null, .null, .null, .null, .int 0, .int 0, .int 0, .int 0]))] sz) (fun (u : Nat → Nat) => [(h0, .inr (5, G5 u 0 0 0 0)), ((u 0), .inl (E 0, 3, .inl (fun _ => 0))), ((u 1), .inl (E 0, 3, .inl (fun _ => 0))), ((u 2), .inl (E 0, 3, .inl (fun _ => 0))), ((u 3), .inl (E 0, 3, .inl (fun _ => 0))), ((u 4), .inl (E 0, 3, .inl (fun _ => 0))), ((u 5), .inl (E 0, 40, .inl (fun _ => 0))), ((u 6), .inl (E 0, 120, .inl (fun _ => 0)))])) (va_A [(h0, .inr (5, [.null, .null, .null, .null, .null, .null, .null, .int 0, .int 0, .int 0, .int 0]))] sz)) 7 175 (va_A [(h0, .inr (5, [.null, .null, .null, .null, .null, .null, .null, .int 0, .int 0, .int 0, .int 0]))] sz) := by
  refine Met.ofW (cc := cX5_init) (maxL := 1) (ret := none) (by decide) rfl ?_
  intro p e s m args below meth c s₁ B hml hv
  obtain ⟨rfl, hsz, hP, hK, hD0⟩ := hv
  have hx := B.exec
  have hb := B.bytes
  have hr := B.returns
  have hts := atoms_spec (ws := wl yX5_init cX5_init 1 none) B.pre
  have htb : ∀ w ∈ tb, w.before _ s = true := fun w h => hts w (List.mem_cons_of_mem _ h)
  have hown : s.vm.findClass RX5 = some m.cls := findClass_of_methodNamed B.named
  have hlocks := B.notSynchronized
  have hin : meth.name = "<init>" := (name_of_methodNamed B.named B.method).1
  subst hsz
  have hD := hD0.self (sz := s.heap.size)
  generalize hAe : va_A [(h0, .inr (5, [.null, .null, .null, .null, .null, .null, .null, .int 0, .int 0, .int 0, .int 0]))] s.heap.size = A at hD ⊢
  have hA : ∀ q : Nat, s.heap.size ≤ q → A q := fun q h => by rw [← hAe]; exact Or.inr h
  have hS : va_S A s.heap s.heap [] := va_S.rf
  have hP : va_P D vwCl [(h0, .inr (5, [.null, .null, .null, .null, .null, .null, .null, .int 0, .int 0, .int 0, .int 0]))] s.heap := hP
  have hl := lv_entry ([.ref h0]) (n := 1) (Nat.le_of_ble_eq_true rfl)
  rw [lg_entry_eq]
  generalize (lg_sl ([.ref h0]) ++ List.replicate (1 - (lg_sl ([.ref h0])).length) Slot.unset).toArray = ls at hl ⊢
  have hl : lv_has ls 1 [(0, .ref h0)] := hl
  refine lv_aload_n hx hb dX5_init_0 rfl (lv_at hl 0 rfl) ?_
  refine W.objInit hx hb hown (htb _ k_227) (htb _ k_22) (htb _ k_23) rfl (by rw [hml]; exact hl.1) rfl dX5_init_1 (Nat.le_of_ble_eq_true rfl) (Nat.le_of_ble_eq_true rfl) ?_
  refine W.eq (g2 := F0 m 4 ls []) rfl ?_
  refine lv_aload_n hx hb dX5_init_4 rfl (lv_at hl 0 rfl) ?_
  refine lv_iconst (v := 3) hx hb dX5_init_5 (by decide) ?_
  refine va_newa (atype := .int) (a0 := (3, .inl (fun _ => 0))) hx hb (htb _ k_54) rfl hK.1 hP hD hS hA (fun cA => nw_i cA) (by decide) (by decide) (by decide) (Nat.le_of_ble_eq_true rfl) (Nat.le_of_ble_eq_true rfl) dX5_init_6 (fun q_1 cA H hK2 hP hD hS => ?_)
  obtain rfl : E 0 = cA := (ka_i (fun C h => by cases h) hK2 0 rfl).symm
  clear hK2
  have hP : va_P D vwCl [(h0, .inr (5, [.null, .null, .null, .null, .null, .null, .null, .int 0, .int 0, .int 0, .int 0])), (q_1, .inl (E 0, 3, .inl (fun _ => 0)))] H := hP
  have hD := toW hP hD rfl
  refine W.widen (k := 1) (n := 3) (Nat.le_of_ble_eq_true rfl) (Nat.le_of_ble_eq_true rfl) ?_
  refine va_putF (D := D) (ci := 5) (v := .ref q_1) (ty := .array .int) (C := RX5) (T := TX5) (N := 11) hx hb htb iX5 tyX5 tyX5_ok nmX5 hown hK.1 hP hD hS 0 rfl rfl 0 (by decide) (htb _ k_228) (fun _ h9 => h9) rfl hin rfl (by decide +kernel) rfl rfl (Nat.le_of_ble_eq_true rfl) dX5_init_8 (fun H locs hP hD hS => ?_)
  have hP : va_P D vwCl [(h0, .inr (5, [.ref q_1, .null, .null, .null, .null, .null, .null, .int 0, .int 0, .int 0, .int 0])), (q_1, .inl (E 0, 3, .inl (fun _ => 0)))] H := hP
  have hD := toW hP hD rfl
  refine lv_aload_n hx hb dX5_init_11 rfl (lv_at hl 0 rfl) ?_
  refine lv_iconst (v := 3) hx hb dX5_init_12 (by decide) ?_
  refine va_newa (atype := .int) (a0 := (3, .inl (fun _ => 0))) hx hb (htb _ k_54) rfl hK.1 hP hD hS hA (fun cA => nw_i cA) (by decide) (by decide) (by decide) (Nat.le_of_ble_eq_true rfl) (Nat.le_of_ble_eq_true rfl) dX5_init_13 (fun q_2 cA H hK2 hP hD hS => ?_)
  obtain rfl : E 0 = cA := (ka_i (fun C h => by cases h) hK2 0 rfl).symm
  clear hK2
  have hP : va_P D vwCl [(h0, .inr (5, [.ref q_1, .null, .null, .null, .null, .null, .null, .int 0, .int 0, .int 0, .int 0])), (q_1, .inl (E 0, 3, .inl (fun _ => 0))), (q_2, .inl (E 0, 3, .inl (fun _ => 0)))] H := hP
  have hD := toW hP hD rfl
  refine W.widen (k := 2) (n := 6) (Nat.le_of_ble_eq_true rfl) (Nat.le_of_ble_eq_true rfl) ?_
  refine va_putF (D := D) (ci := 5) (v := .ref q_2) (ty := .array .int) (C := RX5) (T := TX5) (N := 11) hx hb htb iX5 tyX5 tyX5_ok nmX5 hown hK.1 hP hD hS 0 rfl rfl 1 (by decide) (htb _ k_230) (fun _ h9 => h9) rfl hin rfl (by decide +kernel) rfl rfl (Nat.le_of_ble_eq_true rfl) dX5_init_15 (fun H locs hP hD hS => ?_)
  have hP : va_P D vwCl [(h0, .inr (5, [.ref q_1, .ref q_2, .null, .null, .null, .null, .null, .int 0, .int 0, .int 0, .int 0])), (q_1, .inl (E 0, 3, .inl (fun _ => 0))), (q_2, .inl (E 0, 3, .inl (fun _ => 0)))] H := hP
  have hD := toW hP hD rfl
  refine lv_aload_n hx hb dX5_init_18 rfl (lv_at hl 0 rfl) ?_
  refine lv_iconst (v := 3) hx hb dX5_init_19 (by decide) ?_
  refine va_newa (atype := .int) (a0 := (3, .inl (fun _ => 0))) hx hb (htb _ k_54) rfl hK.1 hP hD hS hA (fun cA => nw_i cA) (by decide) (by decide) (by decide) (Nat.le_of_ble_eq_true rfl) (Nat.le_of_ble_eq_true rfl) dX5_init_20 (fun q_3 cA H hK2 hP hD hS => ?_)
  obtain rfl : E 0 = cA := (ka_i (fun C h => by cases h) hK2 0 rfl).symm
  clear hK2
  have hP : va_P D vwCl [(h0, .inr (5, [.ref q_1, .ref q_2, .null, .null, .null, .null, .null, .int 0, .int 0, .int 0, .int 0])), (q_1, .inl (E 0, 3, .inl (fun _ => 0))), (q_2, .inl (E 0, 3, .inl (fun _ => 0))), (q_3, .inl (E 0, 3, .inl (fun _ => 0)))] H := hP
  have hD := toW hP hD rfl
  refine W.widen (k := 3) (n := 9) (Nat.le_of_ble_eq_true rfl) (Nat.le_of_ble_eq_true rfl) ?_
  refine va_putF (D := D) (ci := 5) (v := .ref q_3) (ty := .array .int) (C := RX5) (T := TX5) (N := 11) hx hb htb iX5 tyX5 tyX5_ok nmX5 hown hK.1 hP hD hS 0 rfl rfl 2 (by decide) (htb _ k_232) (fun _ h9 => h9) rfl hin rfl (by decide +kernel) rfl rfl (Nat.le_of_ble_eq_true rfl) dX5_init_22 (fun H locs hP hD hS => ?_)
  have hP : va_P D vwCl [(h0, .inr (5, [.ref q_1, .ref q_2, .ref q_3, .null, .null, .null, .null, .int 0, .int 0, .int 0, .int 0])), (q_1, .inl (E 0, 3, .inl (fun _ => 0))), (q_2, .inl (E 0, 3, .inl (fun _ => 0))), (q_3, .inl (E 0, 3, .inl (fun _ => 0)))] H := hP
  have hD := toW hP hD rfl
  refine lv_aload_n hx hb dX5_init_25 rfl (lv_at hl 0 rfl) ?_
  refine lv_iconst (v := 3) hx hb dX5_init_26 (by decide) ?_
  refine va_newa (atype := .int) (a0 := (3, .inl (fun _ => 0))) hx hb (htb _ k_54) rfl hK.1 hP hD hS hA (fun cA => nw_i cA) (by decide) (by decide) (by decide) (Nat.le_of_ble_eq_true rfl) (Nat.le_of_ble_eq_true rfl) dX5_init_27 (fun q_4 cA H hK2 hP hD hS => ?_)
  obtain rfl : E 0 = cA := (ka_i (fun C h => by cases h) hK2 0 rfl).symm
  clear hK2
  have hP : va_P D vwCl [(h0, .inr (5, [.ref q_1, .ref q_2, .ref q_3, .null, .null, .null, .null, .int 0, .int 0, .int 0, .int 0])), (q_1, .inl (E 0, 3, .inl (fun _ => 0))), (q_2, .inl (E 0, 3, .inl (fun _ => 0))), (q_3, .inl (E 0, 3, .inl (fun _ => 0))), (q_4, .inl (E 0, 3, .inl (fun _ => 0)))] H := hP
  have hD := toW hP hD rfl
  refine W.widen (k := 4) (n := 12) (Nat.le_of_ble_eq_true rfl) (Nat.le_of_ble_eq_true rfl) ?_
  refine va_putF (D := D) (ci := 5) (v := .ref q_4) (ty := .array .int) (C := RX5) (T := TX5) (N := 11) hx hb htb iX5 tyX5 tyX5_ok nmX5 hown hK.1 hP hD hS 0 rfl rfl 3 (by decide) (htb _ k_234) (fun _ h9 => h9) rfl hin rfl (by decide +kernel) rfl rfl (Nat.le_of_ble_eq_true rfl) dX5_init_29 (fun H locs hP hD hS => ?_)
  have hP : va_P D vwCl [(h0, .inr (5, [.ref q_1, .ref q_2, .ref q_3, .ref q_4, .null, .null, .null, .int 0, .int 0, .int 0, .int 0])), (q_1, .inl (E 0, 3, .inl (fun _ => 0))), (q_2, .inl (E 0, 3, .inl (fun _ => 0))), (q_3, .inl (E 0, 3, .inl (fun _ => 0))), (q_4, .inl (E 0, 3, .inl (fun _ => 0)))] H := hP
  have hD := toW hP hD rfl
  refine lv_aload_n hx hb dX5_init_32 rfl (lv_at hl 0 rfl) ?_
  refine lv_iconst (v := 3) hx hb dX5_init_33 (by decide) ?_
  refine va_newa (atype := .int) (a0 := (3, .inl (fun _ => 0))) hx hb (htb _ k_54) rfl hK.1 hP hD hS hA (fun cA => nw_i cA) (by decide) (by decide) (by decide) (Nat.le_of_ble_eq_true rfl) (Nat.le_of_ble_eq_true rfl) dX5_init_34 (fun q_5 cA H hK2 hP hD hS => ?_)
  obtain rfl : E 0 = cA := (ka_i (fun C h => by cases h) hK2 0 rfl).symm
  clear hK2
  have hP : va_P D vwCl [(h0, .inr (5, [.ref q_1, .ref q_2, .ref q_3, .ref q_4, .null, .null, .null, .int 0, .int 0, .int 0, .int 0])), (q_1, .inl (E 0, 3, .inl (fun _ => 0))), (q_2, .inl (E 0, 3, .inl (fun _ => 0))), (q_3, .inl (E 0, 3, .inl (fun _ => 0))), (q_4, .inl (E 0, 3, .inl (fun _ => 0))), (q_5, .inl (E 0, 3, .inl (fun _ => 0)))] H := hP
  have hD := toW hP hD rfl
  refine W.widen (k := 5) (n := 15) (Nat.le_of_ble_eq_true rfl) (Nat.le_of_ble_eq_true rfl) ?_
  refine va_putF (D := D) (ci := 5) (v := .ref q_5) (ty := .array .int) (C := RX5) (T := TX5) (N := 11) hx hb htb iX5 tyX5 tyX5_ok nmX5 hown hK.1 hP hD hS 0 rfl rfl 4 (by decide) (htb _ k_236) (fun _ h9 => h9) rfl hin rfl (by decide +kernel) rfl rfl (Nat.le_of_ble_eq_true rfl) dX5_init_36 (fun H locs hP hD hS => ?_)
  have hP : va_P D vwCl [(h0, .inr (5, [.ref q_1, .ref q_2, .ref q_3, .ref q_4, .ref q_5, .null, .null, .int 0, .int 0, .int 0, .int 0])), (q_1, .inl (E 0, 3, .inl (fun _ => 0))), (q_2, .inl (E 0, 3, .inl (fun _ => 0))), (q_3, .inl (E 0, 3, .inl (fun _ => 0))), (q_4, .inl (E 0, 3, .inl (fun _ => 0))), (q_5, .inl (E 0, 3, .inl (fun _ => 0)))] H := hP
  have hD := toW hP hD rfl
  refine lv_aload_n hx hb dX5_init_39 rfl (lv_at hl 0 rfl) ?_
  refine lv_bipush (v := 40) hx hb dX5_init_40 (by decide) ?_
  refine va_newa (atype := .int) (a0 := (40, .inl (fun _ => 0))) hx hb (htb _ k_54) rfl hK.1 hP hD hS hA (fun cA => nw_i cA) (by decide) (by decide) (by decide) (Nat.le_of_ble_eq_true rfl) (Nat.le_of_ble_eq_true rfl) dX5_init_42 (fun q_6 cA H hK2 hP hD hS => ?_)
  obtain rfl : E 0 = cA := (ka_i (fun C h => by cases h) hK2 0 rfl).symm
  clear hK2
  have hP : va_P D vwCl [(h0, .inr (5, [.ref q_1, .ref q_2, .ref q_3, .ref q_4, .ref q_5, .null, .null, .int 0, .int 0, .int 0, .int 0])), (q_1, .inl (E 0, 3, .inl (fun _ => 0))), (q_2, .inl (E 0, 3, .inl (fun _ => 0))), (q_3, .inl (E 0, 3, .inl (fun _ => 0))), (q_4, .inl (E 0, 3, .inl (fun _ => 0))), (q_5, .inl (E 0, 3, .inl (fun _ => 0))), (q_6, .inl (E 0, 40, .inl (fun _ => 0)))] H := hP
  have hD := toW hP hD rfl
  refine W.widen (k := 6) (n := 55) (Nat.le_of_ble_eq_true rfl) (Nat.le_of_ble_eq_true rfl) ?_
  refine va_putF (D := D) (ci := 5) (v := .ref q_6) (ty := .array .int) (C := RX5) (T := TX5) (N := 11) hx hb htb iX5 tyX5 tyX5_ok nmX5 hown hK.1 hP hD hS 0 rfl rfl 5 (by decide) (htb _ k_238) (fun _ h9 => h9) rfl hin rfl (by decide +kernel) rfl rfl (Nat.le_of_ble_eq_true rfl) dX5_init_44 (fun H locs hP hD hS => ?_)
  have hP : va_P D vwCl [(h0, .inr (5, [.ref q_1, .ref q_2, .ref q_3, .ref q_4, .ref q_5, .ref q_6, .null, .int 0, .int 0, .int 0, .int 0])), (q_1, .inl (E 0, 3, .inl (fun _ => 0))), (q_2, .inl (E 0, 3, .inl (fun _ => 0))), (q_3, .inl (E 0, 3, .inl (fun _ => 0))), (q_4, .inl (E 0, 3, .inl (fun _ => 0))), (q_5, .inl (E 0, 3, .inl (fun _ => 0))), (q_6, .inl (E 0, 40, .inl (fun _ => 0)))] H := hP
  have hD := toW hP hD rfl
  refine lv_aload_n hx hb dX5_init_47 rfl (lv_at hl 0 rfl) ?_
  refine lv_bipush (v := 120) hx hb dX5_init_48 (by decide) ?_
  refine va_newa (atype := .int) (a0 := (120, .inl (fun _ => 0))) hx hb (htb _ k_54) rfl hK.1 hP hD hS hA (fun cA => nw_i cA) (by decide) (by decide) (by decide) (Nat.le_of_ble_eq_true rfl) (Nat.le_of_ble_eq_true rfl) dX5_init_50 (fun q_7 cA H hK2 hP hD hS => ?_)
  obtain rfl : E 0 = cA := (ka_i (fun C h => by cases h) hK2 0 rfl).symm
  clear hK2
  have hP : va_P D vwCl [(h0, .inr (5, [.ref q_1, .ref q_2, .ref q_3, .ref q_4, .ref q_5, .ref q_6, .null, .int 0, .int 0, .int 0, .int 0])), (q_1, .inl (E 0, 3, .inl (fun _ => 0))), (q_2, .inl (E 0, 3, .inl (fun _ => 0))), (q_3, .inl (E 0, 3, .inl (fun _ => 0))), (q_4, .inl (E 0, 3, .inl (fun _ => 0))), (q_5, .inl (E 0, 3, .inl (fun _ => 0))), (q_6, .inl (E 0, 40, .inl (fun _ => 0))), (q_7, .inl (E 0, 120, .inl (fun _ => 0)))] H := hP
  have hD := toW hP hD rfl
  refine W.widen (k := 7) (n := 175) (Nat.le_of_ble_eq_true rfl) (Nat.le_of_ble_eq_true rfl) ?_
  refine va_putF (D := D) (ci := 5) (v := .ref q_7) (ty := .array .int) (C := RX5) (T := TX5) (N := 11) hx hb htb iX5 tyX5 tyX5_ok nmX5 hown hK.1 hP hD hS 0 rfl rfl 6 (by decide) (htb _ k_240) (fun _ h9 => h9) rfl hin rfl (by decide +kernel) rfl rfl (Nat.le_of_ble_eq_true rfl) dX5_init_52 (fun H locs hP hD hS => ?_)
  have hP : va_P D vwCl [(h0, .inr (5, [.ref q_1, .ref q_2, .ref q_3, .ref q_4, .ref q_5, .ref q_6, .ref q_7, .int 0, .int 0, .int 0, .int 0])), (q_1, .inl (E 0, 3, .inl (fun _ => 0))), (q_2, .inl (E 0, 3, .inl (fun _ => 0))), (q_3, .inl (E 0, 3, .inl (fun _ => 0))), (q_4, .inl (E 0, 3, .inl (fun _ => 0))), (q_5, .inl (E 0, 3, .inl (fun _ => 0))), (q_6, .inl (E 0, 40, .inl (fun _ => 0))), (q_7, .inl (E 0, 120, .inl (fun _ => 0)))] H := hP
  have hD := toW hP hD rfl
  refine lv_aload_n hx hb dX5_init_55 rfl (lv_at hl 0 rfl) ?_
  refine lv_iconst (v := 0) hx hb dX5_init_56 (by decide) ?_
  refine va_put (D := D) (ci := 5) (v := .int 0) (ty := .int) (C := RX5) (T := TX5) (N := 11) hx hb htb iX5 tyX5 tyX5_ok nmX5 hown hK.1 hP hD hS 0 rfl rfl 7 (by decide) (htb _ k_241) (fun _ h9 => h9) rfl (by decide +kernel) rfl rfl (Nat.le_of_ble_eq_true rfl) dX5_init_57 (fun H locs hP hD hS => ?_)
  have hP : va_P D vwCl [(h0, .inr (5, [.ref q_1, .ref q_2, .ref q_3, .ref q_4, .ref q_5, .ref q_6, .ref q_7, .int 0, .int 0, .int 0, .int 0])), (q_1, .inl (E 0, 3, .inl (fun _ => 0))), (q_2, .inl (E 0, 3, .inl (fun _ => 0))), (q_3, .inl (E 0, 3, .inl (fun _ => 0))), (q_4, .inl (E 0, 3, .inl (fun _ => 0))), (q_5, .inl (E 0, 3, .inl (fun _ => 0))), (q_6, .inl (E 0, 40, .inl (fun _ => 0))), (q_7, .inl (E 0, 120, .inl (fun _ => 0)))] H := hP
  have hD := toW hP hD rfl
  refine lv_aload_n hx hb dX5_init_60 rfl (lv_at hl 0 rfl) ?_
  refine lv_iconst (v := 0) hx hb dX5_init_61 (by decide) ?_
  refine va_put (D := D) (ci := 5) (v := .int 0) (ty := .int) (C := RX5) (T := TX5) (N := 11) hx hb htb iX5 tyX5 tyX5_ok nmX5 hown hK.1 hP hD hS 0 rfl rfl 8 (by decide) (htb _ k_243) (fun _ h9 => h9) rfl (by decide +kernel) rfl rfl (Nat.le_of_ble_eq_true rfl) dX5_init_62 (fun H locs hP hD hS => ?_)
  have hP : va_P D vwCl [(h0, .inr (5, [.ref q_1, .ref q_2, .ref q_3, .ref q_4, .ref q_5, .ref q_6, .ref q_7, .int 0, .int 0, .int 0, .int 0])), (q_1, .inl (E 0, 3, .inl (fun _ => 0))), (q_2, .inl (E 0, 3, .inl (fun _ => 0))), (q_3, .inl (E 0, 3, .inl (fun _ => 0))), (q_4, .inl (E 0, 3, .inl (fun _ => 0))), (q_5, .inl (E 0, 3, .inl (fun _ => 0))), (q_6, .inl (E 0, 40, .inl (fun _ => 0))), (q_7, .inl (E 0, 120, .inl (fun _ => 0)))] H := hP
  have hD := toW hP hD rfl
  refine lv_aload_n hx hb dX5_init_65 rfl (lv_at hl 0 rfl) ?_
  refine lv_iconst (v := 0) hx hb dX5_init_66 (by decide) ?_
  refine va_put (D := D) (ci := 5) (v := .int 0) (ty := .int) (C := RX5) (T := TX5) (N := 11) hx hb htb iX5 tyX5 tyX5_ok nmX5 hown hK.1 hP hD hS 0 rfl rfl 9 (by decide) (htb _ k_245) (fun _ h9 => h9) rfl (by decide +kernel) rfl rfl (Nat.le_of_ble_eq_true rfl) dX5_init_67 (fun H locs hP hD hS => ?_)
  have hP : va_P D vwCl [(h0, .inr (5, [.ref q_1, .ref q_2, .ref q_3, .ref q_4, .ref q_5, .ref q_6, .ref q_7, .int 0, .int 0, .int 0, .int 0])), (q_1, .inl (E 0, 3, .inl (fun _ => 0))), (q_2, .inl (E 0, 3, .inl (fun _ => 0))), (q_3, .inl (E 0, 3, .inl (fun _ => 0))), (q_4, .inl (E 0, 3, .inl (fun _ => 0))), (q_5, .inl (E 0, 3, .inl (fun _ => 0))), (q_6, .inl (E 0, 40, .inl (fun _ => 0))), (q_7, .inl (E 0, 120, .inl (fun _ => 0)))] H := hP
  have hD := toW hP hD rfl
  refine lv_aload_n hx hb dX5_init_70 rfl (lv_at hl 0 rfl) ?_
  refine lv_iconst (v := 0) hx hb dX5_init_71 (by decide) ?_
  refine va_put (D := D) (ci := 5) (v := .int 0) (ty := .int) (C := RX5) (T := TX5) (N := 11) hx hb htb iX5 tyX5 tyX5_ok nmX5 hown hK.1 hP hD hS 0 rfl rfl 10 (by decide) (htb _ k_247) (fun _ h9 => h9) rfl (by decide +kernel) rfl rfl (Nat.le_of_ble_eq_true rfl) dX5_init_72 (fun H locs hP hD hS => ?_)
  have hP : va_P D vwCl [(h0, .inr (5, [.ref q_1, .ref q_2, .ref q_3, .ref q_4, .ref q_5, .ref q_6, .ref q_7, .int 0, .int 0, .int 0, .int 0])), (q_1, .inl (E 0, 3, .inl (fun _ => 0))), (q_2, .inl (E 0, 3, .inl (fun _ => 0))), (q_3, .inl (E 0, 3, .inl (fun _ => 0))), (q_4, .inl (E 0, 3, .inl (fun _ => 0))), (q_5, .inl (E 0, 3, .inl (fun _ => 0))), (q_6, .inl (E 0, 40, .inl (fun _ => 0))), (q_7, .inl (E 0, 120, .inl (fun _ => 0)))] H := hP
  have hD := toW hP hD rfl
  have hP9 := hP.sub (ws' := [(h0, .inr (5, [.ref q_1, .ref q_2, .ref q_3, .ref q_4, .ref q_5, .ref q_6, .ref q_7, .int 0, .int 0, .int 0, .int 0])), (q_1, .inl (E 0, 3, .inl (fun _ => 0))), (q_2, .inl (E 0, 3, .inl (fun _ => 0))), (q_3, .inl (E 0, 3, .inl (fun _ => 0))), (q_4, .inl (E 0, 3, .inl (fun _ => 0))), (q_5, .inl (E 0, 3, .inl (fun _ => 0))), (q_6, .inl (E 0, 40, .inl (fun _ => 0))), (q_7, .inl (E 0, 120, .inl (fun _ => 0)))]) [0, 1, 2, 3, 4, 5, 6, 7] rfl
  have hD9 := hD.sub (ws' := [(h0, .inr (5, [.ref q_1, .ref q_2, .ref q_3, .ref q_4, .ref q_5, .ref q_6, .ref q_7, .int 0, .int 0, .int 0, .int 0])), (q_1, .inl (E 0, 3, .inl (fun _ => 0))), (q_2, .inl (E 0, 3, .inl (fun _ => 0))), (q_3, .inl (E 0, 3, .inl (fun _ => 0))), (q_4, .inl (E 0, 3, .inl (fun _ => 0))), (q_5, .inl (E 0, 3, .inl (fun _ => 0))), (q_6, .inl (E 0, 40, .inl (fun _ => 0))), (q_7, .inl (E 0, 120, .inl (fun _ => 0)))]) [0, 1, 2, 3, 4, 5, 6, 7] (by decide) rfl
  exact W.vret hx hb hr (fun t ht hW => ⟨⟨(fun k => ([q_1, q_2, q_3, q_4, q_5, q_6, q_7, 0, 0, 0, 0] : List Nat).getD k 0), rfl, trivial, by rw [ht]; exact hP9, hD9⟩, hS.F ht⟩) hS.2.2 dX5_init_75
set_option maxHeartbeats 4000000 in
set_option maxRecDepth 100000 in
theorem c_X7_init (l : Launch) (D : va_G) (E : Nat → Nat) (h0 : Nat) (sz : Nat)  : Met l yX7_init (wl yX7_init cX7_init 1 none) (RM 1 4 1600) (mu_P D E [.ref h0] [(h0, .inr (7, [.null, .null, .null, .null]))] sz) (va_Qv (fun (u : Nat → Nat) => True) (mu_B D (va_A [(h0, .inr (7, [.null, .null, .null, .null]))] sz) (fun (u : Nat → Nat) => [(h0, .inr (7, G7 u)), ((u 0), .inl (E 0, 400, .inl (fun _ => 0))), ((u 1), .inl (E 0, 400, .inl (fun _ => 0))), ((u 2), .inl (E 0, 400, .inl (fun _ => 0))), ((u 3), .inl (E 0, 400, .inl (fun _ => 0)))])) (va_A [(h0, .inr (7, [.null, .null, .null, .null]))] sz)) 4 1600 (va_A [(h0, .inr (7, [.null, .null, .null, .null]))] sz) := by
  refine Met.ofW (cc := cX7_init) (maxL := 1) (ret := none) (by decide) rfl ?_
  intro p e s m args below meth c s₁ B hml hv
  obtain ⟨rfl, hsz, hP, hK, hD0⟩ := hv
  have hx := B.exec
  have hb := B.bytes
  have hr := B.returns
  have hts := atoms_spec (ws := wl yX7_init cX7_init 1 none) B.pre
  have htb : ∀ w ∈ tb, w.before _ s = true := fun w h => hts w (List.mem_cons_of_mem _ h)
  have hown : s.vm.findClass RX7 = some m.cls := findClass_of_methodNamed B.named
  have hlocks := B.notSynchronized
  have hin : meth.name = "<init>" := (name_of_methodNamed B.named B.method).1
  subst hsz
  have hD := hD0.self (sz := s.heap.size)
  generalize hAe : va_A [(h0, .inr (7, [.null, .null, .null, .null]))] s.heap.size = A at hD ⊢
  have hA : ∀ q : Nat, s.heap.size ≤ q → A q := fun q h => by rw [← hAe]; exact Or.inr h
  have hS : va_S A s.heap s.heap [] := va_S.rf
  have hP : va_P D vwCl [(h0, .inr (7, [.null, .null, .null, .null]))] s.heap := hP
  have hl := lv_entry ([.ref h0]) (n := 1) (Nat.le_of_ble_eq_true rfl)
  rw [lg_entry_eq]
  generalize (lg_sl ([.ref h0]) ++ List.replicate (1 - (lg_sl ([.ref h0])).length) Slot.unset).toArray = ls at hl ⊢
  have hl : lv_has ls 1 [(0, .ref h0)] := hl
  refine lv_aload_n hx hb dX7_init_0 rfl (lv_at hl 0 rfl) ?_
  refine W.objInit hx hb hown (htb _ k_347) (htb _ k_22) (htb _ k_23) rfl (by rw [hml]; exact hl.1) rfl dX7_init_1 (Nat.le_of_ble_eq_true rfl) (Nat.le_of_ble_eq_true rfl) ?_
  refine W.eq (g2 := F0 m 4 ls []) rfl ?_
  refine lv_aload_n hx hb dX7_init_4 rfl (lv_at hl 0 rfl) ?_
  refine lv_sipush (v := 400) hx hb dX7_init_5 (by decide) ?_
  refine va_newa (atype := .int) (a0 := (400, .inl (fun _ => 0))) hx hb (htb _ k_54) rfl hK.1 hP hD hS hA (fun cA => nw_i cA) (by decide) (by decide) (by decide) (Nat.le_of_ble_eq_true rfl) (Nat.le_of_ble_eq_true rfl) dX7_init_8 (fun q_1 cA H hK2 hP hD hS => ?_)
  obtain rfl : E 0 = cA := (ka_i (fun C h => by cases h) hK2 0 rfl).symm
  clear hK2
  have hP : va_P D vwCl [(h0, .inr (7, [.null, .null, .null, .null])), (q_1, .inl (E 0, 400, .inl (fun _ => 0)))] H := hP
  have hD := toW hP hD rfl
  refine W.widen (k := 1) (n := 400) (Nat.le_of_ble_eq_true rfl) (Nat.le_of_ble_eq_true rfl) ?_
  refine va_putF (D := D) (ci := 7) (v := .ref q_1) (ty := .array .int) (C := RX7) (T := TX7) (N := 4) hx hb htb iX7 tyX7 tyX7_ok nmX7 hown hK.1 hP hD hS 0 rfl rfl 0 (by decide) (htb _ k_348) (fun _ h9 => h9) rfl hin rfl (by decide +kernel) rfl rfl (Nat.le_of_ble_eq_true rfl) dX7_init_10 (fun H locs hP hD hS => ?_)
  have hP : va_P D vwCl [(h0, .inr (7, [.ref q_1, .null, .null, .null])), (q_1, .inl (E 0, 400, .inl (fun _ => 0)))] H := hP
  have hD := toW hP hD rfl
  refine lv_aload_n hx hb dX7_init_13 rfl (lv_at hl 0 rfl) ?_
  refine lv_sipush (v := 400) hx hb dX7_init_14 (by decide) ?_
  refine va_newa (atype := .int) (a0 := (400, .inl (fun _ => 0))) hx hb (htb _ k_54) rfl hK.1 hP hD hS hA (fun cA => nw_i cA) (by decide) (by decide) (by decide) (Nat.le_of_ble_eq_true rfl) (Nat.le_of_ble_eq_true rfl) dX7_init_17 (fun q_2 cA H hK2 hP hD hS => ?_)
  obtain rfl : E 0 = cA := (ka_i (fun C h => by cases h) hK2 0 rfl).symm
  clear hK2
  have hP : va_P D vwCl [(h0, .inr (7, [.ref q_1, .null, .null, .null])), (q_1, .inl (E 0, 400, .inl (fun _ => 0))), (q_2, .inl (E 0, 400, .inl (fun _ => 0)))] H := hP
  have hD := toW hP hD rfl
  refine W.widen (k := 2) (n := 800) (Nat.le_of_ble_eq_true rfl) (Nat.le_of_ble_eq_true rfl) ?_
  refine va_putF (D := D) (ci := 7) (v := .ref q_2) (ty := .array .int) (C := RX7) (T := TX7) (N := 4) hx hb htb iX7 tyX7 tyX7_ok nmX7 hown hK.1 hP hD hS 0 rfl rfl 1 (by decide) (htb _ k_349) (fun _ h9 => h9) rfl hin rfl (by decide +kernel) rfl rfl (Nat.le_of_ble_eq_true rfl) dX7_init_19 (fun H locs hP hD hS => ?_)
  have hP : va_P D vwCl [(h0, .inr (7, [.ref q_1, .ref q_2, .null, .null])), (q_1, .inl (E 0, 400, .inl (fun _ => 0))), (q_2, .inl (E 0, 400, .inl (fun _ => 0)))] H := hP
  have hD := toW hP hD rfl
  refine lv_aload_n hx hb dX7_init_22 rfl (lv_at hl 0 rfl) ?_
  refine lv_sipush (v := 400) hx hb dX7_init_23 (by decide) ?_
  refine va_newa (atype := .int) (a0 := (400, .inl (fun _ => 0))) hx hb (htb _ k_54) rfl hK.1 hP hD hS hA (fun cA => nw_i cA) (by decide) (by decide) (by decide) (Nat.le_of_ble_eq_true rfl) (Nat.le_of_ble_eq_true rfl) dX7_init_26 (fun q_3 cA H hK2 hP hD hS => ?_)
  obtain rfl : E 0 = cA := (ka_i (fun C h => by cases h) hK2 0 rfl).symm
  clear hK2
  have hP : va_P D vwCl [(h0, .inr (7, [.ref q_1, .ref q_2, .null, .null])), (q_1, .inl (E 0, 400, .inl (fun _ => 0))), (q_2, .inl (E 0, 400, .inl (fun _ => 0))), (q_3, .inl (E 0, 400, .inl (fun _ => 0)))] H := hP
  have hD := toW hP hD rfl
  refine W.widen (k := 3) (n := 1200) (Nat.le_of_ble_eq_true rfl) (Nat.le_of_ble_eq_true rfl) ?_
  refine va_putF (D := D) (ci := 7) (v := .ref q_3) (ty := .array .int) (C := RX7) (T := TX7) (N := 4) hx hb htb iX7 tyX7 tyX7_ok nmX7 hown hK.1 hP hD hS 0 rfl rfl 2 (by decide) (htb _ k_350) (fun _ h9 => h9) rfl hin rfl (by decide +kernel) rfl rfl (Nat.le_of_ble_eq_true rfl) dX7_init_28 (fun H locs hP hD hS => ?_)
  have hP : va_P D vwCl [(h0, .inr (7, [.ref q_1, .ref q_2, .ref q_3, .null])), (q_1, .inl (E 0, 400, .inl (fun _ => 0))), (q_2, .inl (E 0, 400, .inl (fun _ => 0))), (q_3, .inl (E 0, 400, .inl (fun _ => 0)))] H := hP
  have hD := toW hP hD rfl
  refine lv_aload_n hx hb dX7_init_31 rfl (lv_at hl 0 rfl) ?_
  refine lv_sipush (v := 400) hx hb dX7_init_32 (by decide) ?_
  refine va_newa (atype := .int) (a0 := (400, .inl (fun _ => 0))) hx hb (htb _ k_54) rfl hK.1 hP hD hS hA (fun cA => nw_i cA) (by decide) (by decide) (by decide) (Nat.le_of_ble_eq_true rfl) (Nat.le_of_ble_eq_true rfl) dX7_init_35 (fun q_4 cA H hK2 hP hD hS => ?_)
  obtain rfl : E 0 = cA := (ka_i (fun C h => by cases h) hK2 0 rfl).symm
  clear hK2
  have hP : va_P D vwCl [(h0, .inr (7, [.ref q_1, .ref q_2, .ref q_3, .null])), (q_1, .inl (E 0, 400, .inl (fun _ => 0))), (q_2, .inl (E 0, 400, .inl (fun _ => 0))), (q_3, .inl (E 0, 400, .inl (fun _ => 0))), (q_4, .inl (E 0, 400, .inl (fun _ => 0)))] H := hP
  have hD := toW hP hD rfl
  refine W.widen (k := 4) (n := 1600) (Nat.le_of_ble_eq_true rfl) (Nat.le_of_ble_eq_true rfl) ?_
  refine va_putF (D := D) (ci := 7) (v := .ref q_4) (ty := .array .int) (C := RX7) (T := TX7) (N := 4) hx hb htb iX7 tyX7 tyX7_ok nmX7 hown hK.1 hP hD hS 0 rfl rfl 3 (by decide) (htb _ k_351) (fun _ h9 => h9) rfl hin rfl (by decide +kernel) rfl rfl (Nat.le_of_ble_eq_true rfl) dX7_init_37 (fun H locs hP hD hS => ?_)
  have hP : va_P D vwCl [(h0, .inr (7, [.ref q_1, .ref q_2, .ref q_3, .ref q_4])), (q_1, .inl (E 0, 400, .inl (fun _ => 0))), (q_2, .inl (E 0, 400, .inl (fun _ => 0))), (q_3, .inl (E 0, 400, .inl (fun _ => 0))), (q_4, .inl (E 0, 400, .inl (fun _ => 0)))] H := hP
  have hD := toW hP hD rfl
  have hP9 := hP.sub (ws' := [(h0, .inr (7, [.ref q_1, .ref q_2, .ref q_3, .ref q_4])), (q_1, .inl (E 0, 400, .inl (fun _ => 0))), (q_2, .inl (E 0, 400, .inl (fun _ => 0))), (q_3, .inl (E 0, 400, .inl (fun _ => 0))), (q_4, .inl (E 0, 400, .inl (fun _ => 0)))]) [0, 1, 2, 3, 4] rfl
  have hD9 := hD.sub (ws' := [(h0, .inr (7, [.ref q_1, .ref q_2, .ref q_3, .ref q_4])), (q_1, .inl (E 0, 400, .inl (fun _ => 0))), (q_2, .inl (E 0, 400, .inl (fun _ => 0))), (q_3, .inl (E 0, 400, .inl (fun _ => 0))), (q_4, .inl (E 0, 400, .inl (fun _ => 0)))]) [0, 1, 2, 3, 4] (by decide) rfl
  exact W.vret hx hb hr (fun t ht hW => ⟨⟨(fun k => ([q_1, q_2, q_3, q_4] : List Nat).getD k 0), rfl, trivial, by rw [ht]; exact hP9, hD9⟩, hS.F ht⟩) hS.2.2 dX7_init_40
set_option maxHeartbeats 4000000 in
set_option maxRecDepth 100000 in
theorem c_X0_init (l : Launch) (D : va_G) (E : Nat → Nat) (h0 : Nat) (sz : Nat)  : Met l yX0_init (wl yX0_init cX0_init 1 none) (RM 1 5 33) (mu_P D E [.ref h0] [(h0, .inr (0, [.null, .null, .null, .null, .null, .int 0, .int 0, .int 0, .int 0]))] sz) (va_Qv (fun (u : Nat → Nat) => True) (mu_B D (va_A [(h0, .inr (0, [.null, .null, .null, .null, .null, .int 0, .int 0, .int 0, .int 0]))] sz) (fun (u : Nat → Nat) => [(h0, .inr (0, G0 u 0 0 0 0)), ((u 0), .inl (E 0, 9, .inl (fun _ => 0))), ((u 1), .inl (E 0, 9, .inl (fun _ => 0))), ((u 2), .inl (E 0, 9, .inl (fun _ => 0))), ((u 3), .inl (E 0, 3, .inl (fun _ => 0))), ((u 4), .inl (E 0, 3, .inl (fun _ => 0)))])) (va_A [(h0, .inr (0, [.null, .null, .null, .null, .null, .int 0, .int 0, .int 0, .int 0]))] sz)) 5 33 (va_A [(h0, .inr (0, [.null, .null, .null, .null, .null, .int 0, .int 0, .int 0, .int 0]))] sz) := by
  refine Met.ofW (cc := cX0_init) (maxL := 1) (ret := none) (by decide) rfl ?_
  intro p e s m args below meth c s₁ B hml hv
  obtain ⟨rfl, hsz, hP, hK, hD0⟩ := hv
  have hx := B.exec
  have hb := B.bytes
  have hr := B.returns
  have hts := atoms_spec (ws := wl yX0_init cX0_init 1 none) B.pre
  have htb : ∀ w ∈ tb, w.before _ s = true := fun w h => hts w (List.mem_cons_of_mem _ h)
  have hown : s.vm.findClass RX0 = some m.cls := findClass_of_methodNamed B.named
  have hlocks := B.notSynchronized
  have hin : meth.name = "<init>" := (name_of_methodNamed B.named B.method).1
  subst hsz
  have hD := hD0.self (sz := s.heap.size)
  generalize hAe : va_A [(h0, .inr (0, [.null, .null, .null, .null, .null, .int 0, .int 0, .int 0, .int 0]))] s.heap.size = A at hD ⊢
  have hA : ∀ q : Nat, s.heap.size ≤ q → A q := fun q h => by rw [← hAe]; exact Or.inr h
  have hS : va_S A s.heap s.heap [] := va_S.rf
  have hP : va_P D vwCl [(h0, .inr (0, [.null, .null, .null, .null, .null, .int 0, .int 0, .int 0, .int 0]))] s.heap := hP
  have hl := lv_entry ([.ref h0]) (n := 1) (Nat.le_of_ble_eq_true rfl)
  rw [lg_entry_eq]
  generalize (lg_sl ([.ref h0]) ++ List.replicate (1 - (lg_sl ([.ref h0])).length) Slot.unset).toArray = ls at hl ⊢
  have hl : lv_has ls 1 [(0, .ref h0)] := hl
  refine lv_aload_n hx hb dX0_init_0 rfl (lv_at hl 0 rfl) ?_
  refine W.objInit hx hb hown (htb _ k_189) (htb _ k_22) (htb _ k_23) rfl (by rw [hml]; exact hl.1) rfl dX0_init_1 (Nat.le_of_ble_eq_true rfl) (Nat.le_of_ble_eq_true rfl) ?_
  refine W.eq (g2 := F0 m 4 ls []) rfl ?_
  refine lv_aload_n hx hb dX0_init_4 rfl (lv_at hl 0 rfl) ?_
  refine lv_bipush (v := 9) hx hb dX0_init_5 (by decide) ?_
  refine va_newa (atype := .int) (a0 := (9, .inl (fun _ => 0))) hx hb (htb _ k_54) rfl hK.1 hP hD hS hA (fun cA => nw_i cA) (by decide) (by decide) (by decide) (Nat.le_of_ble_eq_true rfl) (Nat.le_of_ble_eq_true rfl) dX0_init_7 (fun q_1 cA H hK2 hP hD hS => ?_)
  obtain rfl : E 0 = cA := (ka_i (fun C h => by cases h) hK2 0 rfl).symm
  clear hK2
  have hP : va_P D vwCl [(h0, .inr (0, [.null, .null, .null, .null, .null, .int 0, .int 0, .int 0, .int 0])), (q_1, .inl (E 0, 9, .inl (fun _ => 0)))] H := hP
  have hD := toW hP hD rfl
  refine W.widen (k := 1) (n := 9) (Nat.le_of_ble_eq_true rfl) (Nat.le_of_ble_eq_true rfl) ?_
  refine va_putF (D := D) (ci := 0) (v := .ref q_1) (ty := .array .int) (C := RX0) (T := TX0) (N := 9) hx hb htb iX0 tyX0 tyX0_ok nmX0 hown hK.1 hP hD hS 0 rfl rfl 0 (by decide) (htb _ k_190) (fun _ h9 => h9) rfl hin rfl (by decide +kernel) rfl rfl (Nat.le_of_ble_eq_true rfl) dX0_init_9 (fun H locs hP hD hS => ?_)
  have hP : va_P D vwCl [(h0, .inr (0, [.ref q_1, .null, .null, .null, .null, .int 0, .int 0, .int 0, .int 0])), (q_1, .inl (E 0, 9, .inl (fun _ => 0)))] H := hP
  have hD := toW hP hD rfl
  refine lv_aload_n hx hb dX0_init_12 rfl (lv_at hl 0 rfl) ?_
  refine lv_bipush (v := 9) hx hb dX0_init_13 (by decide) ?_
  refine va_newa (atype := .int) (a0 := (9, .inl (fun _ => 0))) hx hb (htb _ k_54) rfl hK.1 hP hD hS hA (fun cA => nw_i cA) (by decide) (by decide) (by decide) (Nat.le_of_ble_eq_true rfl) (Nat.le_of_ble_eq_true rfl) dX0_init_15 (fun q_2 cA H hK2 hP hD hS => ?_)
  obtain rfl : E 0 = cA := (ka_i (fun C h => by cases h) hK2 0 rfl).symm
  clear hK2
  have hP : va_P D vwCl [(h0, .inr (0, [.ref q_1, .null, .null, .null, .null, .int 0, .int 0, .int 0, .int 0])), (q_1, .inl (E 0, 9, .inl (fun _ => 0))), (q_2, .inl (E 0, 9, .inl (fun _ => 0)))] H := hP
  have hD := toW hP hD rfl
  refine W.widen (k := 2) (n := 18) (Nat.le_of_ble_eq_true rfl) (Nat.le_of_ble_eq_true rfl) ?_
  refine va_putF (D := D) (ci := 0) (v := .ref q_2) (ty := .array .int) (C := RX0) (T := TX0) (N := 9) hx hb htb iX0 tyX0 tyX0_ok nmX0 hown hK.1 hP hD hS 0 rfl rfl 1 (by decide) (htb _ k_191) (fun _ h9 => h9) rfl hin rfl (by decide +kernel) rfl rfl (Nat.le_of_ble_eq_true rfl) dX0_init_17 (fun H locs hP hD hS => ?_)
  have hP : va_P D vwCl [(h0, .inr (0, [.ref q_1, .ref q_2, .null, .null, .null, .int 0, .int 0, .int 0, .int 0])), (q_1, .inl (E 0, 9, .inl (fun _ => 0))), (q_2, .inl (E 0, 9, .inl (fun _ => 0)))] H := hP
  have hD := toW hP hD rfl
  refine lv_aload_n hx hb dX0_init_20 rfl (lv_at hl 0 rfl) ?_
  refine lv_bipush (v := 9) hx hb dX0_init_21 (by decide) ?_
  refine va_newa (atype := .int) (a0 := (9, .inl (fun _ => 0))) hx hb (htb _ k_54) rfl hK.1 hP hD hS hA (fun cA => nw_i cA) (by decide) (by decide) (by decide) (Nat.le_of_ble_eq_true rfl) (Nat.le_of_ble_eq_true rfl) dX0_init_23 (fun q_3 cA H hK2 hP hD hS => ?_)
  obtain rfl : E 0 = cA := (ka_i (fun C h => by cases h) hK2 0 rfl).symm
  clear hK2
  have hP : va_P D vwCl [(h0, .inr (0, [.ref q_1, .ref q_2, .null, .null, .null, .int 0, .int 0, .int 0, .int 0])), (q_1, .inl (E 0, 9, .inl (fun _ => 0))), (q_2, .inl (E 0, 9, .inl (fun _ => 0))), (q_3, .inl (E 0, 9, .inl (fun _ => 0)))] H := hP
  have hD := toW hP hD rfl
  refine W.widen (k := 3) (n := 27) (Nat.le_of_ble_eq_true rfl) (Nat.le_of_ble_eq_true rfl) ?_
  refine va_putF (D := D) (ci := 0) (v := .ref q_3) (ty := .array .int) (C := RX0) (T := TX0) (N := 9) hx hb htb iX0 tyX0 tyX0_ok nmX0 hown hK.1 hP hD hS 0 rfl rfl 2 (by decide) (htb _ k_192) (fun _ h9 => h9) rfl hin rfl (by decide +kernel) rfl rfl (Nat.le_of_ble_eq_true rfl) dX0_init_25 (fun H locs hP hD hS => ?_)
  have hP : va_P D vwCl [(h0, .inr (0, [.ref q_1, .ref q_2, .ref q_3, .null, .null, .int 0, .int 0, .int 0, .int 0])), (q_1, .inl (E 0, 9, .inl (fun _ => 0))), (q_2, .inl (E 0, 9, .inl (fun _ => 0))), (q_3, .inl (E 0, 9, .inl (fun _ => 0)))] H := hP
  have hD := toW hP hD rfl
  refine lv_aload_n hx hb dX0_init_28 rfl (lv_at hl 0 rfl) ?_
  refine lv_iconst (v := 3) hx hb dX0_init_29 (by decide) ?_
  refine va_newa (atype := .int) (a0 := (3, .inl (fun _ => 0))) hx hb (htb _ k_54) rfl hK.1 hP hD hS hA (fun cA => nw_i cA) (by decide) (by decide) (by decide) (Nat.le_of_ble_eq_true rfl) (Nat.le_of_ble_eq_true rfl) dX0_init_30 (fun q_4 cA H hK2 hP hD hS => ?_)
  obtain rfl : E 0 = cA := (ka_i (fun C h => by cases h) hK2 0 rfl).symm
  clear hK2
  have hP : va_P D vwCl [(h0, .inr (0, [.ref q_1, .ref q_2, .ref q_3, .null, .null, .int 0, .int 0, .int 0, .int 0])), (q_1, .inl (E 0, 9, .inl (fun _ => 0))), (q_2, .inl (E 0, 9, .inl (fun _ => 0))), (q_3, .inl (E 0, 9, .inl (fun _ => 0))), (q_4, .inl (E 0, 3, .inl (fun _ => 0)))] H := hP
  have hD := toW hP hD rfl
  refine W.widen (k := 4) (n := 30) (Nat.le_of_ble_eq_true rfl) (Nat.le_of_ble_eq_true rfl) ?_
  refine va_putF (D := D) (ci := 0) (v := .ref q_4) (ty := .array .int) (C := RX0) (T := TX0) (N := 9) hx hb htb iX0 tyX0 tyX0_ok nmX0 hown hK.1 hP hD hS 0 rfl rfl 3 (by decide) (htb _ k_194) (fun _ h9 => h9) rfl hin rfl (by decide +kernel) rfl rfl (Nat.le_of_ble_eq_true rfl) dX0_init_32 (fun H locs hP hD hS => ?_)
  have hP : va_P D vwCl [(h0, .inr (0, [.ref q_1, .ref q_2, .ref q_3, .ref q_4, .null, .int 0, .int 0, .int 0, .int 0])), (q_1, .inl (E 0, 9, .inl (fun _ => 0))), (q_2, .inl (E 0, 9, .inl (fun _ => 0))), (q_3, .inl (E 0, 9, .inl (fun _ => 0))), (q_4, .inl (E 0, 3, .inl (fun _ => 0)))] H := hP
  have hD := toW hP hD rfl
  refine lv_aload_n hx hb dX0_init_35 rfl (lv_at hl 0 rfl) ?_
  refine lv_iconst (v := 3) hx hb dX0_init_36 (by decide) ?_
  refine va_newa (atype := .int) (a0 := (3, .inl (fun _ => 0))) hx hb (htb _ k_54) rfl hK.1 hP hD hS hA (fun cA => nw_i cA) (by decide) (by decide) (by decide) (Nat.le_of_ble_eq_true rfl) (Nat.le_of_ble_eq_true rfl) dX0_init_37 (fun q_5 cA H hK2 hP hD hS => ?_)
  obtain rfl : E 0 = cA := (ka_i (fun C h => by cases h) hK2 0 rfl).symm
  clear hK2
  have hP : va_P D vwCl [(h0, .inr (0, [.ref q_1, .ref q_2, .ref q_3, .ref q_4, .null, .int 0, .int 0, .int 0, .int 0])), (q_1, .inl (E 0, 9, .inl (fun _ => 0))), (q_2, .inl (E 0, 9, .inl (fun _ => 0))), (q_3, .inl (E 0, 9, .inl (fun _ => 0))), (q_4, .inl (E 0, 3, .inl (fun _ => 0))), (q_5, .inl (E 0, 3, .inl (fun _ => 0)))] H := hP
  have hD := toW hP hD rfl
  refine W.widen (k := 5) (n := 33) (Nat.le_of_ble_eq_true rfl) (Nat.le_of_ble_eq_true rfl) ?_
  refine va_putF (D := D) (ci := 0) (v := .ref q_5) (ty := .array .int) (C := RX0) (T := TX0) (N := 9) hx hb htb iX0 tyX0 tyX0_ok nmX0 hown hK.1 hP hD hS 0 rfl rfl 4 (by decide) (htb _ k_195) (fun _ h9 => h9) rfl hin rfl (by decide +kernel) rfl rfl (Nat.le_of_ble_eq_true rfl) dX0_init_39 (fun H locs hP hD hS => ?_)
  have hP : va_P D vwCl [(h0, .inr (0, [.ref q_1, .ref q_2, .ref q_3, .ref q_4, .ref q_5, .int 0, .int 0, .int 0, .int 0])), (q_1, .inl (E 0, 9, .inl (fun _ => 0))), (q_2, .inl (E 0, 9, .inl (fun _ => 0))), (q_3, .inl (E 0, 9, .inl (fun _ => 0))), (q_4, .inl (E 0, 3, .inl (fun _ => 0))), (q_5, .inl (E 0, 3, .inl (fun _ => 0)))] H := hP
  have hD := toW hP hD rfl
  refine lv_aload_n hx hb dX0_init_42 rfl (lv_at hl 0 rfl) ?_
  refine lv_iconst (v := 0) hx hb dX0_init_43 (by decide) ?_
  refine va_put (D := D) (ci := 0) (v := .int 0) (ty := .int) (C := RX0) (T := TX0) (N := 9) hx hb htb iX0 tyX0 tyX0_ok nmX0 hown hK.1 hP hD hS 0 rfl rfl 5 (by decide) (htb _ k_196) (fun _ h9 => h9) rfl (by decide +kernel) rfl rfl (Nat.le_of_ble_eq_true rfl) dX0_init_44 (fun H locs hP hD hS => ?_)
  have hP : va_P D vwCl [(h0, .inr (0, [.ref q_1, .ref q_2, .ref q_3, .ref q_4, .ref q_5, .int 0, .int 0, .int 0, .int 0])), (q_1, .inl (E 0, 9, .inl (fun _ => 0))), (q_2, .inl (E 0, 9, .inl (fun _ => 0))), (q_3, .inl (E 0, 9, .inl (fun _ => 0))), (q_4, .inl (E 0, 3, .inl (fun _ => 0))), (q_5, .inl (E 0, 3, .inl (fun _ => 0)))] H := hP
  have hD := toW hP hD rfl
  refine lv_aload_n hx hb dX0_init_47 rfl (lv_at hl 0 rfl) ?_
  refine lv_iconst (v := 0) hx hb dX0_init_48 (by decide) ?_
  refine va_put (D := D) (ci := 0) (v := .int 0) (ty := .int) (C := RX0) (T := TX0) (N := 9) hx hb htb iX0 tyX0 tyX0_ok nmX0 hown hK.1 hP hD hS 0 rfl rfl 6 (by decide) (htb _ k_198) (fun _ h9 => h9) rfl (by decide +kernel) rfl rfl (Nat.le_of_ble_eq_true rfl) dX0_init_49 (fun H locs hP hD hS => ?_)
  have hP : va_P D vwCl [(h0, .inr (0, [.ref q_1, .ref q_2, .ref q_3, .ref q_4, .ref q_5, .int 0, .int 0, .int 0, .int 0])), (q_1, .inl (E 0, 9, .inl (fun _ => 0))), (q_2, .inl (E 0, 9, .inl (fun _ => 0))), (q_3, .inl (E 0, 9, .inl (fun _ => 0))), (q_4, .inl (E 0, 3, .inl (fun _ => 0))), (q_5, .inl (E 0, 3, .inl (fun _ => 0)))] H := hP
  have hD := toW hP hD rfl
  refine lv_aload_n hx hb dX0_init_52 rfl (lv_at hl 0 rfl) ?_
  refine lv_iconst (v := 0) hx hb dX0_init_53 (by decide) ?_
  refine va_put (D := D) (ci := 0) (v := .int 0) (ty := .int) (C := RX0) (T := TX0) (N := 9) hx hb htb iX0 tyX0 tyX0_ok nmX0 hown hK.1 hP hD hS 0 rfl rfl 7 (by decide) (htb _ k_200) (fun _ h9 => h9) rfl (by decide +kernel) rfl rfl (Nat.le_of_ble_eq_true rfl) dX0_init_54 (fun H locs hP hD hS => ?_)
  have hP : va_P D vwCl [(h0, .inr (0, [.ref q_1, .ref q_2, .ref q_3, .ref q_4, .ref q_5, .int 0, .int 0, .int 0, .int 0])), (q_1, .inl (E 0, 9, .inl (fun _ => 0))), (q_2, .inl (E 0, 9, .inl (fun _ => 0))), (q_3, .inl (E 0, 9, .inl (fun _ => 0))), (q_4, .inl (E 0, 3, .inl (fun _ => 0))), (q_5, .inl (E 0, 3, .inl (fun _ => 0)))] H := hP
  have hD := toW hP hD rfl
  refine lv_aload_n hx hb dX0_init_57 rfl (lv_at hl 0 rfl) ?_
  refine lv_iconst (v := 0) hx hb dX0_init_58 (by decide) ?_
  refine va_put (D := D) (ci := 0) (v := .int 0) (ty := .int) (C := RX0) (T := TX0) (N := 9) hx hb htb iX0 tyX0 tyX0_ok nmX0 hown hK.1 hP hD hS 0 rfl rfl 8 (by decide) (htb _ k_201) (fun _ h9 => h9) rfl (by decide +kernel) rfl rfl (Nat.le_of_ble_eq_true rfl) dX0_init_59 (fun H locs hP hD hS => ?_)
  have hP : va_P D vwCl [(h0, .inr (0, [.ref q_1, .ref q_2, .ref q_3, .ref q_4, .ref q_5, .int 0, .int 0, .int 0, .int 0])), (q_1, .inl (E 0, 9, .inl (fun _ => 0))), (q_2, .inl (E 0, 9, .inl (fun _ => 0))), (q_3, .inl (E 0, 9, .inl (fun _ => 0))), (q_4, .inl (E 0, 3, .inl (fun _ => 0))), (q_5, .inl (E 0, 3, .inl (fun _ => 0)))] H := hP
  have hD := toW hP hD rfl
  have hP9 := hP.sub (ws' := [(h0, .inr (0, [.ref q_1, .ref q_2, .ref q_3, .ref q_4, .ref q_5, .int 0, .int 0, .int 0, .int 0])), (q_1, .inl (E 0, 9, .inl (fun _ => 0))), (q_2, .inl (E 0, 9, .inl (fun _ => 0))), (q_3, .inl (E 0, 9, .inl (fun _ => 0))), (q_4, .inl (E 0, 3, .inl (fun _ => 0))), (q_5, .inl (E 0, 3, .inl (fun _ => 0)))]) [0, 1, 2, 3, 4, 5] rfl
  have hD9 := hD.sub (ws' := [(h0, .inr (0, [.ref q_1, .ref q_2, .ref q_3, .ref q_4, .ref q_5, .int 0, .int 0, .int 0, .int 0])), (q_1, .inl (E 0, 9, .inl (fun _ => 0))), (q_2, .inl (E 0, 9, .inl (fun _ => 0))), (q_3, .inl (E 0, 9, .inl (fun _ => 0))), (q_4, .inl (E 0, 3, .inl (fun _ => 0))), (q_5, .inl (E 0, 3, .inl (fun _ => 0)))]) [0, 1, 2, 3, 4, 5] (by decide) rfl
  exact W.vret hx hb hr (fun t ht hW => ⟨⟨(fun k => ([q_1, q_2, q_3, q_4, q_5, 0, 0, 0, 0] : List Nat).getD k 0), rfl, trivial, by rw [ht]; exact hP9, hD9⟩, hS.F ht⟩) hS.2.2 dX0_init_62
set_option maxHeartbeats 4000000 in
set_option maxRecDepth 100000 in
theorem c_X1_init (l : Launch) (D : va_G) (E : Nat → Nat) (h0 : Nat) (sz : Nat)  : Met l yX1_init (wl yX1_init cX1_init 1 none) (RM 1 0 0) (mu_P D E [.ref h0] [(h0, .inr (1, [.long 0, .long 0, .long 0, .long 0, .long 0, .long 0, .long 0, .long 0, .long 0, .long 0, .long 0, .long 0, .int 0, .long 0, .long 0]))] sz) (va_Qv (fun (u : Nat → Nat) => True) (mu_B D (va_A [(h0, .inr (1, [.long 0, .long 0, .long 0, .long 0, .long 0, .long 0, .long 0, .long 0, .long 0, .long 0, .long 0, .long 0, .int 0, .long 0, .long 0]))] sz) (fun (u : Nat → Nat) => [(h0, .inr (1, G1 u 0 0 0 0 0 0 0 0 0 1 0 0 1 0 0))])) (va_A [(h0, .inr (1, [.long 0, .long 0, .long 0, .long 0, .long 0, .long 0, .long 0, .long 0, .long 0, .long 0, .long 0, .long 0, .int 0, .long 0, .long 0]))] sz)) 0 0 (va_A [(h0, .inr (1, [.long 0, .long 0, .long 0, .long 0, .long 0, .long 0, .long 0, .long 0, .long 0, .long 0, .long 0, .long 0, .int 0, .long 0, .long 0]))] sz) := by
  refine Met.ofW (cc := cX1_init) (maxL := 1) (ret := none) (by decide) rfl ?_
  intro p e s m args below meth c s₁ B hml hv
  obtain ⟨rfl, hsz, hP, hK, hD0⟩ := hv
  have hx := B.exec
  have hb := B.bytes
  have hr := B.returns
  have hts := atoms_spec (ws := wl yX1_init cX1_init 1 none) B.pre
  have htb : ∀ w ∈ tb, w.before _ s = true := fun w h => hts w (List.mem_cons_of_mem _ h)
  have hown : s.vm.findClass RX1 = some m.cls := findClass_of_methodNamed B.named
  have hlocks := B.notSynchronized
  have hin : meth.name = "<init>" := (name_of_methodNamed B.named B.method).1
  subst hsz
  have hD := hD0.self (sz := s.heap.size)
  generalize hAe : va_A [(h0, .inr (1, [.long 0, .long 0, .long 0, .long 0, .long 0, .long 0, .long 0, .long 0, .long 0, .long 0, .long 0, .long 0, .int 0, .long 0, .long 0]))] s.heap.size = A at hD ⊢
  have hA : ∀ q : Nat, s.heap.size ≤ q → A q := fun q h => by rw [← hAe]; exact Or.inr h
  have hS : va_S A s.heap s.heap [] := va_S.rf
  have hP : va_P D vwCl [(h0, .inr (1, [.long 0, .long 0, .long 0, .long 0, .long 0, .long 0, .long 0, .long 0, .long 0, .long 0, .long 0, .long 0, .int 0, .long 0, .long 0]))] s.heap := hP
  have hl := lv_entry ([.ref h0]) (n := 1) (Nat.le_of_ble_eq_true rfl)
  rw [lg_entry_eq]
  generalize (lg_sl ([.ref h0]) ++ List.replicate (1 - (lg_sl ([.ref h0])).length) Slot.unset).toArray = ls at hl ⊢
  have hl : lv_has ls 1 [(0, .ref h0)] := hl
  refine lv_aload_n hx hb dX1_init_0 rfl (lv_at hl 0 rfl) ?_
  refine W.objInit hx hb hown (htb _ k_82) (htb _ k_22) (htb _ k_23) rfl (by rw [hml]; exact hl.1) rfl dX1_init_1 (Nat.le_of_ble_eq_true rfl) (Nat.le_of_ble_eq_true rfl) ?_
  refine W.eq (g2 := F0 m 4 ls []) rfl ?_
  refine lv_aload_n hx hb dX1_init_4 rfl (lv_at hl 0 rfl) ?_
  refine lv_lconst (v := 1) hx hb dX1_init_5 (by decide) ?_
  refine va_put (D := D) (ci := 1) (v := .long 1) (ty := .long) (C := RX1) (T := TX1) (N := 15) hx hb htb iX1 tyX1 tyX1_ok nmX1 hown hK.1 hP hD hS 0 rfl rfl 9 (by decide) (htb _ k_92) (fun _ h9 => h9) rfl (by decide +kernel) rfl rfl (Nat.le_of_ble_eq_true rfl) dX1_init_6 (fun H locs hP hD hS => ?_)
  have hP : va_P D vwCl [(h0, .inr (1, [.long 0, .long 0, .long 0, .long 0, .long 0, .long 0, .long 0, .long 0, .long 0, .long 1, .long 0, .long 0, .int 0, .long 0, .long 0]))] H := hP
  have hD := toW hP hD rfl
  refine lv_aload_n hx hb dX1_init_9 rfl (lv_at hl 0 rfl) ?_
  refine lv_iconst (v := 1) hx hb dX1_init_10 (by decide) ?_
  refine va_put (D := D) (ci := 1) (v := .int 1) (ty := .int) (C := RX1) (T := TX1) (N := 15) hx hb htb iX1 tyX1 tyX1_ok nmX1 hown hK.1 hP hD hS 0 rfl rfl 12 (by decide) (htb _ k_95) (fun _ h9 => h9) rfl (by decide +kernel) rfl rfl (Nat.le_of_ble_eq_true rfl) dX1_init_11 (fun H locs hP hD hS => ?_)
  have hP : va_P D vwCl [(h0, .inr (1, [.long 0, .long 0, .long 0, .long 0, .long 0, .long 0, .long 0, .long 0, .long 0, .long 1, .long 0, .long 0, .int 1, .long 0, .long 0]))] H := hP
  have hD := toW hP hD rfl
  have hP9 := hP.sub (ws' := [(h0, .inr (1, [.long 0, .long 0, .long 0, .long 0, .long 0, .long 0, .long 0, .long 0, .long 0, .long 1, .long 0, .long 0, .int 1, .long 0, .long 0]))]) [0] rfl
  have hD9 := hD.sub (ws' := [(h0, .inr (1, [.long 0, .long 0, .long 0, .long 0, .long 0, .long 0, .long 0, .long 0, .long 0, .long 1, .long 0, .long 0, .int 1, .long 0, .long 0]))]) [0] (by decide) rfl
  exact W.vret hx hb hr (fun t ht hW => ⟨⟨(fun k => ([0, 0, 0, 0, 0, 0, 0, 0, 0, 0, 0, 0, 0, 0, 0] : List Nat).getD k 0), rfl, trivial, by rw [ht]; exact hP9, hD9⟩, hS.F ht⟩) hS.2.2 dX1_init_14
