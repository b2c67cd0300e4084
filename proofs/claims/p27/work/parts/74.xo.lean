set_option maxHeartbeats 4000000 in
set_option maxRecDepth 100000 in
theorem c_X6_init (l : Launch) (D : va_G) (E : Nat → Nat) (h0 : Nat) (sz : Nat)  : Met l yX6_init (wl yX6_init cX6_init 1 none) (RM 2 5 484) (mu_P D E [.ref h0] [(h0, .inr (6, [.null, .int 0, .null, .null, .int 0, .int 0, .int 0, .int 0]))] sz) (va_Qv (fun (u : (Nat → Nat) × Nat × (Nat → Nat)) => True) (mu_B D (va_A [(h0, .inr (6, [.null, .int 0, .null, .null, .int 0, .int 0, .int 0, .int 0]))] sz) (fun (u : (Nat → Nat) × Nat × (Nat → Nat)) => [(h0, .inr (6, G6 u.1 0 u.2.1 (E 5) 0 0 0 0)), ((u.1 0), .inl (E 0, 120, .inl (fun _ => 0))), (u.2.1, .inr (4, G4 u.2.2 0)), ((u.2.2 0), .inl (E 0, 120, .inl (fun _ => 0))), ((u.2.2 1), .inl (E 0, 120, .inl (fun _ => 0))), ((u.2.2 2), .inl (E 0, 120, .inl (fun _ => 0)))])) (va_A [(h0, .inr (6, [.null, .int 0, .null, .null, .int 0, .int 0, .int 0, .int 0]))] sz)) 5 484 (va_A [(h0, .inr (6, [.null, .int 0, .null, .null, .int 0, .int 0, .int 0, .int 0]))] sz) := by
  refine Met.ofW (cc := cX6_init) (maxL := 1) (ret := none) (by decide) rfl ?_
  intro p e s m args below meth c s₁ B hml hv
  obtain ⟨rfl, hsz, hP, hK, hD0⟩ := hv
  have hx := B.exec
  have hb := B.bytes
  have hr := B.returns
  have hts := atoms_spec (ws := wl yX6_init cX6_init 1 none) B.pre
  have htb : ∀ w ∈ tb, w.before _ s = true := fun w h => hts w (List.mem_cons_of_mem _ h)
  have hown : s.vm.findClass RX6 = some m.cls := findClass_of_methodNamed B.named
  have hlocks := B.notSynchronized
  have hin : meth.name = "<init>" := (name_of_methodNamed B.named B.method).1
  subst hsz
  have hD := hD0.self (sz := s.heap.size)
  generalize hAe : va_A [(h0, .inr (6, [.null, .int 0, .null, .null, .int 0, .int 0, .int 0, .int 0]))] s.heap.size = A at hD ⊢
  have hA : ∀ q : Nat, s.heap.size ≤ q → A q := fun q h => by rw [← hAe]; exact Or.inr h
  have hS : va_S A s.heap s.heap [] := va_S.rf
  have hP : va_P D vwCl [(h0, .inr (6, [.null, .int 0, .null, .null, .int 0, .int 0, .int 0, .int 0]))] s.heap := hP
  have hl := lv_entry ([.ref h0]) (n := 1) (Nat.le_of_ble_eq_true rfl)
  rw [lg_entry_eq]
  generalize (lg_sl ([.ref h0]) ++ List.replicate (1 - (lg_sl ([.ref h0])).length) Slot.unset).toArray = ls at hl ⊢
  have hl : lv_has ls 1 [(0, .ref h0)] := hl
  refine lv_aload_n hx hb dX6_init_0 rfl (lv_at hl 0 rfl) ?_
  refine W.objInit hx hb hown (htb _ k_134) (htb _ k_22) (htb _ k_23) rfl (by rw [hml]; exact hl.1) rfl dX6_init_1 (Nat.le_of_ble_eq_true rfl) (Nat.le_of_ble_eq_true rfl) ?_
  refine W.eq (g2 := F0 m 4 ls []) rfl ?_
  refine lv_aload_n hx hb dX6_init_4 rfl (lv_at hl 0 rfl) ?_
  refine lv_bipush (v := 120) hx hb dX6_init_5 (by decide) ?_
  refine va_newa (atype := .int) (a0 := (120, .inl (fun _ => 0))) hx hb (htb _ k_54) rfl hK.1 hP hD hS hA (fun cA => nw_i cA) (by decide) (by decide) (by decide) (Nat.le_of_ble_eq_true rfl) (Nat.le_of_ble_eq_true rfl) dX6_init_7 (fun q_1 cA H hK2 hP hD hS => ?_)
  obtain rfl : E 0 = cA := (ka_i (fun C h => by cases h) hK2 0 rfl).symm
  clear hK2
  have hP : va_P D vwCl [(h0, .inr (6, [.null, .int 0, .null, .null, .int 0, .int 0, .int 0, .int 0])), (q_1, .inl (E 0, 120, .inl (fun _ => 0)))] H := hP
  have hD := toW hP hD rfl
  refine W.widen (k := 1) (n := 120) (Nat.le_of_ble_eq_true rfl) (Nat.le_of_ble_eq_true rfl) ?_
  refine va_putF (D := D) (ci := 6) (v := .ref q_1) (ty := .array .int) (C := RX6) (T := TX6) (N := 8) hx hb htb iX6 tyX6 tyX6_ok nmX6 hown hK.1 hP hD hS 0 rfl rfl 0 (by decide) (htb _ k_157) (fun _ h9 => h9) rfl hin rfl (by decide +kernel) rfl rfl (Nat.le_of_ble_eq_true rfl) dX6_init_9 (fun H locs hP hD hS => ?_)
  have hP : va_P D vwCl [(h0, .inr (6, [.ref q_1, .int 0, .null, .null, .int 0, .int 0, .int 0, .int 0])), (q_1, .inl (E 0, 120, .inl (fun _ => 0)))] H := hP
  have hD := toW hP hD rfl
  refine lv_aload_n hx hb dX6_init_12 rfl (lv_at hl 0 rfl) ?_
  refine lv_iconst (v := 0) hx hb dX6_init_13 (by decide) ?_
  refine va_put (D := D) (ci := 6) (v := .int 0) (ty := .int) (C := RX6) (T := TX6) (N := 8) hx hb htb iX6 tyX6 tyX6_ok nmX6 hown hK.1 hP hD hS 0 rfl rfl 1 (by decide) (htb _ k_158) (fun _ h9 => h9) rfl (by decide +kernel) rfl rfl (Nat.le_of_ble_eq_true rfl) dX6_init_14 (fun H locs hP hD hS => ?_)
  have hP : va_P D vwCl [(h0, .inr (6, [.ref q_1, .int 0, .null, .null, .int 0, .int 0, .int 0, .int 0])), (q_1, .inl (E 0, 120, .inl (fun _ => 0)))] H := hP
  have hD := toW hP hD rfl
  refine lv_aload_n hx hb dX6_init_17 rfl (lv_at hl 0 rfl) ?_
  refine va_new (ci := 4) (fs := [.null, .null, .null, .int 0]) (C := RX4) (T := TX4) (N := 4) hx hb htb iX4 tyX4 tyX4_ok hown (htb _ k_135) (htb _ k_136) (htb _ k_6) hK.1 hP hD hS hA rfl (by decide) (Nat.le_of_ble_eq_true rfl) (Nat.le_of_ble_eq_true rfl) dX6_init_18 (fun q_2 H hP hD hS => ?_)
  have hP : va_P D vwCl [(h0, .inr (6, [.ref q_1, .int 0, .null, .null, .int 0, .int 0, .int 0, .int 0])), (q_1, .inl (E 0, 120, .inl (fun _ => 0))), (q_2, .inr (4, [.null, .null, .null, .int 0]))] H := hP
  have hD := toW hP hD rfl
  refine W.widen (k := 2) (n := 124) (Nat.le_of_ble_eq_true rfl) (Nat.le_of_ble_eq_true rfl) ?_
  refine lv_dup hx hb dX6_init_21 rfl ?_
  have hPc := hP.sub (ws' := [(q_2, .inr (4, [.null, .null, .null, .int 0]))]) [2] rfl
  have hDc := hD.sub (ws' := [(q_2, .inr (4, [.null, .null, .null, .int 0]))]) [2] (by decide) rfl
  refine aft_v (runMN (rest := [.ref q_2, .ref h0]) (As := []) hx hb hml hown htb hK (c_X4_init l D E q_2 _ ) ok_X4_init rfl (show Cond.methodLinkNest RX6 21 yX4_init RX8 ∈ nestW by decide +kernel) k_138 k_6 k_139 ⟨(Nat.le_of_ble_eq_true rfl), (Nat.le_of_ble_eq_true rfl)⟩ ⟨(Nat.le_of_ble_eq_true rfl), (Nat.le_of_ble_eq_true rfl)⟩ hl.1 (Nat.le_of_ble_eq_true rfl) rfl rfl dX6_init_22 hPc hDc) hP hD hS hA [2] [0, 1] (wr := [(h0, .inr (6, [.ref q_1, .int 0, .null, .null, .int 0, .int 0, .int 0, .int 0])), (q_1, .inl (E 0, 120, .inl (fun _ => 0)))]) rfl rfl (by decide) (by decide) (fun u_3 H locs hw_4 hP hD hS => ?_)
  clear hPc hDc
  have hP : va_P D vwCl [(h0, .inr (6, [.ref q_1, .int 0, .null, .null, .int 0, .int 0, .int 0, .int 0])), (q_1, .inl (E 0, 120, .inl (fun _ => 0))), (q_2, .inr (4, G4 u_3 0)), ((u_3 0), .inl (E 0, 120, .inl (fun _ => 0))), ((u_3 1), .inl (E 0, 120, .inl (fun _ => 0))), ((u_3 2), .inl (E 0, 120, .inl (fun _ => 0)))] H := hP
  have hD := toW hP hD rfl
  refine W.widen (k := 5) (n := 484) (Nat.le_of_ble_eq_true rfl) (Nat.le_of_ble_eq_true rfl) ?_
  refine va_put (D := D) (ci := 6) (v := .ref q_2) (ty := .object "SeaWatches$Rule") (C := RX6) (T := TX6) (N := 8) hx hb htb iX6 tyX6 tyX6_ok nmX6 hown hK.1 hP hD hS 0 rfl rfl 2 (by decide) (htb _ k_160) (fun _ h9 => h9) rfl (by decide +kernel) rfl rfl (Nat.le_of_ble_eq_true rfl) dX6_init_25 (fun H locs hP hD hS => ?_)
  have hP : va_P D vwCl [(h0, .inr (6, [.ref q_1, .int 0, .ref q_2, .null, .int 0, .int 0, .int 0, .int 0])), (q_1, .inl (E 0, 120, .inl (fun _ => 0))), (q_2, .inr (4, G4 u_3 0)), ((u_3 0), .inl (E 0, 120, .inl (fun _ => 0))), ((u_3 1), .inl (E 0, 120, .inl (fun _ => 0))), ((u_3 2), .inl (E 0, 120, .inl (fun _ => 0)))] H := hP
  have hD := toW hP hD rfl
  refine lv_aload_n hx hb dX6_init_28 rfl (lv_at hl 0 rfl) ?_
  refine va_ldcS hx hb hown hK.2.2.2.1 dX6_init_29 ?_
  refine va_put (D := D) (ci := 6) (v := .ref (E 5)) (ty := .object "java/lang/String") (C := RX6) (T := TX6) (N := 8) hx hb htb iX6 tyX6 tyX6_ok nmX6 hown hK.1 hP hD hS 0 rfl rfl 3 (by decide) (htb _ k_161) (fun _ h9 => h9) rfl (by decide +kernel) rfl rfl (Nat.le_of_ble_eq_true rfl) dX6_init_31 (fun H locs hP hD hS => ?_)
  have hP : va_P D vwCl [(h0, .inr (6, [.ref q_1, .int 0, .ref q_2, .ref (E 5), .int 0, .int 0, .int 0, .int 0])), (q_1, .inl (E 0, 120, .inl (fun _ => 0))), (q_2, .inr (4, G4 u_3 0)), ((u_3 0), .inl (E 0, 120, .inl (fun _ => 0))), ((u_3 1), .inl (E 0, 120, .inl (fun _ => 0))), ((u_3 2), .inl (E 0, 120, .inl (fun _ => 0)))] H := hP
  have hD := toW hP hD rfl
  refine lv_aload_n hx hb dX6_init_34 rfl (lv_at hl 0 rfl) ?_
  refine lv_iconst (v := 0) hx hb dX6_init_35 (by decide) ?_
  refine va_put (D := D) (ci := 6) (v := .int 0) (ty := .int) (C := RX6) (T := TX6) (N := 8) hx hb htb iX6 tyX6 tyX6_ok nmX6 hown hK.1 hP hD hS 0 rfl rfl 4 (by decide) (htb _ k_162) (fun _ h9 => h9) rfl (by decide +kernel) rfl rfl (Nat.le_of_ble_eq_true rfl) dX6_init_36 (fun H locs hP hD hS => ?_)
  have hP : va_P D vwCl [(h0, .inr (6, [.ref q_1, .int 0, .ref q_2, .ref (E 5), .int 0, .int 0, .int 0, .int 0])), (q_1, .inl (E 0, 120, .inl (fun _ => 0))), (q_2, .inr (4, G4 u_3 0)), ((u_3 0), .inl (E 0, 120, .inl (fun _ => 0))), ((u_3 1), .inl (E 0, 120, .inl (fun _ => 0))), ((u_3 2), .inl (E 0, 120, .inl (fun _ => 0)))] H := hP
  have hD := toW hP hD rfl
  refine lv_aload_n hx hb dX6_init_39 rfl (lv_at hl 0 rfl) ?_
  refine lv_iconst (v := 0) hx hb dX6_init_40 (by decide) ?_
  refine va_put (D := D) (ci := 6) (v := .int 0) (ty := .int) (C := RX6) (T := TX6) (N := 8) hx hb htb iX6 tyX6 tyX6_ok nmX6 hown hK.1 hP hD hS 0 rfl rfl 5 (by decide) (htb _ k_163) (fun _ h9 => h9) rfl (by decide +kernel) rfl rfl (Nat.le_of_ble_eq_true rfl) dX6_init_41 (fun H locs hP hD hS => ?_)
  have hP : va_P D vwCl [(h0, .inr (6, [.ref q_1, .int 0, .ref q_2, .ref (E 5), .int 0, .int 0, .int 0, .int 0])), (q_1, .inl (E 0, 120, .inl (fun _ => 0))), (q_2, .inr (4, G4 u_3 0)), ((u_3 0), .inl (E 0, 120, .inl (fun _ => 0))), ((u_3 1), .inl (E 0, 120, .inl (fun _ => 0))), ((u_3 2), .inl (E 0, 120, .inl (fun _ => 0)))] H := hP
  have hD := toW hP hD rfl
  refine lv_aload_n hx hb dX6_init_44 rfl (lv_at hl 0 rfl) ?_
  refine lv_iconst (v := 0) hx hb dX6_init_45 (by decide) ?_
  refine va_put (D := D) (ci := 6) (v := .int 0) (ty := .int) (C := RX6) (T := TX6) (N := 8) hx hb htb iX6 tyX6 tyX6_ok nmX6 hown hK.1 hP hD hS 0 rfl rfl 6 (by decide) (htb _ k_164) (fun _ h9 => h9) rfl (by decide +kernel) rfl rfl (Nat.le_of_ble_eq_true rfl) dX6_init_46 (fun H locs hP hD hS => ?_)
  have hP : va_P D vwCl [(h0, .inr (6, [.ref q_1, .int 0, .ref q_2, .ref (E 5), .int 0, .int 0, .int 0, .int 0])), (q_1, .inl (E 0, 120, .inl (fun _ => 0))), (q_2, .inr (4, G4 u_3 0)), ((u_3 0), .inl (E 0, 120, .inl (fun _ => 0))), ((u_3 1), .inl (E 0, 120, .inl (fun _ => 0))), ((u_3 2), .inl (E 0, 120, .inl (fun _ => 0)))] H := hP
  have hD := toW hP hD rfl
  refine lv_aload_n hx hb dX6_init_49 rfl (lv_at hl 0 rfl) ?_
  refine lv_iconst (v := 0) hx hb dX6_init_50 (by decide) ?_
  refine va_put (D := D) (ci := 6) (v := .int 0) (ty := .int) (C := RX6) (T := TX6) (N := 8) hx hb htb iX6 tyX6 tyX6_ok nmX6 hown hK.1 hP hD hS 0 rfl rfl 7 (by decide) (htb _ k_165) (fun _ h9 => h9) rfl (by decide +kernel) rfl rfl (Nat.le_of_ble_eq_true rfl) dX6_init_51 (fun H locs hP hD hS => ?_)
  have hP : va_P D vwCl [(h0, .inr (6, [.ref q_1, .int 0, .ref q_2, .ref (E 5), .int 0, .int 0, .int 0, .int 0])), (q_1, .inl (E 0, 120, .inl (fun _ => 0))), (q_2, .inr (4, G4 u_3 0)), ((u_3 0), .inl (E 0, 120, .inl (fun _ => 0))), ((u_3 1), .inl (E 0, 120, .inl (fun _ => 0))), ((u_3 2), .inl (E 0, 120, .inl (fun _ => 0)))] H := hP
  have hD := toW hP hD rfl
  have hP9 := hP.sub (ws' := [(h0, .inr (6, [.ref q_1, .int 0, .ref q_2, .ref (E 5), .int 0, .int 0, .int 0, .int 0])), (q_1, .inl (E 0, 120, .inl (fun _ => 0))), (q_2, .inr (4, G4 u_3 0)), ((u_3 0), .inl (E 0, 120, .inl (fun _ => 0))), ((u_3 1), .inl (E 0, 120, .inl (fun _ => 0))), ((u_3 2), .inl (E 0, 120, .inl (fun _ => 0)))]) [0, 1, 2, 3, 4, 5] rfl
  have hD9 := hD.sub (ws' := [(h0, .inr (6, [.ref q_1, .int 0, .ref q_2, .ref (E 5), .int 0, .int 0, .int 0, .int 0])), (q_1, .inl (E 0, 120, .inl (fun _ => 0))), (q_2, .inr (4, G4 u_3 0)), ((u_3 0), .inl (E 0, 120, .inl (fun _ => 0))), ((u_3 1), .inl (E 0, 120, .inl (fun _ => 0))), ((u_3 2), .inl (E 0, 120, .inl (fun _ => 0)))]) [0, 1, 2, 3, 4, 5] (by decide) rfl
  exact W.vret hx hb hr (fun t ht hW => ⟨⟨((fun k => ([q_1, 0, q_2, (E 5), 0, 0, 0, 0] : List Nat).getD k 0), q_2, (fun k => ([(u_3 0), (u_3 1), (u_3 2), 0] : List Nat).getD k 0)), rfl, trivial, by rw [ht]; exact hP9, hD9⟩, hS.F ht⟩) hS.2.2 dX6_init_54
