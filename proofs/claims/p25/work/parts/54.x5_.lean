section
set_option maxHeartbeats 4000000 in
set_option maxRecDepth 100000 in
theorem g_X0_add (l : Launch) (D : va_G) (E : Nat → Nat) (dh : Nat) (da : Nat → Nat) (dlisted : Int32) (dshared : Int32) (dsailing : Int32) (dleastWorst : Int32) (df0 : Nat → Int32) (p0 : Int32) (sz : Nat) (hi_d : (0 ≤ dlisted.toInt ∧ dlisted.toInt ≤ 9) ∧ (0 ≤ dshared.toInt ∧ dshared.toInt ≤ 9) ∧ (0 ≤ dsailing.toInt ∧ dsailing.toInt ≤ 3)) : Met l yX0_add (wl yX0_add cX0_add 2 none) (RM 0 0 0) (mu_P D E [.ref dh, .int p0] [(dh, .inr (0, G0 da dlisted dshared dsailing dleastWorst)), ((da 0), .inl (E 0, 9, .inl df0))] sz) (va_Qv (fun (u : (Nat → Int32) × (Int32)) => (0 ≤ u.2.toInt ∧ u.2.toInt ≤ 9) ∧ ((dlisted.toInt < 9 ∧ u.2.toInt = dlisted.toInt + 1) ∨ (dlisted.toInt = 9 ∧ u.2.toInt = 9))) (mu_B D (va_A [(dh, .inr (0, G0 da dlisted dshared dsailing dleastWorst)), ((da 0), .inl (E 0, 9, .inl df0))] sz) (fun (u : (Nat → Int32) × (Int32)) => [(dh, .inr (0, G0 da u.2 dshared dsailing dleastWorst)), ((da 0), .inl (E 0, 9, .inl u.1))])) (va_A [(dh, .inr (0, G0 da dlisted dshared dsailing dleastWorst)), ((da 0), .inl (E 0, 9, .inl df0))] sz)) 0 0 (va_A [(dh, .inr (0, G0 da dlisted dshared dsailing dleastWorst)), ((da 0), .inl (E 0, 9, .inl df0))] sz) := by
  refine Met.ofW (cc := cX0_add) (maxL := 2) (ret := none) (by decide) rfl ?_
  intro p e s m args below meth c s₁ B hml hv
  obtain ⟨rfl, hsz, hP, hK, hD0⟩ := hv
  have hx := B.exec; have hb := B.bytes; have hr := B.returns
  have hts := atoms_spec (ws := wl yX0_add cX0_add 2 none) B.pre
  have htb : ∀ w ∈ tb, w.before _ s = true := fun w h => hts w (List.mem_cons_of_mem _ h)
  have hown : s.vm.findClass RX0 = some m.cls := findClass_of_methodNamed B.named
  have hlocks := B.notSynchronized
  subst hsz
  have hD := hD0.self (sz := s.heap.size)
  generalize hAe : va_A [(dh, .inr (0, G0 da dlisted dshared dsailing dleastWorst)), ((da 0), .inl (E 0, 9, .inl df0))] s.heap.size = A at hD ⊢
  have hA : ∀ q : Nat, s.heap.size ≤ q → A q := fun q h => by rw [← hAe]; exact Or.inr h
  have hS : va_S A s.heap s.heap [] := va_S.rf
  have hP : va_P D vwCl [(dh, .inr (0, G0 da dlisted dshared dsailing dleastWorst)), ((da 0), .inl (E 0, 9, .inl df0))] s.heap := hP
  have hl := lv_entry ([.ref dh, .int p0]) (n := 2) (Nat.le_of_ble_eq_true rfl)
  rw [lg_entry_eq]
  generalize (lg_sl ([.ref dh, .int p0]) ++ List.replicate (2 - (lg_sl ([.ref dh, .int p0])).length) Slot.unset).toArray = ls at hl ⊢
  have hl : lv_has ls 2 [(0, .ref dh), (1, .int p0)] := hl
  have lo_p0 := i_lo p0; have hi_p0 := i_hi p0
  refine lv_aload_n hx hb dX0_add_0 rfl (lv_at hl 0 rfl) ?_
  refine va_get (D := D) (ci := 0) (v := .int dlisted) (C := RX0) (T := TX0) (N := 9) hx hb htb iX0 hown hK.1 hP 0 rfl rfl 5 (by decide) (htb _ k_196) (fun _ h9 => h9) rfl dX0_add_1 ?_
  refine lv_bipush (v := 9) hx hb dX0_add_4 (by decide) ?_
  refine lv_icmp_ge (tgt := 29) hx hb dX0_add_6 (by decide) (fun c_1 => ?_) (fun c_1 => ?_)
  ·
    have ic_1 : 9 ≤ dlisted.toInt := by first | exact (g_le t_9 rfl).mp c_1 | (have h := mt (g_lt rfl t_9).mpr c_1; omega)
    clear c_1
    have hP9 := hP.sub (ws' := [(dh, .inr (0, G0 da dlisted dshared dsailing dleastWorst)), ((da 0), .inl (E 0, 9, .inl df0))]) [0, 1] rfl
    have hD9 := hD.sub (ws' := [(dh, .inr (0, G0 da dlisted dshared dsailing dleastWorst)), ((da 0), .inl (E 0, 9, .inl df0))]) [0, 1] (by decide) rfl
    exact W.vret hx hb hr (fun t ht hW => ⟨⟨(df0, dlisted), rfl, ⟨(by (try dsimp only); omega), (by (try dsimp only); omega)⟩, by rw [ht]; exact hP9, hD9⟩, hS.F ht⟩) hS.2.2 dX0_add_29
  ·
    have ic_1 : dlisted.toInt < 9 := by first | exact (g_lt rfl t_9).mp c_1 | (have h := mt (g_le t_9 rfl).mpr c_1; omega)
    clear c_1
    refine lv_aload_n hx hb dX0_add_9 rfl (lv_at hl 0 rfl) ?_
    refine va_get (D := D) (ci := 0) (v := .ref (da 0)) (C := RX0) (T := TX0) (N := 9) hx hb htb iX0 hown hK.1 hP 0 rfl rfl 0 (by decide) (htb _ k_190) (fun _ h9 => h9) rfl dX0_add_10 ?_
    refine lv_aload_n hx hb dX0_add_13 rfl (lv_at hl 0 rfl) ?_
    refine va_get (D := D) (ci := 0) (v := .int dlisted) (C := RX0) (T := TX0) (N := 9) hx hb htb iX0 hown hK.1 hP 0 rfl rfl 5 (by decide) (htb _ k_196) (fun _ h9 => h9) rfl dX0_add_14 ?_
    refine lv_iload_n hx hb dX0_add_17 rfl (lv_at hl 1 rfl) ?_
    refine va_iast hx hb hK.1 hP hD hS 1 0 rfl rfl (g_in rfl (by omega) (by omega)) dX0_add_18 (fun H locs hP hD hS => ?_)
    have hP : va_P D vwCl [(dh, .inr (0, G0 da dlisted dshared dsailing dleastWorst)), ((da 0), .inl (E 0, 9, .inl (upd df0 (dlisted : Int32).toNatClampNeg p0)))] H := hP
    have hD := toW hP hD rfl
    refine lv_aload_n hx hb dX0_add_19 rfl (lv_at hl 0 rfl) ?_
    refine lv_dup hx hb dX0_add_20 rfl ?_
    refine va_get (D := D) (ci := 0) (v := .int dlisted) (C := RX0) (T := TX0) (N := 9) hx hb htb iX0 hown hK.1 hP 0 rfl rfl 5 (by decide) (htb _ k_196) (fun _ h9 => h9) rfl dX0_add_21 ?_
    refine lv_iconst (v := 1) hx hb dX0_add_24 (by decide) ?_
    refine lv_iadd hx hb dX0_add_25 ?_
    refine lv_topi (fun z_2 ez_2 => ?_)
    have jz_2 : z_2.toInt = dlisted.toInt + 1 := by rw [ez_2]; exact g_add rfl t_1 (by omega) (by omega)
    refine va_put (D := D) (ci := 0) (v := .int z_2) (ty := .int) (C := RX0) (T := TX0) (N := 9) hx hb htb iX0 tyX0 tyX0_ok nmX0 hown hK.1 hP hD hS 0 rfl rfl 5 (by decide) (htb _ k_196) (fun _ h9 => h9) rfl (by decide +kernel) rfl rfl (Nat.le_of_ble_eq_true rfl) dX0_add_26 (fun H locs hP hD hS => ?_)
    have hP : va_P D vwCl [(dh, .inr (0, G0 da z_2 dshared dsailing dleastWorst)), ((da 0), .inl (E 0, 9, .inl (upd df0 (dlisted : Int32).toNatClampNeg p0)))] H := hP
    have hD := toW hP hD rfl
    have hP9 := hP.sub (ws' := [(dh, .inr (0, G0 da z_2 dshared dsailing dleastWorst)), ((da 0), .inl (E 0, 9, .inl (upd df0 (dlisted : Int32).toNatClampNeg p0)))]) [0, 1] rfl
    have hD9 := hD.sub (ws' := [(dh, .inr (0, G0 da z_2 dshared dsailing dleastWorst)), ((da 0), .inl (E 0, 9, .inl (upd df0 (dlisted : Int32).toNatClampNeg p0)))]) [0, 1] (by decide) rfl
    exact W.vret hx hb hr (fun t ht hW => ⟨⟨((upd df0 (dlisted : Int32).toNatClampNeg p0), z_2), rfl, ⟨(by (try dsimp only); omega), (by (try dsimp only); omega)⟩, by rw [ht]; exact hP9, hD9⟩, hS.F ht⟩) hS.2.2 dX0_add_29
set_option maxHeartbeats 4000000 in
set_option maxRecDepth 100000 in
theorem g_X0_secondLeast (l : Launch) (D : va_G) (E : Nat → Nat) (dh : Nat) (da : Nat → Nat) (dlisted : Int32) (dshared : Int32) (dsailing : Int32) (dleastWorst : Int32) (df0 : Nat → Int32) (df1 : Nat → Int32) (p0 : Int32) (hi_d : (0 ≤ dlisted.toInt ∧ dlisted.toInt ≤ 9) ∧ (0 ≤ dshared.toInt ∧ dshared.toInt ≤ 9) ∧ (0 ≤ dsailing.toInt ∧ dsailing.toInt ≤ 3)) : Met l yX0_secondLeast (wl yX0_secondLeast cX0_secondLeast 6 (some .int)) (RM 1 0 0) (rd_P D E [.ref dh, .int p0] [(dh, .inr (0, G0 da dlisted dshared dsailing dleastWorst)), ((da 0), .inl (E 0, 9, .inl df0)), ((da 1), .inl (E 0, 9, .inl df1))]) (rd_Q (fun r => True)) 0 0 (fun _ => False) := by
  refine Met.ofW (cc := cX0_secondLeast) (maxL := 6) (ret := (some .int)) (by decide) rfl ?_
  intro p e s m args below meth c s₁ B hml hv
  obtain ⟨rfl, hP, hK⟩ := hv
  have hx := B.exec; have hb := B.bytes; have hr := B.returns
  have hts := atoms_spec (ws := wl yX0_secondLeast cX0_secondLeast 6 (some .int)) B.pre
  have htb : ∀ w ∈ tb, w.before _ s = true := fun w h => hts w (List.mem_cons_of_mem _ h)
  have hown : s.vm.findClass RX0 = some m.cls := findClass_of_methodNamed B.named
  have hlocks := B.notSynchronized
  have hP : va_P D vwCl [(dh, .inr (0, G0 da dlisted dshared dsailing dleastWorst)), ((da 0), .inl (E 0, 9, .inl df0)), ((da 1), .inl (E 0, 9, .inl df1))] s.heap := hP
  have hl := lv_entry ([.ref dh, .int p0]) (n := 6) (Nat.le_of_ble_eq_true rfl)
  rw [lg_entry_eq]
  generalize (lg_sl ([.ref dh, .int p0]) ++ List.replicate (6 - (lg_sl ([.ref dh, .int p0])).length) Slot.unset).toArray = ls at hl ⊢
  have hl : lv_has ls 6 [(0, .ref dh), (1, .int p0)] := hl
  have lo_p0 := i_lo p0; have hi_p0 := i_hi p0
  refine lv_iconst (v := 0) hx hb dX0_secondLeast_0 (by decide) ?_
  refine lv_istore_n (lv' := [(2, .int 0), (0, .ref dh), (1, .int p0)]) hx hb dX0_secondLeast_1 rfl hl (by decide) rfl (fun ls hl => ?_)
  refine lv_sipush (v := 9999) hx hb dX0_secondLeast_2 (by decide) ?_
  refine lv_istore_n (lv' := [(3, .int 9999), (2, .int 0), (0, .ref dh), (1, .int p0)]) hx hb dX0_secondLeast_5 rfl hl (by decide) rfl (fun ls hl => ?_)
  refine lv_iconst (v := 0) hx hb dX0_secondLeast_6 (by decide) ?_
  refine lv_istore (lv' := [(4, .int 0), (3, .int 9999), (2, .int 0), (0, .ref dh), (1, .int p0)]) hx hb dX0_secondLeast_7 hl (by decide) rfl (fun ls hl => ?_)
  refine lv_iconst (v := 0) hx hb dX0_secondLeast_9 (by decide) ?_
  refine lv_istore (lv' := [(5, .int 0), (4, .int 0), (3, .int 9999), (2, .int 0), (0, .ref dh), (1, .int p0)]) hx hb dX0_secondLeast_10 hl (by decide) rfl (fun ls hl => ?_)
  have loop_1 : ∀ (N_3 : Nat) (L5_12 : Int32) (L4_12 : Int32) (L3_12 : Int32) (L2_12 : Int32)  (ls : Array Slot), 9 - L5_12.toInt < (N_3 : Int) → (0 ≤ L5_12.toInt ∧ L5_12.toInt ≤ 9) → lv_has ls 6 [(5, .int L5_12), (4, .int L4_12), (3, .int L3_12), (2, .int L2_12), (0, .ref dh), (1, .int p0)] → W p l e (headSpec (wl yX0_secondLeast cX0_secondLeast 6 (some .int)) (RM 1 0 0)).room s m [Value.ref dh, .int p0].toArray below meth c s.heap [] 0 0 (MQ below (rd_Q (fun r => True)) [Value.ref dh, .int p0].toArray s 0 0 (fun _ => False)) (F0 m 12 ls []) := by
    intro N_3
    induction N_3 with
    | zero => intro L5_12 L4_12 L3_12 L2_12  ls hm v0_12 _; exfalso; omega
    | succ N_3 ih_2 =>
      intro L5_12 L4_12 L3_12 L2_12 ls hm v0_12 hl
      have lo_L5_12 := i_lo L5_12; have hi_L5_12 := i_hi L5_12
      have lo_L4_12 := i_lo L4_12; have hi_L4_12 := i_hi L4_12
      have lo_L3_12 := i_lo L3_12; have hi_L3_12 := i_hi L3_12
      have lo_L2_12 := i_lo L2_12; have hi_L2_12 := i_hi L2_12
      refine lv_iload hx hb dX0_secondLeast_12 (lv_at hl 0 rfl) ?_
      refine lv_aload_n hx hb dX0_secondLeast_14 rfl (lv_at hl 4 rfl) ?_
      refine va_get (D := D) (ci := 0) (v := .int dlisted) (C := RX0) (T := TX0) (N := 9) hx hb htb iX0 hown hK.1 hP 0 rfl rfl 5 (by decide) (htb _ k_196) (fun _ h9 => h9) rfl dX0_secondLeast_15 ?_
      refine lv_icmp_ge (tgt := 81) hx hb dX0_secondLeast_18 (by decide) (fun c_4 => ?_) (fun c_4 => ?_)
      ·
        have ic_4 : dlisted.toInt ≤ L5_12.toInt := by first | exact (g_le rfl rfl).mp c_4 | (have h := mt (g_lt rfl rfl).mpr c_4; omega)
        clear c_4
        refine lv_iload_n hx hb dX0_secondLeast_81 rfl (lv_at hl 3 rfl) ?_
        refine lv_iload_n hx hb dX0_secondLeast_82 rfl (lv_at hl 2 rfl) ?_
        refine lv_isub hx hb dX0_secondLeast_83 ?_
        refine lv_topi (fun z_5 ez_5 => ?_)
        refine lv_iload hx hb dX0_secondLeast_84 (lv_at hl 1 rfl) ?_
        refine lv_isub hx hb dX0_secondLeast_86 ?_
        refine lv_topi (fun z_6 ez_6 => ?_)
        exact W.iret (v := z_6) hx hb hr (fun t ht hW => ⟨z_6, rfl, trivial, ht⟩) (fun q h => by cases h) dX0_secondLeast_87
      ·
        have ic_4 : L5_12.toInt < dlisted.toInt := by first | exact (g_lt rfl rfl).mp c_4 | (have h := mt (g_le rfl rfl).mpr c_4; omega)
        clear c_4
        refine lv_iload hx hb dX0_secondLeast_21 (lv_at hl 0 rfl) ?_
        refine lv_bipush (v := 9) hx hb dX0_secondLeast_23 (by decide) ?_
        refine lv_icmp_ge (tgt := 81) hx hb dX0_secondLeast_25 (by decide) (fun c_7 => absurd c_7 (by rw [g_le t_9 rfl]; omega)) (fun c_7 => ?_)
        refine lv_aload_n hx hb dX0_secondLeast_28 rfl (lv_at hl 4 rfl) ?_
        refine va_get (D := D) (ci := 0) (v := .ref (da 1)) (C := RX0) (T := TX0) (N := 9) hx hb htb iX0 hown hK.1 hP 0 rfl rfl 1 (by decide) (htb _ k_191) (fun _ h9 => h9) rfl dX0_secondLeast_29 ?_
        refine lv_iload hx hb dX0_secondLeast_32 (lv_at hl 0 rfl) ?_
        refine va_iald hx hb hK.1 hP 2 0 rfl rfl (g_in rfl (by omega) (by omega)) dX0_secondLeast_34 ?_
        refine lv_topi (fun z_8 ez_8 => ?_)
        have kz_8 := congrArg Int32.toInt ez_8
        refine lv_iload_n hx hb dX0_secondLeast_35 rfl (lv_at hl 5 rfl) ?_
        refine lv_icmp_ne (tgt := 75) hx hb dX0_secondLeast_36 (by decide) (fun c_9 => ?_) (fun c_9 => ?_)
        ·
          have ic_9 : z_8.toInt ≠ p0.toInt := mt (g_eq rfl rfl).mpr c_9
          clear c_9
          obtain ⟨z_10, ez_10⟩ : ∃ y : Int32, y = L5_12 + 1 := ⟨_, rfl⟩
          have jz_10 : z_10.toInt = L5_12.toInt + 1 := by rw [ez_10]; exact g_add rfl t_1 (by omega) (by omega)
          refine lv_iinc (v := z_10) (lv' := [(5, .int z_10), (4, .int L4_12), (3, .int L3_12), (2, .int L2_12), (0, .ref dh), (1, .int p0)]) hx hb dX0_secondLeast_75 hl (k := 0) rfl (by rw [ez_10]; rfl) (by decide) rfl (fun ls hl => ?_)
          refine lv_goto (tgt := 12) hx hb dX0_secondLeast_78 (by decide) ?_
          exact ih_2 z_10 L4_12 L3_12 L2_12 _ (by (try dsimp only); omega) (by (try dsimp only); omega) (lv_sub hl [0, 1, 2, 3, 4, 5] rfl)
        ·
          have ic_9 : z_8.toInt = p0.toInt := (g_eq rfl rfl).mp c_9
          clear c_9
          refine lv_iload_n hx hb dX0_secondLeast_39 rfl (lv_at hl 3 rfl) ?_
          refine lv_aload_n hx hb dX0_secondLeast_40 rfl (lv_at hl 4 rfl) ?_
          refine va_get (D := D) (ci := 0) (v := .ref (da 0)) (C := RX0) (T := TX0) (N := 9) hx hb htb iX0 hown hK.1 hP 0 rfl rfl 0 (by decide) (htb _ k_190) (fun _ h9 => h9) rfl dX0_secondLeast_41 ?_
          refine lv_iload hx hb dX0_secondLeast_44 (lv_at hl 0 rfl) ?_
          refine va_iald hx hb hK.1 hP 1 0 rfl rfl (g_in rfl (by omega) (by omega)) dX0_secondLeast_46 ?_
          refine lv_topi (fun z_11 ez_11 => ?_)
          have kz_11 := congrArg Int32.toInt ez_11
          refine lv_iadd hx hb dX0_secondLeast_47 ?_
          refine lv_topi (fun z_12 ez_12 => ?_)
          refine lv_istore_n (lv' := [(2, .int z_12), (5, .int L5_12), (4, .int L4_12), (3, .int L3_12), (0, .ref dh), (1, .int p0)]) hx hb dX0_secondLeast_48 rfl hl (by decide) rfl (fun ls hl => ?_)
          refine lv_iload_n hx hb dX0_secondLeast_49 rfl (lv_at hl 3 rfl) ?_
          refine lv_aload_n hx hb dX0_secondLeast_50 rfl (lv_at hl 4 rfl) ?_
          refine va_get (D := D) (ci := 0) (v := .ref (da 0)) (C := RX0) (T := TX0) (N := 9) hx hb htb iX0 hown hK.1 hP 0 rfl rfl 0 (by decide) (htb _ k_190) (fun _ h9 => h9) rfl dX0_secondLeast_51 ?_
          refine lv_iload hx hb dX0_secondLeast_54 (lv_at hl 1 rfl) ?_
          refine va_iald hx hb hK.1 hP 1 0 rfl rfl (g_in rfl (by omega) (by omega)) dX0_secondLeast_56 ?_
          refine lv_topi (fun z_13 ez_13 => ?_)
          have kz_13 := congrArg Int32.toInt ez_13
          refine va_mmin hx hb (by rw [hml, hl.1]) hown (htb _ k_902) (htb _ k_725) (htb _ k_11) (htb _ k_726) (Nat.le_of_ble_eq_true rfl) (Nat.le_of_ble_eq_true rfl) (Nat.le_of_ble_eq_true rfl) (Nat.le_of_ble_eq_true rfl) dX0_secondLeast_57 ?_
          refine lv_topi (fun z_14 ez_14 => ?_)
          have jz_14 := g_min rfl rfl ez_14
          refine lv_istore_n (lv' := [(3, .int z_14), (2, .int z_12), (5, .int L5_12), (4, .int L4_12), (0, .ref dh), (1, .int p0)]) hx hb dX0_secondLeast_60 rfl hl (by decide) rfl (fun ls hl => ?_)
          refine lv_iload hx hb dX0_secondLeast_61 (lv_at hl 3 rfl) ?_
          refine lv_aload_n hx hb dX0_secondLeast_63 rfl (lv_at hl 4 rfl) ?_
          refine va_get (D := D) (ci := 0) (v := .ref (da 0)) (C := RX0) (T := TX0) (N := 9) hx hb htb iX0 hown hK.1 hP 0 rfl rfl 0 (by decide) (htb _ k_190) (fun _ h9 => h9) rfl dX0_secondLeast_64 ?_
          refine lv_iload hx hb dX0_secondLeast_67 (lv_at hl 2 rfl) ?_
          refine va_iald hx hb hK.1 hP 1 0 rfl rfl (g_in rfl (by omega) (by omega)) dX0_secondLeast_69 ?_
          refine lv_topi (fun z_15 ez_15 => ?_)
          have kz_15 := congrArg Int32.toInt ez_15
          refine va_mmax hx hb (by rw [hml, hl.1]) hown (htb _ k_903) (htb _ k_732) (htb _ k_11) (htb _ k_733) (Nat.le_of_ble_eq_true rfl) (Nat.le_of_ble_eq_true rfl) (Nat.le_of_ble_eq_true rfl) (Nat.le_of_ble_eq_true rfl) dX0_secondLeast_70 ?_
          refine lv_topi (fun z_16 ez_16 => ?_)
          have jz_16 := g_max rfl rfl ez_16
          refine lv_istore (lv' := [(4, .int z_16), (3, .int z_14), (2, .int z_12), (5, .int L5_12), (0, .ref dh), (1, .int p0)]) hx hb dX0_secondLeast_73 hl (by decide) rfl (fun ls hl => ?_)
          obtain ⟨z_17, ez_17⟩ : ∃ y : Int32, y = L5_12 + 1 := ⟨_, rfl⟩
          have jz_17 : z_17.toInt = L5_12.toInt + 1 := by rw [ez_17]; exact g_add rfl t_1 (by omega) (by omega)
          refine lv_iinc (v := z_17) (lv' := [(5, .int z_17), (4, .int z_16), (3, .int z_14), (2, .int z_12), (0, .ref dh), (1, .int p0)]) hx hb dX0_secondLeast_75 hl (k := 3) rfl (by rw [ez_17]; rfl) (by decide) rfl (fun ls hl => ?_)
          refine lv_goto (tgt := 12) hx hb dX0_secondLeast_78 (by decide) ?_
          exact ih_2 z_17 z_16 z_14 z_12 _ (by (try dsimp only); omega) (by (try dsimp only); omega) (lv_sub hl [0, 1, 2, 3, 4, 5] rfl)
  exact loop_1 10 0 0 9999 0 _ (by have h0 := t_0; have h1 := t_9999; (try dsimp only); omega) (by have h0 := t_0; have h1 := t_9999; (try dsimp only); omega)  (lv_sub hl [0, 1, 2, 3, 4, 5] rfl)
set_option maxHeartbeats 4000000 in
set_option maxRecDepth 100000 in
theorem g_X0_keepIfBetter (l : Launch) (D : va_G) (E : Nat → Nat) (dh : Nat) (da : Nat → Nat) (dlisted : Int32) (dshared : Int32) (dsailing : Int32) (dleastWorst : Int32) (df0 : Nat → Int32) (df1 : Nat → Int32) (df2 : Nat → Int32) (df3 : Nat → Int32) (sz : Nat) (hi_d : (0 ≤ dlisted.toInt ∧ dlisted.toInt ≤ 9) ∧ (0 ≤ dshared.toInt ∧ dshared.toInt ≤ 9) ∧ (0 ≤ dsailing.toInt ∧ dsailing.toInt ≤ 3)) : Met l yX0_keepIfBetter (wl yX0_keepIfBetter cX0_keepIfBetter 3 none) (RM 2 0 0) (mu_P D E [.ref dh] [(dh, .inr (0, G0 da dlisted dshared dsailing dleastWorst)), ((da 0), .inl (E 0, 9, .inl df0)), ((da 1), .inl (E 0, 9, .inl df1)), ((da 2), .inl (E 0, 9, .inl df2)), ((da 3), .inl (E 0, 3, .inl df3))] sz) (va_Qv (fun (u : (Nat → Int32) × (Int32)) => True) (mu_B D (va_A [(dh, .inr (0, G0 da dlisted dshared dsailing dleastWorst)), ((da 0), .inl (E 0, 9, .inl df0)), ((da 1), .inl (E 0, 9, .inl df1)), ((da 2), .inl (E 0, 9, .inl df2)), ((da 3), .inl (E 0, 3, .inl df3))] sz) (fun (u : (Nat → Int32) × (Int32)) => [(dh, .inr (0, G0 da dlisted dshared dsailing u.2)), ((da 0), .inl (E 0, 9, .inl df0)), ((da 1), .inl (E 0, 9, .inl df1)), ((da 2), .inl (E 0, 9, .inl u.1)), ((da 3), .inl (E 0, 3, .inl df3))])) (va_A [(dh, .inr (0, G0 da dlisted dshared dsailing dleastWorst)), ((da 0), .inl (E 0, 9, .inl df0)), ((da 1), .inl (E 0, 9, .inl df1)), ((da 2), .inl (E 0, 9, .inl df2)), ((da 3), .inl (E 0, 3, .inl df3))] sz)) 0 0 (va_A [(dh, .inr (0, G0 da dlisted dshared dsailing dleastWorst)), ((da 0), .inl (E 0, 9, .inl df0)), ((da 1), .inl (E 0, 9, .inl df1)), ((da 2), .inl (E 0, 9, .inl df2)), ((da 3), .inl (E 0, 3, .inl df3))] sz) := by
  refine Met.ofW (cc := cX0_keepIfBetter) (maxL := 3) (ret := none) (by decide) rfl ?_
  intro p e s m args below meth c s₁ B hml hv
  obtain ⟨rfl, hsz, hP, hK, hD0⟩ := hv
  have hx := B.exec; have hb := B.bytes; have hr := B.returns
  have hts := atoms_spec (ws := wl yX0_keepIfBetter cX0_keepIfBetter 3 none) B.pre
  have htb : ∀ w ∈ tb, w.before _ s = true := fun w h => hts w (List.mem_cons_of_mem _ h)
  have hown : s.vm.findClass RX0 = some m.cls := findClass_of_methodNamed B.named
  have hlocks := B.notSynchronized
  subst hsz
  have hD := hD0.self (sz := s.heap.size)
  generalize hAe : va_A [(dh, .inr (0, G0 da dlisted dshared dsailing dleastWorst)), ((da 0), .inl (E 0, 9, .inl df0)), ((da 1), .inl (E 0, 9, .inl df1)), ((da 2), .inl (E 0, 9, .inl df2)), ((da 3), .inl (E 0, 3, .inl df3))] s.heap.size = A at hD ⊢
  have hA : ∀ q : Nat, s.heap.size ≤ q → A q := fun q h => by rw [← hAe]; exact Or.inr h
  have hS : va_S A s.heap s.heap [] := va_S.rf
  have hP : va_P D vwCl [(dh, .inr (0, G0 da dlisted dshared dsailing dleastWorst)), ((da 0), .inl (E 0, 9, .inl df0)), ((da 1), .inl (E 0, 9, .inl df1)), ((da 2), .inl (E 0, 9, .inl df2)), ((da 3), .inl (E 0, 3, .inl df3))] s.heap := hP
  have hl := lv_entry ([.ref dh]) (n := 3) (Nat.le_of_ble_eq_true rfl)
  rw [lg_entry_eq]
  generalize (lg_sl ([.ref dh]) ++ List.replicate (3 - (lg_sl ([.ref dh])).length) Slot.unset).toArray = ls at hl ⊢
  have hl : lv_has ls 3 [(0, .ref dh)] := hl
  refine lv_iconst (v := 0) hx hb dX0_keepIfBetter_0 (by decide) ?_
  refine lv_istore_n (lv' := [(1, .int 0), (0, .ref dh)]) hx hb dX0_keepIfBetter_1 rfl hl (by decide) rfl (fun ls hl => ?_)
  refine lv_iconst (v := 0) hx hb dX0_keepIfBetter_2 (by decide) ?_
  refine lv_istore_n (lv' := [(2, .int 0), (1, .int 0), (0, .ref dh)]) hx hb dX0_keepIfBetter_3 rfl hl (by decide) rfl (fun ls hl => ?_)
  have loop_1 : ∀ (N_3 : Nat) (L2_4 : Int32) (L1_4 : Int32) (H : Heap) (locs : List Loc) (ls : Array Slot), 3 - L2_4.toInt < (N_3 : Int) → (0 ≤ L2_4.toInt ∧ L2_4.toInt ≤ 3) → va_P D vwCl [(dh, .inr (0, G0 da dlisted dshared dsailing dleastWorst)), ((da 0), .inl (E 0, 9, .inl df0)), ((da 1), .inl (E 0, 9, .inl df1)), ((da 2), .inl (E 0, 9, .inl df2)), ((da 3), .inl (E 0, 3, .inl df3))] H → va_D A [(dh, .inr (0, G0 da dlisted dshared dsailing dleastWorst)), ((da 0), .inl (E 0, 9, .inl df0)), ((da 1), .inl (E 0, 9, .inl df1)), ((da 2), .inl (E 0, 9, .inl df2)), ((da 3), .inl (E 0, 3, .inl df3))] → va_S A s.heap H locs → lv_has ls 3 [(2, .int L2_4), (1, .int L1_4), (0, .ref dh)] → W p l e (headSpec (wl yX0_keepIfBetter cX0_keepIfBetter 3 none) (RM 2 0 0)).room s m [Value.ref dh].toArray below meth c H locs 0 0 (MQ below (va_Qv (fun (u : (Nat → Int32) × (Int32)) => True) (mu_B D A (fun (u : (Nat → Int32) × (Int32)) => [(dh, .inr (0, G0 da dlisted dshared dsailing u.2)), ((da 0), .inl (E 0, 9, .inl df0)), ((da 1), .inl (E 0, 9, .inl df1)), ((da 2), .inl (E 0, 9, .inl u.1)), ((da 3), .inl (E 0, 3, .inl df3))])) A) [Value.ref dh].toArray s 0 0 A) (F0 m 4 ls []) := by
    intro N_3
    induction N_3 with
    | zero => intro L2_4 L1_4 H locs ls hm v0_4 _ _ _ _; exfalso; omega
    | succ N_3 ih_2 =>
      intro L2_4 L1_4 H locs ls hm v0_4 hP hD hS hl
      have lo_L2_4 := i_lo L2_4; have hi_L2_4 := i_hi L2_4
      have lo_L1_4 := i_lo L1_4; have hi_L1_4 := i_hi L1_4
      refine lv_iload_n hx hb dX0_keepIfBetter_4 rfl (lv_at hl 0 rfl) ?_
      refine lv_aload_n hx hb dX0_keepIfBetter_5 rfl (lv_at hl 2 rfl) ?_
      refine va_get (D := D) (ci := 0) (v := .int dsailing) (C := RX0) (T := TX0) (N := 9) hx hb htb iX0 hown hK.1 hP 0 rfl rfl 7 (by decide) (htb _ k_200) (fun _ h9 => h9) rfl dX0_keepIfBetter_6 ?_
      refine lv_icmp_ge (tgt := 44) hx hb dX0_keepIfBetter_9 (by decide) (fun c_4 => ?_) (fun c_4 => ?_)
      ·
        have ic_4 : dsailing.toInt ≤ L2_4.toInt := by first | exact (g_le rfl rfl).mp c_4 | (have h := mt (g_lt rfl rfl).mpr c_4; omega)
        clear c_4
        refine lv_iload_n hx hb dX0_keepIfBetter_44 rfl (lv_at hl 1 rfl) ?_
        refine lv_aload_n hx hb dX0_keepIfBetter_45 rfl (lv_at hl 2 rfl) ?_
        refine va_get (D := D) (ci := 0) (v := .int dleastWorst) (C := RX0) (T := TX0) (N := 9) hx hb htb iX0 hown hK.1 hP 0 rfl rfl 8 (by decide) (htb _ k_201) (fun _ h9 => h9) rfl dX0_keepIfBetter_46 ?_
        refine lv_icmp_ge (tgt := 83) hx hb dX0_keepIfBetter_49 (by decide) (fun c_5 => ?_) (fun c_5 => ?_)
        ·
          have ic_5 : dleastWorst.toInt ≤ L1_4.toInt := by first | exact (g_le rfl rfl).mp c_5 | (have h := mt (g_lt rfl rfl).mpr c_5; omega)
          clear c_5
          have hP9 := hP.sub (ws' := [(dh, .inr (0, G0 da dlisted dshared dsailing dleastWorst)), ((da 0), .inl (E 0, 9, .inl df0)), ((da 1), .inl (E 0, 9, .inl df1)), ((da 2), .inl (E 0, 9, .inl df2)), ((da 3), .inl (E 0, 3, .inl df3))]) [0, 1, 2, 3, 4] rfl
          have hD9 := hD.sub (ws' := [(dh, .inr (0, G0 da dlisted dshared dsailing dleastWorst)), ((da 0), .inl (E 0, 9, .inl df0)), ((da 1), .inl (E 0, 9, .inl df1)), ((da 2), .inl (E 0, 9, .inl df2)), ((da 3), .inl (E 0, 3, .inl df3))]) [0, 1, 2, 3, 4] (by decide) rfl
          exact W.vret hx hb hr (fun t ht hW => ⟨⟨(df2, dleastWorst), rfl, trivial, by rw [ht]; exact hP9, hD9⟩, hS.F ht⟩) hS.2.2 dX0_keepIfBetter_83
        ·
          have ic_5 : L1_4.toInt < dleastWorst.toInt := by first | exact (g_lt rfl rfl).mp c_5 | (have h := mt (g_le rfl rfl).mpr c_5; omega)
          clear c_5
          refine lv_aload_n hx hb dX0_keepIfBetter_52 rfl (lv_at hl 2 rfl) ?_
          refine lv_iload_n hx hb dX0_keepIfBetter_53 rfl (lv_at hl 1 rfl) ?_
          refine va_put (D := D) (ci := 0) (v := .int L1_4) (ty := .int) (C := RX0) (T := TX0) (N := 9) hx hb htb iX0 tyX0 tyX0_ok nmX0 hown hK.1 hP hD hS 0 rfl rfl 8 (by decide) (htb _ k_201) (fun _ h9 => h9) rfl (by decide +kernel) rfl rfl (Nat.le_of_ble_eq_true rfl) dX0_keepIfBetter_54 (fun H locs hP hD hS => ?_)
          have hP : va_P D vwCl [(dh, .inr (0, G0 da dlisted dshared dsailing L1_4)), ((da 0), .inl (E 0, 9, .inl df0)), ((da 1), .inl (E 0, 9, .inl df1)), ((da 2), .inl (E 0, 9, .inl df2)), ((da 3), .inl (E 0, 3, .inl df3))] H := hP
          have hD := toW hP hD rfl
          refine lv_iconst (v := 0) hx hb dX0_keepIfBetter_57 (by decide) ?_
          refine lv_istore_n (lv' := [(2, .int 0), (1, .int L1_4), (0, .ref dh)]) hx hb dX0_keepIfBetter_58 rfl hl (by decide) rfl (fun ls hl => ?_)
          have loop_6 : ∀ (N_8 : Nat) (L2_59 : Int32) (df2_59 : Nat → Int32) (H : Heap) (locs : List Loc) (ls : Array Slot), 9 - L2_59.toInt < (N_8 : Int) → (0 ≤ L2_59.toInt ∧ L2_59.toInt ≤ 9) → va_P D vwCl [(dh, .inr (0, G0 da dlisted dshared dsailing L1_4)), ((da 0), .inl (E 0, 9, .inl df0)), ((da 1), .inl (E 0, 9, .inl df1)), ((da 2), .inl (E 0, 9, .inl df2_59)), ((da 3), .inl (E 0, 3, .inl df3))] H → va_D A [(dh, .inr (0, G0 da dlisted dshared dsailing L1_4)), ((da 0), .inl (E 0, 9, .inl df0)), ((da 1), .inl (E 0, 9, .inl df1)), ((da 2), .inl (E 0, 9, .inl df2_59)), ((da 3), .inl (E 0, 3, .inl df3))] → va_S A s.heap H locs → lv_has ls 3 [(2, .int L2_59), (1, .int L1_4), (0, .ref dh)] → W p l e (headSpec (wl yX0_keepIfBetter cX0_keepIfBetter 3 none) (RM 2 0 0)).room s m [Value.ref dh].toArray below meth c H locs 0 0 (MQ below (va_Qv (fun (u : (Nat → Int32) × (Int32)) => True) (mu_B D A (fun (u : (Nat → Int32) × (Int32)) => [(dh, .inr (0, G0 da dlisted dshared dsailing u.2)), ((da 0), .inl (E 0, 9, .inl df0)), ((da 1), .inl (E 0, 9, .inl df1)), ((da 2), .inl (E 0, 9, .inl u.1)), ((da 3), .inl (E 0, 3, .inl df3))])) A) [Value.ref dh].toArray s 0 0 A) (F0 m 59 ls []) := by
            intro N_8
            induction N_8 with
            | zero => intro L2_59 df2_59 H locs ls hm v0_59 _ _ _ _; exfalso; omega
            | succ N_8 ih_7 =>
              intro L2_59 df2_59 H locs ls hm v0_59 hP hD hS hl
              have lo_L2_59 := i_lo L2_59; have hi_L2_59 := i_hi L2_59
              refine lv_iload_n hx hb dX0_keepIfBetter_59 rfl (lv_at hl 0 rfl) ?_
              refine lv_bipush (v := 9) hx hb dX0_keepIfBetter_60 (by decide) ?_
              refine lv_icmp_ge (tgt := 83) hx hb dX0_keepIfBetter_62 (by decide) (fun c_9 => ?_) (fun c_9 => ?_)
              ·
                have ic_9 : 9 ≤ L2_59.toInt := by first | exact (g_le t_9 rfl).mp c_9 | (have h := mt (g_lt rfl t_9).mpr c_9; omega)
                clear c_9
                have hP9 := hP.sub (ws' := [(dh, .inr (0, G0 da dlisted dshared dsailing L1_4)), ((da 0), .inl (E 0, 9, .inl df0)), ((da 1), .inl (E 0, 9, .inl df1)), ((da 2), .inl (E 0, 9, .inl df2_59)), ((da 3), .inl (E 0, 3, .inl df3))]) [0, 1, 2, 3, 4] rfl
                have hD9 := hD.sub (ws' := [(dh, .inr (0, G0 da dlisted dshared dsailing L1_4)), ((da 0), .inl (E 0, 9, .inl df0)), ((da 1), .inl (E 0, 9, .inl df1)), ((da 2), .inl (E 0, 9, .inl df2_59)), ((da 3), .inl (E 0, 3, .inl df3))]) [0, 1, 2, 3, 4] (by decide) rfl
                exact W.vret hx hb hr (fun t ht hW => ⟨⟨(df2_59, L1_4), rfl, trivial, by rw [ht]; exact hP9, hD9⟩, hS.F ht⟩) hS.2.2 dX0_keepIfBetter_83
              ·
                have ic_9 : L2_59.toInt < 9 := by first | exact (g_lt rfl t_9).mp c_9 | (have h := mt (g_le t_9 rfl).mpr c_9; omega)
                clear c_9
                refine lv_aload_n hx hb dX0_keepIfBetter_65 rfl (lv_at hl 2 rfl) ?_
                refine va_get (D := D) (ci := 0) (v := .ref (da 2)) (C := RX0) (T := TX0) (N := 9) hx hb htb iX0 hown hK.1 hP 0 rfl rfl 2 (by decide) (htb _ k_192) (fun _ h9 => h9) rfl dX0_keepIfBetter_66 ?_
                refine lv_iload_n hx hb dX0_keepIfBetter_69 rfl (lv_at hl 0 rfl) ?_
                refine lv_aload_n hx hb dX0_keepIfBetter_70 rfl (lv_at hl 2 rfl) ?_
                refine va_get (D := D) (ci := 0) (v := .ref (da 1)) (C := RX0) (T := TX0) (N := 9) hx hb htb iX0 hown hK.1 hP 0 rfl rfl 1 (by decide) (htb _ k_191) (fun _ h9 => h9) rfl dX0_keepIfBetter_71 ?_
                refine lv_iload_n hx hb dX0_keepIfBetter_74 rfl (lv_at hl 0 rfl) ?_
                refine va_iald hx hb hK.1 hP 2 0 rfl rfl (g_in rfl (by omega) (by omega)) dX0_keepIfBetter_75 ?_
                refine lv_topi (fun z_10 ez_10 => ?_)
                have kz_10 := congrArg Int32.toInt ez_10
                refine va_iast hx hb hK.1 hP hD hS 3 0 rfl rfl (g_in rfl (by omega) (by omega)) dX0_keepIfBetter_76 (fun H locs hP hD hS => ?_)
                have hP : va_P D vwCl [(dh, .inr (0, G0 da dlisted dshared dsailing L1_4)), ((da 0), .inl (E 0, 9, .inl df0)), ((da 1), .inl (E 0, 9, .inl df1)), ((da 2), .inl (E 0, 9, .inl (upd df2_59 (L2_59 : Int32).toNatClampNeg z_10))), ((da 3), .inl (E 0, 3, .inl df3))] H := hP
                have hD := toW hP hD rfl
                obtain ⟨z_11, ez_11⟩ : ∃ y : Int32, y = L2_59 + 1 := ⟨_, rfl⟩
                have jz_11 : z_11.toInt = L2_59.toInt + 1 := by rw [ez_11]; exact g_add rfl t_1 (by omega) (by omega)
                refine lv_iinc (v := z_11) (lv' := [(2, .int z_11), (1, .int L1_4), (0, .ref dh)]) hx hb dX0_keepIfBetter_77 hl (k := 0) rfl (by rw [ez_11]; rfl) (by decide) rfl (fun ls hl => ?_)
                refine lv_goto (tgt := 59) hx hb dX0_keepIfBetter_80 (by decide) ?_
                exact ih_7 z_11 (upd df2_59 (L2_59 : Int32).toNatClampNeg z_10) _ _ _ (by (try dsimp only); omega) (by (try dsimp only); omega) hP hD hS (lv_sub hl [0, 1, 2] rfl)
          exact loop_6 10 0 df2 _ _ _ (by have h0 := t_0; (try dsimp only); omega) (by have h0 := t_0; (try dsimp only); omega) hP hD hS (lv_sub hl [0, 1, 2] rfl)
      ·
        have ic_4 : L2_4.toInt < dsailing.toInt := by first | exact (g_lt rfl rfl).mp c_4 | (have h := mt (g_le rfl rfl).mpr c_4; omega)
        clear c_4
        refine lv_iload_n hx hb dX0_keepIfBetter_12 rfl (lv_at hl 0 rfl) ?_
        refine lv_aload_n hx hb dX0_keepIfBetter_13 rfl (lv_at hl 2 rfl) ?_
        refine va_get (D := D) (ci := 0) (v := .ref (da 3)) (C := RX0) (T := TX0) (N := 9) hx hb htb iX0 hown hK.1 hP 0 rfl rfl 3 (by decide) (htb _ k_194) (fun _ h9 => h9) rfl dX0_keepIfBetter_14 ?_
        refine va_alen hx hb hK.1 hP 4 0 rfl rfl (v := 3) (show Int32.ofNat 3 = 3 by decide) dX0_keepIfBetter_17 ?_
        refine lv_icmp_ge (tgt := 44) hx hb dX0_keepIfBetter_18 (by decide) (fun c_12 => absurd c_12 (by rw [g_le t_3 rfl]; omega)) (fun c_12 => ?_)
        refine lv_iload_n hx hb dX0_keepIfBetter_21 rfl (lv_at hl 1 rfl) ?_
        refine lv_aload_n hx hb dX0_keepIfBetter_22 rfl (lv_at hl 2 rfl) ?_
        refine va_get (D := D) (ci := 0) (v := .ref (da 3)) (C := RX0) (T := TX0) (N := 9) hx hb htb iX0 hown hK.1 hP 0 rfl rfl 3 (by decide) (htb _ k_194) (fun _ h9 => h9) rfl dX0_keepIfBetter_23 ?_
        refine lv_iload_n hx hb dX0_keepIfBetter_26 rfl (lv_at hl 0 rfl) ?_
        refine va_iald hx hb hK.1 hP 4 0 rfl rfl (g_in rfl (by omega) (by omega)) dX0_keepIfBetter_27 ?_
        refine lv_topi (fun z_13 ez_13 => ?_)
        have kz_13 := congrArg Int32.toInt ez_13
        refine lv_aload_n hx hb dX0_keepIfBetter_28 rfl (lv_at hl 2 rfl) ?_
        refine lv_iload_n hx hb dX0_keepIfBetter_29 rfl (lv_at hl 0 rfl) ?_
        refine callRV (rest := [.int z_13, .int L1_4]) (As := [.int L2_4]) hx hb hml hown htb hK (g_X0_secondLeast l D E dh da dlisted dshared dsailing dleastWorst df0 df1 L2_4 (by (try dsimp only); omega)) ok_X0_secondLeast k_913 k_915 ks_36 k_7 k_916 ⟨(Nat.le_of_ble_eq_true rfl), (Nat.le_of_ble_eq_true rfl)⟩ ⟨(Nat.le_of_ble_eq_true rfl), (Nat.le_of_ble_eq_true rfl)⟩ hl.1 (Nat.le_of_ble_eq_true rfl) rfl rfl dX0_keepIfBetter_30 (hP.sub (ws' := [(dh, .inr (0, G0 da dlisted dshared dsailing dleastWorst)), ((da 0), .inl (E 0, 9, .inl df0)), ((da 1), .inl (E 0, 9, .inl df1))]) [0, 1, 2] rfl) rfl rfl 0 rfl (fun r_14 hw_15 => ?_)
        refine lv_imul hx hb dX0_keepIfBetter_33 ?_
        refine lv_topi (fun z_17 ez_17 => ?_)
        refine va_mmax hx hb (by rw [hml, hl.1]) hown (htb _ k_903) (htb _ k_732) (htb _ k_11) (htb _ k_733) (Nat.le_of_ble_eq_true rfl) (Nat.le_of_ble_eq_true rfl) (Nat.le_of_ble_eq_true rfl) (Nat.le_of_ble_eq_true rfl) dX0_keepIfBetter_34 ?_
        refine lv_topi (fun z_18 ez_18 => ?_)
        have jz_18 := g_max rfl rfl ez_18
        refine lv_istore_n (lv' := [(1, .int z_18), (2, .int L2_4), (0, .ref dh)]) hx hb dX0_keepIfBetter_37 rfl hl (by decide) rfl (fun ls hl => ?_)
        obtain ⟨z_19, ez_19⟩ : ∃ y : Int32, y = L2_4 + 1 := ⟨_, rfl⟩
        have jz_19 : z_19.toInt = L2_4.toInt + 1 := by rw [ez_19]; exact g_add rfl t_1 (by omega) (by omega)
        refine lv_iinc (v := z_19) (lv' := [(2, .int z_19), (1, .int z_18), (0, .ref dh)]) hx hb dX0_keepIfBetter_38 hl (k := 1) rfl (by rw [ez_19]; rfl) (by decide) rfl (fun ls hl => ?_)
        refine lv_goto (tgt := 4) hx hb dX0_keepIfBetter_41 (by decide) ?_
        exact ih_2 z_19 z_18 _ _ _ (by (try dsimp only); omega) (by (try dsimp only); omega) hP hD hS (lv_sub hl [0, 1, 2] rfl)
  exact loop_1 4 0 0 _ _ _ (by have h0 := t_0; (try dsimp only); omega) (by have h0 := t_0; (try dsimp only); omega) hP hD hS (lv_sub hl [0, 1, 2] rfl)
set_option maxHeartbeats 4000000 in
set_option maxRecDepth 100000 in
theorem g_X1_clear (l : Launch) (D : va_G) (E : Nat → Nat) (fh : Nat) (fa : Nat → Nat) (fn : Int64) (fsumR : Int64) (fsumW : Int64) (fsumA : Int64) (fsumWW : Int64) (fsumAA : Int64) (fsumWA : Int64) (fsumWR : Int64) (fsumAR : Int64) (fdivisor : Int64) (fbyWarmth : Int64) (fbyAge : Int64) (fform : Int32) (fwhole : Int64) (frest : Int64) (sz : Nat)  : Met l yX1_clear (wl yX1_clear cX1_clear 1 none) (RM 0 0 0) (mu_P D E [.ref fh] [(fh, .inr (1, G1 fa fn fsumR fsumW fsumA fsumWW fsumAA fsumWA fsumWR fsumAR fdivisor fbyWarmth fbyAge fform fwhole frest))] sz) (va_Qv (fun (u : (Int64) × (Int64) × (Int64) × (Int64) × (Int64) × (Int64) × (Int64) × (Int64) × (Int64)) => (((u.1, u.2.2.2.2.1, u.2.2.2.2.2.1, u.2.1, u.2.2.2.2.2.2.2.2, u.2.2.1, u.2.2.2.2.2.2.1, u.2.2.2.2.2.2.2.1, u.2.2.2.1) : S9) = (0, 0, 0, 0, 0, 0, 0, 0, 0))) (mu_B D (va_A [(fh, .inr (1, G1 fa fn fsumR fsumW fsumA fsumWW fsumAA fsumWA fsumWR fsumAR fdivisor fbyWarmth fbyAge fform fwhole frest))] sz) (fun (u : (Int64) × (Int64) × (Int64) × (Int64) × (Int64) × (Int64) × (Int64) × (Int64) × (Int64)) => [(fh, .inr (1, G1 fa u.1 u.2.2.2.2.1 u.2.2.2.2.2.1 u.2.1 u.2.2.2.2.2.2.2.2 u.2.2.1 u.2.2.2.2.2.2.1 u.2.2.2.2.2.2.2.1 u.2.2.2.1 fdivisor fbyWarmth fbyAge fform fwhole frest))])) (va_A [(fh, .inr (1, G1 fa fn fsumR fsumW fsumA fsumWW fsumAA fsumWA fsumWR fsumAR fdivisor fbyWarmth fbyAge fform fwhole frest))] sz)) 0 0 (va_A [(fh, .inr (1, G1 fa fn fsumR fsumW fsumA fsumWW fsumAA fsumWA fsumWR fsumAR fdivisor fbyWarmth fbyAge fform fwhole frest))] sz) := by
  refine Met.ofW (cc := cX1_clear) (maxL := 1) (ret := none) (by decide) rfl ?_
  intro p e s m args below meth c s₁ B hml hv
  obtain ⟨rfl, hsz, hP, hK, hD0⟩ := hv
  have hx := B.exec; have hb := B.bytes; have hr := B.returns
  have hts := atoms_spec (ws := wl yX1_clear cX1_clear 1 none) B.pre
  have htb : ∀ w ∈ tb, w.before _ s = true := fun w h => hts w (List.mem_cons_of_mem _ h)
  have hown : s.vm.findClass RX1 = some m.cls := findClass_of_methodNamed B.named
  have hlocks := B.notSynchronized
  subst hsz
  have hD := hD0.self (sz := s.heap.size)
  generalize hAe : va_A [(fh, .inr (1, G1 fa fn fsumR fsumW fsumA fsumWW fsumAA fsumWA fsumWR fsumAR fdivisor fbyWarmth fbyAge fform fwhole frest))] s.heap.size = A at hD ⊢
  have hA : ∀ q : Nat, s.heap.size ≤ q → A q := fun q h => by rw [← hAe]; exact Or.inr h
  have hS : va_S A s.heap s.heap [] := va_S.rf
  have hP : va_P D vwCl [(fh, .inr (1, G1 fa fn fsumR fsumW fsumA fsumWW fsumAA fsumWA fsumWR fsumAR fdivisor fbyWarmth fbyAge fform fwhole frest))] s.heap := hP
  have hl := lv_entry ([.ref fh]) (n := 1) (Nat.le_of_ble_eq_true rfl)
  rw [lg_entry_eq]
  generalize (lg_sl ([.ref fh]) ++ List.replicate (1 - (lg_sl ([.ref fh])).length) Slot.unset).toArray = ls at hl ⊢
  have hl : lv_has ls 1 [(0, .ref fh)] := hl
  refine lv_aload_n hx hb dX1_clear_0 rfl (lv_at hl 0 rfl) ?_
  refine lv_lconst (v := 0) hx hb dX1_clear_1 (by decide) ?_
  refine va_put (D := D) (ci := 1) (v := .long 0) (ty := .long) (C := RX1) (T := TX1) (N := 15) hx hb htb iX1 tyX1 tyX1_ok nmX1 hown hK.1 hP hD hS 0 rfl rfl 0 (by decide) (htb _ k_83) (fun _ h9 => h9) rfl (by decide +kernel) rfl rfl (Nat.le_of_ble_eq_true rfl) dX1_clear_2 (fun H locs hP hD hS => ?_)
  have hP : va_P D vwCl [(fh, .inr (1, G1 fa 0 fsumR fsumW fsumA fsumWW fsumAA fsumWA fsumWR fsumAR fdivisor fbyWarmth fbyAge fform fwhole frest))] H := hP
  have hD := toW hP hD rfl
  refine lv_aload_n hx hb dX1_clear_5 rfl (lv_at hl 0 rfl) ?_
  refine lv_lconst (v := 0) hx hb dX1_clear_6 (by decide) ?_
  refine va_put (D := D) (ci := 1) (v := .long 0) (ty := .long) (C := RX1) (T := TX1) (N := 15) hx hb htb iX1 tyX1 tyX1_ok nmX1 hown hK.1 hP hD hS 0 rfl rfl 1 (by decide) (htb _ k_84) (fun _ h9 => h9) rfl (by decide +kernel) rfl rfl (Nat.le_of_ble_eq_true rfl) dX1_clear_7 (fun H locs hP hD hS => ?_)
  have hP : va_P D vwCl [(fh, .inr (1, G1 fa 0 0 fsumW fsumA fsumWW fsumAA fsumWA fsumWR fsumAR fdivisor fbyWarmth fbyAge fform fwhole frest))] H := hP
  have hD := toW hP hD rfl
  refine lv_aload_n hx hb dX1_clear_10 rfl (lv_at hl 0 rfl) ?_
  refine lv_lconst (v := 0) hx hb dX1_clear_11 (by decide) ?_
  refine va_put (D := D) (ci := 1) (v := .long 0) (ty := .long) (C := RX1) (T := TX1) (N := 15) hx hb htb iX1 tyX1 tyX1_ok nmX1 hown hK.1 hP hD hS 0 rfl rfl 2 (by decide) (htb _ k_85) (fun _ h9 => h9) rfl (by decide +kernel) rfl rfl (Nat.le_of_ble_eq_true rfl) dX1_clear_12 (fun H locs hP hD hS => ?_)
  have hP : va_P D vwCl [(fh, .inr (1, G1 fa 0 0 0 fsumA fsumWW fsumAA fsumWA fsumWR fsumAR fdivisor fbyWarmth fbyAge fform fwhole frest))] H := hP
  have hD := toW hP hD rfl
  refine lv_aload_n hx hb dX1_clear_15 rfl (lv_at hl 0 rfl) ?_
  refine lv_lconst (v := 0) hx hb dX1_clear_16 (by decide) ?_
  refine va_put (D := D) (ci := 1) (v := .long 0) (ty := .long) (C := RX1) (T := TX1) (N := 15) hx hb htb iX1 tyX1 tyX1_ok nmX1 hown hK.1 hP hD hS 0 rfl rfl 3 (by decide) (htb _ k_86) (fun _ h9 => h9) rfl (by decide +kernel) rfl rfl (Nat.le_of_ble_eq_true rfl) dX1_clear_17 (fun H locs hP hD hS => ?_)
  have hP : va_P D vwCl [(fh, .inr (1, G1 fa 0 0 0 0 fsumWW fsumAA fsumWA fsumWR fsumAR fdivisor fbyWarmth fbyAge fform fwhole frest))] H := hP
  have hD := toW hP hD rfl
  refine lv_aload_n hx hb dX1_clear_20 rfl (lv_at hl 0 rfl) ?_
  refine lv_lconst (v := 0) hx hb dX1_clear_21 (by decide) ?_
  refine va_put (D := D) (ci := 1) (v := .long 0) (ty := .long) (C := RX1) (T := TX1) (N := 15) hx hb htb iX1 tyX1 tyX1_ok nmX1 hown hK.1 hP hD hS 0 rfl rfl 4 (by decide) (htb _ k_87) (fun _ h9 => h9) rfl (by decide +kernel) rfl rfl (Nat.le_of_ble_eq_true rfl) dX1_clear_22 (fun H locs hP hD hS => ?_)
  have hP : va_P D vwCl [(fh, .inr (1, G1 fa 0 0 0 0 0 fsumAA fsumWA fsumWR fsumAR fdivisor fbyWarmth fbyAge fform fwhole frest))] H := hP
  have hD := toW hP hD rfl
  refine lv_aload_n hx hb dX1_clear_25 rfl (lv_at hl 0 rfl) ?_
  refine lv_lconst (v := 0) hx hb dX1_clear_26 (by decide) ?_
  refine va_put (D := D) (ci := 1) (v := .long 0) (ty := .long) (C := RX1) (T := TX1) (N := 15) hx hb htb iX1 tyX1 tyX1_ok nmX1 hown hK.1 hP hD hS 0 rfl rfl 5 (by decide) (htb _ k_88) (fun _ h9 => h9) rfl (by decide +kernel) rfl rfl (Nat.le_of_ble_eq_true rfl) dX1_clear_27 (fun H locs hP hD hS => ?_)
  have hP : va_P D vwCl [(fh, .inr (1, G1 fa 0 0 0 0 0 0 fsumWA fsumWR fsumAR fdivisor fbyWarmth fbyAge fform fwhole frest))] H := hP
  have hD := toW hP hD rfl
  refine lv_aload_n hx hb dX1_clear_30 rfl (lv_at hl 0 rfl) ?_
  refine lv_lconst (v := 0) hx hb dX1_clear_31 (by decide) ?_
  refine va_put (D := D) (ci := 1) (v := .long 0) (ty := .long) (C := RX1) (T := TX1) (N := 15) hx hb htb iX1 tyX1 tyX1_ok nmX1 hown hK.1 hP hD hS 0 rfl rfl 6 (by decide) (htb _ k_89) (fun _ h9 => h9) rfl (by decide +kernel) rfl rfl (Nat.le_of_ble_eq_true rfl) dX1_clear_32 (fun H locs hP hD hS => ?_)
  have hP : va_P D vwCl [(fh, .inr (1, G1 fa 0 0 0 0 0 0 0 fsumWR fsumAR fdivisor fbyWarmth fbyAge fform fwhole frest))] H := hP
  have hD := toW hP hD rfl
  refine lv_aload_n hx hb dX1_clear_35 rfl (lv_at hl 0 rfl) ?_
  refine lv_lconst (v := 0) hx hb dX1_clear_36 (by decide) ?_
  refine va_put (D := D) (ci := 1) (v := .long 0) (ty := .long) (C := RX1) (T := TX1) (N := 15) hx hb htb iX1 tyX1 tyX1_ok nmX1 hown hK.1 hP hD hS 0 rfl rfl 7 (by decide) (htb _ k_90) (fun _ h9 => h9) rfl (by decide +kernel) rfl rfl (Nat.le_of_ble_eq_true rfl) dX1_clear_37 (fun H locs hP hD hS => ?_)
  have hP : va_P D vwCl [(fh, .inr (1, G1 fa 0 0 0 0 0 0 0 0 fsumAR fdivisor fbyWarmth fbyAge fform fwhole frest))] H := hP
  have hD := toW hP hD rfl
  refine lv_aload_n hx hb dX1_clear_40 rfl (lv_at hl 0 rfl) ?_
  refine lv_lconst (v := 0) hx hb dX1_clear_41 (by decide) ?_
  refine va_put (D := D) (ci := 1) (v := .long 0) (ty := .long) (C := RX1) (T := TX1) (N := 15) hx hb htb iX1 tyX1 tyX1_ok nmX1 hown hK.1 hP hD hS 0 rfl rfl 8 (by decide) (htb _ k_91) (fun _ h9 => h9) rfl (by decide +kernel) rfl rfl (Nat.le_of_ble_eq_true rfl) dX1_clear_42 (fun H locs hP hD hS => ?_)
  have hP : va_P D vwCl [(fh, .inr (1, G1 fa 0 0 0 0 0 0 0 0 0 fdivisor fbyWarmth fbyAge fform fwhole frest))] H := hP
  have hD := toW hP hD rfl
  have hP9 := hP.sub (ws' := [(fh, .inr (1, G1 fa 0 0 0 0 0 0 0 0 0 fdivisor fbyWarmth fbyAge fform fwhole frest))]) [0] rfl
  have hD9 := hD.sub (ws' := [(fh, .inr (1, G1 fa 0 0 0 0 0 0 0 0 0 fdivisor fbyWarmth fbyAge fform fwhole frest))]) [0] (by decide) rfl
  exact W.vret hx hb hr (fun t ht hW => ⟨⟨((0 : Int64), (0 : Int64), (0 : Int64), (0 : Int64), (0 : Int64), (0 : Int64), (0 : Int64), (0 : Int64), (0 : Int64)), rfl, (by rfl), by rw [ht]; exact hP9, hD9⟩, hS.F ht⟩) hS.2.2 dX1_clear_45
set_option maxHeartbeats 4000000 in
set_option maxRecDepth 100000 in
theorem g_X1_add (l : Launch) (D : va_G) (E : Nat → Nat) (fh : Nat) (fa : Nat → Nat) (fn : Int64) (fsumR : Int64) (fsumW : Int64) (fsumA : Int64) (fsumWW : Int64) (fsumAA : Int64) (fsumWA : Int64) (fsumWR : Int64) (fsumAR : Int64) (fdivisor : Int64) (fbyWarmth : Int64) (fbyAge : Int64) (fform : Int32) (fwhole : Int64) (frest : Int64) (p0 : Int64) (p1 : Int64) (p2 : Int64) (sz : Nat)  : Met l yX1_add (wl yX1_add cX1_add 7 none) (RM 0 0 0) (mu_P D E [.ref fh, .long p0, .long p1, .long p2] [(fh, .inr (1, G1 fa fn fsumR fsumW fsumA fsumWW fsumAA fsumWA fsumWR fsumAR fdivisor fbyWarmth fbyAge fform fwhole frest))] sz) (va_Qv (fun (u : (Int64) × (Int64) × (Int64) × (Int64) × (Int64) × (Int64) × (Int64) × (Int64) × (Int64)) => (((u.1, u.2.2.2.2.1, u.2.2.2.2.2.1, u.2.1, u.2.2.2.2.2.2.2.2, u.2.2.1, u.2.2.2.2.2.2.1, u.2.2.2.2.2.2.2.1, u.2.2.2.1) : S9) = add9 ((fn, fsumR, fsumW, fsumA, fsumWW, fsumAA, fsumWA, fsumWR, fsumAR) : S9) p0 p1 p2)) (mu_B D (va_A [(fh, .inr (1, G1 fa fn fsumR fsumW fsumA fsumWW fsumAA fsumWA fsumWR fsumAR fdivisor fbyWarmth fbyAge fform fwhole frest))] sz) (fun (u : (Int64) × (Int64) × (Int64) × (Int64) × (Int64) × (Int64) × (Int64) × (Int64) × (Int64)) => [(fh, .inr (1, G1 fa u.1 u.2.2.2.2.1 u.2.2.2.2.2.1 u.2.1 u.2.2.2.2.2.2.2.2 u.2.2.1 u.2.2.2.2.2.2.1 u.2.2.2.2.2.2.2.1 u.2.2.2.1 fdivisor fbyWarmth fbyAge fform fwhole frest))])) (va_A [(fh, .inr (1, G1 fa fn fsumR fsumW fsumA fsumWW fsumAA fsumWA fsumWR fsumAR fdivisor fbyWarmth fbyAge fform fwhole frest))] sz)) 0 0 (va_A [(fh, .inr (1, G1 fa fn fsumR fsumW fsumA fsumWW fsumAA fsumWA fsumWR fsumAR fdivisor fbyWarmth fbyAge fform fwhole frest))] sz) := by
  refine Met.ofW (cc := cX1_add) (maxL := 7) (ret := none) (by decide) rfl ?_
  intro p e s m args below meth c s₁ B hml hv
  obtain ⟨rfl, hsz, hP, hK, hD0⟩ := hv
  have hx := B.exec; have hb := B.bytes; have hr := B.returns
  have hts := atoms_spec (ws := wl yX1_add cX1_add 7 none) B.pre
  have htb : ∀ w ∈ tb, w.before _ s = true := fun w h => hts w (List.mem_cons_of_mem _ h)
  have hown : s.vm.findClass RX1 = some m.cls := findClass_of_methodNamed B.named
  have hlocks := B.notSynchronized
  subst hsz
  have hD := hD0.self (sz := s.heap.size)
  generalize hAe : va_A [(fh, .inr (1, G1 fa fn fsumR fsumW fsumA fsumWW fsumAA fsumWA fsumWR fsumAR fdivisor fbyWarmth fbyAge fform fwhole frest))] s.heap.size = A at hD ⊢
  have hA : ∀ q : Nat, s.heap.size ≤ q → A q := fun q h => by rw [← hAe]; exact Or.inr h
  have hS : va_S A s.heap s.heap [] := va_S.rf
  have hP : va_P D vwCl [(fh, .inr (1, G1 fa fn fsumR fsumW fsumA fsumWW fsumAA fsumWA fsumWR fsumAR fdivisor fbyWarmth fbyAge fform fwhole frest))] s.heap := hP
  have hl := lv_entry ([.ref fh, .long p0, .long p1, .long p2]) (n := 7) (Nat.le_of_ble_eq_true rfl)
  rw [lg_entry_eq]
  generalize (lg_sl ([.ref fh, .long p0, .long p1, .long p2]) ++ List.replicate (7 - (lg_sl ([.ref fh, .long p0, .long p1, .long p2])).length) Slot.unset).toArray = ls at hl ⊢
  have hl : lv_has ls 7 [(0, .ref fh), (1, .long p0), (3, .long p1), (5, .long p2)] := hl
  refine lv_aload_n hx hb dX1_add_0 rfl (lv_at hl 0 rfl) ?_
  refine lv_dup hx hb dX1_add_1 rfl ?_
  refine va_get (D := D) (ci := 1) (v := .long fn) (C := RX1) (T := TX1) (N := 15) hx hb htb iX1 hown hK.1 hP 0 rfl rfl 0 (by decide) (htb _ k_83) (fun _ h9 => h9) rfl dX1_add_2 ?_
  refine lv_lconst (v := 1) hx hb dX1_add_5 (by decide) ?_
  refine lv_ladd hx hb dX1_add_6 ?_
  refine lv_topl (fun z_1 ez_1 => ?_)
  refine va_put (D := D) (ci := 1) (v := .long z_1) (ty := .long) (C := RX1) (T := TX1) (N := 15) hx hb htb iX1 tyX1 tyX1_ok nmX1 hown hK.1 hP hD hS 0 rfl rfl 0 (by decide) (htb _ k_83) (fun _ h9 => h9) rfl (by decide +kernel) rfl rfl (Nat.le_of_ble_eq_true rfl) dX1_add_7 (fun H locs hP hD hS => ?_)
  have hP : va_P D vwCl [(fh, .inr (1, G1 fa z_1 fsumR fsumW fsumA fsumWW fsumAA fsumWA fsumWR fsumAR fdivisor fbyWarmth fbyAge fform fwhole frest))] H := hP
  have hD := toW hP hD rfl
  refine lv_aload_n hx hb dX1_add_10 rfl (lv_at hl 0 rfl) ?_
  refine lv_dup hx hb dX1_add_11 rfl ?_
  refine va_get (D := D) (ci := 1) (v := .long fsumR) (C := RX1) (T := TX1) (N := 15) hx hb htb iX1 hown hK.1 hP 0 rfl rfl 1 (by decide) (htb _ k_84) (fun _ h9 => h9) rfl dX1_add_12 ?_
  refine lv_lload_n hx hb dX1_add_15 rfl (lv_at hl 1 rfl) ?_
  refine lv_ladd hx hb dX1_add_16 ?_
  refine lv_topl (fun z_2 ez_2 => ?_)
  refine va_put (D := D) (ci := 1) (v := .long z_2) (ty := .long) (C := RX1) (T := TX1) (N := 15) hx hb htb iX1 tyX1 tyX1_ok nmX1 hown hK.1 hP hD hS 0 rfl rfl 1 (by decide) (htb _ k_84) (fun _ h9 => h9) rfl (by decide +kernel) rfl rfl (Nat.le_of_ble_eq_true rfl) dX1_add_17 (fun H locs hP hD hS => ?_)
  have hP : va_P D vwCl [(fh, .inr (1, G1 fa z_1 z_2 fsumW fsumA fsumWW fsumAA fsumWA fsumWR fsumAR fdivisor fbyWarmth fbyAge fform fwhole frest))] H := hP
  have hD := toW hP hD rfl
  refine lv_aload_n hx hb dX1_add_20 rfl (lv_at hl 0 rfl) ?_
  refine lv_dup hx hb dX1_add_21 rfl ?_
  refine va_get (D := D) (ci := 1) (v := .long fsumW) (C := RX1) (T := TX1) (N := 15) hx hb htb iX1 hown hK.1 hP 0 rfl rfl 2 (by decide) (htb _ k_85) (fun _ h9 => h9) rfl dX1_add_22 ?_
  refine lv_lload_n hx hb dX1_add_25 rfl (lv_at hl 2 rfl) ?_
  refine lv_ladd hx hb dX1_add_26 ?_
  refine lv_topl (fun z_3 ez_3 => ?_)
  refine va_put (D := D) (ci := 1) (v := .long z_3) (ty := .long) (C := RX1) (T := TX1) (N := 15) hx hb htb iX1 tyX1 tyX1_ok nmX1 hown hK.1 hP hD hS 0 rfl rfl 2 (by decide) (htb _ k_85) (fun _ h9 => h9) rfl (by decide +kernel) rfl rfl (Nat.le_of_ble_eq_true rfl) dX1_add_27 (fun H locs hP hD hS => ?_)
  have hP : va_P D vwCl [(fh, .inr (1, G1 fa z_1 z_2 z_3 fsumA fsumWW fsumAA fsumWA fsumWR fsumAR fdivisor fbyWarmth fbyAge fform fwhole frest))] H := hP
  have hD := toW hP hD rfl
  refine lv_aload_n hx hb dX1_add_30 rfl (lv_at hl 0 rfl) ?_
  refine lv_dup hx hb dX1_add_31 rfl ?_
  refine va_get (D := D) (ci := 1) (v := .long fsumA) (C := RX1) (T := TX1) (N := 15) hx hb htb iX1 hown hK.1 hP 0 rfl rfl 3 (by decide) (htb _ k_86) (fun _ h9 => h9) rfl dX1_add_32 ?_
  refine lv_lload hx hb dX1_add_35 (lv_at hl 3 rfl) ?_
  refine lv_ladd hx hb dX1_add_37 ?_
  refine lv_topl (fun z_4 ez_4 => ?_)
  refine va_put (D := D) (ci := 1) (v := .long z_4) (ty := .long) (C := RX1) (T := TX1) (N := 15) hx hb htb iX1 tyX1 tyX1_ok nmX1 hown hK.1 hP hD hS 0 rfl rfl 3 (by decide) (htb _ k_86) (fun _ h9 => h9) rfl (by decide +kernel) rfl rfl (Nat.le_of_ble_eq_true rfl) dX1_add_38 (fun H locs hP hD hS => ?_)
  have hP : va_P D vwCl [(fh, .inr (1, G1 fa z_1 z_2 z_3 z_4 fsumWW fsumAA fsumWA fsumWR fsumAR fdivisor fbyWarmth fbyAge fform fwhole frest))] H := hP
  have hD := toW hP hD rfl
  refine lv_aload_n hx hb dX1_add_41 rfl (lv_at hl 0 rfl) ?_
  refine lv_dup hx hb dX1_add_42 rfl ?_
  refine va_get (D := D) (ci := 1) (v := .long fsumWW) (C := RX1) (T := TX1) (N := 15) hx hb htb iX1 hown hK.1 hP 0 rfl rfl 4 (by decide) (htb _ k_87) (fun _ h9 => h9) rfl dX1_add_43 ?_
  refine lv_lload_n hx hb dX1_add_46 rfl (lv_at hl 2 rfl) ?_
  refine lv_lload_n hx hb dX1_add_47 rfl (lv_at hl 2 rfl) ?_
  refine lv_lmul hx hb dX1_add_48 ?_
  refine lv_topl (fun z_5 ez_5 => ?_)
  refine lv_ladd hx hb dX1_add_49 ?_
  refine lv_topl (fun z_6 ez_6 => ?_)
  refine va_put (D := D) (ci := 1) (v := .long z_6) (ty := .long) (C := RX1) (T := TX1) (N := 15) hx hb htb iX1 tyX1 tyX1_ok nmX1 hown hK.1 hP hD hS 0 rfl rfl 4 (by decide) (htb _ k_87) (fun _ h9 => h9) rfl (by decide +kernel) rfl rfl (Nat.le_of_ble_eq_true rfl) dX1_add_50 (fun H locs hP hD hS => ?_)
  have hP : va_P D vwCl [(fh, .inr (1, G1 fa z_1 z_2 z_3 z_4 z_6 fsumAA fsumWA fsumWR fsumAR fdivisor fbyWarmth fbyAge fform fwhole frest))] H := hP
  have hD := toW hP hD rfl
  refine lv_aload_n hx hb dX1_add_53 rfl (lv_at hl 0 rfl) ?_
  refine lv_dup hx hb dX1_add_54 rfl ?_
  refine va_get (D := D) (ci := 1) (v := .long fsumAA) (C := RX1) (T := TX1) (N := 15) hx hb htb iX1 hown hK.1 hP 0 rfl rfl 5 (by decide) (htb _ k_88) (fun _ h9 => h9) rfl dX1_add_55 ?_
  refine lv_lload hx hb dX1_add_58 (lv_at hl 3 rfl) ?_
  refine lv_lload hx hb dX1_add_60 (lv_at hl 3 rfl) ?_
  refine lv_lmul hx hb dX1_add_62 ?_
  refine lv_topl (fun z_7 ez_7 => ?_)
  refine lv_ladd hx hb dX1_add_63 ?_
  refine lv_topl (fun z_8 ez_8 => ?_)
  refine va_put (D := D) (ci := 1) (v := .long z_8) (ty := .long) (C := RX1) (T := TX1) (N := 15) hx hb htb iX1 tyX1 tyX1_ok nmX1 hown hK.1 hP hD hS 0 rfl rfl 5 (by decide) (htb _ k_88) (fun _ h9 => h9) rfl (by decide +kernel) rfl rfl (Nat.le_of_ble_eq_true rfl) dX1_add_64 (fun H locs hP hD hS => ?_)
  have hP : va_P D vwCl [(fh, .inr (1, G1 fa z_1 z_2 z_3 z_4 z_6 z_8 fsumWA fsumWR fsumAR fdivisor fbyWarmth fbyAge fform fwhole frest))] H := hP
  have hD := toW hP hD rfl
  refine lv_aload_n hx hb dX1_add_67 rfl (lv_at hl 0 rfl) ?_
  refine lv_dup hx hb dX1_add_68 rfl ?_
  refine va_get (D := D) (ci := 1) (v := .long fsumWA) (C := RX1) (T := TX1) (N := 15) hx hb htb iX1 hown hK.1 hP 0 rfl rfl 6 (by decide) (htb _ k_89) (fun _ h9 => h9) rfl dX1_add_69 ?_
  refine lv_lload_n hx hb dX1_add_72 rfl (lv_at hl 2 rfl) ?_
  refine lv_lload hx hb dX1_add_73 (lv_at hl 3 rfl) ?_
  refine lv_lmul hx hb dX1_add_75 ?_
  refine lv_topl (fun z_9 ez_9 => ?_)
  refine lv_ladd hx hb dX1_add_76 ?_
  refine lv_topl (fun z_10 ez_10 => ?_)
  refine va_put (D := D) (ci := 1) (v := .long z_10) (ty := .long) (C := RX1) (T := TX1) (N := 15) hx hb htb iX1 tyX1 tyX1_ok nmX1 hown hK.1 hP hD hS 0 rfl rfl 6 (by decide) (htb _ k_89) (fun _ h9 => h9) rfl (by decide +kernel) rfl rfl (Nat.le_of_ble_eq_true rfl) dX1_add_77 (fun H locs hP hD hS => ?_)
  have hP : va_P D vwCl [(fh, .inr (1, G1 fa z_1 z_2 z_3 z_4 z_6 z_8 z_10 fsumWR fsumAR fdivisor fbyWarmth fbyAge fform fwhole frest))] H := hP
  have hD := toW hP hD rfl
  refine lv_aload_n hx hb dX1_add_80 rfl (lv_at hl 0 rfl) ?_
  refine lv_dup hx hb dX1_add_81 rfl ?_
  refine va_get (D := D) (ci := 1) (v := .long fsumWR) (C := RX1) (T := TX1) (N := 15) hx hb htb iX1 hown hK.1 hP 0 rfl rfl 7 (by decide) (htb _ k_90) (fun _ h9 => h9) rfl dX1_add_82 ?_
  refine lv_lload_n hx hb dX1_add_85 rfl (lv_at hl 2 rfl) ?_
  refine lv_lload_n hx hb dX1_add_86 rfl (lv_at hl 1 rfl) ?_
  refine lv_lmul hx hb dX1_add_87 ?_
  refine lv_topl (fun z_11 ez_11 => ?_)
  refine lv_ladd hx hb dX1_add_88 ?_
  refine lv_topl (fun z_12 ez_12 => ?_)
  refine va_put (D := D) (ci := 1) (v := .long z_12) (ty := .long) (C := RX1) (T := TX1) (N := 15) hx hb htb iX1 tyX1 tyX1_ok nmX1 hown hK.1 hP hD hS 0 rfl rfl 7 (by decide) (htb _ k_90) (fun _ h9 => h9) rfl (by decide +kernel) rfl rfl (Nat.le_of_ble_eq_true rfl) dX1_add_89 (fun H locs hP hD hS => ?_)
  have hP : va_P D vwCl [(fh, .inr (1, G1 fa z_1 z_2 z_3 z_4 z_6 z_8 z_10 z_12 fsumAR fdivisor fbyWarmth fbyAge fform fwhole frest))] H := hP
  have hD := toW hP hD rfl
  refine lv_aload_n hx hb dX1_add_92 rfl (lv_at hl 0 rfl) ?_
  refine lv_dup hx hb dX1_add_93 rfl ?_
  refine va_get (D := D) (ci := 1) (v := .long fsumAR) (C := RX1) (T := TX1) (N := 15) hx hb htb iX1 hown hK.1 hP 0 rfl rfl 8 (by decide) (htb _ k_91) (fun _ h9 => h9) rfl dX1_add_94 ?_
  refine lv_lload hx hb dX1_add_97 (lv_at hl 3 rfl) ?_
  refine lv_lload_n hx hb dX1_add_99 rfl (lv_at hl 1 rfl) ?_
  refine lv_lmul hx hb dX1_add_100 ?_
  refine lv_topl (fun z_13 ez_13 => ?_)
  refine lv_ladd hx hb dX1_add_101 ?_
  refine lv_topl (fun z_14 ez_14 => ?_)
  refine va_put (D := D) (ci := 1) (v := .long z_14) (ty := .long) (C := RX1) (T := TX1) (N := 15) hx hb htb iX1 tyX1 tyX1_ok nmX1 hown hK.1 hP hD hS 0 rfl rfl 8 (by decide) (htb _ k_91) (fun _ h9 => h9) rfl (by decide +kernel) rfl rfl (Nat.le_of_ble_eq_true rfl) dX1_add_102 (fun H locs hP hD hS => ?_)
  have hP : va_P D vwCl [(fh, .inr (1, G1 fa z_1 z_2 z_3 z_4 z_6 z_8 z_10 z_12 z_14 fdivisor fbyWarmth fbyAge fform fwhole frest))] H := hP
  have hD := toW hP hD rfl
  have hP9 := hP.sub (ws' := [(fh, .inr (1, G1 fa z_1 z_2 z_3 z_4 z_6 z_8 z_10 z_12 z_14 fdivisor fbyWarmth fbyAge fform fwhole frest))]) [0] rfl
  have hD9 := hD.sub (ws' := [(fh, .inr (1, G1 fa z_1 z_2 z_3 z_4 z_6 z_8 z_10 z_12 z_14 fdivisor fbyWarmth fbyAge fform fwhole frest))]) [0] (by decide) rfl
  exact W.vret hx hb hr (fun t ht hW => ⟨⟨(z_1, z_4, z_8, z_14, z_2, z_3, z_10, z_12, z_6), rfl, (by (try dsimp only); subst_vars; rfl), by rw [ht]; exact hP9, hD9⟩, hS.F ht⟩) hS.2.2 dX1_add_105
set_option maxHeartbeats 4000000 in
set_option maxRecDepth 100000 in
theorem g_X1_size (l : Launch) (D : va_G) (E : Nat → Nat) (fh : Nat) (fa : Nat → Nat) (fn : Int64) (fsumR : Int64) (fsumW : Int64) (fsumA : Int64) (fsumWW : Int64) (fsumAA : Int64) (fsumWA : Int64) (fsumWR : Int64) (fsumAR : Int64) (fdivisor : Int64) (fbyWarmth : Int64) (fbyAge : Int64) (fform : Int32) (fwhole : Int64) (frest : Int64)  : Met l yX1_size (wl yX1_size cX1_size 1 (some .int)) (RM 0 0 0) (rd_P D E [.ref fh] [(fh, .inr (1, G1 fa fn fsumR fsumW fsumA fsumWW fsumAA fsumWA fsumWR fsumAR fdivisor fbyWarmth fbyAge fform fwhole frest))]) (rd_Q (fun r => (r = fn.toInt32))) 0 0 (fun _ => False) := by
  refine Met.ofW (cc := cX1_size) (maxL := 1) (ret := (some .int)) (by decide) rfl ?_
  intro p e s m args below meth c s₁ B hml hv
  obtain ⟨rfl, hP, hK⟩ := hv
  have hx := B.exec; have hb := B.bytes; have hr := B.returns
  have hts := atoms_spec (ws := wl yX1_size cX1_size 1 (some .int)) B.pre
  have htb : ∀ w ∈ tb, w.before _ s = true := fun w h => hts w (List.mem_cons_of_mem _ h)
  have hown : s.vm.findClass RX1 = some m.cls := findClass_of_methodNamed B.named
  have hlocks := B.notSynchronized
  have hP : va_P D vwCl [(fh, .inr (1, G1 fa fn fsumR fsumW fsumA fsumWW fsumAA fsumWA fsumWR fsumAR fdivisor fbyWarmth fbyAge fform fwhole frest))] s.heap := hP
  have hl := lv_entry ([.ref fh]) (n := 1) (Nat.le_of_ble_eq_true rfl)
  rw [lg_entry_eq]
  generalize (lg_sl ([.ref fh]) ++ List.replicate (1 - (lg_sl ([.ref fh])).length) Slot.unset).toArray = ls at hl ⊢
  have hl : lv_has ls 1 [(0, .ref fh)] := hl
  refine lv_aload_n hx hb dX1_size_0 rfl (lv_at hl 0 rfl) ?_
  refine va_get (D := D) (ci := 1) (v := .long fn) (C := RX1) (T := TX1) (N := 15) hx hb htb iX1 hown hK.1 hP 0 rfl rfl 0 (by decide) (htb _ k_83) (fun _ h9 => h9) rfl dX1_size_1 ?_
  obtain ⟨z_1, ez_1⟩ : ∃ y : Int32, (fn : Int64).toInt32 = y := ⟨_, rfl⟩
  refine lv_l2i hx hb dX1_size_4 ez_1 ?_
  exact W.iret (v := z_1) hx hb hr (fun t ht hW => ⟨z_1, rfl, ez_1.symm, ht⟩) (fun q h => by cases h) dX1_size_5
set_option maxHeartbeats 4000000 in
set_option maxRecDepth 100000 in
theorem g_X1_form (l : Launch) (D : va_G) (E : Nat → Nat) (fh : Nat) (fa : Nat → Nat) (fn : Int64) (fsumR : Int64) (fsumW : Int64) (fsumA : Int64) (fsumWW : Int64) (fsumAA : Int64) (fsumWA : Int64) (fsumWR : Int64) (fsumAR : Int64) (fdivisor : Int64) (fbyWarmth : Int64) (fbyAge : Int64) (fform : Int32) (fwhole : Int64) (frest : Int64)  : Met l yX1_form (wl yX1_form cX1_form 1 (some .int)) (RM 0 0 0) (rd_P D E [.ref fh] [(fh, .inr (1, G1 fa fn fsumR fsumW fsumA fsumWW fsumAA fsumWA fsumWR fsumAR fdivisor fbyWarmth fbyAge fform fwhole frest))]) (rd_Q (fun r => (r = fform))) 0 0 (fun _ => False) := by
  refine Met.ofW (cc := cX1_form) (maxL := 1) (ret := (some .int)) (by decide) rfl ?_
  intro p e s m args below meth c s₁ B hml hv
  obtain ⟨rfl, hP, hK⟩ := hv
  have hx := B.exec; have hb := B.bytes; have hr := B.returns
  have hts := atoms_spec (ws := wl yX1_form cX1_form 1 (some .int)) B.pre
  have htb : ∀ w ∈ tb, w.before _ s = true := fun w h => hts w (List.mem_cons_of_mem _ h)
  have hown : s.vm.findClass RX1 = some m.cls := findClass_of_methodNamed B.named
  have hlocks := B.notSynchronized
  have hP : va_P D vwCl [(fh, .inr (1, G1 fa fn fsumR fsumW fsumA fsumWW fsumAA fsumWA fsumWR fsumAR fdivisor fbyWarmth fbyAge fform fwhole frest))] s.heap := hP
  have hl := lv_entry ([.ref fh]) (n := 1) (Nat.le_of_ble_eq_true rfl)
  rw [lg_entry_eq]
  generalize (lg_sl ([.ref fh]) ++ List.replicate (1 - (lg_sl ([.ref fh])).length) Slot.unset).toArray = ls at hl ⊢
  have hl : lv_has ls 1 [(0, .ref fh)] := hl
  refine lv_aload_n hx hb dX1_form_0 rfl (lv_at hl 0 rfl) ?_
  refine va_get (D := D) (ci := 1) (v := .int fform) (C := RX1) (T := TX1) (N := 15) hx hb htb iX1 hown hK.1 hP 0 rfl rfl 12 (by decide) (htb _ k_95) (fun _ h9 => h9) rfl dX1_form_1 ?_
  exact W.iret (v := fform) hx hb hr (fun t ht hW => ⟨fform, rfl, rfl, ht⟩) (fun q h => by cases h) dX1_form_4
set_option maxHeartbeats 4000000 in
set_option maxRecDepth 100000 in
theorem g_X1_setLaw (l : Launch) (D : va_G) (E : Nat → Nat) (fh : Nat) (fa : Nat → Nat) (fn : Int64) (fsumR : Int64) (fsumW : Int64) (fsumA : Int64) (fsumWW : Int64) (fsumAA : Int64) (fsumWA : Int64) (fsumWR : Int64) (fsumAR : Int64) (fdivisor : Int64) (fbyWarmth : Int64) (fbyAge : Int64) (fform : Int32) (fwhole : Int64) (frest : Int64) (p0 : Int32) (p1 : Int64) (p2 : Int64) (p3 : Int64) (sz : Nat)  : Met l yX1_setLaw (wl yX1_setLaw cX1_setLaw 8 none) (RM 0 0 0) (mu_P D E [.ref fh, .int p0, .long p1, .long p2, .long p3] [(fh, .inr (1, G1 fa fn fsumR fsumW fsumA fsumWW fsumAA fsumWA fsumWR fsumAR fdivisor fbyWarmth fbyAge fform fwhole frest))] sz) (va_Qv (fun (u : (Int64) × (Int64) × (Int64) × (Int32)) => (((u.2.2.2, u.2.2.1, u.2.1, u.1) : Int32 × Int64 × Int64 × Int64) = (p0, p1, p2, p3))) (mu_B D (va_A [(fh, .inr (1, G1 fa fn fsumR fsumW fsumA fsumWW fsumAA fsumWA fsumWR fsumAR fdivisor fbyWarmth fbyAge fform fwhole frest))] sz) (fun (u : (Int64) × (Int64) × (Int64) × (Int32)) => [(fh, .inr (1, G1 fa fn fsumR fsumW fsumA fsumWW fsumAA fsumWA fsumWR fsumAR u.2.2.1 u.2.1 u.1 u.2.2.2 fwhole frest))])) (va_A [(fh, .inr (1, G1 fa fn fsumR fsumW fsumA fsumWW fsumAA fsumWA fsumWR fsumAR fdivisor fbyWarmth fbyAge fform fwhole frest))] sz)) 0 0 (va_A [(fh, .inr (1, G1 fa fn fsumR fsumW fsumA fsumWW fsumAA fsumWA fsumWR fsumAR fdivisor fbyWarmth fbyAge fform fwhole frest))] sz) := by
  refine Met.ofW (cc := cX1_setLaw) (maxL := 8) (ret := none) (by decide) rfl ?_
  intro p e s m args below meth c s₁ B hml hv
  obtain ⟨rfl, hsz, hP, hK, hD0⟩ := hv
  have hx := B.exec; have hb := B.bytes; have hr := B.returns
  have hts := atoms_spec (ws := wl yX1_setLaw cX1_setLaw 8 none) B.pre
  have htb : ∀ w ∈ tb, w.before _ s = true := fun w h => hts w (List.mem_cons_of_mem _ h)
  have hown : s.vm.findClass RX1 = some m.cls := findClass_of_methodNamed B.named
  have hlocks := B.notSynchronized
  subst hsz
  have hD := hD0.self (sz := s.heap.size)
  generalize hAe : va_A [(fh, .inr (1, G1 fa fn fsumR fsumW fsumA fsumWW fsumAA fsumWA fsumWR fsumAR fdivisor fbyWarmth fbyAge fform fwhole frest))] s.heap.size = A at hD ⊢
  have hA : ∀ q : Nat, s.heap.size ≤ q → A q := fun q h => by rw [← hAe]; exact Or.inr h
  have hS : va_S A s.heap s.heap [] := va_S.rf
  have hP : va_P D vwCl [(fh, .inr (1, G1 fa fn fsumR fsumW fsumA fsumWW fsumAA fsumWA fsumWR fsumAR fdivisor fbyWarmth fbyAge fform fwhole frest))] s.heap := hP
  have hl := lv_entry ([.ref fh, .int p0, .long p1, .long p2, .long p3]) (n := 8) (Nat.le_of_ble_eq_true rfl)
  rw [lg_entry_eq]
  generalize (lg_sl ([.ref fh, .int p0, .long p1, .long p2, .long p3]) ++ List.replicate (8 - (lg_sl ([.ref fh, .int p0, .long p1, .long p2, .long p3])).length) Slot.unset).toArray = ls at hl ⊢
  have hl : lv_has ls 8 [(0, .ref fh), (1, .int p0), (2, .long p1), (4, .long p2), (6, .long p3)] := hl
  have lo_p0 := i_lo p0; have hi_p0 := i_hi p0
  refine lv_aload_n hx hb dX1_setLaw_0 rfl (lv_at hl 0 rfl) ?_
  refine lv_iload_n hx hb dX1_setLaw_1 rfl (lv_at hl 1 rfl) ?_
  refine va_put (D := D) (ci := 1) (v := .int p0) (ty := .int) (C := RX1) (T := TX1) (N := 15) hx hb htb iX1 tyX1 tyX1_ok nmX1 hown hK.1 hP hD hS 0 rfl rfl 12 (by decide) (htb _ k_95) (fun _ h9 => h9) rfl (by decide +kernel) rfl rfl (Nat.le_of_ble_eq_true rfl) dX1_setLaw_2 (fun H locs hP hD hS => ?_)
  have hP : va_P D vwCl [(fh, .inr (1, G1 fa fn fsumR fsumW fsumA fsumWW fsumAA fsumWA fsumWR fsumAR fdivisor fbyWarmth fbyAge p0 fwhole frest))] H := hP
  have hD := toW hP hD rfl
  refine lv_aload_n hx hb dX1_setLaw_5 rfl (lv_at hl 0 rfl) ?_
  refine lv_lload_n hx hb dX1_setLaw_6 rfl (lv_at hl 2 rfl) ?_
  refine va_put (D := D) (ci := 1) (v := .long p1) (ty := .long) (C := RX1) (T := TX1) (N := 15) hx hb htb iX1 tyX1 tyX1_ok nmX1 hown hK.1 hP hD hS 0 rfl rfl 9 (by decide) (htb _ k_92) (fun _ h9 => h9) rfl (by decide +kernel) rfl rfl (Nat.le_of_ble_eq_true rfl) dX1_setLaw_7 (fun H locs hP hD hS => ?_)
  have hP : va_P D vwCl [(fh, .inr (1, G1 fa fn fsumR fsumW fsumA fsumWW fsumAA fsumWA fsumWR fsumAR p1 fbyWarmth fbyAge p0 fwhole frest))] H := hP
  have hD := toW hP hD rfl
  refine lv_aload_n hx hb dX1_setLaw_10 rfl (lv_at hl 0 rfl) ?_
  refine lv_lload hx hb dX1_setLaw_11 (lv_at hl 3 rfl) ?_
  refine va_put (D := D) (ci := 1) (v := .long p2) (ty := .long) (C := RX1) (T := TX1) (N := 15) hx hb htb iX1 tyX1 tyX1_ok nmX1 hown hK.1 hP hD hS 0 rfl rfl 10 (by decide) (htb _ k_93) (fun _ h9 => h9) rfl (by decide +kernel) rfl rfl (Nat.le_of_ble_eq_true rfl) dX1_setLaw_13 (fun H locs hP hD hS => ?_)
  have hP : va_P D vwCl [(fh, .inr (1, G1 fa fn fsumR fsumW fsumA fsumWW fsumAA fsumWA fsumWR fsumAR p1 p2 fbyAge p0 fwhole frest))] H := hP
  have hD := toW hP hD rfl
  refine lv_aload_n hx hb dX1_setLaw_16 rfl (lv_at hl 0 rfl) ?_
  refine lv_lload hx hb dX1_setLaw_17 (lv_at hl 4 rfl) ?_
  refine va_put (D := D) (ci := 1) (v := .long p3) (ty := .long) (C := RX1) (T := TX1) (N := 15) hx hb htb iX1 tyX1 tyX1_ok nmX1 hown hK.1 hP hD hS 0 rfl rfl 11 (by decide) (htb _ k_94) (fun _ h9 => h9) rfl (by decide +kernel) rfl rfl (Nat.le_of_ble_eq_true rfl) dX1_setLaw_19 (fun H locs hP hD hS => ?_)
  have hP : va_P D vwCl [(fh, .inr (1, G1 fa fn fsumR fsumW fsumA fsumWW fsumAA fsumWA fsumWR fsumAR p1 p2 p3 p0 fwhole frest))] H := hP
  have hD := toW hP hD rfl
  have hP9 := hP.sub (ws' := [(fh, .inr (1, G1 fa fn fsumR fsumW fsumA fsumWW fsumAA fsumWA fsumWR fsumAR p1 p2 p3 p0 fwhole frest))]) [0] rfl
  have hD9 := hD.sub (ws' := [(fh, .inr (1, G1 fa fn fsumR fsumW fsumA fsumWW fsumAA fsumWA fsumWR fsumAR p1 p2 p3 p0 fwhole frest))]) [0] (by decide) rfl
  exact W.vret hx hb hr (fun t ht hW => ⟨⟨(p3, p2, p1, p0), rfl, (by (try dsimp only)), by rw [ht]; exact hP9, hD9⟩, hS.F ht⟩) hS.2.2 dX1_setLaw_22
set_option maxHeartbeats 4000000 in
set_option maxRecDepth 100000 in
theorem g_X1_solve (l : Launch) (D : va_G) (E : Nat → Nat) (fh : Nat) (fa : Nat → Nat) (fn : Int64) (fsumR : Int64) (fsumW : Int64) (fsumA : Int64) (fsumWW : Int64) (fsumAA : Int64) (fsumWA : Int64) (fsumWR : Int64) (fsumAR : Int64) (fdivisor : Int64) (fbyWarmth : Int64) (fbyAge : Int64) (fform : Int32) (fwhole : Int64) (frest : Int64) (sz : Nat)  : Met l yX1_solve (wl yX1_solve cX1_solve 13 none) (RM 1 0 0) (mu_P D E [.ref fh] [(fh, .inr (1, G1 fa fn fsumR fsumW fsumA fsumWW fsumAA fsumWA fsumWR fsumAR fdivisor fbyWarmth fbyAge fform fwhole frest))] sz) (va_Qv (fun (u : (Int64) × (Int64) × (Int64) × (Int32)) => (((u.2.2.2, u.2.2.1, u.2.1, u.1) : Int32 × Int64 × Int64 × Int64) = solX ((fn, fsumR, fsumW, fsumA, fsumWW, fsumAA, fsumWA, fsumWR, fsumAR) : S9))) (mu_B D (va_A [(fh, .inr (1, G1 fa fn fsumR fsumW fsumA fsumWW fsumAA fsumWA fsumWR fsumAR fdivisor fbyWarmth fbyAge fform fwhole frest))] sz) (fun (u : (Int64) × (Int64) × (Int64) × (Int32)) => [(fh, .inr (1, G1 fa fn fsumR fsumW fsumA fsumWW fsumAA fsumWA fsumWR fsumAR u.2.2.1 u.2.1 u.1 u.2.2.2 fwhole frest))])) (va_A [(fh, .inr (1, G1 fa fn fsumR fsumW fsumA fsumWW fsumAA fsumWA fsumWR fsumAR fdivisor fbyWarmth fbyAge fform fwhole frest))] sz)) 0 0 (va_A [(fh, .inr (1, G1 fa fn fsumR fsumW fsumA fsumWW fsumAA fsumWA fsumWR fsumAR fdivisor fbyWarmth fbyAge fform fwhole frest))] sz) := by
  refine Met.ofW (cc := cX1_solve) (maxL := 13) (ret := none) (by decide) rfl ?_
  intro p e s m args below meth c s₁ B hml hv
  obtain ⟨rfl, hsz, hP, hK, hD0⟩ := hv
  have hx := B.exec; have hb := B.bytes; have hr := B.returns
  have hts := atoms_spec (ws := wl yX1_solve cX1_solve 13 none) B.pre
  have htb : ∀ w ∈ tb, w.before _ s = true := fun w h => hts w (List.mem_cons_of_mem _ h)
  have hown : s.vm.findClass RX1 = some m.cls := findClass_of_methodNamed B.named
  have hlocks := B.notSynchronized
  subst hsz
  have hD := hD0.self (sz := s.heap.size)
  generalize hAe : va_A [(fh, .inr (1, G1 fa fn fsumR fsumW fsumA fsumWW fsumAA fsumWA fsumWR fsumAR fdivisor fbyWarmth fbyAge fform fwhole frest))] s.heap.size = A at hD ⊢
  have hA : ∀ q : Nat, s.heap.size ≤ q → A q := fun q h => by rw [← hAe]; exact Or.inr h
  have hS : va_S A s.heap s.heap [] := va_S.rf
  have hP : va_P D vwCl [(fh, .inr (1, G1 fa fn fsumR fsumW fsumA fsumWW fsumAA fsumWA fsumWR fsumAR fdivisor fbyWarmth fbyAge fform fwhole frest))] s.heap := hP
  have hl := lv_entry ([.ref fh]) (n := 13) (Nat.le_of_ble_eq_true rfl)
  rw [lg_entry_eq]
  generalize (lg_sl ([.ref fh]) ++ List.replicate (13 - (lg_sl ([.ref fh])).length) Slot.unset).toArray = ls at hl ⊢
  have hl : lv_has ls 13 [(0, .ref fh)] := hl
  refine lv_aload_n hx hb dX1_solve_0 rfl (lv_at hl 0 rfl) ?_
  refine va_get (D := D) (ci := 1) (v := .long fn) (C := RX1) (T := TX1) (N := 15) hx hb htb iX1 hown hK.1 hP 0 rfl rfl 0 (by decide) (htb _ k_83) (fun _ h9 => h9) rfl dX1_solve_1 ?_
  refine lv_aload_n hx hb dX1_solve_4 rfl (lv_at hl 0 rfl) ?_
  refine va_get (D := D) (ci := 1) (v := .long fsumWW) (C := RX1) (T := TX1) (N := 15) hx hb htb iX1 hown hK.1 hP 0 rfl rfl 4 (by decide) (htb _ k_87) (fun _ h9 => h9) rfl dX1_solve_5 ?_
  refine lv_lmul hx hb dX1_solve_8 ?_
  refine lv_topl (fun z_1 ez_1 => ?_)
  refine lv_aload_n hx hb dX1_solve_9 rfl (lv_at hl 0 rfl) ?_
  refine va_get (D := D) (ci := 1) (v := .long fsumW) (C := RX1) (T := TX1) (N := 15) hx hb htb iX1 hown hK.1 hP 0 rfl rfl 2 (by decide) (htb _ k_85) (fun _ h9 => h9) rfl dX1_solve_10 ?_
  refine lv_aload_n hx hb dX1_solve_13 rfl (lv_at hl 0 rfl) ?_
  refine va_get (D := D) (ci := 1) (v := .long fsumW) (C := RX1) (T := TX1) (N := 15) hx hb htb iX1 hown hK.1 hP 0 rfl rfl 2 (by decide) (htb _ k_85) (fun _ h9 => h9) rfl dX1_solve_14 ?_
  refine lv_lmul hx hb dX1_solve_17 ?_
  refine lv_topl (fun z_2 ez_2 => ?_)
  refine lv_lsub hx hb dX1_solve_18 ?_
  refine lv_topl (fun z_3 ez_3 => ?_)
  refine lv_lstore_n (lv' := [(1, .long z_3), (0, .ref fh)]) hx hb dX1_solve_19 rfl hl (by decide) rfl (fun ls hl => ?_)
  refine lv_aload_n hx hb dX1_solve_20 rfl (lv_at hl 1 rfl) ?_
  refine va_get (D := D) (ci := 1) (v := .long fn) (C := RX1) (T := TX1) (N := 15) hx hb htb iX1 hown hK.1 hP 0 rfl rfl 0 (by decide) (htb _ k_83) (fun _ h9 => h9) rfl dX1_solve_21 ?_
  refine lv_aload_n hx hb dX1_solve_24 rfl (lv_at hl 1 rfl) ?_
  refine va_get (D := D) (ci := 1) (v := .long fsumAA) (C := RX1) (T := TX1) (N := 15) hx hb htb iX1 hown hK.1 hP 0 rfl rfl 5 (by decide) (htb _ k_88) (fun _ h9 => h9) rfl dX1_solve_25 ?_
  refine lv_lmul hx hb dX1_solve_28 ?_
  refine lv_topl (fun z_4 ez_4 => ?_)
  refine lv_aload_n hx hb dX1_solve_29 rfl (lv_at hl 1 rfl) ?_
  refine va_get (D := D) (ci := 1) (v := .long fsumA) (C := RX1) (T := TX1) (N := 15) hx hb htb iX1 hown hK.1 hP 0 rfl rfl 3 (by decide) (htb _ k_86) (fun _ h9 => h9) rfl dX1_solve_30 ?_
  refine lv_aload_n hx hb dX1_solve_33 rfl (lv_at hl 1 rfl) ?_
  refine va_get (D := D) (ci := 1) (v := .long fsumA) (C := RX1) (T := TX1) (N := 15) hx hb htb iX1 hown hK.1 hP 0 rfl rfl 3 (by decide) (htb _ k_86) (fun _ h9 => h9) rfl dX1_solve_34 ?_
  refine lv_lmul hx hb dX1_solve_37 ?_
  refine lv_topl (fun z_5 ez_5 => ?_)
  refine lv_lsub hx hb dX1_solve_38 ?_
  refine lv_topl (fun z_6 ez_6 => ?_)
  refine lv_lstore_n (lv' := [(3, .long z_6), (1, .long z_3), (0, .ref fh)]) hx hb dX1_solve_39 rfl hl (by decide) rfl (fun ls hl => ?_)
  refine lv_aload_n hx hb dX1_solve_40 rfl (lv_at hl 2 rfl) ?_
  refine va_get (D := D) (ci := 1) (v := .long fn) (C := RX1) (T := TX1) (N := 15) hx hb htb iX1 hown hK.1 hP 0 rfl rfl 0 (by decide) (htb _ k_83) (fun _ h9 => h9) rfl dX1_solve_41 ?_
  refine lv_aload_n hx hb dX1_solve_44 rfl (lv_at hl 2 rfl) ?_
  refine va_get (D := D) (ci := 1) (v := .long fsumWA) (C := RX1) (T := TX1) (N := 15) hx hb htb iX1 hown hK.1 hP 0 rfl rfl 6 (by decide) (htb _ k_89) (fun _ h9 => h9) rfl dX1_solve_45 ?_
  refine lv_lmul hx hb dX1_solve_48 ?_
  refine lv_topl (fun z_7 ez_7 => ?_)
  refine lv_aload_n hx hb dX1_solve_49 rfl (lv_at hl 2 rfl) ?_
  refine va_get (D := D) (ci := 1) (v := .long fsumW) (C := RX1) (T := TX1) (N := 15) hx hb htb iX1 hown hK.1 hP 0 rfl rfl 2 (by decide) (htb _ k_85) (fun _ h9 => h9) rfl dX1_solve_50 ?_
  refine lv_aload_n hx hb dX1_solve_53 rfl (lv_at hl 2 rfl) ?_
  refine va_get (D := D) (ci := 1) (v := .long fsumA) (C := RX1) (T := TX1) (N := 15) hx hb htb iX1 hown hK.1 hP 0 rfl rfl 3 (by decide) (htb _ k_86) (fun _ h9 => h9) rfl dX1_solve_54 ?_
  refine lv_lmul hx hb dX1_solve_57 ?_
  refine lv_topl (fun z_8 ez_8 => ?_)
  refine lv_lsub hx hb dX1_solve_58 ?_
  refine lv_topl (fun z_9 ez_9 => ?_)
  refine lv_lstore (lv' := [(5, .long z_9), (3, .long z_6), (1, .long z_3), (0, .ref fh)]) hx hb dX1_solve_59 hl (by decide) rfl (fun ls hl => ?_)
  refine lv_aload_n hx hb dX1_solve_61 rfl (lv_at hl 3 rfl) ?_
  refine va_get (D := D) (ci := 1) (v := .long fn) (C := RX1) (T := TX1) (N := 15) hx hb htb iX1 hown hK.1 hP 0 rfl rfl 0 (by decide) (htb _ k_83) (fun _ h9 => h9) rfl dX1_solve_62 ?_
  refine lv_aload_n hx hb dX1_solve_65 rfl (lv_at hl 3 rfl) ?_
  refine va_get (D := D) (ci := 1) (v := .long fsumWR) (C := RX1) (T := TX1) (N := 15) hx hb htb iX1 hown hK.1 hP 0 rfl rfl 7 (by decide) (htb _ k_90) (fun _ h9 => h9) rfl dX1_solve_66 ?_
  refine lv_lmul hx hb dX1_solve_69 ?_
  refine lv_topl (fun z_10 ez_10 => ?_)
  refine lv_aload_n hx hb dX1_solve_70 rfl (lv_at hl 3 rfl) ?_
  refine va_get (D := D) (ci := 1) (v := .long fsumW) (C := RX1) (T := TX1) (N := 15) hx hb htb iX1 hown hK.1 hP 0 rfl rfl 2 (by decide) (htb _ k_85) (fun _ h9 => h9) rfl dX1_solve_71 ?_
  refine lv_aload_n hx hb dX1_solve_74 rfl (lv_at hl 3 rfl) ?_
  refine va_get (D := D) (ci := 1) (v := .long fsumR) (C := RX1) (T := TX1) (N := 15) hx hb htb iX1 hown hK.1 hP 0 rfl rfl 1 (by decide) (htb _ k_84) (fun _ h9 => h9) rfl dX1_solve_75 ?_
  refine lv_lmul hx hb dX1_solve_78 ?_
  refine lv_topl (fun z_11 ez_11 => ?_)
  refine lv_lsub hx hb dX1_solve_79 ?_
  refine lv_topl (fun z_12 ez_12 => ?_)
  refine lv_lstore (lv' := [(7, .long z_12), (5, .long z_9), (3, .long z_6), (1, .long z_3), (0, .ref fh)]) hx hb dX1_solve_80 hl (by decide) rfl (fun ls hl => ?_)
  refine lv_aload_n hx hb dX1_solve_82 rfl (lv_at hl 4 rfl) ?_
  refine va_get (D := D) (ci := 1) (v := .long fn) (C := RX1) (T := TX1) (N := 15) hx hb htb iX1 hown hK.1 hP 0 rfl rfl 0 (by decide) (htb _ k_83) (fun _ h9 => h9) rfl dX1_solve_83 ?_
  refine lv_aload_n hx hb dX1_solve_86 rfl (lv_at hl 4 rfl) ?_
  refine va_get (D := D) (ci := 1) (v := .long fsumAR) (C := RX1) (T := TX1) (N := 15) hx hb htb iX1 hown hK.1 hP 0 rfl rfl 8 (by decide) (htb _ k_91) (fun _ h9 => h9) rfl dX1_solve_87 ?_
  refine lv_lmul hx hb dX1_solve_90 ?_
  refine lv_topl (fun z_13 ez_13 => ?_)
  refine lv_aload_n hx hb dX1_solve_91 rfl (lv_at hl 4 rfl) ?_
  refine va_get (D := D) (ci := 1) (v := .long fsumA) (C := RX1) (T := TX1) (N := 15) hx hb htb iX1 hown hK.1 hP 0 rfl rfl 3 (by decide) (htb _ k_86) (fun _ h9 => h9) rfl dX1_solve_92 ?_
  refine lv_aload_n hx hb dX1_solve_95 rfl (lv_at hl 4 rfl) ?_
  refine va_get (D := D) (ci := 1) (v := .long fsumR) (C := RX1) (T := TX1) (N := 15) hx hb htb iX1 hown hK.1 hP 0 rfl rfl 1 (by decide) (htb _ k_84) (fun _ h9 => h9) rfl dX1_solve_96 ?_
  refine lv_lmul hx hb dX1_solve_99 ?_
  refine lv_topl (fun z_14 ez_14 => ?_)
  refine lv_lsub hx hb dX1_solve_100 ?_
  refine lv_topl (fun z_15 ez_15 => ?_)
  refine lv_lstore (lv' := [(9, .long z_15), (7, .long z_12), (5, .long z_9), (3, .long z_6), (1, .long z_3), (0, .ref fh)]) hx hb dX1_solve_101 hl (by decide) rfl (fun ls hl => ?_)
  refine lv_lload_n hx hb dX1_solve_103 rfl (lv_at hl 4 rfl) ?_
  refine lv_lload_n hx hb dX1_solve_104 rfl (lv_at hl 3 rfl) ?_
  refine lv_lmul hx hb dX1_solve_105 ?_
  refine lv_topl (fun z_16 ez_16 => ?_)
  refine lv_lload hx hb dX1_solve_106 (lv_at hl 2 rfl) ?_
  refine lv_lload hx hb dX1_solve_108 (lv_at hl 2 rfl) ?_
  refine lv_lmul hx hb dX1_solve_110 ?_
  refine lv_topl (fun z_17 ez_17 => ?_)
  refine lv_lsub hx hb dX1_solve_111 ?_
  refine lv_topl (fun z_18 ez_18 => ?_)
  refine lv_lstore (lv' := [(11, .long z_18), (9, .long z_15), (7, .long z_12), (5, .long z_9), (3, .long z_6), (1, .long z_3), (0, .ref fh)]) hx hb dX1_solve_112 hl (by decide) rfl (fun ls hl => ?_)
  refine lv_lload hx hb dX1_solve_114 (lv_at hl 0 rfl) ?_
  refine lv_lconst (v := 0) hx hb dX1_solve_116 (by decide) ?_
  refine W.lcmp hx hb dX1_solve_117 ?_
  refine lv_topi (fun z_19 ez_19 => ?_)
  refine lv_if_le (tgt := 151) hx hb dX1_solve_118 (by decide) (fun c_20 => ?_) (fun c_20 => ?_)
  ·
    have lc_21 : (z_18 : Int64).toInt ≤ (0 : Int64).toInt := lc_leI (by rw [← ez_19]; first | exact Or.inl c_20 | exact Or.inr c_20)
    refine lv_lload_n hx hb dX1_solve_151 rfl (lv_at hl 5 rfl) ?_
    refine lv_lconst (v := 0) hx hb dX1_solve_152 (by decide) ?_
    refine W.lcmp hx hb dX1_solve_153 ?_
    refine lv_topi (fun z_22 ez_22 => ?_)
    refine lv_if_le (tgt := 169) hx hb dX1_solve_154 (by decide) (fun c_23 => ?_) (fun c_23 => ?_)
    ·
      have lc_24 : (z_3 : Int64).toInt ≤ (0 : Int64).toInt := lc_leI (by rw [← ez_22]; first | exact Or.inl c_23 | exact Or.inr c_23)
      refine lv_lload_n hx hb dX1_solve_169 rfl (lv_at hl 4 rfl) ?_
      refine lv_lconst (v := 0) hx hb dX1_solve_170 (by decide) ?_
      refine W.lcmp hx hb dX1_solve_171 ?_
      refine lv_topi (fun z_25 ez_25 => ?_)
      refine lv_if_le (tgt := 187) hx hb dX1_solve_172 (by decide) (fun c_26 => ?_) (fun c_26 => ?_)
      ·
        have lc_27 : (z_6 : Int64).toInt ≤ (0 : Int64).toInt := lc_leI (by rw [← ez_25]; first | exact Or.inl c_26 | exact Or.inr c_26)
        refine lv_aload_n hx hb dX1_solve_187 rfl (lv_at hl 6 rfl) ?_
        refine lv_iconst (v := 1) hx hb dX1_solve_188 (by decide) ?_
        refine lv_lconst (v := 1) hx hb dX1_solve_189 (by decide) ?_
        refine lv_lconst (v := 0) hx hb dX1_solve_190 (by decide) ?_
        refine lv_lconst (v := 0) hx hb dX1_solve_191 (by decide) ?_
        have hPc := hP.sub (ws' := [(fh, .inr (1, G1 fa fn fsumR fsumW fsumA fsumWW fsumAA fsumWA fsumWR fsumAR fdivisor fbyWarmth fbyAge fform fwhole frest))]) [0] rfl
        have hDc := hD.sub (ws' := [(fh, .inr (1, G1 fa fn fsumR fsumW fsumA fsumWW fsumAA fsumWA fsumWR fsumAR fdivisor fbyWarmth fbyAge fform fwhole frest))]) [0] (by decide) rfl
        refine aft_v (runMV (rest := []) (As := [.int 1, .long 1, .long 0, .long 0]) hx hb hml hown htb hK (g_X1_setLaw l D E fh fa fn fsumR fsumW fsumA fsumWW fsumAA fsumWA fsumWR fsumAR fdivisor fbyWarmth fbyAge fform fwhole frest 1 1 0 0 _ ) ok_X1_setLaw k_517 k_519 ks_8 k_4 k_520 ⟨(Nat.le_of_ble_eq_true rfl), (Nat.le_of_ble_eq_true rfl)⟩ ⟨(Nat.le_of_ble_eq_true rfl), (Nat.le_of_ble_eq_true rfl)⟩ hl.1 (Nat.le_of_ble_eq_true rfl) rfl rfl dX1_solve_192 hPc hDc rfl rfl 0 rfl) hP hD hS hA [0] [] (wr := ([] : va_W)) rfl rfl (by decide) (by decide) (fun u_30 H locs hw_29 hP hD hS => ?_)
        clear hPc hDc
        obtain ⟨w_31, w_32, w_33, w_34⟩ := u_30
        try dsimp only at hw_29
        have hP : va_P D vwCl [(fh, .inr (1, G1 fa fn fsumR fsumW fsumA fsumWW fsumAA fsumWA fsumWR fsumAR w_33 w_32 w_31 w_34 fwhole frest))] H := hP
        have hD := toW hP hD rfl
        try simp only [t_0, t_1] at hw_29
        have hP9 := hP.sub (ws' := [(fh, .inr (1, G1 fa fn fsumR fsumW fsumA fsumWW fsumAA fsumWA fsumWR fsumAR w_33 w_32 w_31 w_34 fwhole frest))]) [0] rfl
        have hD9 := hD.sub (ws' := [(fh, .inr (1, G1 fa fn fsumR fsumW fsumA fsumWW fsumAA fsumWA fsumWR fsumAR w_33 w_32 w_31 w_34 fwhole frest))]) [0] (by decide) rfl
        exact W.vret hx hb hr (fun t ht hW => ⟨⟨(w_31, w_32, w_33, w_34), rfl, (by (try dsimp only); rw [hw_29]; unfold solX; (try dsimp only); rw [if_neg (by have h0 : (0 : Int64).toInt = 0 := by { decide }; have h9 := lc_21; subst_vars; omega)]; rw [if_neg (by have h0 : (0 : Int64).toInt = 0 := by { decide }; have h9 := lc_24; subst_vars; omega)]; rw [if_neg (by have h0 : (0 : Int64).toInt = 0 := by { decide }; have h9 := lc_27; subst_vars; omega)]; (try subst_vars); (try rfl)), by rw [ht]; exact hP9, hD9⟩, hS.F ht⟩) hS.2.2 dX1_solve_195
      ·
        have lc_35 : (0 : Int64).toInt < (z_6 : Int64).toInt := lc_gtI (by rw [← ez_25]; first | exact Or.inl c_26 | exact Or.inr c_26)
        refine lv_aload_n hx hb dX1_solve_175 rfl (lv_at hl 6 rfl) ?_
        refine lv_iconst (v := 4) hx hb dX1_solve_176 (by decide) ?_
        refine lv_lload_n hx hb dX1_solve_177 rfl (lv_at hl 4 rfl) ?_
        refine lv_lconst (v := 0) hx hb dX1_solve_178 (by decide) ?_
        refine lv_lload hx hb dX1_solve_179 (lv_at hl 1 rfl) ?_
        have hPc := hP.sub (ws' := [(fh, .inr (1, G1 fa fn fsumR fsumW fsumA fsumWW fsumAA fsumWA fsumWR fsumAR fdivisor fbyWarmth fbyAge fform fwhole frest))]) [0] rfl
        have hDc := hD.sub (ws' := [(fh, .inr (1, G1 fa fn fsumR fsumW fsumA fsumWW fsumAA fsumWA fsumWR fsumAR fdivisor fbyWarmth fbyAge fform fwhole frest))]) [0] (by decide) rfl
        refine aft_v (runMV (rest := []) (As := [.int 4, .long z_6, .long 0, .long z_15]) hx hb hml hown htb hK (g_X1_setLaw l D E fh fa fn fsumR fsumW fsumA fsumWW fsumAA fsumWA fsumWR fsumAR fdivisor fbyWarmth fbyAge fform fwhole frest 4 z_6 0 z_15 _ ) ok_X1_setLaw k_517 k_519 ks_8 k_4 k_520 ⟨(Nat.le_of_ble_eq_true rfl), (Nat.le_of_ble_eq_true rfl)⟩ ⟨(Nat.le_of_ble_eq_true rfl), (Nat.le_of_ble_eq_true rfl)⟩ hl.1 (Nat.le_of_ble_eq_true rfl) rfl rfl dX1_solve_181 hPc hDc rfl rfl 0 rfl) hP hD hS hA [0] [] (wr := ([] : va_W)) rfl rfl (by decide) (by decide) (fun u_38 H locs hw_37 hP hD hS => ?_)
        clear hPc hDc
        obtain ⟨w_39, w_40, w_41, w_42⟩ := u_38
        try dsimp only at hw_37
        have hP : va_P D vwCl [(fh, .inr (1, G1 fa fn fsumR fsumW fsumA fsumWW fsumAA fsumWA fsumWR fsumAR w_41 w_40 w_39 w_42 fwhole frest))] H := hP
        have hD := toW hP hD rfl
        try simp only [t_0, t_4] at hw_37
        refine lv_goto (tgt := 195) hx hb dX1_solve_184 (by decide) ?_
        have hP9 := hP.sub (ws' := [(fh, .inr (1, G1 fa fn fsumR fsumW fsumA fsumWW fsumAA fsumWA fsumWR fsumAR w_41 w_40 w_39 w_42 fwhole frest))]) [0] rfl
        have hD9 := hD.sub (ws' := [(fh, .inr (1, G1 fa fn fsumR fsumW fsumA fsumWW fsumAA fsumWA fsumWR fsumAR w_41 w_40 w_39 w_42 fwhole frest))]) [0] (by decide) rfl
        exact W.vret hx hb hr (fun t ht hW => ⟨⟨(w_39, w_40, w_41, w_42), rfl, (by (try dsimp only); rw [hw_37]; unfold solX; (try dsimp only); rw [if_neg (by have h0 : (0 : Int64).toInt = 0 := by { decide }; have h9 := lc_21; subst_vars; omega)]; rw [if_neg (by have h0 : (0 : Int64).toInt = 0 := by { decide }; have h9 := lc_24; subst_vars; omega)]; rw [if_pos (by have h0 : (0 : Int64).toInt = 0 := by { decide }; have h9 := lc_35; subst_vars; omega)]; (try subst_vars); (try rfl)), by rw [ht]; exact hP9, hD9⟩, hS.F ht⟩) hS.2.2 dX1_solve_195
    ·
      have lc_43 : (0 : Int64).toInt < (z_3 : Int64).toInt := lc_gtI (by rw [← ez_22]; first | exact Or.inl c_23 | exact Or.inr c_23)
      refine lv_aload_n hx hb dX1_solve_157 rfl (lv_at hl 6 rfl) ?_
      refine lv_iconst (v := 2) hx hb dX1_solve_158 (by decide) ?_
      refine lv_lload_n hx hb dX1_solve_159 rfl (lv_at hl 5 rfl) ?_
      refine lv_lload hx hb dX1_solve_160 (lv_at hl 2 rfl) ?_
      refine lv_lconst (v := 0) hx hb dX1_solve_162 (by decide) ?_
      have hPc := hP.sub (ws' := [(fh, .inr (1, G1 fa fn fsumR fsumW fsumA fsumWW fsumAA fsumWA fsumWR fsumAR fdivisor fbyWarmth fbyAge fform fwhole frest))]) [0] rfl
      have hDc := hD.sub (ws' := [(fh, .inr (1, G1 fa fn fsumR fsumW fsumA fsumWW fsumAA fsumWA fsumWR fsumAR fdivisor fbyWarmth fbyAge fform fwhole frest))]) [0] (by decide) rfl
      refine aft_v (runMV (rest := []) (As := [.int 2, .long z_3, .long z_12, .long 0]) hx hb hml hown htb hK (g_X1_setLaw l D E fh fa fn fsumR fsumW fsumA fsumWW fsumAA fsumWA fsumWR fsumAR fdivisor fbyWarmth fbyAge fform fwhole frest 2 z_3 z_12 0 _ ) ok_X1_setLaw k_517 k_519 ks_8 k_4 k_520 ⟨(Nat.le_of_ble_eq_true rfl), (Nat.le_of_ble_eq_true rfl)⟩ ⟨(Nat.le_of_ble_eq_true rfl), (Nat.le_of_ble_eq_true rfl)⟩ hl.1 (Nat.le_of_ble_eq_true rfl) rfl rfl dX1_solve_163 hPc hDc rfl rfl 0 rfl) hP hD hS hA [0] [] (wr := ([] : va_W)) rfl rfl (by decide) (by decide) (fun u_46 H locs hw_45 hP hD hS => ?_)
      clear hPc hDc
      obtain ⟨w_47, w_48, w_49, w_50⟩ := u_46
      try dsimp only at hw_45
      have hP : va_P D vwCl [(fh, .inr (1, G1 fa fn fsumR fsumW fsumA fsumWW fsumAA fsumWA fsumWR fsumAR w_49 w_48 w_47 w_50 fwhole frest))] H := hP
      have hD := toW hP hD rfl
      try simp only [t_0, t_2] at hw_45
      refine lv_goto (tgt := 195) hx hb dX1_solve_166 (by decide) ?_
      have hP9 := hP.sub (ws' := [(fh, .inr (1, G1 fa fn fsumR fsumW fsumA fsumWW fsumAA fsumWA fsumWR fsumAR w_49 w_48 w_47 w_50 fwhole frest))]) [0] rfl
      have hD9 := hD.sub (ws' := [(fh, .inr (1, G1 fa fn fsumR fsumW fsumA fsumWW fsumAA fsumWA fsumWR fsumAR w_49 w_48 w_47 w_50 fwhole frest))]) [0] (by decide) rfl
      exact W.vret hx hb hr (fun t ht hW => ⟨⟨(w_47, w_48, w_49, w_50), rfl, (by (try dsimp only); rw [hw_45]; unfold solX; (try dsimp only); rw [if_neg (by have h0 : (0 : Int64).toInt = 0 := by { decide }; have h9 := lc_21; subst_vars; omega)]; rw [if_pos (by have h0 : (0 : Int64).toInt = 0 := by { decide }; have h9 := lc_43; subst_vars; omega)]; (try subst_vars); (try rfl)), by rw [ht]; exact hP9, hD9⟩, hS.F ht⟩) hS.2.2 dX1_solve_195
  ·
    have lc_51 : (0 : Int64).toInt < (z_18 : Int64).toInt := lc_gtI (by rw [← ez_19]; first | exact Or.inl c_20 | exact Or.inr c_20)
    refine lv_aload_n hx hb dX1_solve_121 rfl (lv_at hl 6 rfl) ?_
    refine lv_iconst (v := 3) hx hb dX1_solve_122 (by decide) ?_
    refine lv_lload hx hb dX1_solve_123 (lv_at hl 0 rfl) ?_
    refine lv_lload hx hb dX1_solve_125 (lv_at hl 2 rfl) ?_
    refine lv_lload_n hx hb dX1_solve_127 rfl (lv_at hl 4 rfl) ?_
    refine lv_lmul hx hb dX1_solve_128 ?_
    refine lv_topl (fun z_52 ez_52 => ?_)
    refine lv_lload hx hb dX1_solve_129 (lv_at hl 1 rfl) ?_
    refine lv_lload hx hb dX1_solve_131 (lv_at hl 3 rfl) ?_
    refine lv_lmul hx hb dX1_solve_133 ?_
    refine lv_topl (fun z_53 ez_53 => ?_)
    refine lv_lsub hx hb dX1_solve_134 ?_
    refine lv_topl (fun z_54 ez_54 => ?_)
    refine lv_lload hx hb dX1_solve_135 (lv_at hl 1 rfl) ?_
    refine lv_lload_n hx hb dX1_solve_137 rfl (lv_at hl 5 rfl) ?_
    refine lv_lmul hx hb dX1_solve_138 ?_
    refine lv_topl (fun z_55 ez_55 => ?_)
    refine lv_lload hx hb dX1_solve_139 (lv_at hl 2 rfl) ?_
    refine lv_lload hx hb dX1_solve_141 (lv_at hl 3 rfl) ?_
    refine lv_lmul hx hb dX1_solve_143 ?_
    refine lv_topl (fun z_56 ez_56 => ?_)
    refine lv_lsub hx hb dX1_solve_144 ?_
    refine lv_topl (fun z_57 ez_57 => ?_)
    have hPc := hP.sub (ws' := [(fh, .inr (1, G1 fa fn fsumR fsumW fsumA fsumWW fsumAA fsumWA fsumWR fsumAR fdivisor fbyWarmth fbyAge fform fwhole frest))]) [0] rfl
    have hDc := hD.sub (ws' := [(fh, .inr (1, G1 fa fn fsumR fsumW fsumA fsumWW fsumAA fsumWA fsumWR fsumAR fdivisor fbyWarmth fbyAge fform fwhole frest))]) [0] (by decide) rfl
    refine aft_v (runMV (rest := []) (As := [.int 3, .long z_18, .long z_54, .long z_57]) hx hb hml hown htb hK (g_X1_setLaw l D E fh fa fn fsumR fsumW fsumA fsumWW fsumAA fsumWA fsumWR fsumAR fdivisor fbyWarmth fbyAge fform fwhole frest 3 z_18 z_54 z_57 _ ) ok_X1_setLaw k_517 k_519 ks_8 k_4 k_520 ⟨(Nat.le_of_ble_eq_true rfl), (Nat.le_of_ble_eq_true rfl)⟩ ⟨(Nat.le_of_ble_eq_true rfl), (Nat.le_of_ble_eq_true rfl)⟩ hl.1 (Nat.le_of_ble_eq_true rfl) rfl rfl dX1_solve_145 hPc hDc rfl rfl 0 rfl) hP hD hS hA [0] [] (wr := ([] : va_W)) rfl rfl (by decide) (by decide) (fun u_60 H locs hw_59 hP hD hS => ?_)
    clear hPc hDc
    obtain ⟨w_61, w_62, w_63, w_64⟩ := u_60
    try dsimp only at hw_59
    have hP : va_P D vwCl [(fh, .inr (1, G1 fa fn fsumR fsumW fsumA fsumWW fsumAA fsumWA fsumWR fsumAR w_63 w_62 w_61 w_64 fwhole frest))] H := hP
    have hD := toW hP hD rfl
    try simp only [t_3] at hw_59
    refine lv_goto (tgt := 195) hx hb dX1_solve_148 (by decide) ?_
    have hP9 := hP.sub (ws' := [(fh, .inr (1, G1 fa fn fsumR fsumW fsumA fsumWW fsumAA fsumWA fsumWR fsumAR w_63 w_62 w_61 w_64 fwhole frest))]) [0] rfl
    have hD9 := hD.sub (ws' := [(fh, .inr (1, G1 fa fn fsumR fsumW fsumA fsumWW fsumAA fsumWA fsumWR fsumAR w_63 w_62 w_61 w_64 fwhole frest))]) [0] (by decide) rfl
    exact W.vret hx hb hr (fun t ht hW => ⟨⟨(w_61, w_62, w_63, w_64), rfl, (by (try dsimp only); rw [hw_59]; unfold solX; (try dsimp only); rw [if_pos (by have h0 : (0 : Int64).toInt = 0 := by { decide }; have h9 := lc_51; subst_vars; omega)]; (try subst_vars); (try rfl)), by rw [ht]; exact hP9, hD9⟩, hS.F ht⟩) hS.2.2 dX1_solve_195
set_option maxHeartbeats 4000000 in
set_option maxRecDepth 100000 in
theorem g_X4_isAhead (l : Launch) (D : va_G) (E : Nat → Nat) (p0 : Int32)  : Met l yX4_isAhead (wl yX4_isAhead cX4_isAhead 1 (some .boolean)) (RM 0 0 0) (rd_P D E [.int p0] ([] : va_W)) (rd_Q (fun r => ((r = 1 ∧ (p0.toInt = 6 ∨ p0.toInt = 7 ∨ p0.toInt = 8)) ∨ (r = 0 ∧ ¬ (p0.toInt = 6 ∨ p0.toInt = 7 ∨ p0.toInt = 8))))) 0 0 (fun _ => False) := by
  refine Met.ofW (cc := cX4_isAhead) (maxL := 1) (ret := (some .boolean)) (by decide) rfl ?_
  intro p e s m args below meth c s₁ B hml hv
  obtain ⟨rfl, hP, hK⟩ := hv
  have hx := B.exec; have hb := B.bytes; have hr := B.returns
  have hts := atoms_spec (ws := wl yX4_isAhead cX4_isAhead 1 (some .boolean)) B.pre
  have htb : ∀ w ∈ tb, w.before _ s = true := fun w h => hts w (List.mem_cons_of_mem _ h)
  have hown : s.vm.findClass RX4 = some m.cls := findClass_of_methodNamed B.named
  have hlocks := B.notSynchronized
  have hP : va_P D vwCl ([] : va_W) s.heap := hP
  have hl := lv_entry ([.int p0]) (n := 1) (Nat.le_of_ble_eq_true rfl)
  rw [lg_entry_eq]
  generalize (lg_sl ([.int p0]) ++ List.replicate (1 - (lg_sl ([.int p0])).length) Slot.unset).toArray = ls at hl ⊢
  have hl : lv_has ls 1 [(0, .int p0)] := hl
  have lo_p0 := i_lo p0; have hi_p0 := i_hi p0
  refine lv_iload_n hx hb dX4_isAhead_0 rfl (lv_at hl 0 rfl) ?_
  refine lv_bipush (v := 6) hx hb dX4_isAhead_1 (by decide) ?_
  refine lv_icmp_eq (tgt := 18) hx hb dX4_isAhead_3 (by decide) (fun c_1 => ?_) (fun c_1 => ?_)
  ·
    have ic_1 : p0.toInt = 6 := (g_eq rfl t_6).mp c_1
    clear c_1
    refine lv_iconst (v := 1) hx hb dX4_isAhead_18 (by decide) ?_
    refine lv_goto (tgt := 23) hx hb dX4_isAhead_19 (by decide) ?_
    exact W.zret (v := 1) hx hb hr rfl (fun t ht hW => ⟨1, rfl, by first | exact Or.inl ⟨rfl, by omega⟩ | (exfalso; omega), ht⟩) (fun q h => by cases h) dX4_isAhead_23
  ·
    have ic_1 : p0.toInt ≠ 6 := mt (g_eq rfl t_6).mpr c_1
    clear c_1
    refine lv_iload_n hx hb dX4_isAhead_6 rfl (lv_at hl 0 rfl) ?_
    refine lv_bipush (v := 7) hx hb dX4_isAhead_7 (by decide) ?_
    refine lv_icmp_eq (tgt := 18) hx hb dX4_isAhead_9 (by decide) (fun c_2 => ?_) (fun c_2 => ?_)
    ·
      have ic_2 : p0.toInt = 7 := (g_eq rfl t_7).mp c_2
      clear c_2
      refine lv_iconst (v := 1) hx hb dX4_isAhead_18 (by decide) ?_
      refine lv_goto (tgt := 23) hx hb dX4_isAhead_19 (by decide) ?_
      exact W.zret (v := 1) hx hb hr rfl (fun t ht hW => ⟨1, rfl, by first | exact Or.inl ⟨rfl, by omega⟩ | (exfalso; omega), ht⟩) (fun q h => by cases h) dX4_isAhead_23
    ·
      have ic_2 : p0.toInt ≠ 7 := mt (g_eq rfl t_7).mpr c_2
      clear c_2
      refine lv_iload_n hx hb dX4_isAhead_12 rfl (lv_at hl 0 rfl) ?_
      refine lv_bipush (v := 8) hx hb dX4_isAhead_13 (by decide) ?_
      refine lv_icmp_ne (tgt := 22) hx hb dX4_isAhead_15 (by decide) (fun c_3 => ?_) (fun c_3 => ?_)
      ·
        have ic_3 : p0.toInt ≠ 8 := mt (g_eq rfl t_8).mpr c_3
        clear c_3
        refine lv_iconst (v := 0) hx hb dX4_isAhead_22 (by decide) ?_
        exact W.zret (v := 0) hx hb hr rfl (fun t ht hW => ⟨0, rfl, by first | exact Or.inr ⟨rfl, by omega⟩ | (exfalso; omega), ht⟩) (fun q h => by cases h) dX4_isAhead_23
      ·
        have ic_3 : p0.toInt = 8 := (g_eq rfl t_8).mp c_3
        clear c_3
        refine lv_iconst (v := 1) hx hb dX4_isAhead_18 (by decide) ?_
        refine lv_goto (tgt := 23) hx hb dX4_isAhead_19 (by decide) ?_
        exact W.zret (v := 1) hx hb hr rfl (fun t ht hW => ⟨1, rfl, by first | exact Or.inl ⟨rfl, by omega⟩ | (exfalso; omega), ht⟩) (fun q h => by cases h) dX4_isAhead_23
set_option maxHeartbeats 4000000 in
set_option maxRecDepth 100000 in
theorem g_X4_workOutOne (l : Launch) (D : va_G) (E : Nat → Nat) (p0 : Int32) (p1 : Int32)  : Met l yX4_workOutOne (wl yX4_workOutOne cX4_workOutOne 2 (some .int)) (RM 0 0 0) (rd_P D E [.int p0, .int p1] ([] : va_W)) (rd_Q (fun r => True)) 0 0 (fun _ => False) := by
  refine Met.ofW (cc := cX4_workOutOne) (maxL := 2) (ret := (some .int)) (by decide) rfl ?_
  intro p e s m args below meth c s₁ B hml hv
  obtain ⟨rfl, hP, hK⟩ := hv
  have hx := B.exec; have hb := B.bytes; have hr := B.returns
  have hts := atoms_spec (ws := wl yX4_workOutOne cX4_workOutOne 2 (some .int)) B.pre
  have htb : ∀ w ∈ tb, w.before _ s = true := fun w h => hts w (List.mem_cons_of_mem _ h)
  have hown : s.vm.findClass RX4 = some m.cls := findClass_of_methodNamed B.named
  have hlocks := B.notSynchronized
  have hP : va_P D vwCl ([] : va_W) s.heap := hP
  have hl := lv_entry ([.int p0, .int p1]) (n := 2) (Nat.le_of_ble_eq_true rfl)
  rw [lg_entry_eq]
  generalize (lg_sl ([.int p0, .int p1]) ++ List.replicate (2 - (lg_sl ([.int p0, .int p1])).length) Slot.unset).toArray = ls at hl ⊢
  have hl : lv_has ls 2 [(0, .int p0), (1, .int p1)] := hl
  have lo_p0 := i_lo p0; have hi_p0 := i_hi p0
  have lo_p1 := i_lo p1; have hi_p1 := i_hi p1
  refine lv_iload_n hx hb dX4_workOutOne_0 rfl (lv_at hl 0 rfl) ?_
  by_cases h_1 : p0 = 6
  ·
    have ih_1 : p0.toInt = 6 := (g_eq rfl t_6).mp h_1
    refine lv_lookup (off := 27) (tgt := 28) hx hb dX4_workOutOne_1 (by decide) (by rw [ih_1]; decide) (by decide) ?_
    refine lv_iload_n hx hb dX4_workOutOne_28 rfl (lv_at hl 1 rfl) ?_
    refine lv_if_ne (tgt := 36) hx hb dX4_workOutOne_29 (by decide) (fun c_2 => ?_) (fun c_2 => ?_)
    ·
      have ic_2 : p1.toInt ≠ 0 := mt (g_eq rfl t_0).mpr c_2
      clear c_2
      refine lv_iconst (v := 0) hx hb dX4_workOutOne_36 (by decide) ?_
      exact W.iret (v := 0) hx hb hr (fun t ht hW => ⟨0, rfl, trivial, ht⟩) (fun q h => by cases h) dX4_workOutOne_37
    ·
      have ic_2 : p1.toInt = 0 := (g_eq rfl t_0).mp c_2
      clear c_2
      refine lv_iconst (v := 1) hx hb dX4_workOutOne_32 (by decide) ?_
      refine lv_goto (tgt := 37) hx hb dX4_workOutOne_33 (by decide) ?_
      exact W.iret (v := 1) hx hb hr (fun t ht hW => ⟨1, rfl, trivial, ht⟩) (fun q h => by cases h) dX4_workOutOne_37
  ·
    have ih_1 : p0.toInt ≠ 6 := mt (g_eq rfl t_6).mpr h_1
    by_cases h_3 : p0 = 7
    ·
      have ih_3 : p0.toInt = 7 := (g_eq rfl t_7).mp h_3
      refine lv_lookup (off := 37) (tgt := 38) hx hb dX4_workOutOne_1 (by decide) (by rw [ih_3]; decide) (by decide) ?_
      refine lv_iload_n hx hb dX4_workOutOne_38 rfl (lv_at hl 1 rfl) ?_
      refine lv_if_ge (tgt := 47) hx hb dX4_workOutOne_39 (by decide) (fun c_4 => ?_) (fun c_4 => ?_)
      ·
        have ic_4 : 0 ≤ p1.toInt := by first | exact (g_le t_0 rfl).mp c_4 | (have h := mt (g_lt rfl t_0).mpr c_4; omega)
        clear c_4
        refine lv_iload_n hx hb dX4_workOutOne_47 rfl (lv_at hl 1 rfl) ?_
        exact W.iret (v := p1) hx hb hr (fun t ht hW => ⟨p1, rfl, trivial, ht⟩) (fun q h => by cases h) dX4_workOutOne_48
      ·
        have ic_4 : p1.toInt < 0 := by first | exact (g_lt rfl t_0).mp c_4 | (have h := mt (g_le t_0 rfl).mpr c_4; omega)
        clear c_4
        refine lv_iload_n hx hb dX4_workOutOne_42 rfl (lv_at hl 1 rfl) ?_
        refine lv_ineg hx hb dX4_workOutOne_43 ?_
        refine lv_topi (fun z_5 ez_5 => ?_)
        refine lv_goto (tgt := 48) hx hb dX4_workOutOne_44 (by decide) ?_
        exact W.iret (v := z_5) hx hb hr (fun t ht hW => ⟨z_5, rfl, trivial, ht⟩) (fun q h => by cases h) dX4_workOutOne_48
    ·
      have ih_3 : p0.toInt ≠ 7 := mt (g_eq rfl t_7).mpr h_3
      refine lv_lookup (off := 48) (tgt := 49) hx hb dX4_workOutOne_1 (by decide) (by rw [lv_osw h_1 t_6, lv_osw h_3 t_7]; rfl) (by decide) ?_
      refine lv_iload_n hx hb dX4_workOutOne_49 rfl (lv_at hl 1 rfl) ?_
      refine lv_ineg hx hb dX4_workOutOne_50 ?_
      refine lv_topi (fun z_6 ez_6 => ?_)
      exact W.iret (v := z_6) hx hb hr (fun t ht hW => ⟨z_6, rfl, trivial, ht⟩) (fun q h => by cases h) dX4_workOutOne_51
set_option maxHeartbeats 4000000 in
set_option maxRecDepth 100000 in
theorem g_X4_workOutTwo (l : Launch) (D : va_G) (E : Nat → Nat) (p0 : Int32) (p1 : Int32) (p2 : Int32)  : Met l yX4_workOutTwo (wl yX4_workOutTwo cX4_workOutTwo 3 (some .int)) (RM 0 0 0) (rd_P D E [.int p0, .int p1, .int p2] ([] : va_W)) (rd_Q (fun r => True)) 0 0 (fun _ => False) := by
  refine Met.ofW (cc := cX4_workOutTwo) (maxL := 3) (ret := (some .int)) (by decide) rfl ?_
  intro p e s m args below meth c s₁ B hml hv
  obtain ⟨rfl, hP, hK⟩ := hv
  have hx := B.exec; have hb := B.bytes; have hr := B.returns
  have hts := atoms_spec (ws := wl yX4_workOutTwo cX4_workOutTwo 3 (some .int)) B.pre
  have htb : ∀ w ∈ tb, w.before _ s = true := fun w h => hts w (List.mem_cons_of_mem _ h)
  have hown : s.vm.findClass RX4 = some m.cls := findClass_of_methodNamed B.named
  have hlocks := B.notSynchronized
  have hP : va_P D vwCl ([] : va_W) s.heap := hP
  have hl := lv_entry ([.int p0, .int p1, .int p2]) (n := 3) (Nat.le_of_ble_eq_true rfl)
  rw [lg_entry_eq]
  generalize (lg_sl ([.int p0, .int p1, .int p2]) ++ List.replicate (3 - (lg_sl ([.int p0, .int p1, .int p2])).length) Slot.unset).toArray = ls at hl ⊢
  have hl : lv_has ls 3 [(0, .int p0), (1, .int p1), (2, .int p2)] := hl
  have lo_p0 := i_lo p0; have hi_p0 := i_hi p0
  have lo_p1 := i_lo p1; have hi_p1 := i_hi p1
  have lo_p2 := i_lo p2; have hi_p2 := i_hi p2
  refine lv_iload_n hx hb dX4_workOutTwo_0 rfl (lv_at hl 0 rfl) ?_
  by_cases h_1 : p0 = 4
  ·
    have ih_1 : p0.toInt = 4 := (g_eq rfl t_4).mp h_1
    refine lv_lookup (off := 75) (tgt := 76) hx hb dX4_workOutTwo_1 (by decide) (by rw [ih_1]; decide) (by decide) ?_
    refine lv_iload_n hx hb dX4_workOutTwo_76 rfl (lv_at hl 1 rfl) ?_
    refine lv_if_ne (tgt := 84) hx hb dX4_workOutTwo_77 (by decide) (fun c_2 => ?_) (fun c_2 => ?_)
    ·
      have ic_2 : p1.toInt ≠ 0 := mt (g_eq rfl t_0).mpr c_2
      clear c_2
      refine lv_iconst (v := 1) hx hb dX4_workOutTwo_84 (by decide) ?_
      refine lv_goto (tgt := 89) hx hb dX4_workOutTwo_85 (by decide) ?_
      exact W.iret (v := 1) hx hb hr (fun t ht hW => ⟨1, rfl, trivial, ht⟩) (fun q h => by cases h) dX4_workOutTwo_89
    ·
      have ic_2 : p1.toInt = 0 := (g_eq rfl t_0).mp c_2
      clear c_2
      refine lv_iload_n hx hb dX4_workOutTwo_80 rfl (lv_at hl 2 rfl) ?_
      refine lv_if_eq (tgt := 88) hx hb dX4_workOutTwo_81 (by decide) (fun c_3 => ?_) (fun c_3 => ?_)
      ·
        have ic_3 : p2.toInt = 0 := (g_eq rfl t_0).mp c_3
        clear c_3
        refine lv_iconst (v := 0) hx hb dX4_workOutTwo_88 (by decide) ?_
        exact W.iret (v := 0) hx hb hr (fun t ht hW => ⟨0, rfl, trivial, ht⟩) (fun q h => by cases h) dX4_workOutTwo_89
      ·
        have ic_3 : p2.toInt ≠ 0 := mt (g_eq rfl t_0).mpr c_3
        clear c_3
        refine lv_iconst (v := 1) hx hb dX4_workOutTwo_84 (by decide) ?_
        refine lv_goto (tgt := 89) hx hb dX4_workOutTwo_85 (by decide) ?_
        exact W.iret (v := 1) hx hb hr (fun t ht hW => ⟨1, rfl, trivial, ht⟩) (fun q h => by cases h) dX4_workOutTwo_89
  ·
    have ih_1 : p0.toInt ≠ 4 := mt (g_eq rfl t_4).mpr h_1
    by_cases h_4 : p0 = 5
    ·
      have ih_4 : p0.toInt = 5 := (g_eq rfl t_5).mp h_4
      refine lv_lookup (off := 89) (tgt := 90) hx hb dX4_workOutTwo_1 (by decide) (by rw [ih_4]; decide) (by decide) ?_
      refine lv_iload_n hx hb dX4_workOutTwo_90 rfl (lv_at hl 1 rfl) ?_
      refine lv_if_eq (tgt := 102) hx hb dX4_workOutTwo_91 (by decide) (fun c_5 => ?_) (fun c_5 => ?_)
      ·
        have ic_5 : p1.toInt = 0 := (g_eq rfl t_0).mp c_5
        clear c_5
        refine lv_iconst (v := 0) hx hb dX4_workOutTwo_102 (by decide) ?_
        exact W.iret (v := 0) hx hb hr (fun t ht hW => ⟨0, rfl, trivial, ht⟩) (fun q h => by cases h) dX4_workOutTwo_103
      ·
        have ic_5 : p1.toInt ≠ 0 := mt (g_eq rfl t_0).mpr c_5
        clear c_5
        refine lv_iload_n hx hb dX4_workOutTwo_94 rfl (lv_at hl 2 rfl) ?_
        refine lv_if_eq (tgt := 102) hx hb dX4_workOutTwo_95 (by decide) (fun c_6 => ?_) (fun c_6 => ?_)
        ·
          have ic_6 : p2.toInt = 0 := (g_eq rfl t_0).mp c_6
          clear c_6
          refine lv_iconst (v := 0) hx hb dX4_workOutTwo_102 (by decide) ?_
          exact W.iret (v := 0) hx hb hr (fun t ht hW => ⟨0, rfl, trivial, ht⟩) (fun q h => by cases h) dX4_workOutTwo_103
        ·
          have ic_6 : p2.toInt ≠ 0 := mt (g_eq rfl t_0).mpr c_6
          clear c_6
          refine lv_iconst (v := 1) hx hb dX4_workOutTwo_98 (by decide) ?_
          refine lv_goto (tgt := 103) hx hb dX4_workOutTwo_99 (by decide) ?_
          exact W.iret (v := 1) hx hb hr (fun t ht hW => ⟨1, rfl, trivial, ht⟩) (fun q h => by cases h) dX4_workOutTwo_103
    ·
      have ih_4 : p0.toInt ≠ 5 := mt (g_eq rfl t_5).mpr h_4
      by_cases h_7 : p0 = 42
      ·
        have ih_7 : p0.toInt = 42 := (g_eq rfl t_42).mp h_7
        refine lv_lookup (off := 144) (tgt := 145) hx hb dX4_workOutTwo_1 (by decide) (by rw [ih_7]; decide) (by decide) ?_
        refine lv_iload_n hx hb dX4_workOutTwo_145 rfl (lv_at hl 1 rfl) ?_
        refine lv_iload_n hx hb dX4_workOutTwo_146 rfl (lv_at hl 2 rfl) ?_
        refine lv_imul hx hb dX4_workOutTwo_147 ?_
        refine lv_topi (fun z_8 ez_8 => ?_)
        exact W.iret (v := z_8) hx hb hr (fun t ht hW => ⟨z_8, rfl, trivial, ht⟩) (fun q h => by cases h) dX4_workOutTwo_148
      ·
        have ih_7 : p0.toInt ≠ 42 := mt (g_eq rfl t_42).mpr h_7
        by_cases h_9 : p0 = 43
        ·
          have ih_9 : p0.toInt = 43 := (g_eq rfl t_43).mp h_9
          refine lv_lookup (off := 136) (tgt := 137) hx hb dX4_workOutTwo_1 (by decide) (by rw [ih_9]; decide) (by decide) ?_
          refine lv_iload_n hx hb dX4_workOutTwo_137 rfl (lv_at hl 1 rfl) ?_
          refine lv_iload_n hx hb dX4_workOutTwo_138 rfl (lv_at hl 2 rfl) ?_
          refine lv_iadd hx hb dX4_workOutTwo_139 ?_
          refine lv_topi (fun z_10 ez_10 => ?_)
          exact W.iret (v := z_10) hx hb hr (fun t ht hW => ⟨z_10, rfl, trivial, ht⟩) (fun q h => by cases h) dX4_workOutTwo_140
        ·
          have ih_9 : p0.toInt ≠ 43 := mt (g_eq rfl t_43).mpr h_9
          by_cases h_11 : p0 = 45
          ·
            have ih_11 : p0.toInt = 45 := (g_eq rfl t_45).mp h_11
            refine lv_lookup (off := 140) (tgt := 141) hx hb dX4_workOutTwo_1 (by decide) (by rw [ih_11]; decide) (by decide) ?_
            refine lv_iload_n hx hb dX4_workOutTwo_141 rfl (lv_at hl 1 rfl) ?_
            refine lv_iload_n hx hb dX4_workOutTwo_142 rfl (lv_at hl 2 rfl) ?_
            refine lv_isub hx hb dX4_workOutTwo_143 ?_
            refine lv_topi (fun z_12 ez_12 => ?_)
            exact W.iret (v := z_12) hx hb hr (fun t ht hW => ⟨z_12, rfl, trivial, ht⟩) (fun q h => by cases h) dX4_workOutTwo_144
          ·
            have ih_11 : p0.toInt ≠ 45 := mt (g_eq rfl t_45).mpr h_11
            by_cases h_13 : p0 = 60
            ·
              have ih_13 : p0.toInt = 60 := (g_eq rfl t_60).mp h_13
              refine lv_lookup (off := 103) (tgt := 104) hx hb dX4_workOutTwo_1 (by decide) (by rw [ih_13]; decide) (by decide) ?_
              refine lv_iload_n hx hb dX4_workOutTwo_104 rfl (lv_at hl 1 rfl) ?_
              refine lv_iload_n hx hb dX4_workOutTwo_105 rfl (lv_at hl 2 rfl) ?_
              refine lv_icmp_ge (tgt := 113) hx hb dX4_workOutTwo_106 (by decide) (fun c_14 => ?_) (fun c_14 => ?_)
              ·
                have ic_14 : p2.toInt ≤ p1.toInt := by first | exact (g_le rfl rfl).mp c_14 | (have h := mt (g_lt rfl rfl).mpr c_14; omega)
                clear c_14
                refine lv_iconst (v := 0) hx hb dX4_workOutTwo_113 (by decide) ?_
                exact W.iret (v := 0) hx hb hr (fun t ht hW => ⟨0, rfl, trivial, ht⟩) (fun q h => by cases h) dX4_workOutTwo_114
              ·
                have ic_14 : p1.toInt < p2.toInt := by first | exact (g_lt rfl rfl).mp c_14 | (have h := mt (g_le rfl rfl).mpr c_14; omega)
                clear c_14
                refine lv_iconst (v := 1) hx hb dX4_workOutTwo_109 (by decide) ?_
                refine lv_goto (tgt := 114) hx hb dX4_workOutTwo_110 (by decide) ?_
                exact W.iret (v := 1) hx hb hr (fun t ht hW => ⟨1, rfl, trivial, ht⟩) (fun q h => by cases h) dX4_workOutTwo_114
            ·
              have ih_13 : p0.toInt ≠ 60 := mt (g_eq rfl t_60).mpr h_13
              by_cases h_15 : p0 = 61
              ·
                have ih_15 : p0.toInt = 61 := (g_eq rfl t_61).mp h_15
                refine lv_lookup (off := 114) (tgt := 115) hx hb dX4_workOutTwo_1 (by decide) (by rw [ih_15]; decide) (by decide) ?_
                refine lv_iload_n hx hb dX4_workOutTwo_115 rfl (lv_at hl 1 rfl) ?_
                refine lv_iload_n hx hb dX4_workOutTwo_116 rfl (lv_at hl 2 rfl) ?_
                refine lv_icmp_ne (tgt := 124) hx hb dX4_workOutTwo_117 (by decide) (fun c_16 => ?_) (fun c_16 => ?_)
                ·
                  have ic_16 : p1.toInt ≠ p2.toInt := mt (g_eq rfl rfl).mpr c_16
                  clear c_16
                  refine lv_iconst (v := 0) hx hb dX4_workOutTwo_124 (by decide) ?_
                  exact W.iret (v := 0) hx hb hr (fun t ht hW => ⟨0, rfl, trivial, ht⟩) (fun q h => by cases h) dX4_workOutTwo_125
                ·
                  have ic_16 : p1.toInt = p2.toInt := (g_eq rfl rfl).mp c_16
                  clear c_16
                  refine lv_iconst (v := 1) hx hb dX4_workOutTwo_120 (by decide) ?_
                  refine lv_goto (tgt := 125) hx hb dX4_workOutTwo_121 (by decide) ?_
                  exact W.iret (v := 1) hx hb hr (fun t ht hW => ⟨1, rfl, trivial, ht⟩) (fun q h => by cases h) dX4_workOutTwo_125
              ·
                have ih_15 : p0.toInt ≠ 61 := mt (g_eq rfl t_61).mpr h_15
                by_cases h_17 : p0 = 62
                ·
                  have ih_17 : p0.toInt = 62 := (g_eq rfl t_62).mp h_17
                  refine lv_lookup (off := 125) (tgt := 126) hx hb dX4_workOutTwo_1 (by decide) (by rw [ih_17]; decide) (by decide) ?_
                  refine lv_iload_n hx hb dX4_workOutTwo_126 rfl (lv_at hl 1 rfl) ?_
                  refine lv_iload_n hx hb dX4_workOutTwo_127 rfl (lv_at hl 2 rfl) ?_
                  refine lv_icmp_le (tgt := 135) hx hb dX4_workOutTwo_128 (by decide) (fun c_18 => ?_) (fun c_18 => ?_)
                  ·
                    have ic_18 : p1.toInt ≤ p2.toInt := by first | exact (g_le rfl rfl).mp c_18 | (have h := mt (g_lt rfl rfl).mpr c_18; omega)
                    clear c_18
                    refine lv_iconst (v := 0) hx hb dX4_workOutTwo_135 (by decide) ?_
                    exact W.iret (v := 0) hx hb hr (fun t ht hW => ⟨0, rfl, trivial, ht⟩) (fun q h => by cases h) dX4_workOutTwo_136
                  ·
                    have ic_18 : p2.toInt < p1.toInt := by first | exact (g_lt rfl rfl).mp c_18 | (have h := mt (g_le rfl rfl).mpr c_18; omega)
                    clear c_18
                    refine lv_iconst (v := 1) hx hb dX4_workOutTwo_131 (by decide) ?_
                    refine lv_goto (tgt := 136) hx hb dX4_workOutTwo_132 (by decide) ?_
                    exact W.iret (v := 1) hx hb hr (fun t ht hW => ⟨1, rfl, trivial, ht⟩) (fun q h => by cases h) dX4_workOutTwo_136
                ·
                  have ih_17 : p0.toInt ≠ 62 := mt (g_eq rfl t_62).mpr h_17
                  refine lv_lookup (off := 148) (tgt := 149) hx hb dX4_workOutTwo_1 (by decide) (by rw [lv_osw h_1 t_4, lv_osw h_4 t_5, lv_osw h_7 t_42, lv_osw h_9 t_43, lv_osw h_11 t_45, lv_osw h_13 t_60, lv_osw h_15 t_61, lv_osw h_17 t_62]; rfl) (by decide) ?_
                  refine lv_iload_n hx hb dX4_workOutTwo_149 rfl (lv_at hl 2 rfl) ?_
                  refine lv_if_ne (tgt := 157) hx hb dX4_workOutTwo_150 (by decide) (fun c_19 => ?_) (fun c_19 => ?_)
                  ·
                    have ic_19 : p2.toInt ≠ 0 := mt (g_eq rfl t_0).mpr c_19
                    clear c_19
                    refine lv_iload_n hx hb dX4_workOutTwo_157 rfl (lv_at hl 1 rfl) ?_
                    refine lv_iload_n hx hb dX4_workOutTwo_158 rfl (lv_at hl 2 rfl) ?_
                    refine lv_idiv hx hb dX4_workOutTwo_159 (fun h => absurd ((g_eq rfl t_0).mp h) (by omega)) ?_
                    refine lv_topi (fun z_20 ez_20 => ?_)
                    exact W.iret (v := z_20) hx hb hr (fun t ht hW => ⟨z_20, rfl, trivial, ht⟩) (fun q h => by cases h) dX4_workOutTwo_160
                  ·
                    have ic_19 : p2.toInt = 0 := (g_eq rfl t_0).mp c_19
                    clear c_19
                    refine lv_iconst (v := 0) hx hb dX4_workOutTwo_153 (by decide) ?_
                    refine lv_goto (tgt := 160) hx hb dX4_workOutTwo_154 (by decide) ?_
                    exact W.iret (v := 0) hx hb hr (fun t ht hW => ⟨0, rfl, trivial, ht⟩) (fun q h => by cases h) dX4_workOutTwo_160
set_option maxHeartbeats 4000000 in
set_option maxRecDepth 100000 in
theorem g_X4_add (l : Launch) (D : va_G) (E : Nat → Nat) (uh : Nat) (ua : Nat → Nat) (usize : Int32) (uf0 : Nat → Int32) (uf1 : Nat → Int32) (p0 : Int32) (p1 : Int32) (sz : Nat) (hi_u : (0 ≤ usize.toInt ∧ usize.toInt ≤ 120)) : Met l yX4_add (wl yX4_add cX4_add 3 none) (RM 0 0 0) (mu_P D E [.ref uh, .int p0, .int p1] [(uh, .inr (4, G4 ua usize)), ((ua 0), .inl (E 0, 120, .inl uf0)), ((ua 1), .inl (E 0, 120, .inl uf1))] sz) (va_Qv (fun (u : (Nat → Int32) × (Nat → Int32) × (Int32)) => (0 ≤ u.2.2.toInt ∧ u.2.2.toInt ≤ 120)) (mu_B D (va_A [(uh, .inr (4, G4 ua usize)), ((ua 0), .inl (E 0, 120, .inl uf0)), ((ua 1), .inl (E 0, 120, .inl uf1))] sz) (fun (u : (Nat → Int32) × (Nat → Int32) × (Int32)) => [(uh, .inr (4, G4 ua u.2.2)), ((ua 0), .inl (E 0, 120, .inl u.1)), ((ua 1), .inl (E 0, 120, .inl u.2.1))])) (va_A [(uh, .inr (4, G4 ua usize)), ((ua 0), .inl (E 0, 120, .inl uf0)), ((ua 1), .inl (E 0, 120, .inl uf1))] sz)) 0 0 (va_A [(uh, .inr (4, G4 ua usize)), ((ua 0), .inl (E 0, 120, .inl uf0)), ((ua 1), .inl (E 0, 120, .inl uf1))] sz) := by
  refine Met.ofW (cc := cX4_add) (maxL := 3) (ret := none) (by decide) rfl ?_
  intro p e s m args below meth c s₁ B hml hv
  obtain ⟨rfl, hsz, hP, hK, hD0⟩ := hv
  have hx := B.exec; have hb := B.bytes; have hr := B.returns
  have hts := atoms_spec (ws := wl yX4_add cX4_add 3 none) B.pre
  have htb : ∀ w ∈ tb, w.before _ s = true := fun w h => hts w (List.mem_cons_of_mem _ h)
  have hown : s.vm.findClass RX4 = some m.cls := findClass_of_methodNamed B.named
  have hlocks := B.notSynchronized
  subst hsz
  have hD := hD0.self (sz := s.heap.size)
  generalize hAe : va_A [(uh, .inr (4, G4 ua usize)), ((ua 0), .inl (E 0, 120, .inl uf0)), ((ua 1), .inl (E 0, 120, .inl uf1))] s.heap.size = A at hD ⊢
  have hA : ∀ q : Nat, s.heap.size ≤ q → A q := fun q h => by rw [← hAe]; exact Or.inr h
  have hS : va_S A s.heap s.heap [] := va_S.rf
  have hP : va_P D vwCl [(uh, .inr (4, G4 ua usize)), ((ua 0), .inl (E 0, 120, .inl uf0)), ((ua 1), .inl (E 0, 120, .inl uf1))] s.heap := hP
  have hl := lv_entry ([.ref uh, .int p0, .int p1]) (n := 3) (Nat.le_of_ble_eq_true rfl)
  rw [lg_entry_eq]
  generalize (lg_sl ([.ref uh, .int p0, .int p1]) ++ List.replicate (3 - (lg_sl ([.ref uh, .int p0, .int p1])).length) Slot.unset).toArray = ls at hl ⊢
  have hl : lv_has ls 3 [(0, .ref uh), (1, .int p0), (2, .int p1)] := hl
  have lo_p0 := i_lo p0; have hi_p0 := i_hi p0
  have lo_p1 := i_lo p1; have hi_p1 := i_hi p1
  refine lv_aload_n hx hb dX4_add_0 rfl (lv_at hl 0 rfl) ?_
  refine va_get (D := D) (ci := 4) (v := .int usize) (C := RX4) (T := TX4) (N := 4) hx hb htb iX4 hown hK.1 hP 0 rfl rfl 3 (by decide) (htb _ k_144) (fun _ h9 => h9) rfl dX4_add_1 ?_
  refine lv_bipush (v := 120) hx hb dX4_add_4 (by decide) ?_
  refine lv_icmp_ge (tgt := 39) hx hb dX4_add_6 (by decide) (fun c_1 => ?_) (fun c_1 => ?_)
  ·
    have ic_1 : 120 ≤ usize.toInt := by first | exact (g_le t_120 rfl).mp c_1 | (have h := mt (g_lt rfl t_120).mpr c_1; omega)
    clear c_1
    have hP9 := hP.sub (ws' := [(uh, .inr (4, G4 ua usize)), ((ua 0), .inl (E 0, 120, .inl uf0)), ((ua 1), .inl (E 0, 120, .inl uf1))]) [0, 1, 2] rfl
    have hD9 := hD.sub (ws' := [(uh, .inr (4, G4 ua usize)), ((ua 0), .inl (E 0, 120, .inl uf0)), ((ua 1), .inl (E 0, 120, .inl uf1))]) [0, 1, 2] (by decide) rfl
    exact W.vret hx hb hr (fun t ht hW => ⟨⟨(uf0, uf1, usize), rfl, (by (try dsimp only); omega), by rw [ht]; exact hP9, hD9⟩, hS.F ht⟩) hS.2.2 dX4_add_39
  ·
    have ic_1 : usize.toInt < 120 := by first | exact (g_lt rfl t_120).mp c_1 | (have h := mt (g_le t_120 rfl).mpr c_1; omega)
    clear c_1
    refine lv_aload_n hx hb dX4_add_9 rfl (lv_at hl 0 rfl) ?_
    refine va_get (D := D) (ci := 4) (v := .ref (ua 0)) (C := RX4) (T := TX4) (N := 4) hx hb htb iX4 hown hK.1 hP 0 rfl rfl 0 (by decide) (htb _ k_141) (fun _ h9 => h9) rfl dX4_add_10 ?_
    refine lv_aload_n hx hb dX4_add_13 rfl (lv_at hl 0 rfl) ?_
    refine va_get (D := D) (ci := 4) (v := .int usize) (C := RX4) (T := TX4) (N := 4) hx hb htb iX4 hown hK.1 hP 0 rfl rfl 3 (by decide) (htb _ k_144) (fun _ h9 => h9) rfl dX4_add_14 ?_
    refine lv_iload_n hx hb dX4_add_17 rfl (lv_at hl 1 rfl) ?_
    refine va_iast hx hb hK.1 hP hD hS 1 0 rfl rfl (g_in rfl (by omega) (by omega)) dX4_add_18 (fun H locs hP hD hS => ?_)
    have hP : va_P D vwCl [(uh, .inr (4, G4 ua usize)), ((ua 0), .inl (E 0, 120, .inl (upd uf0 (usize : Int32).toNatClampNeg p0))), ((ua 1), .inl (E 0, 120, .inl uf1))] H := hP
    have hD := toW hP hD rfl
    refine lv_aload_n hx hb dX4_add_19 rfl (lv_at hl 0 rfl) ?_
    refine va_get (D := D) (ci := 4) (v := .ref (ua 1)) (C := RX4) (T := TX4) (N := 4) hx hb htb iX4 hown hK.1 hP 0 rfl rfl 1 (by decide) (htb _ k_142) (fun _ h9 => h9) rfl dX4_add_20 ?_
    refine lv_aload_n hx hb dX4_add_23 rfl (lv_at hl 0 rfl) ?_
    refine va_get (D := D) (ci := 4) (v := .int usize) (C := RX4) (T := TX4) (N := 4) hx hb htb iX4 hown hK.1 hP 0 rfl rfl 3 (by decide) (htb _ k_144) (fun _ h9 => h9) rfl dX4_add_24 ?_
    refine lv_iload_n hx hb dX4_add_27 rfl (lv_at hl 2 rfl) ?_
    refine va_iast hx hb hK.1 hP hD hS 2 0 rfl rfl (g_in rfl (by omega) (by omega)) dX4_add_28 (fun H locs hP hD hS => ?_)
    have hP : va_P D vwCl [(uh, .inr (4, G4 ua usize)), ((ua 0), .inl (E 0, 120, .inl (upd uf0 (usize : Int32).toNatClampNeg p0))), ((ua 1), .inl (E 0, 120, .inl (upd uf1 (usize : Int32).toNatClampNeg p1)))] H := hP
    have hD := toW hP hD rfl
    refine lv_aload_n hx hb dX4_add_29 rfl (lv_at hl 0 rfl) ?_
    refine lv_dup hx hb dX4_add_30 rfl ?_
    refine va_get (D := D) (ci := 4) (v := .int usize) (C := RX4) (T := TX4) (N := 4) hx hb htb iX4 hown hK.1 hP 0 rfl rfl 3 (by decide) (htb _ k_144) (fun _ h9 => h9) rfl dX4_add_31 ?_
    refine lv_iconst (v := 1) hx hb dX4_add_34 (by decide) ?_
    refine lv_iadd hx hb dX4_add_35 ?_
    refine lv_topi (fun z_2 ez_2 => ?_)
    have jz_2 : z_2.toInt = usize.toInt + 1 := by rw [ez_2]; exact g_add rfl t_1 (by omega) (by omega)
    refine va_put (D := D) (ci := 4) (v := .int z_2) (ty := .int) (C := RX4) (T := TX4) (N := 4) hx hb htb iX4 tyX4 tyX4_ok nmX4 hown hK.1 hP hD hS 0 rfl rfl 3 (by decide) (htb _ k_144) (fun _ h9 => h9) rfl (by decide +kernel) rfl rfl (Nat.le_of_ble_eq_true rfl) dX4_add_36 (fun H locs hP hD hS => ?_)
    have hP : va_P D vwCl [(uh, .inr (4, G4 ua z_2)), ((ua 0), .inl (E 0, 120, .inl (upd uf0 (usize : Int32).toNatClampNeg p0))), ((ua 1), .inl (E 0, 120, .inl (upd uf1 (usize : Int32).toNatClampNeg p1)))] H := hP
    have hD := toW hP hD rfl
    have hP9 := hP.sub (ws' := [(uh, .inr (4, G4 ua z_2)), ((ua 0), .inl (E 0, 120, .inl (upd uf0 (usize : Int32).toNatClampNeg p0))), ((ua 1), .inl (E 0, 120, .inl (upd uf1 (usize : Int32).toNatClampNeg p1)))]) [0, 1, 2] rfl
    have hD9 := hD.sub (ws' := [(uh, .inr (4, G4 ua z_2)), ((ua 0), .inl (E 0, 120, .inl (upd uf0 (usize : Int32).toNatClampNeg p0))), ((ua 1), .inl (E 0, 120, .inl (upd uf1 (usize : Int32).toNatClampNeg p1)))]) [0, 1, 2] (by decide) rfl
    exact W.vret hx hb hr (fun t ht hW => ⟨⟨((upd uf0 (usize : Int32).toNatClampNeg p0), (upd uf1 (usize : Int32).toNatClampNeg p1), z_2), rfl, (by (try dsimp only); omega), by rw [ht]; exact hP9, hD9⟩, hS.F ht⟩) hS.2.2 dX4_add_39
end
section
set_option maxHeartbeats 4000000 in
set_option maxRecDepth 100000 in
theorem g_J9_floorDiv_7cf53 (l : Launch) (D : va_G) (E : Nat → Nat) (p0 : Int32) (p1 : Int32) (n0 : p1.toInt ≠ 0) : Met l yJ9_floorDiv_7cf53 (wl yJ9_floorDiv_7cf53 cJ9_floorDiv_7cf53 3 (some .int)) (RM 0 0 0) (rd_P D E [.int p0, .int p1] ([] : va_W)) (rd_Q (fun r => (0 < p1.toInt → r.toInt = p0.toInt / p1.toInt))) 0 0 (fun _ => False) := by
  refine met_for (cc := cJ9_floorDiv_7cf53) (maxL := 3) (ret := (some .int)) (by decide +kernel) rfl ?_
  intro p e s m args below meth c s₁ B hml hv
  obtain ⟨rfl, hP, hK⟩ := hv
  have hx := B.exec; have hb := B.bytes; have hr := B.returns
  have hts := atoms_spec (ws := wl yJ9_floorDiv_7cf53 cJ9_floorDiv_7cf53 3 (some .int)) B.pre
  have htb : ∀ w ∈ tb, w.before _ s = true := fun w h => hts w (List.mem_cons_of_mem _ h)
  have hown : s.vm.findClass RJ9 = some m.cls := findClass_of_methodNamed B.named
  have hlocks := B.notSynchronized
  have hP : va_P D vwCl ([] : va_W) s.heap := hP
  have hl := lv_entry ([.int p0, .int p1]) (n := 3) (Nat.le_of_ble_eq_true rfl)
  rw [lg_entry_eq]
  generalize (lg_sl ([.int p0, .int p1]) ++ List.replicate (3 - (lg_sl ([.int p0, .int p1])).length) Slot.unset).toArray = ls at hl ⊢
  have hl : lv_has ls 3 [(0, .int p0), (1, .int p1)] := hl
  have lo_p0 := i_lo p0; have hi_p0 := i_hi p0
  have lo_p1 := i_lo p1; have hi_p1 := i_hi p1
  refine lv_iload_n hx hb dJ9_floorDiv_7cf53_0 rfl (lv_at hl 0 rfl) ?_
  refine lv_iload_n hx hb dJ9_floorDiv_7cf53_1 rfl (lv_at hl 1 rfl) ?_
  refine lv_idiv hx hb dJ9_floorDiv_7cf53_2 (fun h => absurd ((g_eq rfl t_0).mp h) (by omega)) ?_
  refine lv_topi (fun z_1 ez_1 => ?_)
  refine lv_istore_n (lv' := [(2, .int z_1), (0, .int p0), (1, .int p1)]) hx hb dJ9_floorDiv_7cf53_3 rfl hl (by decide) rfl (fun ls hl => ?_)
  refine lv_iload_n hx hb dJ9_floorDiv_7cf53_4 rfl (lv_at hl 1 rfl) ?_
  refine lv_iload_n hx hb dJ9_floorDiv_7cf53_5 rfl (lv_at hl 2 rfl) ?_
  refine lv_ixor hx hb dJ9_floorDiv_7cf53_6 ?_
  refine lv_topi (fun z_2 ez_2 => ?_)
  refine lv_if_ge (tgt := 21) hx hb dJ9_floorDiv_7cf53_7 (by decide) (fun c_3 => ?_) (fun c_3 => ?_)
  ·
    have ic_3 : 0 ≤ z_2.toInt := by first | exact (g_le t_0 rfl).mp c_3 | (have h := mt (g_lt rfl t_0).mpr c_3; omega)
    clear c_3
    refine lv_iload_n hx hb dJ9_floorDiv_7cf53_21 rfl (lv_at hl 0 rfl) ?_
    exact W.iret (v := z_1) hx hb hr (fun t ht hW => ⟨z_1, rfl, (fun hy => by subst_vars; first | exact fdv_a hy (by assumption) | exact fdv_b hy (by assumption) | exact fdv_c hy (by assumption) (by assumption)), ht⟩) (fun q h => by cases h) dJ9_floorDiv_7cf53_22
  ·
    have ic_3 : z_2.toInt < 0 := by first | exact (g_lt rfl t_0).mp c_3 | (have h := mt (g_le t_0 rfl).mpr c_3; omega)
    clear c_3
    refine lv_iload_n hx hb dJ9_floorDiv_7cf53_10 rfl (lv_at hl 0 rfl) ?_
    refine lv_iload_n hx hb dJ9_floorDiv_7cf53_11 rfl (lv_at hl 2 rfl) ?_
    refine lv_imul hx hb dJ9_floorDiv_7cf53_12 ?_
    refine lv_topi (fun z_4 ez_4 => ?_)
    refine lv_iload_n hx hb dJ9_floorDiv_7cf53_13 rfl (lv_at hl 1 rfl) ?_
    refine lv_icmp_eq (tgt := 21) hx hb dJ9_floorDiv_7cf53_14 (by decide) (fun c_5 => ?_) (fun c_5 => ?_)
    ·
      have ic_5 : z_4.toInt = p0.toInt := (g_eq rfl rfl).mp c_5
      clear c_5
      refine lv_iload_n hx hb dJ9_floorDiv_7cf53_21 rfl (lv_at hl 0 rfl) ?_
      exact W.iret (v := z_1) hx hb hr (fun t ht hW => ⟨z_1, rfl, (fun hy => by subst_vars; first | exact fdv_a hy (by assumption) | exact fdv_b hy (by assumption) | exact fdv_c hy (by assumption) (by assumption)), ht⟩) (fun q h => by cases h) dJ9_floorDiv_7cf53_22
    ·
      have ic_5 : z_4.toInt ≠ p0.toInt := mt (g_eq rfl rfl).mpr c_5
      clear c_5
      refine lv_iload_n hx hb dJ9_floorDiv_7cf53_17 rfl (lv_at hl 0 rfl) ?_
      refine lv_iconst (v := 1) hx hb dJ9_floorDiv_7cf53_18 (by decide) ?_
      refine lv_isub hx hb dJ9_floorDiv_7cf53_19 ?_
      refine lv_topi (fun z_6 ez_6 => ?_)
      exact W.iret (v := z_6) hx hb hr (fun t ht hW => ⟨z_6, rfl, (fun hy => by subst_vars; first | exact fdv_a hy (by assumption) | exact fdv_b hy (by assumption) | exact fdv_c hy (by assumption) (by assumption)), ht⟩) (fun q h => by cases h) dJ9_floorDiv_7cf53_20
set_option maxHeartbeats 4000000 in
set_option maxRecDepth 100000 in
theorem g_J9_floorDiv_f86c9 (l : Launch) (D : va_G) (E : Nat → Nat) (p0 : Int64) (p1 : Int64) (n0 : ¬ p1 = 0) : Met l yJ9_floorDiv_f86c9 (wl yJ9_floorDiv_f86c9 cJ9_floorDiv_f86c9 6 (some .long)) (RM 0 0 0) (rd_P D E [.long p0, .long p1] ([] : va_W)) (rl_Q (fun r => True)) 0 0 (fun _ => False) := by
  refine met_for (cc := cJ9_floorDiv_f86c9) (maxL := 6) (ret := (some .long)) (by decide +kernel) rfl ?_
  intro p e s m args below meth c s₁ B hml hv
  obtain ⟨rfl, hP, hK⟩ := hv
  have hx := B.exec; have hb := B.bytes; have hr := B.returns
  have hts := atoms_spec (ws := wl yJ9_floorDiv_f86c9 cJ9_floorDiv_f86c9 6 (some .long)) B.pre
  have htb : ∀ w ∈ tb, w.before _ s = true := fun w h => hts w (List.mem_cons_of_mem _ h)
  have hown : s.vm.findClass RJ9 = some m.cls := findClass_of_methodNamed B.named
  have hlocks := B.notSynchronized
  have hP : va_P D vwCl ([] : va_W) s.heap := hP
  have hl := lv_entry ([.long p0, .long p1]) (n := 6) (Nat.le_of_ble_eq_true rfl)
  rw [lg_entry_eq]
  generalize (lg_sl ([.long p0, .long p1]) ++ List.replicate (6 - (lg_sl ([.long p0, .long p1])).length) Slot.unset).toArray = ls at hl ⊢
  have hl : lv_has ls 6 [(0, .long p0), (2, .long p1)] := hl
  refine lv_lload_n hx hb dJ9_floorDiv_f86c9_0 rfl (lv_at hl 0 rfl) ?_
  refine lv_lload_n hx hb dJ9_floorDiv_f86c9_1 rfl (lv_at hl 1 rfl) ?_
  refine lv_ldiv hx hb dJ9_floorDiv_f86c9_2 (by assumption) ?_
  refine lv_topl (fun z_1 ez_1 => ?_)
  refine lv_lstore (lv' := [(4, .long z_1), (0, .long p0), (2, .long p1)]) hx hb dJ9_floorDiv_f86c9_3 hl (by decide) rfl (fun ls hl => ?_)
  refine lv_lload_n hx hb dJ9_floorDiv_f86c9_5 rfl (lv_at hl 1 rfl) ?_
  refine lv_lload_n hx hb dJ9_floorDiv_f86c9_6 rfl (lv_at hl 2 rfl) ?_
  refine lv_lxor hx hb dJ9_floorDiv_f86c9_7 ?_
  refine lv_topl (fun z_2 ez_2 => ?_)
  refine lv_lconst (v := 0) hx hb dJ9_floorDiv_f86c9_8 (by decide) ?_
  refine W.lcmp hx hb dJ9_floorDiv_f86c9_9 ?_
  refine lv_topi (fun z_3 ez_3 => ?_)
  refine lv_if_ge (tgt := 27) hx hb dJ9_floorDiv_f86c9_10 (by decide) (fun c_4 => ?_) (fun c_4 => ?_)
  ·
    refine lv_lload hx hb dJ9_floorDiv_f86c9_27 (lv_at hl 0 rfl) ?_
    exact W.lret (v := z_1) hx hb hr (fun t ht hW => ⟨z_1, rfl, trivial, ht⟩) (fun q h => by cases h) dJ9_floorDiv_f86c9_29
  ·
    refine lv_lload hx hb dJ9_floorDiv_f86c9_13 (lv_at hl 0 rfl) ?_
    refine lv_lload_n hx hb dJ9_floorDiv_f86c9_15 rfl (lv_at hl 2 rfl) ?_
    refine lv_lmul hx hb dJ9_floorDiv_f86c9_16 ?_
    refine lv_topl (fun z_7 ez_7 => ?_)
    refine lv_lload_n hx hb dJ9_floorDiv_f86c9_17 rfl (lv_at hl 1 rfl) ?_
    refine W.lcmp hx hb dJ9_floorDiv_f86c9_18 ?_
    refine lv_topi (fun z_8 ez_8 => ?_)
    refine lv_if_eq (tgt := 27) hx hb dJ9_floorDiv_f86c9_19 (by decide) (fun c_9 => ?_) (fun c_9 => ?_)
    ·
      have lc_10 : (z_7 : Int64) = (p0 : Int64) := lc_eq (by rw [← ez_8]; exact c_9)
      refine lv_lload hx hb dJ9_floorDiv_f86c9_27 (lv_at hl 0 rfl) ?_
      exact W.lret (v := z_1) hx hb hr (fun t ht hW => ⟨z_1, rfl, trivial, ht⟩) (fun q h => by cases h) dJ9_floorDiv_f86c9_29
    ·
      have lc_11 : ¬ (z_7 : Int64) = (p0 : Int64) := lc_ne (by rw [← ez_8]; exact c_9)
      refine lv_lload hx hb dJ9_floorDiv_f86c9_22 (lv_at hl 0 rfl) ?_
      refine lv_lconst (v := 1) hx hb dJ9_floorDiv_f86c9_24 (by decide) ?_
      refine lv_lsub hx hb dJ9_floorDiv_f86c9_25 ?_
      refine lv_topl (fun z_12 ez_12 => ?_)
      exact W.lret (v := z_12) hx hb hr (fun t ht hW => ⟨z_12, rfl, trivial, ht⟩) (fun q h => by cases h) dJ9_floorDiv_f86c9_26
set_option maxHeartbeats 4000000 in
set_option maxRecDepth 100000 in
theorem g_J9_floorMod_f86c9 (l : Launch) (D : va_G) (E : Nat → Nat) (p0 : Int64) (p1 : Int64) (n0 : ¬ p1 = 0) : Met l yJ9_floorMod_f86c9 (wl yJ9_floorMod_f86c9 cJ9_floorMod_f86c9 6 (some .long)) (RM 0 0 0) (rd_P D E [.long p0, .long p1] ([] : va_W)) (rl_Q (fun r => True)) 0 0 (fun _ => False) := by
  refine met_for (cc := cJ9_floorMod_f86c9) (maxL := 6) (ret := (some .long)) (by decide +kernel) rfl ?_
  intro p e s m args below meth c s₁ B hml hv
  obtain ⟨rfl, hP, hK⟩ := hv
  have hx := B.exec; have hb := B.bytes; have hr := B.returns
  have hts := atoms_spec (ws := wl yJ9_floorMod_f86c9 cJ9_floorMod_f86c9 6 (some .long)) B.pre
  have htb : ∀ w ∈ tb, w.before _ s = true := fun w h => hts w (List.mem_cons_of_mem _ h)
  have hown : s.vm.findClass RJ9 = some m.cls := findClass_of_methodNamed B.named
  have hlocks := B.notSynchronized
  have hP : va_P D vwCl ([] : va_W) s.heap := hP
  have hl := lv_entry ([.long p0, .long p1]) (n := 6) (Nat.le_of_ble_eq_true rfl)
  rw [lg_entry_eq]
  generalize (lg_sl ([.long p0, .long p1]) ++ List.replicate (6 - (lg_sl ([.long p0, .long p1])).length) Slot.unset).toArray = ls at hl ⊢
  have hl : lv_has ls 6 [(0, .long p0), (2, .long p1)] := hl
  refine lv_lload_n hx hb dJ9_floorMod_f86c9_0 rfl (lv_at hl 0 rfl) ?_
  refine lv_lload_n hx hb dJ9_floorMod_f86c9_1 rfl (lv_at hl 1 rfl) ?_
  refine lv_lrem hx hb dJ9_floorMod_f86c9_2 (by assumption) ?_
  refine lv_topl (fun z_1 ez_1 => ?_)
  refine lv_lstore (lv' := [(4, .long z_1), (0, .long p0), (2, .long p1)]) hx hb dJ9_floorMod_f86c9_3 hl (by decide) rfl (fun ls hl => ?_)
  refine lv_lload_n hx hb dJ9_floorMod_f86c9_5 rfl (lv_at hl 1 rfl) ?_
  refine lv_lload_n hx hb dJ9_floorMod_f86c9_6 rfl (lv_at hl 2 rfl) ?_
  refine lv_lxor hx hb dJ9_floorMod_f86c9_7 ?_
  refine lv_topl (fun z_2 ez_2 => ?_)
  refine lv_lconst (v := 0) hx hb dJ9_floorMod_f86c9_8 (by decide) ?_
  refine W.lcmp hx hb dJ9_floorMod_f86c9_9 ?_
  refine lv_topi (fun z_3 ez_3 => ?_)
  refine lv_if_ge (tgt := 25) hx hb dJ9_floorMod_f86c9_10 (by decide) (fun c_4 => ?_) (fun c_4 => ?_)
  ·
    refine lv_lload hx hb dJ9_floorMod_f86c9_25 (lv_at hl 0 rfl) ?_
    exact W.lret (v := z_1) hx hb hr (fun t ht hW => ⟨z_1, rfl, trivial, ht⟩) (fun q h => by cases h) dJ9_floorMod_f86c9_27
  ·
    refine lv_lload hx hb dJ9_floorMod_f86c9_13 (lv_at hl 0 rfl) ?_
    refine lv_lconst (v := 0) hx hb dJ9_floorMod_f86c9_15 (by decide) ?_
    refine W.lcmp hx hb dJ9_floorMod_f86c9_16 ?_
    refine lv_topi (fun z_7 ez_7 => ?_)
    refine lv_if_eq (tgt := 25) hx hb dJ9_floorMod_f86c9_17 (by decide) (fun c_8 => ?_) (fun c_8 => ?_)
    ·
      have lc_9 : (z_1 : Int64) = (0 : Int64) := lc_eq (by rw [← ez_7]; exact c_8)
      refine lv_lload hx hb dJ9_floorMod_f86c9_25 (lv_at hl 0 rfl) ?_
      exact W.lret (v := z_1) hx hb hr (fun t ht hW => ⟨z_1, rfl, trivial, ht⟩) (fun q h => by cases h) dJ9_floorMod_f86c9_27
    ·
      have lc_10 : ¬ (z_1 : Int64) = (0 : Int64) := lc_ne (by rw [← ez_7]; exact c_8)
      refine lv_lload hx hb dJ9_floorMod_f86c9_20 (lv_at hl 0 rfl) ?_
      refine lv_lload_n hx hb dJ9_floorMod_f86c9_22 rfl (lv_at hl 2 rfl) ?_
      refine lv_ladd hx hb dJ9_floorMod_f86c9_23 ?_
      refine lv_topl (fun z_11 ez_11 => ?_)
      exact W.lret (v := z_11) hx hb hr (fun t ht hW => ⟨z_11, rfl, trivial, ht⟩) (fun q h => by cases h) dJ9_floorMod_f86c9_24
set_option maxHeartbeats 4000000 in
set_option maxRecDepth 100000 in
theorem g_J9_abs_067f4 (l : Launch) (D : va_G) (E : Nat → Nat) (p0 : Int64)  : Met l yJ9_abs_067f4 (wl yJ9_abs_067f4 cJ9_abs_067f4 2 (some .long)) (RM 0 0 0) (rd_P D E [.long p0] ([] : va_W)) (rl_Q (fun r => True)) 0 0 (fun _ => False) := by
  refine met_for (cc := cJ9_abs_067f4) (maxL := 2) (ret := (some .long)) (by decide +kernel) rfl ?_
  intro p e s m args below meth c s₁ B hml hv
  obtain ⟨rfl, hP, hK⟩ := hv
  have hx := B.exec; have hb := B.bytes; have hr := B.returns
  have hts := atoms_spec (ws := wl yJ9_abs_067f4 cJ9_abs_067f4 2 (some .long)) B.pre
  have htb : ∀ w ∈ tb, w.before _ s = true := fun w h => hts w (List.mem_cons_of_mem _ h)
  have hown : s.vm.findClass RJ9 = some m.cls := findClass_of_methodNamed B.named
  have hlocks := B.notSynchronized
  have hP : va_P D vwCl ([] : va_W) s.heap := hP
  have hl := lv_entry ([.long p0]) (n := 2) (Nat.le_of_ble_eq_true rfl)
  rw [lg_entry_eq]
  generalize (lg_sl ([.long p0]) ++ List.replicate (2 - (lg_sl ([.long p0])).length) Slot.unset).toArray = ls at hl ⊢
  have hl : lv_has ls 2 [(0, .long p0)] := hl
  refine lv_lload_n hx hb dJ9_abs_067f4_0 rfl (lv_at hl 0 rfl) ?_
  refine lv_lconst (v := 0) hx hb dJ9_abs_067f4_1 (by decide) ?_
  refine W.lcmp hx hb dJ9_abs_067f4_2 ?_
  refine lv_topi (fun z_1 ez_1 => ?_)
  refine lv_if_ge (tgt := 11) hx hb dJ9_abs_067f4_3 (by decide) (fun c_2 => ?_) (fun c_2 => ?_)
  ·
    refine lv_lload_n hx hb dJ9_abs_067f4_11 rfl (lv_at hl 0 rfl) ?_
    exact W.lret (v := p0) hx hb hr (fun t ht hW => ⟨p0, rfl, trivial, ht⟩) (fun q h => by cases h) dJ9_abs_067f4_12
  ·
    refine lv_lload_n hx hb dJ9_abs_067f4_6 rfl (lv_at hl 0 rfl) ?_
    refine lv_lneg hx hb dJ9_abs_067f4_7 ?_
    refine lv_topl (fun z_5 ez_5 => ?_)
    refine lv_goto (tgt := 12) hx hb dJ9_abs_067f4_8 (by decide) ?_
    exact W.lret (v := z_5) hx hb hr (fun t ht hW => ⟨z_5, rfl, trivial, ht⟩) (fun q h => by cases h) dJ9_abs_067f4_12
set_option maxHeartbeats 4000000 in
set_option maxRecDepth 100000 in
theorem g_X5_timeOf (l : Launch) (D : va_G) (E : Nat → Nat) (yh : Nat) (ya : Nat → Nat) (ysights : Int32) (ystage : Int32) (ysailed : Int32) (yvoyage : Int32) (yf1 : Nat → Int32) (yf2 : Nat → Int32) (yf4 : Nat → Int32) (yf5 : Nat → Int32) (yf6 : Nat → Int32) (p0 : Int32) (p1 : Int32) (hi_y : (0 ≤ ysights.toInt ∧ ysights.toInt ≤ 40)) : Met l yX5_timeOf (wl yX5_timeOf cX5_timeOf 5 (some .int)) (RM 2 0 0) (rd_P D E [.ref yh, .int p0, .int p1] [(yh, .inr (5, G5 ya ysights ystage ysailed yvoyage)), ((ya 1), .inl (E 0, 3, .inl yf1)), ((ya 2), .inl (E 0, 3, .inl yf2)), ((ya 4), .inl (E 0, 3, .inl yf4)), ((ya 5), .inl (E 0, 40, .inl yf5)), ((ya 6), .inl (E 0, 120, .inl yf6))]) (rd_Q (fun r => True)) 0 0 (fun _ => False) := by
  refine Met.ofW (cc := cX5_timeOf) (maxL := 5) (ret := (some .int)) (by decide) rfl ?_
  intro p e s m args below meth c s₁ B hml hv
  obtain ⟨rfl, hP, hK⟩ := hv
  have hx := B.exec; have hb := B.bytes; have hr := B.returns
  have hts := atoms_spec (ws := wl yX5_timeOf cX5_timeOf 5 (some .int)) B.pre
  have htb : ∀ w ∈ tb, w.before _ s = true := fun w h => hts w (List.mem_cons_of_mem _ h)
  have hown : s.vm.findClass RX5 = some m.cls := findClass_of_methodNamed B.named
  have hlocks := B.notSynchronized
  have hP : va_P D vwCl [(yh, .inr (5, G5 ya ysights ystage ysailed yvoyage)), ((ya 1), .inl (E 0, 3, .inl yf1)), ((ya 2), .inl (E 0, 3, .inl yf2)), ((ya 4), .inl (E 0, 3, .inl yf4)), ((ya 5), .inl (E 0, 40, .inl yf5)), ((ya 6), .inl (E 0, 120, .inl yf6))] s.heap := hP
  have hl := lv_entry ([.ref yh, .int p0, .int p1]) (n := 5) (Nat.le_of_ble_eq_true rfl)
  rw [lg_entry_eq]
  generalize (lg_sl ([.ref yh, .int p0, .int p1]) ++ List.replicate (5 - (lg_sl ([.ref yh, .int p0, .int p1])).length) Slot.unset).toArray = ls at hl ⊢
  have hl : lv_has ls 5 [(0, .ref yh), (1, .int p0), (2, .int p1)] := hl
  have lo_p0 := i_lo p0; have hi_p0 := i_hi p0
  have lo_p1 := i_lo p1; have hi_p1 := i_hi p1
  refine lv_aload_n hx hb dX5_timeOf_0 rfl (lv_at hl 0 rfl) ?_
  refine lv_iload_n hx hb dX5_timeOf_1 rfl (lv_at hl 1 rfl) ?_
  refine lv_iload_n hx hb dX5_timeOf_2 rfl (lv_at hl 2 rfl) ?_
  refine callRV (rest := []) (As := [.int p0, .int p1]) hx hb hml hown htb hK (g_X5_isOf l D E yh ya ysights ystage ysailed yvoyage p0 p1 (by (try dsimp only); omega)) ok_X5_isOf k_833 k_835 ks_31 k_8 k_836 ⟨(Nat.le_of_ble_eq_true rfl), (Nat.le_of_ble_eq_true rfl)⟩ ⟨(Nat.le_of_ble_eq_true rfl), (Nat.le_of_ble_eq_true rfl)⟩ hl.1 (Nat.le_of_ble_eq_true rfl) rfl rfl dX5_timeOf_3 (hP.sub (ws' := [(yh, .inr (5, G5 ya ysights ystage ysailed yvoyage))]) [0] rfl) rfl rfl 0 rfl (fun r_1 hw_2 => ?_)
  rcases hw_2 with ⟨hr_1, hw_2⟩ | ⟨hr_1, hw_2⟩
  ·
    refine W_top (y := .int 1) (by rw [hr_1]) ?_
    refine lv_if_ne (tgt := 11) hx hb dX5_timeOf_6 (by decide) (fun c_4 => ?_) (fun c_4 => absurd c_4 (by decide))
    refine lv_aload_n hx hb dX5_timeOf_11 rfl (lv_at hl 0 rfl) ?_
    refine lv_iload_n hx hb dX5_timeOf_12 rfl (lv_at hl 1 rfl) ?_
    refine callRV (rest := []) (As := [.int p0]) hx hb hml hown htb hK (g_X5_daysSince l D E yh ya ysights ystage ysailed yvoyage yf5 p0 (by (try dsimp only); omega)) ok_X5_daysSince k_837 k_838 k_839 k_8 k_840 ⟨(Nat.le_of_ble_eq_true rfl), (Nat.le_of_ble_eq_true rfl)⟩ ⟨(Nat.le_of_ble_eq_true rfl), (Nat.le_of_ble_eq_true rfl)⟩ hl.1 (Nat.le_of_ble_eq_true rfl) rfl rfl dX5_timeOf_13 (hP.sub (ws' := [(yh, .inr (5, G5 ya ysights ystage ysailed yvoyage)), ((ya 5), .inl (E 0, 40, .inl yf5))]) [0, 4] rfl) rfl rfl 0 rfl (fun r_5 hw_6 => ?_)
    refine lv_istore_n (lv' := [(3, .int r_5), (0, .ref yh), (1, .int p0), (2, .int p1)]) hx hb dX5_timeOf_16 rfl hl (by decide) rfl (fun ls hl => ?_)
    refine lv_aload_n hx hb dX5_timeOf_17 rfl (lv_at hl 1 rfl) ?_
    refine va_get (D := D) (ci := 5) (v := .ref (ya 2)) (C := RX5) (T := TX5) (N := 11) hx hb htb iX5 hown hK.1 hP 0 rfl rfl 2 (by decide) (htb _ k_232) (fun _ h9 => h9) rfl dX5_timeOf_18 ?_
    refine lv_iload_n hx hb dX5_timeOf_21 rfl (lv_at hl 3 rfl) ?_
    refine va_iald hx hb hK.1 hP 2 0 rfl rfl (g_in rfl (by omega) (by omega)) dX5_timeOf_22 ?_
    refine lv_topi (fun z_8 ez_8 => ?_)
    have kz_8 := congrArg Int32.toInt ez_8
    refine lv_iload_n hx hb dX5_timeOf_23 rfl (lv_at hl 0 rfl) ?_
    refine lv_imul hx hb dX5_timeOf_24 ?_
    refine lv_topi (fun z_9 ez_9 => ?_)
    refine lv_istore (lv' := [(4, .int z_9), (3, .int r_5), (0, .ref yh), (1, .int p0), (2, .int p1)]) hx hb dX5_timeOf_25 hl (by decide) rfl (fun ls hl => ?_)
    refine lv_aload_n hx hb dX5_timeOf_27 rfl (lv_at hl 2 rfl) ?_
    refine va_get (D := D) (ci := 5) (v := .int ystage) (C := RX5) (T := TX5) (N := 11) hx hb htb iX5 hown hK.1 hP 0 rfl rfl 8 (by decide) (htb _ k_243) (fun _ h9 => h9) rfl dX5_timeOf_28 ?_
    refine lv_iconst (v := 2) hx hb dX5_timeOf_31 (by decide) ?_
    refine lv_icmp_ne (tgt := 66) hx hb dX5_timeOf_32 (by decide) (fun c_10 => ?_) (fun c_10 => ?_)
    ·
      have ic_10 : ystage.toInt ≠ 2 := mt (g_eq rfl t_2).mpr c_10
      clear c_10
      refine lv_aload_n hx hb dX5_timeOf_66 rfl (lv_at hl 2 rfl) ?_
      refine va_get (D := D) (ci := 5) (v := .ref (ya 6)) (C := RX5) (T := TX5) (N := 11) hx hb htb iX5 hown hK.1 hP 0 rfl rfl 6 (by decide) (htb _ k_240) (fun _ h9 => h9) rfl dX5_timeOf_67 ?_
      refine lv_iconst (v := 3) hx hb dX5_timeOf_70 (by decide) ?_
      refine lv_iload_n hx hb dX5_timeOf_71 rfl (lv_at hl 3 rfl) ?_
      refine lv_imul hx hb dX5_timeOf_72 ?_
      refine lv_topi (fun z_11 ez_11 => ?_)
      have jz_11 : z_11.toInt = 3 * p0.toInt := by rw [ez_11]; exact g_mul t_3 rfl (by omega) (by omega)
      refine lv_iload_n hx hb dX5_timeOf_73 rfl (lv_at hl 4 rfl) ?_
      refine lv_iadd hx hb dX5_timeOf_74 ?_
      refine lv_topi (fun z_12 ez_12 => ?_)
      have jz_12 : z_12.toInt = z_11.toInt + p1.toInt := by rw [ez_12]; exact g_add rfl rfl (by omega) (by omega)
      refine va_iald hx hb hK.1 hP 5 0 rfl rfl (g_in rfl (by omega) (by omega)) dX5_timeOf_75 ?_
      refine lv_topi (fun z_13 ez_13 => ?_)
      have kz_13 := congrArg Int32.toInt ez_13
      refine lv_aload_n hx hb dX5_timeOf_76 rfl (lv_at hl 2 rfl) ?_
      refine va_get (D := D) (ci := 5) (v := .ref (ya 1)) (C := RX5) (T := TX5) (N := 11) hx hb htb iX5 hown hK.1 hP 0 rfl rfl 1 (by decide) (htb _ k_230) (fun _ h9 => h9) rfl dX5_timeOf_77 ?_
      refine lv_iload_n hx hb dX5_timeOf_80 rfl (lv_at hl 4 rfl) ?_
      refine va_iald hx hb hK.1 hP 1 0 rfl rfl (g_in rfl (by omega) (by omega)) dX5_timeOf_81 ?_
      refine lv_topi (fun z_14 ez_14 => ?_)
      have kz_14 := congrArg Int32.toInt ez_14
      refine lv_isub hx hb dX5_timeOf_82 ?_
      refine lv_topi (fun z_15 ez_15 => ?_)
      refine lv_iload hx hb dX5_timeOf_83 (lv_at hl 0 rfl) ?_
      refine lv_isub hx hb dX5_timeOf_85 ?_
      refine lv_topi (fun z_16 ez_16 => ?_)
      exact W.iret (v := z_16) hx hb hr (fun t ht hW => ⟨z_16, rfl, trivial, ht⟩) (fun q h => by cases h) dX5_timeOf_86
    ·
      have ic_10 : ystage.toInt = 2 := (g_eq rfl t_2).mp c_10
      clear c_10
      refine lv_aload_n hx hb dX5_timeOf_35 rfl (lv_at hl 2 rfl) ?_
      refine va_get (D := D) (ci := 5) (v := .int yvoyage) (C := RX5) (T := TX5) (N := 11) hx hb htb iX5 hown hK.1 hP 0 rfl rfl 10 (by decide) (htb _ k_247) (fun _ h9 => h9) rfl dX5_timeOf_36 ?_
      refine lv_if_le (tgt := 66) hx hb dX5_timeOf_39 (by decide) (fun c_17 => ?_) (fun c_17 => ?_)
      ·
        have ic_17 : yvoyage.toInt ≤ 0 := by first | exact (g_le rfl t_0).mp c_17 | (have h := mt (g_lt t_0 rfl).mpr c_17; omega)
        clear c_17
        refine lv_aload_n hx hb dX5_timeOf_66 rfl (lv_at hl 2 rfl) ?_
        refine va_get (D := D) (ci := 5) (v := .ref (ya 6)) (C := RX5) (T := TX5) (N := 11) hx hb htb iX5 hown hK.1 hP 0 rfl rfl 6 (by decide) (htb _ k_240) (fun _ h9 => h9) rfl dX5_timeOf_67 ?_
        refine lv_iconst (v := 3) hx hb dX5_timeOf_70 (by decide) ?_
        refine lv_iload_n hx hb dX5_timeOf_71 rfl (lv_at hl 3 rfl) ?_
        refine lv_imul hx hb dX5_timeOf_72 ?_
        refine lv_topi (fun z_18 ez_18 => ?_)
        have jz_18 : z_18.toInt = 3 * p0.toInt := by rw [ez_18]; exact g_mul t_3 rfl (by omega) (by omega)
        refine lv_iload_n hx hb dX5_timeOf_73 rfl (lv_at hl 4 rfl) ?_
        refine lv_iadd hx hb dX5_timeOf_74 ?_
        refine lv_topi (fun z_19 ez_19 => ?_)
        have jz_19 : z_19.toInt = z_18.toInt + p1.toInt := by rw [ez_19]; exact g_add rfl rfl (by omega) (by omega)
        refine va_iald hx hb hK.1 hP 5 0 rfl rfl (g_in rfl (by omega) (by omega)) dX5_timeOf_75 ?_
        refine lv_topi (fun z_20 ez_20 => ?_)
        have kz_20 := congrArg Int32.toInt ez_20
        refine lv_aload_n hx hb dX5_timeOf_76 rfl (lv_at hl 2 rfl) ?_
        refine va_get (D := D) (ci := 5) (v := .ref (ya 1)) (C := RX5) (T := TX5) (N := 11) hx hb htb iX5 hown hK.1 hP 0 rfl rfl 1 (by decide) (htb _ k_230) (fun _ h9 => h9) rfl dX5_timeOf_77 ?_
        refine lv_iload_n hx hb dX5_timeOf_80 rfl (lv_at hl 4 rfl) ?_
        refine va_iald hx hb hK.1 hP 1 0 rfl rfl (g_in rfl (by omega) (by omega)) dX5_timeOf_81 ?_
        refine lv_topi (fun z_21 ez_21 => ?_)
        have kz_21 := congrArg Int32.toInt ez_21
        refine lv_isub hx hb dX5_timeOf_82 ?_
        refine lv_topi (fun z_22 ez_22 => ?_)
        refine lv_iload hx hb dX5_timeOf_83 (lv_at hl 0 rfl) ?_
        refine lv_isub hx hb dX5_timeOf_85 ?_
        refine lv_topi (fun z_23 ez_23 => ?_)
        exact W.iret (v := z_23) hx hb hr (fun t ht hW => ⟨z_23, rfl, trivial, ht⟩) (fun q h => by cases h) dX5_timeOf_86
      ·
        have ic_17 : 0 < yvoyage.toInt := by first | exact (g_lt t_0 rfl).mp c_17 | (have h := mt (g_le rfl t_0).mpr c_17; omega)
        clear c_17
        refine lv_iload_n hx hb dX5_timeOf_42 rfl (lv_at hl 1 rfl) ?_
        refine lv_aload_n hx hb dX5_timeOf_43 rfl (lv_at hl 2 rfl) ?_
        refine va_get (D := D) (ci := 5) (v := .ref (ya 4)) (C := RX5) (T := TX5) (N := 11) hx hb htb iX5 hown hK.1 hP 0 rfl rfl 4 (by decide) (htb _ k_236) (fun _ h9 => h9) rfl dX5_timeOf_44 ?_
        refine lv_iload_n hx hb dX5_timeOf_47 rfl (lv_at hl 4 rfl) ?_
        refine va_iald hx hb hK.1 hP 3 0 rfl rfl (g_in rfl (by omega) (by omega)) dX5_timeOf_48 ?_
        refine lv_topi (fun z_24 ez_24 => ?_)
        have kz_24 := congrArg Int32.toInt ez_24
        refine lv_aload_n hx hb dX5_timeOf_49 rfl (lv_at hl 2 rfl) ?_
        refine va_get (D := D) (ci := 5) (v := .ref (ya 1)) (C := RX5) (T := TX5) (N := 11) hx hb htb iX5 hown hK.1 hP 0 rfl rfl 1 (by decide) (htb _ k_230) (fun _ h9 => h9) rfl dX5_timeOf_50 ?_
        refine lv_iload_n hx hb dX5_timeOf_53 rfl (lv_at hl 4 rfl) ?_
        refine va_iald hx hb hK.1 hP 1 0 rfl rfl (g_in rfl (by omega) (by omega)) dX5_timeOf_54 ?_
        refine lv_topi (fun z_25 ez_25 => ?_)
        have kz_25 := congrArg Int32.toInt ez_25
        refine lv_isub hx hb dX5_timeOf_55 ?_
        refine lv_topi (fun z_26 ez_26 => ?_)
        refine lv_imul hx hb dX5_timeOf_56 ?_
        refine lv_topi (fun z_27 ez_27 => ?_)
        refine lv_aload_n hx hb dX5_timeOf_57 rfl (lv_at hl 2 rfl) ?_
        refine va_get (D := D) (ci := 5) (v := .int yvoyage) (C := RX5) (T := TX5) (N := 11) hx hb htb iX5 hown hK.1 hP 0 rfl rfl 10 (by decide) (htb _ k_247) (fun _ h9 => h9) rfl dX5_timeOf_58 ?_
        refine callRS (rest := []) (As := [.int z_27, .int yvoyage]) hx hb hml hown htb hK (g_J9_floorDiv_7cf53 l D E z_27 yvoyage (by (try dsimp only); omega)) ok_J9_floorDiv_7cf53 k_846 k_797 k_11 k_798 ⟨(Nat.le_of_ble_eq_true rfl), (Nat.le_of_ble_eq_true rfl)⟩ ⟨(Nat.le_of_ble_eq_true rfl), (Nat.le_of_ble_eq_true rfl)⟩ hl.1 (Nat.le_of_ble_eq_true rfl) rfl rfl dX5_timeOf_61 (hP.sub (ws' := ([] : va_W)) [] rfl) (fun r_28 hw_29 => ?_)
        refine lv_istore (lv' := [(4, .int r_28), (3, .int r_5), (0, .ref yh), (1, .int p0), (2, .int p1)]) hx hb dX5_timeOf_64 hl (by decide) rfl (fun ls hl => ?_)
        refine lv_aload_n hx hb dX5_timeOf_66 rfl (lv_at hl 2 rfl) ?_
        refine va_get (D := D) (ci := 5) (v := .ref (ya 6)) (C := RX5) (T := TX5) (N := 11) hx hb htb iX5 hown hK.1 hP 0 rfl rfl 6 (by decide) (htb _ k_240) (fun _ h9 => h9) rfl dX5_timeOf_67 ?_
        refine lv_iconst (v := 3) hx hb dX5_timeOf_70 (by decide) ?_
        refine lv_iload_n hx hb dX5_timeOf_71 rfl (lv_at hl 3 rfl) ?_
        refine lv_imul hx hb dX5_timeOf_72 ?_
        refine lv_topi (fun z_31 ez_31 => ?_)
        have jz_31 : z_31.toInt = 3 * p0.toInt := by rw [ez_31]; exact g_mul t_3 rfl (by omega) (by omega)
        refine lv_iload_n hx hb dX5_timeOf_73 rfl (lv_at hl 4 rfl) ?_
        refine lv_iadd hx hb dX5_timeOf_74 ?_
        refine lv_topi (fun z_32 ez_32 => ?_)
        have jz_32 : z_32.toInt = z_31.toInt + p1.toInt := by rw [ez_32]; exact g_add rfl rfl (by omega) (by omega)
        refine va_iald hx hb hK.1 hP 5 0 rfl rfl (g_in rfl (by omega) (by omega)) dX5_timeOf_75 ?_
        refine lv_topi (fun z_33 ez_33 => ?_)
        have kz_33 := congrArg Int32.toInt ez_33
        refine lv_aload_n hx hb dX5_timeOf_76 rfl (lv_at hl 2 rfl) ?_
        refine va_get (D := D) (ci := 5) (v := .ref (ya 1)) (C := RX5) (T := TX5) (N := 11) hx hb htb iX5 hown hK.1 hP 0 rfl rfl 1 (by decide) (htb _ k_230) (fun _ h9 => h9) rfl dX5_timeOf_77 ?_
        refine lv_iload_n hx hb dX5_timeOf_80 rfl (lv_at hl 4 rfl) ?_
        refine va_iald hx hb hK.1 hP 1 0 rfl rfl (g_in rfl (by omega) (by omega)) dX5_timeOf_81 ?_
        refine lv_topi (fun z_34 ez_34 => ?_)
        have kz_34 := congrArg Int32.toInt ez_34
        refine lv_isub hx hb dX5_timeOf_82 ?_
        refine lv_topi (fun z_35 ez_35 => ?_)
        refine lv_iload hx hb dX5_timeOf_83 (lv_at hl 0 rfl) ?_
        refine lv_isub hx hb dX5_timeOf_85 ?_
        refine lv_topi (fun z_36 ez_36 => ?_)
        exact W.iret (v := z_36) hx hb hr (fun t ht hW => ⟨z_36, rfl, trivial, ht⟩) (fun q h => by cases h) dX5_timeOf_86
  ·
    refine W_top (y := .int 0) (by rw [hr_1]) ?_
    refine lv_if_ne (tgt := 11) hx hb dX5_timeOf_6 (by decide) (fun c_37 => absurd (by decide) c_37) (fun c_37 => ?_)
    refine lv_iconst (v := 0) hx hb dX5_timeOf_9 (by decide) ?_
    exact W.iret (v := 0) hx hb hr (fun t ht hW => ⟨0, rfl, trivial, ht⟩) (fun q h => by cases h) dX5_timeOf_10
set_option maxHeartbeats 4000000 in
set_option maxRecDepth 100000 in
theorem g_X5_offFromOthers (l : Launch) (D : va_G) (E : Nat → Nat) (yh : Nat) (ya : Nat → Nat) (ysights : Int32) (ystage : Int32) (ysailed : Int32) (yvoyage : Int32) (yf1 : Nat → Int32) (yf2 : Nat → Int32) (yf4 : Nat → Int32) (yf5 : Nat → Int32) (yf6 : Nat → Int32) (p0 : Int32) (p1 : Int32) (hi_y : (0 ≤ ysights.toInt ∧ ysights.toInt ≤ 40)) (g0 : 0 ≤ p1.toInt ∧ p1.toInt ≤ 2) : Met l yX5_offFromOthers (wl yX5_offFromOthers cX5_offFromOthers 4 (some .int)) (RM 3 0 0) (rd_P D E [.ref yh, .int p0, .int p1] [(yh, .inr (5, G5 ya ysights ystage ysailed yvoyage)), ((ya 1), .inl (E 0, 3, .inl yf1)), ((ya 2), .inl (E 0, 3, .inl yf2)), ((ya 4), .inl (E 0, 3, .inl yf4)), ((ya 5), .inl (E 0, 40, .inl yf5)), ((ya 6), .inl (E 0, 120, .inl yf6))]) (rd_Q (fun r => True)) 0 0 (fun _ => False) := by
  refine Met.ofW (cc := cX5_offFromOthers) (maxL := 4) (ret := (some .int)) (by decide) rfl ?_
  intro p e s m args below meth c s₁ B hml hv
  obtain ⟨rfl, hP, hK⟩ := hv
  have hx := B.exec; have hb := B.bytes; have hr := B.returns
  have hts := atoms_spec (ws := wl yX5_offFromOthers cX5_offFromOthers 4 (some .int)) B.pre
  have htb : ∀ w ∈ tb, w.before _ s = true := fun w h => hts w (List.mem_cons_of_mem _ h)
  have hown : s.vm.findClass RX5 = some m.cls := findClass_of_methodNamed B.named
  have hlocks := B.notSynchronized
  have hP : va_P D vwCl [(yh, .inr (5, G5 ya ysights ystage ysailed yvoyage)), ((ya 1), .inl (E 0, 3, .inl yf1)), ((ya 2), .inl (E 0, 3, .inl yf2)), ((ya 4), .inl (E 0, 3, .inl yf4)), ((ya 5), .inl (E 0, 40, .inl yf5)), ((ya 6), .inl (E 0, 120, .inl yf6))] s.heap := hP
  have hl := lv_entry ([.ref yh, .int p0, .int p1]) (n := 4) (Nat.le_of_ble_eq_true rfl)
  rw [lg_entry_eq]
  generalize (lg_sl ([.ref yh, .int p0, .int p1]) ++ List.replicate (4 - (lg_sl ([.ref yh, .int p0, .int p1])).length) Slot.unset).toArray = ls at hl ⊢
  have hl : lv_has ls 4 [(0, .ref yh), (1, .int p0), (2, .int p1)] := hl
  have lo_p0 := i_lo p0; have hi_p0 := i_hi p0
  have lo_p1 := i_lo p1; have hi_p1 := i_hi p1
  refine lv_aload_n hx hb dX5_offFromOthers_0 rfl (lv_at hl 0 rfl) ?_
  refine lv_iload_n hx hb dX5_offFromOthers_1 rfl (lv_at hl 1 rfl) ?_
  refine lv_iload_n hx hb dX5_offFromOthers_2 rfl (lv_at hl 2 rfl) ?_
  refine lv_iconst (v := 1) hx hb dX5_offFromOthers_3 (by decide) ?_
  refine lv_iadd hx hb dX5_offFromOthers_4 ?_
  refine lv_topi (fun z_1 ez_1 => ?_)
  have jz_1 : z_1.toInt = p1.toInt + 1 := by rw [ez_1]; exact g_add rfl t_1 (by omega) (by omega)
  refine lv_iconst (v := 3) hx hb dX5_offFromOthers_5 (by decide) ?_
  refine lv_irem hx hb dX5_offFromOthers_6 (by decide) ?_
  refine lv_topi (fun z_2 ez_2 => ?_)
  have jz_2 : z_2.toInt = z_1.toInt % 3 := by rw [ez_2]; exact g_rem rfl t_3 (by omega) (by decide)
  refine callRV (rest := []) (As := [.int p0, .int z_2]) hx hb hml hown htb hK (g_X5_timeOf l D E yh ya ysights ystage ysailed yvoyage yf1 yf2 yf4 yf5 yf6 p0 z_2 (by (try dsimp only); omega)) ok_X5_timeOf k_855 k_843 k_844 k_8 k_845 ⟨(Nat.le_of_ble_eq_true rfl), (Nat.le_of_ble_eq_true rfl)⟩ ⟨(Nat.le_of_ble_eq_true rfl), (Nat.le_of_ble_eq_true rfl)⟩ hl.1 (Nat.le_of_ble_eq_true rfl) rfl rfl dX5_offFromOthers_7 (hP.sub (ws' := [(yh, .inr (5, G5 ya ysights ystage ysailed yvoyage)), ((ya 1), .inl (E 0, 3, .inl yf1)), ((ya 2), .inl (E 0, 3, .inl yf2)), ((ya 4), .inl (E 0, 3, .inl yf4)), ((ya 5), .inl (E 0, 40, .inl yf5)), ((ya 6), .inl (E 0, 120, .inl yf6))]) [0, 1, 2, 3, 4, 5] rfl) rfl rfl 0 rfl (fun r_3 hw_4 => ?_)
  refine lv_aload_n hx hb dX5_offFromOthers_10 rfl (lv_at hl 0 rfl) ?_
  refine lv_iload_n hx hb dX5_offFromOthers_11 rfl (lv_at hl 1 rfl) ?_
  refine lv_iload_n hx hb dX5_offFromOthers_12 rfl (lv_at hl 2 rfl) ?_
  refine lv_iconst (v := 2) hx hb dX5_offFromOthers_13 (by decide) ?_
  refine lv_iadd hx hb dX5_offFromOthers_14 ?_
  refine lv_topi (fun z_6 ez_6 => ?_)
  have jz_6 : z_6.toInt = p1.toInt + 2 := by rw [ez_6]; exact g_add rfl t_2 (by omega) (by omega)
  refine lv_iconst (v := 3) hx hb dX5_offFromOthers_15 (by decide) ?_
  refine lv_irem hx hb dX5_offFromOthers_16 (by decide) ?_
  refine lv_topi (fun z_7 ez_7 => ?_)
  have jz_7 : z_7.toInt = z_6.toInt % 3 := by rw [ez_7]; exact g_rem rfl t_3 (by omega) (by decide)
  refine callRV (rest := [.int r_3]) (As := [.int p0, .int z_7]) hx hb hml hown htb hK (g_X5_timeOf l D E yh ya ysights ystage ysailed yvoyage yf1 yf2 yf4 yf5 yf6 p0 z_7 (by (try dsimp only); omega)) ok_X5_timeOf k_855 k_843 k_844 k_8 k_845 ⟨(Nat.le_of_ble_eq_true rfl), (Nat.le_of_ble_eq_true rfl)⟩ ⟨(Nat.le_of_ble_eq_true rfl), (Nat.le_of_ble_eq_true rfl)⟩ hl.1 (Nat.le_of_ble_eq_true rfl) rfl rfl dX5_offFromOthers_17 (hP.sub (ws' := [(yh, .inr (5, G5 ya ysights ystage ysailed yvoyage)), ((ya 1), .inl (E 0, 3, .inl yf1)), ((ya 2), .inl (E 0, 3, .inl yf2)), ((ya 4), .inl (E 0, 3, .inl yf4)), ((ya 5), .inl (E 0, 40, .inl yf5)), ((ya 6), .inl (E 0, 120, .inl yf6))]) [0, 1, 2, 3, 4, 5] rfl) rfl rfl 0 rfl (fun r_8 hw_9 => ?_)
  refine lv_iadd hx hb dX5_offFromOthers_20 ?_
  refine lv_topi (fun z_11 ez_11 => ?_)
  refine lv_istore_n (lv' := [(3, .int z_11), (0, .ref yh), (1, .int p0), (2, .int p1)]) hx hb dX5_offFromOthers_21 rfl hl (by decide) rfl (fun ls hl => ?_)
  refine lv_aload_n hx hb dX5_offFromOthers_22 rfl (lv_at hl 1 rfl) ?_
  refine lv_iload_n hx hb dX5_offFromOthers_23 rfl (lv_at hl 2 rfl) ?_
  refine lv_iload_n hx hb dX5_offFromOthers_24 rfl (lv_at hl 3 rfl) ?_
  refine callRV (rest := []) (As := [.int p0, .int p1]) hx hb hml hown htb hK (g_X5_timeOf l D E yh ya ysights ystage ysailed yvoyage yf1 yf2 yf4 yf5 yf6 p0 p1 (by (try dsimp only); omega)) ok_X5_timeOf k_855 k_843 k_844 k_8 k_845 ⟨(Nat.le_of_ble_eq_true rfl), (Nat.le_of_ble_eq_true rfl)⟩ ⟨(Nat.le_of_ble_eq_true rfl), (Nat.le_of_ble_eq_true rfl)⟩ hl.1 (Nat.le_of_ble_eq_true rfl) rfl rfl dX5_offFromOthers_25 (hP.sub (ws' := [(yh, .inr (5, G5 ya ysights ystage ysailed yvoyage)), ((ya 1), .inl (E 0, 3, .inl yf1)), ((ya 2), .inl (E 0, 3, .inl yf2)), ((ya 4), .inl (E 0, 3, .inl yf4)), ((ya 5), .inl (E 0, 40, .inl yf5)), ((ya 6), .inl (E 0, 120, .inl yf6))]) [0, 1, 2, 3, 4, 5] rfl) rfl rfl 0 rfl (fun r_12 hw_13 => ?_)
  refine lv_iload_n hx hb dX5_offFromOthers_28 rfl (lv_at hl 0 rfl) ?_
  refine lv_iconst (v := 2) hx hb dX5_offFromOthers_29 (by decide) ?_
  refine callRS (rest := [.int r_12]) (As := [.int z_11, .int 2]) hx hb hml hown htb hK (g_J9_floorDiv_7cf53 l D E z_11 2 (by have h0 := t_2; (try dsimp only); omega)) ok_J9_floorDiv_7cf53 k_846 k_797 k_11 k_798 ⟨(Nat.le_of_ble_eq_true rfl), (Nat.le_of_ble_eq_true rfl)⟩ ⟨(Nat.le_of_ble_eq_true rfl), (Nat.le_of_ble_eq_true rfl)⟩ hl.1 (Nat.le_of_ble_eq_true rfl) rfl rfl dX5_offFromOthers_30 (hP.sub (ws' := ([] : va_W)) [] rfl) (fun r_15 hw_16 => ?_)
  try simp only [t_2] at hw_16
  refine lv_isub hx hb dX5_offFromOthers_33 ?_
  refine lv_topi (fun z_18 ez_18 => ?_)
  refine va_mabs hx hb (by rw [hml, hl.1]) hown (htb _ k_856) (htb _ k_571) (htb _ k_11) (htb _ k_572) (Nat.le_of_ble_eq_true rfl) (Nat.le_of_ble_eq_true rfl) (Nat.le_of_ble_eq_true rfl) (Nat.le_of_ble_eq_true rfl) dX5_offFromOthers_34 ?_
  refine lv_topi (fun z_19 ez_19 => ?_)
  have sz_19 := abs_sz ez_19
  exact W.iret (v := z_19) hx hb hr (fun t ht hW => ⟨z_19, rfl, trivial, ht⟩) (fun q h => by cases h) dX5_offFromOthers_37
set_option maxHeartbeats 4000000 in
set_option maxRecDepth 100000 in
theorem g_X5_beginOf (l : Launch) (D : va_G) (E : Nat → Nat) (yh : Nat) (ya : Nat → Nat) (ysights : Int32) (ystage : Int32) (ysailed : Int32) (yvoyage : Int32) (yf1 : Nat → Int32) (yf2 : Nat → Int32) (yf3 : Nat → Int32) (yf4 : Nat → Int32) (yf5 : Nat → Int32) (yf6 : Nat → Int32) (p0 : Int32) (p1 : Int32) (hi_y : (0 ≤ ysights.toInt ∧ ysights.toInt ≤ 40)) : Met l yX5_beginOf (wl yX5_beginOf cX5_beginOf 5 (some .int)) (RM 3 0 0) (rd_P D E [.ref yh, .int p0, .int p1] [(yh, .inr (5, G5 ya ysights ystage ysailed yvoyage)), ((ya 1), .inl (E 0, 3, .inl yf1)), ((ya 2), .inl (E 0, 3, .inl yf2)), ((ya 3), .inl (E 0, 3, .inl yf3)), ((ya 4), .inl (E 0, 3, .inl yf4)), ((ya 5), .inl (E 0, 40, .inl yf5)), ((ya 6), .inl (E 0, 120, .inl yf6))]) (rd_Q (fun r => True)) 0 0 (fun _ => False) := by
  refine Met.ofW (cc := cX5_beginOf) (maxL := 5) (ret := (some .int)) (by decide) rfl ?_
  intro p e s m args below meth c s₁ B hml hv
  obtain ⟨rfl, hP, hK⟩ := hv
  have hx := B.exec; have hb := B.bytes; have hr := B.returns
  have hts := atoms_spec (ws := wl yX5_beginOf cX5_beginOf 5 (some .int)) B.pre
  have htb : ∀ w ∈ tb, w.before _ s = true := fun w h => hts w (List.mem_cons_of_mem _ h)
  have hown : s.vm.findClass RX5 = some m.cls := findClass_of_methodNamed B.named
  have hlocks := B.notSynchronized
  have hP : va_P D vwCl [(yh, .inr (5, G5 ya ysights ystage ysailed yvoyage)), ((ya 1), .inl (E 0, 3, .inl yf1)), ((ya 2), .inl (E 0, 3, .inl yf2)), ((ya 3), .inl (E 0, 3, .inl yf3)), ((ya 4), .inl (E 0, 3, .inl yf4)), ((ya 5), .inl (E 0, 40, .inl yf5)), ((ya 6), .inl (E 0, 120, .inl yf6))] s.heap := hP
  have hl := lv_entry ([.ref yh, .int p0, .int p1]) (n := 5) (Nat.le_of_ble_eq_true rfl)
  rw [lg_entry_eq]
  generalize (lg_sl ([.ref yh, .int p0, .int p1]) ++ List.replicate (5 - (lg_sl ([.ref yh, .int p0, .int p1])).length) Slot.unset).toArray = ls at hl ⊢
  have hl : lv_has ls 5 [(0, .ref yh), (1, .int p0), (2, .int p1)] := hl
  have lo_p0 := i_lo p0; have hi_p0 := i_hi p0
  have lo_p1 := i_lo p1; have hi_p1 := i_hi p1
  refine lv_ldc hx hb hown (htb _ k_862) dX5_beginOf_0 ?_
  refine lv_istore_n (lv' := [(3, .int (-2000000000)), (0, .ref yh), (1, .int p0), (2, .int p1)]) hx hb dX5_beginOf_2 rfl hl (by decide) rfl (fun ls hl => ?_)
  refine lv_iconst (v := 0) hx hb dX5_beginOf_3 (by decide) ?_
  refine lv_istore (lv' := [(4, .int 0), (3, .int (-2000000000)), (0, .ref yh), (1, .int p0), (2, .int p1)]) hx hb dX5_beginOf_4 hl (by decide) rfl (fun ls hl => ?_)
  have loop_1 : ∀ (N_3 : Nat) (L4_6 : Int32) (L3_6 : Int32)  (ls : Array Slot), 3 - L4_6.toInt < (N_3 : Int) → (0 ≤ L4_6.toInt ∧ L4_6.toInt ≤ 3) → lv_has ls 5 [(4, .int L4_6), (3, .int L3_6), (0, .ref yh), (1, .int p0), (2, .int p1)] → W p l e (headSpec (wl yX5_beginOf cX5_beginOf 5 (some .int)) (RM 3 0 0)).room s m [Value.ref yh, .int p0, .int p1].toArray below meth c s.heap [] 0 0 (MQ below (rd_Q (fun r => True)) [Value.ref yh, .int p0, .int p1].toArray s 0 0 (fun _ => False)) (F0 m 6 ls []) := by
    intro N_3
    induction N_3 with
    | zero => intro L4_6 L3_6  ls hm v0_6 _; exfalso; omega
    | succ N_3 ih_2 =>
      intro L4_6 L3_6 ls hm v0_6 hl
      have lo_L4_6 := i_lo L4_6; have hi_L4_6 := i_hi L4_6
      have lo_L3_6 := i_lo L3_6; have hi_L3_6 := i_hi L3_6
      refine lv_iload hx hb dX5_beginOf_6 (lv_at hl 0 rfl) ?_
      refine lv_iconst (v := 3) hx hb dX5_beginOf_8 (by decide) ?_
      refine lv_icmp_ge (tgt := 44) hx hb dX5_beginOf_9 (by decide) (fun c_4 => ?_) (fun c_4 => ?_)
      ·
        have ic_4 : 3 ≤ L4_6.toInt := by first | exact (g_le t_3 rfl).mp c_4 | (have h := mt (g_lt rfl t_3).mpr c_4; omega)
        clear c_4
        refine lv_iload_n hx hb dX5_beginOf_44 rfl (lv_at hl 1 rfl) ?_
        exact W.iret (v := L3_6) hx hb hr (fun t ht hW => ⟨L3_6, rfl, trivial, ht⟩) (fun q h => by cases h) dX5_beginOf_45
      ·
        have ic_4 : L4_6.toInt < 3 := by first | exact (g_lt rfl t_3).mp c_4 | (have h := mt (g_le t_3 rfl).mpr c_4; omega)
        clear c_4
        refine lv_iload hx hb dX5_beginOf_12 (lv_at hl 0 rfl) ?_
        refine lv_iload_n hx hb dX5_beginOf_14 rfl (lv_at hl 4 rfl) ?_
        refine lv_icmp_eq (tgt := 38) hx hb dX5_beginOf_15 (by decide) (fun c_5 => ?_) (fun c_5 => ?_)
        ·
          have ic_5 : L4_6.toInt = p1.toInt := (g_eq rfl rfl).mp c_5
          clear c_5
          obtain ⟨z_6, ez_6⟩ : ∃ y : Int32, y = L4_6 + 1 := ⟨_, rfl⟩
          have jz_6 : z_6.toInt = L4_6.toInt + 1 := by rw [ez_6]; exact g_add rfl t_1 (by omega) (by omega)
          refine lv_iinc (v := z_6) (lv' := [(4, .int z_6), (3, .int L3_6), (0, .ref yh), (1, .int p0), (2, .int p1)]) hx hb dX5_beginOf_38 hl (k := 0) rfl (by rw [ez_6]; rfl) (by decide) rfl (fun ls hl => ?_)
          refine lv_goto (tgt := 6) hx hb dX5_beginOf_41 (by decide) ?_
          exact ih_2 z_6 L3_6 _ (by (try dsimp only); omega) (by (try dsimp only); omega) (lv_sub hl [0, 1, 2, 3, 4] rfl)
        ·
          have ic_5 : L4_6.toInt ≠ p1.toInt := mt (g_eq rfl rfl).mpr c_5
          clear c_5
          refine lv_iload_n hx hb dX5_beginOf_18 rfl (lv_at hl 1 rfl) ?_
          refine lv_aload_n hx hb dX5_beginOf_19 rfl (lv_at hl 2 rfl) ?_
          refine lv_iload_n hx hb dX5_beginOf_20 rfl (lv_at hl 3 rfl) ?_
          refine lv_iload hx hb dX5_beginOf_21 (lv_at hl 0 rfl) ?_
          refine callRV (rest := [.int L3_6]) (As := [.int p0, .int L4_6]) hx hb hml hown htb hK (g_X5_timeOf l D E yh ya ysights ystage ysailed yvoyage yf1 yf2 yf4 yf5 yf6 p0 L4_6 (by (try dsimp only); omega)) ok_X5_timeOf k_855 k_843 k_844 k_8 k_845 ⟨(Nat.le_of_ble_eq_true rfl), (Nat.le_of_ble_eq_true rfl)⟩ ⟨(Nat.le_of_ble_eq_true rfl), (Nat.le_of_ble_eq_true rfl)⟩ hl.1 (Nat.le_of_ble_eq_true rfl) rfl rfl dX5_beginOf_23 (hP.sub (ws' := [(yh, .inr (5, G5 ya ysights ystage ysailed yvoyage)), ((ya 1), .inl (E 0, 3, .inl yf1)), ((ya 2), .inl (E 0, 3, .inl yf2)), ((ya 4), .inl (E 0, 3, .inl yf4)), ((ya 5), .inl (E 0, 40, .inl yf5)), ((ya 6), .inl (E 0, 120, .inl yf6))]) [0, 1, 2, 4, 5, 6] rfl) rfl rfl 0 rfl (fun r_7 hw_8 => ?_)
          refine lv_aload_n hx hb dX5_beginOf_26 rfl (lv_at hl 2 rfl) ?_
          refine lv_iload_n hx hb dX5_beginOf_27 rfl (lv_at hl 3 rfl) ?_
          refine lv_iload hx hb dX5_beginOf_28 (lv_at hl 0 rfl) ?_
          refine callRV (rest := [.int r_7, .int L3_6]) (As := [.int p0, .int L4_6]) hx hb hml hown htb hK (g_X5_widthOf l D E yh ya ysights ystage ysailed yvoyage yf3 yf5 p0 L4_6 (by (try dsimp only); omega)) ok_X5_widthOf k_863 k_830 k_831 k_8 k_832 ⟨(Nat.le_of_ble_eq_true rfl), (Nat.le_of_ble_eq_true rfl)⟩ ⟨(Nat.le_of_ble_eq_true rfl), (Nat.le_of_ble_eq_true rfl)⟩ hl.1 (Nat.le_of_ble_eq_true rfl) rfl rfl dX5_beginOf_30 (hP.sub (ws' := [(yh, .inr (5, G5 ya ysights ystage ysailed yvoyage)), ((ya 3), .inl (E 0, 3, .inl yf3)), ((ya 5), .inl (E 0, 40, .inl yf5))]) [0, 3, 5] rfl) rfl rfl 0 rfl (fun r_10 hw_11 => ?_)
          refine lv_isub hx hb dX5_beginOf_33 ?_
          refine lv_topi (fun z_13 ez_13 => ?_)
          refine va_mmax hx hb (by rw [hml, hl.1]) hown (htb _ k_864) (htb _ k_732) (htb _ k_11) (htb _ k_733) (Nat.le_of_ble_eq_true rfl) (Nat.le_of_ble_eq_true rfl) (Nat.le_of_ble_eq_true rfl) (Nat.le_of_ble_eq_true rfl) dX5_beginOf_34 ?_
          refine lv_topi (fun z_14 ez_14 => ?_)
          have jz_14 := g_max rfl rfl ez_14
          refine lv_istore_n (lv' := [(3, .int z_14), (4, .int L4_6), (0, .ref yh), (1, .int p0), (2, .int p1)]) hx hb dX5_beginOf_37 rfl hl (by decide) rfl (fun ls hl => ?_)
          obtain ⟨z_15, ez_15⟩ : ∃ y : Int32, y = L4_6 + 1 := ⟨_, rfl⟩
          have jz_15 : z_15.toInt = L4_6.toInt + 1 := by rw [ez_15]; exact g_add rfl t_1 (by omega) (by omega)
          refine lv_iinc (v := z_15) (lv' := [(4, .int z_15), (3, .int z_14), (0, .ref yh), (1, .int p0), (2, .int p1)]) hx hb dX5_beginOf_38 hl (k := 1) rfl (by rw [ez_15]; rfl) (by decide) rfl (fun ls hl => ?_)
          refine lv_goto (tgt := 6) hx hb dX5_beginOf_41 (by decide) ?_
          exact ih_2 z_15 z_14 _ (by (try dsimp only); omega) (by (try dsimp only); omega) (lv_sub hl [0, 1, 2, 3, 4] rfl)
  exact loop_1 4 0 ((-2000000000)) _ (by have h0 := t_m2000000000; have h1 := t_0; (try dsimp only); omega) (by have h0 := t_m2000000000; have h1 := t_0; (try dsimp only); omega)  (lv_sub hl [0, 1, 2, 3, 4] rfl)
set_option maxHeartbeats 4000000 in
set_option maxRecDepth 100000 in
theorem g_X5_endOf (l : Launch) (D : va_G) (E : Nat → Nat) (yh : Nat) (ya : Nat → Nat) (ysights : Int32) (ystage : Int32) (ysailed : Int32) (yvoyage : Int32) (yf1 : Nat → Int32) (yf2 : Nat → Int32) (yf3 : Nat → Int32) (yf4 : Nat → Int32) (yf5 : Nat → Int32) (yf6 : Nat → Int32) (p0 : Int32) (p1 : Int32) (hi_y : (0 ≤ ysights.toInt ∧ ysights.toInt ≤ 40)) : Met l yX5_endOf (wl yX5_endOf cX5_endOf 5 (some .int)) (RM 3 0 0) (rd_P D E [.ref yh, .int p0, .int p1] [(yh, .inr (5, G5 ya ysights ystage ysailed yvoyage)), ((ya 1), .inl (E 0, 3, .inl yf1)), ((ya 2), .inl (E 0, 3, .inl yf2)), ((ya 3), .inl (E 0, 3, .inl yf3)), ((ya 4), .inl (E 0, 3, .inl yf4)), ((ya 5), .inl (E 0, 40, .inl yf5)), ((ya 6), .inl (E 0, 120, .inl yf6))]) (rd_Q (fun r => True)) 0 0 (fun _ => False) := by
  refine Met.ofW (cc := cX5_endOf) (maxL := 5) (ret := (some .int)) (by decide) rfl ?_
  intro p e s m args below meth c s₁ B hml hv
  obtain ⟨rfl, hP, hK⟩ := hv
  have hx := B.exec; have hb := B.bytes; have hr := B.returns
  have hts := atoms_spec (ws := wl yX5_endOf cX5_endOf 5 (some .int)) B.pre
  have htb : ∀ w ∈ tb, w.before _ s = true := fun w h => hts w (List.mem_cons_of_mem _ h)
  have hown : s.vm.findClass RX5 = some m.cls := findClass_of_methodNamed B.named
  have hlocks := B.notSynchronized
  have hP : va_P D vwCl [(yh, .inr (5, G5 ya ysights ystage ysailed yvoyage)), ((ya 1), .inl (E 0, 3, .inl yf1)), ((ya 2), .inl (E 0, 3, .inl yf2)), ((ya 3), .inl (E 0, 3, .inl yf3)), ((ya 4), .inl (E 0, 3, .inl yf4)), ((ya 5), .inl (E 0, 40, .inl yf5)), ((ya 6), .inl (E 0, 120, .inl yf6))] s.heap := hP
  have hl := lv_entry ([.ref yh, .int p0, .int p1]) (n := 5) (Nat.le_of_ble_eq_true rfl)
  rw [lg_entry_eq]
  generalize (lg_sl ([.ref yh, .int p0, .int p1]) ++ List.replicate (5 - (lg_sl ([.ref yh, .int p0, .int p1])).length) Slot.unset).toArray = ls at hl ⊢
  have hl : lv_has ls 5 [(0, .ref yh), (1, .int p0), (2, .int p1)] := hl
  have lo_p0 := i_lo p0; have hi_p0 := i_hi p0
  have lo_p1 := i_lo p1; have hi_p1 := i_hi p1
  refine lv_ldc hx hb hown (htb _ k_869) dX5_endOf_0 ?_
  refine lv_istore_n (lv' := [(3, .int 2000000000), (0, .ref yh), (1, .int p0), (2, .int p1)]) hx hb dX5_endOf_2 rfl hl (by decide) rfl (fun ls hl => ?_)
  refine lv_iconst (v := 0) hx hb dX5_endOf_3 (by decide) ?_
  refine lv_istore (lv' := [(4, .int 0), (3, .int 2000000000), (0, .ref yh), (1, .int p0), (2, .int p1)]) hx hb dX5_endOf_4 hl (by decide) rfl (fun ls hl => ?_)
  have loop_1 : ∀ (N_3 : Nat) (L4_6 : Int32) (L3_6 : Int32)  (ls : Array Slot), 3 - L4_6.toInt < (N_3 : Int) → (0 ≤ L4_6.toInt ∧ L4_6.toInt ≤ 3) → lv_has ls 5 [(4, .int L4_6), (3, .int L3_6), (0, .ref yh), (1, .int p0), (2, .int p1)] → W p l e (headSpec (wl yX5_endOf cX5_endOf 5 (some .int)) (RM 3 0 0)).room s m [Value.ref yh, .int p0, .int p1].toArray below meth c s.heap [] 0 0 (MQ below (rd_Q (fun r => True)) [Value.ref yh, .int p0, .int p1].toArray s 0 0 (fun _ => False)) (F0 m 6 ls []) := by
    intro N_3
    induction N_3 with
    | zero => intro L4_6 L3_6  ls hm v0_6 _; exfalso; omega
    | succ N_3 ih_2 =>
      intro L4_6 L3_6 ls hm v0_6 hl
      have lo_L4_6 := i_lo L4_6; have hi_L4_6 := i_hi L4_6
      have lo_L3_6 := i_lo L3_6; have hi_L3_6 := i_hi L3_6
      refine lv_iload hx hb dX5_endOf_6 (lv_at hl 0 rfl) ?_
      refine lv_iconst (v := 3) hx hb dX5_endOf_8 (by decide) ?_
      refine lv_icmp_ge (tgt := 44) hx hb dX5_endOf_9 (by decide) (fun c_4 => ?_) (fun c_4 => ?_)
      ·
        have ic_4 : 3 ≤ L4_6.toInt := by first | exact (g_le t_3 rfl).mp c_4 | (have h := mt (g_lt rfl t_3).mpr c_4; omega)
        clear c_4
        refine lv_iload_n hx hb dX5_endOf_44 rfl (lv_at hl 1 rfl) ?_
        exact W.iret (v := L3_6) hx hb hr (fun t ht hW => ⟨L3_6, rfl, trivial, ht⟩) (fun q h => by cases h) dX5_endOf_45
      ·
        have ic_4 : L4_6.toInt < 3 := by first | exact (g_lt rfl t_3).mp c_4 | (have h := mt (g_le t_3 rfl).mpr c_4; omega)
        clear c_4
        refine lv_iload hx hb dX5_endOf_12 (lv_at hl 0 rfl) ?_
        refine lv_iload_n hx hb dX5_endOf_14 rfl (lv_at hl 4 rfl) ?_
        refine lv_icmp_eq (tgt := 38) hx hb dX5_endOf_15 (by decide) (fun c_5 => ?_) (fun c_5 => ?_)
        ·
          have ic_5 : L4_6.toInt = p1.toInt := (g_eq rfl rfl).mp c_5
          clear c_5
          obtain ⟨z_6, ez_6⟩ : ∃ y : Int32, y = L4_6 + 1 := ⟨_, rfl⟩
          have jz_6 : z_6.toInt = L4_6.toInt + 1 := by rw [ez_6]; exact g_add rfl t_1 (by omega) (by omega)
          refine lv_iinc (v := z_6) (lv' := [(4, .int z_6), (3, .int L3_6), (0, .ref yh), (1, .int p0), (2, .int p1)]) hx hb dX5_endOf_38 hl (k := 0) rfl (by rw [ez_6]; rfl) (by decide) rfl (fun ls hl => ?_)
          refine lv_goto (tgt := 6) hx hb dX5_endOf_41 (by decide) ?_
          exact ih_2 z_6 L3_6 _ (by (try dsimp only); omega) (by (try dsimp only); omega) (lv_sub hl [0, 1, 2, 3, 4] rfl)
        ·
          have ic_5 : L4_6.toInt ≠ p1.toInt := mt (g_eq rfl rfl).mpr c_5
          clear c_5
          refine lv_iload_n hx hb dX5_endOf_18 rfl (lv_at hl 1 rfl) ?_
          refine lv_aload_n hx hb dX5_endOf_19 rfl (lv_at hl 2 rfl) ?_
          refine lv_iload_n hx hb dX5_endOf_20 rfl (lv_at hl 3 rfl) ?_
          refine lv_iload hx hb dX5_endOf_21 (lv_at hl 0 rfl) ?_
          refine callRV (rest := [.int L3_6]) (As := [.int p0, .int L4_6]) hx hb hml hown htb hK (g_X5_timeOf l D E yh ya ysights ystage ysailed yvoyage yf1 yf2 yf4 yf5 yf6 p0 L4_6 (by (try dsimp only); omega)) ok_X5_timeOf k_855 k_843 k_844 k_8 k_845 ⟨(Nat.le_of_ble_eq_true rfl), (Nat.le_of_ble_eq_true rfl)⟩ ⟨(Nat.le_of_ble_eq_true rfl), (Nat.le_of_ble_eq_true rfl)⟩ hl.1 (Nat.le_of_ble_eq_true rfl) rfl rfl dX5_endOf_23 (hP.sub (ws' := [(yh, .inr (5, G5 ya ysights ystage ysailed yvoyage)), ((ya 1), .inl (E 0, 3, .inl yf1)), ((ya 2), .inl (E 0, 3, .inl yf2)), ((ya 4), .inl (E 0, 3, .inl yf4)), ((ya 5), .inl (E 0, 40, .inl yf5)), ((ya 6), .inl (E 0, 120, .inl yf6))]) [0, 1, 2, 4, 5, 6] rfl) rfl rfl 0 rfl (fun r_7 hw_8 => ?_)
          refine lv_aload_n hx hb dX5_endOf_26 rfl (lv_at hl 2 rfl) ?_
          refine lv_iload_n hx hb dX5_endOf_27 rfl (lv_at hl 3 rfl) ?_
          refine lv_iload hx hb dX5_endOf_28 (lv_at hl 0 rfl) ?_
          refine callRV (rest := [.int r_7, .int L3_6]) (As := [.int p0, .int L4_6]) hx hb hml hown htb hK (g_X5_widthOf l D E yh ya ysights ystage ysailed yvoyage yf3 yf5 p0 L4_6 (by (try dsimp only); omega)) ok_X5_widthOf k_863 k_830 k_831 k_8 k_832 ⟨(Nat.le_of_ble_eq_true rfl), (Nat.le_of_ble_eq_true rfl)⟩ ⟨(Nat.le_of_ble_eq_true rfl), (Nat.le_of_ble_eq_true rfl)⟩ hl.1 (Nat.le_of_ble_eq_true rfl) rfl rfl dX5_endOf_30 (hP.sub (ws' := [(yh, .inr (5, G5 ya ysights ystage ysailed yvoyage)), ((ya 3), .inl (E 0, 3, .inl yf3)), ((ya 5), .inl (E 0, 40, .inl yf5))]) [0, 3, 5] rfl) rfl rfl 0 rfl (fun r_10 hw_11 => ?_)
          refine lv_iadd hx hb dX5_endOf_33 ?_
          refine lv_topi (fun z_13 ez_13 => ?_)
          refine va_mmin hx hb (by rw [hml, hl.1]) hown (htb _ k_841) (htb _ k_725) (htb _ k_11) (htb _ k_726) (Nat.le_of_ble_eq_true rfl) (Nat.le_of_ble_eq_true rfl) (Nat.le_of_ble_eq_true rfl) (Nat.le_of_ble_eq_true rfl) dX5_endOf_34 ?_
          refine lv_topi (fun z_14 ez_14 => ?_)
          have jz_14 := g_min rfl rfl ez_14
          refine lv_istore_n (lv' := [(3, .int z_14), (4, .int L4_6), (0, .ref yh), (1, .int p0), (2, .int p1)]) hx hb dX5_endOf_37 rfl hl (by decide) rfl (fun ls hl => ?_)
          obtain ⟨z_15, ez_15⟩ : ∃ y : Int32, y = L4_6 + 1 := ⟨_, rfl⟩
          have jz_15 : z_15.toInt = L4_6.toInt + 1 := by rw [ez_15]; exact g_add rfl t_1 (by omega) (by omega)
          refine lv_iinc (v := z_15) (lv' := [(4, .int z_15), (3, .int z_14), (0, .ref yh), (1, .int p0), (2, .int p1)]) hx hb dX5_endOf_38 hl (k := 1) rfl (by rw [ez_15]; rfl) (by decide) rfl (fun ls hl => ?_)
          refine lv_goto (tgt := 6) hx hb dX5_endOf_41 (by decide) ?_
          exact ih_2 z_15 z_14 _ (by (try dsimp only); omega) (by (try dsimp only); omega) (lv_sub hl [0, 1, 2, 3, 4] rfl)
  exact loop_1 4 0 2000000000 _ (by have h0 := t_0; have h1 := t_2000000000; (try dsimp only); omega) (by have h0 := t_0; have h1 := t_2000000000; (try dsimp only); omega)  (lv_sub hl [0, 1, 2, 3, 4] rfl)
set_option maxHeartbeats 4000000 in
set_option maxRecDepth 100000 in
theorem g_X1_addProduct (l : Launch) (D : va_G) (E : Nat → Nat) (fh : Nat) (fa : Nat → Nat) (fn : Int64) (fsumR : Int64) (fsumW : Int64) (fsumA : Int64) (fsumWW : Int64) (fsumAA : Int64) (fsumWA : Int64) (fsumWR : Int64) (fsumAR : Int64) (fdivisor : Int64) (fbyWarmth : Int64) (fbyAge : Int64) (fform : Int32) (fwhole : Int64) (frest : Int64) (p0 : Int64) (p1 : Int64) (sz : Nat)  : Met l yX1_addProduct (wl yX1_addProduct cX1_addProduct 18 none) (RM 1 0 0) (mu_P D E [.ref fh, .long p0, .long p1] [(fh, .inr (1, G1 fa fn fsumR fsumW fsumA fsumWW fsumAA fsumWA fsumWR fsumAR fdivisor fbyWarmth fbyAge fform fwhole frest))] sz) (va_Qv (fun (u : (Int64) × (Int64)) => True) (mu_B D (va_A [(fh, .inr (1, G1 fa fn fsumR fsumW fsumA fsumWW fsumAA fsumWA fsumWR fsumAR fdivisor fbyWarmth fbyAge fform fwhole frest))] sz) (fun (u : (Int64) × (Int64)) => [(fh, .inr (1, G1 fa fn fsumR fsumW fsumA fsumWW fsumAA fsumWA fsumWR fsumAR fdivisor fbyWarmth fbyAge fform u.2 u.1))])) (va_A [(fh, .inr (1, G1 fa fn fsumR fsumW fsumA fsumWW fsumAA fsumWA fsumWR fsumAR fdivisor fbyWarmth fbyAge fform fwhole frest))] sz)) 0 0 (va_A [(fh, .inr (1, G1 fa fn fsumR fsumW fsumA fsumWW fsumAA fsumWA fsumWR fsumAR fdivisor fbyWarmth fbyAge fform fwhole frest))] sz) := by
  refine Met.ofW (cc := cX1_addProduct) (maxL := 18) (ret := none) (by decide) rfl ?_
  intro p e s m args below meth c s₁ B hml hv
  obtain ⟨rfl, hsz, hP, hK, hD0⟩ := hv
  have hx := B.exec; have hb := B.bytes; have hr := B.returns
  have hts := atoms_spec (ws := wl yX1_addProduct cX1_addProduct 18 none) B.pre
  have htb : ∀ w ∈ tb, w.before _ s = true := fun w h => hts w (List.mem_cons_of_mem _ h)
  have hown : s.vm.findClass RX1 = some m.cls := findClass_of_methodNamed B.named
  have hlocks := B.notSynchronized
  subst hsz
  have hD := hD0.self (sz := s.heap.size)
  generalize hAe : va_A [(fh, .inr (1, G1 fa fn fsumR fsumW fsumA fsumWW fsumAA fsumWA fsumWR fsumAR fdivisor fbyWarmth fbyAge fform fwhole frest))] s.heap.size = A at hD ⊢
  have hA : ∀ q : Nat, s.heap.size ≤ q → A q := fun q h => by rw [← hAe]; exact Or.inr h
  have hS : va_S A s.heap s.heap [] := va_S.rf
  have hP : va_P D vwCl [(fh, .inr (1, G1 fa fn fsumR fsumW fsumA fsumWW fsumAA fsumWA fsumWR fsumAR fdivisor fbyWarmth fbyAge fform fwhole frest))] s.heap := hP
  have hl := lv_entry ([.ref fh, .long p0, .long p1]) (n := 18) (Nat.le_of_ble_eq_true rfl)
  rw [lg_entry_eq]
  generalize (lg_sl ([.ref fh, .long p0, .long p1]) ++ List.replicate (18 - (lg_sl ([.ref fh, .long p0, .long p1])).length) Slot.unset).toArray = ls at hl ⊢
  have hl : lv_has ls 18 [(0, .ref fh), (1, .long p0), (3, .long p1)] := hl
  refine lv_aload_n hx hb dX1_addProduct_0 rfl (lv_at hl 0 rfl) ?_
  refine va_get (D := D) (ci := 1) (v := .long fn) (C := RX1) (T := TX1) (N := 15) hx hb htb iX1 hown hK.1 hP 0 rfl rfl 0 (by decide) (htb _ k_83) (fun _ h9 => h9) rfl dX1_addProduct_1 ?_
  refine lv_aload_n hx hb dX1_addProduct_4 rfl (lv_at hl 0 rfl) ?_
  refine va_get (D := D) (ci := 1) (v := .long fdivisor) (C := RX1) (T := TX1) (N := 15) hx hb htb iX1 hown hK.1 hP 0 rfl rfl 9 (by decide) (htb _ k_92) (fun _ h9 => h9) rfl dX1_addProduct_5 ?_
  refine lv_lmul hx hb dX1_addProduct_8 ?_
  refine lv_topl (fun z_1 ez_1 => ?_)
  refine lv_lstore (lv' := [(5, .long z_1), (0, .ref fh), (1, .long p0), (3, .long p1)]) hx hb dX1_addProduct_9 hl (by decide) rfl (fun ls hl => ?_)
  refine lv_lload hx hb dX1_addProduct_11 (lv_at hl 0 rfl) ?_
  refine lv_lconst (v := 0) hx hb dX1_addProduct_13 (by decide) ?_
  refine W.lcmp hx hb dX1_addProduct_14 ?_
  refine lv_topi (fun z_2 ez_2 => ?_)
  refine lv_if_gt (tgt := 19) hx hb dX1_addProduct_15 (by decide) (fun c_3 => ?_) (fun c_3 => ?_)
  ·
    have lc_4 : ¬ (z_1 : Int64) = (0 : Int64) := lc_gt (by rw [← ez_2]; first | exact Or.inl c_3 | exact Or.inr c_3)
    refine lv_lload_n hx hb dX1_addProduct_19 rfl (lv_at hl 3 rfl) ?_
    refine lv_lconst (v := 0) hx hb dX1_addProduct_20 (by decide) ?_
    refine W.lcmp hx hb dX1_addProduct_21 ?_
    refine lv_topi (fun z_5 ez_5 => ?_)
    refine lv_if_ge (tgt := 30) hx hb dX1_addProduct_22 (by decide) (fun c_6 => ?_) (fun c_6 => ?_)
    ·
      refine lv_lload_n hx hb dX1_addProduct_30 rfl (lv_at hl 2 rfl) ?_
      refine lv_lstore (lv' := [(7, .long p0), (5, .long z_1), (0, .ref fh), (1, .long p0), (3, .long p1)]) hx hb dX1_addProduct_31 hl (by decide) rfl (fun ls hl => ?_)
      refine lv_lload_n hx hb dX1_addProduct_33 rfl (lv_at hl 4 rfl) ?_
      refine callLS (rest := []) (As := [.long p1]) hx hb hml hown htb hK (g_J9_abs_067f4 l D E p1 ) ok_J9_abs_067f4 k_546 k_547 k_11 k_548 ⟨(Nat.le_of_ble_eq_true rfl), (Nat.le_of_ble_eq_true rfl)⟩ ⟨(Nat.le_of_ble_eq_true rfl), (Nat.le_of_ble_eq_true rfl)⟩ hl.1 (Nat.le_of_ble_eq_true rfl) rfl rfl dX1_addProduct_34 (hP.sub (ws' := ([] : va_W)) [] rfl) (fun r_8 hw_9 => ?_)
      refine lv_lstore (lv' := [(9, .long r_8), (7, .long p0), (5, .long z_1), (0, .ref fh), (1, .long p0), (3, .long p1)]) hx hb dX1_addProduct_37 hl (by decide) rfl (fun ls hl => ?_)
      refine lv_lload hx hb dX1_addProduct_39 (lv_at hl 1 rfl) ?_
      refine lv_lload hx hb dX1_addProduct_41 (lv_at hl 2 rfl) ?_
      refine callLS (rest := []) (As := [.long p0, .long z_1]) hx hb hml hown htb hK (g_J9_floorMod_f86c9 l D E p0 z_1 lc_4) ok_J9_floorMod_f86c9 k_549 k_550 k_11 k_551 ⟨(Nat.le_of_ble_eq_true rfl), (Nat.le_of_ble_eq_true rfl)⟩ ⟨(Nat.le_of_ble_eq_true rfl), (Nat.le_of_ble_eq_true rfl)⟩ hl.1 (Nat.le_of_ble_eq_true rfl) rfl rfl dX1_addProduct_43 (hP.sub (ws' := ([] : va_W)) [] rfl) (fun r_11 hw_12 => ?_)
      refine lv_lstore (lv' := [(11, .long r_11), (9, .long r_8), (7, .long p0), (5, .long z_1), (0, .ref fh), (1, .long p0), (3, .long p1)]) hx hb dX1_addProduct_46 hl (by decide) rfl (fun ls hl => ?_)
      refine lv_aload_n hx hb dX1_addProduct_48 rfl (lv_at hl 4 rfl) ?_
      refine lv_dup hx hb dX1_addProduct_49 rfl ?_
      refine va_get (D := D) (ci := 1) (v := .long fwhole) (C := RX1) (T := TX1) (N := 15) hx hb htb iX1 hown hK.1 hP 0 rfl rfl 13 (by decide) (htb _ k_96) (fun _ h9 => h9) rfl dX1_addProduct_50 ?_
      refine lv_lload hx hb dX1_addProduct_53 (lv_at hl 2 rfl) ?_
      refine lv_lload hx hb dX1_addProduct_55 (lv_at hl 3 rfl) ?_
      refine callLS (rest := [.long fwhole, .ref fh]) (As := [.long p0, .long z_1]) hx hb hml hown htb hK (g_J9_floorDiv_f86c9 l D E p0 z_1 lc_4) ok_J9_floorDiv_f86c9 k_552 k_553 k_11 k_554 ⟨(Nat.le_of_ble_eq_true rfl), (Nat.le_of_ble_eq_true rfl)⟩ ⟨(Nat.le_of_ble_eq_true rfl), (Nat.le_of_ble_eq_true rfl)⟩ hl.1 (Nat.le_of_ble_eq_true rfl) rfl rfl dX1_addProduct_57 (hP.sub (ws' := ([] : va_W)) [] rfl) (fun r_14 hw_15 => ?_)
      refine lv_lload hx hb dX1_addProduct_60 (lv_at hl 1 rfl) ?_
      refine lv_lmul hx hb dX1_addProduct_62 ?_
      refine lv_topl (fun z_17 ez_17 => ?_)
      refine lv_ladd hx hb dX1_addProduct_63 ?_
      refine lv_topl (fun z_18 ez_18 => ?_)
      refine va_put (D := D) (ci := 1) (v := .long z_18) (ty := .long) (C := RX1) (T := TX1) (N := 15) hx hb htb iX1 tyX1 tyX1_ok nmX1 hown hK.1 hP hD hS 0 rfl rfl 13 (by decide) (htb _ k_96) (fun _ h9 => h9) rfl (by decide +kernel) rfl rfl (Nat.le_of_ble_eq_true rfl) dX1_addProduct_64 (fun H locs hP hD hS => ?_)
      have hP : va_P D vwCl [(fh, .inr (1, G1 fa fn fsumR fsumW fsumA fsumWW fsumAA fsumWA fsumWR fsumAR fdivisor fbyWarmth fbyAge fform z_18 frest))] H := hP
      have hD := toW hP hD rfl
      refine lv_lconst (v := 0) hx hb dX1_addProduct_67 (by decide) ?_
      refine lv_lstore (lv' := [(13, .long 0), (11, .long r_11), (9, .long r_8), (7, .long p0), (5, .long z_1), (0, .ref fh), (1, .long p0), (3, .long p1)]) hx hb dX1_addProduct_68 hl (by decide) rfl (fun ls hl => ?_)
      refine lv_lconst (v := 0) hx hb dX1_addProduct_70 (by decide) ?_
      refine lv_lstore (lv' := [(15, .long 0), (13, .long 0), (11, .long r_11), (9, .long r_8), (7, .long p0), (5, .long z_1), (0, .ref fh), (1, .long p0), (3, .long p1)]) hx hb dX1_addProduct_71 hl (by decide) rfl (fun ls hl => ?_)
      refine lv_bipush (v := 30) hx hb dX1_addProduct_73 (by decide) ?_
      refine lv_istore (lv' := [(17, .int 30), (15, .long 0), (13, .long 0), (11, .long r_11), (9, .long r_8), (7, .long p0), (5, .long z_1), (0, .ref fh), (1, .long p0), (3, .long p1)]) hx hb dX1_addProduct_75 hl (by decide) rfl (fun ls hl => ?_)
      have loop_19 : ∀ (N_21 : Nat) (L17_77 : Int32) (L15_77 : Int64) (L13_77 : Int64) (H : Heap) (locs : List Loc) (ls : Array Slot), L17_77.toInt + 1 < (N_21 : Int) → (-1 ≤ L17_77.toInt ∧ L17_77.toInt ≤ 30) → va_P D vwCl [(fh, .inr (1, G1 fa fn fsumR fsumW fsumA fsumWW fsumAA fsumWA fsumWR fsumAR fdivisor fbyWarmth fbyAge fform z_18 frest))] H → va_D A [(fh, .inr (1, G1 fa fn fsumR fsumW fsumA fsumWW fsumAA fsumWA fsumWR fsumAR fdivisor fbyWarmth fbyAge fform z_18 frest))] → va_S A s.heap H locs → lv_has ls 18 [(17, .int L17_77), (15, .long L15_77), (13, .long L13_77), (11, .long r_11), (9, .long r_8), (7, .long p0), (5, .long z_1), (0, .ref fh), (1, .long p0), (3, .long p1)] → W p l e (headSpec (wl yX1_addProduct cX1_addProduct 18 none) (RM 1 0 0)).room s m [Value.ref fh, .long p0, .long p1].toArray below meth c H locs 0 0 (MQ below (va_Qv (fun (u : (Int64) × (Int64)) => True) (mu_B D A (fun (u : (Int64) × (Int64)) => [(fh, .inr (1, G1 fa fn fsumR fsumW fsumA fsumWW fsumAA fsumWA fsumWR fsumAR fdivisor fbyWarmth fbyAge fform u.2 u.1))])) A) [Value.ref fh, .long p0, .long p1].toArray s 0 0 A) (F0 m 77 ls []) := by
        intro N_21
        induction N_21 with
        | zero => intro L17_77 L15_77 L13_77 H locs ls hm v0_77 _ _ _ _; exfalso; omega
        | succ N_21 ih_20 =>
          intro L17_77 L15_77 L13_77 H locs ls hm v0_77 hP hD hS hl
          have lo_L17_77 := i_lo L17_77; have hi_L17_77 := i_hi L17_77
          refine lv_iload hx hb dX1_addProduct_77 (lv_at hl 0 rfl) ?_
          refine lv_if_lt (tgt := 128) hx hb dX1_addProduct_79 (by decide) (fun c_22 => ?_) (fun c_22 => ?_)
          ·
            have ic_22 : L17_77.toInt < 0 := by first | exact (g_lt rfl t_0).mp c_22 | (have h := mt (g_le t_0 rfl).mpr c_22; omega)
            clear c_22
            refine lv_aload_n hx hb dX1_addProduct_128 rfl (lv_at hl 7 rfl) ?_
            refine lv_dup hx hb dX1_addProduct_129 rfl ?_
            refine va_get (D := D) (ci := 1) (v := .long frest) (C := RX1) (T := TX1) (N := 15) hx hb htb iX1 hown hK.1 hP 0 rfl rfl 14 (by decide) (htb _ k_97) (fun _ h9 => h9) rfl dX1_addProduct_130 ?_
            refine lv_lload hx hb dX1_addProduct_133 (lv_at hl 1 rfl) ?_
            refine lv_ladd hx hb dX1_addProduct_135 ?_
            refine lv_topl (fun z_23 ez_23 => ?_)
            refine va_put (D := D) (ci := 1) (v := .long z_23) (ty := .long) (C := RX1) (T := TX1) (N := 15) hx hb htb iX1 tyX1 tyX1_ok nmX1 hown hK.1 hP hD hS 0 rfl rfl 14 (by decide) (htb _ k_97) (fun _ h9 => h9) rfl (by decide +kernel) rfl rfl (Nat.le_of_ble_eq_true rfl) dX1_addProduct_136 (fun H locs hP hD hS => ?_)
            have hP : va_P D vwCl [(fh, .inr (1, G1 fa fn fsumR fsumW fsumA fsumWW fsumAA fsumWA fsumWR fsumAR fdivisor fbyWarmth fbyAge fform z_18 z_23))] H := hP
            have hD := toW hP hD rfl
            refine lv_aload_n hx hb dX1_addProduct_139 rfl (lv_at hl 7 rfl) ?_
            refine lv_dup hx hb dX1_addProduct_140 rfl ?_
            refine va_get (D := D) (ci := 1) (v := .long z_18) (C := RX1) (T := TX1) (N := 15) hx hb htb iX1 hown hK.1 hP 0 rfl rfl 13 (by decide) (htb _ k_96) (fun _ h9 => h9) rfl dX1_addProduct_141 ?_
            refine lv_lload hx hb dX1_addProduct_144 (lv_at hl 2 rfl) ?_
            refine lv_aload_n hx hb dX1_addProduct_146 rfl (lv_at hl 7 rfl) ?_
            refine va_get (D := D) (ci := 1) (v := .long z_23) (C := RX1) (T := TX1) (N := 15) hx hb htb iX1 hown hK.1 hP 0 rfl rfl 14 (by decide) (htb _ k_97) (fun _ h9 => h9) rfl dX1_addProduct_147 ?_
            refine lv_lload hx hb dX1_addProduct_150 (lv_at hl 6 rfl) ?_
            refine lv_ldiv hx hb dX1_addProduct_152 lc_4 ?_
            refine lv_topl (fun z_24 ez_24 => ?_)
            refine lv_ladd hx hb dX1_addProduct_153 ?_
            refine lv_topl (fun z_25 ez_25 => ?_)
            refine lv_ladd hx hb dX1_addProduct_154 ?_
            refine lv_topl (fun z_26 ez_26 => ?_)
            refine va_put (D := D) (ci := 1) (v := .long z_26) (ty := .long) (C := RX1) (T := TX1) (N := 15) hx hb htb iX1 tyX1 tyX1_ok nmX1 hown hK.1 hP hD hS 0 rfl rfl 13 (by decide) (htb _ k_96) (fun _ h9 => h9) rfl (by decide +kernel) rfl rfl (Nat.le_of_ble_eq_true rfl) dX1_addProduct_155 (fun H locs hP hD hS => ?_)
            have hP : va_P D vwCl [(fh, .inr (1, G1 fa fn fsumR fsumW fsumA fsumWW fsumAA fsumWA fsumWR fsumAR fdivisor fbyWarmth fbyAge fform z_26 z_23))] H := hP
            have hD := toW hP hD rfl
            refine lv_aload_n hx hb dX1_addProduct_158 rfl (lv_at hl 7 rfl) ?_
            refine lv_aload_n hx hb dX1_addProduct_159 rfl (lv_at hl 7 rfl) ?_
            refine va_get (D := D) (ci := 1) (v := .long z_23) (C := RX1) (T := TX1) (N := 15) hx hb htb iX1 hown hK.1 hP 0 rfl rfl 14 (by decide) (htb _ k_97) (fun _ h9 => h9) rfl dX1_addProduct_160 ?_
            refine lv_lload hx hb dX1_addProduct_163 (lv_at hl 6 rfl) ?_
            refine lv_lrem hx hb dX1_addProduct_165 lc_4 ?_
            refine lv_topl (fun z_27 ez_27 => ?_)
            refine va_put (D := D) (ci := 1) (v := .long z_27) (ty := .long) (C := RX1) (T := TX1) (N := 15) hx hb htb iX1 tyX1 tyX1_ok nmX1 hown hK.1 hP hD hS 0 rfl rfl 14 (by decide) (htb _ k_97) (fun _ h9 => h9) rfl (by decide +kernel) rfl rfl (Nat.le_of_ble_eq_true rfl) dX1_addProduct_166 (fun H locs hP hD hS => ?_)
            have hP : va_P D vwCl [(fh, .inr (1, G1 fa fn fsumR fsumW fsumA fsumWW fsumAA fsumWA fsumWR fsumAR fdivisor fbyWarmth fbyAge fform z_26 z_27))] H := hP
            have hD := toW hP hD rfl
            have hP9 := hP.sub (ws' := [(fh, .inr (1, G1 fa fn fsumR fsumW fsumA fsumWW fsumAA fsumWA fsumWR fsumAR fdivisor fbyWarmth fbyAge fform z_26 z_27))]) [0] rfl
            have hD9 := hD.sub (ws' := [(fh, .inr (1, G1 fa fn fsumR fsumW fsumA fsumWW fsumAA fsumWA fsumWR fsumAR fdivisor fbyWarmth fbyAge fform z_26 z_27))]) [0] (by decide) rfl
            exact W.vret hx hb hr (fun t ht hW => ⟨⟨(z_27, z_26), rfl, trivial, by rw [ht]; exact hP9, hD9⟩, hS.F ht⟩) hS.2.2 dX1_addProduct_169
          ·
            have ic_22 : 0 ≤ L17_77.toInt := by first | exact (g_le t_0 rfl).mp c_22 | (have h := mt (g_lt rfl t_0).mpr c_22; omega)
            clear c_22
            refine lv_ldc2 hx hb hown (htb _ k_555) dX1_addProduct_82 ?_
            refine lv_lload hx hb dX1_addProduct_85 (lv_at hl 1 rfl) ?_
            refine lv_lmul hx hb dX1_addProduct_87 ?_
            refine lv_topl (fun z_28 ez_28 => ?_)
            refine lv_lload hx hb dX1_addProduct_88 (lv_at hl 4 rfl) ?_
            refine lv_iload hx hb dX1_addProduct_90 (lv_at hl 0 rfl) ?_
            refine lv_lshr hx hb dX1_addProduct_92 rfl ?_
            refine lv_topl (fun z_29 ez_29 => ?_)
            refine lv_lconst (v := 1) hx hb dX1_addProduct_93 (by decide) ?_
            refine lv_land hx hb dX1_addProduct_94 ?_
            refine lv_topl (fun z_30 ez_30 => ?_)
            refine lv_lload hx hb dX1_addProduct_95 (lv_at hl 3 rfl) ?_
            refine lv_lmul hx hb dX1_addProduct_97 ?_
            refine lv_topl (fun z_31 ez_31 => ?_)
            refine lv_ladd hx hb dX1_addProduct_98 ?_
            refine lv_topl (fun z_32 ez_32 => ?_)
            refine lv_lstore (lv' := [(15, .long z_32), (17, .int L17_77), (13, .long L13_77), (11, .long r_11), (9, .long r_8), (7, .long p0), (5, .long z_1), (0, .ref fh), (1, .long p0), (3, .long p1)]) hx hb dX1_addProduct_99 hl (by decide) rfl (fun ls hl => ?_)
            refine lv_ldc2 hx hb hown (htb _ k_555) dX1_addProduct_101 ?_
            refine lv_lload hx hb dX1_addProduct_104 (lv_at hl 2 rfl) ?_
            refine lv_lmul hx hb dX1_addProduct_106 ?_
            refine lv_topl (fun z_33 ez_33 => ?_)
            refine lv_lload hx hb dX1_addProduct_107 (lv_at hl 0 rfl) ?_
            refine lv_lload hx hb dX1_addProduct_109 (lv_at hl 6 rfl) ?_
            refine lv_ldiv hx hb dX1_addProduct_111 lc_4 ?_
            refine lv_topl (fun z_34 ez_34 => ?_)
            refine lv_ladd hx hb dX1_addProduct_112 ?_
            refine lv_topl (fun z_35 ez_35 => ?_)
            refine lv_lstore (lv' := [(13, .long z_35), (15, .long z_32), (17, .int L17_77), (11, .long r_11), (9, .long r_8), (7, .long p0), (5, .long z_1), (0, .ref fh), (1, .long p0), (3, .long p1)]) hx hb dX1_addProduct_113 hl (by decide) rfl (fun ls hl => ?_)
            refine lv_lload hx hb dX1_addProduct_115 (lv_at hl 1 rfl) ?_
            refine lv_lload hx hb dX1_addProduct_117 (lv_at hl 6 rfl) ?_
            refine lv_lrem hx hb dX1_addProduct_119 lc_4 ?_
            refine lv_topl (fun z_36 ez_36 => ?_)
            refine lv_lstore (lv' := [(15, .long z_36), (13, .long z_35), (17, .int L17_77), (11, .long r_11), (9, .long r_8), (7, .long p0), (5, .long z_1), (0, .ref fh), (1, .long p0), (3, .long p1)]) hx hb dX1_addProduct_120 hl (by decide) rfl (fun ls hl => ?_)
            obtain ⟨z_37, ez_37⟩ : ∃ y : Int32, y = L17_77 + (-1) := ⟨_, rfl⟩
            have jz_37 : z_37.toInt = L17_77.toInt + -1 := by rw [ez_37]; exact g_add rfl t_m1 (by omega) (by omega)
            refine lv_iinc (v := z_37) (lv' := [(17, .int z_37), (15, .long z_36), (13, .long z_35), (11, .long r_11), (9, .long r_8), (7, .long p0), (5, .long z_1), (0, .ref fh), (1, .long p0), (3, .long p1)]) hx hb dX1_addProduct_122 hl (k := 2) rfl (by rw [ez_37]; rfl) (by decide) rfl (fun ls hl => ?_)
            refine lv_goto (tgt := 77) hx hb dX1_addProduct_125 (by decide) ?_
            exact ih_20 z_37 z_36 z_35 _ _ _ (by (try dsimp only); omega) (by (try dsimp only); omega) hP hD hS (lv_sub hl [0, 1, 2, 3, 4, 5, 6, 7, 8, 9] rfl)
      exact loop_19 32 30 0 0 _ _ _ (by have h0 := t_30; (try dsimp only); omega) (by have h0 := t_30; (try dsimp only); omega) hP hD hS (lv_sub hl [0, 1, 2, 3, 4, 5, 6, 7, 8, 9] rfl)
    ·
      refine lv_lload_n hx hb dX1_addProduct_25 rfl (lv_at hl 2 rfl) ?_
      refine lv_lneg hx hb dX1_addProduct_26 ?_
      refine lv_topl (fun z_39 ez_39 => ?_)
      refine lv_goto (tgt := 31) hx hb dX1_addProduct_27 (by decide) ?_
      refine lv_lstore (lv' := [(7, .long z_39), (5, .long z_1), (0, .ref fh), (1, .long p0), (3, .long p1)]) hx hb dX1_addProduct_31 hl (by decide) rfl (fun ls hl => ?_)
      refine lv_lload_n hx hb dX1_addProduct_33 rfl (lv_at hl 4 rfl) ?_
      refine callLS (rest := []) (As := [.long p1]) hx hb hml hown htb hK (g_J9_abs_067f4 l D E p1 ) ok_J9_abs_067f4 k_546 k_547 k_11 k_548 ⟨(Nat.le_of_ble_eq_true rfl), (Nat.le_of_ble_eq_true rfl)⟩ ⟨(Nat.le_of_ble_eq_true rfl), (Nat.le_of_ble_eq_true rfl)⟩ hl.1 (Nat.le_of_ble_eq_true rfl) rfl rfl dX1_addProduct_34 (hP.sub (ws' := ([] : va_W)) [] rfl) (fun r_40 hw_41 => ?_)
      refine lv_lstore (lv' := [(9, .long r_40), (7, .long z_39), (5, .long z_1), (0, .ref fh), (1, .long p0), (3, .long p1)]) hx hb dX1_addProduct_37 hl (by decide) rfl (fun ls hl => ?_)
      refine lv_lload hx hb dX1_addProduct_39 (lv_at hl 1 rfl) ?_
      refine lv_lload hx hb dX1_addProduct_41 (lv_at hl 2 rfl) ?_
      refine callLS (rest := []) (As := [.long z_39, .long z_1]) hx hb hml hown htb hK (g_J9_floorMod_f86c9 l D E z_39 z_1 lc_4) ok_J9_floorMod_f86c9 k_549 k_550 k_11 k_551 ⟨(Nat.le_of_ble_eq_true rfl), (Nat.le_of_ble_eq_true rfl)⟩ ⟨(Nat.le_of_ble_eq_true rfl), (Nat.le_of_ble_eq_true rfl)⟩ hl.1 (Nat.le_of_ble_eq_true rfl) rfl rfl dX1_addProduct_43 (hP.sub (ws' := ([] : va_W)) [] rfl) (fun r_43 hw_44 => ?_)
      refine lv_lstore (lv' := [(11, .long r_43), (9, .long r_40), (7, .long z_39), (5, .long z_1), (0, .ref fh), (1, .long p0), (3, .long p1)]) hx hb dX1_addProduct_46 hl (by decide) rfl (fun ls hl => ?_)
      refine lv_aload_n hx hb dX1_addProduct_48 rfl (lv_at hl 4 rfl) ?_
      refine lv_dup hx hb dX1_addProduct_49 rfl ?_
      refine va_get (D := D) (ci := 1) (v := .long fwhole) (C := RX1) (T := TX1) (N := 15) hx hb htb iX1 hown hK.1 hP 0 rfl rfl 13 (by decide) (htb _ k_96) (fun _ h9 => h9) rfl dX1_addProduct_50 ?_
      refine lv_lload hx hb dX1_addProduct_53 (lv_at hl 2 rfl) ?_
      refine lv_lload hx hb dX1_addProduct_55 (lv_at hl 3 rfl) ?_
      refine callLS (rest := [.long fwhole, .ref fh]) (As := [.long z_39, .long z_1]) hx hb hml hown htb hK (g_J9_floorDiv_f86c9 l D E z_39 z_1 lc_4) ok_J9_floorDiv_f86c9 k_552 k_553 k_11 k_554 ⟨(Nat.le_of_ble_eq_true rfl), (Nat.le_of_ble_eq_true rfl)⟩ ⟨(Nat.le_of_ble_eq_true rfl), (Nat.le_of_ble_eq_true rfl)⟩ hl.1 (Nat.le_of_ble_eq_true rfl) rfl rfl dX1_addProduct_57 (hP.sub (ws' := ([] : va_W)) [] rfl) (fun r_46 hw_47 => ?_)
      refine lv_lload hx hb dX1_addProduct_60 (lv_at hl 1 rfl) ?_
      refine lv_lmul hx hb dX1_addProduct_62 ?_
      refine lv_topl (fun z_49 ez_49 => ?_)
      refine lv_ladd hx hb dX1_addProduct_63 ?_
      refine lv_topl (fun z_50 ez_50 => ?_)
      refine va_put (D := D) (ci := 1) (v := .long z_50) (ty := .long) (C := RX1) (T := TX1) (N := 15) hx hb htb iX1 tyX1 tyX1_ok nmX1 hown hK.1 hP hD hS 0 rfl rfl 13 (by decide) (htb _ k_96) (fun _ h9 => h9) rfl (by decide +kernel) rfl rfl (Nat.le_of_ble_eq_true rfl) dX1_addProduct_64 (fun H locs hP hD hS => ?_)
      have hP : va_P D vwCl [(fh, .inr (1, G1 fa fn fsumR fsumW fsumA fsumWW fsumAA fsumWA fsumWR fsumAR fdivisor fbyWarmth fbyAge fform z_50 frest))] H := hP
      have hD := toW hP hD rfl
      refine lv_lconst (v := 0) hx hb dX1_addProduct_67 (by decide) ?_
      refine lv_lstore (lv' := [(13, .long 0), (11, .long r_43), (9, .long r_40), (7, .long z_39), (5, .long z_1), (0, .ref fh), (1, .long p0), (3, .long p1)]) hx hb dX1_addProduct_68 hl (by decide) rfl (fun ls hl => ?_)
      refine lv_lconst (v := 0) hx hb dX1_addProduct_70 (by decide) ?_
      refine lv_lstore (lv' := [(15, .long 0), (13, .long 0), (11, .long r_43), (9, .long r_40), (7, .long z_39), (5, .long z_1), (0, .ref fh), (1, .long p0), (3, .long p1)]) hx hb dX1_addProduct_71 hl (by decide) rfl (fun ls hl => ?_)
      refine lv_bipush (v := 30) hx hb dX1_addProduct_73 (by decide) ?_
      refine lv_istore (lv' := [(17, .int 30), (15, .long 0), (13, .long 0), (11, .long r_43), (9, .long r_40), (7, .long z_39), (5, .long z_1), (0, .ref fh), (1, .long p0), (3, .long p1)]) hx hb dX1_addProduct_75 hl (by decide) rfl (fun ls hl => ?_)
      have loop_51 : ∀ (N_53 : Nat) (L17_77 : Int32) (L15_77 : Int64) (L13_77 : Int64) (H : Heap) (locs : List Loc) (ls : Array Slot), L17_77.toInt + 1 < (N_53 : Int) → (-1 ≤ L17_77.toInt ∧ L17_77.toInt ≤ 30) → va_P D vwCl [(fh, .inr (1, G1 fa fn fsumR fsumW fsumA fsumWW fsumAA fsumWA fsumWR fsumAR fdivisor fbyWarmth fbyAge fform z_50 frest))] H → va_D A [(fh, .inr (1, G1 fa fn fsumR fsumW fsumA fsumWW fsumAA fsumWA fsumWR fsumAR fdivisor fbyWarmth fbyAge fform z_50 frest))] → va_S A s.heap H locs → lv_has ls 18 [(17, .int L17_77), (15, .long L15_77), (13, .long L13_77), (11, .long r_43), (9, .long r_40), (7, .long z_39), (5, .long z_1), (0, .ref fh), (1, .long p0), (3, .long p1)] → W p l e (headSpec (wl yX1_addProduct cX1_addProduct 18 none) (RM 1 0 0)).room s m [Value.ref fh, .long p0, .long p1].toArray below meth c H locs 0 0 (MQ below (va_Qv (fun (u : (Int64) × (Int64)) => True) (mu_B D A (fun (u : (Int64) × (Int64)) => [(fh, .inr (1, G1 fa fn fsumR fsumW fsumA fsumWW fsumAA fsumWA fsumWR fsumAR fdivisor fbyWarmth fbyAge fform u.2 u.1))])) A) [Value.ref fh, .long p0, .long p1].toArray s 0 0 A) (F0 m 77 ls []) := by
        intro N_53
        induction N_53 with
        | zero => intro L17_77 L15_77 L13_77 H locs ls hm v0_77 _ _ _ _; exfalso; omega
        | succ N_53 ih_52 =>
          intro L17_77 L15_77 L13_77 H locs ls hm v0_77 hP hD hS hl
          have lo_L17_77 := i_lo L17_77; have hi_L17_77 := i_hi L17_77
          refine lv_iload hx hb dX1_addProduct_77 (lv_at hl 0 rfl) ?_
          refine lv_if_lt (tgt := 128) hx hb dX1_addProduct_79 (by decide) (fun c_54 => ?_) (fun c_54 => ?_)
          ·
            have ic_54 : L17_77.toInt < 0 := by first | exact (g_lt rfl t_0).mp c_54 | (have h := mt (g_le t_0 rfl).mpr c_54; omega)
            clear c_54
            refine lv_aload_n hx hb dX1_addProduct_128 rfl (lv_at hl 7 rfl) ?_
            refine lv_dup hx hb dX1_addProduct_129 rfl ?_
            refine va_get (D := D) (ci := 1) (v := .long frest) (C := RX1) (T := TX1) (N := 15) hx hb htb iX1 hown hK.1 hP 0 rfl rfl 14 (by decide) (htb _ k_97) (fun _ h9 => h9) rfl dX1_addProduct_130 ?_
            refine lv_lload hx hb dX1_addProduct_133 (lv_at hl 1 rfl) ?_
            refine lv_ladd hx hb dX1_addProduct_135 ?_
            refine lv_topl (fun z_55 ez_55 => ?_)
            refine va_put (D := D) (ci := 1) (v := .long z_55) (ty := .long) (C := RX1) (T := TX1) (N := 15) hx hb htb iX1 tyX1 tyX1_ok nmX1 hown hK.1 hP hD hS 0 rfl rfl 14 (by decide) (htb _ k_97) (fun _ h9 => h9) rfl (by decide +kernel) rfl rfl (Nat.le_of_ble_eq_true rfl) dX1_addProduct_136 (fun H locs hP hD hS => ?_)
            have hP : va_P D vwCl [(fh, .inr (1, G1 fa fn fsumR fsumW fsumA fsumWW fsumAA fsumWA fsumWR fsumAR fdivisor fbyWarmth fbyAge fform z_50 z_55))] H := hP
            have hD := toW hP hD rfl
            refine lv_aload_n hx hb dX1_addProduct_139 rfl (lv_at hl 7 rfl) ?_
            refine lv_dup hx hb dX1_addProduct_140 rfl ?_
            refine va_get (D := D) (ci := 1) (v := .long z_50) (C := RX1) (T := TX1) (N := 15) hx hb htb iX1 hown hK.1 hP 0 rfl rfl 13 (by decide) (htb _ k_96) (fun _ h9 => h9) rfl dX1_addProduct_141 ?_
            refine lv_lload hx hb dX1_addProduct_144 (lv_at hl 2 rfl) ?_
            refine lv_aload_n hx hb dX1_addProduct_146 rfl (lv_at hl 7 rfl) ?_
            refine va_get (D := D) (ci := 1) (v := .long z_55) (C := RX1) (T := TX1) (N := 15) hx hb htb iX1 hown hK.1 hP 0 rfl rfl 14 (by decide) (htb _ k_97) (fun _ h9 => h9) rfl dX1_addProduct_147 ?_
            refine lv_lload hx hb dX1_addProduct_150 (lv_at hl 6 rfl) ?_
            refine lv_ldiv hx hb dX1_addProduct_152 lc_4 ?_
            refine lv_topl (fun z_56 ez_56 => ?_)
            refine lv_ladd hx hb dX1_addProduct_153 ?_
            refine lv_topl (fun z_57 ez_57 => ?_)
            refine lv_ladd hx hb dX1_addProduct_154 ?_
            refine lv_topl (fun z_58 ez_58 => ?_)
            refine va_put (D := D) (ci := 1) (v := .long z_58) (ty := .long) (C := RX1) (T := TX1) (N := 15) hx hb htb iX1 tyX1 tyX1_ok nmX1 hown hK.1 hP hD hS 0 rfl rfl 13 (by decide) (htb _ k_96) (fun _ h9 => h9) rfl (by decide +kernel) rfl rfl (Nat.le_of_ble_eq_true rfl) dX1_addProduct_155 (fun H locs hP hD hS => ?_)
            have hP : va_P D vwCl [(fh, .inr (1, G1 fa fn fsumR fsumW fsumA fsumWW fsumAA fsumWA fsumWR fsumAR fdivisor fbyWarmth fbyAge fform z_58 z_55))] H := hP
            have hD := toW hP hD rfl
            refine lv_aload_n hx hb dX1_addProduct_158 rfl (lv_at hl 7 rfl) ?_
            refine lv_aload_n hx hb dX1_addProduct_159 rfl (lv_at hl 7 rfl) ?_
            refine va_get (D := D) (ci := 1) (v := .long z_55) (C := RX1) (T := TX1) (N := 15) hx hb htb iX1 hown hK.1 hP 0 rfl rfl 14 (by decide) (htb _ k_97) (fun _ h9 => h9) rfl dX1_addProduct_160 ?_
            refine lv_lload hx hb dX1_addProduct_163 (lv_at hl 6 rfl) ?_
            refine lv_lrem hx hb dX1_addProduct_165 lc_4 ?_
            refine lv_topl (fun z_59 ez_59 => ?_)
            refine va_put (D := D) (ci := 1) (v := .long z_59) (ty := .long) (C := RX1) (T := TX1) (N := 15) hx hb htb iX1 tyX1 tyX1_ok nmX1 hown hK.1 hP hD hS 0 rfl rfl 14 (by decide) (htb _ k_97) (fun _ h9 => h9) rfl (by decide +kernel) rfl rfl (Nat.le_of_ble_eq_true rfl) dX1_addProduct_166 (fun H locs hP hD hS => ?_)
            have hP : va_P D vwCl [(fh, .inr (1, G1 fa fn fsumR fsumW fsumA fsumWW fsumAA fsumWA fsumWR fsumAR fdivisor fbyWarmth fbyAge fform z_58 z_59))] H := hP
            have hD := toW hP hD rfl
            have hP9 := hP.sub (ws' := [(fh, .inr (1, G1 fa fn fsumR fsumW fsumA fsumWW fsumAA fsumWA fsumWR fsumAR fdivisor fbyWarmth fbyAge fform z_58 z_59))]) [0] rfl
            have hD9 := hD.sub (ws' := [(fh, .inr (1, G1 fa fn fsumR fsumW fsumA fsumWW fsumAA fsumWA fsumWR fsumAR fdivisor fbyWarmth fbyAge fform z_58 z_59))]) [0] (by decide) rfl
            exact W.vret hx hb hr (fun t ht hW => ⟨⟨(z_59, z_58), rfl, trivial, by rw [ht]; exact hP9, hD9⟩, hS.F ht⟩) hS.2.2 dX1_addProduct_169
          ·
            have ic_54 : 0 ≤ L17_77.toInt := by first | exact (g_le t_0 rfl).mp c_54 | (have h := mt (g_lt rfl t_0).mpr c_54; omega)
            clear c_54
            refine lv_ldc2 hx hb hown (htb _ k_555) dX1_addProduct_82 ?_
            refine lv_lload hx hb dX1_addProduct_85 (lv_at hl 1 rfl) ?_
            refine lv_lmul hx hb dX1_addProduct_87 ?_
            refine lv_topl (fun z_60 ez_60 => ?_)
            refine lv_lload hx hb dX1_addProduct_88 (lv_at hl 4 rfl) ?_
            refine lv_iload hx hb dX1_addProduct_90 (lv_at hl 0 rfl) ?_
            refine lv_lshr hx hb dX1_addProduct_92 rfl ?_
            refine lv_topl (fun z_61 ez_61 => ?_)
            refine lv_lconst (v := 1) hx hb dX1_addProduct_93 (by decide) ?_
            refine lv_land hx hb dX1_addProduct_94 ?_
            refine lv_topl (fun z_62 ez_62 => ?_)
            refine lv_lload hx hb dX1_addProduct_95 (lv_at hl 3 rfl) ?_
            refine lv_lmul hx hb dX1_addProduct_97 ?_
            refine lv_topl (fun z_63 ez_63 => ?_)
            refine lv_ladd hx hb dX1_addProduct_98 ?_
            refine lv_topl (fun z_64 ez_64 => ?_)
            refine lv_lstore (lv' := [(15, .long z_64), (17, .int L17_77), (13, .long L13_77), (11, .long r_43), (9, .long r_40), (7, .long z_39), (5, .long z_1), (0, .ref fh), (1, .long p0), (3, .long p1)]) hx hb dX1_addProduct_99 hl (by decide) rfl (fun ls hl => ?_)
            refine lv_ldc2 hx hb hown (htb _ k_555) dX1_addProduct_101 ?_
            refine lv_lload hx hb dX1_addProduct_104 (lv_at hl 2 rfl) ?_
            refine lv_lmul hx hb dX1_addProduct_106 ?_
            refine lv_topl (fun z_65 ez_65 => ?_)
            refine lv_lload hx hb dX1_addProduct_107 (lv_at hl 0 rfl) ?_
            refine lv_lload hx hb dX1_addProduct_109 (lv_at hl 6 rfl) ?_
            refine lv_ldiv hx hb dX1_addProduct_111 lc_4 ?_
            refine lv_topl (fun z_66 ez_66 => ?_)
            refine lv_ladd hx hb dX1_addProduct_112 ?_
            refine lv_topl (fun z_67 ez_67 => ?_)
            refine lv_lstore (lv' := [(13, .long z_67), (15, .long z_64), (17, .int L17_77), (11, .long r_43), (9, .long r_40), (7, .long z_39), (5, .long z_1), (0, .ref fh), (1, .long p0), (3, .long p1)]) hx hb dX1_addProduct_113 hl (by decide) rfl (fun ls hl => ?_)
            refine lv_lload hx hb dX1_addProduct_115 (lv_at hl 1 rfl) ?_
            refine lv_lload hx hb dX1_addProduct_117 (lv_at hl 6 rfl) ?_
            refine lv_lrem hx hb dX1_addProduct_119 lc_4 ?_
            refine lv_topl (fun z_68 ez_68 => ?_)
            refine lv_lstore (lv' := [(15, .long z_68), (13, .long z_67), (17, .int L17_77), (11, .long r_43), (9, .long r_40), (7, .long z_39), (5, .long z_1), (0, .ref fh), (1, .long p0), (3, .long p1)]) hx hb dX1_addProduct_120 hl (by decide) rfl (fun ls hl => ?_)
            obtain ⟨z_69, ez_69⟩ : ∃ y : Int32, y = L17_77 + (-1) := ⟨_, rfl⟩
            have jz_69 : z_69.toInt = L17_77.toInt + -1 := by rw [ez_69]; exact g_add rfl t_m1 (by omega) (by omega)
            refine lv_iinc (v := z_69) (lv' := [(17, .int z_69), (15, .long z_68), (13, .long z_67), (11, .long r_43), (9, .long r_40), (7, .long z_39), (5, .long z_1), (0, .ref fh), (1, .long p0), (3, .long p1)]) hx hb dX1_addProduct_122 hl (k := 2) rfl (by rw [ez_69]; rfl) (by decide) rfl (fun ls hl => ?_)
            refine lv_goto (tgt := 77) hx hb dX1_addProduct_125 (by decide) ?_
            exact ih_52 z_69 z_68 z_67 _ _ _ (by (try dsimp only); omega) (by (try dsimp only); omega) hP hD hS (lv_sub hl [0, 1, 2, 3, 4, 5, 6, 7, 8, 9] rfl)
      exact loop_51 32 30 0 0 _ _ _ (by have h0 := t_30; (try dsimp only); omega) (by have h0 := t_30; (try dsimp only); omega) hP hD hS (lv_sub hl [0, 1, 2, 3, 4, 5, 6, 7, 8, 9] rfl)
  ·
    have hP9 := hP.sub (ws' := [(fh, .inr (1, G1 fa fn fsumR fsumW fsumA fsumWW fsumAA fsumWA fsumWR fsumAR fdivisor fbyWarmth fbyAge fform fwhole frest))]) [0] rfl
    have hD9 := hD.sub (ws' := [(fh, .inr (1, G1 fa fn fsumR fsumW fsumA fsumWW fsumAA fsumWA fsumWR fsumAR fdivisor fbyWarmth fbyAge fform fwhole frest))]) [0] (by decide) rfl
    exact W.vret hx hb hr (fun t ht hW => ⟨⟨(frest, fwhole), rfl, trivial, by rw [ht]; exact hP9, hD9⟩, hS.F ht⟩) hS.2.2 dX1_addProduct_18
set_option maxHeartbeats 4000000 in
set_option maxRecDepth 100000 in
theorem g_X1_thousandfold (l : Launch) (D : va_G) (E : Nat → Nat) (fh : Nat) (fa : Nat → Nat) (fn : Int64) (fsumR : Int64) (fsumW : Int64) (fsumA : Int64) (fsumWW : Int64) (fsumAA : Int64) (fsumWA : Int64) (fsumWR : Int64) (fsumAR : Int64) (fdivisor : Int64) (fbyWarmth : Int64) (fbyAge : Int64) (fform : Int32) (fwhole : Int64) (frest : Int64) (p0 : Int32) (p1 : Int32) (sz : Nat)  : Met l yX1_thousandfold (wl yX1_thousandfold cX1_thousandfold 3 (some .long)) (RM 2 0 0) (mu_P D E [.ref fh, .int p0, .int p1] [(fh, .inr (1, G1 fa fn fsumR fsumW fsumA fsumWW fsumAA fsumWA fsumWR fsumAR fdivisor fbyWarmth fbyAge fform fwhole frest))] sz) (va_Ql (fun (r : Int64) (u : (Int64) × (Int64)) => True) (mu_B D (va_A [(fh, .inr (1, G1 fa fn fsumR fsumW fsumA fsumWW fsumAA fsumWA fsumWR fsumAR fdivisor fbyWarmth fbyAge fform fwhole frest))] sz) (fun (u : (Int64) × (Int64)) => [(fh, .inr (1, G1 fa fn fsumR fsumW fsumA fsumWW fsumAA fsumWA fsumWR fsumAR fdivisor fbyWarmth fbyAge fform u.2 u.1))])) (va_A [(fh, .inr (1, G1 fa fn fsumR fsumW fsumA fsumWW fsumAA fsumWA fsumWR fsumAR fdivisor fbyWarmth fbyAge fform fwhole frest))] sz)) 0 0 (va_A [(fh, .inr (1, G1 fa fn fsumR fsumW fsumA fsumWW fsumAA fsumWA fsumWR fsumAR fdivisor fbyWarmth fbyAge fform fwhole frest))] sz) := by
  refine Met.ofW (cc := cX1_thousandfold) (maxL := 3) (ret := (some .long)) (by decide) rfl ?_
  intro p e s m args below meth c s₁ B hml hv
  obtain ⟨rfl, hsz, hP, hK, hD0⟩ := hv
  have hx := B.exec; have hb := B.bytes; have hr := B.returns
  have hts := atoms_spec (ws := wl yX1_thousandfold cX1_thousandfold 3 (some .long)) B.pre
  have htb : ∀ w ∈ tb, w.before _ s = true := fun w h => hts w (List.mem_cons_of_mem _ h)
  have hown : s.vm.findClass RX1 = some m.cls := findClass_of_methodNamed B.named
  have hlocks := B.notSynchronized
  subst hsz
  have hD := hD0.self (sz := s.heap.size)
  generalize hAe : va_A [(fh, .inr (1, G1 fa fn fsumR fsumW fsumA fsumWW fsumAA fsumWA fsumWR fsumAR fdivisor fbyWarmth fbyAge fform fwhole frest))] s.heap.size = A at hD ⊢
  have hA : ∀ q : Nat, s.heap.size ≤ q → A q := fun q h => by rw [← hAe]; exact Or.inr h
  have hS : va_S A s.heap s.heap [] := va_S.rf
  have hP : va_P D vwCl [(fh, .inr (1, G1 fa fn fsumR fsumW fsumA fsumWW fsumAA fsumWA fsumWR fsumAR fdivisor fbyWarmth fbyAge fform fwhole frest))] s.heap := hP
  have hl := lv_entry ([.ref fh, .int p0, .int p1]) (n := 3) (Nat.le_of_ble_eq_true rfl)
  rw [lg_entry_eq]
  generalize (lg_sl ([.ref fh, .int p0, .int p1]) ++ List.replicate (3 - (lg_sl ([.ref fh, .int p0, .int p1])).length) Slot.unset).toArray = ls at hl ⊢
  have hl : lv_has ls 3 [(0, .ref fh), (1, .int p0), (2, .int p1)] := hl
  have lo_p0 := i_lo p0; have hi_p0 := i_hi p0
  have lo_p1 := i_lo p1; have hi_p1 := i_hi p1
  refine lv_aload_n hx hb dX1_thousandfold_0 rfl (lv_at hl 0 rfl) ?_
  refine lv_lconst (v := 0) hx hb dX1_thousandfold_1 (by decide) ?_
  refine va_put (D := D) (ci := 1) (v := .long 0) (ty := .long) (C := RX1) (T := TX1) (N := 15) hx hb htb iX1 tyX1 tyX1_ok nmX1 hown hK.1 hP hD hS 0 rfl rfl 13 (by decide) (htb _ k_96) (fun _ h9 => h9) rfl (by decide +kernel) rfl rfl (Nat.le_of_ble_eq_true rfl) dX1_thousandfold_2 (fun H locs hP hD hS => ?_)
  have hP : va_P D vwCl [(fh, .inr (1, G1 fa fn fsumR fsumW fsumA fsumWW fsumAA fsumWA fsumWR fsumAR fdivisor fbyWarmth fbyAge fform 0 frest))] H := hP
  have hD := toW hP hD rfl
  refine lv_aload_n hx hb dX1_thousandfold_5 rfl (lv_at hl 0 rfl) ?_
  refine lv_lconst (v := 0) hx hb dX1_thousandfold_6 (by decide) ?_
  refine va_put (D := D) (ci := 1) (v := .long 0) (ty := .long) (C := RX1) (T := TX1) (N := 15) hx hb htb iX1 tyX1 tyX1_ok nmX1 hown hK.1 hP hD hS 0 rfl rfl 14 (by decide) (htb _ k_97) (fun _ h9 => h9) rfl (by decide +kernel) rfl rfl (Nat.le_of_ble_eq_true rfl) dX1_thousandfold_7 (fun H locs hP hD hS => ?_)
  have hP : va_P D vwCl [(fh, .inr (1, G1 fa fn fsumR fsumW fsumA fsumWW fsumAA fsumWA fsumWR fsumAR fdivisor fbyWarmth fbyAge fform 0 0))] H := hP
  have hD := toW hP hD rfl
  refine lv_aload_n hx hb dX1_thousandfold_10 rfl (lv_at hl 0 rfl) ?_
  refine lv_aload_n hx hb dX1_thousandfold_11 rfl (lv_at hl 0 rfl) ?_
  refine va_get (D := D) (ci := 1) (v := .long fdivisor) (C := RX1) (T := TX1) (N := 15) hx hb htb iX1 hown hK.1 hP 0 rfl rfl 9 (by decide) (htb _ k_92) (fun _ h9 => h9) rfl dX1_thousandfold_12 ?_
  refine lv_ldc2 hx hb hown (htb _ k_541) dX1_thousandfold_15 ?_
  refine lv_aload_n hx hb dX1_thousandfold_18 rfl (lv_at hl 0 rfl) ?_
  refine va_get (D := D) (ci := 1) (v := .long fsumR) (C := RX1) (T := TX1) (N := 15) hx hb htb iX1 hown hK.1 hP 0 rfl rfl 1 (by decide) (htb _ k_84) (fun _ h9 => h9) rfl dX1_thousandfold_19 ?_
  refine lv_lmul hx hb dX1_thousandfold_22 ?_
  refine lv_topl (fun z_1 ez_1 => ?_)
  have hPc := hP.sub (ws' := [(fh, .inr (1, G1 fa fn fsumR fsumW fsumA fsumWW fsumAA fsumWA fsumWR fsumAR fdivisor fbyWarmth fbyAge fform 0 0))]) [0] rfl
  have hDc := hD.sub (ws' := [(fh, .inr (1, G1 fa fn fsumR fsumW fsumA fsumWW fsumAA fsumWA fsumWR fsumAR fdivisor fbyWarmth fbyAge fform 0 0))]) [0] (by decide) rfl
  refine aft_v (runMV (rest := []) (As := [.long fdivisor, .long z_1]) hx hb hml hown htb hK (g_X1_addProduct l D E fh fa fn fsumR fsumW fsumA fsumWW fsumAA fsumWA fsumWR fsumAR fdivisor fbyWarmth fbyAge fform 0 0 fdivisor z_1 _ ) ok_X1_addProduct k_542 k_544 ks_9 k_4 k_545 ⟨(Nat.le_of_ble_eq_true rfl), (Nat.le_of_ble_eq_true rfl)⟩ ⟨(Nat.le_of_ble_eq_true rfl), (Nat.le_of_ble_eq_true rfl)⟩ hl.1 (Nat.le_of_ble_eq_true rfl) rfl rfl dX1_thousandfold_23 hPc hDc rfl rfl 0 rfl) hP hD hS hA [0] [] (wr := ([] : va_W)) rfl rfl (by decide) (by decide) (fun u_4 H locs hw_3 hP hD hS => ?_)
  clear hPc hDc
  obtain ⟨w_5, w_6⟩ := u_4
  try dsimp only at hw_3
  have hP : va_P D vwCl [(fh, .inr (1, G1 fa fn fsumR fsumW fsumA fsumWW fsumAA fsumWA fsumWR fsumAR fdivisor fbyWarmth fbyAge fform w_6 w_5))] H := hP
  have hD := toW hP hD rfl
  refine lv_aload_n hx hb dX1_thousandfold_26 rfl (lv_at hl 0 rfl) ?_
  refine lv_aload_n hx hb dX1_thousandfold_27 rfl (lv_at hl 0 rfl) ?_
  refine va_get (D := D) (ci := 1) (v := .long fbyWarmth) (C := RX1) (T := TX1) (N := 15) hx hb htb iX1 hown hK.1 hP 0 rfl rfl 10 (by decide) (htb _ k_93) (fun _ h9 => h9) rfl dX1_thousandfold_28 ?_
  refine lv_ldc2 hx hb hown (htb _ k_541) dX1_thousandfold_31 ?_
  refine lv_aload_n hx hb dX1_thousandfold_34 rfl (lv_at hl 0 rfl) ?_
  refine va_get (D := D) (ci := 1) (v := .long fn) (C := RX1) (T := TX1) (N := 15) hx hb htb iX1 hown hK.1 hP 0 rfl rfl 0 (by decide) (htb _ k_83) (fun _ h9 => h9) rfl dX1_thousandfold_35 ?_
  refine lv_iload_n hx hb dX1_thousandfold_38 rfl (lv_at hl 1 rfl) ?_
  obtain ⟨z_7, ez_7⟩ : ∃ y : Int64, (p0 : Int32).toInt64 = y := ⟨_, rfl⟩
  refine lv_i2l hx hb dX1_thousandfold_39 ez_7 ?_
  refine lv_lmul hx hb dX1_thousandfold_40 ?_
  refine lv_topl (fun z_8 ez_8 => ?_)
  refine lv_aload_n hx hb dX1_thousandfold_41 rfl (lv_at hl 0 rfl) ?_
  refine va_get (D := D) (ci := 1) (v := .long fsumW) (C := RX1) (T := TX1) (N := 15) hx hb htb iX1 hown hK.1 hP 0 rfl rfl 2 (by decide) (htb _ k_85) (fun _ h9 => h9) rfl dX1_thousandfold_42 ?_
  refine lv_lsub hx hb dX1_thousandfold_45 ?_
  refine lv_topl (fun z_9 ez_9 => ?_)
  refine lv_lmul hx hb dX1_thousandfold_46 ?_
  refine lv_topl (fun z_10 ez_10 => ?_)
  have hPc := hP.sub (ws' := [(fh, .inr (1, G1 fa fn fsumR fsumW fsumA fsumWW fsumAA fsumWA fsumWR fsumAR fdivisor fbyWarmth fbyAge fform w_6 w_5))]) [0] rfl
  have hDc := hD.sub (ws' := [(fh, .inr (1, G1 fa fn fsumR fsumW fsumA fsumWW fsumAA fsumWA fsumWR fsumAR fdivisor fbyWarmth fbyAge fform w_6 w_5))]) [0] (by decide) rfl
  refine aft_v (runMV (rest := []) (As := [.long fbyWarmth, .long z_10]) hx hb hml hown htb hK (g_X1_addProduct l D E fh fa fn fsumR fsumW fsumA fsumWW fsumAA fsumWA fsumWR fsumAR fdivisor fbyWarmth fbyAge fform w_6 w_5 fbyWarmth z_10 _ ) ok_X1_addProduct k_542 k_544 ks_9 k_4 k_545 ⟨(Nat.le_of_ble_eq_true rfl), (Nat.le_of_ble_eq_true rfl)⟩ ⟨(Nat.le_of_ble_eq_true rfl), (Nat.le_of_ble_eq_true rfl)⟩ hl.1 (Nat.le_of_ble_eq_true rfl) rfl rfl dX1_thousandfold_47 hPc hDc rfl rfl 0 rfl) hP hD hS hA [0] [] (wr := ([] : va_W)) rfl rfl (by decide) (by decide) (fun u_13 H locs hw_12 hP hD hS => ?_)
  clear hPc hDc
  obtain ⟨w_14, w_15⟩ := u_13
  try dsimp only at hw_12
  have hP : va_P D vwCl [(fh, .inr (1, G1 fa fn fsumR fsumW fsumA fsumWW fsumAA fsumWA fsumWR fsumAR fdivisor fbyWarmth fbyAge fform w_15 w_14))] H := hP
  have hD := toW hP hD rfl
  refine lv_aload_n hx hb dX1_thousandfold_50 rfl (lv_at hl 0 rfl) ?_
  refine lv_aload_n hx hb dX1_thousandfold_51 rfl (lv_at hl 0 rfl) ?_
  refine va_get (D := D) (ci := 1) (v := .long fbyAge) (C := RX1) (T := TX1) (N := 15) hx hb htb iX1 hown hK.1 hP 0 rfl rfl 11 (by decide) (htb _ k_94) (fun _ h9 => h9) rfl dX1_thousandfold_52 ?_
  refine lv_ldc2 hx hb hown (htb _ k_541) dX1_thousandfold_55 ?_
  refine lv_aload_n hx hb dX1_thousandfold_58 rfl (lv_at hl 0 rfl) ?_
  refine va_get (D := D) (ci := 1) (v := .long fn) (C := RX1) (T := TX1) (N := 15) hx hb htb iX1 hown hK.1 hP 0 rfl rfl 0 (by decide) (htb _ k_83) (fun _ h9 => h9) rfl dX1_thousandfold_59 ?_
  refine lv_iload_n hx hb dX1_thousandfold_62 rfl (lv_at hl 2 rfl) ?_
  obtain ⟨z_16, ez_16⟩ : ∃ y : Int64, (p1 : Int32).toInt64 = y := ⟨_, rfl⟩
  refine lv_i2l hx hb dX1_thousandfold_63 ez_16 ?_
  refine lv_lmul hx hb dX1_thousandfold_64 ?_
  refine lv_topl (fun z_17 ez_17 => ?_)
  refine lv_aload_n hx hb dX1_thousandfold_65 rfl (lv_at hl 0 rfl) ?_
  refine va_get (D := D) (ci := 1) (v := .long fsumA) (C := RX1) (T := TX1) (N := 15) hx hb htb iX1 hown hK.1 hP 0 rfl rfl 3 (by decide) (htb _ k_86) (fun _ h9 => h9) rfl dX1_thousandfold_66 ?_
  refine lv_lsub hx hb dX1_thousandfold_69 ?_
  refine lv_topl (fun z_18 ez_18 => ?_)
  refine lv_lmul hx hb dX1_thousandfold_70 ?_
  refine lv_topl (fun z_19 ez_19 => ?_)
  have hPc := hP.sub (ws' := [(fh, .inr (1, G1 fa fn fsumR fsumW fsumA fsumWW fsumAA fsumWA fsumWR fsumAR fdivisor fbyWarmth fbyAge fform w_15 w_14))]) [0] rfl
  have hDc := hD.sub (ws' := [(fh, .inr (1, G1 fa fn fsumR fsumW fsumA fsumWW fsumAA fsumWA fsumWR fsumAR fdivisor fbyWarmth fbyAge fform w_15 w_14))]) [0] (by decide) rfl
  refine aft_v (runMV (rest := []) (As := [.long fbyAge, .long z_19]) hx hb hml hown htb hK (g_X1_addProduct l D E fh fa fn fsumR fsumW fsumA fsumWW fsumAA fsumWA fsumWR fsumAR fdivisor fbyWarmth fbyAge fform w_15 w_14 fbyAge z_19 _ ) ok_X1_addProduct k_542 k_544 ks_9 k_4 k_545 ⟨(Nat.le_of_ble_eq_true rfl), (Nat.le_of_ble_eq_true rfl)⟩ ⟨(Nat.le_of_ble_eq_true rfl), (Nat.le_of_ble_eq_true rfl)⟩ hl.1 (Nat.le_of_ble_eq_true rfl) rfl rfl dX1_thousandfold_71 hPc hDc rfl rfl 0 rfl) hP hD hS hA [0] [] (wr := ([] : va_W)) rfl rfl (by decide) (by decide) (fun u_22 H locs hw_21 hP hD hS => ?_)
  clear hPc hDc
  obtain ⟨w_23, w_24⟩ := u_22
  try dsimp only at hw_21
  have hP : va_P D vwCl [(fh, .inr (1, G1 fa fn fsumR fsumW fsumA fsumWW fsumAA fsumWA fsumWR fsumAR fdivisor fbyWarmth fbyAge fform w_24 w_23))] H := hP
  have hD := toW hP hD rfl
  refine lv_aload_n hx hb dX1_thousandfold_74 rfl (lv_at hl 0 rfl) ?_
  refine va_get (D := D) (ci := 1) (v := .long w_24) (C := RX1) (T := TX1) (N := 15) hx hb htb iX1 hown hK.1 hP 0 rfl rfl 13 (by decide) (htb _ k_96) (fun _ h9 => h9) rfl dX1_thousandfold_75 ?_
  have hP9 := hP.sub (ws' := [(fh, .inr (1, G1 fa fn fsumR fsumW fsumA fsumWW fsumAA fsumWA fsumWR fsumAR fdivisor fbyWarmth fbyAge fform w_24 w_23))]) [0] rfl
  have hD9 := hD.sub (ws' := [(fh, .inr (1, G1 fa fn fsumR fsumW fsumA fsumWW fsumAA fsumWA fsumWR fsumAR fdivisor fbyWarmth fbyAge fform w_24 w_23))]) [0] (by decide) rfl
  exact W.lret (v := w_24) hx hb hr (fun t ht hW => ⟨⟨w_24, (w_23, w_24), rfl, trivial, by rw [ht]; exact hP9, hD9⟩, hS.F ht⟩) hS.2.2 dX1_thousandfold_78
end
section
set_option maxHeartbeats 4000000 in
set_option maxRecDepth 100000 in
theorem g_X4_workOut (l : Launch) (D : va_G) (E : Nat → Nat) (uh : Nat) (ua : Nat → Nat) (usize : Int32) (uf0 : Nat → Int32) (uf1 : Nat → Int32) (uf2 : Nat → Int32) (nx : Nat) (nxf : Nat → Int32) (sz : Nat) (hi_u : (0 ≤ usize.toInt ∧ usize.toInt ≤ 120)) : Met l yX4_workOut (wl yX4_workOut cX4_workOut 6 (some .int)) (RM 1 0 0) (mu_P D E [.ref uh, .ref nx] [(uh, .inr (4, G4 ua usize)), ((ua 0), .inl (E 0, 120, .inl uf0)), ((ua 1), .inl (E 0, 120, .inl uf1)), ((ua 2), .inl (E 0, 120, .inl uf2)), (nx, .inl (E 0, 9, .inl nxf))] sz) (va_Qi (fun (r : Int32) (u : (Nat → Int32)) => True) (mu_B D (va_A [(uh, .inr (4, G4 ua usize)), ((ua 0), .inl (E 0, 120, .inl uf0)), ((ua 1), .inl (E 0, 120, .inl uf1)), ((ua 2), .inl (E 0, 120, .inl uf2)), (nx, .inl (E 0, 9, .inl nxf))] sz) (fun (u : (Nat → Int32)) => [(uh, .inr (4, G4 ua usize)), ((ua 0), .inl (E 0, 120, .inl uf0)), ((ua 1), .inl (E 0, 120, .inl uf1)), ((ua 2), .inl (E 0, 120, .inl u)), (nx, .inl (E 0, 9, .inl nxf))])) (va_A [(uh, .inr (4, G4 ua usize)), ((ua 0), .inl (E 0, 120, .inl uf0)), ((ua 1), .inl (E 0, 120, .inl uf1)), ((ua 2), .inl (E 0, 120, .inl uf2)), (nx, .inl (E 0, 9, .inl nxf))] sz)) 0 0 (va_A [(uh, .inr (4, G4 ua usize)), ((ua 0), .inl (E 0, 120, .inl uf0)), ((ua 1), .inl (E 0, 120, .inl uf1)), ((ua 2), .inl (E 0, 120, .inl uf2)), (nx, .inl (E 0, 9, .inl nxf))] sz) := by
  refine Met.ofW (cc := cX4_workOut) (maxL := 6) (ret := (some .int)) (by decide) rfl ?_
  intro p e s m args below meth c s₁ B hml hv
  obtain ⟨rfl, hsz, hP, hK, hD0⟩ := hv
  have hx := B.exec; have hb := B.bytes; have hr := B.returns
  have hts := atoms_spec (ws := wl yX4_workOut cX4_workOut 6 (some .int)) B.pre
  have htb : ∀ w ∈ tb, w.before _ s = true := fun w h => hts w (List.mem_cons_of_mem _ h)
  have hown : s.vm.findClass RX4 = some m.cls := findClass_of_methodNamed B.named
  have hlocks := B.notSynchronized
  subst hsz
  have hD := hD0.self (sz := s.heap.size)
  generalize hAe : va_A [(uh, .inr (4, G4 ua usize)), ((ua 0), .inl (E 0, 120, .inl uf0)), ((ua 1), .inl (E 0, 120, .inl uf1)), ((ua 2), .inl (E 0, 120, .inl uf2)), (nx, .inl (E 0, 9, .inl nxf))] s.heap.size = A at hD ⊢
  have hA : ∀ q : Nat, s.heap.size ≤ q → A q := fun q h => by rw [← hAe]; exact Or.inr h
  have hS : va_S A s.heap s.heap [] := va_S.rf
  have hP : va_P D vwCl [(uh, .inr (4, G4 ua usize)), ((ua 0), .inl (E 0, 120, .inl uf0)), ((ua 1), .inl (E 0, 120, .inl uf1)), ((ua 2), .inl (E 0, 120, .inl uf2)), (nx, .inl (E 0, 9, .inl nxf))] s.heap := hP
  have hl := lv_entry ([.ref uh, .ref nx]) (n := 6) (Nat.le_of_ble_eq_true rfl)
  rw [lg_entry_eq]
  generalize (lg_sl ([.ref uh, .ref nx]) ++ List.replicate (6 - (lg_sl ([.ref uh, .ref nx])).length) Slot.unset).toArray = ls at hl ⊢
  have hl : lv_has ls 6 [(0, .ref uh), (1, .ref nx)] := hl
  refine lv_iconst (v := 0) hx hb dX4_workOut_0 (by decide) ?_
  refine lv_istore_n (lv' := [(2, .int 0), (0, .ref uh), (1, .ref nx)]) hx hb dX4_workOut_1 rfl hl (by decide) rfl (fun ls hl => ?_)
  refine lv_iconst (v := 0) hx hb dX4_workOut_2 (by decide) ?_
  refine lv_istore_n (lv' := [(3, .int 0), (2, .int 0), (0, .ref uh), (1, .ref nx)]) hx hb dX4_workOut_3 rfl hl (by decide) rfl (fun ls hl => ?_)
  have loop_1 : ∀ (N_3 : Nat) (L3_4 : Int32) (L2_4 : Int32) (uf2_4 : Nat → Int32) (H : Heap) (locs : List Loc) (ls : Array Slot), usize.toInt - L3_4.toInt < (N_3 : Int) → (0 ≤ L3_4.toInt ∧ L3_4.toInt ≤ usize.toInt) → (0 ≤ L2_4.toInt ∧ L2_4.toInt ≤ 120) → va_P D vwCl [(uh, .inr (4, G4 ua usize)), ((ua 0), .inl (E 0, 120, .inl uf0)), ((ua 1), .inl (E 0, 120, .inl uf1)), ((ua 2), .inl (E 0, 120, .inl uf2_4)), (nx, .inl (E 0, 9, .inl nxf))] H → va_D A [(uh, .inr (4, G4 ua usize)), ((ua 0), .inl (E 0, 120, .inl uf0)), ((ua 1), .inl (E 0, 120, .inl uf1)), ((ua 2), .inl (E 0, 120, .inl uf2_4)), (nx, .inl (E 0, 9, .inl nxf))] → va_S A s.heap H locs → lv_has ls 6 [(3, .int L3_4), (2, .int L2_4), (0, .ref uh), (1, .ref nx)] → W p l e (headSpec (wl yX4_workOut cX4_workOut 6 (some .int)) (RM 1 0 0)).room s m [Value.ref uh, .ref nx].toArray below meth c H locs 0 0 (MQ below (va_Qi (fun (r : Int32) (u : (Nat → Int32)) => True) (mu_B D A (fun (u : (Nat → Int32)) => [(uh, .inr (4, G4 ua usize)), ((ua 0), .inl (E 0, 120, .inl uf0)), ((ua 1), .inl (E 0, 120, .inl uf1)), ((ua 2), .inl (E 0, 120, .inl u)), (nx, .inl (E 0, 9, .inl nxf))])) A) [Value.ref uh, .ref nx].toArray s 0 0 A) (F0 m 4 ls []) := by
    intro N_3
    induction N_3 with
    | zero => intro L3_4 L2_4 uf2_4 H locs ls hm v0_4 v1_4 _ _ _ _; exfalso; omega
    | succ N_3 ih_2 =>
      intro L3_4 L2_4 uf2_4 H locs ls hm v0_4 v1_4 hP hD hS hl
      have lo_L3_4 := i_lo L3_4; have hi_L3_4 := i_hi L3_4
      have lo_L2_4 := i_lo L2_4; have hi_L2_4 := i_hi L2_4
      refine lv_iload_n hx hb dX4_workOut_4 rfl (lv_at hl 0 rfl) ?_
      refine lv_aload_n hx hb dX4_workOut_5 rfl (lv_at hl 2 rfl) ?_
      refine va_get (D := D) (ci := 4) (v := .int usize) (C := RX4) (T := TX4) (N := 4) hx hb htb iX4 hown hK.1 hP 0 rfl rfl 3 (by decide) (htb _ k_144) (fun _ h9 => h9) rfl dX4_workOut_6 ?_
      refine lv_icmp_ge (tgt := 172) hx hb dX4_workOut_9 (by decide) (fun c_4 => ?_) (fun c_4 => ?_)
      ·
        have ic_4 : usize.toInt ≤ L3_4.toInt := by first | exact (g_le rfl rfl).mp c_4 | (have h := mt (g_lt rfl rfl).mpr c_4; omega)
        clear c_4
        refine lv_iload_n hx hb dX4_workOut_172 rfl (lv_at hl 1 rfl) ?_
        refine lv_if_le (tgt := 187) hx hb dX4_workOut_173 (by decide) (fun c_5 => ?_) (fun c_5 => ?_)
        ·
          have ic_5 : L2_4.toInt ≤ 0 := by first | exact (g_le rfl t_0).mp c_5 | (have h := mt (g_lt t_0 rfl).mpr c_5; omega)
          clear c_5
          refine lv_iconst (v := 0) hx hb dX4_workOut_187 (by decide) ?_
          have hP9 := hP.sub (ws' := [(uh, .inr (4, G4 ua usize)), ((ua 0), .inl (E 0, 120, .inl uf0)), ((ua 1), .inl (E 0, 120, .inl uf1)), ((ua 2), .inl (E 0, 120, .inl uf2_4)), (nx, .inl (E 0, 9, .inl nxf))]) [0, 1, 2, 3, 4] rfl
          have hD9 := hD.sub (ws' := [(uh, .inr (4, G4 ua usize)), ((ua 0), .inl (E 0, 120, .inl uf0)), ((ua 1), .inl (E 0, 120, .inl uf1)), ((ua 2), .inl (E 0, 120, .inl uf2_4)), (nx, .inl (E 0, 9, .inl nxf))]) [0, 1, 2, 3, 4] (by decide) rfl
          exact W.iret (v := 0) hx hb hr (fun t ht hW => ⟨⟨0, uf2_4, rfl, trivial, by rw [ht]; exact hP9, hD9⟩, hS.F ht⟩) hS.2.2 dX4_workOut_188
        ·
          have ic_5 : 0 < L2_4.toInt := by first | exact (g_lt t_0 rfl).mp c_5 | (have h := mt (g_le rfl t_0).mpr c_5; omega)
          clear c_5
          refine lv_aload_n hx hb dX4_workOut_176 rfl (lv_at hl 2 rfl) ?_
          refine va_get (D := D) (ci := 4) (v := .ref (ua 2)) (C := RX4) (T := TX4) (N := 4) hx hb htb iX4 hown hK.1 hP 0 rfl rfl 2 (by decide) (htb _ k_143) (fun _ h9 => h9) rfl dX4_workOut_177 ?_
          refine lv_iload_n hx hb dX4_workOut_180 rfl (lv_at hl 1 rfl) ?_
          refine lv_iconst (v := 1) hx hb dX4_workOut_181 (by decide) ?_
          refine lv_isub hx hb dX4_workOut_182 ?_
          refine lv_topi (fun z_6 ez_6 => ?_)
          have jz_6 : z_6.toInt = L2_4.toInt - 1 := by rw [ez_6]; exact g_sub rfl t_1 (by omega) (by omega)
          refine va_iald hx hb hK.1 hP 3 0 rfl rfl (g_in rfl (by omega) (by omega)) dX4_workOut_183 ?_
          refine lv_topi (fun z_7 ez_7 => ?_)
          have kz_7 := congrArg Int32.toInt ez_7
          refine lv_goto (tgt := 188) hx hb dX4_workOut_184 (by decide) ?_
          have hP9 := hP.sub (ws' := [(uh, .inr (4, G4 ua usize)), ((ua 0), .inl (E 0, 120, .inl uf0)), ((ua 1), .inl (E 0, 120, .inl uf1)), ((ua 2), .inl (E 0, 120, .inl uf2_4)), (nx, .inl (E 0, 9, .inl nxf))]) [0, 1, 2, 3, 4] rfl
          have hD9 := hD.sub (ws' := [(uh, .inr (4, G4 ua usize)), ((ua 0), .inl (E 0, 120, .inl uf0)), ((ua 1), .inl (E 0, 120, .inl uf1)), ((ua 2), .inl (E 0, 120, .inl uf2_4)), (nx, .inl (E 0, 9, .inl nxf))]) [0, 1, 2, 3, 4] (by decide) rfl
          exact W.iret (v := z_7) hx hb hr (fun t ht hW => ⟨⟨z_7, uf2_4, rfl, trivial, by rw [ht]; exact hP9, hD9⟩, hS.F ht⟩) hS.2.2 dX4_workOut_188
      ·
        have ic_4 : L3_4.toInt < usize.toInt := by first | exact (g_lt rfl rfl).mp c_4 | (have h := mt (g_le rfl rfl).mpr c_4; omega)
        clear c_4
        refine lv_aload_n hx hb dX4_workOut_12 rfl (lv_at hl 2 rfl) ?_
        refine va_get (D := D) (ci := 4) (v := .ref (ua 0)) (C := RX4) (T := TX4) (N := 4) hx hb htb iX4 hown hK.1 hP 0 rfl rfl 0 (by decide) (htb _ k_141) (fun _ h9 => h9) rfl dX4_workOut_13 ?_
        refine lv_iload_n hx hb dX4_workOut_16 rfl (lv_at hl 0 rfl) ?_
        refine va_iald hx hb hK.1 hP 1 0 rfl rfl (g_in rfl (by omega) (by omega)) dX4_workOut_17 ?_
        refine lv_topi (fun z_8 ez_8 => ?_)
        have kz_8 := congrArg Int32.toInt ez_8
        refine lv_istore (lv' := [(4, .int z_8), (3, .int L3_4), (2, .int L2_4), (0, .ref uh), (1, .ref nx)]) hx hb dX4_workOut_18 hl (by decide) rfl (fun ls hl => ?_)
        refine lv_aload_n hx hb dX4_workOut_20 rfl (lv_at hl 3 rfl) ?_
        refine va_get (D := D) (ci := 4) (v := .ref (ua 1)) (C := RX4) (T := TX4) (N := 4) hx hb htb iX4 hown hK.1 hP 0 rfl rfl 1 (by decide) (htb _ k_142) (fun _ h9 => h9) rfl dX4_workOut_21 ?_
        refine lv_iload_n hx hb dX4_workOut_24 rfl (lv_at hl 1 rfl) ?_
        refine va_iald hx hb hK.1 hP 2 0 rfl rfl (g_in rfl (by omega) (by omega)) dX4_workOut_25 ?_
        refine lv_topi (fun z_9 ez_9 => ?_)
        have kz_9 := congrArg Int32.toInt ez_9
        refine lv_istore (lv' := [(5, .int z_9), (4, .int z_8), (3, .int L3_4), (2, .int L2_4), (0, .ref uh), (1, .ref nx)]) hx hb dX4_workOut_26 hl (by decide) rfl (fun ls hl => ?_)
        refine lv_iload hx hb dX4_workOut_28 (lv_at hl 1 rfl) ?_
        refine lv_iconst (v := 2) hx hb dX4_workOut_30 (by decide) ?_
        refine lv_icmp_ne (tgt := 54) hx hb dX4_workOut_31 (by decide) (fun c_10 => ?_) (fun c_10 => ?_)
        ·
          have ic_10 : z_8.toInt ≠ 2 := mt (g_eq rfl t_2).mpr c_10
          clear c_10
          refine lv_iload hx hb dX4_workOut_54 (lv_at hl 1 rfl) ?_
          refine lv_iconst (v := 3) hx hb dX4_workOut_56 (by decide) ?_
          refine lv_icmp_ne (tgt := 94) hx hb dX4_workOut_57 (by decide) (fun c_11 => ?_) (fun c_11 => ?_)
          ·
            have ic_11 : z_8.toInt ≠ 3 := mt (g_eq rfl t_3).mpr c_11
            clear c_11
            refine lv_iload hx hb dX4_workOut_94 (lv_at hl 1 rfl) ?_
            refine callRS (rest := []) (As := [.int z_8]) hx hb hml hown htb hK (g_X4_isAhead l D E z_8 ) ok_X4_isAhead k_756 k_757 k_6 k_758 ⟨(Nat.le_of_ble_eq_true rfl), (Nat.le_of_ble_eq_true rfl)⟩ ⟨(Nat.le_of_ble_eq_true rfl), (Nat.le_of_ble_eq_true rfl)⟩ hl.1 (Nat.le_of_ble_eq_true rfl) rfl rfl dX4_workOut_96 (hP.sub (ws' := ([] : va_W)) [] rfl) (fun r_12 hw_13 => ?_)
            rcases hw_13 with ⟨hr_12, hw_13⟩ | ⟨hr_12, hw_13⟩
            ·
              refine W_top (y := .int 1) (by rw [hr_12]) ?_
              refine lv_if_eq (tgt := 131) hx hb dX4_workOut_99 (by decide) (fun c_15 => absurd c_15 (by decide)) (fun c_15 => ?_)
              refine lv_iload_n hx hb dX4_workOut_102 rfl (lv_at hl 3 rfl) ?_
              refine lv_iconst (v := 1) hx hb dX4_workOut_103 (by decide) ?_
              refine lv_icmp_lt (tgt := 131) hx hb dX4_workOut_104 (by decide) (fun c_16 => ?_) (fun c_16 => ?_)
              ·
                have ic_16 : L2_4.toInt < 1 := by first | exact (g_lt rfl t_1).mp c_16 | (have h := mt (g_le t_1 rfl).mpr c_16; omega)
                clear c_16
                refine lv_iload_n hx hb dX4_workOut_131 rfl (lv_at hl 3 rfl) ?_
                refine lv_iconst (v := 2) hx hb dX4_workOut_132 (by decide) ?_
                refine lv_icmp_lt (tgt := 166) hx hb dX4_workOut_133 (by decide) (fun c_17 => ?_) (fun c_17 => absurd (by rw [g_lt rfl t_2]; omega) c_17)
                obtain ⟨z_18, ez_18⟩ : ∃ y : Int32, y = L3_4 + 1 := ⟨_, rfl⟩
                have jz_18 : z_18.toInt = L3_4.toInt + 1 := by rw [ez_18]; exact g_add rfl t_1 (by omega) (by omega)
                refine lv_iinc (v := z_18) (lv' := [(3, .int z_18), (5, .int z_9), (4, .int z_8), (2, .int L2_4), (0, .ref uh), (1, .ref nx)]) hx hb dX4_workOut_166 hl (k := 2) rfl (by rw [ez_18]; rfl) (by decide) rfl (fun ls hl => ?_)
                refine lv_goto (tgt := 4) hx hb dX4_workOut_169 (by decide) ?_
                exact ih_2 z_18 L2_4 uf2_4 _ _ _ (by (try dsimp only); omega) (by (try dsimp only); omega) (by (try dsimp only); omega) hP hD hS (lv_sub hl [0, 3, 4, 5] rfl)
              ·
                have ic_16 : 1 ≤ L2_4.toInt := by first | exact (g_le t_1 rfl).mp c_16 | (have h := mt (g_lt rfl t_1).mpr c_16; omega)
                clear c_16
                refine lv_aload_n hx hb dX4_workOut_107 rfl (lv_at hl 4 rfl) ?_
                refine va_get (D := D) (ci := 4) (v := .ref (ua 2)) (C := RX4) (T := TX4) (N := 4) hx hb htb iX4 hown hK.1 hP 0 rfl rfl 2 (by decide) (htb _ k_143) (fun _ h9 => h9) rfl dX4_workOut_108 ?_
                refine lv_iload_n hx hb dX4_workOut_111 rfl (lv_at hl 3 rfl) ?_
                refine lv_iconst (v := 1) hx hb dX4_workOut_112 (by decide) ?_
                refine lv_isub hx hb dX4_workOut_113 ?_
                refine lv_topi (fun z_19 ez_19 => ?_)
                have jz_19 : z_19.toInt = L2_4.toInt - 1 := by rw [ez_19]; exact g_sub rfl t_1 (by omega) (by omega)
                refine lv_iload hx hb dX4_workOut_114 (lv_at hl 1 rfl) ?_
                refine lv_aload_n hx hb dX4_workOut_116 rfl (lv_at hl 4 rfl) ?_
                refine va_get (D := D) (ci := 4) (v := .ref (ua 2)) (C := RX4) (T := TX4) (N := 4) hx hb htb iX4 hown hK.1 hP 0 rfl rfl 2 (by decide) (htb _ k_143) (fun _ h9 => h9) rfl dX4_workOut_117 ?_
                refine lv_iload_n hx hb dX4_workOut_120 rfl (lv_at hl 3 rfl) ?_
                refine lv_iconst (v := 1) hx hb dX4_workOut_121 (by decide) ?_
                refine lv_isub hx hb dX4_workOut_122 ?_
                refine lv_topi (fun z_20 ez_20 => ?_)
                have jz_20 : z_20.toInt = L2_4.toInt - 1 := by rw [ez_20]; exact g_sub rfl t_1 (by omega) (by omega)
                refine va_iald hx hb hK.1 hP 3 0 rfl rfl (g_in rfl (by omega) (by omega)) dX4_workOut_123 ?_
                refine lv_topi (fun z_21 ez_21 => ?_)
                have kz_21 := congrArg Int32.toInt ez_21
                refine callRS (rest := [.int z_19, .ref (ua 2)]) (As := [.int z_8, .int z_21]) hx hb hml hown htb hK (g_X4_workOutOne l D E z_8 z_21 ) ok_X4_workOutOne k_759 k_760 k_6 k_761 ⟨(Nat.le_of_ble_eq_true rfl), (Nat.le_of_ble_eq_true rfl)⟩ ⟨(Nat.le_of_ble_eq_true rfl), (Nat.le_of_ble_eq_true rfl)⟩ hl.1 (Nat.le_of_ble_eq_true rfl) rfl rfl dX4_workOut_124 (hP.sub (ws' := ([] : va_W)) [] rfl) (fun r_22 hw_23 => ?_)
                refine va_iast hx hb hK.1 hP hD hS 3 0 rfl rfl (g_in rfl (by omega) (by omega)) dX4_workOut_127 (fun H locs hP hD hS => ?_)
                have hP : va_P D vwCl [(uh, .inr (4, G4 ua usize)), ((ua 0), .inl (E 0, 120, .inl uf0)), ((ua 1), .inl (E 0, 120, .inl uf1)), ((ua 2), .inl (E 0, 120, .inl (upd uf2_4 (z_19 : Int32).toNatClampNeg r_22))), (nx, .inl (E 0, 9, .inl nxf))] H := hP
                have hD := toW hP hD rfl
                refine lv_goto (tgt := 166) hx hb dX4_workOut_128 (by decide) ?_
                obtain ⟨z_25, ez_25⟩ : ∃ y : Int32, y = L3_4 + 1 := ⟨_, rfl⟩
                have jz_25 : z_25.toInt = L3_4.toInt + 1 := by rw [ez_25]; exact g_add rfl t_1 (by omega) (by omega)
                refine lv_iinc (v := z_25) (lv' := [(3, .int z_25), (5, .int z_9), (4, .int z_8), (2, .int L2_4), (0, .ref uh), (1, .ref nx)]) hx hb dX4_workOut_166 hl (k := 2) rfl (by rw [ez_25]; rfl) (by decide) rfl (fun ls hl => ?_)
                refine lv_goto (tgt := 4) hx hb dX4_workOut_169 (by decide) ?_
                exact ih_2 z_25 L2_4 (upd uf2_4 (z_19 : Int32).toNatClampNeg r_22) _ _ _ (by (try dsimp only); omega) (by (try dsimp only); omega) (by (try dsimp only); omega) hP hD hS (lv_sub hl [0, 3, 4, 5] rfl)
            ·
              refine W_top (y := .int 0) (by rw [hr_12]) ?_
              refine lv_if_eq (tgt := 131) hx hb dX4_workOut_99 (by decide) (fun c_26 => ?_) (fun c_26 => absurd (by decide) c_26)
              refine lv_iload_n hx hb dX4_workOut_131 rfl (lv_at hl 3 rfl) ?_
              refine lv_iconst (v := 2) hx hb dX4_workOut_132 (by decide) ?_
              refine lv_icmp_lt (tgt := 166) hx hb dX4_workOut_133 (by decide) (fun c_27 => ?_) (fun c_27 => ?_)
              ·
                have ic_27 : L2_4.toInt < 2 := by first | exact (g_lt rfl t_2).mp c_27 | (have h := mt (g_le t_2 rfl).mpr c_27; omega)
                clear c_27
                obtain ⟨z_28, ez_28⟩ : ∃ y : Int32, y = L3_4 + 1 := ⟨_, rfl⟩
                have jz_28 : z_28.toInt = L3_4.toInt + 1 := by rw [ez_28]; exact g_add rfl t_1 (by omega) (by omega)
                refine lv_iinc (v := z_28) (lv' := [(3, .int z_28), (5, .int z_9), (4, .int z_8), (2, .int L2_4), (0, .ref uh), (1, .ref nx)]) hx hb dX4_workOut_166 hl (k := 2) rfl (by rw [ez_28]; rfl) (by decide) rfl (fun ls hl => ?_)
                refine lv_goto (tgt := 4) hx hb dX4_workOut_169 (by decide) ?_
                exact ih_2 z_28 L2_4 uf2_4 _ _ _ (by (try dsimp only); omega) (by (try dsimp only); omega) (by (try dsimp only); omega) hP hD hS (lv_sub hl [0, 3, 4, 5] rfl)
              ·
                have ic_27 : 2 ≤ L2_4.toInt := by first | exact (g_le t_2 rfl).mp c_27 | (have h := mt (g_lt rfl t_2).mpr c_27; omega)
                clear c_27
                obtain ⟨z_29, ez_29⟩ : ∃ y : Int32, y = L2_4 + (-1) := ⟨_, rfl⟩
                have jz_29 : z_29.toInt = L2_4.toInt + -1 := by rw [ez_29]; exact g_add rfl t_m1 (by omega) (by omega)
                refine lv_iinc (v := z_29) (lv' := [(2, .int z_29), (5, .int z_9), (4, .int z_8), (3, .int L3_4), (0, .ref uh), (1, .ref nx)]) hx hb dX4_workOut_136 hl (k := 3) rfl (by rw [ez_29]; rfl) (by decide) rfl (fun ls hl => ?_)
                refine lv_aload_n hx hb dX4_workOut_139 rfl (lv_at hl 4 rfl) ?_
                refine va_get (D := D) (ci := 4) (v := .ref (ua 2)) (C := RX4) (T := TX4) (N := 4) hx hb htb iX4 hown hK.1 hP 0 rfl rfl 2 (by decide) (htb _ k_143) (fun _ h9 => h9) rfl dX4_workOut_140 ?_
                refine lv_iload_n hx hb dX4_workOut_143 rfl (lv_at hl 0 rfl) ?_
                refine lv_iconst (v := 1) hx hb dX4_workOut_144 (by decide) ?_
                refine lv_isub hx hb dX4_workOut_145 ?_
                refine lv_topi (fun z_30 ez_30 => ?_)
                have jz_30 : z_30.toInt = z_29.toInt - 1 := by rw [ez_30]; exact g_sub rfl t_1 (by omega) (by omega)
                refine lv_iload hx hb dX4_workOut_146 (lv_at hl 2 rfl) ?_
                refine lv_aload_n hx hb dX4_workOut_148 rfl (lv_at hl 4 rfl) ?_
                refine va_get (D := D) (ci := 4) (v := .ref (ua 2)) (C := RX4) (T := TX4) (N := 4) hx hb htb iX4 hown hK.1 hP 0 rfl rfl 2 (by decide) (htb _ k_143) (fun _ h9 => h9) rfl dX4_workOut_149 ?_
                refine lv_iload_n hx hb dX4_workOut_152 rfl (lv_at hl 0 rfl) ?_
                refine lv_iconst (v := 1) hx hb dX4_workOut_153 (by decide) ?_
                refine lv_isub hx hb dX4_workOut_154 ?_
                refine lv_topi (fun z_31 ez_31 => ?_)
                have jz_31 : z_31.toInt = z_29.toInt - 1 := by rw [ez_31]; exact g_sub rfl t_1 (by omega) (by omega)
                refine va_iald hx hb hK.1 hP 3 0 rfl rfl (g_in rfl (by omega) (by omega)) dX4_workOut_155 ?_
                refine lv_topi (fun z_32 ez_32 => ?_)
                have kz_32 := congrArg Int32.toInt ez_32
                refine lv_aload_n hx hb dX4_workOut_156 rfl (lv_at hl 4 rfl) ?_
                refine va_get (D := D) (ci := 4) (v := .ref (ua 2)) (C := RX4) (T := TX4) (N := 4) hx hb htb iX4 hown hK.1 hP 0 rfl rfl 2 (by decide) (htb _ k_143) (fun _ h9 => h9) rfl dX4_workOut_157 ?_
                refine lv_iload_n hx hb dX4_workOut_160 rfl (lv_at hl 0 rfl) ?_
                refine va_iald hx hb hK.1 hP 3 0 rfl rfl (g_in rfl (by omega) (by omega)) dX4_workOut_161 ?_
                refine lv_topi (fun z_33 ez_33 => ?_)
                have kz_33 := congrArg Int32.toInt ez_33
                refine callRS (rest := [.int z_30, .ref (ua 2)]) (As := [.int z_8, .int z_32, .int z_33]) hx hb hml hown htb hK (g_X4_workOutTwo l D E z_8 z_32 z_33 ) ok_X4_workOutTwo k_762 k_763 k_6 k_764 ⟨(Nat.le_of_ble_eq_true rfl), (Nat.le_of_ble_eq_true rfl)⟩ ⟨(Nat.le_of_ble_eq_true rfl), (Nat.le_of_ble_eq_true rfl)⟩ hl.1 (Nat.le_of_ble_eq_true rfl) rfl rfl dX4_workOut_162 (hP.sub (ws' := ([] : va_W)) [] rfl) (fun r_34 hw_35 => ?_)
                refine va_iast hx hb hK.1 hP hD hS 3 0 rfl rfl (g_in rfl (by omega) (by omega)) dX4_workOut_165 (fun H locs hP hD hS => ?_)
                have hP : va_P D vwCl [(uh, .inr (4, G4 ua usize)), ((ua 0), .inl (E 0, 120, .inl uf0)), ((ua 1), .inl (E 0, 120, .inl uf1)), ((ua 2), .inl (E 0, 120, .inl (upd uf2_4 (z_30 : Int32).toNatClampNeg r_34))), (nx, .inl (E 0, 9, .inl nxf))] H := hP
                have hD := toW hP hD rfl
                obtain ⟨z_37, ez_37⟩ : ∃ y : Int32, y = L3_4 + 1 := ⟨_, rfl⟩
                have jz_37 : z_37.toInt = L3_4.toInt + 1 := by rw [ez_37]; exact g_add rfl t_1 (by omega) (by omega)
                refine lv_iinc (v := z_37) (lv' := [(3, .int z_37), (2, .int z_29), (5, .int z_9), (4, .int z_8), (0, .ref uh), (1, .ref nx)]) hx hb dX4_workOut_166 hl (k := 3) rfl (by rw [ez_37]; rfl) (by decide) rfl (fun ls hl => ?_)
                refine lv_goto (tgt := 4) hx hb dX4_workOut_169 (by decide) ?_
                exact ih_2 z_37 z_29 (upd uf2_4 (z_30 : Int32).toNatClampNeg r_34) _ _ _ (by (try dsimp only); omega) (by (try dsimp only); omega) (by (try dsimp only); omega) hP hD hS (lv_sub hl [0, 1, 4, 5] rfl)
          ·
            have ic_11 : z_8.toInt = 3 := (g_eq rfl t_3).mp c_11
            clear c_11
            refine lv_iload_n hx hb dX4_workOut_60 rfl (lv_at hl 3 rfl) ?_
            refine lv_bipush (v := 120) hx hb dX4_workOut_61 (by decide) ?_
            refine lv_icmp_ge (tgt := 94) hx hb dX4_workOut_63 (by decide) (fun c_38 => ?_) (fun c_38 => ?_)
            ·
              have ic_38 : 120 ≤ L2_4.toInt := by first | exact (g_le t_120 rfl).mp c_38 | (have h := mt (g_lt rfl t_120).mpr c_38; omega)
              clear c_38
              refine lv_iload hx hb dX4_workOut_94 (lv_at hl 1 rfl) ?_
              refine callRS (rest := []) (As := [.int z_8]) hx hb hml hown htb hK (g_X4_isAhead l D E z_8 ) ok_X4_isAhead k_756 k_757 k_6 k_758 ⟨(Nat.le_of_ble_eq_true rfl), (Nat.le_of_ble_eq_true rfl)⟩ ⟨(Nat.le_of_ble_eq_true rfl), (Nat.le_of_ble_eq_true rfl)⟩ hl.1 (Nat.le_of_ble_eq_true rfl) rfl rfl dX4_workOut_96 (hP.sub (ws' := ([] : va_W)) [] rfl) (fun r_39 hw_40 => ?_)
              rcases hw_40 with ⟨hr_39, hw_40⟩ | ⟨hr_39, hw_40⟩
              ·
                refine W_top (y := .int 1) (by rw [hr_39]) ?_
                refine lv_if_eq (tgt := 131) hx hb dX4_workOut_99 (by decide) (fun c_42 => absurd c_42 (by decide)) (fun c_42 => ?_)
                refine lv_iload_n hx hb dX4_workOut_102 rfl (lv_at hl 3 rfl) ?_
                refine lv_iconst (v := 1) hx hb dX4_workOut_103 (by decide) ?_
                refine lv_icmp_lt (tgt := 131) hx hb dX4_workOut_104 (by decide) (fun c_43 => absurd c_43 (by rw [g_lt rfl t_1]; omega)) (fun c_43 => ?_)
                refine lv_aload_n hx hb dX4_workOut_107 rfl (lv_at hl 4 rfl) ?_
                refine va_get (D := D) (ci := 4) (v := .ref (ua 2)) (C := RX4) (T := TX4) (N := 4) hx hb htb iX4 hown hK.1 hP 0 rfl rfl 2 (by decide) (htb _ k_143) (fun _ h9 => h9) rfl dX4_workOut_108 ?_
                refine lv_iload_n hx hb dX4_workOut_111 rfl (lv_at hl 3 rfl) ?_
                refine lv_iconst (v := 1) hx hb dX4_workOut_112 (by decide) ?_
                refine lv_isub hx hb dX4_workOut_113 ?_
                refine lv_topi (fun z_44 ez_44 => ?_)
                have jz_44 : z_44.toInt = L2_4.toInt - 1 := by rw [ez_44]; exact g_sub rfl t_1 (by omega) (by omega)
                refine lv_iload hx hb dX4_workOut_114 (lv_at hl 1 rfl) ?_
                refine lv_aload_n hx hb dX4_workOut_116 rfl (lv_at hl 4 rfl) ?_
                refine va_get (D := D) (ci := 4) (v := .ref (ua 2)) (C := RX4) (T := TX4) (N := 4) hx hb htb iX4 hown hK.1 hP 0 rfl rfl 2 (by decide) (htb _ k_143) (fun _ h9 => h9) rfl dX4_workOut_117 ?_
                refine lv_iload_n hx hb dX4_workOut_120 rfl (lv_at hl 3 rfl) ?_
                refine lv_iconst (v := 1) hx hb dX4_workOut_121 (by decide) ?_
                refine lv_isub hx hb dX4_workOut_122 ?_
                refine lv_topi (fun z_45 ez_45 => ?_)
                have jz_45 : z_45.toInt = L2_4.toInt - 1 := by rw [ez_45]; exact g_sub rfl t_1 (by omega) (by omega)
                refine va_iald hx hb hK.1 hP 3 0 rfl rfl (g_in rfl (by omega) (by omega)) dX4_workOut_123 ?_
                refine lv_topi (fun z_46 ez_46 => ?_)
                have kz_46 := congrArg Int32.toInt ez_46
                refine callRS (rest := [.int z_44, .ref (ua 2)]) (As := [.int z_8, .int z_46]) hx hb hml hown htb hK (g_X4_workOutOne l D E z_8 z_46 ) ok_X4_workOutOne k_759 k_760 k_6 k_761 ⟨(Nat.le_of_ble_eq_true rfl), (Nat.le_of_ble_eq_true rfl)⟩ ⟨(Nat.le_of_ble_eq_true rfl), (Nat.le_of_ble_eq_true rfl)⟩ hl.1 (Nat.le_of_ble_eq_true rfl) rfl rfl dX4_workOut_124 (hP.sub (ws' := ([] : va_W)) [] rfl) (fun r_47 hw_48 => ?_)
                refine va_iast hx hb hK.1 hP hD hS 3 0 rfl rfl (g_in rfl (by omega) (by omega)) dX4_workOut_127 (fun H locs hP hD hS => ?_)
                have hP : va_P D vwCl [(uh, .inr (4, G4 ua usize)), ((ua 0), .inl (E 0, 120, .inl uf0)), ((ua 1), .inl (E 0, 120, .inl uf1)), ((ua 2), .inl (E 0, 120, .inl (upd uf2_4 (z_44 : Int32).toNatClampNeg r_47))), (nx, .inl (E 0, 9, .inl nxf))] H := hP
                have hD := toW hP hD rfl
                refine lv_goto (tgt := 166) hx hb dX4_workOut_128 (by decide) ?_
                obtain ⟨z_50, ez_50⟩ : ∃ y : Int32, y = L3_4 + 1 := ⟨_, rfl⟩
                have jz_50 : z_50.toInt = L3_4.toInt + 1 := by rw [ez_50]; exact g_add rfl t_1 (by omega) (by omega)
                refine lv_iinc (v := z_50) (lv' := [(3, .int z_50), (5, .int z_9), (4, .int z_8), (2, .int L2_4), (0, .ref uh), (1, .ref nx)]) hx hb dX4_workOut_166 hl (k := 2) rfl (by rw [ez_50]; rfl) (by decide) rfl (fun ls hl => ?_)
                refine lv_goto (tgt := 4) hx hb dX4_workOut_169 (by decide) ?_
                exact ih_2 z_50 L2_4 (upd uf2_4 (z_44 : Int32).toNatClampNeg r_47) _ _ _ (by (try dsimp only); omega) (by (try dsimp only); omega) (by (try dsimp only); omega) hP hD hS (lv_sub hl [0, 3, 4, 5] rfl)
              ·
                refine W_top (y := .int 0) (by rw [hr_39]) ?_
                refine lv_if_eq (tgt := 131) hx hb dX4_workOut_99 (by decide) (fun c_51 => ?_) (fun c_51 => absurd (by decide) c_51)
                refine lv_iload_n hx hb dX4_workOut_131 rfl (lv_at hl 3 rfl) ?_
                refine lv_iconst (v := 2) hx hb dX4_workOut_132 (by decide) ?_
                refine lv_icmp_lt (tgt := 166) hx hb dX4_workOut_133 (by decide) (fun c_52 => absurd c_52 (by rw [g_lt rfl t_2]; omega)) (fun c_52 => ?_)
                obtain ⟨z_53, ez_53⟩ : ∃ y : Int32, y = L2_4 + (-1) := ⟨_, rfl⟩
                have jz_53 : z_53.toInt = L2_4.toInt + -1 := by rw [ez_53]; exact g_add rfl t_m1 (by omega) (by omega)
                refine lv_iinc (v := z_53) (lv' := [(2, .int z_53), (5, .int z_9), (4, .int z_8), (3, .int L3_4), (0, .ref uh), (1, .ref nx)]) hx hb dX4_workOut_136 hl (k := 3) rfl (by rw [ez_53]; rfl) (by decide) rfl (fun ls hl => ?_)
                refine lv_aload_n hx hb dX4_workOut_139 rfl (lv_at hl 4 rfl) ?_
                refine va_get (D := D) (ci := 4) (v := .ref (ua 2)) (C := RX4) (T := TX4) (N := 4) hx hb htb iX4 hown hK.1 hP 0 rfl rfl 2 (by decide) (htb _ k_143) (fun _ h9 => h9) rfl dX4_workOut_140 ?_
                refine lv_iload_n hx hb dX4_workOut_143 rfl (lv_at hl 0 rfl) ?_
                refine lv_iconst (v := 1) hx hb dX4_workOut_144 (by decide) ?_
                refine lv_isub hx hb dX4_workOut_145 ?_
                refine lv_topi (fun z_54 ez_54 => ?_)
                have jz_54 : z_54.toInt = z_53.toInt - 1 := by rw [ez_54]; exact g_sub rfl t_1 (by omega) (by omega)
                refine lv_iload hx hb dX4_workOut_146 (lv_at hl 2 rfl) ?_
                refine lv_aload_n hx hb dX4_workOut_148 rfl (lv_at hl 4 rfl) ?_
                refine va_get (D := D) (ci := 4) (v := .ref (ua 2)) (C := RX4) (T := TX4) (N := 4) hx hb htb iX4 hown hK.1 hP 0 rfl rfl 2 (by decide) (htb _ k_143) (fun _ h9 => h9) rfl dX4_workOut_149 ?_
                refine lv_iload_n hx hb dX4_workOut_152 rfl (lv_at hl 0 rfl) ?_
                refine lv_iconst (v := 1) hx hb dX4_workOut_153 (by decide) ?_
                refine lv_isub hx hb dX4_workOut_154 ?_
                refine lv_topi (fun z_55 ez_55 => ?_)
                have jz_55 : z_55.toInt = z_53.toInt - 1 := by rw [ez_55]; exact g_sub rfl t_1 (by omega) (by omega)
                refine va_iald hx hb hK.1 hP 3 0 rfl rfl (g_in rfl (by omega) (by omega)) dX4_workOut_155 ?_
                refine lv_topi (fun z_56 ez_56 => ?_)
                have kz_56 := congrArg Int32.toInt ez_56
                refine lv_aload_n hx hb dX4_workOut_156 rfl (lv_at hl 4 rfl) ?_
                refine va_get (D := D) (ci := 4) (v := .ref (ua 2)) (C := RX4) (T := TX4) (N := 4) hx hb htb iX4 hown hK.1 hP 0 rfl rfl 2 (by decide) (htb _ k_143) (fun _ h9 => h9) rfl dX4_workOut_157 ?_
                refine lv_iload_n hx hb dX4_workOut_160 rfl (lv_at hl 0 rfl) ?_
                refine va_iald hx hb hK.1 hP 3 0 rfl rfl (g_in rfl (by omega) (by omega)) dX4_workOut_161 ?_
                refine lv_topi (fun z_57 ez_57 => ?_)
                have kz_57 := congrArg Int32.toInt ez_57
                refine callRS (rest := [.int z_54, .ref (ua 2)]) (As := [.int z_8, .int z_56, .int z_57]) hx hb hml hown htb hK (g_X4_workOutTwo l D E z_8 z_56 z_57 ) ok_X4_workOutTwo k_762 k_763 k_6 k_764 ⟨(Nat.le_of_ble_eq_true rfl), (Nat.le_of_ble_eq_true rfl)⟩ ⟨(Nat.le_of_ble_eq_true rfl), (Nat.le_of_ble_eq_true rfl)⟩ hl.1 (Nat.le_of_ble_eq_true rfl) rfl rfl dX4_workOut_162 (hP.sub (ws' := ([] : va_W)) [] rfl) (fun r_58 hw_59 => ?_)
                refine va_iast hx hb hK.1 hP hD hS 3 0 rfl rfl (g_in rfl (by omega) (by omega)) dX4_workOut_165 (fun H locs hP hD hS => ?_)
                have hP : va_P D vwCl [(uh, .inr (4, G4 ua usize)), ((ua 0), .inl (E 0, 120, .inl uf0)), ((ua 1), .inl (E 0, 120, .inl uf1)), ((ua 2), .inl (E 0, 120, .inl (upd uf2_4 (z_54 : Int32).toNatClampNeg r_58))), (nx, .inl (E 0, 9, .inl nxf))] H := hP
                have hD := toW hP hD rfl
                obtain ⟨z_61, ez_61⟩ : ∃ y : Int32, y = L3_4 + 1 := ⟨_, rfl⟩
                have jz_61 : z_61.toInt = L3_4.toInt + 1 := by rw [ez_61]; exact g_add rfl t_1 (by omega) (by omega)
                refine lv_iinc (v := z_61) (lv' := [(3, .int z_61), (2, .int z_53), (5, .int z_9), (4, .int z_8), (0, .ref uh), (1, .ref nx)]) hx hb dX4_workOut_166 hl (k := 3) rfl (by rw [ez_61]; rfl) (by decide) rfl (fun ls hl => ?_)
                refine lv_goto (tgt := 4) hx hb dX4_workOut_169 (by decide) ?_
                exact ih_2 z_61 z_53 (upd uf2_4 (z_54 : Int32).toNatClampNeg r_58) _ _ _ (by (try dsimp only); omega) (by (try dsimp only); omega) (by (try dsimp only); omega) hP hD hS (lv_sub hl [0, 1, 4, 5] rfl)
            ·
              have ic_38 : L2_4.toInt < 120 := by first | exact (g_lt rfl t_120).mp c_38 | (have h := mt (g_le t_120 rfl).mpr c_38; omega)
              clear c_38
              refine lv_iload hx hb dX4_workOut_66 (lv_at hl 0 rfl) ?_
              refine lv_if_lt (tgt := 94) hx hb dX4_workOut_68 (by decide) (fun c_62 => ?_) (fun c_62 => ?_)
              ·
                have ic_62 : z_9.toInt < 0 := by first | exact (g_lt rfl t_0).mp c_62 | (have h := mt (g_le t_0 rfl).mpr c_62; omega)
                clear c_62
                refine lv_iload hx hb dX4_workOut_94 (lv_at hl 1 rfl) ?_
                refine callRS (rest := []) (As := [.int z_8]) hx hb hml hown htb hK (g_X4_isAhead l D E z_8 ) ok_X4_isAhead k_756 k_757 k_6 k_758 ⟨(Nat.le_of_ble_eq_true rfl), (Nat.le_of_ble_eq_true rfl)⟩ ⟨(Nat.le_of_ble_eq_true rfl), (Nat.le_of_ble_eq_true rfl)⟩ hl.1 (Nat.le_of_ble_eq_true rfl) rfl rfl dX4_workOut_96 (hP.sub (ws' := ([] : va_W)) [] rfl) (fun r_63 hw_64 => ?_)
                rcases hw_64 with ⟨hr_63, hw_64⟩ | ⟨hr_63, hw_64⟩
                ·
                  refine W_top (y := .int 1) (by rw [hr_63]) ?_
                  refine lv_if_eq (tgt := 131) hx hb dX4_workOut_99 (by decide) (fun c_66 => absurd c_66 (by decide)) (fun c_66 => ?_)
                  refine lv_iload_n hx hb dX4_workOut_102 rfl (lv_at hl 3 rfl) ?_
                  refine lv_iconst (v := 1) hx hb dX4_workOut_103 (by decide) ?_
                  refine lv_icmp_lt (tgt := 131) hx hb dX4_workOut_104 (by decide) (fun c_67 => ?_) (fun c_67 => ?_)
                  ·
                    have ic_67 : L2_4.toInt < 1 := by first | exact (g_lt rfl t_1).mp c_67 | (have h := mt (g_le t_1 rfl).mpr c_67; omega)
                    clear c_67
                    refine lv_iload_n hx hb dX4_workOut_131 rfl (lv_at hl 3 rfl) ?_
                    refine lv_iconst (v := 2) hx hb dX4_workOut_132 (by decide) ?_
                    refine lv_icmp_lt (tgt := 166) hx hb dX4_workOut_133 (by decide) (fun c_68 => ?_) (fun c_68 => absurd (by rw [g_lt rfl t_2]; omega) c_68)
                    obtain ⟨z_69, ez_69⟩ : ∃ y : Int32, y = L3_4 + 1 := ⟨_, rfl⟩
                    have jz_69 : z_69.toInt = L3_4.toInt + 1 := by rw [ez_69]; exact g_add rfl t_1 (by omega) (by omega)
                    refine lv_iinc (v := z_69) (lv' := [(3, .int z_69), (5, .int z_9), (4, .int z_8), (2, .int L2_4), (0, .ref uh), (1, .ref nx)]) hx hb dX4_workOut_166 hl (k := 2) rfl (by rw [ez_69]; rfl) (by decide) rfl (fun ls hl => ?_)
                    refine lv_goto (tgt := 4) hx hb dX4_workOut_169 (by decide) ?_
                    exact ih_2 z_69 L2_4 uf2_4 _ _ _ (by (try dsimp only); omega) (by (try dsimp only); omega) (by (try dsimp only); omega) hP hD hS (lv_sub hl [0, 3, 4, 5] rfl)
                  ·
                    have ic_67 : 1 ≤ L2_4.toInt := by first | exact (g_le t_1 rfl).mp c_67 | (have h := mt (g_lt rfl t_1).mpr c_67; omega)
                    clear c_67
                    refine lv_aload_n hx hb dX4_workOut_107 rfl (lv_at hl 4 rfl) ?_
                    refine va_get (D := D) (ci := 4) (v := .ref (ua 2)) (C := RX4) (T := TX4) (N := 4) hx hb htb iX4 hown hK.1 hP 0 rfl rfl 2 (by decide) (htb _ k_143) (fun _ h9 => h9) rfl dX4_workOut_108 ?_
                    refine lv_iload_n hx hb dX4_workOut_111 rfl (lv_at hl 3 rfl) ?_
                    refine lv_iconst (v := 1) hx hb dX4_workOut_112 (by decide) ?_
                    refine lv_isub hx hb dX4_workOut_113 ?_
                    refine lv_topi (fun z_70 ez_70 => ?_)
                    have jz_70 : z_70.toInt = L2_4.toInt - 1 := by rw [ez_70]; exact g_sub rfl t_1 (by omega) (by omega)
                    refine lv_iload hx hb dX4_workOut_114 (lv_at hl 1 rfl) ?_
                    refine lv_aload_n hx hb dX4_workOut_116 rfl (lv_at hl 4 rfl) ?_
                    refine va_get (D := D) (ci := 4) (v := .ref (ua 2)) (C := RX4) (T := TX4) (N := 4) hx hb htb iX4 hown hK.1 hP 0 rfl rfl 2 (by decide) (htb _ k_143) (fun _ h9 => h9) rfl dX4_workOut_117 ?_
                    refine lv_iload_n hx hb dX4_workOut_120 rfl (lv_at hl 3 rfl) ?_
                    refine lv_iconst (v := 1) hx hb dX4_workOut_121 (by decide) ?_
                    refine lv_isub hx hb dX4_workOut_122 ?_
                    refine lv_topi (fun z_71 ez_71 => ?_)
                    have jz_71 : z_71.toInt = L2_4.toInt - 1 := by rw [ez_71]; exact g_sub rfl t_1 (by omega) (by omega)
                    refine va_iald hx hb hK.1 hP 3 0 rfl rfl (g_in rfl (by omega) (by omega)) dX4_workOut_123 ?_
                    refine lv_topi (fun z_72 ez_72 => ?_)
                    have kz_72 := congrArg Int32.toInt ez_72
                    refine callRS (rest := [.int z_70, .ref (ua 2)]) (As := [.int z_8, .int z_72]) hx hb hml hown htb hK (g_X4_workOutOne l D E z_8 z_72 ) ok_X4_workOutOne k_759 k_760 k_6 k_761 ⟨(Nat.le_of_ble_eq_true rfl), (Nat.le_of_ble_eq_true rfl)⟩ ⟨(Nat.le_of_ble_eq_true rfl), (Nat.le_of_ble_eq_true rfl)⟩ hl.1 (Nat.le_of_ble_eq_true rfl) rfl rfl dX4_workOut_124 (hP.sub (ws' := ([] : va_W)) [] rfl) (fun r_73 hw_74 => ?_)
                    refine va_iast hx hb hK.1 hP hD hS 3 0 rfl rfl (g_in rfl (by omega) (by omega)) dX4_workOut_127 (fun H locs hP hD hS => ?_)
                    have hP : va_P D vwCl [(uh, .inr (4, G4 ua usize)), ((ua 0), .inl (E 0, 120, .inl uf0)), ((ua 1), .inl (E 0, 120, .inl uf1)), ((ua 2), .inl (E 0, 120, .inl (upd uf2_4 (z_70 : Int32).toNatClampNeg r_73))), (nx, .inl (E 0, 9, .inl nxf))] H := hP
                    have hD := toW hP hD rfl
                    refine lv_goto (tgt := 166) hx hb dX4_workOut_128 (by decide) ?_
                    obtain ⟨z_76, ez_76⟩ : ∃ y : Int32, y = L3_4 + 1 := ⟨_, rfl⟩
                    have jz_76 : z_76.toInt = L3_4.toInt + 1 := by rw [ez_76]; exact g_add rfl t_1 (by omega) (by omega)
                    refine lv_iinc (v := z_76) (lv' := [(3, .int z_76), (5, .int z_9), (4, .int z_8), (2, .int L2_4), (0, .ref uh), (1, .ref nx)]) hx hb dX4_workOut_166 hl (k := 2) rfl (by rw [ez_76]; rfl) (by decide) rfl (fun ls hl => ?_)
                    refine lv_goto (tgt := 4) hx hb dX4_workOut_169 (by decide) ?_
                    exact ih_2 z_76 L2_4 (upd uf2_4 (z_70 : Int32).toNatClampNeg r_73) _ _ _ (by (try dsimp only); omega) (by (try dsimp only); omega) (by (try dsimp only); omega) hP hD hS (lv_sub hl [0, 3, 4, 5] rfl)
                ·
                  refine W_top (y := .int 0) (by rw [hr_63]) ?_
                  refine lv_if_eq (tgt := 131) hx hb dX4_workOut_99 (by decide) (fun c_77 => ?_) (fun c_77 => absurd (by decide) c_77)
                  refine lv_iload_n hx hb dX4_workOut_131 rfl (lv_at hl 3 rfl) ?_
                  refine lv_iconst (v := 2) hx hb dX4_workOut_132 (by decide) ?_
                  refine lv_icmp_lt (tgt := 166) hx hb dX4_workOut_133 (by decide) (fun c_78 => ?_) (fun c_78 => ?_)
                  ·
                    have ic_78 : L2_4.toInt < 2 := by first | exact (g_lt rfl t_2).mp c_78 | (have h := mt (g_le t_2 rfl).mpr c_78; omega)
                    clear c_78
                    obtain ⟨z_79, ez_79⟩ : ∃ y : Int32, y = L3_4 + 1 := ⟨_, rfl⟩
                    have jz_79 : z_79.toInt = L3_4.toInt + 1 := by rw [ez_79]; exact g_add rfl t_1 (by omega) (by omega)
                    refine lv_iinc (v := z_79) (lv' := [(3, .int z_79), (5, .int z_9), (4, .int z_8), (2, .int L2_4), (0, .ref uh), (1, .ref nx)]) hx hb dX4_workOut_166 hl (k := 2) rfl (by rw [ez_79]; rfl) (by decide) rfl (fun ls hl => ?_)
                    refine lv_goto (tgt := 4) hx hb dX4_workOut_169 (by decide) ?_
                    exact ih_2 z_79 L2_4 uf2_4 _ _ _ (by (try dsimp only); omega) (by (try dsimp only); omega) (by (try dsimp only); omega) hP hD hS (lv_sub hl [0, 3, 4, 5] rfl)
                  ·
                    have ic_78 : 2 ≤ L2_4.toInt := by first | exact (g_le t_2 rfl).mp c_78 | (have h := mt (g_lt rfl t_2).mpr c_78; omega)
                    clear c_78
                    obtain ⟨z_80, ez_80⟩ : ∃ y : Int32, y = L2_4 + (-1) := ⟨_, rfl⟩
                    have jz_80 : z_80.toInt = L2_4.toInt + -1 := by rw [ez_80]; exact g_add rfl t_m1 (by omega) (by omega)
                    refine lv_iinc (v := z_80) (lv' := [(2, .int z_80), (5, .int z_9), (4, .int z_8), (3, .int L3_4), (0, .ref uh), (1, .ref nx)]) hx hb dX4_workOut_136 hl (k := 3) rfl (by rw [ez_80]; rfl) (by decide) rfl (fun ls hl => ?_)
                    refine lv_aload_n hx hb dX4_workOut_139 rfl (lv_at hl 4 rfl) ?_
                    refine va_get (D := D) (ci := 4) (v := .ref (ua 2)) (C := RX4) (T := TX4) (N := 4) hx hb htb iX4 hown hK.1 hP 0 rfl rfl 2 (by decide) (htb _ k_143) (fun _ h9 => h9) rfl dX4_workOut_140 ?_
                    refine lv_iload_n hx hb dX4_workOut_143 rfl (lv_at hl 0 rfl) ?_
                    refine lv_iconst (v := 1) hx hb dX4_workOut_144 (by decide) ?_
                    refine lv_isub hx hb dX4_workOut_145 ?_
                    refine lv_topi (fun z_81 ez_81 => ?_)
                    have jz_81 : z_81.toInt = z_80.toInt - 1 := by rw [ez_81]; exact g_sub rfl t_1 (by omega) (by omega)
                    refine lv_iload hx hb dX4_workOut_146 (lv_at hl 2 rfl) ?_
                    refine lv_aload_n hx hb dX4_workOut_148 rfl (lv_at hl 4 rfl) ?_
                    refine va_get (D := D) (ci := 4) (v := .ref (ua 2)) (C := RX4) (T := TX4) (N := 4) hx hb htb iX4 hown hK.1 hP 0 rfl rfl 2 (by decide) (htb _ k_143) (fun _ h9 => h9) rfl dX4_workOut_149 ?_
                    refine lv_iload_n hx hb dX4_workOut_152 rfl (lv_at hl 0 rfl) ?_
                    refine lv_iconst (v := 1) hx hb dX4_workOut_153 (by decide) ?_
                    refine lv_isub hx hb dX4_workOut_154 ?_
                    refine lv_topi (fun z_82 ez_82 => ?_)
                    have jz_82 : z_82.toInt = z_80.toInt - 1 := by rw [ez_82]; exact g_sub rfl t_1 (by omega) (by omega)
                    refine va_iald hx hb hK.1 hP 3 0 rfl rfl (g_in rfl (by omega) (by omega)) dX4_workOut_155 ?_
                    refine lv_topi (fun z_83 ez_83 => ?_)
                    have kz_83 := congrArg Int32.toInt ez_83
                    refine lv_aload_n hx hb dX4_workOut_156 rfl (lv_at hl 4 rfl) ?_
                    refine va_get (D := D) (ci := 4) (v := .ref (ua 2)) (C := RX4) (T := TX4) (N := 4) hx hb htb iX4 hown hK.1 hP 0 rfl rfl 2 (by decide) (htb _ k_143) (fun _ h9 => h9) rfl dX4_workOut_157 ?_
                    refine lv_iload_n hx hb dX4_workOut_160 rfl (lv_at hl 0 rfl) ?_
                    refine va_iald hx hb hK.1 hP 3 0 rfl rfl (g_in rfl (by omega) (by omega)) dX4_workOut_161 ?_
                    refine lv_topi (fun z_84 ez_84 => ?_)
                    have kz_84 := congrArg Int32.toInt ez_84
                    refine callRS (rest := [.int z_81, .ref (ua 2)]) (As := [.int z_8, .int z_83, .int z_84]) hx hb hml hown htb hK (g_X4_workOutTwo l D E z_8 z_83 z_84 ) ok_X4_workOutTwo k_762 k_763 k_6 k_764 ⟨(Nat.le_of_ble_eq_true rfl), (Nat.le_of_ble_eq_true rfl)⟩ ⟨(Nat.le_of_ble_eq_true rfl), (Nat.le_of_ble_eq_true rfl)⟩ hl.1 (Nat.le_of_ble_eq_true rfl) rfl rfl dX4_workOut_162 (hP.sub (ws' := ([] : va_W)) [] rfl) (fun r_85 hw_86 => ?_)
                    refine va_iast hx hb hK.1 hP hD hS 3 0 rfl rfl (g_in rfl (by omega) (by omega)) dX4_workOut_165 (fun H locs hP hD hS => ?_)
                    have hP : va_P D vwCl [(uh, .inr (4, G4 ua usize)), ((ua 0), .inl (E 0, 120, .inl uf0)), ((ua 1), .inl (E 0, 120, .inl uf1)), ((ua 2), .inl (E 0, 120, .inl (upd uf2_4 (z_81 : Int32).toNatClampNeg r_85))), (nx, .inl (E 0, 9, .inl nxf))] H := hP
                    have hD := toW hP hD rfl
                    obtain ⟨z_88, ez_88⟩ : ∃ y : Int32, y = L3_4 + 1 := ⟨_, rfl⟩
                    have jz_88 : z_88.toInt = L3_4.toInt + 1 := by rw [ez_88]; exact g_add rfl t_1 (by omega) (by omega)
                    refine lv_iinc (v := z_88) (lv' := [(3, .int z_88), (2, .int z_80), (5, .int z_9), (4, .int z_8), (0, .ref uh), (1, .ref nx)]) hx hb dX4_workOut_166 hl (k := 3) rfl (by rw [ez_88]; rfl) (by decide) rfl (fun ls hl => ?_)
                    refine lv_goto (tgt := 4) hx hb dX4_workOut_169 (by decide) ?_
                    exact ih_2 z_88 z_80 (upd uf2_4 (z_81 : Int32).toNatClampNeg r_85) _ _ _ (by (try dsimp only); omega) (by (try dsimp only); omega) (by (try dsimp only); omega) hP hD hS (lv_sub hl [0, 1, 4, 5] rfl)
              ·
                have ic_62 : 0 ≤ z_9.toInt := by first | exact (g_le t_0 rfl).mp c_62 | (have h := mt (g_lt rfl t_0).mpr c_62; omega)
                clear c_62
                refine lv_iload hx hb dX4_workOut_71 (lv_at hl 0 rfl) ?_
                refine lv_aload_n hx hb dX4_workOut_73 rfl (lv_at hl 5 rfl) ?_
                refine va_alen hx hb hK.1 hP 4 0 rfl rfl (v := 9) (show Int32.ofNat 9 = 9 by decide) dX4_workOut_74 ?_
                refine lv_icmp_ge (tgt := 94) hx hb dX4_workOut_75 (by decide) (fun c_89 => ?_) (fun c_89 => ?_)
                ·
                  have ic_89 : 9 ≤ z_9.toInt := by first | exact (g_le t_9 rfl).mp c_89 | (have h := mt (g_lt rfl t_9).mpr c_89; omega)
                  clear c_89
                  refine lv_iload hx hb dX4_workOut_94 (lv_at hl 1 rfl) ?_
                  refine callRS (rest := []) (As := [.int z_8]) hx hb hml hown htb hK (g_X4_isAhead l D E z_8 ) ok_X4_isAhead k_756 k_757 k_6 k_758 ⟨(Nat.le_of_ble_eq_true rfl), (Nat.le_of_ble_eq_true rfl)⟩ ⟨(Nat.le_of_ble_eq_true rfl), (Nat.le_of_ble_eq_true rfl)⟩ hl.1 (Nat.le_of_ble_eq_true rfl) rfl rfl dX4_workOut_96 (hP.sub (ws' := ([] : va_W)) [] rfl) (fun r_90 hw_91 => ?_)
                  rcases hw_91 with ⟨hr_90, hw_91⟩ | ⟨hr_90, hw_91⟩
                  ·
                    refine W_top (y := .int 1) (by rw [hr_90]) ?_
                    refine lv_if_eq (tgt := 131) hx hb dX4_workOut_99 (by decide) (fun c_93 => absurd c_93 (by decide)) (fun c_93 => ?_)
                    refine lv_iload_n hx hb dX4_workOut_102 rfl (lv_at hl 3 rfl) ?_
                    refine lv_iconst (v := 1) hx hb dX4_workOut_103 (by decide) ?_
                    refine lv_icmp_lt (tgt := 131) hx hb dX4_workOut_104 (by decide) (fun c_94 => ?_) (fun c_94 => ?_)
                    ·
                      have ic_94 : L2_4.toInt < 1 := by first | exact (g_lt rfl t_1).mp c_94 | (have h := mt (g_le t_1 rfl).mpr c_94; omega)
                      clear c_94
                      refine lv_iload_n hx hb dX4_workOut_131 rfl (lv_at hl 3 rfl) ?_
                      refine lv_iconst (v := 2) hx hb dX4_workOut_132 (by decide) ?_
                      refine lv_icmp_lt (tgt := 166) hx hb dX4_workOut_133 (by decide) (fun c_95 => ?_) (fun c_95 => absurd (by rw [g_lt rfl t_2]; omega) c_95)
                      obtain ⟨z_96, ez_96⟩ : ∃ y : Int32, y = L3_4 + 1 := ⟨_, rfl⟩
                      have jz_96 : z_96.toInt = L3_4.toInt + 1 := by rw [ez_96]; exact g_add rfl t_1 (by omega) (by omega)
                      refine lv_iinc (v := z_96) (lv' := [(3, .int z_96), (5, .int z_9), (4, .int z_8), (2, .int L2_4), (0, .ref uh), (1, .ref nx)]) hx hb dX4_workOut_166 hl (k := 2) rfl (by rw [ez_96]; rfl) (by decide) rfl (fun ls hl => ?_)
                      refine lv_goto (tgt := 4) hx hb dX4_workOut_169 (by decide) ?_
                      exact ih_2 z_96 L2_4 uf2_4 _ _ _ (by (try dsimp only); omega) (by (try dsimp only); omega) (by (try dsimp only); omega) hP hD hS (lv_sub hl [0, 3, 4, 5] rfl)
                    ·
                      have ic_94 : 1 ≤ L2_4.toInt := by first | exact (g_le t_1 rfl).mp c_94 | (have h := mt (g_lt rfl t_1).mpr c_94; omega)
                      clear c_94
                      refine lv_aload_n hx hb dX4_workOut_107 rfl (lv_at hl 4 rfl) ?_
                      refine va_get (D := D) (ci := 4) (v := .ref (ua 2)) (C := RX4) (T := TX4) (N := 4) hx hb htb iX4 hown hK.1 hP 0 rfl rfl 2 (by decide) (htb _ k_143) (fun _ h9 => h9) rfl dX4_workOut_108 ?_
                      refine lv_iload_n hx hb dX4_workOut_111 rfl (lv_at hl 3 rfl) ?_
                      refine lv_iconst (v := 1) hx hb dX4_workOut_112 (by decide) ?_
                      refine lv_isub hx hb dX4_workOut_113 ?_
                      refine lv_topi (fun z_97 ez_97 => ?_)
                      have jz_97 : z_97.toInt = L2_4.toInt - 1 := by rw [ez_97]; exact g_sub rfl t_1 (by omega) (by omega)
                      refine lv_iload hx hb dX4_workOut_114 (lv_at hl 1 rfl) ?_
                      refine lv_aload_n hx hb dX4_workOut_116 rfl (lv_at hl 4 rfl) ?_
                      refine va_get (D := D) (ci := 4) (v := .ref (ua 2)) (C := RX4) (T := TX4) (N := 4) hx hb htb iX4 hown hK.1 hP 0 rfl rfl 2 (by decide) (htb _ k_143) (fun _ h9 => h9) rfl dX4_workOut_117 ?_
                      refine lv_iload_n hx hb dX4_workOut_120 rfl (lv_at hl 3 rfl) ?_
                      refine lv_iconst (v := 1) hx hb dX4_workOut_121 (by decide) ?_
                      refine lv_isub hx hb dX4_workOut_122 ?_
                      refine lv_topi (fun z_98 ez_98 => ?_)
                      have jz_98 : z_98.toInt = L2_4.toInt - 1 := by rw [ez_98]; exact g_sub rfl t_1 (by omega) (by omega)
                      refine va_iald hx hb hK.1 hP 3 0 rfl rfl (g_in rfl (by omega) (by omega)) dX4_workOut_123 ?_
                      refine lv_topi (fun z_99 ez_99 => ?_)
                      have kz_99 := congrArg Int32.toInt ez_99
                      refine callRS (rest := [.int z_97, .ref (ua 2)]) (As := [.int z_8, .int z_99]) hx hb hml hown htb hK (g_X4_workOutOne l D E z_8 z_99 ) ok_X4_workOutOne k_759 k_760 k_6 k_761 ⟨(Nat.le_of_ble_eq_true rfl), (Nat.le_of_ble_eq_true rfl)⟩ ⟨(Nat.le_of_ble_eq_true rfl), (Nat.le_of_ble_eq_true rfl)⟩ hl.1 (Nat.le_of_ble_eq_true rfl) rfl rfl dX4_workOut_124 (hP.sub (ws' := ([] : va_W)) [] rfl) (fun r_100 hw_101 => ?_)
                      refine va_iast hx hb hK.1 hP hD hS 3 0 rfl rfl (g_in rfl (by omega) (by omega)) dX4_workOut_127 (fun H locs hP hD hS => ?_)
                      have hP : va_P D vwCl [(uh, .inr (4, G4 ua usize)), ((ua 0), .inl (E 0, 120, .inl uf0)), ((ua 1), .inl (E 0, 120, .inl uf1)), ((ua 2), .inl (E 0, 120, .inl (upd uf2_4 (z_97 : Int32).toNatClampNeg r_100))), (nx, .inl (E 0, 9, .inl nxf))] H := hP
                      have hD := toW hP hD rfl
                      refine lv_goto (tgt := 166) hx hb dX4_workOut_128 (by decide) ?_
                      obtain ⟨z_103, ez_103⟩ : ∃ y : Int32, y = L3_4 + 1 := ⟨_, rfl⟩
                      have jz_103 : z_103.toInt = L3_4.toInt + 1 := by rw [ez_103]; exact g_add rfl t_1 (by omega) (by omega)
                      refine lv_iinc (v := z_103) (lv' := [(3, .int z_103), (5, .int z_9), (4, .int z_8), (2, .int L2_4), (0, .ref uh), (1, .ref nx)]) hx hb dX4_workOut_166 hl (k := 2) rfl (by rw [ez_103]; rfl) (by decide) rfl (fun ls hl => ?_)
                      refine lv_goto (tgt := 4) hx hb dX4_workOut_169 (by decide) ?_
                      exact ih_2 z_103 L2_4 (upd uf2_4 (z_97 : Int32).toNatClampNeg r_100) _ _ _ (by (try dsimp only); omega) (by (try dsimp only); omega) (by (try dsimp only); omega) hP hD hS (lv_sub hl [0, 3, 4, 5] rfl)
                  ·
                    refine W_top (y := .int 0) (by rw [hr_90]) ?_
                    refine lv_if_eq (tgt := 131) hx hb dX4_workOut_99 (by decide) (fun c_104 => ?_) (fun c_104 => absurd (by decide) c_104)
                    refine lv_iload_n hx hb dX4_workOut_131 rfl (lv_at hl 3 rfl) ?_
                    refine lv_iconst (v := 2) hx hb dX4_workOut_132 (by decide) ?_
                    refine lv_icmp_lt (tgt := 166) hx hb dX4_workOut_133 (by decide) (fun c_105 => ?_) (fun c_105 => ?_)
                    ·
                      have ic_105 : L2_4.toInt < 2 := by first | exact (g_lt rfl t_2).mp c_105 | (have h := mt (g_le t_2 rfl).mpr c_105; omega)
                      clear c_105
                      obtain ⟨z_106, ez_106⟩ : ∃ y : Int32, y = L3_4 + 1 := ⟨_, rfl⟩
                      have jz_106 : z_106.toInt = L3_4.toInt + 1 := by rw [ez_106]; exact g_add rfl t_1 (by omega) (by omega)
                      refine lv_iinc (v := z_106) (lv' := [(3, .int z_106), (5, .int z_9), (4, .int z_8), (2, .int L2_4), (0, .ref uh), (1, .ref nx)]) hx hb dX4_workOut_166 hl (k := 2) rfl (by rw [ez_106]; rfl) (by decide) rfl (fun ls hl => ?_)
                      refine lv_goto (tgt := 4) hx hb dX4_workOut_169 (by decide) ?_
                      exact ih_2 z_106 L2_4 uf2_4 _ _ _ (by (try dsimp only); omega) (by (try dsimp only); omega) (by (try dsimp only); omega) hP hD hS (lv_sub hl [0, 3, 4, 5] rfl)
                    ·
                      have ic_105 : 2 ≤ L2_4.toInt := by first | exact (g_le t_2 rfl).mp c_105 | (have h := mt (g_lt rfl t_2).mpr c_105; omega)
                      clear c_105
                      obtain ⟨z_107, ez_107⟩ : ∃ y : Int32, y = L2_4 + (-1) := ⟨_, rfl⟩
                      have jz_107 : z_107.toInt = L2_4.toInt + -1 := by rw [ez_107]; exact g_add rfl t_m1 (by omega) (by omega)
                      refine lv_iinc (v := z_107) (lv' := [(2, .int z_107), (5, .int z_9), (4, .int z_8), (3, .int L3_4), (0, .ref uh), (1, .ref nx)]) hx hb dX4_workOut_136 hl (k := 3) rfl (by rw [ez_107]; rfl) (by decide) rfl (fun ls hl => ?_)
                      refine lv_aload_n hx hb dX4_workOut_139 rfl (lv_at hl 4 rfl) ?_
                      refine va_get (D := D) (ci := 4) (v := .ref (ua 2)) (C := RX4) (T := TX4) (N := 4) hx hb htb iX4 hown hK.1 hP 0 rfl rfl 2 (by decide) (htb _ k_143) (fun _ h9 => h9) rfl dX4_workOut_140 ?_
                      refine lv_iload_n hx hb dX4_workOut_143 rfl (lv_at hl 0 rfl) ?_
                      refine lv_iconst (v := 1) hx hb dX4_workOut_144 (by decide) ?_
                      refine lv_isub hx hb dX4_workOut_145 ?_
                      refine lv_topi (fun z_108 ez_108 => ?_)
                      have jz_108 : z_108.toInt = z_107.toInt - 1 := by rw [ez_108]; exact g_sub rfl t_1 (by omega) (by omega)
                      refine lv_iload hx hb dX4_workOut_146 (lv_at hl 2 rfl) ?_
                      refine lv_aload_n hx hb dX4_workOut_148 rfl (lv_at hl 4 rfl) ?_
                      refine va_get (D := D) (ci := 4) (v := .ref (ua 2)) (C := RX4) (T := TX4) (N := 4) hx hb htb iX4 hown hK.1 hP 0 rfl rfl 2 (by decide) (htb _ k_143) (fun _ h9 => h9) rfl dX4_workOut_149 ?_
                      refine lv_iload_n hx hb dX4_workOut_152 rfl (lv_at hl 0 rfl) ?_
                      refine lv_iconst (v := 1) hx hb dX4_workOut_153 (by decide) ?_
                      refine lv_isub hx hb dX4_workOut_154 ?_
                      refine lv_topi (fun z_109 ez_109 => ?_)
                      have jz_109 : z_109.toInt = z_107.toInt - 1 := by rw [ez_109]; exact g_sub rfl t_1 (by omega) (by omega)
                      refine va_iald hx hb hK.1 hP 3 0 rfl rfl (g_in rfl (by omega) (by omega)) dX4_workOut_155 ?_
                      refine lv_topi (fun z_110 ez_110 => ?_)
                      have kz_110 := congrArg Int32.toInt ez_110
                      refine lv_aload_n hx hb dX4_workOut_156 rfl (lv_at hl 4 rfl) ?_
                      refine va_get (D := D) (ci := 4) (v := .ref (ua 2)) (C := RX4) (T := TX4) (N := 4) hx hb htb iX4 hown hK.1 hP 0 rfl rfl 2 (by decide) (htb _ k_143) (fun _ h9 => h9) rfl dX4_workOut_157 ?_
                      refine lv_iload_n hx hb dX4_workOut_160 rfl (lv_at hl 0 rfl) ?_
                      refine va_iald hx hb hK.1 hP 3 0 rfl rfl (g_in rfl (by omega) (by omega)) dX4_workOut_161 ?_
                      refine lv_topi (fun z_111 ez_111 => ?_)
                      have kz_111 := congrArg Int32.toInt ez_111
                      refine callRS (rest := [.int z_108, .ref (ua 2)]) (As := [.int z_8, .int z_110, .int z_111]) hx hb hml hown htb hK (g_X4_workOutTwo l D E z_8 z_110 z_111 ) ok_X4_workOutTwo k_762 k_763 k_6 k_764 ⟨(Nat.le_of_ble_eq_true rfl), (Nat.le_of_ble_eq_true rfl)⟩ ⟨(Nat.le_of_ble_eq_true rfl), (Nat.le_of_ble_eq_true rfl)⟩ hl.1 (Nat.le_of_ble_eq_true rfl) rfl rfl dX4_workOut_162 (hP.sub (ws' := ([] : va_W)) [] rfl) (fun r_112 hw_113 => ?_)
                      refine va_iast hx hb hK.1 hP hD hS 3 0 rfl rfl (g_in rfl (by omega) (by omega)) dX4_workOut_165 (fun H locs hP hD hS => ?_)
                      have hP : va_P D vwCl [(uh, .inr (4, G4 ua usize)), ((ua 0), .inl (E 0, 120, .inl uf0)), ((ua 1), .inl (E 0, 120, .inl uf1)), ((ua 2), .inl (E 0, 120, .inl (upd uf2_4 (z_108 : Int32).toNatClampNeg r_112))), (nx, .inl (E 0, 9, .inl nxf))] H := hP
                      have hD := toW hP hD rfl
                      obtain ⟨z_115, ez_115⟩ : ∃ y : Int32, y = L3_4 + 1 := ⟨_, rfl⟩
                      have jz_115 : z_115.toInt = L3_4.toInt + 1 := by rw [ez_115]; exact g_add rfl t_1 (by omega) (by omega)
                      refine lv_iinc (v := z_115) (lv' := [(3, .int z_115), (2, .int z_107), (5, .int z_9), (4, .int z_8), (0, .ref uh), (1, .ref nx)]) hx hb dX4_workOut_166 hl (k := 3) rfl (by rw [ez_115]; rfl) (by decide) rfl (fun ls hl => ?_)
                      refine lv_goto (tgt := 4) hx hb dX4_workOut_169 (by decide) ?_
                      exact ih_2 z_115 z_107 (upd uf2_4 (z_108 : Int32).toNatClampNeg r_112) _ _ _ (by (try dsimp only); omega) (by (try dsimp only); omega) (by (try dsimp only); omega) hP hD hS (lv_sub hl [0, 1, 4, 5] rfl)
                ·
                  have ic_89 : z_9.toInt < 9 := by first | exact (g_lt rfl t_9).mp c_89 | (have h := mt (g_le t_9 rfl).mpr c_89; omega)
                  clear c_89
                  refine lv_aload_n hx hb dX4_workOut_78 rfl (lv_at hl 4 rfl) ?_
                  refine va_get (D := D) (ci := 4) (v := .ref (ua 2)) (C := RX4) (T := TX4) (N := 4) hx hb htb iX4 hown hK.1 hP 0 rfl rfl 2 (by decide) (htb _ k_143) (fun _ h9 => h9) rfl dX4_workOut_79 ?_
                  refine lv_iload_n hx hb dX4_workOut_82 rfl (lv_at hl 3 rfl) ?_
                  refine lv_aload_n hx hb dX4_workOut_83 rfl (lv_at hl 5 rfl) ?_
                  refine lv_iload hx hb dX4_workOut_84 (lv_at hl 0 rfl) ?_
                  refine va_iald hx hb hK.1 hP 4 0 rfl rfl (g_in rfl (by omega) (by omega)) dX4_workOut_86 ?_
                  refine lv_topi (fun z_116 ez_116 => ?_)
                  have kz_116 := congrArg Int32.toInt ez_116
                  refine va_iast hx hb hK.1 hP hD hS 3 0 rfl rfl (g_in rfl (by omega) (by omega)) dX4_workOut_87 (fun H locs hP hD hS => ?_)
                  have hP : va_P D vwCl [(uh, .inr (4, G4 ua usize)), ((ua 0), .inl (E 0, 120, .inl uf0)), ((ua 1), .inl (E 0, 120, .inl uf1)), ((ua 2), .inl (E 0, 120, .inl (upd uf2_4 (L2_4 : Int32).toNatClampNeg z_116))), (nx, .inl (E 0, 9, .inl nxf))] H := hP
                  have hD := toW hP hD rfl
                  obtain ⟨z_117, ez_117⟩ : ∃ y : Int32, y = L2_4 + 1 := ⟨_, rfl⟩
                  have jz_117 : z_117.toInt = L2_4.toInt + 1 := by rw [ez_117]; exact g_add rfl t_1 (by omega) (by omega)
                  refine lv_iinc (v := z_117) (lv' := [(2, .int z_117), (5, .int z_9), (4, .int z_8), (3, .int L3_4), (0, .ref uh), (1, .ref nx)]) hx hb dX4_workOut_88 hl (k := 3) rfl (by rw [ez_117]; rfl) (by decide) rfl (fun ls hl => ?_)
                  refine lv_goto (tgt := 166) hx hb dX4_workOut_91 (by decide) ?_
                  obtain ⟨z_118, ez_118⟩ : ∃ y : Int32, y = L3_4 + 1 := ⟨_, rfl⟩
                  have jz_118 : z_118.toInt = L3_4.toInt + 1 := by rw [ez_118]; exact g_add rfl t_1 (by omega) (by omega)
                  refine lv_iinc (v := z_118) (lv' := [(3, .int z_118), (2, .int z_117), (5, .int z_9), (4, .int z_8), (0, .ref uh), (1, .ref nx)]) hx hb dX4_workOut_166 hl (k := 3) rfl (by rw [ez_118]; rfl) (by decide) rfl (fun ls hl => ?_)
                  refine lv_goto (tgt := 4) hx hb dX4_workOut_169 (by decide) ?_
                  exact ih_2 z_118 z_117 (upd uf2_4 (L2_4 : Int32).toNatClampNeg z_116) _ _ _ (by (try dsimp only); omega) (by (try dsimp only); omega) (by (try dsimp only); omega) hP hD hS (lv_sub hl [0, 1, 4, 5] rfl)
        ·
          have ic_10 : z_8.toInt = 2 := (g_eq rfl t_2).mp c_10
          clear c_10
          refine lv_iload_n hx hb dX4_workOut_34 rfl (lv_at hl 3 rfl) ?_
          refine lv_bipush (v := 120) hx hb dX4_workOut_35 (by decide) ?_
          refine lv_icmp_ge (tgt := 54) hx hb dX4_workOut_37 (by decide) (fun c_119 => ?_) (fun c_119 => ?_)
          ·
            have ic_119 : 120 ≤ L2_4.toInt := by first | exact (g_le t_120 rfl).mp c_119 | (have h := mt (g_lt rfl t_120).mpr c_119; omega)
            clear c_119
            refine lv_iload hx hb dX4_workOut_54 (lv_at hl 1 rfl) ?_
            refine lv_iconst (v := 3) hx hb dX4_workOut_56 (by decide) ?_
            refine lv_icmp_ne (tgt := 94) hx hb dX4_workOut_57 (by decide) (fun c_120 => ?_) (fun c_120 => absurd c_120 (by rw [g_eq rfl t_3]; omega))
            refine lv_iload hx hb dX4_workOut_94 (lv_at hl 1 rfl) ?_
            refine callRS (rest := []) (As := [.int z_8]) hx hb hml hown htb hK (g_X4_isAhead l D E z_8 ) ok_X4_isAhead k_756 k_757 k_6 k_758 ⟨(Nat.le_of_ble_eq_true rfl), (Nat.le_of_ble_eq_true rfl)⟩ ⟨(Nat.le_of_ble_eq_true rfl), (Nat.le_of_ble_eq_true rfl)⟩ hl.1 (Nat.le_of_ble_eq_true rfl) rfl rfl dX4_workOut_96 (hP.sub (ws' := ([] : va_W)) [] rfl) (fun r_121 hw_122 => ?_)
            rcases hw_122 with ⟨hr_121, hw_122⟩ | ⟨hr_121, hw_122⟩
            ·
              refine W_top (y := .int 1) (by rw [hr_121]) ?_
              refine lv_if_eq (tgt := 131) hx hb dX4_workOut_99 (by decide) (fun c_124 => absurd c_124 (by decide)) (fun c_124 => ?_)
              refine lv_iload_n hx hb dX4_workOut_102 rfl (lv_at hl 3 rfl) ?_
              refine lv_iconst (v := 1) hx hb dX4_workOut_103 (by decide) ?_
              refine lv_icmp_lt (tgt := 131) hx hb dX4_workOut_104 (by decide) (fun c_125 => absurd c_125 (by rw [g_lt rfl t_1]; omega)) (fun c_125 => ?_)
              refine lv_aload_n hx hb dX4_workOut_107 rfl (lv_at hl 4 rfl) ?_
              refine va_get (D := D) (ci := 4) (v := .ref (ua 2)) (C := RX4) (T := TX4) (N := 4) hx hb htb iX4 hown hK.1 hP 0 rfl rfl 2 (by decide) (htb _ k_143) (fun _ h9 => h9) rfl dX4_workOut_108 ?_
              refine lv_iload_n hx hb dX4_workOut_111 rfl (lv_at hl 3 rfl) ?_
              refine lv_iconst (v := 1) hx hb dX4_workOut_112 (by decide) ?_
              refine lv_isub hx hb dX4_workOut_113 ?_
              refine lv_topi (fun z_126 ez_126 => ?_)
              have jz_126 : z_126.toInt = L2_4.toInt - 1 := by rw [ez_126]; exact g_sub rfl t_1 (by omega) (by omega)
              refine lv_iload hx hb dX4_workOut_114 (lv_at hl 1 rfl) ?_
              refine lv_aload_n hx hb dX4_workOut_116 rfl (lv_at hl 4 rfl) ?_
              refine va_get (D := D) (ci := 4) (v := .ref (ua 2)) (C := RX4) (T := TX4) (N := 4) hx hb htb iX4 hown hK.1 hP 0 rfl rfl 2 (by decide) (htb _ k_143) (fun _ h9 => h9) rfl dX4_workOut_117 ?_
              refine lv_iload_n hx hb dX4_workOut_120 rfl (lv_at hl 3 rfl) ?_
              refine lv_iconst (v := 1) hx hb dX4_workOut_121 (by decide) ?_
              refine lv_isub hx hb dX4_workOut_122 ?_
              refine lv_topi (fun z_127 ez_127 => ?_)
              have jz_127 : z_127.toInt = L2_4.toInt - 1 := by rw [ez_127]; exact g_sub rfl t_1 (by omega) (by omega)
              refine va_iald hx hb hK.1 hP 3 0 rfl rfl (g_in rfl (by omega) (by omega)) dX4_workOut_123 ?_
              refine lv_topi (fun z_128 ez_128 => ?_)
              have kz_128 := congrArg Int32.toInt ez_128
              refine callRS (rest := [.int z_126, .ref (ua 2)]) (As := [.int z_8, .int z_128]) hx hb hml hown htb hK (g_X4_workOutOne l D E z_8 z_128 ) ok_X4_workOutOne k_759 k_760 k_6 k_761 ⟨(Nat.le_of_ble_eq_true rfl), (Nat.le_of_ble_eq_true rfl)⟩ ⟨(Nat.le_of_ble_eq_true rfl), (Nat.le_of_ble_eq_true rfl)⟩ hl.1 (Nat.le_of_ble_eq_true rfl) rfl rfl dX4_workOut_124 (hP.sub (ws' := ([] : va_W)) [] rfl) (fun r_129 hw_130 => ?_)
              refine va_iast hx hb hK.1 hP hD hS 3 0 rfl rfl (g_in rfl (by omega) (by omega)) dX4_workOut_127 (fun H locs hP hD hS => ?_)
              have hP : va_P D vwCl [(uh, .inr (4, G4 ua usize)), ((ua 0), .inl (E 0, 120, .inl uf0)), ((ua 1), .inl (E 0, 120, .inl uf1)), ((ua 2), .inl (E 0, 120, .inl (upd uf2_4 (z_126 : Int32).toNatClampNeg r_129))), (nx, .inl (E 0, 9, .inl nxf))] H := hP
              have hD := toW hP hD rfl
              refine lv_goto (tgt := 166) hx hb dX4_workOut_128 (by decide) ?_
              obtain ⟨z_132, ez_132⟩ : ∃ y : Int32, y = L3_4 + 1 := ⟨_, rfl⟩
              have jz_132 : z_132.toInt = L3_4.toInt + 1 := by rw [ez_132]; exact g_add rfl t_1 (by omega) (by omega)
              refine lv_iinc (v := z_132) (lv' := [(3, .int z_132), (5, .int z_9), (4, .int z_8), (2, .int L2_4), (0, .ref uh), (1, .ref nx)]) hx hb dX4_workOut_166 hl (k := 2) rfl (by rw [ez_132]; rfl) (by decide) rfl (fun ls hl => ?_)
              refine lv_goto (tgt := 4) hx hb dX4_workOut_169 (by decide) ?_
              exact ih_2 z_132 L2_4 (upd uf2_4 (z_126 : Int32).toNatClampNeg r_129) _ _ _ (by (try dsimp only); omega) (by (try dsimp only); omega) (by (try dsimp only); omega) hP hD hS (lv_sub hl [0, 3, 4, 5] rfl)
            ·
              refine W_top (y := .int 0) (by rw [hr_121]) ?_
              refine lv_if_eq (tgt := 131) hx hb dX4_workOut_99 (by decide) (fun c_133 => ?_) (fun c_133 => absurd (by decide) c_133)
              refine lv_iload_n hx hb dX4_workOut_131 rfl (lv_at hl 3 rfl) ?_
              refine lv_iconst (v := 2) hx hb dX4_workOut_132 (by decide) ?_
              refine lv_icmp_lt (tgt := 166) hx hb dX4_workOut_133 (by decide) (fun c_134 => absurd c_134 (by rw [g_lt rfl t_2]; omega)) (fun c_134 => ?_)
              obtain ⟨z_135, ez_135⟩ : ∃ y : Int32, y = L2_4 + (-1) := ⟨_, rfl⟩
              have jz_135 : z_135.toInt = L2_4.toInt + -1 := by rw [ez_135]; exact g_add rfl t_m1 (by omega) (by omega)
              refine lv_iinc (v := z_135) (lv' := [(2, .int z_135), (5, .int z_9), (4, .int z_8), (3, .int L3_4), (0, .ref uh), (1, .ref nx)]) hx hb dX4_workOut_136 hl (k := 3) rfl (by rw [ez_135]; rfl) (by decide) rfl (fun ls hl => ?_)
              refine lv_aload_n hx hb dX4_workOut_139 rfl (lv_at hl 4 rfl) ?_
              refine va_get (D := D) (ci := 4) (v := .ref (ua 2)) (C := RX4) (T := TX4) (N := 4) hx hb htb iX4 hown hK.1 hP 0 rfl rfl 2 (by decide) (htb _ k_143) (fun _ h9 => h9) rfl dX4_workOut_140 ?_
              refine lv_iload_n hx hb dX4_workOut_143 rfl (lv_at hl 0 rfl) ?_
              refine lv_iconst (v := 1) hx hb dX4_workOut_144 (by decide) ?_
              refine lv_isub hx hb dX4_workOut_145 ?_
              refine lv_topi (fun z_136 ez_136 => ?_)
              have jz_136 : z_136.toInt = z_135.toInt - 1 := by rw [ez_136]; exact g_sub rfl t_1 (by omega) (by omega)
              refine lv_iload hx hb dX4_workOut_146 (lv_at hl 2 rfl) ?_
              refine lv_aload_n hx hb dX4_workOut_148 rfl (lv_at hl 4 rfl) ?_
              refine va_get (D := D) (ci := 4) (v := .ref (ua 2)) (C := RX4) (T := TX4) (N := 4) hx hb htb iX4 hown hK.1 hP 0 rfl rfl 2 (by decide) (htb _ k_143) (fun _ h9 => h9) rfl dX4_workOut_149 ?_
              refine lv_iload_n hx hb dX4_workOut_152 rfl (lv_at hl 0 rfl) ?_
              refine lv_iconst (v := 1) hx hb dX4_workOut_153 (by decide) ?_
              refine lv_isub hx hb dX4_workOut_154 ?_
              refine lv_topi (fun z_137 ez_137 => ?_)
              have jz_137 : z_137.toInt = z_135.toInt - 1 := by rw [ez_137]; exact g_sub rfl t_1 (by omega) (by omega)
              refine va_iald hx hb hK.1 hP 3 0 rfl rfl (g_in rfl (by omega) (by omega)) dX4_workOut_155 ?_
              refine lv_topi (fun z_138 ez_138 => ?_)
              have kz_138 := congrArg Int32.toInt ez_138
              refine lv_aload_n hx hb dX4_workOut_156 rfl (lv_at hl 4 rfl) ?_
              refine va_get (D := D) (ci := 4) (v := .ref (ua 2)) (C := RX4) (T := TX4) (N := 4) hx hb htb iX4 hown hK.1 hP 0 rfl rfl 2 (by decide) (htb _ k_143) (fun _ h9 => h9) rfl dX4_workOut_157 ?_
              refine lv_iload_n hx hb dX4_workOut_160 rfl (lv_at hl 0 rfl) ?_
              refine va_iald hx hb hK.1 hP 3 0 rfl rfl (g_in rfl (by omega) (by omega)) dX4_workOut_161 ?_
              refine lv_topi (fun z_139 ez_139 => ?_)
              have kz_139 := congrArg Int32.toInt ez_139
              refine callRS (rest := [.int z_136, .ref (ua 2)]) (As := [.int z_8, .int z_138, .int z_139]) hx hb hml hown htb hK (g_X4_workOutTwo l D E z_8 z_138 z_139 ) ok_X4_workOutTwo k_762 k_763 k_6 k_764 ⟨(Nat.le_of_ble_eq_true rfl), (Nat.le_of_ble_eq_true rfl)⟩ ⟨(Nat.le_of_ble_eq_true rfl), (Nat.le_of_ble_eq_true rfl)⟩ hl.1 (Nat.le_of_ble_eq_true rfl) rfl rfl dX4_workOut_162 (hP.sub (ws' := ([] : va_W)) [] rfl) (fun r_140 hw_141 => ?_)
              refine va_iast hx hb hK.1 hP hD hS 3 0 rfl rfl (g_in rfl (by omega) (by omega)) dX4_workOut_165 (fun H locs hP hD hS => ?_)
              have hP : va_P D vwCl [(uh, .inr (4, G4 ua usize)), ((ua 0), .inl (E 0, 120, .inl uf0)), ((ua 1), .inl (E 0, 120, .inl uf1)), ((ua 2), .inl (E 0, 120, .inl (upd uf2_4 (z_136 : Int32).toNatClampNeg r_140))), (nx, .inl (E 0, 9, .inl nxf))] H := hP
              have hD := toW hP hD rfl
              obtain ⟨z_143, ez_143⟩ : ∃ y : Int32, y = L3_4 + 1 := ⟨_, rfl⟩
              have jz_143 : z_143.toInt = L3_4.toInt + 1 := by rw [ez_143]; exact g_add rfl t_1 (by omega) (by omega)
              refine lv_iinc (v := z_143) (lv' := [(3, .int z_143), (2, .int z_135), (5, .int z_9), (4, .int z_8), (0, .ref uh), (1, .ref nx)]) hx hb dX4_workOut_166 hl (k := 3) rfl (by rw [ez_143]; rfl) (by decide) rfl (fun ls hl => ?_)
              refine lv_goto (tgt := 4) hx hb dX4_workOut_169 (by decide) ?_
              exact ih_2 z_143 z_135 (upd uf2_4 (z_136 : Int32).toNatClampNeg r_140) _ _ _ (by (try dsimp only); omega) (by (try dsimp only); omega) (by (try dsimp only); omega) hP hD hS (lv_sub hl [0, 1, 4, 5] rfl)
          ·
            have ic_119 : L2_4.toInt < 120 := by first | exact (g_lt rfl t_120).mp c_119 | (have h := mt (g_le t_120 rfl).mpr c_119; omega)
            clear c_119
            refine lv_aload_n hx hb dX4_workOut_40 rfl (lv_at hl 4 rfl) ?_
            refine va_get (D := D) (ci := 4) (v := .ref (ua 2)) (C := RX4) (T := TX4) (N := 4) hx hb htb iX4 hown hK.1 hP 0 rfl rfl 2 (by decide) (htb _ k_143) (fun _ h9 => h9) rfl dX4_workOut_41 ?_
            refine lv_iload_n hx hb dX4_workOut_44 rfl (lv_at hl 3 rfl) ?_
            refine lv_iload hx hb dX4_workOut_45 (lv_at hl 0 rfl) ?_
            refine va_iast hx hb hK.1 hP hD hS 3 0 rfl rfl (g_in rfl (by omega) (by omega)) dX4_workOut_47 (fun H locs hP hD hS => ?_)
            have hP : va_P D vwCl [(uh, .inr (4, G4 ua usize)), ((ua 0), .inl (E 0, 120, .inl uf0)), ((ua 1), .inl (E 0, 120, .inl uf1)), ((ua 2), .inl (E 0, 120, .inl (upd uf2_4 (L2_4 : Int32).toNatClampNeg z_9))), (nx, .inl (E 0, 9, .inl nxf))] H := hP
            have hD := toW hP hD rfl
            obtain ⟨z_144, ez_144⟩ : ∃ y : Int32, y = L2_4 + 1 := ⟨_, rfl⟩
            have jz_144 : z_144.toInt = L2_4.toInt + 1 := by rw [ez_144]; exact g_add rfl t_1 (by omega) (by omega)
            refine lv_iinc (v := z_144) (lv' := [(2, .int z_144), (5, .int z_9), (4, .int z_8), (3, .int L3_4), (0, .ref uh), (1, .ref nx)]) hx hb dX4_workOut_48 hl (k := 3) rfl (by rw [ez_144]; rfl) (by decide) rfl (fun ls hl => ?_)
            refine lv_goto (tgt := 166) hx hb dX4_workOut_51 (by decide) ?_
            obtain ⟨z_145, ez_145⟩ : ∃ y : Int32, y = L3_4 + 1 := ⟨_, rfl⟩
            have jz_145 : z_145.toInt = L3_4.toInt + 1 := by rw [ez_145]; exact g_add rfl t_1 (by omega) (by omega)
            refine lv_iinc (v := z_145) (lv' := [(3, .int z_145), (2, .int z_144), (5, .int z_9), (4, .int z_8), (0, .ref uh), (1, .ref nx)]) hx hb dX4_workOut_166 hl (k := 3) rfl (by rw [ez_145]; rfl) (by decide) rfl (fun ls hl => ?_)
            refine lv_goto (tgt := 4) hx hb dX4_workOut_169 (by decide) ?_
            exact ih_2 z_145 z_144 (upd uf2_4 (L2_4 : Int32).toNatClampNeg z_9) _ _ _ (by (try dsimp only); omega) (by (try dsimp only); omega) (by (try dsimp only); omega) hP hD hS (lv_sub hl [0, 1, 4, 5] rfl)
  exact loop_1 121 0 0 uf2 _ _ _ (by have h0 := t_0; (try dsimp only); omega) (by have h0 := t_0; (try dsimp only); omega) (by have h0 := t_0; (try dsimp only); omega) hP hD hS (lv_sub hl [0, 1, 2, 3] rfl)
end
