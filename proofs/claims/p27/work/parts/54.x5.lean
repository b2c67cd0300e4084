set_option maxHeartbeats 4000000 in
set_option maxRecDepth 100000 in
theorem g_X0_add (l : Launch) (D : va_G) (E : Nat → Nat) (dh : Nat) (da : Nat → Nat) (dlisted : Int32) (dshared : Int32) (dsailing : Int32) (dleastWorst : Int32) (df0 : Nat → Int32) (p0 : Int32) (sz : Nat) (hi_d : (0 ≤ dlisted.toInt ∧ dlisted.toInt ≤ 9) ∧ (0 ≤ dshared.toInt ∧ dshared.toInt ≤ 9) ∧ (0 ≤ dsailing.toInt ∧ dsailing.toInt ≤ 3)) : Met l yX0_add (wl yX0_add cX0_add 2 none) (RM 0 0 0) (mu_P D E [.ref dh, .int p0] [(dh, .inr (0, G0 da dlisted dshared dsailing dleastWorst)), ((da 0), .inl (E 0, 9, .inl df0))] sz) (va_Qv (fun (u : (Nat → Int32) × (Int32)) => (0 ≤ u.2.toInt ∧ u.2.toInt ≤ 9) ∧ ((dlisted.toInt < 9 ∧ u.2.toInt = dlisted.toInt + 1 ∧ u.1 = upd df0 (dlisted).toNatClampNeg p0) ∨ (dlisted.toInt = 9 ∧ u.2.toInt = dlisted.toInt ∧ u.1 = df0))) (mu_B D (va_A [(dh, .inr (0, G0 da dlisted dshared dsailing dleastWorst)), ((da 0), .inl (E 0, 9, .inl df0))] sz) (fun (u : (Nat → Int32) × (Int32)) => [(dh, .inr (0, G0 da u.2 dshared dsailing dleastWorst)), ((da 0), .inl (E 0, 9, .inl u.1))])) (va_A [(dh, .inr (0, G0 da dlisted dshared dsailing dleastWorst)), ((da 0), .inl (E 0, 9, .inl df0))] sz)) 0 0 (va_A [(dh, .inr (0, G0 da dlisted dshared dsailing dleastWorst)), ((da 0), .inl (E 0, 9, .inl df0))] sz) := by
  refine Met.ofW (cc := cX0_add) (maxL := 2) (ret := none) (by decide) rfl ?_
  intro p e s m args below meth c s₁ B hml hv
  obtain ⟨rfl, hsz, hP, hK, hD0⟩ := hv
  have hx := B.exec; have hb := B.bytes; have hr := B.returns
  have hts := atoms_spec (ws := wl yX0_add cX0_add 2 none) B.pre
  have htb : ∀ w ∈ tb, w.before _ s = true := fun w h => hts w (List.mem_cons_of_mem _ h)
  have hown : s.vm.findClass RX0 = some m.cls := findClass_of_methodNamed B.named
  have hlocks := B.notSynchronized
  subst hsz
  have hD := hD0.self (sz := s.heap.size)
  generalize hAe : va_A [(dh, .inr (0, G0 da dlisted dshared dsailing dleastWorst)), ((da 0), .inl (E 0, 9, .inl df0))] s.heap.size = A at hD ⊢
  have hA : ∀ q : Nat, s.heap.size ≤ q → A q := fun q h => by rw [← hAe]; exact Or.inr h
  have hS : va_S A s.heap s.heap [] := va_S.rf
  have hP : va_P D vwCl [(dh, .inr (0, G0 da dlisted dshared dsailing dleastWorst)), ((da 0), .inl (E 0, 9, .inl df0))] s.heap := hP
  have hl := lv_entry ([.ref dh, .int p0]) (n := 2) (Nat.le_of_ble_eq_true rfl)
  rw [lg_entry_eq]
  generalize (lg_sl ([.ref dh, .int p0]) ++ List.replicate (2 - (lg_sl ([.ref dh, .int p0])).length) Slot.unset).toArray = ls at hl ⊢
  have hl : lv_has ls 2 [(0, .ref dh), (1, .int p0)] := hl
  have lo_p0 := i_lo p0; have hi_p0 := i_hi p0
  refine lv_aload_n hx hb dX0_add_0 rfl (lv_at hl 0 rfl) ?_
  refine va_get (D := D) (ci := 0) (v := .int dlisted) (C := RX0) (T := TX0) (N := 9) hx hb htb iX0 hown hK.1 hP 0 rfl rfl 5 (by decide) (htb _ k_196) (fun _ h9 => h9) rfl dX0_add_1 ?_
  refine lv_bipush (v := 9) hx hb dX0_add_4 (by decide) ?_
  refine lv_icmp_ge (tgt := 29) hx hb dX0_add_6 (by decide) (fun c_1 => ?_) (fun c_1 => ?_)
  ·
    have ic_1 : 9 ≤ dlisted.toInt := by first | exact (g_le t_9 rfl).mp c_1 | (have h := mt (g_lt rfl t_9).mpr c_1; omega)
    clear c_1
    have hP9 := hP.sub (ws' := [(dh, .inr (0, G0 da dlisted dshared dsailing dleastWorst)), ((da 0), .inl (E 0, 9, .inl df0))]) [0, 1] rfl
    have hD9 := hD.sub (ws' := [(dh, .inr (0, G0 da dlisted dshared dsailing dleastWorst)), ((da 0), .inl (E 0, 9, .inl df0))]) [0, 1] (by decide) rfl
    exact W.vret hx hb hr (fun t ht hW => ⟨⟨(df0, dlisted), rfl, ⟨(by (try dsimp only); omega), (by (try dsimp only); first | exact Or.inl ⟨by omega, by omega, rfl⟩ | exact Or.inr ⟨by omega, by omega, rfl⟩)⟩, by rw [ht]; exact hP9, hD9⟩, hS.F ht⟩) hS.2.2 dX0_add_29
  ·
    have ic_1 : dlisted.toInt < 9 := by first | exact (g_lt rfl t_9).mp c_1 | (have h := mt (g_le t_9 rfl).mpr c_1; omega)
    clear c_1
    refine lv_aload_n hx hb dX0_add_9 rfl (lv_at hl 0 rfl) ?_
    refine va_get (D := D) (ci := 0) (v := .ref (da 0)) (C := RX0) (T := TX0) (N := 9) hx hb htb iX0 hown hK.1 hP 0 rfl rfl 0 (by decide) (htb _ k_190) (fun _ h9 => h9) rfl dX0_add_10 ?_
    refine lv_aload_n hx hb dX0_add_13 rfl (lv_at hl 0 rfl) ?_
    refine va_get (D := D) (ci := 0) (v := .int dlisted) (C := RX0) (T := TX0) (N := 9) hx hb htb iX0 hown hK.1 hP 0 rfl rfl 5 (by decide) (htb _ k_196) (fun _ h9 => h9) rfl dX0_add_14 ?_
    refine lv_iload_n hx hb dX0_add_17 rfl (lv_at hl 1 rfl) ?_
    refine va_iast hx hb hK.1 hP hD hS 1 0 rfl rfl (g_in rfl (by omega) (by omega)) dX0_add_18 (fun H locs hP hD hS => ?_)
    have hP : va_P D vwCl [(dh, .inr (0, G0 da dlisted dshared dsailing dleastWorst)), ((da 0), .inl (E 0, 9, .inl (upd df0 (dlisted : Int32).toNatClampNeg p0)))] H := hP
    have hD := toW hP hD rfl
    refine lv_aload_n hx hb dX0_add_19 rfl (lv_at hl 0 rfl) ?_
    refine lv_dup hx hb dX0_add_20 rfl ?_
    refine va_get (D := D) (ci := 0) (v := .int dlisted) (C := RX0) (T := TX0) (N := 9) hx hb htb iX0 hown hK.1 hP 0 rfl rfl 5 (by decide) (htb _ k_196) (fun _ h9 => h9) rfl dX0_add_21 ?_
    refine lv_iconst (v := 1) hx hb dX0_add_24 (by decide) ?_
    refine lv_iadd hx hb dX0_add_25 ?_
    refine lv_topi (fun z_2 ez_2 => ?_)
    have jz_2 : z_2.toInt = dlisted.toInt + 1 := by rw [ez_2]; exact g_add rfl t_1 (by omega) (by omega)
    refine va_put (D := D) (ci := 0) (v := .int z_2) (ty := .int) (C := RX0) (T := TX0) (N := 9) hx hb htb iX0 tyX0 tyX0_ok nmX0 hown hK.1 hP hD hS 0 rfl rfl 5 (by decide) (htb _ k_196) (fun _ h9 => h9) rfl (by decide +kernel) rfl rfl (Nat.le_of_ble_eq_true rfl) dX0_add_26 (fun H locs hP hD hS => ?_)
    have hP : va_P D vwCl [(dh, .inr (0, G0 da z_2 dshared dsailing dleastWorst)), ((da 0), .inl (E 0, 9, .inl (upd df0 (dlisted : Int32).toNatClampNeg p0)))] H := hP
    have hD := toW hP hD rfl
    have hP9 := hP.sub (ws' := [(dh, .inr (0, G0 da z_2 dshared dsailing dleastWorst)), ((da 0), .inl (E 0, 9, .inl (upd df0 (dlisted : Int32).toNatClampNeg p0)))]) [0, 1] rfl
    have hD9 := hD.sub (ws' := [(dh, .inr (0, G0 da z_2 dshared dsailing dleastWorst)), ((da 0), .inl (E 0, 9, .inl (upd df0 (dlisted : Int32).toNatClampNeg p0)))]) [0, 1] (by decide) rfl
    exact W.vret hx hb hr (fun t ht hW => ⟨⟨((upd df0 (dlisted : Int32).toNatClampNeg p0), z_2), rfl, ⟨(by (try dsimp only); omega), (by (try dsimp only); first | exact Or.inl ⟨by omega, by omega, rfl⟩ | exact Or.inr ⟨by omega, by omega, rfl⟩)⟩, by rw [ht]; exact hP9, hD9⟩, hS.F ht⟩) hS.2.2 dX0_add_29
set_option maxHeartbeats 4000000 in
set_option maxRecDepth 100000 in
theorem g_X0_secondLeast (l : Launch) (D : va_G) (E : Nat → Nat) (dh : Nat) (da : Nat → Nat) (dlisted : Int32) (dshared : Int32) (dsailing : Int32) (dleastWorst : Int32) (df0 : Nat → Int32) (df1 : Nat → Int32) (p0 : Int32) (hi_d : (0 ≤ dlisted.toInt ∧ dlisted.toInt ≤ 9) ∧ (0 ≤ dshared.toInt ∧ dshared.toInt ≤ 9) ∧ (0 ≤ dsailing.toInt ∧ dsailing.toInt ≤ 3)) : Met l yX0_secondLeast (wl yX0_secondLeast cX0_secondLeast 6 (some .int)) (RM 1 0 0) (rd_P D E [.ref dh, .int p0] [(dh, .inr (0, G0 da dlisted dshared dsailing dleastWorst)), ((da 0), .inl (E 0, 9, .inl df0)), ((da 1), .inl (E 0, 9, .inl df1))]) (rd_Q (fun r => (r = slV df0 df1 p0 (dlisted).toNatClampNeg))) 0 0 (fun _ => False) := by
  refine Met.ofW (cc := cX0_secondLeast) (maxL := 6) (ret := (some .int)) (by decide) rfl ?_
  intro p e s m args below meth c s₁ B hml hv
  obtain ⟨rfl, hP, hK⟩ := hv
  have hx := B.exec; have hb := B.bytes; have hr := B.returns
  have hts := atoms_spec (ws := wl yX0_secondLeast cX0_secondLeast 6 (some .int)) B.pre
  have htb : ∀ w ∈ tb, w.before _ s = true := fun w h => hts w (List.mem_cons_of_mem _ h)
  have hown : s.vm.findClass RX0 = some m.cls := findClass_of_methodNamed B.named
  have hlocks := B.notSynchronized
  have hP : va_P D vwCl [(dh, .inr (0, G0 da dlisted dshared dsailing dleastWorst)), ((da 0), .inl (E 0, 9, .inl df0)), ((da 1), .inl (E 0, 9, .inl df1))] s.heap := hP
  have hl := lv_entry ([.ref dh, .int p0]) (n := 6) (Nat.le_of_ble_eq_true rfl)
  rw [lg_entry_eq]
  generalize (lg_sl ([.ref dh, .int p0]) ++ List.replicate (6 - (lg_sl ([.ref dh, .int p0])).length) Slot.unset).toArray = ls at hl ⊢
  have hl : lv_has ls 6 [(0, .ref dh), (1, .int p0)] := hl
  have lo_p0 := i_lo p0; have hi_p0 := i_hi p0
  refine lv_iconst (v := 0) hx hb dX0_secondLeast_0 (by decide) ?_
  refine lv_istore_n (lv' := [(2, .int 0), (0, .ref dh), (1, .int p0)]) hx hb dX0_secondLeast_1 rfl hl (by decide) rfl (fun ls hl => ?_)
  refine lv_sipush (v := 9999) hx hb dX0_secondLeast_2 (by decide) ?_
  refine lv_istore_n (lv' := [(3, .int 9999), (2, .int 0), (0, .ref dh), (1, .int p0)]) hx hb dX0_secondLeast_5 rfl hl (by decide) rfl (fun ls hl => ?_)
  refine lv_iconst (v := 0) hx hb dX0_secondLeast_6 (by decide) ?_
  refine lv_istore (lv' := [(4, .int 0), (3, .int 9999), (2, .int 0), (0, .ref dh), (1, .int p0)]) hx hb dX0_secondLeast_7 hl (by decide) rfl (fun ls hl => ?_)
  refine lv_iconst (v := 0) hx hb dX0_secondLeast_9 (by decide) ?_
  refine lv_istore (lv' := [(5, .int 0), (4, .int 0), (3, .int 9999), (2, .int 0), (0, .ref dh), (1, .int p0)]) hx hb dX0_secondLeast_10 hl (by decide) rfl (fun ls hl => ?_)
  have loop_1 : ∀ (N_3 : Nat) (L5_12 : Int32) (L4_12 : Int32) (L3_12 : Int32) (L2_12 : Int32)  (ls : Array Slot), 9 - L5_12.toInt < (N_3 : Int) → (0 ≤ L5_12.toInt ∧ L5_12.toInt ≤ dlisted.toInt) → (((L2_12, L3_12, L4_12) : Int32 × Int32 × Int32) = slX df0 df1 p0 (L5_12).toNatClampNeg) → lv_has ls 6 [(5, .int L5_12), (4, .int L4_12), (3, .int L3_12), (2, .int L2_12), (0, .ref dh), (1, .int p0)] → W p l e (headSpec (wl yX0_secondLeast cX0_secondLeast 6 (some .int)) (RM 1 0 0)).room s m [Value.ref dh, .int p0].toArray below meth c s.heap [] 0 0 (MQ below (rd_Q (fun r => (r = slV df0 df1 p0 (dlisted).toNatClampNeg))) [Value.ref dh, .int p0].toArray s 0 0 (fun _ => False)) (F0 m 12 ls []) := by
    intro N_3
    induction N_3 with
    | zero => intro L5_12 L4_12 L3_12 L2_12  ls hm v0_12 v1_12 _; exfalso; omega
    | succ N_3 ih_2 =>
      intro L5_12 L4_12 L3_12 L2_12 ls hm v0_12 v1_12 hl
      have lo_L5_12 := i_lo L5_12; have hi_L5_12 := i_hi L5_12
      have lo_L4_12 := i_lo L4_12; have hi_L4_12 := i_hi L4_12
      have lo_L3_12 := i_lo L3_12; have hi_L3_12 := i_hi L3_12
      have lo_L2_12 := i_lo L2_12; have hi_L2_12 := i_hi L2_12
      refine lv_iload hx hb dX0_secondLeast_12 (lv_at hl 0 rfl) ?_
      refine lv_aload_n hx hb dX0_secondLeast_14 rfl (lv_at hl 4 rfl) ?_
      refine va_get (D := D) (ci := 0) (v := .int dlisted) (C := RX0) (T := TX0) (N := 9) hx hb htb iX0 hown hK.1 hP 0 rfl rfl 5 (by decide) (htb _ k_196) (fun _ h9 => h9) rfl dX0_secondLeast_15 ?_
      refine lv_icmp_ge (tgt := 81) hx hb dX0_secondLeast_18 (by decide) (fun c_4 => ?_) (fun c_4 => ?_)
      ·
        have ic_4 : dlisted.toInt ≤ L5_12.toInt := by first | exact (g_le rfl rfl).mp c_4 | (have h := mt (g_lt rfl rfl).mpr c_4; omega)
        clear c_4
        refine lv_iload_n hx hb dX0_secondLeast_81 rfl (lv_at hl 3 rfl) ?_
        refine lv_iload_n hx hb dX0_secondLeast_82 rfl (lv_at hl 2 rfl) ?_
        refine lv_isub hx hb dX0_secondLeast_83 ?_
        refine lv_topi (fun z_5 ez_5 => ?_)
        refine lv_iload hx hb dX0_secondLeast_84 (lv_at hl 1 rfl) ?_
        refine lv_isub hx hb dX0_secondLeast_86 ?_
        refine lv_topi (fun z_6 ez_6 => ?_)
        exact W.iret (v := z_6) hx hb hr (fun t ht hW => ⟨z_6, rfl, (by unfold slV; rw [show (dlisted : Int32).toNatClampNeg = (L5_12).toNatClampNeg from clampE (by omega) (by omega), ← v1_12]; subst_vars; rfl), ht⟩) (fun q h => by cases h) dX0_secondLeast_87
      ·
        have ic_4 : L5_12.toInt < dlisted.toInt := by first | exact (g_lt rfl rfl).mp c_4 | (have h := mt (g_le rfl rfl).mpr c_4; omega)
        clear c_4
        refine lv_iload hx hb dX0_secondLeast_21 (lv_at hl 0 rfl) ?_
        refine lv_bipush (v := 9) hx hb dX0_secondLeast_23 (by decide) ?_
        refine lv_icmp_ge (tgt := 81) hx hb dX0_secondLeast_25 (by decide) (fun c_7 => absurd c_7 (by rw [g_le t_9 rfl]; omega)) (fun c_7 => ?_)
        refine lv_aload_n hx hb dX0_secondLeast_28 rfl (lv_at hl 4 rfl) ?_
        refine va_get (D := D) (ci := 0) (v := .ref (da 1)) (C := RX0) (T := TX0) (N := 9) hx hb htb iX0 hown hK.1 hP 0 rfl rfl 1 (by decide) (htb _ k_191) (fun _ h9 => h9) rfl dX0_secondLeast_29 ?_
        refine lv_iload hx hb dX0_secondLeast_32 (lv_at hl 0 rfl) ?_
        refine va_iald hx hb hK.1 hP 2 0 rfl rfl (g_in rfl (by omega) (by omega)) dX0_secondLeast_34 ?_
        refine lv_topi (fun z_8 ez_8 => ?_)
        have kz_8 := congrArg Int32.toInt ez_8
        refine lv_iload_n hx hb dX0_secondLeast_35 rfl (lv_at hl 5 rfl) ?_
        refine lv_icmp_ne (tgt := 75) hx hb dX0_secondLeast_36 (by decide) (fun c_9 => ?_) (fun c_9 => ?_)
        ·
          have ic_9 : z_8.toInt ≠ p0.toInt := mt (g_eq rfl rfl).mpr c_9
          clear c_9
          obtain ⟨z_10, ez_10⟩ : ∃ y : Int32, y = L5_12 + 1 := ⟨_, rfl⟩
          have jz_10 : z_10.toInt = L5_12.toInt + 1 := by rw [ez_10]; exact g_add rfl t_1 (by omega) (by omega)
          refine lv_iinc (v := z_10) (lv' := [(5, .int z_10), (4, .int L4_12), (3, .int L3_12), (2, .int L2_12), (0, .ref dh), (1, .int p0)]) hx hb dX0_secondLeast_75 hl (k := 0) rfl (by rw [ez_10]; rfl) (by decide) rfl (fun ls hl => ?_)
          refine lv_goto (tgt := 12) hx hb dX0_secondLeast_78 (by decide) ?_
          exact ih_2 z_10 L4_12 L3_12 L2_12 _ (by (try dsimp only); omega) (by (try dsimp only); omega) (by rw [clampS (by omega) jz_10, slX_s, if_neg (show ¬ df1 (L5_12).toNatClampNeg = p0 from by rw [← ez_8]; exact fun h9 => absurd (i_eq.mp h9) (by omega))]; exact v1_12) (lv_sub hl [0, 1, 2, 3, 4, 5] rfl)
        ·
          have ic_9 : z_8.toInt = p0.toInt := (g_eq rfl rfl).mp c_9
          clear c_9
          refine lv_iload_n hx hb dX0_secondLeast_39 rfl (lv_at hl 3 rfl) ?_
          refine lv_aload_n hx hb dX0_secondLeast_40 rfl (lv_at hl 4 rfl) ?_
          refine va_get (D := D) (ci := 0) (v := .ref (da 0)) (C := RX0) (T := TX0) (N := 9) hx hb htb iX0 hown hK.1 hP 0 rfl rfl 0 (by decide) (htb _ k_190) (fun _ h9 => h9) rfl dX0_secondLeast_41 ?_
          refine lv_iload hx hb dX0_secondLeast_44 (lv_at hl 0 rfl) ?_
          refine va_iald hx hb hK.1 hP 1 0 rfl rfl (g_in rfl (by omega) (by omega)) dX0_secondLeast_46 ?_
          refine lv_topi (fun z_11 ez_11 => ?_)
          have kz_11 := congrArg Int32.toInt ez_11
          refine lv_iadd hx hb dX0_secondLeast_47 ?_
          refine lv_topi (fun z_12 ez_12 => ?_)
          refine lv_istore_n (lv' := [(2, .int z_12), (5, .int L5_12), (4, .int L4_12), (3, .int L3_12), (0, .ref dh), (1, .int p0)]) hx hb dX0_secondLeast_48 rfl hl (by decide) rfl (fun ls hl => ?_)
          refine lv_iload_n hx hb dX0_secondLeast_49 rfl (lv_at hl 3 rfl) ?_
          refine lv_aload_n hx hb dX0_secondLeast_50 rfl (lv_at hl 4 rfl) ?_
          refine va_get (D := D) (ci := 0) (v := .ref (da 0)) (C := RX0) (T := TX0) (N := 9) hx hb htb iX0 hown hK.1 hP 0 rfl rfl 0 (by decide) (htb _ k_190) (fun _ h9 => h9) rfl dX0_secondLeast_51 ?_
          refine lv_iload hx hb dX0_secondLeast_54 (lv_at hl 1 rfl) ?_
          refine va_iald hx hb hK.1 hP 1 0 rfl rfl (g_in rfl (by omega) (by omega)) dX0_secondLeast_56 ?_
          refine lv_topi (fun z_13 ez_13 => ?_)
          have kz_13 := congrArg Int32.toInt ez_13
          refine va_mmin hx hb (by rw [hml, hl.1]) hown (htb _ k_902) (htb _ k_725) (htb _ k_11) (htb _ k_726) (Nat.le_of_ble_eq_true rfl) (Nat.le_of_ble_eq_true rfl) (Nat.le_of_ble_eq_true rfl) (Nat.le_of_ble_eq_true rfl) dX0_secondLeast_57 ?_
          refine lv_topi (fun z_14 ez_14 => ?_)
          have jz_14 := g_min rfl rfl ez_14
          refine lv_istore_n (lv' := [(3, .int z_14), (2, .int z_12), (5, .int L5_12), (4, .int L4_12), (0, .ref dh), (1, .int p0)]) hx hb dX0_secondLeast_60 rfl hl (by decide) rfl (fun ls hl => ?_)
          refine lv_iload hx hb dX0_secondLeast_61 (lv_at hl 3 rfl) ?_
          refine lv_aload_n hx hb dX0_secondLeast_63 rfl (lv_at hl 4 rfl) ?_
          refine va_get (D := D) (ci := 0) (v := .ref (da 0)) (C := RX0) (T := TX0) (N := 9) hx hb htb iX0 hown hK.1 hP 0 rfl rfl 0 (by decide) (htb _ k_190) (fun _ h9 => h9) rfl dX0_secondLeast_64 ?_
          refine lv_iload hx hb dX0_secondLeast_67 (lv_at hl 2 rfl) ?_
          refine va_iald hx hb hK.1 hP 1 0 rfl rfl (g_in rfl (by omega) (by omega)) dX0_secondLeast_69 ?_
          refine lv_topi (fun z_15 ez_15 => ?_)
          have kz_15 := congrArg Int32.toInt ez_15
          refine va_mmax hx hb (by rw [hml, hl.1]) hown (htb _ k_903) (htb _ k_732) (htb _ k_11) (htb _ k_733) (Nat.le_of_ble_eq_true rfl) (Nat.le_of_ble_eq_true rfl) (Nat.le_of_ble_eq_true rfl) (Nat.le_of_ble_eq_true rfl) dX0_secondLeast_70 ?_
          refine lv_topi (fun z_16 ez_16 => ?_)
          have jz_16 := g_max rfl rfl ez_16
          refine lv_istore (lv' := [(4, .int z_16), (3, .int z_14), (2, .int z_12), (5, .int L5_12), (0, .ref dh), (1, .int p0)]) hx hb dX0_secondLeast_73 hl (by decide) rfl (fun ls hl => ?_)
          obtain ⟨z_17, ez_17⟩ : ∃ y : Int32, y = L5_12 + 1 := ⟨_, rfl⟩
          have jz_17 : z_17.toInt = L5_12.toInt + 1 := by rw [ez_17]; exact g_add rfl t_1 (by omega) (by omega)
          refine lv_iinc (v := z_17) (lv' := [(5, .int z_17), (4, .int z_16), (3, .int z_14), (2, .int z_12), (0, .ref dh), (1, .int p0)]) hx hb dX0_secondLeast_75 hl (k := 3) rfl (by rw [ez_17]; rfl) (by decide) rfl (fun ls hl => ?_)
          refine lv_goto (tgt := 12) hx hb dX0_secondLeast_78 (by decide) ?_
          exact ih_2 z_17 z_16 z_14 z_12 _ (by (try dsimp only); omega) (by (try dsimp only); omega) (by rw [clampS (by omega) jz_17, slX_s, if_pos (show df1 (L5_12).toNatClampNeg = p0 from by rw [← ez_8]; exact i_eq.mpr (by omega)), ← v1_12]; subst_vars; rfl) (lv_sub hl [0, 1, 2, 3, 4, 5] rfl)
  exact loop_1 10 0 0 9999 0 _ (by have h0 := t_0; have h1 := t_9999; (try dsimp only); omega) (by have h0 := t_0; have h1 := t_9999; (try dsimp only); omega) (by rw [clamp_0]; rfl)  (lv_sub hl [0, 1, 2, 3, 4, 5] rfl)
set_option maxHeartbeats 4000000 in
set_option maxRecDepth 100000 in
theorem g_X0_keepIfBetter (l : Launch) (D : va_G) (E : Nat → Nat) (dh : Nat) (da : Nat → Nat) (dlisted : Int32) (dshared : Int32) (dsailing : Int32) (dleastWorst : Int32) (df0 : Nat → Int32) (df1 : Nat → Int32) (df2 : Nat → Int32) (df3 : Nat → Int32) (sz : Nat) (hi_d : (0 ≤ dlisted.toInt ∧ dlisted.toInt ≤ 9) ∧ (0 ≤ dshared.toInt ∧ dshared.toInt ≤ 9) ∧ (0 ≤ dsailing.toInt ∧ dsailing.toInt ≤ 3)) : Met l yX0_keepIfBetter (wl yX0_keepIfBetter cX0_keepIfBetter 3 none) (RM 2 0 0) (mu_P D E [.ref dh] [(dh, .inr (0, G0 da dlisted dshared dsailing dleastWorst)), ((da 0), .inl (E 0, 9, .inl df0)), ((da 1), .inl (E 0, 9, .inl df1)), ((da 2), .inl (E 0, 9, .inl df2)), ((da 3), .inl (E 0, 3, .inl df3))] sz) (va_Qv (fun (u : (Nat → Int32) × (Int32)) => (((u.2, u.1) : SM) = kqX df0 df3 dlisted dsailing df1 dleastWorst df2)) (mu_B D (va_A [(dh, .inr (0, G0 da dlisted dshared dsailing dleastWorst)), ((da 0), .inl (E 0, 9, .inl df0)), ((da 1), .inl (E 0, 9, .inl df1)), ((da 2), .inl (E 0, 9, .inl df2)), ((da 3), .inl (E 0, 3, .inl df3))] sz) (fun (u : (Nat → Int32) × (Int32)) => [(dh, .inr (0, G0 da dlisted dshared dsailing u.2)), ((da 0), .inl (E 0, 9, .inl df0)), ((da 1), .inl (E 0, 9, .inl df1)), ((da 2), .inl (E 0, 9, .inl u.1)), ((da 3), .inl (E 0, 3, .inl df3))])) (va_A [(dh, .inr (0, G0 da dlisted dshared dsailing dleastWorst)), ((da 0), .inl (E 0, 9, .inl df0)), ((da 1), .inl (E 0, 9, .inl df1)), ((da 2), .inl (E 0, 9, .inl df2)), ((da 3), .inl (E 0, 3, .inl df3))] sz)) 0 0 (va_A [(dh, .inr (0, G0 da dlisted dshared dsailing dleastWorst)), ((da 0), .inl (E 0, 9, .inl df0)), ((da 1), .inl (E 0, 9, .inl df1)), ((da 2), .inl (E 0, 9, .inl df2)), ((da 3), .inl (E 0, 3, .inl df3))] sz) := by
  refine Met.ofW (cc := cX0_keepIfBetter) (maxL := 3) (ret := none) (by decide) rfl ?_
  intro p e s m args below meth c s₁ B hml hv
  obtain ⟨rfl, hsz, hP, hK, hD0⟩ := hv
  have hx := B.exec; have hb := B.bytes; have hr := B.returns
  have hts := atoms_spec (ws := wl yX0_keepIfBetter cX0_keepIfBetter 3 none) B.pre
  have htb : ∀ w ∈ tb, w.before _ s = true := fun w h => hts w (List.mem_cons_of_mem _ h)
  have hown : s.vm.findClass RX0 = some m.cls := findClass_of_methodNamed B.named
  have hlocks := B.notSynchronized
  subst hsz
  have hD := hD0.self (sz := s.heap.size)
  generalize hAe : va_A [(dh, .inr (0, G0 da dlisted dshared dsailing dleastWorst)), ((da 0), .inl (E 0, 9, .inl df0)), ((da 1), .inl (E 0, 9, .inl df1)), ((da 2), .inl (E 0, 9, .inl df2)), ((da 3), .inl (E 0, 3, .inl df3))] s.heap.size = A at hD ⊢
  have hA : ∀ q : Nat, s.heap.size ≤ q → A q := fun q h => by rw [← hAe]; exact Or.inr h
  have hS : va_S A s.heap s.heap [] := va_S.rf
  have hP : va_P D vwCl [(dh, .inr (0, G0 da dlisted dshared dsailing dleastWorst)), ((da 0), .inl (E 0, 9, .inl df0)), ((da 1), .inl (E 0, 9, .inl df1)), ((da 2), .inl (E 0, 9, .inl df2)), ((da 3), .inl (E 0, 3, .inl df3))] s.heap := hP
  have hl := lv_entry ([.ref dh]) (n := 3) (Nat.le_of_ble_eq_true rfl)
  rw [lg_entry_eq]
  generalize (lg_sl ([.ref dh]) ++ List.replicate (3 - (lg_sl ([.ref dh])).length) Slot.unset).toArray = ls at hl ⊢
  have hl : lv_has ls 3 [(0, .ref dh)] := hl
  refine lv_iconst (v := 0) hx hb dX0_keepIfBetter_0 (by decide) ?_
  refine lv_istore_n (lv' := [(1, .int 0), (0, .ref dh)]) hx hb dX0_keepIfBetter_1 rfl hl (by decide) rfl (fun ls hl => ?_)
  refine lv_iconst (v := 0) hx hb dX0_keepIfBetter_2 (by decide) ?_
  refine lv_istore_n (lv' := [(2, .int 0), (1, .int 0), (0, .ref dh)]) hx hb dX0_keepIfBetter_3 rfl hl (by decide) rfl (fun ls hl => ?_)
  have loop_1 : ∀ (N_3 : Nat) (L2_4 : Int32) (L1_4 : Int32) (H : Heap) (locs : List Loc) (ls : Array Slot), 3 - L2_4.toInt < (N_3 : Int) → (0 ≤ L2_4.toInt ∧ L2_4.toInt ≤ dsailing.toInt) → (L1_4 = kbX df0 df1 df3 (dlisted).toNatClampNeg (L2_4).toNatClampNeg) → va_P D vwCl [(dh, .inr (0, G0 da dlisted dshared dsailing dleastWorst)), ((da 0), .inl (E 0, 9, .inl df0)), ((da 1), .inl (E 0, 9, .inl df1)), ((da 2), .inl (E 0, 9, .inl df2)), ((da 3), .inl (E 0, 3, .inl df3))] H → va_D A [(dh, .inr (0, G0 da dlisted dshared dsailing dleastWorst)), ((da 0), .inl (E 0, 9, .inl df0)), ((da 1), .inl (E 0, 9, .inl df1)), ((da 2), .inl (E 0, 9, .inl df2)), ((da 3), .inl (E 0, 3, .inl df3))] → va_S A s.heap H locs → lv_has ls 3 [(2, .int L2_4), (1, .int L1_4), (0, .ref dh)] → W p l e (headSpec (wl yX0_keepIfBetter cX0_keepIfBetter 3 none) (RM 2 0 0)).room s m [Value.ref dh].toArray below meth c H locs 0 0 (MQ below (va_Qv (fun (u : (Nat → Int32) × (Int32)) => (((u.2, u.1) : SM) = kqX df0 df3 dlisted dsailing df1 dleastWorst df2)) (mu_B D A (fun (u : (Nat → Int32) × (Int32)) => [(dh, .inr (0, G0 da dlisted dshared dsailing u.2)), ((da 0), .inl (E 0, 9, .inl df0)), ((da 1), .inl (E 0, 9, .inl df1)), ((da 2), .inl (E 0, 9, .inl u.1)), ((da 3), .inl (E 0, 3, .inl df3))])) A) [Value.ref dh].toArray s 0 0 A) (F0 m 4 ls []) := by
    intro N_3
    induction N_3 with
    | zero => intro L2_4 L1_4 H locs ls hm v0_4 v1_4 _ _ _ _; exfalso; omega
    | succ N_3 ih_2 =>
      intro L2_4 L1_4 H locs ls hm v0_4 v1_4 hP hD hS hl
      have lo_L2_4 := i_lo L2_4; have hi_L2_4 := i_hi L2_4
      have lo_L1_4 := i_lo L1_4; have hi_L1_4 := i_hi L1_4
      refine lv_iload_n hx hb dX0_keepIfBetter_4 rfl (lv_at hl 0 rfl) ?_
      refine lv_aload_n hx hb dX0_keepIfBetter_5 rfl (lv_at hl 2 rfl) ?_
      refine va_get (D := D) (ci := 0) (v := .int dsailing) (C := RX0) (T := TX0) (N := 9) hx hb htb iX0 hown hK.1 hP 0 rfl rfl 7 (by decide) (htb _ k_200) (fun _ h9 => h9) rfl dX0_keepIfBetter_6 ?_
      refine lv_icmp_ge (tgt := 44) hx hb dX0_keepIfBetter_9 (by decide) (fun c_4 => ?_) (fun c_4 => ?_)
      ·
        have ic_4 : dsailing.toInt ≤ L2_4.toInt := by first | exact (g_le rfl rfl).mp c_4 | (have h := mt (g_lt rfl rfl).mpr c_4; omega)
        clear c_4
        refine lv_iload_n hx hb dX0_keepIfBetter_44 rfl (lv_at hl 1 rfl) ?_
        refine lv_aload_n hx hb dX0_keepIfBetter_45 rfl (lv_at hl 2 rfl) ?_
        refine va_get (D := D) (ci := 0) (v := .int dleastWorst) (C := RX0) (T := TX0) (N := 9) hx hb htb iX0 hown hK.1 hP 0 rfl rfl 8 (by decide) (htb _ k_201) (fun _ h9 => h9) rfl dX0_keepIfBetter_46 ?_
        refine lv_icmp_ge (tgt := 83) hx hb dX0_keepIfBetter_49 (by decide) (fun c_5 => ?_) (fun c_5 => ?_)
        ·
          have ic_5 : dleastWorst.toInt ≤ L1_4.toInt := by first | exact (g_le rfl rfl).mp c_5 | (have h := mt (g_lt rfl rfl).mpr c_5; omega)
          clear c_5
          have hP9 := hP.sub (ws' := [(dh, .inr (0, G0 da dlisted dshared dsailing dleastWorst)), ((da 0), .inl (E 0, 9, .inl df0)), ((da 1), .inl (E 0, 9, .inl df1)), ((da 2), .inl (E 0, 9, .inl df2)), ((da 3), .inl (E 0, 3, .inl df3))]) [0, 1, 2, 3, 4] rfl
          have hD9 := hD.sub (ws' := [(dh, .inr (0, G0 da dlisted dshared dsailing dleastWorst)), ((da 0), .inl (E 0, 9, .inl df0)), ((da 1), .inl (E 0, 9, .inl df1)), ((da 2), .inl (E 0, 9, .inl df2)), ((da 3), .inl (E 0, 3, .inl df3))]) [0, 1, 2, 3, 4] (by decide) rfl
          exact W.vret hx hb hr (fun t ht hW => ⟨⟨(df2, dleastWorst), rfl, (by (try dsimp only); unfold kqX; rw [show (dsailing : Int32).toNatClampNeg = (L2_4).toNatClampNeg from clampE (by omega) (by omega), ← v1_4, if_neg (by omega)]), by rw [ht]; exact hP9, hD9⟩, hS.F ht⟩) hS.2.2 dX0_keepIfBetter_83
        ·
          have ic_5 : L1_4.toInt < dleastWorst.toInt := by first | exact (g_lt rfl rfl).mp c_5 | (have h := mt (g_le rfl rfl).mpr c_5; omega)
          clear c_5
          refine lv_aload_n hx hb dX0_keepIfBetter_52 rfl (lv_at hl 2 rfl) ?_
          refine lv_iload_n hx hb dX0_keepIfBetter_53 rfl (lv_at hl 1 rfl) ?_
          refine va_put (D := D) (ci := 0) (v := .int L1_4) (ty := .int) (C := RX0) (T := TX0) (N := 9) hx hb htb iX0 tyX0 tyX0_ok nmX0 hown hK.1 hP hD hS 0 rfl rfl 8 (by decide) (htb _ k_201) (fun _ h9 => h9) rfl (by decide +kernel) rfl rfl (Nat.le_of_ble_eq_true rfl) dX0_keepIfBetter_54 (fun H locs hP hD hS => ?_)
          have hP : va_P D vwCl [(dh, .inr (0, G0 da dlisted dshared dsailing L1_4)), ((da 0), .inl (E 0, 9, .inl df0)), ((da 1), .inl (E 0, 9, .inl df1)), ((da 2), .inl (E 0, 9, .inl df2)), ((da 3), .inl (E 0, 3, .inl df3))] H := hP
          have hD := toW hP hD rfl
          refine lv_iconst (v := 0) hx hb dX0_keepIfBetter_57 (by decide) ?_
          refine lv_istore_n (lv' := [(2, .int 0), (1, .int L1_4), (0, .ref dh)]) hx hb dX0_keepIfBetter_58 rfl hl (by decide) rfl (fun ls hl => ?_)
          have loop_6 : ∀ (N_8 : Nat) (L2_59 : Int32) (df2_59 : Nat → Int32) (H : Heap) (locs : List Loc) (ls : Array Slot), 9 - L2_59.toInt < (N_8 : Int) → (0 ≤ L2_59.toInt ∧ L2_59.toInt ≤ 9) → (df2_59 = cpX df1 df2 (L2_59).toNatClampNeg) → va_P D vwCl [(dh, .inr (0, G0 da dlisted dshared dsailing L1_4)), ((da 0), .inl (E 0, 9, .inl df0)), ((da 1), .inl (E 0, 9, .inl df1)), ((da 2), .inl (E 0, 9, .inl df2_59)), ((da 3), .inl (E 0, 3, .inl df3))] H → va_D A [(dh, .inr (0, G0 da dlisted dshared dsailing L1_4)), ((da 0), .inl (E 0, 9, .inl df0)), ((da 1), .inl (E 0, 9, .inl df1)), ((da 2), .inl (E 0, 9, .inl df2_59)), ((da 3), .inl (E 0, 3, .inl df3))] → va_S A s.heap H locs → lv_has ls 3 [(2, .int L2_59), (1, .int L1_4), (0, .ref dh)] → W p l e (headSpec (wl yX0_keepIfBetter cX0_keepIfBetter 3 none) (RM 2 0 0)).room s m [Value.ref dh].toArray below meth c H locs 0 0 (MQ below (va_Qv (fun (u : (Nat → Int32) × (Int32)) => (((u.2, u.1) : SM) = kqX df0 df3 dlisted dsailing df1 dleastWorst df2)) (mu_B D A (fun (u : (Nat → Int32) × (Int32)) => [(dh, .inr (0, G0 da dlisted dshared dsailing u.2)), ((da 0), .inl (E 0, 9, .inl df0)), ((da 1), .inl (E 0, 9, .inl df1)), ((da 2), .inl (E 0, 9, .inl u.1)), ((da 3), .inl (E 0, 3, .inl df3))])) A) [Value.ref dh].toArray s 0 0 A) (F0 m 59 ls []) := by
            intro N_8
            induction N_8 with
            | zero => intro L2_59 df2_59 H locs ls hm v0_59 v1_59 _ _ _ _; exfalso; omega
            | succ N_8 ih_7 =>
              intro L2_59 df2_59 H locs ls hm v0_59 v1_59 hP hD hS hl
              have lo_L2_59 := i_lo L2_59; have hi_L2_59 := i_hi L2_59
              refine lv_iload_n hx hb dX0_keepIfBetter_59 rfl (lv_at hl 0 rfl) ?_
              refine lv_bipush (v := 9) hx hb dX0_keepIfBetter_60 (by decide) ?_
              refine lv_icmp_ge (tgt := 83) hx hb dX0_keepIfBetter_62 (by decide) (fun c_9 => ?_) (fun c_9 => ?_)
              ·
                have ic_9 : 9 ≤ L2_59.toInt := by first | exact (g_le t_9 rfl).mp c_9 | (have h := mt (g_lt rfl t_9).mpr c_9; omega)
                clear c_9
                have hP9 := hP.sub (ws' := [(dh, .inr (0, G0 da dlisted dshared dsailing L1_4)), ((da 0), .inl (E 0, 9, .inl df0)), ((da 1), .inl (E 0, 9, .inl df1)), ((da 2), .inl (E 0, 9, .inl df2_59)), ((da 3), .inl (E 0, 3, .inl df3))]) [0, 1, 2, 3, 4] rfl
                have hD9 := hD.sub (ws' := [(dh, .inr (0, G0 da dlisted dshared dsailing L1_4)), ((da 0), .inl (E 0, 9, .inl df0)), ((da 1), .inl (E 0, 9, .inl df1)), ((da 2), .inl (E 0, 9, .inl df2_59)), ((da 3), .inl (E 0, 3, .inl df3))]) [0, 1, 2, 3, 4] (by decide) rfl
                exact W.vret hx hb hr (fun t ht hW => ⟨⟨(df2_59, L1_4), rfl, (by (try dsimp only); unfold kqX; rw [show (dsailing : Int32).toNatClampNeg = (L2_4).toNatClampNeg from clampE (by omega) (by omega), ← v1_4, if_pos (by omega), show (9 : Nat) = (L2_59).toNatClampNeg by have h9 := i_clamp0 (x := L2_59) (by omega); omega, ← v1_59]), by rw [ht]; exact hP9, hD9⟩, hS.F ht⟩) hS.2.2 dX0_keepIfBetter_83
              ·
                have ic_9 : L2_59.toInt < 9 := by first | exact (g_lt rfl t_9).mp c_9 | (have h := mt (g_le t_9 rfl).mpr c_9; omega)
                clear c_9
                refine lv_aload_n hx hb dX0_keepIfBetter_65 rfl (lv_at hl 2 rfl) ?_
                refine va_get (D := D) (ci := 0) (v := .ref (da 2)) (C := RX0) (T := TX0) (N := 9) hx hb htb iX0 hown hK.1 hP 0 rfl rfl 2 (by decide) (htb _ k_192) (fun _ h9 => h9) rfl dX0_keepIfBetter_66 ?_
                refine lv_iload_n hx hb dX0_keepIfBetter_69 rfl (lv_at hl 0 rfl) ?_
                refine lv_aload_n hx hb dX0_keepIfBetter_70 rfl (lv_at hl 2 rfl) ?_
                refine va_get (D := D) (ci := 0) (v := .ref (da 1)) (C := RX0) (T := TX0) (N := 9) hx hb htb iX0 hown hK.1 hP 0 rfl rfl 1 (by decide) (htb _ k_191) (fun _ h9 => h9) rfl dX0_keepIfBetter_71 ?_
                refine lv_iload_n hx hb dX0_keepIfBetter_74 rfl (lv_at hl 0 rfl) ?_
                refine va_iald hx hb hK.1 hP 2 0 rfl rfl (g_in rfl (by omega) (by omega)) dX0_keepIfBetter_75 ?_
                refine lv_topi (fun z_10 ez_10 => ?_)
                have kz_10 := congrArg Int32.toInt ez_10
                refine va_iast hx hb hK.1 hP hD hS 3 0 rfl rfl (g_in rfl (by omega) (by omega)) dX0_keepIfBetter_76 (fun H locs hP hD hS => ?_)
                have hP : va_P D vwCl [(dh, .inr (0, G0 da dlisted dshared dsailing L1_4)), ((da 0), .inl (E 0, 9, .inl df0)), ((da 1), .inl (E 0, 9, .inl df1)), ((da 2), .inl (E 0, 9, .inl (upd df2_59 (L2_59 : Int32).toNatClampNeg z_10))), ((da 3), .inl (E 0, 3, .inl df3))] H := hP
                have hD := toW hP hD rfl
                obtain ⟨z_11, ez_11⟩ : ∃ y : Int32, y = L2_59 + 1 := ⟨_, rfl⟩
                have jz_11 : z_11.toInt = L2_59.toInt + 1 := by rw [ez_11]; exact g_add rfl t_1 (by omega) (by omega)
                refine lv_iinc (v := z_11) (lv' := [(2, .int z_11), (1, .int L1_4), (0, .ref dh)]) hx hb dX0_keepIfBetter_77 hl (k := 0) rfl (by rw [ez_11]; rfl) (by decide) rfl (fun ls hl => ?_)
                refine lv_goto (tgt := 59) hx hb dX0_keepIfBetter_80 (by decide) ?_
                exact ih_7 z_11 (upd df2_59 (L2_59 : Int32).toNatClampNeg z_10) _ _ _ (by (try dsimp only); omega) (by (try dsimp only); omega) (by rw [clampS (by omega) jz_11, cpX_s, ← v1_59, ← ez_10]) hP hD hS (lv_sub hl [0, 1, 2] rfl)
          exact loop_6 10 0 df2 _ _ _ (by have h0 := t_0; (try dsimp only); omega) (by have h0 := t_0; (try dsimp only); omega) (by rw [clamp_0]; rfl) hP hD hS (lv_sub hl [0, 1, 2] rfl)
      ·
        have ic_4 : L2_4.toInt < dsailing.toInt := by first | exact (g_lt rfl rfl).mp c_4 | (have h := mt (g_le rfl rfl).mpr c_4; omega)
        clear c_4
        refine lv_iload_n hx hb dX0_keepIfBetter_12 rfl (lv_at hl 0 rfl) ?_
        refine lv_aload_n hx hb dX0_keepIfBetter_13 rfl (lv_at hl 2 rfl) ?_
        refine va_get (D := D) (ci := 0) (v := .ref (da 3)) (C := RX0) (T := TX0) (N := 9) hx hb htb iX0 hown hK.1 hP 0 rfl rfl 3 (by decide) (htb _ k_194) (fun _ h9 => h9) rfl dX0_keepIfBetter_14 ?_
        refine va_alen hx hb hK.1 hP 4 0 rfl rfl (v := 3) (show Int32.ofNat 3 = 3 by decide) dX0_keepIfBetter_17 ?_
        refine lv_icmp_ge (tgt := 44) hx hb dX0_keepIfBetter_18 (by decide) (fun c_12 => absurd c_12 (by rw [g_le t_3 rfl]; omega)) (fun c_12 => ?_)
        refine lv_iload_n hx hb dX0_keepIfBetter_21 rfl (lv_at hl 1 rfl) ?_
        refine lv_aload_n hx hb dX0_keepIfBetter_22 rfl (lv_at hl 2 rfl) ?_
        refine va_get (D := D) (ci := 0) (v := .ref (da 3)) (C := RX0) (T := TX0) (N := 9) hx hb htb iX0 hown hK.1 hP 0 rfl rfl 3 (by decide) (htb _ k_194) (fun _ h9 => h9) rfl dX0_keepIfBetter_23 ?_
        refine lv_iload_n hx hb dX0_keepIfBetter_26 rfl (lv_at hl 0 rfl) ?_
        refine va_iald hx hb hK.1 hP 4 0 rfl rfl (g_in rfl (by omega) (by omega)) dX0_keepIfBetter_27 ?_
        refine lv_topi (fun z_13 ez_13 => ?_)
        have kz_13 := congrArg Int32.toInt ez_13
        refine lv_aload_n hx hb dX0_keepIfBetter_28 rfl (lv_at hl 2 rfl) ?_
        refine lv_iload_n hx hb dX0_keepIfBetter_29 rfl (lv_at hl 0 rfl) ?_
        refine callRV (rest := [.int z_13, .int L1_4]) (As := [.int L2_4]) hx hb hml hown htb hK (g_X0_secondLeast l D E dh da dlisted dshared dsailing dleastWorst df0 df1 L2_4 (by (try dsimp only); omega)) ok_X0_secondLeast k_913 k_915 ks_36 k_7 k_916 ⟨(Nat.le_of_ble_eq_true rfl), (Nat.le_of_ble_eq_true rfl)⟩ ⟨(Nat.le_of_ble_eq_true rfl), (Nat.le_of_ble_eq_true rfl)⟩ hl.1 (Nat.le_of_ble_eq_true rfl) rfl rfl dX0_keepIfBetter_30 (hP.sub (ws' := [(dh, .inr (0, G0 da dlisted dshared dsailing dleastWorst)), ((da 0), .inl (E 0, 9, .inl df0)), ((da 1), .inl (E 0, 9, .inl df1))]) [0, 1, 2] rfl) rfl rfl 0 rfl (fun r_14 hw_15 => ?_)
        refine lv_imul hx hb dX0_keepIfBetter_33 ?_
        refine lv_topi (fun z_17 ez_17 => ?_)
        refine va_mmax hx hb (by rw [hml, hl.1]) hown (htb _ k_903) (htb _ k_732) (htb _ k_11) (htb _ k_733) (Nat.le_of_ble_eq_true rfl) (Nat.le_of_ble_eq_true rfl) (Nat.le_of_ble_eq_true rfl) (Nat.le_of_ble_eq_true rfl) dX0_keepIfBetter_34 ?_
        refine lv_topi (fun z_18 ez_18 => ?_)
        have jz_18 := g_max rfl rfl ez_18
        refine lv_istore_n (lv' := [(1, .int z_18), (2, .int L2_4), (0, .ref dh)]) hx hb dX0_keepIfBetter_37 rfl hl (by decide) rfl (fun ls hl => ?_)
        obtain ⟨z_19, ez_19⟩ : ∃ y : Int32, y = L2_4 + 1 := ⟨_, rfl⟩
        have jz_19 : z_19.toInt = L2_4.toInt + 1 := by rw [ez_19]; exact g_add rfl t_1 (by omega) (by omega)
        refine lv_iinc (v := z_19) (lv' := [(2, .int z_19), (1, .int z_18), (0, .ref dh)]) hx hb dX0_keepIfBetter_38 hl (k := 1) rfl (by rw [ez_19]; rfl) (by decide) rfl (fun ls hl => ?_)
        refine lv_goto (tgt := 4) hx hb dX0_keepIfBetter_41 (by decide) ?_
        exact ih_2 z_19 z_18 _ _ _ (by (try dsimp only); omega) (by (try dsimp only); omega) (by rw [clampS (by omega) jz_19, kbX_s, ofN_c (by omega), ← v1_4]; subst_vars; rfl) hP hD hS (lv_sub hl [0, 1, 2] rfl)
  exact loop_1 4 0 0 _ _ _ (by have h0 := t_0; (try dsimp only); omega) (by have h0 := t_0; (try dsimp only); omega) (by rw [clamp_0]; rfl) hP hD hS (lv_sub hl [0, 1, 2] rfl)
set_option maxHeartbeats 4000000 in
set_option maxRecDepth 100000 in
theorem g_X1_clear (l : Launch) (D : va_G) (E : Nat → Nat) (fh : Nat) (fa : Nat → Nat) (fn : Int64) (fsumR : Int64) (fsumW : Int64) (fsumA : Int64) (fsumWW : Int64) (fsumAA : Int64) (fsumWA : Int64) (fsumWR : Int64) (fsumAR : Int64) (fdivisor : Int64) (fbyWarmth : Int64) (fbyAge : Int64) (fform : Int32) (fwhole : Int64) (frest : Int64) (sz : Nat)  : Met l yX1_clear (wl yX1_clear cX1_clear 1 none) (RM 0 0 0) (mu_P D E [.ref fh] [(fh, .inr (1, G1 fa fn fsumR fsumW fsumA fsumWW fsumAA fsumWA fsumWR fsumAR fdivisor fbyWarmth fbyAge fform fwhole frest))] sz) (va_Qv (fun (u : (Int64) × (Int64) × (Int64) × (Int64) × (Int64) × (Int64) × (Int64) × (Int64) × (Int64)) => (((u.1, u.2.2.2.2.1, u.2.2.2.2.2.1, u.2.1, u.2.2.2.2.2.2.2.2, u.2.2.1, u.2.2.2.2.2.2.1, u.2.2.2.2.2.2.2.1, u.2.2.2.1) : S9) = (0, 0, 0, 0, 0, 0, 0, 0, 0))) (mu_B D (va_A [(fh, .inr (1, G1 fa fn fsumR fsumW fsumA fsumWW fsumAA fsumWA fsumWR fsumAR fdivisor fbyWarmth fbyAge fform fwhole frest))] sz) (fun (u : (Int64) × (Int64) × (Int64) × (Int64) × (Int64) × (Int64) × (Int64) × (Int64) × (Int64)) => [(fh, .inr (1, G1 fa u.1 u.2.2.2.2.1 u.2.2.2.2.2.1 u.2.1 u.2.2.2.2.2.2.2.2 u.2.2.1 u.2.2.2.2.2.2.1 u.2.2.2.2.2.2.2.1 u.2.2.2.1 fdivisor fbyWarmth fbyAge fform fwhole frest))])) (va_A [(fh, .inr (1, G1 fa fn fsumR fsumW fsumA fsumWW fsumAA fsumWA fsumWR fsumAR fdivisor fbyWarmth fbyAge fform fwhole frest))] sz)) 0 0 (va_A [(fh, .inr (1, G1 fa fn fsumR fsumW fsumA fsumWW fsumAA fsumWA fsumWR fsumAR fdivisor fbyWarmth fbyAge fform fwhole frest))] sz) := by
  refine Met.ofW (cc := cX1_clear) (maxL := 1) (ret := none) (by decide) rfl ?_
  intro p e s m args below meth c s₁ B hml hv
  obtain ⟨rfl, hsz, hP, hK, hD0⟩ := hv
  have hx := B.exec; have hb := B.bytes; have hr := B.returns
  have hts := atoms_spec (ws := wl yX1_clear cX1_clear 1 none) B.pre
  have htb : ∀ w ∈ tb, w.before _ s = true := fun w h => hts w (List.mem_cons_of_mem _ h)
  have hown : s.vm.findClass RX1 = some m.cls := findClass_of_methodNamed B.named
  have hlocks := B.notSynchronized
  subst hsz
  have hD := hD0.self (sz := s.heap.size)
  generalize hAe : va_A [(fh, .inr (1, G1 fa fn fsumR fsumW fsumA fsumWW fsumAA fsumWA fsumWR fsumAR fdivisor fbyWarmth fbyAge fform fwhole frest))] s.heap.size = A at hD ⊢
  have hA : ∀ q : Nat, s.heap.size ≤ q → A q := fun q h => by rw [← hAe]; exact Or.inr h
  have hS : va_S A s.heap s.heap [] := va_S.rf
  have hP : va_P D vwCl [(fh, .inr (1, G1 fa fn fsumR fsumW fsumA fsumWW fsumAA fsumWA fsumWR fsumAR fdivisor fbyWarmth fbyAge fform fwhole frest))] s.heap := hP
  have hl := lv_entry ([.ref fh]) (n := 1) (Nat.le_of_ble_eq_true rfl)
  rw [lg_entry_eq]
  generalize (lg_sl ([.ref fh]) ++ List.replicate (1 - (lg_sl ([.ref fh])).length) Slot.unset).toArray = ls at hl ⊢
  have hl : lv_has ls 1 [(0, .ref fh)] := hl
  refine lv_aload_n hx hb dX1_clear_0 rfl (lv_at hl 0 rfl) ?_
  refine lv_lconst (v := 0) hx hb dX1_clear_1 (by decide) ?_
  refine va_put (D := D) (ci := 1) (v := .long 0) (ty := .long) (C := RX1) (T := TX1) (N := 15) hx hb htb iX1 tyX1 tyX1_ok nmX1 hown hK.1 hP hD hS 0 rfl rfl 0 (by decide) (htb _ k_83) (fun _ h9 => h9) rfl (by decide +kernel) rfl rfl (Nat.le_of_ble_eq_true rfl) dX1_clear_2 (fun H locs hP hD hS => ?_)
  have hP : va_P D vwCl [(fh, .inr (1, G1 fa 0 fsumR fsumW fsumA fsumWW fsumAA fsumWA fsumWR fsumAR fdivisor fbyWarmth fbyAge fform fwhole frest))] H := hP
  have hD := toW hP hD rfl
  refine lv_aload_n hx hb dX1_clear_5 rfl (lv_at hl 0 rfl) ?_
  refine lv_lconst (v := 0) hx hb dX1_clear_6 (by decide) ?_
  refine va_put (D := D) (ci := 1) (v := .long 0) (ty := .long) (C := RX1) (T := TX1) (N := 15) hx hb htb iX1 tyX1 tyX1_ok nmX1 hown hK.1 hP hD hS 0 rfl rfl 1 (by decide) (htb _ k_84) (fun _ h9 => h9) rfl (by decide +kernel) rfl rfl (Nat.le_of_ble_eq_true rfl) dX1_clear_7 (fun H locs hP hD hS => ?_)
  have hP : va_P D vwCl [(fh, .inr (1, G1 fa 0 0 fsumW fsumA fsumWW fsumAA fsumWA fsumWR fsumAR fdivisor fbyWarmth fbyAge fform fwhole frest))] H := hP
  have hD := toW hP hD rfl
  refine lv_aload_n hx hb dX1_clear_10 rfl (lv_at hl 0 rfl) ?_
  refine lv_lconst (v := 0) hx hb dX1_clear_11 (by decide) ?_
  refine va_put (D := D) (ci := 1) (v := .long 0) (ty := .long) (C := RX1) (T := TX1) (N := 15) hx hb htb iX1 tyX1 tyX1_ok nmX1 hown hK.1 hP hD hS 0 rfl rfl 2 (by decide) (htb _ k_85) (fun _ h9 => h9) rfl (by decide +kernel) rfl rfl (Nat.le_of_ble_eq_true rfl) dX1_clear_12 (fun H locs hP hD hS => ?_)
  have hP : va_P D vwCl [(fh, .inr (1, G1 fa 0 0 0 fsumA fsumWW fsumAA fsumWA fsumWR fsumAR fdivisor fbyWarmth fbyAge fform fwhole frest))] H := hP
  have hD := toW hP hD rfl
  refine lv_aload_n hx hb dX1_clear_15 rfl (lv_at hl 0 rfl) ?_
  refine lv_lconst (v := 0) hx hb dX1_clear_16 (by decide) ?_
  refine va_put (D := D) (ci := 1) (v := .long 0) (ty := .long) (C := RX1) (T := TX1) (N := 15) hx hb htb iX1 tyX1 tyX1_ok nmX1 hown hK.1 hP hD hS 0 rfl rfl 3 (by decide) (htb _ k_86) (fun _ h9 => h9) rfl (by decide +kernel) rfl rfl (Nat.le_of_ble_eq_true rfl) dX1_clear_17 (fun H locs hP hD hS => ?_)
  have hP : va_P D vwCl [(fh, .inr (1, G1 fa 0 0 0 0 fsumWW fsumAA fsumWA fsumWR fsumAR fdivisor fbyWarmth fbyAge fform fwhole frest))] H := hP
  have hD := toW hP hD rfl
  refine lv_aload_n hx hb dX1_clear_20 rfl (lv_at hl 0 rfl) ?_
  refine lv_lconst (v := 0) hx hb dX1_clear_21 (by decide) ?_
  refine va_put (D := D) (ci := 1) (v := .long 0) (ty := .long) (C := RX1) (T := TX1) (N := 15) hx hb htb iX1 tyX1 tyX1_ok nmX1 hown hK.1 hP hD hS 0 rfl rfl 4 (by decide) (htb _ k_87) (fun _ h9 => h9) rfl (by decide +kernel) rfl rfl (Nat.le_of_ble_eq_true rfl) dX1_clear_22 (fun H locs hP hD hS => ?_)
  have hP : va_P D vwCl [(fh, .inr (1, G1 fa 0 0 0 0 0 fsumAA fsumWA fsumWR fsumAR fdivisor fbyWarmth fbyAge fform fwhole frest))] H := hP
  have hD := toW hP hD rfl
  refine lv_aload_n hx hb dX1_clear_25 rfl (lv_at hl 0 rfl) ?_
  refine lv_lconst (v := 0) hx hb dX1_clear_26 (by decide) ?_
  refine va_put (D := D) (ci := 1) (v := .long 0) (ty := .long) (C := RX1) (T := TX1) (N := 15) hx hb htb iX1 tyX1 tyX1_ok nmX1 hown hK.1 hP hD hS 0 rfl rfl 5 (by decide) (htb _ k_88) (fun _ h9 => h9) rfl (by decide +kernel) rfl rfl (Nat.le_of_ble_eq_true rfl) dX1_clear_27 (fun H locs hP hD hS => ?_)
  have hP : va_P D vwCl [(fh, .inr (1, G1 fa 0 0 0 0 0 0 fsumWA fsumWR fsumAR fdivisor fbyWarmth fbyAge fform fwhole frest))] H := hP
  have hD := toW hP hD rfl
  refine lv_aload_n hx hb dX1_clear_30 rfl (lv_at hl 0 rfl) ?_
  refine lv_lconst (v := 0) hx hb dX1_clear_31 (by decide) ?_
  refine va_put (D := D) (ci := 1) (v := .long 0) (ty := .long) (C := RX1) (T := TX1) (N := 15) hx hb htb iX1 tyX1 tyX1_ok nmX1 hown hK.1 hP hD hS 0 rfl rfl 6 (by decide) (htb _ k_89) (fun _ h9 => h9) rfl (by decide +kernel) rfl rfl (Nat.le_of_ble_eq_true rfl) dX1_clear_32 (fun H locs hP hD hS => ?_)
  have hP : va_P D vwCl [(fh, .inr (1, G1 fa 0 0 0 0 0 0 0 fsumWR fsumAR fdivisor fbyWarmth fbyAge fform fwhole frest))] H := hP
  have hD := toW hP hD rfl
  refine lv_aload_n hx hb dX1_clear_35 rfl (lv_at hl 0 rfl) ?_
  refine lv_lconst (v := 0) hx hb dX1_clear_36 (by decide) ?_
  refine va_put (D := D) (ci := 1) (v := .long 0) (ty := .long) (C := RX1) (T := TX1) (N := 15) hx hb htb iX1 tyX1 tyX1_ok nmX1 hown hK.1 hP hD hS 0 rfl rfl 7 (by decide) (htb _ k_90) (fun _ h9 => h9) rfl (by decide +kernel) rfl rfl (Nat.le_of_ble_eq_true rfl) dX1_clear_37 (fun H locs hP hD hS => ?_)
  have hP : va_P D vwCl [(fh, .inr (1, G1 fa 0 0 0 0 0 0 0 0 fsumAR fdivisor fbyWarmth fbyAge fform fwhole frest))] H := hP
  have hD := toW hP hD rfl
  refine lv_aload_n hx hb dX1_clear_40 rfl (lv_at hl 0 rfl) ?_
  refine lv_lconst (v := 0) hx hb dX1_clear_41 (by decide) ?_
  refine va_put (D := D) (ci := 1) (v := .long 0) (ty := .long) (C := RX1) (T := TX1) (N := 15) hx hb htb iX1 tyX1 tyX1_ok nmX1 hown hK.1 hP hD hS 0 rfl rfl 8 (by decide) (htb _ k_91) (fun _ h9 => h9) rfl (by decide +kernel) rfl rfl (Nat.le_of_ble_eq_true rfl) dX1_clear_42 (fun H locs hP hD hS => ?_)
  have hP : va_P D vwCl [(fh, .inr (1, G1 fa 0 0 0 0 0 0 0 0 0 fdivisor fbyWarmth fbyAge fform fwhole frest))] H := hP
  have hD := toW hP hD rfl
  have hP9 := hP.sub (ws' := [(fh, .inr (1, G1 fa 0 0 0 0 0 0 0 0 0 fdivisor fbyWarmth fbyAge fform fwhole frest))]) [0] rfl
  have hD9 := hD.sub (ws' := [(fh, .inr (1, G1 fa 0 0 0 0 0 0 0 0 0 fdivisor fbyWarmth fbyAge fform fwhole frest))]) [0] (by decide) rfl
  exact W.vret hx hb hr (fun t ht hW => ⟨⟨((0 : Int64), (0 : Int64), (0 : Int64), (0 : Int64), (0 : Int64), (0 : Int64), (0 : Int64), (0 : Int64), (0 : Int64)), rfl, (by rfl), by rw [ht]; exact hP9, hD9⟩, hS.F ht⟩) hS.2.2 dX1_clear_45
set_option maxHeartbeats 4000000 in
set_option maxRecDepth 100000 in
theorem g_X1_add (l : Launch) (D : va_G) (E : Nat → Nat) (fh : Nat) (fa : Nat → Nat) (fn : Int64) (fsumR : Int64) (fsumW : Int64) (fsumA : Int64) (fsumWW : Int64) (fsumAA : Int64) (fsumWA : Int64) (fsumWR : Int64) (fsumAR : Int64) (fdivisor : Int64) (fbyWarmth : Int64) (fbyAge : Int64) (fform : Int32) (fwhole : Int64) (frest : Int64) (p0 : Int64) (p1 : Int64) (p2 : Int64) (sz : Nat)  : Met l yX1_add (wl yX1_add cX1_add 7 none) (RM 0 0 0) (mu_P D E [.ref fh, .long p0, .long p1, .long p2] [(fh, .inr (1, G1 fa fn fsumR fsumW fsumA fsumWW fsumAA fsumWA fsumWR fsumAR fdivisor fbyWarmth fbyAge fform fwhole frest))] sz) (va_Qv (fun (u : (Int64) × (Int64) × (Int64) × (Int64) × (Int64) × (Int64) × (Int64) × (Int64) × (Int64)) => (((u.1, u.2.2.2.2.1, u.2.2.2.2.2.1, u.2.1, u.2.2.2.2.2.2.2.2, u.2.2.1, u.2.2.2.2.2.2.1, u.2.2.2.2.2.2.2.1, u.2.2.2.1) : S9) = add9 ((fn, fsumR, fsumW, fsumA, fsumWW, fsumAA, fsumWA, fsumWR, fsumAR) : S9) p0 p1 p2)) (mu_B D (va_A [(fh, .inr (1, G1 fa fn fsumR fsumW fsumA fsumWW fsumAA fsumWA fsumWR fsumAR fdivisor fbyWarmth fbyAge fform fwhole frest))] sz) (fun (u : (Int64) × (Int64) × (Int64) × (Int64) × (Int64) × (Int64) × (Int64) × (Int64) × (Int64)) => [(fh, .inr (1, G1 fa u.1 u.2.2.2.2.1 u.2.2.2.2.2.1 u.2.1 u.2.2.2.2.2.2.2.2 u.2.2.1 u.2.2.2.2.2.2.1 u.2.2.2.2.2.2.2.1 u.2.2.2.1 fdivisor fbyWarmth fbyAge fform fwhole frest))])) (va_A [(fh, .inr (1, G1 fa fn fsumR fsumW fsumA fsumWW fsumAA fsumWA fsumWR fsumAR fdivisor fbyWarmth fbyAge fform fwhole frest))] sz)) 0 0 (va_A [(fh, .inr (1, G1 fa fn fsumR fsumW fsumA fsumWW fsumAA fsumWA fsumWR fsumAR fdivisor fbyWarmth fbyAge fform fwhole frest))] sz) := by
  refine Met.ofW (cc := cX1_add) (maxL := 7) (ret := none) (by decide) rfl ?_
  intro p e s m args below meth c s₁ B hml hv
  obtain ⟨rfl, hsz, hP, hK, hD0⟩ := hv
  have hx := B.exec; have hb := B.bytes; have hr := B.returns
  have hts := atoms_spec (ws := wl yX1_add cX1_add 7 none) B.pre
  have htb : ∀ w ∈ tb, w.before _ s = true := fun w h => hts w (List.mem_cons_of_mem _ h)
  have hown : s.vm.findClass RX1 = some m.cls := findClass_of_methodNamed B.named
  have hlocks := B.notSynchronized
  subst hsz
  have hD := hD0.self (sz := s.heap.size)
  generalize hAe : va_A [(fh, .inr (1, G1 fa fn fsumR fsumW fsumA fsumWW fsumAA fsumWA fsumWR fsumAR fdivisor fbyWarmth fbyAge fform fwhole frest))] s.heap.size = A at hD ⊢
  have hA : ∀ q : Nat, s.heap.size ≤ q → A q := fun q h => by rw [← hAe]; exact Or.inr h
  have hS : va_S A s.heap s.heap [] := va_S.rf
  have hP : va_P D vwCl [(fh, .inr (1, G1 fa fn fsumR fsumW fsumA fsumWW fsumAA fsumWA fsumWR fsumAR fdivisor fbyWarmth fbyAge fform fwhole frest))] s.heap := hP
  have hl := lv_entry ([.ref fh, .long p0, .long p1, .long p2]) (n := 7) (Nat.le_of_ble_eq_true rfl)
  rw [lg_entry_eq]
  generalize (lg_sl ([.ref fh, .long p0, .long p1, .long p2]) ++ List.replicate (7 - (lg_sl ([.ref fh, .long p0, .long p1, .long p2])).length) Slot.unset).toArray = ls at hl ⊢
  have hl : lv_has ls 7 [(0, .ref fh), (1, .long p0), (3, .long p1), (5, .long p2)] := hl
  refine lv_aload_n hx hb dX1_add_0 rfl (lv_at hl 0 rfl) ?_
  refine lv_dup hx hb dX1_add_1 rfl ?_
  refine va_get (D := D) (ci := 1) (v := .long fn) (C := RX1) (T := TX1) (N := 15) hx hb htb iX1 hown hK.1 hP 0 rfl rfl 0 (by decide) (htb _ k_83) (fun _ h9 => h9) rfl dX1_add_2 ?_
  refine lv_lconst (v := 1) hx hb dX1_add_5 (by decide) ?_
  refine lv_ladd hx hb dX1_add_6 ?_
  refine lv_topl (fun z_1 ez_1 => ?_)
  refine va_put (D := D) (ci := 1) (v := .long z_1) (ty := .long) (C := RX1) (T := TX1) (N := 15) hx hb htb iX1 tyX1 tyX1_ok nmX1 hown hK.1 hP hD hS 0 rfl rfl 0 (by decide) (htb _ k_83) (fun _ h9 => h9) rfl (by decide +kernel) rfl rfl (Nat.le_of_ble_eq_true rfl) dX1_add_7 (fun H locs hP hD hS => ?_)
  have hP : va_P D vwCl [(fh, .inr (1, G1 fa z_1 fsumR fsumW fsumA fsumWW fsumAA fsumWA fsumWR fsumAR fdivisor fbyWarmth fbyAge fform fwhole frest))] H := hP
  have hD := toW hP hD rfl
  refine lv_aload_n hx hb dX1_add_10 rfl (lv_at hl 0 rfl) ?_
  refine lv_dup hx hb dX1_add_11 rfl ?_
  refine va_get (D := D) (ci := 1) (v := .long fsumR) (C := RX1) (T := TX1) (N := 15) hx hb htb iX1 hown hK.1 hP 0 rfl rfl 1 (by decide) (htb _ k_84) (fun _ h9 => h9) rfl dX1_add_12 ?_
  refine lv_lload_n hx hb dX1_add_15 rfl (lv_at hl 1 rfl) ?_
  refine lv_ladd hx hb dX1_add_16 ?_
  refine lv_topl (fun z_2 ez_2 => ?_)
  refine va_put (D := D) (ci := 1) (v := .long z_2) (ty := .long) (C := RX1) (T := TX1) (N := 15) hx hb htb iX1 tyX1 tyX1_ok nmX1 hown hK.1 hP hD hS 0 rfl rfl 1 (by decide) (htb _ k_84) (fun _ h9 => h9) rfl (by decide +kernel) rfl rfl (Nat.le_of_ble_eq_true rfl) dX1_add_17 (fun H locs hP hD hS => ?_)
  have hP : va_P D vwCl [(fh, .inr (1, G1 fa z_1 z_2 fsumW fsumA fsumWW fsumAA fsumWA fsumWR fsumAR fdivisor fbyWarmth fbyAge fform fwhole frest))] H := hP
  have hD := toW hP hD rfl
  refine lv_aload_n hx hb dX1_add_20 rfl (lv_at hl 0 rfl) ?_
  refine lv_dup hx hb dX1_add_21 rfl ?_
  refine va_get (D := D) (ci := 1) (v := .long fsumW) (C := RX1) (T := TX1) (N := 15) hx hb htb iX1 hown hK.1 hP 0 rfl rfl 2 (by decide) (htb _ k_85) (fun _ h9 => h9) rfl dX1_add_22 ?_
  refine lv_lload_n hx hb dX1_add_25 rfl (lv_at hl 2 rfl) ?_
  refine lv_ladd hx hb dX1_add_26 ?_
  refine lv_topl (fun z_3 ez_3 => ?_)
  refine va_put (D := D) (ci := 1) (v := .long z_3) (ty := .long) (C := RX1) (T := TX1) (N := 15) hx hb htb iX1 tyX1 tyX1_ok nmX1 hown hK.1 hP hD hS 0 rfl rfl 2 (by decide) (htb _ k_85) (fun _ h9 => h9) rfl (by decide +kernel) rfl rfl (Nat.le_of_ble_eq_true rfl) dX1_add_27 (fun H locs hP hD hS => ?_)
  have hP : va_P D vwCl [(fh, .inr (1, G1 fa z_1 z_2 z_3 fsumA fsumWW fsumAA fsumWA fsumWR fsumAR fdivisor fbyWarmth fbyAge fform fwhole frest))] H := hP
  have hD := toW hP hD rfl
  refine lv_aload_n hx hb dX1_add_30 rfl (lv_at hl 0 rfl) ?_
  refine lv_dup hx hb dX1_add_31 rfl ?_
  refine va_get (D := D) (ci := 1) (v := .long fsumA) (C := RX1) (T := TX1) (N := 15) hx hb htb iX1 hown hK.1 hP 0 rfl rfl 3 (by decide) (htb _ k_86) (fun _ h9 => h9) rfl dX1_add_32 ?_
  refine lv_lload hx hb dX1_add_35 (lv_at hl 3 rfl) ?_
  refine lv_ladd hx hb dX1_add_37 ?_
  refine lv_topl (fun z_4 ez_4 => ?_)
  refine va_put (D := D) (ci := 1) (v := .long z_4) (ty := .long) (C := RX1) (T := TX1) (N := 15) hx hb htb iX1 tyX1 tyX1_ok nmX1 hown hK.1 hP hD hS 0 rfl rfl 3 (by decide) (htb _ k_86) (fun _ h9 => h9) rfl (by decide +kernel) rfl rfl (Nat.le_of_ble_eq_true rfl) dX1_add_38 (fun H locs hP hD hS => ?_)
  have hP : va_P D vwCl [(fh, .inr (1, G1 fa z_1 z_2 z_3 z_4 fsumWW fsumAA fsumWA fsumWR fsumAR fdivisor fbyWarmth fbyAge fform fwhole frest))] H := hP
  have hD := toW hP hD rfl
  refine lv_aload_n hx hb dX1_add_41 rfl (lv_at hl 0 rfl) ?_
  refine lv_dup hx hb dX1_add_42 rfl ?_
  refine va_get (D := D) (ci := 1) (v := .long fsumWW) (C := RX1) (T := TX1) (N := 15) hx hb htb iX1 hown hK.1 hP 0 rfl rfl 4 (by decide) (htb _ k_87) (fun _ h9 => h9) rfl dX1_add_43 ?_
  refine lv_lload_n hx hb dX1_add_46 rfl (lv_at hl 2 rfl) ?_
  refine lv_lload_n hx hb dX1_add_47 rfl (lv_at hl 2 rfl) ?_
  refine lv_lmul hx hb dX1_add_48 ?_
  refine lv_topl (fun z_5 ez_5 => ?_)
  refine lv_ladd hx hb dX1_add_49 ?_
  refine lv_topl (fun z_6 ez_6 => ?_)
  refine va_put (D := D) (ci := 1) (v := .long z_6) (ty := .long) (C := RX1) (T := TX1) (N := 15) hx hb htb iX1 tyX1 tyX1_ok nmX1 hown hK.1 hP hD hS 0 rfl rfl 4 (by decide) (htb _ k_87) (fun _ h9 => h9) rfl (by decide +kernel) rfl rfl (Nat.le_of_ble_eq_true rfl) dX1_add_50 (fun H locs hP hD hS => ?_)
  have hP : va_P D vwCl [(fh, .inr (1, G1 fa z_1 z_2 z_3 z_4 z_6 fsumAA fsumWA fsumWR fsumAR fdivisor fbyWarmth fbyAge fform fwhole frest))] H := hP
  have hD := toW hP hD rfl
  refine lv_aload_n hx hb dX1_add_53 rfl (lv_at hl 0 rfl) ?_
  refine lv_dup hx hb dX1_add_54 rfl ?_
  refine va_get (D := D) (ci := 1) (v := .long fsumAA) (C := RX1) (T := TX1) (N := 15) hx hb htb iX1 hown hK.1 hP 0 rfl rfl 5 (by decide) (htb _ k_88) (fun _ h9 => h9) rfl dX1_add_55 ?_
  refine lv_lload hx hb dX1_add_58 (lv_at hl 3 rfl) ?_
  refine lv_lload hx hb dX1_add_60 (lv_at hl 3 rfl) ?_
  refine lv_lmul hx hb dX1_add_62 ?_
  refine lv_topl (fun z_7 ez_7 => ?_)
  refine lv_ladd hx hb dX1_add_63 ?_
  refine lv_topl (fun z_8 ez_8 => ?_)
  refine va_put (D := D) (ci := 1) (v := .long z_8) (ty := .long) (C := RX1) (T := TX1) (N := 15) hx hb htb iX1 tyX1 tyX1_ok nmX1 hown hK.1 hP hD hS 0 rfl rfl 5 (by decide) (htb _ k_88) (fun _ h9 => h9) rfl (by decide +kernel) rfl rfl (Nat.le_of_ble_eq_true rfl) dX1_add_64 (fun H locs hP hD hS => ?_)
  have hP : va_P D vwCl [(fh, .inr (1, G1 fa z_1 z_2 z_3 z_4 z_6 z_8 fsumWA fsumWR fsumAR fdivisor fbyWarmth fbyAge fform fwhole frest))] H := hP
  have hD := toW hP hD rfl
  refine lv_aload_n hx hb dX1_add_67 rfl (lv_at hl 0 rfl) ?_
  refine lv_dup hx hb dX1_add_68 rfl ?_
  refine va_get (D := D) (ci := 1) (v := .long fsumWA) (C := RX1) (T := TX1) (N := 15) hx hb htb iX1 hown hK.1 hP 0 rfl rfl 6 (by decide) (htb _ k_89) (fun _ h9 => h9) rfl dX1_add_69 ?_
  refine lv_lload_n hx hb dX1_add_72 rfl (lv_at hl 2 rfl) ?_
  refine lv_lload hx hb dX1_add_73 (lv_at hl 3 rfl) ?_
  refine lv_lmul hx hb dX1_add_75 ?_
  refine lv_topl (fun z_9 ez_9 => ?_)
  refine lv_ladd hx hb dX1_add_76 ?_
  refine lv_topl (fun z_10 ez_10 => ?_)
  refine va_put (D := D) (ci := 1) (v := .long z_10) (ty := .long) (C := RX1) (T := TX1) (N := 15) hx hb htb iX1 tyX1 tyX1_ok nmX1 hown hK.1 hP hD hS 0 rfl rfl 6 (by decide) (htb _ k_89) (fun _ h9 => h9) rfl (by decide +kernel) rfl rfl (Nat.le_of_ble_eq_true rfl) dX1_add_77 (fun H locs hP hD hS => ?_)
  have hP : va_P D vwCl [(fh, .inr (1, G1 fa z_1 z_2 z_3 z_4 z_6 z_8 z_10 fsumWR fsumAR fdivisor fbyWarmth fbyAge fform fwhole frest))] H := hP
  have hD := toW hP hD rfl
  refine lv_aload_n hx hb dX1_add_80 rfl (lv_at hl 0 rfl) ?_
  refine lv_dup hx hb dX1_add_81 rfl ?_
  refine va_get (D := D) (ci := 1) (v := .long fsumWR) (C := RX1) (T := TX1) (N := 15) hx hb htb iX1 hown hK.1 hP 0 rfl rfl 7 (by decide) (htb _ k_90) (fun _ h9 => h9) rfl dX1_add_82 ?_
  refine lv_lload_n hx hb dX1_add_85 rfl (lv_at hl 2 rfl) ?_
  refine lv_lload_n hx hb dX1_add_86 rfl (lv_at hl 1 rfl) ?_
  refine lv_lmul hx hb dX1_add_87 ?_
  refine lv_topl (fun z_11 ez_11 => ?_)
  refine lv_ladd hx hb dX1_add_88 ?_
  refine lv_topl (fun z_12 ez_12 => ?_)
  refine va_put (D := D) (ci := 1) (v := .long z_12) (ty := .long) (C := RX1) (T := TX1) (N := 15) hx hb htb iX1 tyX1 tyX1_ok nmX1 hown hK.1 hP hD hS 0 rfl rfl 7 (by decide) (htb _ k_90) (fun _ h9 => h9) rfl (by decide +kernel) rfl rfl (Nat.le_of_ble_eq_true rfl) dX1_add_89 (fun H locs hP hD hS => ?_)
  have hP : va_P D vwCl [(fh, .inr (1, G1 fa z_1 z_2 z_3 z_4 z_6 z_8 z_10 z_12 fsumAR fdivisor fbyWarmth fbyAge fform fwhole frest))] H := hP
  have hD := toW hP hD rfl
  refine lv_aload_n hx hb dX1_add_92 rfl (lv_at hl 0 rfl) ?_
  refine lv_dup hx hb dX1_add_93 rfl ?_
  refine va_get (D := D) (ci := 1) (v := .long fsumAR) (C := RX1) (T := TX1) (N := 15) hx hb htb iX1 hown hK.1 hP 0 rfl rfl 8 (by decide) (htb _ k_91) (fun _ h9 => h9) rfl dX1_add_94 ?_
  refine lv_lload hx hb dX1_add_97 (lv_at hl 3 rfl) ?_
  refine lv_lload_n hx hb dX1_add_99 rfl (lv_at hl 1 rfl) ?_
  refine lv_lmul hx hb dX1_add_100 ?_
  refine lv_topl (fun z_13 ez_13 => ?_)
  refine lv_ladd hx hb dX1_add_101 ?_
  refine lv_topl (fun z_14 ez_14 => ?_)
  refine va_put (D := D) (ci := 1) (v := .long z_14) (ty := .long) (C := RX1) (T := TX1) (N := 15) hx hb htb iX1 tyX1 tyX1_ok nmX1 hown hK.1 hP hD hS 0 rfl rfl 8 (by decide) (htb _ k_91) (fun _ h9 => h9) rfl (by decide +kernel) rfl rfl (Nat.le_of_ble_eq_true rfl) dX1_add_102 (fun H locs hP hD hS => ?_)
  have hP : va_P D vwCl [(fh, .inr (1, G1 fa z_1 z_2 z_3 z_4 z_6 z_8 z_10 z_12 z_14 fdivisor fbyWarmth fbyAge fform fwhole frest))] H := hP
  have hD := toW hP hD rfl
  have hP9 := hP.sub (ws' := [(fh, .inr (1, G1 fa z_1 z_2 z_3 z_4 z_6 z_8 z_10 z_12 z_14 fdivisor fbyWarmth fbyAge fform fwhole frest))]) [0] rfl
  have hD9 := hD.sub (ws' := [(fh, .inr (1, G1 fa z_1 z_2 z_3 z_4 z_6 z_8 z_10 z_12 z_14 fdivisor fbyWarmth fbyAge fform fwhole frest))]) [0] (by decide) rfl
  exact W.vret hx hb hr (fun t ht hW => ⟨⟨(z_1, z_4, z_8, z_14, z_2, z_3, z_10, z_12, z_6), rfl, (by (try dsimp only); subst_vars; rfl), by rw [ht]; exact hP9, hD9⟩, hS.F ht⟩) hS.2.2 dX1_add_105
set_option maxHeartbeats 4000000 in
set_option maxRecDepth 100000 in
theorem g_X1_size (l : Launch) (D : va_G) (E : Nat → Nat) (fh : Nat) (fa : Nat → Nat) (fn : Int64) (fsumR : Int64) (fsumW : Int64) (fsumA : Int64) (fsumWW : Int64) (fsumAA : Int64) (fsumWA : Int64) (fsumWR : Int64) (fsumAR : Int64) (fdivisor : Int64) (fbyWarmth : Int64) (fbyAge : Int64) (fform : Int32) (fwhole : Int64) (frest : Int64)  : Met l yX1_size (wl yX1_size cX1_size 1 (some .int)) (RM 0 0 0) (rd_P D E [.ref fh] [(fh, .inr (1, G1 fa fn fsumR fsumW fsumA fsumWW fsumAA fsumWA fsumWR fsumAR fdivisor fbyWarmth fbyAge fform fwhole frest))]) (rd_Q (fun r => (r = fn.toInt32))) 0 0 (fun _ => False) := by
  refine Met.ofW (cc := cX1_size) (maxL := 1) (ret := (some .int)) (by decide) rfl ?_
  intro p e s m args below meth c s₁ B hml hv
  obtain ⟨rfl, hP, hK⟩ := hv
  have hx := B.exec; have hb := B.bytes; have hr := B.returns
  have hts := atoms_spec (ws := wl yX1_size cX1_size 1 (some .int)) B.pre
  have htb : ∀ w ∈ tb, w.before _ s = true := fun w h => hts w (List.mem_cons_of_mem _ h)
  have hown : s.vm.findClass RX1 = some m.cls := findClass_of_methodNamed B.named
  have hlocks := B.notSynchronized
  have hP : va_P D vwCl [(fh, .inr (1, G1 fa fn fsumR fsumW fsumA fsumWW fsumAA fsumWA fsumWR fsumAR fdivisor fbyWarmth fbyAge fform fwhole frest))] s.heap := hP
  have hl := lv_entry ([.ref fh]) (n := 1) (Nat.le_of_ble_eq_true rfl)
  rw [lg_entry_eq]
  generalize (lg_sl ([.ref fh]) ++ List.replicate (1 - (lg_sl ([.ref fh])).length) Slot.unset).toArray = ls at hl ⊢
  have hl : lv_has ls 1 [(0, .ref fh)] := hl
  refine lv_aload_n hx hb dX1_size_0 rfl (lv_at hl 0 rfl) ?_
  refine va_get (D := D) (ci := 1) (v := .long fn) (C := RX1) (T := TX1) (N := 15) hx hb htb iX1 hown hK.1 hP 0 rfl rfl 0 (by decide) (htb _ k_83) (fun _ h9 => h9) rfl dX1_size_1 ?_
  obtain ⟨z_1, ez_1⟩ : ∃ y : Int32, (fn : Int64).toInt32 = y := ⟨_, rfl⟩
  refine lv_l2i hx hb dX1_size_4 ez_1 ?_
  exact W.iret (v := z_1) hx hb hr (fun t ht hW => ⟨z_1, rfl, ez_1.symm, ht⟩) (fun q h => by cases h) dX1_size_5
set_option maxHeartbeats 4000000 in
set_option maxRecDepth 100000 in
theorem g_X1_form (l : Launch) (D : va_G) (E : Nat → Nat) (fh : Nat) (fa : Nat → Nat) (fn : Int64) (fsumR : Int64) (fsumW : Int64) (fsumA : Int64) (fsumWW : Int64) (fsumAA : Int64) (fsumWA : Int64) (fsumWR : Int64) (fsumAR : Int64) (fdivisor : Int64) (fbyWarmth : Int64) (fbyAge : Int64) (fform : Int32) (fwhole : Int64) (frest : Int64)  : Met l yX1_form (wl yX1_form cX1_form 1 (some .int)) (RM 0 0 0) (rd_P D E [.ref fh] [(fh, .inr (1, G1 fa fn fsumR fsumW fsumA fsumWW fsumAA fsumWA fsumWR fsumAR fdivisor fbyWarmth fbyAge fform fwhole frest))]) (rd_Q (fun r => (r = fform))) 0 0 (fun _ => False) := by
  refine Met.ofW (cc := cX1_form) (maxL := 1) (ret := (some .int)) (by decide) rfl ?_
  intro p e s m args below meth c s₁ B hml hv
  obtain ⟨rfl, hP, hK⟩ := hv
  have hx := B.exec; have hb := B.bytes; have hr := B.returns
  have hts := atoms_spec (ws := wl yX1_form cX1_form 1 (some .int)) B.pre
  have htb : ∀ w ∈ tb, w.before _ s = true := fun w h => hts w (List.mem_cons_of_mem _ h)
  have hown : s.vm.findClass RX1 = some m.cls := findClass_of_methodNamed B.named
  have hlocks := B.notSynchronized
  have hP : va_P D vwCl [(fh, .inr (1, G1 fa fn fsumR fsumW fsumA fsumWW fsumAA fsumWA fsumWR fsumAR fdivisor fbyWarmth fbyAge fform fwhole frest))] s.heap := hP
  have hl := lv_entry ([.ref fh]) (n := 1) (Nat.le_of_ble_eq_true rfl)
  rw [lg_entry_eq]
  generalize (lg_sl ([.ref fh]) ++ List.replicate (1 - (lg_sl ([.ref fh])).length) Slot.unset).toArray = ls at hl ⊢
  have hl : lv_has ls 1 [(0, .ref fh)] := hl
  refine lv_aload_n hx hb dX1_form_0 rfl (lv_at hl 0 rfl) ?_
  refine va_get (D := D) (ci := 1) (v := .int fform) (C := RX1) (T := TX1) (N := 15) hx hb htb iX1 hown hK.1 hP 0 rfl rfl 12 (by decide) (htb _ k_95) (fun _ h9 => h9) rfl dX1_form_1 ?_
  exact W.iret (v := fform) hx hb hr (fun t ht hW => ⟨fform, rfl, rfl, ht⟩) (fun q h => by cases h) dX1_form_4
set_option maxHeartbeats 4000000 in
set_option maxRecDepth 100000 in
theorem g_X1_setLaw (l : Launch) (D : va_G) (E : Nat → Nat) (fh : Nat) (fa : Nat → Nat) (fn : Int64) (fsumR : Int64) (fsumW : Int64) (fsumA : Int64) (fsumWW : Int64) (fsumAA : Int64) (fsumWA : Int64) (fsumWR : Int64) (fsumAR : Int64) (fdivisor : Int64) (fbyWarmth : Int64) (fbyAge : Int64) (fform : Int32) (fwhole : Int64) (frest : Int64) (p0 : Int32) (p1 : Int64) (p2 : Int64) (p3 : Int64) (sz : Nat)  : Met l yX1_setLaw (wl yX1_setLaw cX1_setLaw 8 none) (RM 0 0 0) (mu_P D E [.ref fh, .int p0, .long p1, .long p2, .long p3] [(fh, .inr (1, G1 fa fn fsumR fsumW fsumA fsumWW fsumAA fsumWA fsumWR fsumAR fdivisor fbyWarmth fbyAge fform fwhole frest))] sz) (va_Qv (fun (u : (Int64) × (Int64) × (Int64) × (Int32)) => (((u.2.2.2, u.2.2.1, u.2.1, u.1) : Int32 × Int64 × Int64 × Int64) = (p0, p1, p2, p3))) (mu_B D (va_A [(fh, .inr (1, G1 fa fn fsumR fsumW fsumA fsumWW fsumAA fsumWA fsumWR fsumAR fdivisor fbyWarmth fbyAge fform fwhole frest))] sz) (fun (u : (Int64) × (Int64) × (Int64) × (Int32)) => [(fh, .inr (1, G1 fa fn fsumR fsumW fsumA fsumWW fsumAA fsumWA fsumWR fsumAR u.2.2.1 u.2.1 u.1 u.2.2.2 fwhole frest))])) (va_A [(fh, .inr (1, G1 fa fn fsumR fsumW fsumA fsumWW fsumAA fsumWA fsumWR fsumAR fdivisor fbyWarmth fbyAge fform fwhole frest))] sz)) 0 0 (va_A [(fh, .inr (1, G1 fa fn fsumR fsumW fsumA fsumWW fsumAA fsumWA fsumWR fsumAR fdivisor fbyWarmth fbyAge fform fwhole frest))] sz) := by
  refine Met.ofW (cc := cX1_setLaw) (maxL := 8) (ret := none) (by decide) rfl ?_
  intro p e s m args below meth c s₁ B hml hv
  obtain ⟨rfl, hsz, hP, hK, hD0⟩ := hv
  have hx := B.exec; have hb := B.bytes; have hr := B.returns
  have hts := atoms_spec (ws := wl yX1_setLaw cX1_setLaw 8 none) B.pre
  have htb : ∀ w ∈ tb, w.before _ s = true := fun w h => hts w (List.mem_cons_of_mem _ h)
  have hown : s.vm.findClass RX1 = some m.cls := findClass_of_methodNamed B.named
  have hlocks := B.notSynchronized
  subst hsz
  have hD := hD0.self (sz := s.heap.size)
  generalize hAe : va_A [(fh, .inr (1, G1 fa fn fsumR fsumW fsumA fsumWW fsumAA fsumWA fsumWR fsumAR fdivisor fbyWarmth fbyAge fform fwhole frest))] s.heap.size = A at hD ⊢
  have hA : ∀ q : Nat, s.heap.size ≤ q → A q := fun q h => by rw [← hAe]; exact Or.inr h
  have hS : va_S A s.heap s.heap [] := va_S.rf
  have hP : va_P D vwCl [(fh, .inr (1, G1 fa fn fsumR fsumW fsumA fsumWW fsumAA fsumWA fsumWR fsumAR fdivisor fbyWarmth fbyAge fform fwhole frest))] s.heap := hP
  have hl := lv_entry ([.ref fh, .int p0, .long p1, .long p2, .long p3]) (n := 8) (Nat.le_of_ble_eq_true rfl)
  rw [lg_entry_eq]
  generalize (lg_sl ([.ref fh, .int p0, .long p1, .long p2, .long p3]) ++ List.replicate (8 - (lg_sl ([.ref fh, .int p0, .long p1, .long p2, .long p3])).length) Slot.unset).toArray = ls at hl ⊢
  have hl : lv_has ls 8 [(0, .ref fh), (1, .int p0), (2, .long p1), (4, .long p2), (6, .long p3)] := hl
  have lo_p0 := i_lo p0; have hi_p0 := i_hi p0
  refine lv_aload_n hx hb dX1_setLaw_0 rfl (lv_at hl 0 rfl) ?_
  refine lv_iload_n hx hb dX1_setLaw_1 rfl (lv_at hl 1 rfl) ?_
  refine va_put (D := D) (ci := 1) (v := .int p0) (ty := .int) (C := RX1) (T := TX1) (N := 15) hx hb htb iX1 tyX1 tyX1_ok nmX1 hown hK.1 hP hD hS 0 rfl rfl 12 (by decide) (htb _ k_95) (fun _ h9 => h9) rfl (by decide +kernel) rfl rfl (Nat.le_of_ble_eq_true rfl) dX1_setLaw_2 (fun H locs hP hD hS => ?_)
  have hP : va_P D vwCl [(fh, .inr (1, G1 fa fn fsumR fsumW fsumA fsumWW fsumAA fsumWA fsumWR fsumAR fdivisor fbyWarmth fbyAge p0 fwhole frest))] H := hP
  have hD := toW hP hD rfl
  refine lv_aload_n hx hb dX1_setLaw_5 rfl (lv_at hl 0 rfl) ?_
  refine lv_lload_n hx hb dX1_setLaw_6 rfl (lv_at hl 2 rfl) ?_
  refine va_put (D := D) (ci := 1) (v := .long p1) (ty := .long) (C := RX1) (T := TX1) (N := 15) hx hb htb iX1 tyX1 tyX1_ok nmX1 hown hK.1 hP hD hS 0 rfl rfl 9 (by decide) (htb _ k_92) (fun _ h9 => h9) rfl (by decide +kernel) rfl rfl (Nat.le_of_ble_eq_true rfl) dX1_setLaw_7 (fun H locs hP hD hS => ?_)
  have hP : va_P D vwCl [(fh, .inr (1, G1 fa fn fsumR fsumW fsumA fsumWW fsumAA fsumWA fsumWR fsumAR p1 fbyWarmth fbyAge p0 fwhole frest))] H := hP
  have hD := toW hP hD rfl
  refine lv_aload_n hx hb dX1_setLaw_10 rfl (lv_at hl 0 rfl) ?_
  refine lv_lload hx hb dX1_setLaw_11 (lv_at hl 3 rfl) ?_
  refine va_put (D := D) (ci := 1) (v := .long p2) (ty := .long) (C := RX1) (T := TX1) (N := 15) hx hb htb iX1 tyX1 tyX1_ok nmX1 hown hK.1 hP hD hS 0 rfl rfl 10 (by decide) (htb _ k_93) (fun _ h9 => h9) rfl (by decide +kernel) rfl rfl (Nat.le_of_ble_eq_true rfl) dX1_setLaw_13 (fun H locs hP hD hS => ?_)
  have hP : va_P D vwCl [(fh, .inr (1, G1 fa fn fsumR fsumW fsumA fsumWW fsumAA fsumWA fsumWR fsumAR p1 p2 fbyAge p0 fwhole frest))] H := hP
  have hD := toW hP hD rfl
  refine lv_aload_n hx hb dX1_setLaw_16 rfl (lv_at hl 0 rfl) ?_
  refine lv_lload hx hb dX1_setLaw_17 (lv_at hl 4 rfl) ?_
  refine va_put (D := D) (ci := 1) (v := .long p3) (ty := .long) (C := RX1) (T := TX1) (N := 15) hx hb htb iX1 tyX1 tyX1_ok nmX1 hown hK.1 hP hD hS 0 rfl rfl 11 (by decide) (htb _ k_94) (fun _ h9 => h9) rfl (by decide +kernel) rfl rfl (Nat.le_of_ble_eq_true rfl) dX1_setLaw_19 (fun H locs hP hD hS => ?_)
  have hP : va_P D vwCl [(fh, .inr (1, G1 fa fn fsumR fsumW fsumA fsumWW fsumAA fsumWA fsumWR fsumAR p1 p2 p3 p0 fwhole frest))] H := hP
  have hD := toW hP hD rfl
  have hP9 := hP.sub (ws' := [(fh, .inr (1, G1 fa fn fsumR fsumW fsumA fsumWW fsumAA fsumWA fsumWR fsumAR p1 p2 p3 p0 fwhole frest))]) [0] rfl
  have hD9 := hD.sub (ws' := [(fh, .inr (1, G1 fa fn fsumR fsumW fsumA fsumWW fsumAA fsumWA fsumWR fsumAR p1 p2 p3 p0 fwhole frest))]) [0] (by decide) rfl
  exact W.vret hx hb hr (fun t ht hW => ⟨⟨(p3, p2, p1, p0), rfl, (by (try dsimp only)), by rw [ht]; exact hP9, hD9⟩, hS.F ht⟩) hS.2.2 dX1_setLaw_22
set_option maxHeartbeats 4000000 in
set_option maxRecDepth 100000 in
theorem g_X1_solve (l : Launch) (D : va_G) (E : Nat → Nat) (fh : Nat) (fa : Nat → Nat) (fn : Int64) (fsumR : Int64) (fsumW : Int64) (fsumA : Int64) (fsumWW : Int64) (fsumAA : Int64) (fsumWA : Int64) (fsumWR : Int64) (fsumAR : Int64) (fdivisor : Int64) (fbyWarmth : Int64) (fbyAge : Int64) (fform : Int32) (fwhole : Int64) (frest : Int64) (sz : Nat)  : Met l yX1_solve (wl yX1_solve cX1_solve 13 none) (RM 1 0 0) (mu_P D E [.ref fh] [(fh, .inr (1, G1 fa fn fsumR fsumW fsumA fsumWW fsumAA fsumWA fsumWR fsumAR fdivisor fbyWarmth fbyAge fform fwhole frest))] sz) (va_Qv (fun (u : (Int64) × (Int64) × (Int64) × (Int32)) => (((u.2.2.2, u.2.2.1, u.2.1, u.1) : Int32 × Int64 × Int64 × Int64) = solX ((fn, fsumR, fsumW, fsumA, fsumWW, fsumAA, fsumWA, fsumWR, fsumAR) : S9))) (mu_B D (va_A [(fh, .inr (1, G1 fa fn fsumR fsumW fsumA fsumWW fsumAA fsumWA fsumWR fsumAR fdivisor fbyWarmth fbyAge fform fwhole frest))] sz) (fun (u : (Int64) × (Int64) × (Int64) × (Int32)) => [(fh, .inr (1, G1 fa fn fsumR fsumW fsumA fsumWW fsumAA fsumWA fsumWR fsumAR u.2.2.1 u.2.1 u.1 u.2.2.2 fwhole frest))])) (va_A [(fh, .inr (1, G1 fa fn fsumR fsumW fsumA fsumWW fsumAA fsumWA fsumWR fsumAR fdivisor fbyWarmth fbyAge fform fwhole frest))] sz)) 0 0 (va_A [(fh, .inr (1, G1 fa fn fsumR fsumW fsumA fsumWW fsumAA fsumWA fsumWR fsumAR fdivisor fbyWarmth fbyAge fform fwhole frest))] sz) := by
  refine Met.ofW (cc := cX1_solve) (maxL := 13) (ret := none) (by decide) rfl ?_
  intro p e s m args below meth c s₁ B hml hv
  obtain ⟨rfl, hsz, hP, hK, hD0⟩ := hv
  have hx := B.exec; have hb := B.bytes; have hr := B.returns
  have hts := atoms_spec (ws := wl yX1_solve cX1_solve 13 none) B.pre
  have htb : ∀ w ∈ tb, w.before _ s = true := fun w h => hts w (List.mem_cons_of_mem _ h)
  have hown : s.vm.findClass RX1 = some m.cls := findClass_of_methodNamed B.named
  have hlocks := B.notSynchronized
  subst hsz
  have hD := hD0.self (sz := s.heap.size)
  generalize hAe : va_A [(fh, .inr (1, G1 fa fn fsumR fsumW fsumA fsumWW fsumAA fsumWA fsumWR fsumAR fdivisor fbyWarmth fbyAge fform fwhole frest))] s.heap.size = A at hD ⊢
  have hA : ∀ q : Nat, s.heap.size ≤ q → A q := fun q h => by rw [← hAe]; exact Or.inr h
  have hS : va_S A s.heap s.heap [] := va_S.rf
  have hP : va_P D vwCl [(fh, .inr (1, G1 fa fn fsumR fsumW fsumA fsumWW fsumAA fsumWA fsumWR fsumAR fdivisor fbyWarmth fbyAge fform fwhole frest))] s.heap := hP
  have hl := lv_entry ([.ref fh]) (n := 13) (Nat.le_of_ble_eq_true rfl)
  rw [lg_entry_eq]
  generalize (lg_sl ([.ref fh]) ++ List.replicate (13 - (lg_sl ([.ref fh])).length) Slot.unset).toArray = ls at hl ⊢
  have hl : lv_has ls 13 [(0, .ref fh)] := hl
  refine lv_aload_n hx hb dX1_solve_0 rfl (lv_at hl 0 rfl) ?_
  refine va_get (D := D) (ci := 1) (v := .long fn) (C := RX1) (T := TX1) (N := 15) hx hb htb iX1 hown hK.1 hP 0 rfl rfl 0 (by decide) (htb _ k_83) (fun _ h9 => h9) rfl dX1_solve_1 ?_
  refine lv_aload_n hx hb dX1_solve_4 rfl (lv_at hl 0 rfl) ?_
  refine va_get (D := D) (ci := 1) (v := .long fsumWW) (C := RX1) (T := TX1) (N := 15) hx hb htb iX1 hown hK.1 hP 0 rfl rfl 4 (by decide) (htb _ k_87) (fun _ h9 => h9) rfl dX1_solve_5 ?_
  refine lv_lmul hx hb dX1_solve_8 ?_
  refine lv_topl (fun z_1 ez_1 => ?_)
  refine lv_aload_n hx hb dX1_solve_9 rfl (lv_at hl 0 rfl) ?_
  refine va_get (D := D) (ci := 1) (v := .long fsumW) (C := RX1) (T := TX1) (N := 15) hx hb htb iX1 hown hK.1 hP 0 rfl rfl 2 (by decide) (htb _ k_85) (fun _ h9 => h9) rfl dX1_solve_10 ?_
  refine lv_aload_n hx hb dX1_solve_13 rfl (lv_at hl 0 rfl) ?_
  refine va_get (D := D) (ci := 1) (v := .long fsumW) (C := RX1) (T := TX1) (N := 15) hx hb htb iX1 hown hK.1 hP 0 rfl rfl 2 (by decide) (htb _ k_85) (fun _ h9 => h9) rfl dX1_solve_14 ?_
  refine lv_lmul hx hb dX1_solve_17 ?_
  refine lv_topl (fun z_2 ez_2 => ?_)
  refine lv_lsub hx hb dX1_solve_18 ?_
  refine lv_topl (fun z_3 ez_3 => ?_)
  refine lv_lstore_n (lv' := [(1, .long z_3), (0, .ref fh)]) hx hb dX1_solve_19 rfl hl (by decide) rfl (fun ls hl => ?_)
  refine lv_aload_n hx hb dX1_solve_20 rfl (lv_at hl 1 rfl) ?_
  refine va_get (D := D) (ci := 1) (v := .long fn) (C := RX1) (T := TX1) (N := 15) hx hb htb iX1 hown hK.1 hP 0 rfl rfl 0 (by decide) (htb _ k_83) (fun _ h9 => h9) rfl dX1_solve_21 ?_
  refine lv_aload_n hx hb dX1_solve_24 rfl (lv_at hl 1 rfl) ?_
  refine va_get (D := D) (ci := 1) (v := .long fsumAA) (C := RX1) (T := TX1) (N := 15) hx hb htb iX1 hown hK.1 hP 0 rfl rfl 5 (by decide) (htb _ k_88) (fun _ h9 => h9) rfl dX1_solve_25 ?_
  refine lv_lmul hx hb dX1_solve_28 ?_
  refine lv_topl (fun z_4 ez_4 => ?_)
  refine lv_aload_n hx hb dX1_solve_29 rfl (lv_at hl 1 rfl) ?_
  refine va_get (D := D) (ci := 1) (v := .long fsumA) (C := RX1) (T := TX1) (N := 15) hx hb htb iX1 hown hK.1 hP 0 rfl rfl 3 (by decide) (htb _ k_86) (fun _ h9 => h9) rfl dX1_solve_30 ?_
  refine lv_aload_n hx hb dX1_solve_33 rfl (lv_at hl 1 rfl) ?_
  refine va_get (D := D) (ci := 1) (v := .long fsumA) (C := RX1) (T := TX1) (N := 15) hx hb htb iX1 hown hK.1 hP 0 rfl rfl 3 (by decide) (htb _ k_86) (fun _ h9 => h9) rfl dX1_solve_34 ?_
  refine lv_lmul hx hb dX1_solve_37 ?_
  refine lv_topl (fun z_5 ez_5 => ?_)
  refine lv_lsub hx hb dX1_solve_38 ?_
  refine lv_topl (fun z_6 ez_6 => ?_)
  refine lv_lstore_n (lv' := [(3, .long z_6), (1, .long z_3), (0, .ref fh)]) hx hb dX1_solve_39 rfl hl (by decide) rfl (fun ls hl => ?_)
  refine lv_aload_n hx hb dX1_solve_40 rfl (lv_at hl 2 rfl) ?_
  refine va_get (D := D) (ci := 1) (v := .long fn) (C := RX1) (T := TX1) (N := 15) hx hb htb iX1 hown hK.1 hP 0 rfl rfl 0 (by decide) (htb _ k_83) (fun _ h9 => h9) rfl dX1_solve_41 ?_
  refine lv_aload_n hx hb dX1_solve_44 rfl (lv_at hl 2 rfl) ?_
  refine va_get (D := D) (ci := 1) (v := .long fsumWA) (C := RX1) (T := TX1) (N := 15) hx hb htb iX1 hown hK.1 hP 0 rfl rfl 6 (by decide) (htb _ k_89) (fun _ h9 => h9) rfl dX1_solve_45 ?_
  refine lv_lmul hx hb dX1_solve_48 ?_
  refine lv_topl (fun z_7 ez_7 => ?_)
  refine lv_aload_n hx hb dX1_solve_49 rfl (lv_at hl 2 rfl) ?_
  refine va_get (D := D) (ci := 1) (v := .long fsumW) (C := RX1) (T := TX1) (N := 15) hx hb htb iX1 hown hK.1 hP 0 rfl rfl 2 (by decide) (htb _ k_85) (fun _ h9 => h9) rfl dX1_solve_50 ?_
  refine lv_aload_n hx hb dX1_solve_53 rfl (lv_at hl 2 rfl) ?_
  refine va_get (D := D) (ci := 1) (v := .long fsumA) (C := RX1) (T := TX1) (N := 15) hx hb htb iX1 hown hK.1 hP 0 rfl rfl 3 (by decide) (htb _ k_86) (fun _ h9 => h9) rfl dX1_solve_54 ?_
  refine lv_lmul hx hb dX1_solve_57 ?_
  refine lv_topl (fun z_8 ez_8 => ?_)
  refine lv_lsub hx hb dX1_solve_58 ?_
  refine lv_topl (fun z_9 ez_9 => ?_)
  refine lv_lstore (lv' := [(5, .long z_9), (3, .long z_6), (1, .long z_3), (0, .ref fh)]) hx hb dX1_solve_59 hl (by decide) rfl (fun ls hl => ?_)
  refine lv_aload_n hx hb dX1_solve_61 rfl (lv_at hl 3 rfl) ?_
  refine va_get (D := D) (ci := 1) (v := .long fn) (C := RX1) (T := TX1) (N := 15) hx hb htb iX1 hown hK.1 hP 0 rfl rfl 0 (by decide) (htb _ k_83) (fun _ h9 => h9) rfl dX1_solve_62 ?_
  refine lv_aload_n hx hb dX1_solve_65 rfl (lv_at hl 3 rfl) ?_
  refine va_get (D := D) (ci := 1) (v := .long fsumWR) (C := RX1) (T := TX1) (N := 15) hx hb htb iX1 hown hK.1 hP 0 rfl rfl 7 (by decide) (htb _ k_90) (fun _ h9 => h9) rfl dX1_solve_66 ?_
  refine lv_lmul hx hb dX1_solve_69 ?_
  refine lv_topl (fun z_10 ez_10 => ?_)
  refine lv_aload_n hx hb dX1_solve_70 rfl (lv_at hl 3 rfl) ?_
  refine va_get (D := D) (ci := 1) (v := .long fsumW) (C := RX1) (T := TX1) (N := 15) hx hb htb iX1 hown hK.1 hP 0 rfl rfl 2 (by decide) (htb _ k_85) (fun _ h9 => h9) rfl dX1_solve_71 ?_
  refine lv_aload_n hx hb dX1_solve_74 rfl (lv_at hl 3 rfl) ?_
  refine va_get (D := D) (ci := 1) (v := .long fsumR) (C := RX1) (T := TX1) (N := 15) hx hb htb iX1 hown hK.1 hP 0 rfl rfl 1 (by decide) (htb _ k_84) (fun _ h9 => h9) rfl dX1_solve_75 ?_
  refine lv_lmul hx hb dX1_solve_78 ?_
  refine lv_topl (fun z_11 ez_11 => ?_)
  refine lv_lsub hx hb dX1_solve_79 ?_
  refine lv_topl (fun z_12 ez_12 => ?_)
  refine lv_lstore (lv' := [(7, .long z_12), (5, .long z_9), (3, .long z_6), (1, .long z_3), (0, .ref fh)]) hx hb dX1_solve_80 hl (by decide) rfl (fun ls hl => ?_)
  refine lv_aload_n hx hb dX1_solve_82 rfl (lv_at hl 4 rfl) ?_
  refine va_get (D := D) (ci := 1) (v := .long fn) (C := RX1) (T := TX1) (N := 15) hx hb htb iX1 hown hK.1 hP 0 rfl rfl 0 (by decide) (htb _ k_83) (fun _ h9 => h9) rfl dX1_solve_83 ?_
  refine lv_aload_n hx hb dX1_solve_86 rfl (lv_at hl 4 rfl) ?_
  refine va_get (D := D) (ci := 1) (v := .long fsumAR) (C := RX1) (T := TX1) (N := 15) hx hb htb iX1 hown hK.1 hP 0 rfl rfl 8 (by decide) (htb _ k_91) (fun _ h9 => h9) rfl dX1_solve_87 ?_
  refine lv_lmul hx hb dX1_solve_90 ?_
  refine lv_topl (fun z_13 ez_13 => ?_)
  refine lv_aload_n hx hb dX1_solve_91 rfl (lv_at hl 4 rfl) ?_
  refine va_get (D := D) (ci := 1) (v := .long fsumA) (C := RX1) (T := TX1) (N := 15) hx hb htb iX1 hown hK.1 hP 0 rfl rfl 3 (by decide) (htb _ k_86) (fun _ h9 => h9) rfl dX1_solve_92 ?_
  refine lv_aload_n hx hb dX1_solve_95 rfl (lv_at hl 4 rfl) ?_
  refine va_get (D := D) (ci := 1) (v := .long fsumR) (C := RX1) (T := TX1) (N := 15) hx hb htb iX1 hown hK.1 hP 0 rfl rfl 1 (by decide) (htb _ k_84) (fun _ h9 => h9) rfl dX1_solve_96 ?_
  refine lv_lmul hx hb dX1_solve_99 ?_
  refine lv_topl (fun z_14 ez_14 => ?_)
  refine lv_lsub hx hb dX1_solve_100 ?_
  refine lv_topl (fun z_15 ez_15 => ?_)
  refine lv_lstore (lv' := [(9, .long z_15), (7, .long z_12), (5, .long z_9), (3, .long z_6), (1, .long z_3), (0, .ref fh)]) hx hb dX1_solve_101 hl (by decide) rfl (fun ls hl => ?_)
  refine lv_lload_n hx hb dX1_solve_103 rfl (lv_at hl 4 rfl) ?_
  refine lv_lload_n hx hb dX1_solve_104 rfl (lv_at hl 3 rfl) ?_
  refine lv_lmul hx hb dX1_solve_105 ?_
  refine lv_topl (fun z_16 ez_16 => ?_)
  refine lv_lload hx hb dX1_solve_106 (lv_at hl 2 rfl) ?_
  refine lv_lload hx hb dX1_solve_108 (lv_at hl 2 rfl) ?_
  refine lv_lmul hx hb dX1_solve_110 ?_
  refine lv_topl (fun z_17 ez_17 => ?_)
  refine lv_lsub hx hb dX1_solve_111 ?_
  refine lv_topl (fun z_18 ez_18 => ?_)
  refine lv_lstore (lv' := [(11, .long z_18), (9, .long z_15), (7, .long z_12), (5, .long z_9), (3, .long z_6), (1, .long z_3), (0, .ref fh)]) hx hb dX1_solve_112 hl (by decide) rfl (fun ls hl => ?_)
  refine lv_lload hx hb dX1_solve_114 (lv_at hl 0 rfl) ?_
  refine lv_lconst (v := 0) hx hb dX1_solve_116 (by decide) ?_
  refine W.lcmp hx hb dX1_solve_117 ?_
  refine lv_topi (fun z_19 ez_19 => ?_)
  refine lv_if_le (tgt := 151) hx hb dX1_solve_118 (by decide) (fun c_20 => ?_) (fun c_20 => ?_)
  ·
    have lc_21 : (z_18 : Int64).toInt ≤ (0 : Int64).toInt := lc_leI (by rw [← ez_19]; first | exact Or.inl c_20 | exact Or.inr c_20)
    refine lv_lload_n hx hb dX1_solve_151 rfl (lv_at hl 5 rfl) ?_
    refine lv_lconst (v := 0) hx hb dX1_solve_152 (by decide) ?_
    refine W.lcmp hx hb dX1_solve_153 ?_
    refine lv_topi (fun z_22 ez_22 => ?_)
    refine lv_if_le (tgt := 169) hx hb dX1_solve_154 (by decide) (fun c_23 => ?_) (fun c_23 => ?_)
    ·
      have lc_24 : (z_3 : Int64).toInt ≤ (0 : Int64).toInt := lc_leI (by rw [← ez_22]; first | exact Or.inl c_23 | exact Or.inr c_23)
      refine lv_lload_n hx hb dX1_solve_169 rfl (lv_at hl 4 rfl) ?_
      refine lv_lconst (v := 0) hx hb dX1_solve_170 (by decide) ?_
      refine W.lcmp hx hb dX1_solve_171 ?_
      refine lv_topi (fun z_25 ez_25 => ?_)
      refine lv_if_le (tgt := 187) hx hb dX1_solve_172 (by decide) (fun c_26 => ?_) (fun c_26 => ?_)
      ·
        have lc_27 : (z_6 : Int64).toInt ≤ (0 : Int64).toInt := lc_leI (by rw [← ez_25]; first | exact Or.inl c_26 | exact Or.inr c_26)
        refine lv_aload_n hx hb dX1_solve_187 rfl (lv_at hl 6 rfl) ?_
        refine lv_iconst (v := 1) hx hb dX1_solve_188 (by decide) ?_
        refine lv_lconst (v := 1) hx hb dX1_solve_189 (by decide) ?_
        refine lv_lconst (v := 0) hx hb dX1_solve_190 (by decide) ?_
        refine lv_lconst (v := 0) hx hb dX1_solve_191 (by decide) ?_
        have hPc := hP.sub (ws' := [(fh, .inr (1, G1 fa fn fsumR fsumW fsumA fsumWW fsumAA fsumWA fsumWR fsumAR fdivisor fbyWarmth fbyAge fform fwhole frest))]) [0] rfl
        have hDc := hD.sub (ws' := [(fh, .inr (1, G1 fa fn fsumR fsumW fsumA fsumWW fsumAA fsumWA fsumWR fsumAR fdivisor fbyWarmth fbyAge fform fwhole frest))]) [0] (by decide) rfl
        refine aft_v (runMV (rest := []) (As := [.int 1, .long 1, .long 0, .long 0]) hx hb hml hown htb hK (g_X1_setLaw l D E fh fa fn fsumR fsumW fsumA fsumWW fsumAA fsumWA fsumWR fsumAR fdivisor fbyWarmth fbyAge fform fwhole frest 1 1 0 0 _ ) ok_X1_setLaw k_517 k_519 ks_8 k_4 k_520 ⟨(Nat.le_of_ble_eq_true rfl), (Nat.le_of_ble_eq_true rfl)⟩ ⟨(Nat.le_of_ble_eq_true rfl), (Nat.le_of_ble_eq_true rfl)⟩ hl.1 (Nat.le_of_ble_eq_true rfl) rfl rfl dX1_solve_192 hPc hDc rfl rfl 0 rfl) hP hD hS hA [0] [] (wr := ([] : va_W)) rfl rfl (by decide) (by decide) (fun u_30 H locs hw_29 hP hD hS => ?_)
        clear hPc hDc
        obtain ⟨w_31, w_32, w_33, w_34⟩ := u_30
        try dsimp only at hw_29
        have hP : va_P D vwCl [(fh, .inr (1, G1 fa fn fsumR fsumW fsumA fsumWW fsumAA fsumWA fsumWR fsumAR w_33 w_32 w_31 w_34 fwhole frest))] H := hP
        have hD := toW hP hD rfl
        try simp only [t_0, t_1] at hw_29
        have hP9 := hP.sub (ws' := [(fh, .inr (1, G1 fa fn fsumR fsumW fsumA fsumWW fsumAA fsumWA fsumWR fsumAR w_33 w_32 w_31 w_34 fwhole frest))]) [0] rfl
        have hD9 := hD.sub (ws' := [(fh, .inr (1, G1 fa fn fsumR fsumW fsumA fsumWW fsumAA fsumWA fsumWR fsumAR w_33 w_32 w_31 w_34 fwhole frest))]) [0] (by decide) rfl
        exact W.vret hx hb hr (fun t ht hW => ⟨⟨(w_31, w_32, w_33, w_34), rfl, (by (try dsimp only); rw [hw_29]; unfold solX; (try dsimp only); rw [if_neg (by have h0 : (0 : Int64).toInt = 0 := by { decide }; have h9 := lc_21; subst_vars; omega)]; rw [if_neg (by have h0 : (0 : Int64).toInt = 0 := by { decide }; have h9 := lc_24; subst_vars; omega)]; rw [if_neg (by have h0 : (0 : Int64).toInt = 0 := by { decide }; have h9 := lc_27; subst_vars; omega)]; (try subst_vars); (try rfl)), by rw [ht]; exact hP9, hD9⟩, hS.F ht⟩) hS.2.2 dX1_solve_195
      ·
        have lc_35 : (0 : Int64).toInt < (z_6 : Int64).toInt := lc_gtI (by rw [← ez_25]; first | exact Or.inl c_26 | exact Or.inr c_26)
        refine lv_aload_n hx hb dX1_solve_175 rfl (lv_at hl 6 rfl) ?_
        refine lv_iconst (v := 4) hx hb dX1_solve_176 (by decide) ?_
        refine lv_lload_n hx hb dX1_solve_177 rfl (lv_at hl 4 rfl) ?_
        refine lv_lconst (v := 0) hx hb dX1_solve_178 (by decide) ?_
        refine lv_lload hx hb dX1_solve_179 (lv_at hl 1 rfl) ?_
        have hPc := hP.sub (ws' := [(fh, .inr (1, G1 fa fn fsumR fsumW fsumA fsumWW fsumAA fsumWA fsumWR fsumAR fdivisor fbyWarmth fbyAge fform fwhole frest))]) [0] rfl
        have hDc := hD.sub (ws' := [(fh, .inr (1, G1 fa fn fsumR fsumW fsumA fsumWW fsumAA fsumWA fsumWR fsumAR fdivisor fbyWarmth fbyAge fform fwhole frest))]) [0] (by decide) rfl
        refine aft_v (runMV (rest := []) (As := [.int 4, .long z_6, .long 0, .long z_15]) hx hb hml hown htb hK (g_X1_setLaw l D E fh fa fn fsumR fsumW fsumA fsumWW fsumAA fsumWA fsumWR fsumAR fdivisor fbyWarmth fbyAge fform fwhole frest 4 z_6 0 z_15 _ ) ok_X1_setLaw k_517 k_519 ks_8 k_4 k_520 ⟨(Nat.le_of_ble_eq_true rfl), (Nat.le_of_ble_eq_true rfl)⟩ ⟨(Nat.le_of_ble_eq_true rfl), (Nat.le_of_ble_eq_true rfl)⟩ hl.1 (Nat.le_of_ble_eq_true rfl) rfl rfl dX1_solve_181 hPc hDc rfl rfl 0 rfl) hP hD hS hA [0] [] (wr := ([] : va_W)) rfl rfl (by decide) (by decide) (fun u_38 H locs hw_37 hP hD hS => ?_)
        clear hPc hDc
        obtain ⟨w_39, w_40, w_41, w_42⟩ := u_38
        try dsimp only at hw_37
        have hP : va_P D vwCl [(fh, .inr (1, G1 fa fn fsumR fsumW fsumA fsumWW fsumAA fsumWA fsumWR fsumAR w_41 w_40 w_39 w_42 fwhole frest))] H := hP
        have hD := toW hP hD rfl
        try simp only [t_0, t_4] at hw_37
        refine lv_goto (tgt := 195) hx hb dX1_solve_184 (by decide) ?_
        have hP9 := hP.sub (ws' := [(fh, .inr (1, G1 fa fn fsumR fsumW fsumA fsumWW fsumAA fsumWA fsumWR fsumAR w_41 w_40 w_39 w_42 fwhole frest))]) [0] rfl
        have hD9 := hD.sub (ws' := [(fh, .inr (1, G1 fa fn fsumR fsumW fsumA fsumWW fsumAA fsumWA fsumWR fsumAR w_41 w_40 w_39 w_42 fwhole frest))]) [0] (by decide) rfl
        exact W.vret hx hb hr (fun t ht hW => ⟨⟨(w_39, w_40, w_41, w_42), rfl, (by (try dsimp only); rw [hw_37]; unfold solX; (try dsimp only); rw [if_neg (by have h0 : (0 : Int64).toInt = 0 := by { decide }; have h9 := lc_21; subst_vars; omega)]; rw [if_neg (by have h0 : (0 : Int64).toInt = 0 := by { decide }; have h9 := lc_24; subst_vars; omega)]; rw [if_pos (by have h0 : (0 : Int64).toInt = 0 := by { decide }; have h9 := lc_35; subst_vars; omega)]; (try subst_vars); (try rfl)), by rw [ht]; exact hP9, hD9⟩, hS.F ht⟩) hS.2.2 dX1_solve_195
    ·
      have lc_43 : (0 : Int64).toInt < (z_3 : Int64).toInt := lc_gtI (by rw [← ez_22]; first | exact Or.inl c_23 | exact Or.inr c_23)
      refine lv_aload_n hx hb dX1_solve_157 rfl (lv_at hl 6 rfl) ?_
      refine lv_iconst (v := 2) hx hb dX1_solve_158 (by decide) ?_
      refine lv_lload_n hx hb dX1_solve_159 rfl (lv_at hl 5 rfl) ?_
      refine lv_lload hx hb dX1_solve_160 (lv_at hl 2 rfl) ?_
      refine lv_lconst (v := 0) hx hb dX1_solve_162 (by decide) ?_
      have hPc := hP.sub (ws' := [(fh, .inr (1, G1 fa fn fsumR fsumW fsumA fsumWW fsumAA fsumWA fsumWR fsumAR fdivisor fbyWarmth fbyAge fform fwhole frest))]) [0] rfl
      have hDc := hD.sub (ws' := [(fh, .inr (1, G1 fa fn fsumR fsumW fsumA fsumWW fsumAA fsumWA fsumWR fsumAR fdivisor fbyWarmth fbyAge fform fwhole frest))]) [0] (by decide) rfl
      refine aft_v (runMV (rest := []) (As := [.int 2, .long z_3, .long z_12, .long 0]) hx hb hml hown htb hK (g_X1_setLaw l D E fh fa fn fsumR fsumW fsumA fsumWW fsumAA fsumWA fsumWR fsumAR fdivisor fbyWarmth fbyAge fform fwhole frest 2 z_3 z_12 0 _ ) ok_X1_setLaw k_517 k_519 ks_8 k_4 k_520 ⟨(Nat.le_of_ble_eq_true rfl), (Nat.le_of_ble_eq_true rfl)⟩ ⟨(Nat.le_of_ble_eq_true rfl), (Nat.le_of_ble_eq_true rfl)⟩ hl.1 (Nat.le_of_ble_eq_true rfl) rfl rfl dX1_solve_163 hPc hDc rfl rfl 0 rfl) hP hD hS hA [0] [] (wr := ([] : va_W)) rfl rfl (by decide) (by decide) (fun u_46 H locs hw_45 hP hD hS => ?_)
      clear hPc hDc
      obtain ⟨w_47, w_48, w_49, w_50⟩ := u_46
      try dsimp only at hw_45
      have hP : va_P D vwCl [(fh, .inr (1, G1 fa fn fsumR fsumW fsumA fsumWW fsumAA fsumWA fsumWR fsumAR w_49 w_48 w_47 w_50 fwhole frest))] H := hP
      have hD := toW hP hD rfl
      try simp only [t_0, t_2] at hw_45
      refine lv_goto (tgt := 195) hx hb dX1_solve_166 (by decide) ?_
      have hP9 := hP.sub (ws' := [(fh, .inr (1, G1 fa fn fsumR fsumW fsumA fsumWW fsumAA fsumWA fsumWR fsumAR w_49 w_48 w_47 w_50 fwhole frest))]) [0] rfl
      have hD9 := hD.sub (ws' := [(fh, .inr (1, G1 fa fn fsumR fsumW fsumA fsumWW fsumAA fsumWA fsumWR fsumAR w_49 w_48 w_47 w_50 fwhole frest))]) [0] (by decide) rfl
      exact W.vret hx hb hr (fun t ht hW => ⟨⟨(w_47, w_48, w_49, w_50), rfl, (by (try dsimp only); rw [hw_45]; unfold solX; (try dsimp only); rw [if_neg (by have h0 : (0 : Int64).toInt = 0 := by { decide }; have h9 := lc_21; subst_vars; omega)]; rw [if_pos (by have h0 : (0 : Int64).toInt = 0 := by { decide }; have h9 := lc_43; subst_vars; omega)]; (try subst_vars); (try rfl)), by rw [ht]; exact hP9, hD9⟩, hS.F ht⟩) hS.2.2 dX1_solve_195
  ·
    have lc_51 : (0 : Int64).toInt < (z_18 : Int64).toInt := lc_gtI (by rw [← ez_19]; first | exact Or.inl c_20 | exact Or.inr c_20)
    refine lv_aload_n hx hb dX1_solve_121 rfl (lv_at hl 6 rfl) ?_
    refine lv_iconst (v := 3) hx hb dX1_solve_122 (by decide) ?_
    refine lv_lload hx hb dX1_solve_123 (lv_at hl 0 rfl) ?_
    refine lv_lload hx hb dX1_solve_125 (lv_at hl 2 rfl) ?_
    refine lv_lload_n hx hb dX1_solve_127 rfl (lv_at hl 4 rfl) ?_
    refine lv_lmul hx hb dX1_solve_128 ?_
    refine lv_topl (fun z_52 ez_52 => ?_)
    refine lv_lload hx hb dX1_solve_129 (lv_at hl 1 rfl) ?_
    refine lv_lload hx hb dX1_solve_131 (lv_at hl 3 rfl) ?_
    refine lv_lmul hx hb dX1_solve_133 ?_
    refine lv_topl (fun z_53 ez_53 => ?_)
    refine lv_lsub hx hb dX1_solve_134 ?_
    refine lv_topl (fun z_54 ez_54 => ?_)
    refine lv_lload hx hb dX1_solve_135 (lv_at hl 1 rfl) ?_
    refine lv_lload_n hx hb dX1_solve_137 rfl (lv_at hl 5 rfl) ?_
    refine lv_lmul hx hb dX1_solve_138 ?_
    refine lv_topl (fun z_55 ez_55 => ?_)
    refine lv_lload hx hb dX1_solve_139 (lv_at hl 2 rfl) ?_
    refine lv_lload hx hb dX1_solve_141 (lv_at hl 3 rfl) ?_
    refine lv_lmul hx hb dX1_solve_143 ?_
    refine lv_topl (fun z_56 ez_56 => ?_)
    refine lv_lsub hx hb dX1_solve_144 ?_
    refine lv_topl (fun z_57 ez_57 => ?_)
    have hPc := hP.sub (ws' := [(fh, .inr (1, G1 fa fn fsumR fsumW fsumA fsumWW fsumAA fsumWA fsumWR fsumAR fdivisor fbyWarmth fbyAge fform fwhole frest))]) [0] rfl
    have hDc := hD.sub (ws' := [(fh, .inr (1, G1 fa fn fsumR fsumW fsumA fsumWW fsumAA fsumWA fsumWR fsumAR fdivisor fbyWarmth fbyAge fform fwhole frest))]) [0] (by decide) rfl
    refine aft_v (runMV (rest := []) (As := [.int 3, .long z_18, .long z_54, .long z_57]) hx hb hml hown htb hK (g_X1_setLaw l D E fh fa fn fsumR fsumW fsumA fsumWW fsumAA fsumWA fsumWR fsumAR fdivisor fbyWarmth fbyAge fform fwhole frest 3 z_18 z_54 z_57 _ ) ok_X1_setLaw k_517 k_519 ks_8 k_4 k_520 ⟨(Nat.le_of_ble_eq_true rfl), (Nat.le_of_ble_eq_true rfl)⟩ ⟨(Nat.le_of_ble_eq_true rfl), (Nat.le_of_ble_eq_true rfl)⟩ hl.1 (Nat.le_of_ble_eq_true rfl) rfl rfl dX1_solve_145 hPc hDc rfl rfl 0 rfl) hP hD hS hA [0] [] (wr := ([] : va_W)) rfl rfl (by decide) (by decide) (fun u_60 H locs hw_59 hP hD hS => ?_)
    clear hPc hDc
    obtain ⟨w_61, w_62, w_63, w_64⟩ := u_60
    try dsimp only at hw_59
    have hP : va_P D vwCl [(fh, .inr (1, G1 fa fn fsumR fsumW fsumA fsumWW fsumAA fsumWA fsumWR fsumAR w_63 w_62 w_61 w_64 fwhole frest))] H := hP
    have hD := toW hP hD rfl
    try simp only [t_3] at hw_59
    refine lv_goto (tgt := 195) hx hb dX1_solve_148 (by decide) ?_
    have hP9 := hP.sub (ws' := [(fh, .inr (1, G1 fa fn fsumR fsumW fsumA fsumWW fsumAA fsumWA fsumWR fsumAR w_63 w_62 w_61 w_64 fwhole frest))]) [0] rfl
    have hD9 := hD.sub (ws' := [(fh, .inr (1, G1 fa fn fsumR fsumW fsumA fsumWW fsumAA fsumWA fsumWR fsumAR w_63 w_62 w_61 w_64 fwhole frest))]) [0] (by decide) rfl
    exact W.vret hx hb hr (fun t ht hW => ⟨⟨(w_61, w_62, w_63, w_64), rfl, (by (try dsimp only); rw [hw_59]; unfold solX; (try dsimp only); rw [if_pos (by have h0 : (0 : Int64).toInt = 0 := by { decide }; have h9 := lc_51; subst_vars; omega)]; (try subst_vars); (try rfl)), by rw [ht]; exact hP9, hD9⟩, hS.F ht⟩) hS.2.2 dX1_solve_195
set_option maxHeartbeats 4000000 in
set_option maxRecDepth 100000 in
theorem g_X4_isAhead (l : Launch) (D : va_G) (E : Nat → Nat) (p0 : Int32)  : Met l yX4_isAhead (wl yX4_isAhead cX4_isAhead 1 (some .boolean)) (RM 0 0 0) (rd_P D E [.int p0] ([] : va_W)) (rd_Q (fun r => ((r = 1 ∧ (p0.toInt = 6 ∨ p0.toInt = 7 ∨ p0.toInt = 8)) ∨ (r = 0 ∧ ¬ (p0.toInt = 6 ∨ p0.toInt = 7 ∨ p0.toInt = 8))))) 0 0 (fun _ => False) := by
  refine Met.ofW (cc := cX4_isAhead) (maxL := 1) (ret := (some .boolean)) (by decide) rfl ?_
  intro p e s m args below meth c s₁ B hml hv
  obtain ⟨rfl, hP, hK⟩ := hv
  have hx := B.exec; have hb := B.bytes; have hr := B.returns
  have hts := atoms_spec (ws := wl yX4_isAhead cX4_isAhead 1 (some .boolean)) B.pre
  have htb : ∀ w ∈ tb, w.before _ s = true := fun w h => hts w (List.mem_cons_of_mem _ h)
  have hown : s.vm.findClass RX4 = some m.cls := findClass_of_methodNamed B.named
  have hlocks := B.notSynchronized
  have hP : va_P D vwCl ([] : va_W) s.heap := hP
  have hl := lv_entry ([.int p0]) (n := 1) (Nat.le_of_ble_eq_true rfl)
  rw [lg_entry_eq]
  generalize (lg_sl ([.int p0]) ++ List.replicate (1 - (lg_sl ([.int p0])).length) Slot.unset).toArray = ls at hl ⊢
  have hl : lv_has ls 1 [(0, .int p0)] := hl
  have lo_p0 := i_lo p0; have hi_p0 := i_hi p0
  refine lv_iload_n hx hb dX4_isAhead_0 rfl (lv_at hl 0 rfl) ?_
  refine lv_bipush (v := 6) hx hb dX4_isAhead_1 (by decide) ?_
  refine lv_icmp_eq (tgt := 18) hx hb dX4_isAhead_3 (by decide) (fun c_1 => ?_) (fun c_1 => ?_)
  ·
    have ic_1 : p0.toInt = 6 := (g_eq rfl t_6).mp c_1
    clear c_1
    refine lv_iconst (v := 1) hx hb dX4_isAhead_18 (by decide) ?_
    refine lv_goto (tgt := 23) hx hb dX4_isAhead_19 (by decide) ?_
    exact W.zret (v := 1) hx hb hr rfl (fun t ht hW => ⟨1, rfl, by first | exact Or.inl ⟨rfl, by omega⟩ | (exfalso; omega), ht⟩) (fun q h => by cases h) dX4_isAhead_23
  ·
    have ic_1 : p0.toInt ≠ 6 := mt (g_eq rfl t_6).mpr c_1
    clear c_1
    refine lv_iload_n hx hb dX4_isAhead_6 rfl (lv_at hl 0 rfl) ?_
    refine lv_bipush (v := 7) hx hb dX4_isAhead_7 (by decide) ?_
    refine lv_icmp_eq (tgt := 18) hx hb dX4_isAhead_9 (by decide) (fun c_2 => ?_) (fun c_2 => ?_)
    ·
      have ic_2 : p0.toInt = 7 := (g_eq rfl t_7).mp c_2
      clear c_2
      refine lv_iconst (v := 1) hx hb dX4_isAhead_18 (by decide) ?_
      refine lv_goto (tgt := 23) hx hb dX4_isAhead_19 (by decide) ?_
      exact W.zret (v := 1) hx hb hr rfl (fun t ht hW => ⟨1, rfl, by first | exact Or.inl ⟨rfl, by omega⟩ | (exfalso; omega), ht⟩) (fun q h => by cases h) dX4_isAhead_23
    ·
      have ic_2 : p0.toInt ≠ 7 := mt (g_eq rfl t_7).mpr c_2
      clear c_2
      refine lv_iload_n hx hb dX4_isAhead_12 rfl (lv_at hl 0 rfl) ?_
      refine lv_bipush (v := 8) hx hb dX4_isAhead_13 (by decide) ?_
      refine lv_icmp_ne (tgt := 22) hx hb dX4_isAhead_15 (by decide) (fun c_3 => ?_) (fun c_3 => ?_)
      ·
        have ic_3 : p0.toInt ≠ 8 := mt (g_eq rfl t_8).mpr c_3
        clear c_3
        refine lv_iconst (v := 0) hx hb dX4_isAhead_22 (by decide) ?_
        exact W.zret (v := 0) hx hb hr rfl (fun t ht hW => ⟨0, rfl, by first | exact Or.inr ⟨rfl, by omega⟩ | (exfalso; omega), ht⟩) (fun q h => by cases h) dX4_isAhead_23
      ·
        have ic_3 : p0.toInt = 8 := (g_eq rfl t_8).mp c_3
        clear c_3
        refine lv_iconst (v := 1) hx hb dX4_isAhead_18 (by decide) ?_
        refine lv_goto (tgt := 23) hx hb dX4_isAhead_19 (by decide) ?_
        exact W.zret (v := 1) hx hb hr rfl (fun t ht hW => ⟨1, rfl, by first | exact Or.inl ⟨rfl, by omega⟩ | (exfalso; omega), ht⟩) (fun q h => by cases h) dX4_isAhead_23
set_option maxHeartbeats 4000000 in
set_option maxRecDepth 100000 in
theorem g_X4_workOutOne (l : Launch) (D : va_G) (E : Nat → Nat) (p0 : Int32) (p1 : Int32)  : Met l yX4_workOutOne (wl yX4_workOutOne cX4_workOutOne 2 (some .int)) (RM 0 0 0) (rd_P D E [.int p0, .int p1] ([] : va_W)) (rd_Q (fun r => (r = wo1 p0.toInt p1))) 0 0 (fun _ => False) := by
  refine Met.ofW (cc := cX4_workOutOne) (maxL := 2) (ret := (some .int)) (by decide) rfl ?_
  intro p e s m args below meth c s₁ B hml hv
  obtain ⟨rfl, hP, hK⟩ := hv
  have hx := B.exec; have hb := B.bytes; have hr := B.returns
  have hts := atoms_spec (ws := wl yX4_workOutOne cX4_workOutOne 2 (some .int)) B.pre
  have htb : ∀ w ∈ tb, w.before _ s = true := fun w h => hts w (List.mem_cons_of_mem _ h)
  have hown : s.vm.findClass RX4 = some m.cls := findClass_of_methodNamed B.named
  have hlocks := B.notSynchronized
  have hP : va_P D vwCl ([] : va_W) s.heap := hP
  have hl := lv_entry ([.int p0, .int p1]) (n := 2) (Nat.le_of_ble_eq_true rfl)
  rw [lg_entry_eq]
  generalize (lg_sl ([.int p0, .int p1]) ++ List.replicate (2 - (lg_sl ([.int p0, .int p1])).length) Slot.unset).toArray = ls at hl ⊢
  have hl : lv_has ls 2 [(0, .int p0), (1, .int p1)] := hl
  have lo_p0 := i_lo p0; have hi_p0 := i_hi p0
  have lo_p1 := i_lo p1; have hi_p1 := i_hi p1
  refine lv_iload_n hx hb dX4_workOutOne_0 rfl (lv_at hl 0 rfl) ?_
  by_cases h_1 : p0 = 6
  ·
    have ih_1 : p0.toInt = 6 := (g_eq rfl t_6).mp h_1
    refine lv_lookup (off := 27) (tgt := 28) hx hb dX4_workOutOne_1 (by decide) (by rw [ih_1]; decide) (by decide) ?_
    refine lv_iload_n hx hb dX4_workOutOne_28 rfl (lv_at hl 1 rfl) ?_
    refine lv_if_ne (tgt := 36) hx hb dX4_workOutOne_29 (by decide) (fun c_2 => ?_) (fun c_2 => ?_)
    ·
      have ic_2 : p1.toInt ≠ 0 := mt (g_eq rfl t_0).mpr c_2
      clear c_2
      refine lv_iconst (v := 0) hx hb dX4_workOutOne_36 (by decide) ?_
      exact W.iret (v := 0) hx hb hr (fun t ht hW => ⟨0, rfl, (by unfold wo1; (repeat' split) <;> first | rfl | assumption | (exfalso; omega)), ht⟩) (fun q h => by cases h) dX4_workOutOne_37
    ·
      have ic_2 : p1.toInt = 0 := (g_eq rfl t_0).mp c_2
      clear c_2
      refine lv_iconst (v := 1) hx hb dX4_workOutOne_32 (by decide) ?_
      refine lv_goto (tgt := 37) hx hb dX4_workOutOne_33 (by decide) ?_
      exact W.iret (v := 1) hx hb hr (fun t ht hW => ⟨1, rfl, (by unfold wo1; (repeat' split) <;> first | rfl | assumption | (exfalso; omega)), ht⟩) (fun q h => by cases h) dX4_workOutOne_37
  ·
    have ih_1 : p0.toInt ≠ 6 := mt (g_eq rfl t_6).mpr h_1
    by_cases h_3 : p0 = 7
    ·
      have ih_3 : p0.toInt = 7 := (g_eq rfl t_7).mp h_3
      refine lv_lookup (off := 37) (tgt := 38) hx hb dX4_workOutOne_1 (by decide) (by rw [ih_3]; decide) (by decide) ?_
      refine lv_iload_n hx hb dX4_workOutOne_38 rfl (lv_at hl 1 rfl) ?_
      refine lv_if_ge (tgt := 47) hx hb dX4_workOutOne_39 (by decide) (fun c_4 => ?_) (fun c_4 => ?_)
      ·
        have ic_4 : 0 ≤ p1.toInt := by first | exact (g_le t_0 rfl).mp c_4 | (have h := mt (g_lt rfl t_0).mpr c_4; omega)
        clear c_4
        refine lv_iload_n hx hb dX4_workOutOne_47 rfl (lv_at hl 1 rfl) ?_
        exact W.iret (v := p1) hx hb hr (fun t ht hW => ⟨p1, rfl, (by unfold wo1; (repeat' split) <;> first | rfl | assumption | (exfalso; omega)), ht⟩) (fun q h => by cases h) dX4_workOutOne_48
      ·
        have ic_4 : p1.toInt < 0 := by first | exact (g_lt rfl t_0).mp c_4 | (have h := mt (g_le t_0 rfl).mpr c_4; omega)
        clear c_4
        refine lv_iload_n hx hb dX4_workOutOne_42 rfl (lv_at hl 1 rfl) ?_
        refine lv_ineg hx hb dX4_workOutOne_43 ?_
        refine lv_topi (fun z_5 ez_5 => ?_)
        refine lv_goto (tgt := 48) hx hb dX4_workOutOne_44 (by decide) ?_
        exact W.iret (v := z_5) hx hb hr (fun t ht hW => ⟨z_5, rfl, (by unfold wo1; (repeat' split) <;> first | rfl | assumption | (exfalso; omega)), ht⟩) (fun q h => by cases h) dX4_workOutOne_48
    ·
      have ih_3 : p0.toInt ≠ 7 := mt (g_eq rfl t_7).mpr h_3
      refine lv_lookup (off := 48) (tgt := 49) hx hb dX4_workOutOne_1 (by decide) (by rw [lv_osw h_1 t_6, lv_osw h_3 t_7]; rfl) (by decide) ?_
      refine lv_iload_n hx hb dX4_workOutOne_49 rfl (lv_at hl 1 rfl) ?_
      refine lv_ineg hx hb dX4_workOutOne_50 ?_
      refine lv_topi (fun z_6 ez_6 => ?_)
      exact W.iret (v := z_6) hx hb hr (fun t ht hW => ⟨z_6, rfl, (by unfold wo1; (repeat' split) <;> first | rfl | assumption | (exfalso; omega)), ht⟩) (fun q h => by cases h) dX4_workOutOne_51
set_option maxHeartbeats 4000000 in
set_option maxRecDepth 100000 in
theorem g_X4_workOutTwo (l : Launch) (D : va_G) (E : Nat → Nat) (p0 : Int32) (p1 : Int32) (p2 : Int32)  : Met l yX4_workOutTwo (wl yX4_workOutTwo cX4_workOutTwo 3 (some .int)) (RM 0 0 0) (rd_P D E [.int p0, .int p1, .int p2] ([] : va_W)) (rd_Q (fun r => (r = wo2 p0.toInt p1 p2))) 0 0 (fun _ => False) := by
  refine Met.ofW (cc := cX4_workOutTwo) (maxL := 3) (ret := (some .int)) (by decide) rfl ?_
  intro p e s m args below meth c s₁ B hml hv
  obtain ⟨rfl, hP, hK⟩ := hv
  have hx := B.exec; have hb := B.bytes; have hr := B.returns
  have hts := atoms_spec (ws := wl yX4_workOutTwo cX4_workOutTwo 3 (some .int)) B.pre
  have htb : ∀ w ∈ tb, w.before _ s = true := fun w h => hts w (List.mem_cons_of_mem _ h)
  have hown : s.vm.findClass RX4 = some m.cls := findClass_of_methodNamed B.named
  have hlocks := B.notSynchronized
  have hP : va_P D vwCl ([] : va_W) s.heap := hP
  have hl := lv_entry ([.int p0, .int p1, .int p2]) (n := 3) (Nat.le_of_ble_eq_true rfl)
  rw [lg_entry_eq]
  generalize (lg_sl ([.int p0, .int p1, .int p2]) ++ List.replicate (3 - (lg_sl ([.int p0, .int p1, .int p2])).length) Slot.unset).toArray = ls at hl ⊢
  have hl : lv_has ls 3 [(0, .int p0), (1, .int p1), (2, .int p2)] := hl
  have lo_p0 := i_lo p0; have hi_p0 := i_hi p0
  have lo_p1 := i_lo p1; have hi_p1 := i_hi p1
  have lo_p2 := i_lo p2; have hi_p2 := i_hi p2
  refine lv_iload_n hx hb dX4_workOutTwo_0 rfl (lv_at hl 0 rfl) ?_
  by_cases h_1 : p0 = 4
  ·
    have ih_1 : p0.toInt = 4 := (g_eq rfl t_4).mp h_1
    refine lv_lookup (off := 75) (tgt := 76) hx hb dX4_workOutTwo_1 (by decide) (by rw [ih_1]; decide) (by decide) ?_
    refine lv_iload_n hx hb dX4_workOutTwo_76 rfl (lv_at hl 1 rfl) ?_
    refine lv_if_ne (tgt := 84) hx hb dX4_workOutTwo_77 (by decide) (fun c_2 => ?_) (fun c_2 => ?_)
    ·
      have ic_2 : p1.toInt ≠ 0 := mt (g_eq rfl t_0).mpr c_2
      clear c_2
      refine lv_iconst (v := 1) hx hb dX4_workOutTwo_84 (by decide) ?_
      refine lv_goto (tgt := 89) hx hb dX4_workOutTwo_85 (by decide) ?_
      exact W.iret (v := 1) hx hb hr (fun t ht hW => ⟨1, rfl, (by unfold wo2; (repeat' split) <;> first | rfl | assumption | (exfalso; omega)), ht⟩) (fun q h => by cases h) dX4_workOutTwo_89
    ·
      have ic_2 : p1.toInt = 0 := (g_eq rfl t_0).mp c_2
      clear c_2
      refine lv_iload_n hx hb dX4_workOutTwo_80 rfl (lv_at hl 2 rfl) ?_
      refine lv_if_eq (tgt := 88) hx hb dX4_workOutTwo_81 (by decide) (fun c_3 => ?_) (fun c_3 => ?_)
      ·
        have ic_3 : p2.toInt = 0 := (g_eq rfl t_0).mp c_3
        clear c_3
        refine lv_iconst (v := 0) hx hb dX4_workOutTwo_88 (by decide) ?_
        exact W.iret (v := 0) hx hb hr (fun t ht hW => ⟨0, rfl, (by unfold wo2; (repeat' split) <;> first | rfl | assumption | (exfalso; omega)), ht⟩) (fun q h => by cases h) dX4_workOutTwo_89
      ·
        have ic_3 : p2.toInt ≠ 0 := mt (g_eq rfl t_0).mpr c_3
        clear c_3
        refine lv_iconst (v := 1) hx hb dX4_workOutTwo_84 (by decide) ?_
        refine lv_goto (tgt := 89) hx hb dX4_workOutTwo_85 (by decide) ?_
        exact W.iret (v := 1) hx hb hr (fun t ht hW => ⟨1, rfl, (by unfold wo2; (repeat' split) <;> first | rfl | assumption | (exfalso; omega)), ht⟩) (fun q h => by cases h) dX4_workOutTwo_89
  ·
    have ih_1 : p0.toInt ≠ 4 := mt (g_eq rfl t_4).mpr h_1
    by_cases h_4 : p0 = 5
    ·
      have ih_4 : p0.toInt = 5 := (g_eq rfl t_5).mp h_4
      refine lv_lookup (off := 89) (tgt := 90) hx hb dX4_workOutTwo_1 (by decide) (by rw [ih_4]; decide) (by decide) ?_
      refine lv_iload_n hx hb dX4_workOutTwo_90 rfl (lv_at hl 1 rfl) ?_
      refine lv_if_eq (tgt := 102) hx hb dX4_workOutTwo_91 (by decide) (fun c_5 => ?_) (fun c_5 => ?_)
      ·
        have ic_5 : p1.toInt = 0 := (g_eq rfl t_0).mp c_5
        clear c_5
        refine lv_iconst (v := 0) hx hb dX4_workOutTwo_102 (by decide) ?_
        exact W.iret (v := 0) hx hb hr (fun t ht hW => ⟨0, rfl, (by unfold wo2; (repeat' split) <;> first | rfl | assumption | (exfalso; omega)), ht⟩) (fun q h => by cases h) dX4_workOutTwo_103
      ·
        have ic_5 : p1.toInt ≠ 0 := mt (g_eq rfl t_0).mpr c_5
        clear c_5
        refine lv_iload_n hx hb dX4_workOutTwo_94 rfl (lv_at hl 2 rfl) ?_
        refine lv_if_eq (tgt := 102) hx hb dX4_workOutTwo_95 (by decide) (fun c_6 => ?_) (fun c_6 => ?_)
        ·
          have ic_6 : p2.toInt = 0 := (g_eq rfl t_0).mp c_6
          clear c_6
          refine lv_iconst (v := 0) hx hb dX4_workOutTwo_102 (by decide) ?_
          exact W.iret (v := 0) hx hb hr (fun t ht hW => ⟨0, rfl, (by unfold wo2; (repeat' split) <;> first | rfl | assumption | (exfalso; omega)), ht⟩) (fun q h => by cases h) dX4_workOutTwo_103
        ·
          have ic_6 : p2.toInt ≠ 0 := mt (g_eq rfl t_0).mpr c_6
          clear c_6
          refine lv_iconst (v := 1) hx hb dX4_workOutTwo_98 (by decide) ?_
          refine lv_goto (tgt := 103) hx hb dX4_workOutTwo_99 (by decide) ?_
          exact W.iret (v := 1) hx hb hr (fun t ht hW => ⟨1, rfl, (by unfold wo2; (repeat' split) <;> first | rfl | assumption | (exfalso; omega)), ht⟩) (fun q h => by cases h) dX4_workOutTwo_103
    ·
      have ih_4 : p0.toInt ≠ 5 := mt (g_eq rfl t_5).mpr h_4
      by_cases h_7 : p0 = 42
      ·
        have ih_7 : p0.toInt = 42 := (g_eq rfl t_42).mp h_7
        refine lv_lookup (off := 144) (tgt := 145) hx hb dX4_workOutTwo_1 (by decide) (by rw [ih_7]; decide) (by decide) ?_
        refine lv_iload_n hx hb dX4_workOutTwo_145 rfl (lv_at hl 1 rfl) ?_
        refine lv_iload_n hx hb dX4_workOutTwo_146 rfl (lv_at hl 2 rfl) ?_
        refine lv_imul hx hb dX4_workOutTwo_147 ?_
        refine lv_topi (fun z_8 ez_8 => ?_)
        exact W.iret (v := z_8) hx hb hr (fun t ht hW => ⟨z_8, rfl, (by unfold wo2; (repeat' split) <;> first | rfl | assumption | (exfalso; omega)), ht⟩) (fun q h => by cases h) dX4_workOutTwo_148
      ·
        have ih_7 : p0.toInt ≠ 42 := mt (g_eq rfl t_42).mpr h_7
        by_cases h_9 : p0 = 43
        ·
          have ih_9 : p0.toInt = 43 := (g_eq rfl t_43).mp h_9
          refine lv_lookup (off := 136) (tgt := 137) hx hb dX4_workOutTwo_1 (by decide) (by rw [ih_9]; decide) (by decide) ?_
          refine lv_iload_n hx hb dX4_workOutTwo_137 rfl (lv_at hl 1 rfl) ?_
          refine lv_iload_n hx hb dX4_workOutTwo_138 rfl (lv_at hl 2 rfl) ?_
          refine lv_iadd hx hb dX4_workOutTwo_139 ?_
          refine lv_topi (fun z_10 ez_10 => ?_)
          exact W.iret (v := z_10) hx hb hr (fun t ht hW => ⟨z_10, rfl, (by unfold wo2; (repeat' split) <;> first | rfl | assumption | (exfalso; omega)), ht⟩) (fun q h => by cases h) dX4_workOutTwo_140
        ·
          have ih_9 : p0.toInt ≠ 43 := mt (g_eq rfl t_43).mpr h_9
          by_cases h_11 : p0 = 45
          ·
            have ih_11 : p0.toInt = 45 := (g_eq rfl t_45).mp h_11
            refine lv_lookup (off := 140) (tgt := 141) hx hb dX4_workOutTwo_1 (by decide) (by rw [ih_11]; decide) (by decide) ?_
            refine lv_iload_n hx hb dX4_workOutTwo_141 rfl (lv_at hl 1 rfl) ?_
            refine lv_iload_n hx hb dX4_workOutTwo_142 rfl (lv_at hl 2 rfl) ?_
            refine lv_isub hx hb dX4_workOutTwo_143 ?_
            refine lv_topi (fun z_12 ez_12 => ?_)
            exact W.iret (v := z_12) hx hb hr (fun t ht hW => ⟨z_12, rfl, (by unfold wo2; (repeat' split) <;> first | rfl | assumption | (exfalso; omega)), ht⟩) (fun q h => by cases h) dX4_workOutTwo_144
          ·
            have ih_11 : p0.toInt ≠ 45 := mt (g_eq rfl t_45).mpr h_11
            by_cases h_13 : p0 = 60
            ·
              have ih_13 : p0.toInt = 60 := (g_eq rfl t_60).mp h_13
              refine lv_lookup (off := 103) (tgt := 104) hx hb dX4_workOutTwo_1 (by decide) (by rw [ih_13]; decide) (by decide) ?_
              refine lv_iload_n hx hb dX4_workOutTwo_104 rfl (lv_at hl 1 rfl) ?_
              refine lv_iload_n hx hb dX4_workOutTwo_105 rfl (lv_at hl 2 rfl) ?_
              refine lv_icmp_ge (tgt := 113) hx hb dX4_workOutTwo_106 (by decide) (fun c_14 => ?_) (fun c_14 => ?_)
              ·
                have ic_14 : p2.toInt ≤ p1.toInt := by first | exact (g_le rfl rfl).mp c_14 | (have h := mt (g_lt rfl rfl).mpr c_14; omega)
                clear c_14
                refine lv_iconst (v := 0) hx hb dX4_workOutTwo_113 (by decide) ?_
                exact W.iret (v := 0) hx hb hr (fun t ht hW => ⟨0, rfl, (by unfold wo2; (repeat' split) <;> first | rfl | assumption | (exfalso; omega)), ht⟩) (fun q h => by cases h) dX4_workOutTwo_114
              ·
                have ic_14 : p1.toInt < p2.toInt := by first | exact (g_lt rfl rfl).mp c_14 | (have h := mt (g_le rfl rfl).mpr c_14; omega)
                clear c_14
                refine lv_iconst (v := 1) hx hb dX4_workOutTwo_109 (by decide) ?_
                refine lv_goto (tgt := 114) hx hb dX4_workOutTwo_110 (by decide) ?_
                exact W.iret (v := 1) hx hb hr (fun t ht hW => ⟨1, rfl, (by unfold wo2; (repeat' split) <;> first | rfl | assumption | (exfalso; omega)), ht⟩) (fun q h => by cases h) dX4_workOutTwo_114
            ·
              have ih_13 : p0.toInt ≠ 60 := mt (g_eq rfl t_60).mpr h_13
              by_cases h_15 : p0 = 61
              ·
                have ih_15 : p0.toInt = 61 := (g_eq rfl t_61).mp h_15
                refine lv_lookup (off := 114) (tgt := 115) hx hb dX4_workOutTwo_1 (by decide) (by rw [ih_15]; decide) (by decide) ?_
                refine lv_iload_n hx hb dX4_workOutTwo_115 rfl (lv_at hl 1 rfl) ?_
                refine lv_iload_n hx hb dX4_workOutTwo_116 rfl (lv_at hl 2 rfl) ?_
                refine lv_icmp_ne (tgt := 124) hx hb dX4_workOutTwo_117 (by decide) (fun c_16 => ?_) (fun c_16 => ?_)
                ·
                  have ic_16 : p1.toInt ≠ p2.toInt := mt (g_eq rfl rfl).mpr c_16
                  clear c_16
                  refine lv_iconst (v := 0) hx hb dX4_workOutTwo_124 (by decide) ?_
                  exact W.iret (v := 0) hx hb hr (fun t ht hW => ⟨0, rfl, (by unfold wo2; (repeat' split) <;> first | rfl | assumption | (exfalso; omega)), ht⟩) (fun q h => by cases h) dX4_workOutTwo_125
                ·
                  have ic_16 : p1.toInt = p2.toInt := (g_eq rfl rfl).mp c_16
                  clear c_16
                  refine lv_iconst (v := 1) hx hb dX4_workOutTwo_120 (by decide) ?_
                  refine lv_goto (tgt := 125) hx hb dX4_workOutTwo_121 (by decide) ?_
                  exact W.iret (v := 1) hx hb hr (fun t ht hW => ⟨1, rfl, (by unfold wo2; (repeat' split) <;> first | rfl | assumption | (exfalso; omega)), ht⟩) (fun q h => by cases h) dX4_workOutTwo_125
              ·
                have ih_15 : p0.toInt ≠ 61 := mt (g_eq rfl t_61).mpr h_15
                by_cases h_17 : p0 = 62
                ·
                  have ih_17 : p0.toInt = 62 := (g_eq rfl t_62).mp h_17
                  refine lv_lookup (off := 125) (tgt := 126) hx hb dX4_workOutTwo_1 (by decide) (by rw [ih_17]; decide) (by decide) ?_
                  refine lv_iload_n hx hb dX4_workOutTwo_126 rfl (lv_at hl 1 rfl) ?_
                  refine lv_iload_n hx hb dX4_workOutTwo_127 rfl (lv_at hl 2 rfl) ?_
                  refine lv_icmp_le (tgt := 135) hx hb dX4_workOutTwo_128 (by decide) (fun c_18 => ?_) (fun c_18 => ?_)
                  ·
                    have ic_18 : p1.toInt ≤ p2.toInt := by first | exact (g_le rfl rfl).mp c_18 | (have h := mt (g_lt rfl rfl).mpr c_18; omega)
                    clear c_18
                    refine lv_iconst (v := 0) hx hb dX4_workOutTwo_135 (by decide) ?_
                    exact W.iret (v := 0) hx hb hr (fun t ht hW => ⟨0, rfl, (by unfold wo2; (repeat' split) <;> first | rfl | assumption | (exfalso; omega)), ht⟩) (fun q h => by cases h) dX4_workOutTwo_136
                  ·
                    have ic_18 : p2.toInt < p1.toInt := by first | exact (g_lt rfl rfl).mp c_18 | (have h := mt (g_le rfl rfl).mpr c_18; omega)
                    clear c_18
                    refine lv_iconst (v := 1) hx hb dX4_workOutTwo_131 (by decide) ?_
                    refine lv_goto (tgt := 136) hx hb dX4_workOutTwo_132 (by decide) ?_
                    exact W.iret (v := 1) hx hb hr (fun t ht hW => ⟨1, rfl, (by unfold wo2; (repeat' split) <;> first | rfl | assumption | (exfalso; omega)), ht⟩) (fun q h => by cases h) dX4_workOutTwo_136
                ·
                  have ih_17 : p0.toInt ≠ 62 := mt (g_eq rfl t_62).mpr h_17
                  refine lv_lookup (off := 148) (tgt := 149) hx hb dX4_workOutTwo_1 (by decide) (by rw [lv_osw h_1 t_4, lv_osw h_4 t_5, lv_osw h_7 t_42, lv_osw h_9 t_43, lv_osw h_11 t_45, lv_osw h_13 t_60, lv_osw h_15 t_61, lv_osw h_17 t_62]; rfl) (by decide) ?_
                  refine lv_iload_n hx hb dX4_workOutTwo_149 rfl (lv_at hl 2 rfl) ?_
                  refine lv_if_ne (tgt := 157) hx hb dX4_workOutTwo_150 (by decide) (fun c_19 => ?_) (fun c_19 => ?_)
                  ·
                    have ic_19 : p2.toInt ≠ 0 := mt (g_eq rfl t_0).mpr c_19
                    clear c_19
                    refine lv_iload_n hx hb dX4_workOutTwo_157 rfl (lv_at hl 1 rfl) ?_
                    refine lv_iload_n hx hb dX4_workOutTwo_158 rfl (lv_at hl 2 rfl) ?_
                    refine lv_idiv hx hb dX4_workOutTwo_159 (fun h => absurd ((g_eq rfl t_0).mp h) (by omega)) ?_
                    refine lv_topi (fun z_20 ez_20 => ?_)
                    exact W.iret (v := z_20) hx hb hr (fun t ht hW => ⟨z_20, rfl, (by unfold wo2; (repeat' split) <;> first | rfl | assumption | (exfalso; omega)), ht⟩) (fun q h => by cases h) dX4_workOutTwo_160
                  ·
                    have ic_19 : p2.toInt = 0 := (g_eq rfl t_0).mp c_19
                    clear c_19
                    refine lv_iconst (v := 0) hx hb dX4_workOutTwo_153 (by decide) ?_
                    refine lv_goto (tgt := 160) hx hb dX4_workOutTwo_154 (by decide) ?_
                    exact W.iret (v := 0) hx hb hr (fun t ht hW => ⟨0, rfl, (by unfold wo2; (repeat' split) <;> first | rfl | assumption | (exfalso; omega)), ht⟩) (fun q h => by cases h) dX4_workOutTwo_160
set_option maxHeartbeats 4000000 in
set_option maxRecDepth 100000 in
theorem g_X4_add (l : Launch) (D : va_G) (E : Nat → Nat) (uh : Nat) (ua : Nat → Nat) (usize : Int32) (uf0 : Nat → Int32) (uf1 : Nat → Int32) (p0 : Int32) (p1 : Int32) (sz : Nat) (hi_u : (0 ≤ usize.toInt ∧ usize.toInt ≤ 120)) : Met l yX4_add (wl yX4_add cX4_add 3 none) (RM 0 0 0) (mu_P D E [.ref uh, .int p0, .int p1] [(uh, .inr (4, G4 ua usize)), ((ua 0), .inl (E 0, 120, .inl uf0)), ((ua 1), .inl (E 0, 120, .inl uf1))] sz) (va_Qv (fun (u : (Nat → Int32) × (Nat → Int32) × (Int32)) => (0 ≤ u.2.2.toInt ∧ u.2.2.toInt ≤ 120) ∧ (ADDP usize uf0 uf1 p0 p1 u.2.2 u.1 u.2.1)) (mu_B D (va_A [(uh, .inr (4, G4 ua usize)), ((ua 0), .inl (E 0, 120, .inl uf0)), ((ua 1), .inl (E 0, 120, .inl uf1))] sz) (fun (u : (Nat → Int32) × (Nat → Int32) × (Int32)) => [(uh, .inr (4, G4 ua u.2.2)), ((ua 0), .inl (E 0, 120, .inl u.1)), ((ua 1), .inl (E 0, 120, .inl u.2.1))])) (va_A [(uh, .inr (4, G4 ua usize)), ((ua 0), .inl (E 0, 120, .inl uf0)), ((ua 1), .inl (E 0, 120, .inl uf1))] sz)) 0 0 (va_A [(uh, .inr (4, G4 ua usize)), ((ua 0), .inl (E 0, 120, .inl uf0)), ((ua 1), .inl (E 0, 120, .inl uf1))] sz) := by
  refine Met.ofW (cc := cX4_add) (maxL := 3) (ret := none) (by decide) rfl ?_
  intro p e s m args below meth c s₁ B hml hv
  obtain ⟨rfl, hsz, hP, hK, hD0⟩ := hv
  have hx := B.exec; have hb := B.bytes; have hr := B.returns
  have hts := atoms_spec (ws := wl yX4_add cX4_add 3 none) B.pre
  have htb : ∀ w ∈ tb, w.before _ s = true := fun w h => hts w (List.mem_cons_of_mem _ h)
  have hown : s.vm.findClass RX4 = some m.cls := findClass_of_methodNamed B.named
  have hlocks := B.notSynchronized
  subst hsz
  have hD := hD0.self (sz := s.heap.size)
  generalize hAe : va_A [(uh, .inr (4, G4 ua usize)), ((ua 0), .inl (E 0, 120, .inl uf0)), ((ua 1), .inl (E 0, 120, .inl uf1))] s.heap.size = A at hD ⊢
  have hA : ∀ q : Nat, s.heap.size ≤ q → A q := fun q h => by rw [← hAe]; exact Or.inr h
  have hS : va_S A s.heap s.heap [] := va_S.rf
  have hP : va_P D vwCl [(uh, .inr (4, G4 ua usize)), ((ua 0), .inl (E 0, 120, .inl uf0)), ((ua 1), .inl (E 0, 120, .inl uf1))] s.heap := hP
  have hl := lv_entry ([.ref uh, .int p0, .int p1]) (n := 3) (Nat.le_of_ble_eq_true rfl)
  rw [lg_entry_eq]
  generalize (lg_sl ([.ref uh, .int p0, .int p1]) ++ List.replicate (3 - (lg_sl ([.ref uh, .int p0, .int p1])).length) Slot.unset).toArray = ls at hl ⊢
  have hl : lv_has ls 3 [(0, .ref uh), (1, .int p0), (2, .int p1)] := hl
  have lo_p0 := i_lo p0; have hi_p0 := i_hi p0
  have lo_p1 := i_lo p1; have hi_p1 := i_hi p1
  refine lv_aload_n hx hb dX4_add_0 rfl (lv_at hl 0 rfl) ?_
  refine va_get (D := D) (ci := 4) (v := .int usize) (C := RX4) (T := TX4) (N := 4) hx hb htb iX4 hown hK.1 hP 0 rfl rfl 3 (by decide) (htb _ k_144) (fun _ h9 => h9) rfl dX4_add_1 ?_
  refine lv_bipush (v := 120) hx hb dX4_add_4 (by decide) ?_
  refine lv_icmp_ge (tgt := 39) hx hb dX4_add_6 (by decide) (fun c_1 => ?_) (fun c_1 => ?_)
  ·
    have ic_1 : 120 ≤ usize.toInt := by first | exact (g_le t_120 rfl).mp c_1 | (have h := mt (g_lt rfl t_120).mpr c_1; omega)
    clear c_1
    have hP9 := hP.sub (ws' := [(uh, .inr (4, G4 ua usize)), ((ua 0), .inl (E 0, 120, .inl uf0)), ((ua 1), .inl (E 0, 120, .inl uf1))]) [0, 1, 2] rfl
    have hD9 := hD.sub (ws' := [(uh, .inr (4, G4 ua usize)), ((ua 0), .inl (E 0, 120, .inl uf0)), ((ua 1), .inl (E 0, 120, .inl uf1))]) [0, 1, 2] (by decide) rfl
    exact W.vret hx hb hr (fun t ht hW => ⟨⟨(uf0, uf1, usize), rfl, ⟨(by (try dsimp only); omega), (by (try dsimp only); first | exact Or.inl ⟨by omega, by omega, rfl, rfl⟩ | exact Or.inr ⟨by omega, rfl⟩)⟩, by rw [ht]; exact hP9, hD9⟩, hS.F ht⟩) hS.2.2 dX4_add_39
  ·
    have ic_1 : usize.toInt < 120 := by first | exact (g_lt rfl t_120).mp c_1 | (have h := mt (g_le t_120 rfl).mpr c_1; omega)
    clear c_1
    refine lv_aload_n hx hb dX4_add_9 rfl (lv_at hl 0 rfl) ?_
    refine va_get (D := D) (ci := 4) (v := .ref (ua 0)) (C := RX4) (T := TX4) (N := 4) hx hb htb iX4 hown hK.1 hP 0 rfl rfl 0 (by decide) (htb _ k_141) (fun _ h9 => h9) rfl dX4_add_10 ?_
    refine lv_aload_n hx hb dX4_add_13 rfl (lv_at hl 0 rfl) ?_
    refine va_get (D := D) (ci := 4) (v := .int usize) (C := RX4) (T := TX4) (N := 4) hx hb htb iX4 hown hK.1 hP 0 rfl rfl 3 (by decide) (htb _ k_144) (fun _ h9 => h9) rfl dX4_add_14 ?_
    refine lv_iload_n hx hb dX4_add_17 rfl (lv_at hl 1 rfl) ?_
    refine va_iast hx hb hK.1 hP hD hS 1 0 rfl rfl (g_in rfl (by omega) (by omega)) dX4_add_18 (fun H locs hP hD hS => ?_)
    have hP : va_P D vwCl [(uh, .inr (4, G4 ua usize)), ((ua 0), .inl (E 0, 120, .inl (upd uf0 (usize : Int32).toNatClampNeg p0))), ((ua 1), .inl (E 0, 120, .inl uf1))] H := hP
    have hD := toW hP hD rfl
    refine lv_aload_n hx hb dX4_add_19 rfl (lv_at hl 0 rfl) ?_
    refine va_get (D := D) (ci := 4) (v := .ref (ua 1)) (C := RX4) (T := TX4) (N := 4) hx hb htb iX4 hown hK.1 hP 0 rfl rfl 1 (by decide) (htb _ k_142) (fun _ h9 => h9) rfl dX4_add_20 ?_
    refine lv_aload_n hx hb dX4_add_23 rfl (lv_at hl 0 rfl) ?_
    refine va_get (D := D) (ci := 4) (v := .int usize) (C := RX4) (T := TX4) (N := 4) hx hb htb iX4 hown hK.1 hP 0 rfl rfl 3 (by decide) (htb _ k_144) (fun _ h9 => h9) rfl dX4_add_24 ?_
    refine lv_iload_n hx hb dX4_add_27 rfl (lv_at hl 2 rfl) ?_
    refine va_iast hx hb hK.1 hP hD hS 2 0 rfl rfl (g_in rfl (by omega) (by omega)) dX4_add_28 (fun H locs hP hD hS => ?_)
    have hP : va_P D vwCl [(uh, .inr (4, G4 ua usize)), ((ua 0), .inl (E 0, 120, .inl (upd uf0 (usize : Int32).toNatClampNeg p0))), ((ua 1), .inl (E 0, 120, .inl (upd uf1 (usize : Int32).toNatClampNeg p1)))] H := hP
    have hD := toW hP hD rfl
    refine lv_aload_n hx hb dX4_add_29 rfl (lv_at hl 0 rfl) ?_
    refine lv_dup hx hb dX4_add_30 rfl ?_
    refine va_get (D := D) (ci := 4) (v := .int usize) (C := RX4) (T := TX4) (N := 4) hx hb htb iX4 hown hK.1 hP 0 rfl rfl 3 (by decide) (htb _ k_144) (fun _ h9 => h9) rfl dX4_add_31 ?_
    refine lv_iconst (v := 1) hx hb dX4_add_34 (by decide) ?_
    refine lv_iadd hx hb dX4_add_35 ?_
    refine lv_topi (fun z_2 ez_2 => ?_)
    have jz_2 : z_2.toInt = usize.toInt + 1 := by rw [ez_2]; exact g_add rfl t_1 (by omega) (by omega)
    refine va_put (D := D) (ci := 4) (v := .int z_2) (ty := .int) (C := RX4) (T := TX4) (N := 4) hx hb htb iX4 tyX4 tyX4_ok nmX4 hown hK.1 hP hD hS 0 rfl rfl 3 (by decide) (htb _ k_144) (fun _ h9 => h9) rfl (by decide +kernel) rfl rfl (Nat.le_of_ble_eq_true rfl) dX4_add_36 (fun H locs hP hD hS => ?_)
    have hP : va_P D vwCl [(uh, .inr (4, G4 ua z_2)), ((ua 0), .inl (E 0, 120, .inl (upd uf0 (usize : Int32).toNatClampNeg p0))), ((ua 1), .inl (E 0, 120, .inl (upd uf1 (usize : Int32).toNatClampNeg p1)))] H := hP
    have hD := toW hP hD rfl
    have hP9 := hP.sub (ws' := [(uh, .inr (4, G4 ua z_2)), ((ua 0), .inl (E 0, 120, .inl (upd uf0 (usize : Int32).toNatClampNeg p0))), ((ua 1), .inl (E 0, 120, .inl (upd uf1 (usize : Int32).toNatClampNeg p1)))]) [0, 1, 2] rfl
    have hD9 := hD.sub (ws' := [(uh, .inr (4, G4 ua z_2)), ((ua 0), .inl (E 0, 120, .inl (upd uf0 (usize : Int32).toNatClampNeg p0))), ((ua 1), .inl (E 0, 120, .inl (upd uf1 (usize : Int32).toNatClampNeg p1)))]) [0, 1, 2] (by decide) rfl
    exact W.vret hx hb hr (fun t ht hW => ⟨⟨((upd uf0 (usize : Int32).toNatClampNeg p0), (upd uf1 (usize : Int32).toNatClampNeg p1), z_2), rfl, ⟨(by (try dsimp only); omega), (by (try dsimp only); first | exact Or.inl ⟨by omega, by omega, rfl, rfl⟩ | exact Or.inr ⟨by omega, rfl⟩)⟩, by rw [ht]; exact hP9, hD9⟩, hS.F ht⟩) hS.2.2 dX4_add_39
