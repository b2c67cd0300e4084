set_option maxHeartbeats 4000000 in
set_option maxRecDepth 100000 in
theorem g_X7_errorAsKnown (l : Launch) (D : va_G) (E : Nat → Nat) (wh : Nat) (wa : Nat → Nat) (wf0 : Nat → Int32) (wf1 : Nat → Int32) (oh : Nat) (oa : Nat → Nat) (osize : Int32) (of0 : Nat → Int32) (of1 : Nat → Int32) (of2 : Nat → Int32) (of3 : Nat → Int32) (of4 : Nat → Int32) (p0 : Int32) (p2 : Int32) (hi_o : (0 ≤ osize.toInt ∧ osize.toInt ≤ 60)) : Met l yX7_errorAsKnown (wl yX7_errorAsKnown cX7_errorAsKnown 4 (some .int)) (RM 2 0 0) (rd_P D E [.ref wh, .int p0, .ref oh, .int p2] [(wh, .inr (7, G7 wa)), ((wa 0), .inl (E 0, 400, .inl wf0)), ((wa 1), .inl (E 0, 400, .inl wf1)), (oh, .inr (2, G2 oa osize)), ((oa 0), .inl (E 0, 60, .inl of0)), ((oa 1), .inl (E 0, 60, .inl of1)), ((oa 2), .inl (E 0, 60, .inl of2)), ((oa 3), .inl (E 0, 60, .inl of3)), ((oa 4), .inl (E 0, 60, .inl of4))]) (rd_Q (fun r => (r = eX wf0 wf1 of0 of1 of2 of3 of4 osize p0 p2))) 0 0 (fun _ => False) := by
  refine Met.ofW (cc := cX7_errorAsKnown) (maxL := 4) (ret := (some .int)) (by decide) rfl ?_
  intro p e s m args below meth c s₁ B hml hv
  obtain ⟨rfl, hP, hK⟩ := hv
  have hx := B.exec; have hb := B.bytes; have hr := B.returns
  have hts := atoms_spec (ws := wl yX7_errorAsKnown cX7_errorAsKnown 4 (some .int)) B.pre
  have htb : ∀ w ∈ tb, w.before _ s = true := fun w h => hts w (List.mem_cons_of_mem _ h)
  have hown : s.vm.findClass RX7 = some m.cls := findClass_of_methodNamed B.named
  have hlocks := B.notSynchronized
  have hP : va_P D vwCl [(wh, .inr (7, G7 wa)), ((wa 0), .inl (E 0, 400, .inl wf0)), ((wa 1), .inl (E 0, 400, .inl wf1)), (oh, .inr (2, G2 oa osize)), ((oa 0), .inl (E 0, 60, .inl of0)), ((oa 1), .inl (E 0, 60, .inl of1)), ((oa 2), .inl (E 0, 60, .inl of2)), ((oa 3), .inl (E 0, 60, .inl of3)), ((oa 4), .inl (E 0, 60, .inl of4))] s.heap := hP
  have hl := lv_entry ([.ref wh, .int p0, .ref oh, .int p2]) (n := 4) (Nat.le_of_ble_eq_true rfl)
  rw [lg_entry_eq]
  generalize (lg_sl ([.ref wh, .int p0, .ref oh, .int p2]) ++ List.replicate (4 - (lg_sl ([.ref wh, .int p0, .ref oh, .int p2])).length) Slot.unset).toArray = ls at hl ⊢
  have hl : lv_has ls 4 [(0, .ref wh), (1, .int p0), (2, .ref oh), (3, .int p2)] := hl
  have lo_p0 := i_lo p0; have hi_p0 := i_hi p0
  have lo_p2 := i_lo p2; have hi_p2 := i_hi p2
  refine lv_aload_n hx hb dX7_errorAsKnown_0 rfl (lv_at hl 0 rfl) ?_
  refine lv_iload_n hx hb dX7_errorAsKnown_1 rfl (lv_at hl 1 rfl) ?_
  refine callRV (rest := []) (As := [.int p0]) hx hb hml hown htb hK (g_X7_isCompared l D E wh wa wf1 p0 ) ok_X7_isCompared k_419 k_401 k_402 k_10 k_403 ⟨(Nat.le_of_ble_eq_true rfl), (Nat.le_of_ble_eq_true rfl)⟩ ⟨(Nat.le_of_ble_eq_true rfl), (Nat.le_of_ble_eq_true rfl)⟩ hl.1 (Nat.le_of_ble_eq_true rfl) rfl rfl dX7_errorAsKnown_2 (hP.sub (ws' := [(wh, .inr (7, G7 wa)), ((wa 1), .inl (E 0, 400, .inl wf1))]) [0, 2] rfl) rfl rfl 0 rfl (fun r_1 hw_2 => ?_)
  refine lv_if_eq (tgt := 30) hx hb dX7_errorAsKnown_5 (by decide) (fun c_4 => ?_) (fun c_4 => ?_)
  ·
    have ic_4 : r_1.toInt = 0 := (g_eq rfl t_0).mp c_4
    clear c_4
    refine lv_ldc hx hb hown (htb _ k_424) dX7_errorAsKnown_30 ?_
    exact W.iret (v := (-2000000000)) hx hb hr (fun t ht hW => ⟨(-2000000000), rfl, (by unfold eX; rw [if_neg (by omega)]), ht⟩) (fun q h => by cases h) dX7_errorAsKnown_32
  ·
    have ic_4 : r_1.toInt ≠ 0 := mt (g_eq rfl t_0).mpr c_4
    clear c_4
    refine lv_aload_n hx hb dX7_errorAsKnown_8 rfl (lv_at hl 0 rfl) ?_
    refine va_get (D := D) (ci := 7) (v := .ref (wa 0)) (C := RX7) (T := TX7) (N := 4) hx hb htb iX7 hown hK.1 hP 0 rfl rfl 0 (by decide) (htb _ k_348) (fun _ h9 => h9) rfl dX7_errorAsKnown_9 ?_
    refine lv_iload_n hx hb dX7_errorAsKnown_12 rfl (lv_at hl 1 rfl) ?_
    refine va_iald hx hb hK.1 hP 1 0 rfl rfl (g_in rfl (by omega) (by omega)) dX7_errorAsKnown_13 ?_
    refine lv_topi (fun z_5 ez_5 => ?_)
    have kz_5 := congrArg Int32.toInt ez_5
    refine lv_aload_n hx hb dX7_errorAsKnown_14 rfl (lv_at hl 2 rfl) ?_
    refine lv_aload_n hx hb dX7_errorAsKnown_15 rfl (lv_at hl 0 rfl) ?_
    refine va_get (D := D) (ci := 7) (v := .ref (wa 1)) (C := RX7) (T := TX7) (N := 4) hx hb htb iX7 hown hK.1 hP 0 rfl rfl 1 (by decide) (htb _ k_349) (fun _ h9 => h9) rfl dX7_errorAsKnown_16 ?_
    refine lv_iload_n hx hb dX7_errorAsKnown_19 rfl (lv_at hl 1 rfl) ?_
    refine va_iald hx hb hK.1 hP 2 0 rfl rfl (g_in rfl (by omega) (by omega)) dX7_errorAsKnown_20 ?_
    refine lv_topi (fun z_6 ez_6 => ?_)
    have kz_6 := congrArg Int32.toInt ez_6
    refine lv_iload_n hx hb dX7_errorAsKnown_21 rfl (lv_at hl 1 rfl) ?_
    refine lv_iload_n hx hb dX7_errorAsKnown_22 rfl (lv_at hl 3 rfl) ?_
    refine callRV (rest := [.int z_5]) (As := [.int z_6, .int p0, .int p2]) hx hb hml hown htb hK (g_X2_sumFor l D E oh oa osize of0 of1 of2 of3 of4 z_6 p0 p2 (by (try dsimp only); omega)) ok_X2_sumFor k_420 k_421 k_422 k_2 k_423 ⟨(Nat.le_of_ble_eq_true rfl), (Nat.le_of_ble_eq_true rfl)⟩ ⟨(Nat.le_of_ble_eq_true rfl), (Nat.le_of_ble_eq_true rfl)⟩ hl.1 (Nat.le_of_ble_eq_true rfl) rfl rfl dX7_errorAsKnown_23 (hP.sub (ws' := [(oh, .inr (2, G2 oa osize)), ((oa 0), .inl (E 0, 60, .inl of0)), ((oa 1), .inl (E 0, 60, .inl of1)), ((oa 2), .inl (E 0, 60, .inl of2)), ((oa 3), .inl (E 0, 60, .inl of3)), ((oa 4), .inl (E 0, 60, .inl of4))]) [3, 4, 5, 6, 7, 8] rfl) rfl rfl 0 rfl (fun r_7 hw_8 => ?_)
    refine lv_isub hx hb dX7_errorAsKnown_26 ?_
    refine lv_topi (fun z_10 ez_10 => ?_)
    refine lv_goto (tgt := 32) hx hb dX7_errorAsKnown_27 (by decide) ?_
    exact W.iret (v := z_10) hx hb hr (fun t ht hW => ⟨z_10, rfl, (by unfold eX; rw [if_pos (by omega)]; subst_vars; rfl), ht⟩) (fun q h => by cases h) dX7_errorAsKnown_32
set_option maxHeartbeats 4000000 in
set_option maxRecDepth 100000 in
theorem g_X7_rateBetween (l : Launch) (D : va_G) (E : Nat → Nat) (wh : Nat) (wa : Nat → Nat) (wf2 : Nat → Int32) (p0 : Int32) (p1 : Int32) (p2 : Int32) (g0 : 0 ≤ p0.toInt ∧ p0.toInt ≤ 2000000000) : Met l yX7_rateBetween (wl yX7_rateBetween cX7_rateBetween 4 (some .int)) (RM 2 0 0) (rd_P D E [.ref wh, .int p0, .int p1, .int p2] [(wh, .inr (7, G7 wa)), ((wa 2), .inl (E 0, 400, .inl wf2))]) (rd_Q (fun r => (r = rbX wf2 p0 p1 p2))) 0 0 (fun _ => False) := by
  refine Met.ofW (cc := cX7_rateBetween) (maxL := 4) (ret := (some .int)) (by decide) rfl ?_
  intro p e s m args below meth c s₁ B hml hv
  obtain ⟨rfl, hP, hK⟩ := hv
  have hx := B.exec; have hb := B.bytes; have hr := B.returns
  have hts := atoms_spec (ws := wl yX7_rateBetween cX7_rateBetween 4 (some .int)) B.pre
  have htb : ∀ w ∈ tb, w.before _ s = true := fun w h => hts w (List.mem_cons_of_mem _ h)
  have hown : s.vm.findClass RX7 = some m.cls := findClass_of_methodNamed B.named
  have hlocks := B.notSynchronized
  have hP : va_P D vwCl [(wh, .inr (7, G7 wa)), ((wa 2), .inl (E 0, 400, .inl wf2))] s.heap := hP
  have hl := lv_entry ([.ref wh, .int p0, .int p1, .int p2]) (n := 4) (Nat.le_of_ble_eq_true rfl)
  rw [lg_entry_eq]
  generalize (lg_sl ([.ref wh, .int p0, .int p1, .int p2]) ++ List.replicate (4 - (lg_sl ([.ref wh, .int p0, .int p1, .int p2])).length) Slot.unset).toArray = ls at hl ⊢
  have hl : lv_has ls 4 [(0, .ref wh), (1, .int p0), (2, .int p1), (3, .int p2)] := hl
  have lo_p0 := i_lo p0; have hi_p0 := i_hi p0
  have lo_p1 := i_lo p1; have hi_p1 := i_hi p1
  have lo_p2 := i_lo p2; have hi_p2 := i_hi p2
  refine lv_iload_n hx hb dX7_rateBetween_0 rfl (lv_at hl 2 rfl) ?_
  refine lv_ldc hx hb hown (htb _ k_424) dX7_rateBetween_1 ?_
  refine lv_icmp_eq (tgt := 24) hx hb dX7_rateBetween_3 (by decide) (fun c_1 => ?_) (fun c_1 => ?_)
  ·
    have ic_1 : p1.toInt = -2000000000 := (g_eq rfl t_m2000000000).mp c_1
    clear c_1
    refine lv_ldc hx hb hown (htb _ k_424) dX7_rateBetween_24 ?_
    exact W.iret (v := (-2000000000)) hx hb hr (fun t ht hW => ⟨(-2000000000), rfl, (by unfold rbX; subst_vars; first | (rw [if_pos (by omega)]; done) | (rw [if_neg (by omega), if_pos (by omega)]; done) | (rw [if_neg (by omega), if_neg (by omega)]; done)), ht⟩) (fun q h => by cases h) dX7_rateBetween_26
  ·
    have ic_1 : p1.toInt ≠ -2000000000 := mt (g_eq rfl t_m2000000000).mpr c_1
    clear c_1
    refine lv_iload_n hx hb dX7_rateBetween_6 rfl (lv_at hl 3 rfl) ?_
    refine lv_ldc hx hb hown (htb _ k_424) dX7_rateBetween_7 ?_
    refine lv_icmp_eq (tgt := 24) hx hb dX7_rateBetween_9 (by decide) (fun c_2 => ?_) (fun c_2 => ?_)
    ·
      have ic_2 : p2.toInt = -2000000000 := (g_eq rfl t_m2000000000).mp c_2
      clear c_2
      refine lv_ldc hx hb hown (htb _ k_424) dX7_rateBetween_24 ?_
      exact W.iret (v := (-2000000000)) hx hb hr (fun t ht hW => ⟨(-2000000000), rfl, (by unfold rbX; subst_vars; first | (rw [if_pos (by omega)]; done) | (rw [if_neg (by omega), if_pos (by omega)]; done) | (rw [if_neg (by omega), if_neg (by omega)]; done)), ht⟩) (fun q h => by cases h) dX7_rateBetween_26
    ·
      have ic_2 : p2.toInt ≠ -2000000000 := mt (g_eq rfl t_m2000000000).mpr c_2
      clear c_2
      refine lv_iload_n hx hb dX7_rateBetween_12 rfl (lv_at hl 3 rfl) ?_
      refine lv_iload_n hx hb dX7_rateBetween_13 rfl (lv_at hl 2 rfl) ?_
      refine lv_isub hx hb dX7_rateBetween_14 ?_
      refine lv_topi (fun z_3 ez_3 => ?_)
      refine lv_sipush (v := 999) hx hb dX7_rateBetween_15 (by decide) ?_
      refine callRSN (rest := []) (As := [.int z_3, .int 999]) hx hb hml hown htb hK (g_X8_isWithin l D E z_3 999 (by decide)) ok_X8_isWithin (show Cond.methodLinkNest RX7 45 yX8_isWithin RX8 ∈ nestW by decide +kernel) k_327 k_1 k_328 ⟨(Nat.le_of_ble_eq_true rfl), (Nat.le_of_ble_eq_true rfl)⟩ ⟨(Nat.le_of_ble_eq_true rfl), (Nat.le_of_ble_eq_true rfl)⟩ hl.1 (Nat.le_of_ble_eq_true rfl) rfl rfl dX7_rateBetween_18 (hP.sub (ws' := ([] : va_W)) [] rfl) (fun r_4 hw_5 => ?_)
      try simp only [t_999] at hw_5
      rcases hw_5 with ⟨hr_4, hw_5⟩ | ⟨hr_4, hw_5⟩
      ·
        try simp only [t_999] at hw_5
        refine W_top (y := .int 1) (by rw [hr_4]) ?_
        refine lv_if_ne (tgt := 27) hx hb dX7_rateBetween_21 (by decide) (fun c_7 => ?_) (fun c_7 => absurd c_7 (by decide))
        refine lv_aload_n hx hb dX7_rateBetween_27 rfl (lv_at hl 0 rfl) ?_
        refine lv_iload_n hx hb dX7_rateBetween_28 rfl (lv_at hl 1 rfl) ?_
        refine lv_iconst (v := 2) hx hb dX7_rateBetween_29 (by decide) ?_
        refine callRV (rest := []) (As := [.int p0, .int 2]) hx hb hml hown htb hK (g_X7_isMarked l D E wh wa wf2 p0 2 ) ok_X7_isMarked k_439 k_440 k_441 k_10 k_442 ⟨(Nat.le_of_ble_eq_true rfl), (Nat.le_of_ble_eq_true rfl)⟩ ⟨(Nat.le_of_ble_eq_true rfl), (Nat.le_of_ble_eq_true rfl)⟩ hl.1 (Nat.le_of_ble_eq_true rfl) rfl rfl dX7_rateBetween_30 (hP.sub (ws' := [(wh, .inr (7, G7 wa)), ((wa 2), .inl (E 0, 400, .inl wf2))]) [0, 1] rfl) rfl rfl 0 rfl (fun r_8 hw_9 => ?_)
        try simp only [t_2] at hw_9
        refine lv_if_ne (tgt := 47) hx hb dX7_rateBetween_33 (by decide) (fun c_11 => ?_) (fun c_11 => ?_)
        ·
          have ic_11 : r_8.toInt ≠ 0 := mt (g_eq rfl t_0).mpr c_11
          clear c_11
          refine lv_ldc hx hb hown (htb _ k_424) dX7_rateBetween_47 ?_
          exact W.iret (v := (-2000000000)) hx hb hr (fun t ht hW => ⟨(-2000000000), rfl, (by unfold rbX; subst_vars; first | (rw [if_pos (by omega)]; done) | (rw [if_neg (by omega), if_pos (by omega)]; done) | (rw [if_neg (by omega), if_neg (by omega)]; done)), ht⟩) (fun q h => by cases h) dX7_rateBetween_49
        ·
          have ic_11 : r_8.toInt = 0 := (g_eq rfl t_0).mp c_11
          clear c_11
          refine lv_aload_n hx hb dX7_rateBetween_36 rfl (lv_at hl 0 rfl) ?_
          refine lv_iload_n hx hb dX7_rateBetween_37 rfl (lv_at hl 1 rfl) ?_
          refine lv_iconst (v := 1) hx hb dX7_rateBetween_38 (by decide) ?_
          refine lv_iadd hx hb dX7_rateBetween_39 ?_
          refine lv_topi (fun z_12 ez_12 => ?_)
          have jz_12 : z_12.toInt = p0.toInt + 1 := by rw [ez_12]; exact g_add rfl t_1 (by omega) (by omega)
          refine lv_iconst (v := 3) hx hb dX7_rateBetween_40 (by decide) ?_
          refine callRV (rest := []) (As := [.int z_12, .int 3]) hx hb hml hown htb hK (g_X7_isMarked l D E wh wa wf2 z_12 3 ) ok_X7_isMarked k_439 k_440 k_441 k_10 k_442 ⟨(Nat.le_of_ble_eq_true rfl), (Nat.le_of_ble_eq_true rfl)⟩ ⟨(Nat.le_of_ble_eq_true rfl), (Nat.le_of_ble_eq_true rfl)⟩ hl.1 (Nat.le_of_ble_eq_true rfl) rfl rfl dX7_rateBetween_41 (hP.sub (ws' := [(wh, .inr (7, G7 wa)), ((wa 2), .inl (E 0, 400, .inl wf2))]) [0, 1] rfl) rfl rfl 0 rfl (fun r_13 hw_14 => ?_)
          try simp only [t_3] at hw_14
          refine lv_if_eq (tgt := 50) hx hb dX7_rateBetween_44 (by decide) (fun c_16 => ?_) (fun c_16 => ?_)
          ·
            have ic_16 : r_13.toInt = 0 := (g_eq rfl t_0).mp c_16
            clear c_16
            refine lv_iload_n hx hb dX7_rateBetween_50 rfl (lv_at hl 3 rfl) ?_
            refine lv_iload_n hx hb dX7_rateBetween_51 rfl (lv_at hl 2 rfl) ?_
            refine lv_isub hx hb dX7_rateBetween_52 ?_
            refine lv_topi (fun z_17 ez_17 => ?_)
            exact W.iret (v := z_17) hx hb hr (fun t ht hW => ⟨z_17, rfl, (by unfold rbX; subst_vars; first | (rw [if_pos (by omega)]; done) | (rw [if_neg (by omega), if_pos (by omega)]; done) | (rw [if_neg (by omega), if_neg (by omega)]; done)), ht⟩) (fun q h => by cases h) dX7_rateBetween_53
          ·
            have ic_16 : r_13.toInt ≠ 0 := mt (g_eq rfl t_0).mpr c_16
            clear c_16
            refine lv_ldc hx hb hown (htb _ k_424) dX7_rateBetween_47 ?_
            exact W.iret (v := (-2000000000)) hx hb hr (fun t ht hW => ⟨(-2000000000), rfl, (by unfold rbX; subst_vars; first | (rw [if_pos (by omega)]; done) | (rw [if_neg (by omega), if_pos (by omega)]; done) | (rw [if_neg (by omega), if_neg (by omega)]; done)), ht⟩) (fun q h => by cases h) dX7_rateBetween_49
      ·
        try simp only [t_999] at hw_5
        refine W_top (y := .int 0) (by rw [hr_4]) ?_
        refine lv_if_ne (tgt := 27) hx hb dX7_rateBetween_21 (by decide) (fun c_18 => absurd (by decide) c_18) (fun c_18 => ?_)
        refine lv_ldc hx hb hown (htb _ k_424) dX7_rateBetween_24 ?_
        exact W.iret (v := (-2000000000)) hx hb hr (fun t ht hW => ⟨(-2000000000), rfl, (by unfold rbX; subst_vars; first | (rw [if_pos (by omega)]; done) | (rw [if_neg (by omega), if_pos (by omega)]; done) | (rw [if_neg (by omega), if_neg (by omega)]; done)), ht⟩) (fun q h => by cases h) dX7_rateBetween_26
set_option maxHeartbeats 4000000 in
set_option maxRecDepth 100000 in
theorem g_X7_rateAsKnown (l : Launch) (D : va_G) (E : Nat → Nat) (wh : Nat) (wa : Nat → Nat) (wf0 : Nat → Int32) (wf1 : Nat → Int32) (wf2 : Nat → Int32) (oh : Nat) (oa : Nat → Nat) (osize : Int32) (of0 : Nat → Int32) (of1 : Nat → Int32) (of2 : Nat → Int32) (of3 : Nat → Int32) (of4 : Nat → Int32) (p0 : Int32) (p2 : Int32) (hi_o : (0 ≤ osize.toInt ∧ osize.toInt ≤ 60)) (g0 : 0 ≤ p0.toInt ∧ p0.toInt ≤ 399) : Met l yX7_rateAsKnown (wl yX7_rateAsKnown cX7_rateAsKnown 4 (some .int)) (RM 3 0 0) (rd_P D E [.ref wh, .int p0, .ref oh, .int p2] [(wh, .inr (7, G7 wa)), ((wa 0), .inl (E 0, 400, .inl wf0)), ((wa 1), .inl (E 0, 400, .inl wf1)), ((wa 2), .inl (E 0, 400, .inl wf2)), (oh, .inr (2, G2 oa osize)), ((oa 0), .inl (E 0, 60, .inl of0)), ((oa 1), .inl (E 0, 60, .inl of1)), ((oa 2), .inl (E 0, 60, .inl of2)), ((oa 3), .inl (E 0, 60, .inl of3)), ((oa 4), .inl (E 0, 60, .inl of4))]) (rd_Q (fun r => (r = rX wf0 wf1 wf2 of0 of1 of2 of3 of4 osize p0 p2))) 0 0 (fun _ => False) := by
  refine Met.ofW (cc := cX7_rateAsKnown) (maxL := 4) (ret := (some .int)) (by decide) rfl ?_
  intro p e s m args below meth c s₁ B hml hv
  obtain ⟨rfl, hP, hK⟩ := hv
  have hx := B.exec; have hb := B.bytes; have hr := B.returns
  have hts := atoms_spec (ws := wl yX7_rateAsKnown cX7_rateAsKnown 4 (some .int)) B.pre
  have htb : ∀ w ∈ tb, w.before _ s = true := fun w h => hts w (List.mem_cons_of_mem _ h)
  have hown : s.vm.findClass RX7 = some m.cls := findClass_of_methodNamed B.named
  have hlocks := B.notSynchronized
  have hP : va_P D vwCl [(wh, .inr (7, G7 wa)), ((wa 0), .inl (E 0, 400, .inl wf0)), ((wa 1), .inl (E 0, 400, .inl wf1)), ((wa 2), .inl (E 0, 400, .inl wf2)), (oh, .inr (2, G2 oa osize)), ((oa 0), .inl (E 0, 60, .inl of0)), ((oa 1), .inl (E 0, 60, .inl of1)), ((oa 2), .inl (E 0, 60, .inl of2)), ((oa 3), .inl (E 0, 60, .inl of3)), ((oa 4), .inl (E 0, 60, .inl of4))] s.heap := hP
  have hl := lv_entry ([.ref wh, .int p0, .ref oh, .int p2]) (n := 4) (Nat.le_of_ble_eq_true rfl)
  rw [lg_entry_eq]
  generalize (lg_sl ([.ref wh, .int p0, .ref oh, .int p2]) ++ List.replicate (4 - (lg_sl ([.ref wh, .int p0, .ref oh, .int p2])).length) Slot.unset).toArray = ls at hl ⊢
  have hl : lv_has ls 4 [(0, .ref wh), (1, .int p0), (2, .ref oh), (3, .int p2)] := hl
  have lo_p0 := i_lo p0; have hi_p0 := i_hi p0
  have lo_p2 := i_lo p2; have hi_p2 := i_hi p2
  refine lv_aload_n hx hb dX7_rateAsKnown_0 rfl (lv_at hl 0 rfl) ?_
  refine lv_iload_n hx hb dX7_rateAsKnown_1 rfl (lv_at hl 1 rfl) ?_
  refine lv_aload_n hx hb dX7_rateAsKnown_2 rfl (lv_at hl 0 rfl) ?_
  refine lv_iload_n hx hb dX7_rateAsKnown_3 rfl (lv_at hl 1 rfl) ?_
  refine lv_aload_n hx hb dX7_rateAsKnown_4 rfl (lv_at hl 2 rfl) ?_
  refine lv_iload_n hx hb dX7_rateAsKnown_5 rfl (lv_at hl 3 rfl) ?_
  refine callRV (rest := [.int p0, .ref wh]) (As := [.int p0, .ref oh, .int p2]) hx hb hml hown htb hK (g_X7_errorAsKnown l D E wh wa wf0 wf1 oh oa osize of0 of1 of2 of3 of4 p0 p2 (by (try dsimp only); omega)) ok_X7_errorAsKnown k_433 k_416 k_417 k_10 k_418 ⟨(Nat.le_of_ble_eq_true rfl), (Nat.le_of_ble_eq_true rfl)⟩ ⟨(Nat.le_of_ble_eq_true rfl), (Nat.le_of_ble_eq_true rfl)⟩ hl.1 (Nat.le_of_ble_eq_true rfl) rfl rfl dX7_rateAsKnown_6 (hP.sub (ws' := [(wh, .inr (7, G7 wa)), ((wa 0), .inl (E 0, 400, .inl wf0)), ((wa 1), .inl (E 0, 400, .inl wf1)), (oh, .inr (2, G2 oa osize)), ((oa 0), .inl (E 0, 60, .inl of0)), ((oa 1), .inl (E 0, 60, .inl of1)), ((oa 2), .inl (E 0, 60, .inl of2)), ((oa 3), .inl (E 0, 60, .inl of3)), ((oa 4), .inl (E 0, 60, .inl of4))]) [0, 1, 2, 4, 5, 6, 7, 8, 9] rfl) rfl rfl 0 rfl (fun r_1 hw_2 => ?_)
  refine lv_aload_n hx hb dX7_rateAsKnown_9 rfl (lv_at hl 0 rfl) ?_
  refine lv_iload_n hx hb dX7_rateAsKnown_10 rfl (lv_at hl 1 rfl) ?_
  refine lv_iconst (v := 1) hx hb dX7_rateAsKnown_11 (by decide) ?_
  refine lv_iadd hx hb dX7_rateAsKnown_12 ?_
  refine lv_topi (fun z_4 ez_4 => ?_)
  have jz_4 : z_4.toInt = p0.toInt + 1 := by rw [ez_4]; exact g_add rfl t_1 (by omega) (by omega)
  refine lv_aload_n hx hb dX7_rateAsKnown_13 rfl (lv_at hl 2 rfl) ?_
  refine lv_iload_n hx hb dX7_rateAsKnown_14 rfl (lv_at hl 3 rfl) ?_
  refine callRV (rest := [.int r_1, .int p0, .ref wh]) (As := [.int z_4, .ref oh, .int p2]) hx hb hml hown htb hK (g_X7_errorAsKnown l D E wh wa wf0 wf1 oh oa osize of0 of1 of2 of3 of4 z_4 p2 (by (try dsimp only); omega)) ok_X7_errorAsKnown k_433 k_416 k_417 k_10 k_418 ⟨(Nat.le_of_ble_eq_true rfl), (Nat.le_of_ble_eq_true rfl)⟩ ⟨(Nat.le_of_ble_eq_true rfl), (Nat.le_of_ble_eq_true rfl)⟩ hl.1 (Nat.le_of_ble_eq_true rfl) rfl rfl dX7_rateAsKnown_15 (hP.sub (ws' := [(wh, .inr (7, G7 wa)), ((wa 0), .inl (E 0, 400, .inl wf0)), ((wa 1), .inl (E 0, 400, .inl wf1)), (oh, .inr (2, G2 oa osize)), ((oa 0), .inl (E 0, 60, .inl of0)), ((oa 1), .inl (E 0, 60, .inl of1)), ((oa 2), .inl (E 0, 60, .inl of2)), ((oa 3), .inl (E 0, 60, .inl of3)), ((oa 4), .inl (E 0, 60, .inl of4))]) [0, 1, 2, 4, 5, 6, 7, 8, 9] rfl) rfl rfl 0 rfl (fun r_5 hw_6 => ?_)
  refine callRV (rest := []) (As := [.int p0, .int r_1, .int r_5]) hx hb hml hown htb hK (g_X7_rateBetween l D E wh wa wf2 p0 r_1 r_5 (by (try dsimp only); omega)) ok_X7_rateBetween k_434 k_435 k_436 k_10 k_437 ⟨(Nat.le_of_ble_eq_true rfl), (Nat.le_of_ble_eq_true rfl)⟩ ⟨(Nat.le_of_ble_eq_true rfl), (Nat.le_of_ble_eq_true rfl)⟩ hl.1 (Nat.le_of_ble_eq_true rfl) rfl rfl dX7_rateAsKnown_18 (hP.sub (ws' := [(wh, .inr (7, G7 wa)), ((wa 2), .inl (E 0, 400, .inl wf2))]) [0, 3] rfl) rfl rfl 0 rfl (fun r_8 hw_9 => ?_)
  exact W.iret (v := r_8) hx hb hr (fun t ht hW => ⟨r_8, rfl, (by unfold rX; subst_vars; rfl), ht⟩) (fun q h => by cases h) dX7_rateAsKnown_21
set_option maxHeartbeats 4000000 in
set_option maxRecDepth 100000 in
theorem g_X7_ageOn (l : Launch) (D : va_G) (E : Nat → Nat) (wh : Nat) (wa : Nat → Nat) (wf2 : Nat → Int32) (p0 : Int32) (g0 : 0 ≤ p0.toInt ∧ p0.toInt ≤ 399) : Met l yX7_ageOn (wl yX7_ageOn cX7_ageOn 3 (some .int)) (RM 2 0 0) (rd_P D E [.ref wh, .int p0] [(wh, .inr (7, G7 wa)), ((wa 2), .inl (E 0, 400, .inl wf2))]) (rd_Q (fun r => (r.toInt = ageN wf2 (p0.toInt).toNat))) 0 0 (fun _ => False) := by
  refine Met.ofW (cc := cX7_ageOn) (maxL := 3) (ret := (some .int)) (by decide) rfl ?_
  intro p e s m args below meth c s₁ B hml hv
  obtain ⟨rfl, hP, hK⟩ := hv
  have hx := B.exec; have hb := B.bytes; have hr := B.returns
  have hts := atoms_spec (ws := wl yX7_ageOn cX7_ageOn 3 (some .int)) B.pre
  have htb : ∀ w ∈ tb, w.before _ s = true := fun w h => hts w (List.mem_cons_of_mem _ h)
  have hown : s.vm.findClass RX7 = some m.cls := findClass_of_methodNamed B.named
  have hlocks := B.notSynchronized
  have hP : va_P D vwCl [(wh, .inr (7, G7 wa)), ((wa 2), .inl (E 0, 400, .inl wf2))] s.heap := hP
  have hl := lv_entry ([.ref wh, .int p0]) (n := 3) (Nat.le_of_ble_eq_true rfl)
  rw [lg_entry_eq]
  generalize (lg_sl ([.ref wh, .int p0]) ++ List.replicate (3 - (lg_sl ([.ref wh, .int p0])).length) Slot.unset).toArray = ls at hl ⊢
  have hl : lv_has ls 3 [(0, .ref wh), (1, .int p0)] := hl
  have lo_p0 := i_lo p0; have hi_p0 := i_hi p0
  refine lv_iconst (v := 0) hx hb dX7_ageOn_0 (by decide) ?_
  refine lv_istore_n (lv' := [(2, .int 0), (0, .ref wh), (1, .int p0)]) hx hb dX7_ageOn_1 rfl hl (by decide) rfl (fun ls hl => ?_)
  have loop_1 : ∀ (N_3 : Nat) (L2_2 : Int32)  (ls : Array Slot), p0.toInt - L2_2.toInt < (N_3 : Int) → (0 ≤ L2_2.toInt ∧ L2_2.toInt ≤ p0.toInt) → (ageN wf2 (p0.toInt).toNat - L2_2.toInt = ageN wf2 (p0.toInt - L2_2.toInt).toNat) → lv_has ls 3 [(2, .int L2_2), (0, .ref wh), (1, .int p0)] → W p l e (headSpec (wl yX7_ageOn cX7_ageOn 3 (some .int)) (RM 2 0 0)).room s m [Value.ref wh, .int p0].toArray below meth c s.heap [] 0 0 (MQ below (rd_Q (fun r => (r.toInt = ageN wf2 (p0.toInt).toNat))) [Value.ref wh, .int p0].toArray s 0 0 (fun _ => False)) (F0 m 2 ls []) := by
    intro N_3
    induction N_3 with
    | zero => intro L2_2  ls hm v0_2 v1_2 _; exfalso; omega
    | succ N_3 ih_2 =>
      intro L2_2 ls hm v0_2 v1_2 hl
      have lo_L2_2 := i_lo L2_2; have hi_L2_2 := i_hi L2_2
      refine lv_iload_n hx hb dX7_ageOn_2 rfl (lv_at hl 0 rfl) ?_
      refine lv_iload_n hx hb dX7_ageOn_3 rfl (lv_at hl 2 rfl) ?_
      refine lv_icmp_ge (tgt := 26) hx hb dX7_ageOn_4 (by decide) (fun c_4 => ?_) (fun c_4 => ?_)
      ·
        have ic_4 : p0.toInt ≤ L2_2.toInt := by first | exact (g_le rfl rfl).mp c_4 | (have h := mt (g_lt rfl rfl).mpr c_4; omega)
        clear c_4
        refine lv_iload_n hx hb dX7_ageOn_26 rfl (lv_at hl 2 rfl) ?_
        exact W.iret (v := p0) hx hb hr (fun t ht hW => ⟨p0, rfl, (by have h9 := v1_2; rw [show (p0.toInt - L2_2.toInt).toNat = 0 by omega] at h9; have h8 : ageN wf2 0 = 0 := rfl; omega), ht⟩) (fun q h => by cases h) dX7_ageOn_27
      ·
        have ic_4 : L2_2.toInt < p0.toInt := by first | exact (g_lt rfl rfl).mp c_4 | (have h := mt (g_le rfl rfl).mpr c_4; omega)
        clear c_4
        refine lv_aload_n hx hb dX7_ageOn_7 rfl (lv_at hl 1 rfl) ?_
        refine lv_iload_n hx hb dX7_ageOn_8 rfl (lv_at hl 2 rfl) ?_
        refine lv_iload_n hx hb dX7_ageOn_9 rfl (lv_at hl 0 rfl) ?_
        refine lv_isub hx hb dX7_ageOn_10 ?_
        refine lv_topi (fun z_5 ez_5 => ?_)
        have jz_5 : z_5.toInt = p0.toInt - L2_2.toInt := by rw [ez_5]; exact g_sub rfl rfl (by omega) (by omega)
        refine lv_iconst (v := 1) hx hb dX7_ageOn_11 (by decide) ?_
        refine callRV (rest := []) (As := [.int z_5, .int 1]) hx hb hml hown htb hK (g_X7_isMarked l D E wh wa wf2 z_5 1 ) ok_X7_isMarked k_439 k_440 k_441 k_10 k_442 ⟨(Nat.le_of_ble_eq_true rfl), (Nat.le_of_ble_eq_true rfl)⟩ ⟨(Nat.le_of_ble_eq_true rfl), (Nat.le_of_ble_eq_true rfl)⟩ hl.1 (Nat.le_of_ble_eq_true rfl) rfl rfl dX7_ageOn_12 (hP.sub (ws' := [(wh, .inr (7, G7 wa)), ((wa 2), .inl (E 0, 400, .inl wf2))]) [0, 1] rfl) rfl rfl 0 rfl (fun r_6 hw_7 => ?_)
        try simp only [t_1] at hw_7
        refine lv_if_eq (tgt := 20) hx hb dX7_ageOn_15 (by decide) (fun c_9 => ?_) (fun c_9 => ?_)
        ·
          have ic_9 : r_6.toInt = 0 := (g_eq rfl t_0).mp c_9
          clear c_9
          obtain ⟨z_10, ez_10⟩ : ∃ y : Int32, y = L2_2 + 1 := ⟨_, rfl⟩
          have jz_10 : z_10.toInt = L2_2.toInt + 1 := by rw [ez_10]; exact g_add rfl t_1 (by omega) (by omega)
          refine lv_iinc (v := z_10) (lv' := [(2, .int z_10), (0, .ref wh), (1, .int p0)]) hx hb dX7_ageOn_20 hl (k := 0) rfl (by rw [ez_10]; rfl) (by decide) rfl (fun ls hl => ?_)
          refine lv_goto (tgt := 2) hx hb dX7_ageOn_23 (by decide) ?_
          exact ih_2 z_10 _ (by (try dsimp only); omega) (by (try dsimp only); omega) (by have h9 := age_back (f := wf2) (m := z_5) (n := (p0.toInt - L2_2.toInt).toNat) (by omega) (by omega) v1_2 (by omega); rw [show (p0.toInt - z_10.toInt).toNat = (p0.toInt - L2_2.toInt).toNat - 1 by omega, ← h9]; omega) (lv_sub hl [0, 1, 2] rfl)
        ·
          have ic_9 : r_6.toInt ≠ 0 := mt (g_eq rfl t_0).mpr c_9
          clear c_9
          refine lv_iload_n hx hb dX7_ageOn_18 rfl (lv_at hl 0 rfl) ?_
          exact W.iret (v := L2_2) hx hb hr (fun t ht hW => ⟨L2_2, rfl, (by have h9 := age_here (f := wf2) (m := z_5) (n := (p0.toInt - L2_2.toInt).toNat) (by omega) (by omega) (by omega); omega), ht⟩) (fun q h => by cases h) dX7_ageOn_19
  exact loop_1 400 0 _ (by have h0 := t_0; (try dsimp only); omega) (by have h0 := t_0; (try dsimp only); omega) (by have h0 := t_0; rw [h0, show p0.toInt - 0 = p0.toInt by omega]; omega)  (lv_sub hl [0, 1, 2] rfl)
set_option maxHeartbeats 4000000 in
set_option maxRecDepth 100000 in
theorem g_X7_daysAway (l : Launch) (D : va_G) (E : Nat → Nat) (wh : Nat) (wa : Nat → Nat) (wf3 : Nat → Int32) (p0 : Int32) (g0 : 0 ≤ p0.toInt ∧ p0.toInt ≤ 399) : Met l yX7_daysAway (wl yX7_daysAway cX7_daysAway 4 (some .int)) (RM 0 0 0) (rd_P D E [.ref wh, .int p0] [(wh, .inr (7, G7 wa)), ((wa 3), .inl (E 0, 400, .inl wf3))]) (rd_Q (fun r => (r.toInt = awN wf3 (p0.toInt + 1).toNat))) 0 0 (fun _ => False) := by
  refine Met.ofW (cc := cX7_daysAway) (maxL := 4) (ret := (some .int)) (by decide) rfl ?_
  intro p e s m args below meth c s₁ B hml hv
  obtain ⟨rfl, hP, hK⟩ := hv
  have hx := B.exec; have hb := B.bytes; have hr := B.returns
  have hts := atoms_spec (ws := wl yX7_daysAway cX7_daysAway 4 (some .int)) B.pre
  have htb : ∀ w ∈ tb, w.before _ s = true := fun w h => hts w (List.mem_cons_of_mem _ h)
  have hown : s.vm.findClass RX7 = some m.cls := findClass_of_methodNamed B.named
  have hlocks := B.notSynchronized
  have hP : va_P D vwCl [(wh, .inr (7, G7 wa)), ((wa 3), .inl (E 0, 400, .inl wf3))] s.heap := hP
  have hl := lv_entry ([.ref wh, .int p0]) (n := 4) (Nat.le_of_ble_eq_true rfl)
  rw [lg_entry_eq]
  generalize (lg_sl ([.ref wh, .int p0]) ++ List.replicate (4 - (lg_sl ([.ref wh, .int p0])).length) Slot.unset).toArray = ls at hl ⊢
  have hl : lv_has ls 4 [(0, .ref wh), (1, .int p0)] := hl
  have lo_p0 := i_lo p0; have hi_p0 := i_hi p0
  refine lv_iconst (v := 0) hx hb dX7_daysAway_0 (by decide) ?_
  refine lv_istore_n (lv' := [(2, .int 0), (0, .ref wh), (1, .int p0)]) hx hb dX7_daysAway_1 rfl hl (by decide) rfl (fun ls hl => ?_)
  refine lv_iconst (v := 0) hx hb dX7_daysAway_2 (by decide) ?_
  refine lv_istore_n (lv' := [(3, .int 0), (2, .int 0), (0, .ref wh), (1, .int p0)]) hx hb dX7_daysAway_3 rfl hl (by decide) rfl (fun ls hl => ?_)
  have loop_1 : ∀ (N_3 : Nat) (L3_4 : Int32) (L2_4 : Int32)  (ls : Array Slot), p0.toInt + 1 - L3_4.toInt < (N_3 : Int) → (0 ≤ L3_4.toInt ∧ L3_4.toInt ≤ p0.toInt + 1 ∧ 0 ≤ L2_4.toInt ∧ L2_4.toInt ≤ L3_4.toInt) → (L2_4.toInt = awN wf3 (L3_4).toNatClampNeg) → lv_has ls 4 [(3, .int L3_4), (2, .int L2_4), (0, .ref wh), (1, .int p0)] → W p l e (headSpec (wl yX7_daysAway cX7_daysAway 4 (some .int)) (RM 0 0 0)).room s m [Value.ref wh, .int p0].toArray below meth c s.heap [] 0 0 (MQ below (rd_Q (fun r => (r.toInt = awN wf3 (p0.toInt + 1).toNat))) [Value.ref wh, .int p0].toArray s 0 0 (fun _ => False)) (F0 m 4 ls []) := by
    intro N_3
    induction N_3 with
    | zero => intro L3_4 L2_4  ls hm v0_4 v1_4 _; exfalso; omega
    | succ N_3 ih_2 =>
      intro L3_4 L2_4 ls hm v0_4 v1_4 hl
      have lo_L3_4 := i_lo L3_4; have hi_L3_4 := i_hi L3_4
      have lo_L2_4 := i_lo L2_4; have hi_L2_4 := i_hi L2_4
      refine lv_iload_n hx hb dX7_daysAway_4 rfl (lv_at hl 0 rfl) ?_
      refine lv_iload_n hx hb dX7_daysAway_5 rfl (lv_at hl 3 rfl) ?_
      refine lv_icmp_gt (tgt := 35) hx hb dX7_daysAway_6 (by decide) (fun c_4 => ?_) (fun c_4 => ?_)
      ·
        have ic_4 : p0.toInt < L3_4.toInt := by first | exact (g_lt rfl rfl).mp c_4 | (have h := mt (g_le rfl rfl).mpr c_4; omega)
        clear c_4
        refine lv_iload_n hx hb dX7_daysAway_35 rfl (lv_at hl 1 rfl) ?_
        exact W.iret (v := L2_4) hx hb hr (fun t ht hW => ⟨L2_4, rfl, (by have h9 := v1_4; have hc := i_clamp0 (x := L3_4) (by omega); rw [show (p0.toInt + 1).toNat = (L3_4).toNatClampNeg by omega]; exact h9), ht⟩) (fun q h => by cases h) dX7_daysAway_36
      ·
        have ic_4 : L3_4.toInt ≤ p0.toInt := by first | exact (g_le rfl rfl).mp c_4 | (have h := mt (g_lt rfl rfl).mpr c_4; omega)
        clear c_4
        refine lv_iload_n hx hb dX7_daysAway_9 rfl (lv_at hl 0 rfl) ?_
        refine lv_sipush (v := 400) hx hb dX7_daysAway_10 (by decide) ?_
        refine lv_icmp_ge (tgt := 35) hx hb dX7_daysAway_13 (by decide) (fun c_5 => absurd c_5 (by rw [g_le t_400 rfl]; omega)) (fun c_5 => ?_)
        refine lv_aload_n hx hb dX7_daysAway_16 rfl (lv_at hl 2 rfl) ?_
        refine va_get (D := D) (ci := 7) (v := .ref (wa 3)) (C := RX7) (T := TX7) (N := 4) hx hb htb iX7 hown hK.1 hP 0 rfl rfl 3 (by decide) (htb _ k_351) (fun _ h9 => h9) rfl dX7_daysAway_17 ?_
        refine lv_iload_n hx hb dX7_daysAway_20 rfl (lv_at hl 0 rfl) ?_
        refine va_iald hx hb hK.1 hP 1 0 rfl rfl (g_in rfl (by omega) (by omega)) dX7_daysAway_21 ?_
        refine lv_topi (fun z_6 ez_6 => ?_)
        have kz_6 := congrArg Int32.toInt ez_6
        refine lv_iconst (v := (-1)) hx hb dX7_daysAway_22 (by decide) ?_
        refine lv_icmp_eq (tgt := 29) hx hb dX7_daysAway_23 (by decide) (fun c_7 => ?_) (fun c_7 => ?_)
        ·
          have ic_7 : z_6.toInt = -1 := (g_eq rfl t_m1).mp c_7
          clear c_7
          obtain ⟨z_8, ez_8⟩ : ∃ y : Int32, y = L3_4 + 1 := ⟨_, rfl⟩
          have jz_8 : z_8.toInt = L3_4.toInt + 1 := by rw [ez_8]; exact g_add rfl t_1 (by omega) (by omega)
          refine lv_iinc (v := z_8) (lv' := [(3, .int z_8), (2, .int L2_4), (0, .ref wh), (1, .int p0)]) hx hb dX7_daysAway_29 hl (k := 0) rfl (by rw [ez_8]; rfl) (by decide) rfl (fun ls hl => ?_)
          refine lv_goto (tgt := 4) hx hb dX7_daysAway_32 (by decide) ?_
          exact ih_2 z_8 L2_4 _ (by (try dsimp only); omega) (by (try dsimp only); omega) (by have hcl := clampS (by omega) jz_8; rw [hcl, awN_succ]; split <;> omega) (lv_sub hl [0, 1, 2, 3] rfl)
        ·
          have ic_7 : z_6.toInt ≠ -1 := mt (g_eq rfl t_m1).mpr c_7
          clear c_7
          obtain ⟨z_9, ez_9⟩ : ∃ y : Int32, y = L2_4 + 1 := ⟨_, rfl⟩
          have jz_9 : z_9.toInt = L2_4.toInt + 1 := by rw [ez_9]; exact g_add rfl t_1 (by omega) (by omega)
          refine lv_iinc (v := z_9) (lv' := [(2, .int z_9), (3, .int L3_4), (0, .ref wh), (1, .int p0)]) hx hb dX7_daysAway_26 hl (k := 1) rfl (by rw [ez_9]; rfl) (by decide) rfl (fun ls hl => ?_)
          obtain ⟨z_10, ez_10⟩ : ∃ y : Int32, y = L3_4 + 1 := ⟨_, rfl⟩
          have jz_10 : z_10.toInt = L3_4.toInt + 1 := by rw [ez_10]; exact g_add rfl t_1 (by omega) (by omega)
          refine lv_iinc (v := z_10) (lv' := [(3, .int z_10), (2, .int z_9), (0, .ref wh), (1, .int p0)]) hx hb dX7_daysAway_29 hl (k := 1) rfl (by rw [ez_10]; rfl) (by decide) rfl (fun ls hl => ?_)
          refine lv_goto (tgt := 4) hx hb dX7_daysAway_32 (by decide) ?_
          exact ih_2 z_10 z_9 _ (by (try dsimp only); omega) (by (try dsimp only); omega) (by have hcl := clampS (by omega) jz_10; rw [hcl, awN_succ]; split <;> omega) (lv_sub hl [0, 1, 2, 3] rfl)
  exact loop_1 401 0 0 _ (by have h0 := t_0; (try dsimp only); omega) (by have h0 := t_0; (try dsimp only); omega) (by rfl)  (lv_sub hl [0, 1, 2, 3] rfl)
set_option maxHeartbeats 4000000 in
set_option maxRecDepth 100000 in
theorem g_X3_least (l : Launch) (D : va_G) (E : Nat → Nat) (rh : Nat) (ra : Nat → Nat) (rsize : Int32) (rf1 : Nat → Int32) (hi_r : (0 ≤ rsize.toInt ∧ rsize.toInt ≤ 60)) : Met l yX3_least (wl yX3_least cX3_least 3 (some .int)) (RM 1 0 0) (rd_P D E [.ref rh] [(rh, .inr (3, G3 ra rsize)), ((ra 1), .inl (E 0, 60, .inl rf1))]) (rd_Q (fun r => (r.toInt = minF rf1 (rsize).toNatClampNeg))) 0 0 (fun _ => False) := by
  refine Met.ofW (cc := cX3_least) (maxL := 3) (ret := (some .int)) (by decide) rfl ?_
  intro p e s m args below meth c s₁ B hml hv
  obtain ⟨rfl, hP, hK⟩ := hv
  have hx := B.exec; have hb := B.bytes; have hr := B.returns
  have hts := atoms_spec (ws := wl yX3_least cX3_least 3 (some .int)) B.pre
  have htb : ∀ w ∈ tb, w.before _ s = true := fun w h => hts w (List.mem_cons_of_mem _ h)
  have hown : s.vm.findClass RX3 = some m.cls := findClass_of_methodNamed B.named
  have hlocks := B.notSynchronized
  have hP : va_P D vwCl [(rh, .inr (3, G3 ra rsize)), ((ra 1), .inl (E 0, 60, .inl rf1))] s.heap := hP
  have hl := lv_entry ([.ref rh]) (n := 3) (Nat.le_of_ble_eq_true rfl)
  rw [lg_entry_eq]
  generalize (lg_sl ([.ref rh]) ++ List.replicate (3 - (lg_sl ([.ref rh])).length) Slot.unset).toArray = ls at hl ⊢
  have hl : lv_has ls 3 [(0, .ref rh)] := hl
  refine lv_sipush (v := 999) hx hb dX3_least_0 (by decide) ?_
  refine lv_istore_n (lv' := [(1, .int 999), (0, .ref rh)]) hx hb dX3_least_3 rfl hl (by decide) rfl (fun ls hl => ?_)
  refine lv_iconst (v := 0) hx hb dX3_least_4 (by decide) ?_
  refine lv_istore_n (lv' := [(2, .int 0), (1, .int 999), (0, .ref rh)]) hx hb dX3_least_5 rfl hl (by decide) rfl (fun ls hl => ?_)
  have loop_1 : ∀ (N_3 : Nat) (L2_6 : Int32) (L1_6 : Int32)  (ls : Array Slot), rsize.toInt - L2_6.toInt < (N_3 : Int) → (0 ≤ L2_6.toInt ∧ L2_6.toInt ≤ rsize.toInt) → (L1_6.toInt = minF rf1 (L2_6).toNatClampNeg) → lv_has ls 3 [(2, .int L2_6), (1, .int L1_6), (0, .ref rh)] → W p l e (headSpec (wl yX3_least cX3_least 3 (some .int)) (RM 1 0 0)).room s m [Value.ref rh].toArray below meth c s.heap [] 0 0 (MQ below (rd_Q (fun r => (r.toInt = minF rf1 (rsize).toNatClampNeg))) [Value.ref rh].toArray s 0 0 (fun _ => False)) (F0 m 6 ls []) := by
    intro N_3
    induction N_3 with
    | zero => intro L2_6 L1_6  ls hm v0_6 v1_6 _; exfalso; omega
    | succ N_3 ih_2 =>
      intro L2_6 L1_6 ls hm v0_6 v1_6 hl
      have lo_L2_6 := i_lo L2_6; have hi_L2_6 := i_hi L2_6
      have lo_L1_6 := i_lo L1_6; have hi_L1_6 := i_hi L1_6
      refine lv_iload_n hx hb dX3_least_6 rfl (lv_at hl 0 rfl) ?_
      refine lv_aload_n hx hb dX3_least_7 rfl (lv_at hl 2 rfl) ?_
      refine va_get (D := D) (ci := 3) (v := .int rsize) (C := RX3) (T := TX3) (N := 4) hx hb htb iX3 hown hK.1 hP 0 rfl rfl 3 (by decide) (htb _ k_66) (fun _ h9 => h9) rfl dX3_least_8 ?_
      refine lv_icmp_ge (tgt := 31) hx hb dX3_least_11 (by decide) (fun c_4 => ?_) (fun c_4 => ?_)
      ·
        have ic_4 : rsize.toInt ≤ L2_6.toInt := by first | exact (g_le rfl rfl).mp c_4 | (have h := mt (g_lt rfl rfl).mpr c_4; omega)
        clear c_4
        refine lv_iload_n hx hb dX3_least_31 rfl (lv_at hl 1 rfl) ?_
        exact W.iret (v := L1_6) hx hb hr (fun t ht hW => ⟨L1_6, rfl, (by have hcl := clampE (i := L2_6) (j := rsize) (by omega) (by omega); rw [hcl]; exact v1_6), ht⟩) (fun q h => by cases h) dX3_least_32
      ·
        have ic_4 : L2_6.toInt < rsize.toInt := by first | exact (g_lt rfl rfl).mp c_4 | (have h := mt (g_le rfl rfl).mpr c_4; omega)
        clear c_4
        refine lv_iload_n hx hb dX3_least_14 rfl (lv_at hl 1 rfl) ?_
        refine lv_aload_n hx hb dX3_least_15 rfl (lv_at hl 2 rfl) ?_
        refine va_get (D := D) (ci := 3) (v := .ref (ra 1)) (C := RX3) (T := TX3) (N := 4) hx hb htb iX3 hown hK.1 hP 0 rfl rfl 1 (by decide) (htb _ k_63) (fun _ h9 => h9) rfl dX3_least_16 ?_
        refine lv_iload_n hx hb dX3_least_19 rfl (lv_at hl 0 rfl) ?_
        refine va_iald hx hb hK.1 hP 1 0 rfl rfl (g_in rfl (by omega) (by omega)) dX3_least_20 ?_
        refine lv_topi (fun z_5 ez_5 => ?_)
        have kz_5 := congrArg Int32.toInt ez_5
        refine va_mmin hx hb (by rw [hml, hl.1]) hown (htb _ k_724) (htb _ k_725) (htb _ k_11) (htb _ k_726) (Nat.le_of_ble_eq_true rfl) (Nat.le_of_ble_eq_true rfl) (Nat.le_of_ble_eq_true rfl) (Nat.le_of_ble_eq_true rfl) dX3_least_21 ?_
        refine lv_topi (fun z_6 ez_6 => ?_)
        have jz_6 := g_min rfl rfl ez_6
        refine lv_istore_n (lv' := [(1, .int z_6), (2, .int L2_6), (0, .ref rh)]) hx hb dX3_least_24 rfl hl (by decide) rfl (fun ls hl => ?_)
        obtain ⟨z_7, ez_7⟩ : ∃ y : Int32, y = L2_6 + 1 := ⟨_, rfl⟩
        have jz_7 : z_7.toInt = L2_6.toInt + 1 := by rw [ez_7]; exact g_add rfl t_1 (by omega) (by omega)
        refine lv_iinc (v := z_7) (lv' := [(2, .int z_7), (1, .int z_6), (0, .ref rh)]) hx hb dX3_least_25 hl (k := 1) rfl (by rw [ez_7]; rfl) (by decide) rfl (fun ls hl => ?_)
        refine lv_goto (tgt := 6) hx hb dX3_least_28 (by decide) ?_
        exact ih_2 z_7 z_6 _ (by (try dsimp only); omega) (by (try dsimp only); omega) (by have hcl := clampS (by omega) jz_7; rw [hcl, minF_succ]; split <;> omega) (lv_sub hl [0, 1, 2] rfl)
  exact loop_1 61 0 999 _ (by have h0 := t_0; have h1 := t_999; (try dsimp only); omega) (by have h0 := t_0; have h1 := t_999; (try dsimp only); omega) (by rw [clamp_0]; exact t_999)  (lv_sub hl [0, 1, 2] rfl)
set_option maxHeartbeats 4000000 in
set_option maxRecDepth 100000 in
theorem g_X3_most (l : Launch) (D : va_G) (E : Nat → Nat) (rh : Nat) (ra : Nat → Nat) (rsize : Int32) (rf1 : Nat → Int32) (hi_r : (0 ≤ rsize.toInt ∧ rsize.toInt ≤ 60)) : Met l yX3_most (wl yX3_most cX3_most 3 (some .int)) (RM 1 0 0) (rd_P D E [.ref rh] [(rh, .inr (3, G3 ra rsize)), ((ra 1), .inl (E 0, 60, .inl rf1))]) (rd_Q (fun r => (r.toInt = maxF rf1 (rsize).toNatClampNeg))) 0 0 (fun _ => False) := by
  refine Met.ofW (cc := cX3_most) (maxL := 3) (ret := (some .int)) (by decide) rfl ?_
  intro p e s m args below meth c s₁ B hml hv
  obtain ⟨rfl, hP, hK⟩ := hv
  have hx := B.exec; have hb := B.bytes; have hr := B.returns
  have hts := atoms_spec (ws := wl yX3_most cX3_most 3 (some .int)) B.pre
  have htb : ∀ w ∈ tb, w.before _ s = true := fun w h => hts w (List.mem_cons_of_mem _ h)
  have hown : s.vm.findClass RX3 = some m.cls := findClass_of_methodNamed B.named
  have hlocks := B.notSynchronized
  have hP : va_P D vwCl [(rh, .inr (3, G3 ra rsize)), ((ra 1), .inl (E 0, 60, .inl rf1))] s.heap := hP
  have hl := lv_entry ([.ref rh]) (n := 3) (Nat.le_of_ble_eq_true rfl)
  rw [lg_entry_eq]
  generalize (lg_sl ([.ref rh]) ++ List.replicate (3 - (lg_sl ([.ref rh])).length) Slot.unset).toArray = ls at hl ⊢
  have hl : lv_has ls 3 [(0, .ref rh)] := hl
  refine lv_sipush (v := (-999)) hx hb dX3_most_0 (by decide) ?_
  refine lv_istore_n (lv' := [(1, .int (-999)), (0, .ref rh)]) hx hb dX3_most_3 rfl hl (by decide) rfl (fun ls hl => ?_)
  refine lv_iconst (v := 0) hx hb dX3_most_4 (by decide) ?_
  refine lv_istore_n (lv' := [(2, .int 0), (1, .int (-999)), (0, .ref rh)]) hx hb dX3_most_5 rfl hl (by decide) rfl (fun ls hl => ?_)
  have loop_1 : ∀ (N_3 : Nat) (L2_6 : Int32) (L1_6 : Int32)  (ls : Array Slot), rsize.toInt - L2_6.toInt < (N_3 : Int) → (0 ≤ L2_6.toInt ∧ L2_6.toInt ≤ rsize.toInt) → (L1_6.toInt = maxF rf1 (L2_6).toNatClampNeg) → lv_has ls 3 [(2, .int L2_6), (1, .int L1_6), (0, .ref rh)] → W p l e (headSpec (wl yX3_most cX3_most 3 (some .int)) (RM 1 0 0)).room s m [Value.ref rh].toArray below meth c s.heap [] 0 0 (MQ below (rd_Q (fun r => (r.toInt = maxF rf1 (rsize).toNatClampNeg))) [Value.ref rh].toArray s 0 0 (fun _ => False)) (F0 m 6 ls []) := by
    intro N_3
    induction N_3 with
    | zero => intro L2_6 L1_6  ls hm v0_6 v1_6 _; exfalso; omega
    | succ N_3 ih_2 =>
      intro L2_6 L1_6 ls hm v0_6 v1_6 hl
      have lo_L2_6 := i_lo L2_6; have hi_L2_6 := i_hi L2_6
      have lo_L1_6 := i_lo L1_6; have hi_L1_6 := i_hi L1_6
      refine lv_iload_n hx hb dX3_most_6 rfl (lv_at hl 0 rfl) ?_
      refine lv_aload_n hx hb dX3_most_7 rfl (lv_at hl 2 rfl) ?_
      refine va_get (D := D) (ci := 3) (v := .int rsize) (C := RX3) (T := TX3) (N := 4) hx hb htb iX3 hown hK.1 hP 0 rfl rfl 3 (by decide) (htb _ k_66) (fun _ h9 => h9) rfl dX3_most_8 ?_
      refine lv_icmp_ge (tgt := 31) hx hb dX3_most_11 (by decide) (fun c_4 => ?_) (fun c_4 => ?_)
      ·
        have ic_4 : rsize.toInt ≤ L2_6.toInt := by first | exact (g_le rfl rfl).mp c_4 | (have h := mt (g_lt rfl rfl).mpr c_4; omega)
        clear c_4
        refine lv_iload_n hx hb dX3_most_31 rfl (lv_at hl 1 rfl) ?_
        exact W.iret (v := L1_6) hx hb hr (fun t ht hW => ⟨L1_6, rfl, (by have hcl := clampE (i := L2_6) (j := rsize) (by omega) (by omega); rw [hcl]; exact v1_6), ht⟩) (fun q h => by cases h) dX3_most_32
      ·
        have ic_4 : L2_6.toInt < rsize.toInt := by first | exact (g_lt rfl rfl).mp c_4 | (have h := mt (g_le rfl rfl).mpr c_4; omega)
        clear c_4
        refine lv_iload_n hx hb dX3_most_14 rfl (lv_at hl 1 rfl) ?_
        refine lv_aload_n hx hb dX3_most_15 rfl (lv_at hl 2 rfl) ?_
        refine va_get (D := D) (ci := 3) (v := .ref (ra 1)) (C := RX3) (T := TX3) (N := 4) hx hb htb iX3 hown hK.1 hP 0 rfl rfl 1 (by decide) (htb _ k_63) (fun _ h9 => h9) rfl dX3_most_16 ?_
        refine lv_iload_n hx hb dX3_most_19 rfl (lv_at hl 0 rfl) ?_
        refine va_iald hx hb hK.1 hP 1 0 rfl rfl (g_in rfl (by omega) (by omega)) dX3_most_20 ?_
        refine lv_topi (fun z_5 ez_5 => ?_)
        have kz_5 := congrArg Int32.toInt ez_5
        refine va_mmax hx hb (by rw [hml, hl.1]) hown (htb _ k_731) (htb _ k_732) (htb _ k_11) (htb _ k_733) (Nat.le_of_ble_eq_true rfl) (Nat.le_of_ble_eq_true rfl) (Nat.le_of_ble_eq_true rfl) (Nat.le_of_ble_eq_true rfl) dX3_most_21 ?_
        refine lv_topi (fun z_6 ez_6 => ?_)
        have jz_6 := g_max rfl rfl ez_6
        refine lv_istore_n (lv' := [(1, .int z_6), (2, .int L2_6), (0, .ref rh)]) hx hb dX3_most_24 rfl hl (by decide) rfl (fun ls hl => ?_)
        obtain ⟨z_7, ez_7⟩ : ∃ y : Int32, y = L2_6 + 1 := ⟨_, rfl⟩
        have jz_7 : z_7.toInt = L2_6.toInt + 1 := by rw [ez_7]; exact g_add rfl t_1 (by omega) (by omega)
        refine lv_iinc (v := z_7) (lv' := [(2, .int z_7), (1, .int z_6), (0, .ref rh)]) hx hb dX3_most_25 hl (k := 1) rfl (by rw [ez_7]; rfl) (by decide) rfl (fun ls hl => ?_)
        refine lv_goto (tgt := 6) hx hb dX3_most_28 (by decide) ?_
        exact ih_2 z_7 z_6 _ (by (try dsimp only); omega) (by (try dsimp only); omega) (by have hcl := clampS (by omega) jz_7; rw [hcl, maxF_succ]; split <;> omega) (lv_sub hl [0, 1, 2] rfl)
  exact loop_1 61 0 ((-999)) _ (by have h0 := t_m999; have h1 := t_0; (try dsimp only); omega) (by have h0 := t_m999; have h1 := t_0; (try dsimp only); omega) (by rw [clamp_0]; exact t_m999)  (lv_sub hl [0, 1, 2] rfl)
set_option maxHeartbeats 4000000 in
set_option maxRecDepth 100000 in
theorem g_X3_sum (l : Launch) (D : va_G) (E : Nat → Nat) (rh : Nat) (ra : Nat → Nat) (rsize : Int32) (rf1 : Nat → Int32) (hi_r : (0 ≤ rsize.toInt ∧ rsize.toInt ≤ 60)) : Met l yX3_sum (wl yX3_sum cX3_sum 3 (some .int)) (RM 0 0 0) (rd_P D E [.ref rh] [(rh, .inr (3, G3 ra rsize)), ((ra 1), .inl (E 0, 60, .inl rf1))]) (rd_Q (fun r => (r = sumI rf1 (rsize).toNatClampNeg))) 0 0 (fun _ => False) := by
  refine Met.ofW (cc := cX3_sum) (maxL := 3) (ret := (some .int)) (by decide) rfl ?_
  intro p e s m args below meth c s₁ B hml hv
  obtain ⟨rfl, hP, hK⟩ := hv
  have hx := B.exec; have hb := B.bytes; have hr := B.returns
  have hts := atoms_spec (ws := wl yX3_sum cX3_sum 3 (some .int)) B.pre
  have htb : ∀ w ∈ tb, w.before _ s = true := fun w h => hts w (List.mem_cons_of_mem _ h)
  have hown : s.vm.findClass RX3 = some m.cls := findClass_of_methodNamed B.named
  have hlocks := B.notSynchronized
  have hP : va_P D vwCl [(rh, .inr (3, G3 ra rsize)), ((ra 1), .inl (E 0, 60, .inl rf1))] s.heap := hP
  have hl := lv_entry ([.ref rh]) (n := 3) (Nat.le_of_ble_eq_true rfl)
  rw [lg_entry_eq]
  generalize (lg_sl ([.ref rh]) ++ List.replicate (3 - (lg_sl ([.ref rh])).length) Slot.unset).toArray = ls at hl ⊢
  have hl : lv_has ls 3 [(0, .ref rh)] := hl
  refine lv_iconst (v := 0) hx hb dX3_sum_0 (by decide) ?_
  refine lv_istore_n (lv' := [(1, .int 0), (0, .ref rh)]) hx hb dX3_sum_1 rfl hl (by decide) rfl (fun ls hl => ?_)
  refine lv_iconst (v := 0) hx hb dX3_sum_2 (by decide) ?_
  refine lv_istore_n (lv' := [(2, .int 0), (1, .int 0), (0, .ref rh)]) hx hb dX3_sum_3 rfl hl (by decide) rfl (fun ls hl => ?_)
  have loop_1 : ∀ (N_3 : Nat) (L2_4 : Int32) (L1_4 : Int32)  (ls : Array Slot), rsize.toInt - L2_4.toInt < (N_3 : Int) → (0 ≤ L2_4.toInt ∧ L2_4.toInt ≤ rsize.toInt) → (L1_4 = sumI rf1 (L2_4).toNatClampNeg) → lv_has ls 3 [(2, .int L2_4), (1, .int L1_4), (0, .ref rh)] → W p l e (headSpec (wl yX3_sum cX3_sum 3 (some .int)) (RM 0 0 0)).room s m [Value.ref rh].toArray below meth c s.heap [] 0 0 (MQ below (rd_Q (fun r => (r = sumI rf1 (rsize).toNatClampNeg))) [Value.ref rh].toArray s 0 0 (fun _ => False)) (F0 m 4 ls []) := by
    intro N_3
    induction N_3 with
    | zero => intro L2_4 L1_4  ls hm v0_4 v1_4 _; exfalso; omega
    | succ N_3 ih_2 =>
      intro L2_4 L1_4 ls hm v0_4 v1_4 hl
      have lo_L2_4 := i_lo L2_4; have hi_L2_4 := i_hi L2_4
      have lo_L1_4 := i_lo L1_4; have hi_L1_4 := i_hi L1_4
      refine lv_iload_n hx hb dX3_sum_4 rfl (lv_at hl 0 rfl) ?_
      refine lv_aload_n hx hb dX3_sum_5 rfl (lv_at hl 2 rfl) ?_
      refine va_get (D := D) (ci := 3) (v := .int rsize) (C := RX3) (T := TX3) (N := 4) hx hb htb iX3 hown hK.1 hP 0 rfl rfl 3 (by decide) (htb _ k_66) (fun _ h9 => h9) rfl dX3_sum_6 ?_
      refine lv_icmp_ge (tgt := 27) hx hb dX3_sum_9 (by decide) (fun c_4 => ?_) (fun c_4 => ?_)
      ·
        have ic_4 : rsize.toInt ≤ L2_4.toInt := by first | exact (g_le rfl rfl).mp c_4 | (have h := mt (g_lt rfl rfl).mpr c_4; omega)
        clear c_4
        refine lv_iload_n hx hb dX3_sum_27 rfl (lv_at hl 1 rfl) ?_
        exact W.iret (v := L1_4) hx hb hr (fun t ht hW => ⟨L1_4, rfl, (by have hcl := clampE (i := L2_4) (j := rsize) (by omega) (by omega); rw [hcl]; exact v1_4), ht⟩) (fun q h => by cases h) dX3_sum_28
      ·
        have ic_4 : L2_4.toInt < rsize.toInt := by first | exact (g_lt rfl rfl).mp c_4 | (have h := mt (g_le rfl rfl).mpr c_4; omega)
        clear c_4
        refine lv_iload_n hx hb dX3_sum_12 rfl (lv_at hl 1 rfl) ?_
        refine lv_aload_n hx hb dX3_sum_13 rfl (lv_at hl 2 rfl) ?_
        refine va_get (D := D) (ci := 3) (v := .ref (ra 1)) (C := RX3) (T := TX3) (N := 4) hx hb htb iX3 hown hK.1 hP 0 rfl rfl 1 (by decide) (htb _ k_63) (fun _ h9 => h9) rfl dX3_sum_14 ?_
        refine lv_iload_n hx hb dX3_sum_17 rfl (lv_at hl 0 rfl) ?_
        refine va_iald hx hb hK.1 hP 1 0 rfl rfl (g_in rfl (by omega) (by omega)) dX3_sum_18 ?_
        refine lv_topi (fun z_5 ez_5 => ?_)
        have kz_5 := congrArg Int32.toInt ez_5
        refine lv_iadd hx hb dX3_sum_19 ?_
        refine lv_topi (fun z_6 ez_6 => ?_)
        refine lv_istore_n (lv' := [(1, .int z_6), (2, .int L2_4), (0, .ref rh)]) hx hb dX3_sum_20 rfl hl (by decide) rfl (fun ls hl => ?_)
        obtain ⟨z_7, ez_7⟩ : ∃ y : Int32, y = L2_4 + 1 := ⟨_, rfl⟩
        have jz_7 : z_7.toInt = L2_4.toInt + 1 := by rw [ez_7]; exact g_add rfl t_1 (by omega) (by omega)
        refine lv_iinc (v := z_7) (lv' := [(2, .int z_7), (1, .int z_6), (0, .ref rh)]) hx hb dX3_sum_21 hl (k := 1) rfl (by rw [ez_7]; rfl) (by decide) rfl (fun ls hl => ?_)
        refine lv_goto (tgt := 4) hx hb dX3_sum_24 (by decide) ?_
        exact ih_2 z_7 z_6 _ (by (try dsimp only); omega) (by (try dsimp only); omega) (by have hcl := clampS (by omega) jz_7; subst_vars; rw [hcl, sumI_succ]; (try rfl)) (lv_sub hl [0, 1, 2] rfl)
  exact loop_1 61 0 0 _ (by have h0 := t_0; (try dsimp only); omega) (by have h0 := t_0; (try dsimp only); omega) (by rfl)  (lv_sub hl [0, 1, 2] rfl)
set_option maxHeartbeats 4000000 in
set_option maxRecDepth 100000 in
theorem g_X3_drift (l : Launch) (D : va_G) (E : Nat → Nat) (rh : Nat) (ra : Nat → Nat) (rsize : Int32) (rf1 : Nat → Int32) (hi_r : (0 ≤ rsize.toInt ∧ rsize.toInt ≤ 60)) : Met l yX3_drift (wl yX3_drift cX3_drift 1 (some .int)) (RM 0 0 0) (rd_P D E [.ref rh] [(rh, .inr (3, G3 ra rsize)), ((ra 1), .inl (E 0, 60, .inl rf1))]) (rd_Q (fun r => ((rsize.toInt = 0 → r = 0) ∧ (1 ≤ rsize.toInt → r = rf1 (rsize - 1).toNatClampNeg - rf1 0)))) 0 0 (fun _ => False) := by
  refine Met.ofW (cc := cX3_drift) (maxL := 1) (ret := (some .int)) (by decide) rfl ?_
  intro p e s m args below meth c s₁ B hml hv
  obtain ⟨rfl, hP, hK⟩ := hv
  have hx := B.exec; have hb := B.bytes; have hr := B.returns
  have hts := atoms_spec (ws := wl yX3_drift cX3_drift 1 (some .int)) B.pre
  have htb : ∀ w ∈ tb, w.before _ s = true := fun w h => hts w (List.mem_cons_of_mem _ h)
  have hown : s.vm.findClass RX3 = some m.cls := findClass_of_methodNamed B.named
  have hlocks := B.notSynchronized
  have hP : va_P D vwCl [(rh, .inr (3, G3 ra rsize)), ((ra 1), .inl (E 0, 60, .inl rf1))] s.heap := hP
  have hl := lv_entry ([.ref rh]) (n := 1) (Nat.le_of_ble_eq_true rfl)
  rw [lg_entry_eq]
  generalize (lg_sl ([.ref rh]) ++ List.replicate (1 - (lg_sl ([.ref rh])).length) Slot.unset).toArray = ls at hl ⊢
  have hl : lv_has ls 1 [(0, .ref rh)] := hl
  refine lv_aload_n hx hb dX3_drift_0 rfl (lv_at hl 0 rfl) ?_
  refine va_get (D := D) (ci := 3) (v := .int rsize) (C := RX3) (T := TX3) (N := 4) hx hb htb iX3 hown hK.1 hP 0 rfl rfl 3 (by decide) (htb _ k_66) (fun _ h9 => h9) rfl dX3_drift_1 ?_
  refine lv_if_ne (tgt := 11) hx hb dX3_drift_4 (by decide) (fun c_1 => ?_) (fun c_1 => ?_)
  ·
    have ic_1 : rsize.toInt ≠ 0 := mt (g_eq rfl t_0).mpr c_1
    clear c_1
    refine lv_aload_n hx hb dX3_drift_11 rfl (lv_at hl 0 rfl) ?_
    refine va_get (D := D) (ci := 3) (v := .ref (ra 1)) (C := RX3) (T := TX3) (N := 4) hx hb htb iX3 hown hK.1 hP 0 rfl rfl 1 (by decide) (htb _ k_63) (fun _ h9 => h9) rfl dX3_drift_12 ?_
    refine lv_aload_n hx hb dX3_drift_15 rfl (lv_at hl 0 rfl) ?_
    refine va_get (D := D) (ci := 3) (v := .int rsize) (C := RX3) (T := TX3) (N := 4) hx hb htb iX3 hown hK.1 hP 0 rfl rfl 3 (by decide) (htb _ k_66) (fun _ h9 => h9) rfl dX3_drift_16 ?_
    refine lv_iconst (v := 1) hx hb dX3_drift_19 (by decide) ?_
    refine lv_isub hx hb dX3_drift_20 ?_
    refine lv_topi (fun z_2 ez_2 => ?_)
    have jz_2 : z_2.toInt = rsize.toInt - 1 := by rw [ez_2]; exact g_sub rfl t_1 (by omega) (by omega)
    refine va_iald hx hb hK.1 hP 1 0 rfl rfl (g_in rfl (by omega) (by omega)) dX3_drift_21 ?_
    refine lv_topi (fun z_3 ez_3 => ?_)
    have kz_3 := congrArg Int32.toInt ez_3
    refine lv_aload_n hx hb dX3_drift_22 rfl (lv_at hl 0 rfl) ?_
    refine va_get (D := D) (ci := 3) (v := .ref (ra 1)) (C := RX3) (T := TX3) (N := 4) hx hb htb iX3 hown hK.1 hP 0 rfl rfl 1 (by decide) (htb _ k_63) (fun _ h9 => h9) rfl dX3_drift_23 ?_
    refine lv_iconst (v := 0) hx hb dX3_drift_26 (by decide) ?_
    refine va_iald hx hb hK.1 hP 1 0 rfl rfl (g_in t_0 (by decide) (by decide)) dX3_drift_27 ?_
    refine lv_topi (fun z_4 ez_4 => ?_)
    have kz_4 := congrArg Int32.toInt ez_4
    refine lv_isub hx hb dX3_drift_28 ?_
    refine lv_topi (fun z_5 ez_5 => ?_)
    exact W.iret (v := z_5) hx hb hr (fun t ht hW => ⟨z_5, rfl, (⟨fun h => absurd h (by omega), fun _ => by rw [ez_5, ez_3, ez_4, ez_2, clamp_0]⟩), ht⟩) (fun q h => by cases h) dX3_drift_29
  ·
    have ic_1 : rsize.toInt = 0 := (g_eq rfl t_0).mp c_1
    clear c_1
    refine lv_iconst (v := 0) hx hb dX3_drift_7 (by decide) ?_
    refine lv_goto (tgt := 29) hx hb dX3_drift_8 (by decide) ?_
    exact W.iret (v := 0) hx hb hr (fun t ht hW => ⟨0, rfl, (by have hl := t_0; exact ⟨fun _ => rfl, fun h => absurd h (by omega)⟩), ht⟩) (fun q h => by cases h) dX3_drift_29
set_option maxHeartbeats 4000000 in
set_option maxRecDepth 100000 in
theorem g_X3_greatestStep (l : Launch) (D : va_G) (E : Nat → Nat) (rh : Nat) (ra : Nat → Nat) (rsize : Int32) (rf1 : Nat → Int32) (hi_r : (0 ≤ rsize.toInt ∧ rsize.toInt ≤ 60)) : Met l yX3_greatestStep (wl yX3_greatestStep cX3_greatestStep 3 (some .int)) (RM 1 0 0) (rd_P D E [.ref rh] [(rh, .inr (3, G3 ra rsize)), ((ra 1), .inl (E 0, 60, .inl rf1))]) (rd_Q (fun r => (r.toInt = jmI rf1 (rsize).toNatClampNeg))) 0 0 (fun _ => False) := by
  refine Met.ofW (cc := cX3_greatestStep) (maxL := 3) (ret := (some .int)) (by decide) rfl ?_
  intro p e s m args below meth c s₁ B hml hv
  obtain ⟨rfl, hP, hK⟩ := hv
  have hx := B.exec; have hb := B.bytes; have hr := B.returns
  have hts := atoms_spec (ws := wl yX3_greatestStep cX3_greatestStep 3 (some .int)) B.pre
  have htb : ∀ w ∈ tb, w.before _ s = true := fun w h => hts w (List.mem_cons_of_mem _ h)
  have hown : s.vm.findClass RX3 = some m.cls := findClass_of_methodNamed B.named
  have hlocks := B.notSynchronized
  have hP : va_P D vwCl [(rh, .inr (3, G3 ra rsize)), ((ra 1), .inl (E 0, 60, .inl rf1))] s.heap := hP
  have hl := lv_entry ([.ref rh]) (n := 3) (Nat.le_of_ble_eq_true rfl)
  rw [lg_entry_eq]
  generalize (lg_sl ([.ref rh]) ++ List.replicate (3 - (lg_sl ([.ref rh])).length) Slot.unset).toArray = ls at hl ⊢
  have hl : lv_has ls 3 [(0, .ref rh)] := hl
  refine lv_iconst (v := 0) hx hb dX3_greatestStep_0 (by decide) ?_
  refine lv_istore_n (lv' := [(1, .int 0), (0, .ref rh)]) hx hb dX3_greatestStep_1 rfl hl (by decide) rfl (fun ls hl => ?_)
  refine lv_iconst (v := 1) hx hb dX3_greatestStep_2 (by decide) ?_
  refine lv_istore_n (lv' := [(2, .int 1), (1, .int 0), (0, .ref rh)]) hx hb dX3_greatestStep_3 rfl hl (by decide) rfl (fun ls hl => ?_)
  have loop_1 : ∀ (N_3 : Nat) (L2_4 : Int32) (L1_4 : Int32)  (ls : Array Slot), 61 - L2_4.toInt < (N_3 : Int) → (1 ≤ L2_4.toInt ∧ L2_4.toInt ≤ 61 ∧ (L2_4.toInt ≤ rsize.toInt ∨ L2_4.toInt = 1)) → (L1_4.toInt = jmI rf1 (L2_4).toNatClampNeg) → lv_has ls 3 [(2, .int L2_4), (1, .int L1_4), (0, .ref rh)] → W p l e (headSpec (wl yX3_greatestStep cX3_greatestStep 3 (some .int)) (RM 1 0 0)).room s m [Value.ref rh].toArray below meth c s.heap [] 0 0 (MQ below (rd_Q (fun r => (r.toInt = jmI rf1 (rsize).toNatClampNeg))) [Value.ref rh].toArray s 0 0 (fun _ => False)) (F0 m 4 ls []) := by
    intro N_3
    induction N_3 with
    | zero => intro L2_4 L1_4  ls hm v0_4 v1_4 _; exfalso; omega
    | succ N_3 ih_2 =>
      intro L2_4 L1_4 ls hm v0_4 v1_4 hl
      have lo_L2_4 := i_lo L2_4; have hi_L2_4 := i_hi L2_4
      have lo_L1_4 := i_lo L1_4; have hi_L1_4 := i_hi L1_4
      refine lv_iload_n hx hb dX3_greatestStep_4 rfl (lv_at hl 0 rfl) ?_
      refine lv_aload_n hx hb dX3_greatestStep_5 rfl (lv_at hl 2 rfl) ?_
      refine va_get (D := D) (ci := 3) (v := .int rsize) (C := RX3) (T := TX3) (N := 4) hx hb htb iX3 hown hK.1 hP 0 rfl rfl 3 (by decide) (htb _ k_66) (fun _ h9 => h9) rfl dX3_greatestStep_6 ?_
      refine lv_icmp_ge (tgt := 41) hx hb dX3_greatestStep_9 (by decide) (fun c_4 => ?_) (fun c_4 => ?_)
      ·
        have ic_4 : rsize.toInt ≤ L2_4.toInt := by first | exact (g_le rfl rfl).mp c_4 | (have h := mt (g_lt rfl rfl).mpr c_4; omega)
        clear c_4
        refine lv_iload_n hx hb dX3_greatestStep_41 rfl (lv_at hl 1 rfl) ?_
        exact W.iret (v := L1_4) hx hb hr (fun t ht hW => ⟨L1_4, rfl, (by have c8 := i_clamp0 (x := L2_4) (by omega); have c9 := i_clamp0 (x := rsize) (by omega); have h9 := v1_4; by_cases h0 : rsize.toInt = 0; {rw [show (L2_4).toNatClampNeg = 0 + 1 by omega, jmI_s, if_pos rfl] at h9; rw [show (rsize).toNatClampNeg = 0 by omega]; exact h9}; {rw [show (rsize).toNatClampNeg = (L2_4).toNatClampNeg by omega]; exact h9}), ht⟩) (fun q h => by cases h) dX3_greatestStep_42
      ·
        have ic_4 : L2_4.toInt < rsize.toInt := by first | exact (g_lt rfl rfl).mp c_4 | (have h := mt (g_le rfl rfl).mpr c_4; omega)
        clear c_4
        refine lv_iload_n hx hb dX3_greatestStep_12 rfl (lv_at hl 1 rfl) ?_
        refine lv_aload_n hx hb dX3_greatestStep_13 rfl (lv_at hl 2 rfl) ?_
        refine va_get (D := D) (ci := 3) (v := .ref (ra 1)) (C := RX3) (T := TX3) (N := 4) hx hb htb iX3 hown hK.1 hP 0 rfl rfl 1 (by decide) (htb _ k_63) (fun _ h9 => h9) rfl dX3_greatestStep_14 ?_
        refine lv_iload_n hx hb dX3_greatestStep_17 rfl (lv_at hl 0 rfl) ?_
        refine va_iald hx hb hK.1 hP 1 0 rfl rfl (g_in rfl (by omega) (by omega)) dX3_greatestStep_18 ?_
        refine lv_topi (fun z_5 ez_5 => ?_)
        have kz_5 := congrArg Int32.toInt ez_5
        refine lv_aload_n hx hb dX3_greatestStep_19 rfl (lv_at hl 2 rfl) ?_
        refine va_get (D := D) (ci := 3) (v := .ref (ra 1)) (C := RX3) (T := TX3) (N := 4) hx hb htb iX3 hown hK.1 hP 0 rfl rfl 1 (by decide) (htb _ k_63) (fun _ h9 => h9) rfl dX3_greatestStep_20 ?_
        refine lv_iload_n hx hb dX3_greatestStep_23 rfl (lv_at hl 0 rfl) ?_
        refine lv_iconst (v := 1) hx hb dX3_greatestStep_24 (by decide) ?_
        refine lv_isub hx hb dX3_greatestStep_25 ?_
        refine lv_topi (fun z_6 ez_6 => ?_)
        have jz_6 : z_6.toInt = L2_4.toInt - 1 := by rw [ez_6]; exact g_sub rfl t_1 (by omega) (by omega)
        refine va_iald hx hb hK.1 hP 1 0 rfl rfl (g_in rfl (by omega) (by omega)) dX3_greatestStep_26 ?_
        refine lv_topi (fun z_7 ez_7 => ?_)
        have kz_7 := congrArg Int32.toInt ez_7
        refine lv_isub hx hb dX3_greatestStep_27 ?_
        refine lv_topi (fun z_8 ez_8 => ?_)
        refine va_mabs hx hb (by rw [hml, hl.1]) hown (htb _ k_570) (htb _ k_571) (htb _ k_11) (htb _ k_572) (Nat.le_of_ble_eq_true rfl) (Nat.le_of_ble_eq_true rfl) (Nat.le_of_ble_eq_true rfl) (Nat.le_of_ble_eq_true rfl) dX3_greatestStep_28 ?_
        refine lv_topi (fun z_9 ez_9 => ?_)
        have sz_9 := abs_sz ez_9
        refine va_mmax hx hb (by rw [hml, hl.1]) hown (htb _ k_731) (htb _ k_732) (htb _ k_11) (htb _ k_733) (Nat.le_of_ble_eq_true rfl) (Nat.le_of_ble_eq_true rfl) (Nat.le_of_ble_eq_true rfl) (Nat.le_of_ble_eq_true rfl) dX3_greatestStep_31 ?_
        refine lv_topi (fun z_10 ez_10 => ?_)
        have jz_10 := g_max rfl rfl ez_10
        refine lv_istore_n (lv' := [(1, .int z_10), (2, .int L2_4), (0, .ref rh)]) hx hb dX3_greatestStep_34 rfl hl (by decide) rfl (fun ls hl => ?_)
        obtain ⟨z_11, ez_11⟩ : ∃ y : Int32, y = L2_4 + 1 := ⟨_, rfl⟩
        have jz_11 : z_11.toInt = L2_4.toInt + 1 := by rw [ez_11]; exact g_add rfl t_1 (by omega) (by omega)
        refine lv_iinc (v := z_11) (lv' := [(2, .int z_11), (1, .int z_10), (0, .ref rh)]) hx hb dX3_greatestStep_35 hl (k := 1) rfl (by rw [ez_11]; rfl) (by decide) rfl (fun ls hl => ?_)
        refine lv_goto (tgt := 4) hx hb dX3_greatestStep_38 (by decide) ?_
        exact ih_2 z_11 z_10 _ (by (try dsimp only); omega) (by (try dsimp only); omega) (by have c8 := i_clamp0 (x := L2_4) (by omega); have c9 := i_clamp0 (x := z_6) (by omega); have hx : rf1 (L2_4).toNatClampNeg - rf1 ((L2_4).toNatClampNeg - 1) = z_8 := (by rw [show (L2_4).toNatClampNeg - 1 = (z_6).toNatClampNeg by omega, ← ez_5, ← ez_7, ← ez_8]); rw [clampS (by omega) jz_11, jmI_s, if_neg (by omega), hx, ← sz_9, ← v1_4]; omega) (lv_sub hl [0, 1, 2] rfl)
  exact loop_1 62 1 0 _ (by have h0 := t_0; have h1 := t_1; (try dsimp only); omega) (by have h0 := t_0; have h1 := t_1; (try dsimp only); omega) (by rw [show ((1 : Int32)).toNatClampNeg = 0 + 1 by decide, jmI_s, if_pos rfl]; exact t_0)  (lv_sub hl [0, 1, 2] rfl)
set_option maxHeartbeats 4000000 in
set_option maxRecDepth 100000 in
theorem g_X3_middleOne (l : Launch) (D : va_G) (E : Nat → Nat) (rh : Nat) (ra : Nat → Nat) (rsize : Int32) (rf1 : Nat → Int32) (rf2 : Nat → Int32) (sz : Nat) (hi_r : (0 ≤ rsize.toInt ∧ rsize.toInt ≤ 60)) : Met l yX3_middleOne (wl yX3_middleOne cX3_middleOne 3 (some .int)) (RM 0 0 0) (mu_P D E [.ref rh] [(rh, .inr (3, G3 ra rsize)), ((ra 1), .inl (E 0, 60, .inl rf1)), ((ra 2), .inl (E 0, 60, .inl rf2))] sz) (va_Qi (fun (r : Int32) (u : (Nat → Int32)) => (rsize.toInt = 0 ∨ (1 ≤ rsize.toInt ∧ r = srtA rf1 rf2 (rsize).toNatClampNeg ((rsize - 1) / 2).toNatClampNeg))) (mu_B D (va_A [(rh, .inr (3, G3 ra rsize)), ((ra 1), .inl (E 0, 60, .inl rf1)), ((ra 2), .inl (E 0, 60, .inl rf2))] sz) (fun (u : (Nat → Int32)) => [(rh, .inr (3, G3 ra rsize)), ((ra 1), .inl (E 0, 60, .inl rf1)), ((ra 2), .inl (E 0, 60, .inl u))])) (va_A [(rh, .inr (3, G3 ra rsize)), ((ra 1), .inl (E 0, 60, .inl rf1)), ((ra 2), .inl (E 0, 60, .inl rf2))] sz)) 0 0 (va_A [(rh, .inr (3, G3 ra rsize)), ((ra 1), .inl (E 0, 60, .inl rf1)), ((ra 2), .inl (E 0, 60, .inl rf2))] sz) := by
  refine Met.ofW (cc := cX3_middleOne) (maxL := 3) (ret := (some .int)) (by decide) rfl ?_
  intro p e s m args below meth c s₁ B hml hv
  obtain ⟨rfl, hsz, hP, hK, hD0⟩ := hv
  have hx := B.exec; have hb := B.bytes; have hr := B.returns
  have hts := atoms_spec (ws := wl yX3_middleOne cX3_middleOne 3 (some .int)) B.pre
  have htb : ∀ w ∈ tb, w.before _ s = true := fun w h => hts w (List.mem_cons_of_mem _ h)
  have hown : s.vm.findClass RX3 = some m.cls := findClass_of_methodNamed B.named
  have hlocks := B.notSynchronized
  subst hsz
  have hD := hD0.self (sz := s.heap.size)
  generalize hAe : va_A [(rh, .inr (3, G3 ra rsize)), ((ra 1), .inl (E 0, 60, .inl rf1)), ((ra 2), .inl (E 0, 60, .inl rf2))] s.heap.size = A at hD ⊢
  have hA : ∀ q : Nat, s.heap.size ≤ q → A q := fun q h => by rw [← hAe]; exact Or.inr h
  have hS : va_S A s.heap s.heap [] := va_S.rf
  have hP : va_P D vwCl [(rh, .inr (3, G3 ra rsize)), ((ra 1), .inl (E 0, 60, .inl rf1)), ((ra 2), .inl (E 0, 60, .inl rf2))] s.heap := hP
  have hl := lv_entry ([.ref rh]) (n := 3) (Nat.le_of_ble_eq_true rfl)
  rw [lg_entry_eq]
  generalize (lg_sl ([.ref rh]) ++ List.replicate (3 - (lg_sl ([.ref rh])).length) Slot.unset).toArray = ls at hl ⊢
  have hl : lv_has ls 3 [(0, .ref rh)] := hl
  refine lv_iconst (v := 0) hx hb dX3_middleOne_0 (by decide) ?_
  refine lv_istore_n (lv' := [(1, .int 0), (0, .ref rh)]) hx hb dX3_middleOne_1 rfl hl (by decide) rfl (fun ls hl => ?_)
  have loop_1 : ∀ (N_3 : Nat) (L1_2 : Int32) (rf2_2 : Nat → Int32) (H : Heap) (locs : List Loc) (ls : Array Slot), rsize.toInt - L1_2.toInt < (N_3 : Int) → (0 ≤ L1_2.toInt ∧ L1_2.toInt ≤ rsize.toInt) → (rf2_2 = srtA rf1 rf2 (L1_2).toNatClampNeg) → va_P D vwCl [(rh, .inr (3, G3 ra rsize)), ((ra 1), .inl (E 0, 60, .inl rf1)), ((ra 2), .inl (E 0, 60, .inl rf2_2))] H → va_D A [(rh, .inr (3, G3 ra rsize)), ((ra 1), .inl (E 0, 60, .inl rf1)), ((ra 2), .inl (E 0, 60, .inl rf2_2))] → va_S A s.heap H locs → lv_has ls 3 [(1, .int L1_2), (0, .ref rh)] → W p l e (headSpec (wl yX3_middleOne cX3_middleOne 3 (some .int)) (RM 0 0 0)).room s m [Value.ref rh].toArray below meth c H locs 0 0 (MQ below (va_Qi (fun (r : Int32) (u : (Nat → Int32)) => (rsize.toInt = 0 ∨ (1 ≤ rsize.toInt ∧ r = srtA rf1 rf2 (rsize).toNatClampNeg ((rsize - 1) / 2).toNatClampNeg))) (mu_B D A (fun (u : (Nat → Int32)) => [(rh, .inr (3, G3 ra rsize)), ((ra 1), .inl (E 0, 60, .inl rf1)), ((ra 2), .inl (E 0, 60, .inl u))])) A) [Value.ref rh].toArray s 0 0 A) (F0 m 2 ls []) := by
    intro N_3
    induction N_3 with
    | zero => intro L1_2 rf2_2 H locs ls hm v0_2 v1_2 _ _ _ _; exfalso; omega
    | succ N_3 ih_2 =>
      intro L1_2 rf2_2 H locs ls hm v0_2 v1_2 hP hD hS hl
      have lo_L1_2 := i_lo L1_2; have hi_L1_2 := i_hi L1_2
      refine lv_iload_n hx hb dX3_middleOne_2 rfl (lv_at hl 0 rfl) ?_
      refine lv_aload_n hx hb dX3_middleOne_3 rfl (lv_at hl 1 rfl) ?_
      refine va_get (D := D) (ci := 3) (v := .int rsize) (C := RX3) (T := TX3) (N := 4) hx hb htb iX3 hown hK.1 hP 0 rfl rfl 3 (by decide) (htb _ k_66) (fun _ h9 => h9) rfl dX3_middleOne_4 ?_
      refine lv_icmp_ge (tgt := 71) hx hb dX3_middleOne_7 (by decide) (fun c_4 => ?_) (fun c_4 => ?_)
      ·
        have ic_4 : rsize.toInt ≤ L1_2.toInt := by first | exact (g_le rfl rfl).mp c_4 | (have h := mt (g_lt rfl rfl).mpr c_4; omega)
        clear c_4
        refine lv_aload_n hx hb dX3_middleOne_71 rfl (lv_at hl 1 rfl) ?_
        refine va_get (D := D) (ci := 3) (v := .int rsize) (C := RX3) (T := TX3) (N := 4) hx hb htb iX3 hown hK.1 hP 0 rfl rfl 3 (by decide) (htb _ k_66) (fun _ h9 => h9) rfl dX3_middleOne_72 ?_
        refine lv_if_ne (tgt := 82) hx hb dX3_middleOne_75 (by decide) (fun c_5 => ?_) (fun c_5 => ?_)
        ·
          have ic_5 : rsize.toInt ≠ 0 := mt (g_eq rfl t_0).mpr c_5
          clear c_5
          refine lv_aload_n hx hb dX3_middleOne_82 rfl (lv_at hl 1 rfl) ?_
          refine va_get (D := D) (ci := 3) (v := .ref (ra 2)) (C := RX3) (T := TX3) (N := 4) hx hb htb iX3 hown hK.1 hP 0 rfl rfl 2 (by decide) (htb _ k_65) (fun _ h9 => h9) rfl dX3_middleOne_83 ?_
          refine lv_aload_n hx hb dX3_middleOne_86 rfl (lv_at hl 1 rfl) ?_
          refine va_get (D := D) (ci := 3) (v := .int rsize) (C := RX3) (T := TX3) (N := 4) hx hb htb iX3 hown hK.1 hP 0 rfl rfl 3 (by decide) (htb _ k_66) (fun _ h9 => h9) rfl dX3_middleOne_87 ?_
          refine lv_iconst (v := 1) hx hb dX3_middleOne_90 (by decide) ?_
          refine lv_isub hx hb dX3_middleOne_91 ?_
          refine lv_topi (fun z_6 ez_6 => ?_)
          have jz_6 : z_6.toInt = rsize.toInt - 1 := by rw [ez_6]; exact g_sub rfl t_1 (by omega) (by omega)
          refine lv_iconst (v := 2) hx hb dX3_middleOne_92 (by decide) ?_
          refine lv_idiv hx hb dX3_middleOne_93 (by decide) ?_
          refine lv_topi (fun z_7 ez_7 => ?_)
          have jz_7 : z_7.toInt = z_6.toInt / 2 := by rw [ez_7]; exact g_div rfl t_2 (by omega) (by decide)
          refine va_iald hx hb hK.1 hP 2 0 rfl rfl (g_in rfl (by omega) (by omega)) dX3_middleOne_94 ?_
          refine lv_topi (fun z_8 ez_8 => ?_)
          have kz_8 := congrArg Int32.toInt ez_8
          have hP9 := hP.sub (ws' := [(rh, .inr (3, G3 ra rsize)), ((ra 1), .inl (E 0, 60, .inl rf1)), ((ra 2), .inl (E 0, 60, .inl rf2_2))]) [0, 1, 2] rfl
          have hD9 := hD.sub (ws' := [(rh, .inr (3, G3 ra rsize)), ((ra 1), .inl (E 0, 60, .inl rf1)), ((ra 2), .inl (E 0, 60, .inl rf2_2))]) [0, 1, 2] (by decide) rfl
          exact W.iret (v := z_8) hx hb hr (fun t ht hW => ⟨⟨z_8, rf2_2, rfl, (by first | exact Or.inl (by omega) | exact Or.inr ⟨by omega, by rw [show (rsize).toNatClampNeg = (L1_2).toNatClampNeg from clampE (by omega) (by omega), ← v1_2]; subst_vars; rfl⟩), by rw [ht]; exact hP9, hD9⟩, hS.F ht⟩) hS.2.2 dX3_middleOne_95
        ·
          have ic_5 : rsize.toInt = 0 := (g_eq rfl t_0).mp c_5
          clear c_5
          refine lv_iconst (v := 0) hx hb dX3_middleOne_78 (by decide) ?_
          refine lv_goto (tgt := 95) hx hb dX3_middleOne_79 (by decide) ?_
          have hP9 := hP.sub (ws' := [(rh, .inr (3, G3 ra rsize)), ((ra 1), .inl (E 0, 60, .inl rf1)), ((ra 2), .inl (E 0, 60, .inl rf2_2))]) [0, 1, 2] rfl
          have hD9 := hD.sub (ws' := [(rh, .inr (3, G3 ra rsize)), ((ra 1), .inl (E 0, 60, .inl rf1)), ((ra 2), .inl (E 0, 60, .inl rf2_2))]) [0, 1, 2] (by decide) rfl
          exact W.iret (v := 0) hx hb hr (fun t ht hW => ⟨⟨0, rf2_2, rfl, (by first | exact Or.inl (by omega) | exact Or.inr ⟨by omega, by rw [show (rsize).toNatClampNeg = (L1_2).toNatClampNeg from clampE (by omega) (by omega), ← v1_2]; subst_vars; rfl⟩), by rw [ht]; exact hP9, hD9⟩, hS.F ht⟩) hS.2.2 dX3_middleOne_95
      ·
        have ic_4 : L1_2.toInt < rsize.toInt := by first | exact (g_lt rfl rfl).mp c_4 | (have h := mt (g_le rfl rfl).mpr c_4; omega)
        clear c_4
        refine lv_iload_n hx hb dX3_middleOne_10 rfl (lv_at hl 0 rfl) ?_
        refine lv_istore_n (lv' := [(2, .int L1_2), (1, .int L1_2), (0, .ref rh)]) hx hb dX3_middleOne_11 rfl hl (by decide) rfl (fun ls hl => ?_)
        have loop_9 : ∀ (N_11 : Nat) (L2_12 : Int32) (rf2_12 : Nat → Int32) (H : Heap) (locs : List Loc) (ls : Array Slot), L2_12.toInt < (N_11 : Int) → (0 ≤ L2_12.toInt ∧ L2_12.toInt ≤ L1_2.toInt) → (insA (rf1 (L1_2).toNatClampNeg) (L2_12).toNatClampNeg rf2_12 = insA (rf1 (L1_2).toNatClampNeg) (L1_2).toNatClampNeg rf2_2) → va_P D vwCl [(rh, .inr (3, G3 ra rsize)), ((ra 1), .inl (E 0, 60, .inl rf1)), ((ra 2), .inl (E 0, 60, .inl rf2_12))] H → va_D A [(rh, .inr (3, G3 ra rsize)), ((ra 1), .inl (E 0, 60, .inl rf1)), ((ra 2), .inl (E 0, 60, .inl rf2_12))] → va_S A s.heap H locs → lv_has ls 3 [(2, .int L2_12), (1, .int L1_2), (0, .ref rh)] → W p l e (headSpec (wl yX3_middleOne cX3_middleOne 3 (some .int)) (RM 0 0 0)).room s m [Value.ref rh].toArray below meth c H locs 0 0 (MQ below (va_Qi (fun (r : Int32) (u : (Nat → Int32)) => (rsize.toInt = 0 ∨ (1 ≤ rsize.toInt ∧ r = srtA rf1 rf2 (rsize).toNatClampNeg ((rsize - 1) / 2).toNatClampNeg))) (mu_B D A (fun (u : (Nat → Int32)) => [(rh, .inr (3, G3 ra rsize)), ((ra 1), .inl (E 0, 60, .inl rf1)), ((ra 2), .inl (E 0, 60, .inl u))])) A) [Value.ref rh].toArray s 0 0 A) (F0 m 12 ls []) := by
          intro N_11
          induction N_11 with
          | zero => intro L2_12 rf2_12 H locs ls hm v0_12 v1_12 _ _ _ _; exfalso; omega
          | succ N_11 ih_10 =>
            intro L2_12 rf2_12 H locs ls hm v0_12 v1_12 hP hD hS hl
            have lo_L2_12 := i_lo L2_12; have hi_L2_12 := i_hi L2_12
            refine lv_iload_n hx hb dX3_middleOne_12 rfl (lv_at hl 0 rfl) ?_
            refine lv_if_le (tgt := 53) hx hb dX3_middleOne_13 (by decide) (fun c_12 => ?_) (fun c_12 => ?_)
            ·
              have ic_12 : L2_12.toInt ≤ 0 := by first | exact (g_le rfl t_0).mp c_12 | (have h := mt (g_lt t_0 rfl).mpr c_12; omega)
              clear c_12
              refine lv_aload_n hx hb dX3_middleOne_53 rfl (lv_at hl 2 rfl) ?_
              refine va_get (D := D) (ci := 3) (v := .ref (ra 2)) (C := RX3) (T := TX3) (N := 4) hx hb htb iX3 hown hK.1 hP 0 rfl rfl 2 (by decide) (htb _ k_65) (fun _ h9 => h9) rfl dX3_middleOne_54 ?_
              refine lv_iload_n hx hb dX3_middleOne_57 rfl (lv_at hl 0 rfl) ?_
              refine lv_aload_n hx hb dX3_middleOne_58 rfl (lv_at hl 2 rfl) ?_
              refine va_get (D := D) (ci := 3) (v := .ref (ra 1)) (C := RX3) (T := TX3) (N := 4) hx hb htb iX3 hown hK.1 hP 0 rfl rfl 1 (by decide) (htb _ k_63) (fun _ h9 => h9) rfl dX3_middleOne_59 ?_
              refine lv_iload_n hx hb dX3_middleOne_62 rfl (lv_at hl 1 rfl) ?_
              refine va_iald hx hb hK.1 hP 1 0 rfl rfl (g_in rfl (by omega) (by omega)) dX3_middleOne_63 ?_
              refine lv_topi (fun z_13 ez_13 => ?_)
              have kz_13 := congrArg Int32.toInt ez_13
              refine va_iast hx hb hK.1 hP hD hS 2 0 rfl rfl (g_in rfl (by omega) (by omega)) dX3_middleOne_64 (fun H locs hP hD hS => ?_)
              have hP : va_P D vwCl [(rh, .inr (3, G3 ra rsize)), ((ra 1), .inl (E 0, 60, .inl rf1)), ((ra 2), .inl (E 0, 60, .inl (upd rf2_12 (L2_12 : Int32).toNatClampNeg z_13)))] H := hP
              have hD := toW hP hD rfl
              obtain ⟨z_14, ez_14⟩ : ∃ y : Int32, y = L1_2 + 1 := ⟨_, rfl⟩
              have jz_14 : z_14.toInt = L1_2.toInt + 1 := by rw [ez_14]; exact g_add rfl t_1 (by omega) (by omega)
              refine lv_iinc (v := z_14) (lv' := [(1, .int z_14), (2, .int L2_12), (0, .ref rh)]) hx hb dX3_middleOne_65 hl (k := 1) rfl (by rw [ez_14]; rfl) (by decide) rfl (fun ls hl => ?_)
              refine lv_goto (tgt := 2) hx hb dX3_middleOne_68 (by decide) ?_
              exact ih_2 z_14 (upd rf2_12 (L2_12 : Int32).toNatClampNeg z_13) _ _ _ (by (try dsimp only); omega) (by (try dsimp only); omega) (by rw [clampS (by omega) jz_14, srtA_s, ← v1_2, ← v1_12, ← ez_13]; exact insA_end (by first | exact Or.inl (by have c1 := i_clamp0 (x := L2_12) (by omega); omega) | exact Or.inr ⟨(x).toNatClampNeg, by { have c1 := i_clamp0 (x := L2_12) (by omega); have c2 := i_clamp0 (x := x) (by omega); omega }, by { rw [← ex]; omega }⟩)) hP hD hS (lv_sub hl [0, 2] rfl)
            ·
              have ic_12 : 0 < L2_12.toInt := by first | exact (g_lt t_0 rfl).mp c_12 | (have h := mt (g_le rfl t_0).mpr c_12; omega)
              clear c_12
              refine lv_aload_n hx hb dX3_middleOne_16 rfl (lv_at hl 2 rfl) ?_
              refine va_get (D := D) (ci := 3) (v := .ref (ra 2)) (C := RX3) (T := TX3) (N := 4) hx hb htb iX3 hown hK.1 hP 0 rfl rfl 2 (by decide) (htb _ k_65) (fun _ h9 => h9) rfl dX3_middleOne_17 ?_
              refine lv_iload_n hx hb dX3_middleOne_20 rfl (lv_at hl 0 rfl) ?_
              refine lv_iconst (v := 1) hx hb dX3_middleOne_21 (by decide) ?_
              refine lv_isub hx hb dX3_middleOne_22 ?_
              refine lv_topi (fun z_15 ez_15 => ?_)
              have jz_15 : z_15.toInt = L2_12.toInt - 1 := by rw [ez_15]; exact g_sub rfl t_1 (by omega) (by omega)
              refine va_iald hx hb hK.1 hP 2 0 rfl rfl (g_in rfl (by omega) (by omega)) dX3_middleOne_23 ?_
              refine lv_topi (fun z_16 ez_16 => ?_)
              have kz_16 := congrArg Int32.toInt ez_16
              refine lv_aload_n hx hb dX3_middleOne_24 rfl (lv_at hl 2 rfl) ?_
              refine va_get (D := D) (ci := 3) (v := .ref (ra 1)) (C := RX3) (T := TX3) (N := 4) hx hb htb iX3 hown hK.1 hP 0 rfl rfl 1 (by decide) (htb _ k_63) (fun _ h9 => h9) rfl dX3_middleOne_25 ?_
              refine lv_iload_n hx hb dX3_middleOne_28 rfl (lv_at hl 1 rfl) ?_
              refine va_iald hx hb hK.1 hP 1 0 rfl rfl (g_in rfl (by omega) (by omega)) dX3_middleOne_29 ?_
              refine lv_topi (fun z_17 ez_17 => ?_)
              have kz_17 := congrArg Int32.toInt ez_17
              refine lv_icmp_le (tgt := 53) hx hb dX3_middleOne_30 (by decide) (fun c_18 => ?_) (fun c_18 => ?_)
              ·
                have ic_18 : z_16.toInt ≤ z_17.toInt := by first | exact (g_le rfl rfl).mp c_18 | (have h := mt (g_lt rfl rfl).mpr c_18; omega)
                clear c_18
                refine lv_aload_n hx hb dX3_middleOne_53 rfl (lv_at hl 2 rfl) ?_
                refine va_get (D := D) (ci := 3) (v := .ref (ra 2)) (C := RX3) (T := TX3) (N := 4) hx hb htb iX3 hown hK.1 hP 0 rfl rfl 2 (by decide) (htb _ k_65) (fun _ h9 => h9) rfl dX3_middleOne_54 ?_
                refine lv_iload_n hx hb dX3_middleOne_57 rfl (lv_at hl 0 rfl) ?_
                refine lv_aload_n hx hb dX3_middleOne_58 rfl (lv_at hl 2 rfl) ?_
                refine va_get (D := D) (ci := 3) (v := .ref (ra 1)) (C := RX3) (T := TX3) (N := 4) hx hb htb iX3 hown hK.1 hP 0 rfl rfl 1 (by decide) (htb _ k_63) (fun _ h9 => h9) rfl dX3_middleOne_59 ?_
                refine lv_iload_n hx hb dX3_middleOne_62 rfl (lv_at hl 1 rfl) ?_
                refine va_iald hx hb hK.1 hP 1 0 rfl rfl (g_in rfl (by omega) (by omega)) dX3_middleOne_63 ?_
                refine lv_topi (fun z_19 ez_19 => ?_)
                have kz_19 := congrArg Int32.toInt ez_19
                refine va_iast hx hb hK.1 hP hD hS 2 0 rfl rfl (g_in rfl (by omega) (by omega)) dX3_middleOne_64 (fun H locs hP hD hS => ?_)
                have hP : va_P D vwCl [(rh, .inr (3, G3 ra rsize)), ((ra 1), .inl (E 0, 60, .inl rf1)), ((ra 2), .inl (E 0, 60, .inl (upd rf2_12 (L2_12 : Int32).toNatClampNeg z_19)))] H := hP
                have hD := toW hP hD rfl
                obtain ⟨z_20, ez_20⟩ : ∃ y : Int32, y = L1_2 + 1 := ⟨_, rfl⟩
                have jz_20 : z_20.toInt = L1_2.toInt + 1 := by rw [ez_20]; exact g_add rfl t_1 (by omega) (by omega)
                refine lv_iinc (v := z_20) (lv' := [(1, .int z_20), (2, .int L2_12), (0, .ref rh)]) hx hb dX3_middleOne_65 hl (k := 1) rfl (by rw [ez_20]; rfl) (by decide) rfl (fun ls hl => ?_)
                refine lv_goto (tgt := 2) hx hb dX3_middleOne_68 (by decide) ?_
                exact ih_2 z_20 (upd rf2_12 (L2_12 : Int32).toNatClampNeg z_19) _ _ _ (by (try dsimp only); omega) (by (try dsimp only); omega) (by rw [clampS (by omega) jz_20, srtA_s, ← v1_2, ← v1_12, ← ez_19]; exact insA_end (by first | exact Or.inl (by have c1 := i_clamp0 (x := L2_12) (by omega); omega) | exact Or.inr ⟨(z_15).toNatClampNeg, by { have c1 := i_clamp0 (x := L2_12) (by omega); have c2 := i_clamp0 (x := z_15) (by omega); omega }, by { rw [← ez_16]; omega }⟩)) hP hD hS (lv_sub hl [0, 2] rfl)
              ·
                have ic_18 : z_17.toInt < z_16.toInt := by first | exact (g_lt rfl rfl).mp c_18 | (have h := mt (g_le rfl rfl).mpr c_18; omega)
                clear c_18
                refine lv_aload_n hx hb dX3_middleOne_33 rfl (lv_at hl 2 rfl) ?_
                refine va_get (D := D) (ci := 3) (v := .ref (ra 2)) (C := RX3) (T := TX3) (N := 4) hx hb htb iX3 hown hK.1 hP 0 rfl rfl 2 (by decide) (htb _ k_65) (fun _ h9 => h9) rfl dX3_middleOne_34 ?_
                refine lv_iload_n hx hb dX3_middleOne_37 rfl (lv_at hl 0 rfl) ?_
                refine lv_aload_n hx hb dX3_middleOne_38 rfl (lv_at hl 2 rfl) ?_
                refine va_get (D := D) (ci := 3) (v := .ref (ra 2)) (C := RX3) (T := TX3) (N := 4) hx hb htb iX3 hown hK.1 hP 0 rfl rfl 2 (by decide) (htb _ k_65) (fun _ h9 => h9) rfl dX3_middleOne_39 ?_
                refine lv_iload_n hx hb dX3_middleOne_42 rfl (lv_at hl 0 rfl) ?_
                refine lv_iconst (v := 1) hx hb dX3_middleOne_43 (by decide) ?_
                refine lv_isub hx hb dX3_middleOne_44 ?_
                refine lv_topi (fun z_21 ez_21 => ?_)
                have jz_21 : z_21.toInt = L2_12.toInt - 1 := by rw [ez_21]; exact g_sub rfl t_1 (by omega) (by omega)
                refine va_iald hx hb hK.1 hP 2 0 rfl rfl (g_in rfl (by omega) (by omega)) dX3_middleOne_45 ?_
                refine lv_topi (fun z_22 ez_22 => ?_)
                have kz_22 := congrArg Int32.toInt ez_22
                refine va_iast hx hb hK.1 hP hD hS 2 0 rfl rfl (g_in rfl (by omega) (by omega)) dX3_middleOne_46 (fun H locs hP hD hS => ?_)
                have hP : va_P D vwCl [(rh, .inr (3, G3 ra rsize)), ((ra 1), .inl (E 0, 60, .inl rf1)), ((ra 2), .inl (E 0, 60, .inl (upd rf2_12 (L2_12 : Int32).toNatClampNeg z_22)))] H := hP
                have hD := toW hP hD rfl
                obtain ⟨z_23, ez_23⟩ : ∃ y : Int32, y = L2_12 + (-1) := ⟨_, rfl⟩
                have jz_23 : z_23.toInt = L2_12.toInt + -1 := by rw [ez_23]; exact g_add rfl t_m1 (by omega) (by omega)
                refine lv_iinc (v := z_23) (lv' := [(2, .int z_23), (1, .int L1_2), (0, .ref rh)]) hx hb dX3_middleOne_47 hl (k := 0) rfl (by rw [ez_23]; rfl) (by decide) rfl (fun ls hl => ?_)
                refine lv_goto (tgt := 12) hx hb dX3_middleOne_50 (by decide) ?_
                exact ih_10 z_23 (upd rf2_12 (L2_12 : Int32).toNatClampNeg z_22) _ _ _ (by (try dsimp only); omega) (by (try dsimp only); omega) (by rw [← v1_12]; exact insA_go (by have c1 := i_clamp0 (x := L2_12) (by omega); have c2 := i_clamp0 (x := z_23) (by omega); omega) (by rw [ez_22]; congr 1; have c1 := i_clamp0 (x := z_23) (by omega); have c2 := i_clamp0 (x := z_21) (by omega); omega) (by rw [show (z_23).toNatClampNeg = (z_15).toNatClampNeg from by { have c1 := i_clamp0 (x := z_23) (by omega); have c2 := i_clamp0 (x := z_15) (by omega); omega }, ← ez_16, ← ez_17]; omega)) hP hD hS (lv_sub hl [0, 1, 2] rfl)
        exact loop_9 61 L1_2 rf2_2 _ _ _ (by (try dsimp only); omega) (by (try dsimp only); omega) (by rfl) hP hD hS (lv_sub hl [0, 1, 2] rfl)
  exact loop_1 61 0 rf2 _ _ _ (by have h0 := t_0; (try dsimp only); omega) (by have h0 := t_0; (try dsimp only); omega) (by rw [clamp_0]; rfl) hP hD hS (lv_sub hl [0, 1] rfl)
set_option maxHeartbeats 4000000 in
set_option maxRecDepth 100000 in
theorem g_X3_dayFarthestOff (l : Launch) (D : va_G) (E : Nat → Nat) (rh : Nat) (ra : Nat → Nat) (rsize : Int32) (rf0 : Nat → Int32) (rf1 : Nat → Int32) (rf2 : Nat → Int32) (p0 : Int32) (sz : Nat) (hi_r : (0 ≤ rsize.toInt ∧ rsize.toInt ≤ 60)) (hr_r0 : ∀ k : Nat, k < 60 → 0 ≤ (rf0 k).toInt ∧ (rf0 k).toInt ≤ 399) : Met l yX3_dayFarthestOff (wl yX3_dayFarthestOff cX3_dayFarthestOff 7 (some .int)) (RM 1 0 0) (mu_P D E [.ref rh, .int p0] [(rh, .inr (3, G3 ra rsize)), ((ra 0), .inl (E 0, 60, .inl rf0)), ((ra 1), .inl (E 0, 60, .inl rf1)), ((ra 2), .inl (E 0, 60, .inl rf2))] sz) (va_Qi (fun (r : Int32) (u : (Nat → Int32)) => ((rsize.toInt = 0 ∧ r.toInt = -4) ∨ (1 ≤ rsize.toInt ∧ ∃ m : Int32, m = srtA rf1 rf2 (rsize).toNatClampNeg ((rsize - 1) / 2).toNatClampNeg ∧ r = (farF rf0 rf1 m p0 (-4) (rsize).toNatClampNeg).2))) (mu_B D (va_A [(rh, .inr (3, G3 ra rsize)), ((ra 0), .inl (E 0, 60, .inl rf0)), ((ra 1), .inl (E 0, 60, .inl rf1)), ((ra 2), .inl (E 0, 60, .inl rf2))] sz) (fun (u : (Nat → Int32)) => [(rh, .inr (3, G3 ra rsize)), ((ra 0), .inl (E 0, 60, .inl rf0)), ((ra 1), .inl (E 0, 60, .inl rf1)), ((ra 2), .inl (E 0, 60, .inl u))])) (va_A [(rh, .inr (3, G3 ra rsize)), ((ra 0), .inl (E 0, 60, .inl rf0)), ((ra 1), .inl (E 0, 60, .inl rf1)), ((ra 2), .inl (E 0, 60, .inl rf2))] sz)) 0 0 (va_A [(rh, .inr (3, G3 ra rsize)), ((ra 0), .inl (E 0, 60, .inl rf0)), ((ra 1), .inl (E 0, 60, .inl rf1)), ((ra 2), .inl (E 0, 60, .inl rf2))] sz) := by
  refine Met.ofW (cc := cX3_dayFarthestOff) (maxL := 7) (ret := (some .int)) (by decide) rfl ?_
  intro p e s m args below meth c s₁ B hml hv
  obtain ⟨rfl, hsz, hP, hK, hD0⟩ := hv
  have hx := B.exec; have hb := B.bytes; have hr := B.returns
  have hts := atoms_spec (ws := wl yX3_dayFarthestOff cX3_dayFarthestOff 7 (some .int)) B.pre
  have htb : ∀ w ∈ tb, w.before _ s = true := fun w h => hts w (List.mem_cons_of_mem _ h)
  have hown : s.vm.findClass RX3 = some m.cls := findClass_of_methodNamed B.named
  have hlocks := B.notSynchronized
  subst hsz
  have hD := hD0.self (sz := s.heap.size)
  generalize hAe : va_A [(rh, .inr (3, G3 ra rsize)), ((ra 0), .inl (E 0, 60, .inl rf0)), ((ra 1), .inl (E 0, 60, .inl rf1)), ((ra 2), .inl (E 0, 60, .inl rf2))] s.heap.size = A at hD ⊢
  have hA : ∀ q : Nat, s.heap.size ≤ q → A q := fun q h => by rw [← hAe]; exact Or.inr h
  have hS : va_S A s.heap s.heap [] := va_S.rf
  have hP : va_P D vwCl [(rh, .inr (3, G3 ra rsize)), ((ra 0), .inl (E 0, 60, .inl rf0)), ((ra 1), .inl (E 0, 60, .inl rf1)), ((ra 2), .inl (E 0, 60, .inl rf2))] s.heap := hP
  have hl := lv_entry ([.ref rh, .int p0]) (n := 7) (Nat.le_of_ble_eq_true rfl)
  rw [lg_entry_eq]
  generalize (lg_sl ([.ref rh, .int p0]) ++ List.replicate (7 - (lg_sl ([.ref rh, .int p0])).length) Slot.unset).toArray = ls at hl ⊢
  have hl : lv_has ls 7 [(0, .ref rh), (1, .int p0)] := hl
  have lo_p0 := i_lo p0; have hi_p0 := i_hi p0
  refine lv_aload_n hx hb dX3_dayFarthestOff_0 rfl (lv_at hl 0 rfl) ?_
  refine va_get (D := D) (ci := 3) (v := .int rsize) (C := RX3) (T := TX3) (N := 4) hx hb htb iX3 hown hK.1 hP 0 rfl rfl 3 (by decide) (htb _ k_66) (fun _ h9 => h9) rfl dX3_dayFarthestOff_1 ?_
  refine lv_if_ne (tgt := 10) hx hb dX3_dayFarthestOff_4 (by decide) (fun c_1 => ?_) (fun c_1 => ?_)
  ·
    have ic_1 : rsize.toInt ≠ 0 := mt (g_eq rfl t_0).mpr c_1
    clear c_1
    refine lv_aload_n hx hb dX3_dayFarthestOff_10 rfl (lv_at hl 0 rfl) ?_
    have hPc := hP.sub (ws' := [(rh, .inr (3, G3 ra rsize)), ((ra 1), .inl (E 0, 60, .inl rf1)), ((ra 2), .inl (E 0, 60, .inl rf2))]) [0, 2, 3] rfl
    have hDc := hD.sub (ws' := [(rh, .inr (3, G3 ra rsize)), ((ra 1), .inl (E 0, 60, .inl rf1)), ((ra 2), .inl (E 0, 60, .inl rf2))]) [0, 2, 3] (by decide) rfl
    refine aft_i (runMV (rest := []) (As := []) hx hb hml hown htb hK (g_X3_middleOne l D E rh ra rsize rf1 rf2 _ (by (try dsimp only); omega)) ok_X3_middleOne k_566 k_568 ks_10 k_3 k_569 ⟨(Nat.le_of_ble_eq_true rfl), (Nat.le_of_ble_eq_true rfl)⟩ ⟨(Nat.le_of_ble_eq_true rfl), (Nat.le_of_ble_eq_true rfl)⟩ hl.1 (Nat.le_of_ble_eq_true rfl) rfl rfl dX3_dayFarthestOff_11 hPc hDc rfl rfl 0 rfl) hP hD hS hA [0, 2, 3] [1] (wr := [((ra 0), .inl (E 0, 60, .inl rf0))]) rfl rfl (by decide) (by decide) (fun r_2 u_4 H locs hw_3 hP hD hS => ?_)
    clear hPc hDc
    have hP : va_P D vwCl [((ra 0), .inl (E 0, 60, .inl rf0)), (rh, .inr (3, G3 ra rsize)), ((ra 1), .inl (E 0, 60, .inl rf1)), ((ra 2), .inl (E 0, 60, .inl u_4))] H := hP
    have hD := toW hP hD rfl
    refine lv_istore_n (lv' := [(2, .int r_2), (0, .ref rh), (1, .int p0)]) hx hb dX3_dayFarthestOff_14 rfl hl (by decide) rfl (fun ls hl => ?_)
    refine lv_iload_n hx hb dX3_dayFarthestOff_15 rfl (lv_at hl 2 rfl) ?_
    refine lv_istore_n (lv' := [(3, .int p0), (2, .int r_2), (0, .ref rh), (1, .int p0)]) hx hb dX3_dayFarthestOff_16 rfl hl (by decide) rfl (fun ls hl => ?_)
    refine lv_bipush (v := (-4)) hx hb dX3_dayFarthestOff_17 (by decide) ?_
    refine lv_istore (lv' := [(4, .int (-4)), (3, .int p0), (2, .int r_2), (0, .ref rh), (1, .int p0)]) hx hb dX3_dayFarthestOff_19 hl (by decide) rfl (fun ls hl => ?_)
    refine lv_iconst (v := 0) hx hb dX3_dayFarthestOff_21 (by decide) ?_
    refine lv_istore (lv' := [(5, .int 0), (4, .int (-4)), (3, .int p0), (2, .int r_2), (0, .ref rh), (1, .int p0)]) hx hb dX3_dayFarthestOff_22 hl (by decide) rfl (fun ls hl => ?_)
    have loop_5 : ∀ (N_7 : Nat) (L5_24 : Int32) (L4_24 : Int32) (L3_24 : Int32) (H : Heap) (locs : List Loc) (ls : Array Slot), rsize.toInt - L5_24.toInt < (N_7 : Int) → (0 ≤ L5_24.toInt ∧ L5_24.toInt ≤ rsize.toInt) → (L3_24 = (farF rf0 rf1 r_2 p0 (-4) (L5_24).toNatClampNeg).1) → (L4_24 = (farF rf0 rf1 r_2 p0 (-4) (L5_24).toNatClampNeg).2) → va_P D vwCl [((ra 0), .inl (E 0, 60, .inl rf0)), (rh, .inr (3, G3 ra rsize)), ((ra 1), .inl (E 0, 60, .inl rf1)), ((ra 2), .inl (E 0, 60, .inl u_4))] H → va_D A [((ra 0), .inl (E 0, 60, .inl rf0)), (rh, .inr (3, G3 ra rsize)), ((ra 1), .inl (E 0, 60, .inl rf1)), ((ra 2), .inl (E 0, 60, .inl u_4))] → va_S A s.heap H locs → lv_has ls 7 [(5, .int L5_24), (4, .int L4_24), (3, .int L3_24), (2, .int r_2), (0, .ref rh), (1, .int p0)] → W p l e (headSpec (wl yX3_dayFarthestOff cX3_dayFarthestOff 7 (some .int)) (RM 1 0 0)).room s m [Value.ref rh, .int p0].toArray below meth c H locs 0 0 (MQ below (va_Qi (fun (r : Int32) (u : (Nat → Int32)) => ((rsize.toInt = 0 ∧ r.toInt = -4) ∨ (1 ≤ rsize.toInt ∧ ∃ m : Int32, m = srtA rf1 rf2 (rsize).toNatClampNeg ((rsize - 1) / 2).toNatClampNeg ∧ r = (farF rf0 rf1 m p0 (-4) (rsize).toNatClampNeg).2))) (mu_B D A (fun (u : (Nat → Int32)) => [(rh, .inr (3, G3 ra rsize)), ((ra 0), .inl (E 0, 60, .inl rf0)), ((ra 1), .inl (E 0, 60, .inl rf1)), ((ra 2), .inl (E 0, 60, .inl u))])) A) [Value.ref rh, .int p0].toArray s 0 0 A) (F0 m 24 ls []) := by
      intro N_7
      induction N_7 with
      | zero => intro L5_24 L4_24 L3_24 H locs ls hm v0_24 v1_24 v2_24 _ _ _ _; exfalso; omega
      | succ N_7 ih_6 =>
        intro L5_24 L4_24 L3_24 H locs ls hm v0_24 v1_24 v2_24 hP hD hS hl
        have lo_L5_24 := i_lo L5_24; have hi_L5_24 := i_hi L5_24
        have lo_L4_24 := i_lo L4_24; have hi_L4_24 := i_hi L4_24
        have lo_L3_24 := i_lo L3_24; have hi_L3_24 := i_hi L3_24
        refine lv_iload hx hb dX3_dayFarthestOff_24 (lv_at hl 0 rfl) ?_
        refine lv_aload_n hx hb dX3_dayFarthestOff_26 rfl (lv_at hl 4 rfl) ?_
        refine va_get (D := D) (ci := 3) (v := .int rsize) (C := RX3) (T := TX3) (N := 4) hx hb htb iX3 hown hK.1 hP 1 rfl rfl 3 (by decide) (htb _ k_66) (fun _ h9 => h9) rfl dX3_dayFarthestOff_27 ?_
        refine lv_icmp_ge (tgt := 71) hx hb dX3_dayFarthestOff_30 (by decide) (fun c_8 => ?_) (fun c_8 => ?_)
        ·
          have ic_8 : rsize.toInt ≤ L5_24.toInt := by first | exact (g_le rfl rfl).mp c_8 | (have h := mt (g_lt rfl rfl).mpr c_8; omega)
          clear c_8
          refine lv_iload hx hb dX3_dayFarthestOff_71 (lv_at hl 1 rfl) ?_
          have hP9 := hP.sub (ws' := [(rh, .inr (3, G3 ra rsize)), ((ra 0), .inl (E 0, 60, .inl rf0)), ((ra 1), .inl (E 0, 60, .inl rf1)), ((ra 2), .inl (E 0, 60, .inl u_4))]) [1, 0, 2, 3] rfl
          have hD9 := hD.sub (ws' := [(rh, .inr (3, G3 ra rsize)), ((ra 0), .inl (E 0, 60, .inl rf0)), ((ra 1), .inl (E 0, 60, .inl rf1)), ((ra 2), .inl (E 0, 60, .inl u_4))]) [1, 0, 2, 3] (by decide) rfl
          exact W.iret (v := L4_24) hx hb hr (fun t ht hW => ⟨⟨L4_24, u_4, rfl, (Or.inr ⟨by omega, r_2, (hw_3.resolve_left (by omega)).2, by rw [show (rsize).toNatClampNeg = (L5_24).toNatClampNeg from clampE (by omega) (by omega)]; exact v2_24⟩), by rw [ht]; exact hP9, hD9⟩, hS.F ht⟩) hS.2.2 dX3_dayFarthestOff_73
        ·
          have ic_8 : L5_24.toInt < rsize.toInt := by first | exact (g_lt rfl rfl).mp c_8 | (have h := mt (g_le rfl rfl).mpr c_8; omega)
          clear c_8
          refine lv_aload_n hx hb dX3_dayFarthestOff_33 rfl (lv_at hl 4 rfl) ?_
          refine va_get (D := D) (ci := 3) (v := .ref (ra 1)) (C := RX3) (T := TX3) (N := 4) hx hb htb iX3 hown hK.1 hP 1 rfl rfl 1 (by decide) (htb _ k_63) (fun _ h9 => h9) rfl dX3_dayFarthestOff_34 ?_
          refine lv_iload hx hb dX3_dayFarthestOff_37 (lv_at hl 0 rfl) ?_
          refine va_iald hx hb hK.1 hP 2 0 rfl rfl (g_in rfl (by omega) (by omega)) dX3_dayFarthestOff_39 ?_
          refine lv_topi (fun z_9 ez_9 => ?_)
          have kz_9 := congrArg Int32.toInt ez_9
          refine lv_iload_n hx hb dX3_dayFarthestOff_40 rfl (lv_at hl 3 rfl) ?_
          refine lv_isub hx hb dX3_dayFarthestOff_41 ?_
          refine lv_topi (fun z_10 ez_10 => ?_)
          refine va_mabs hx hb (by rw [hml, hl.1]) hown (htb _ k_570) (htb _ k_571) (htb _ k_11) (htb _ k_572) (Nat.le_of_ble_eq_true rfl) (Nat.le_of_ble_eq_true rfl) (Nat.le_of_ble_eq_true rfl) (Nat.le_of_ble_eq_true rfl) dX3_dayFarthestOff_42 ?_
          refine lv_topi (fun z_11 ez_11 => ?_)
          have sz_11 := abs_sz ez_11
          refine lv_istore (lv' := [(6, .int z_11), (5, .int L5_24), (4, .int L4_24), (3, .int L3_24), (2, .int r_2), (0, .ref rh), (1, .int p0)]) hx hb dX3_dayFarthestOff_45 hl (by decide) rfl (fun ls hl => ?_)
          refine lv_iload hx hb dX3_dayFarthestOff_47 (lv_at hl 0 rfl) ?_
          refine lv_iload_n hx hb dX3_dayFarthestOff_49 rfl (lv_at hl 3 rfl) ?_
          refine lv_icmp_le (tgt := 65) hx hb dX3_dayFarthestOff_50 (by decide) (fun c_12 => ?_) (fun c_12 => ?_)
          ·
            have ic_12 : z_11.toInt ≤ L3_24.toInt := by first | exact (g_le rfl rfl).mp c_12 | (have h := mt (g_lt rfl rfl).mpr c_12; omega)
            clear c_12
            obtain ⟨z_13, ez_13⟩ : ∃ y : Int32, y = L5_24 + 1 := ⟨_, rfl⟩
            have jz_13 : z_13.toInt = L5_24.toInt + 1 := by rw [ez_13]; exact g_add rfl t_1 (by omega) (by omega)
            refine lv_iinc (v := z_13) (lv' := [(5, .int z_13), (6, .int z_11), (4, .int L4_24), (3, .int L3_24), (2, .int r_2), (0, .ref rh), (1, .int p0)]) hx hb dX3_dayFarthestOff_65 hl (k := 1) rfl (by rw [ez_13]; rfl) (by decide) rfl (fun ls hl => ?_)
            refine lv_goto (tgt := 24) hx hb dX3_dayFarthestOff_68 (by decide) ?_
            exact ih_6 z_13 L4_24 L3_24 _ _ _ (by (try dsimp only); omega) (by (try dsimp only); omega) (by have hq : z_11 = szF (rf1 (L5_24).toNatClampNeg - r_2) := (by rw [sz_11, ez_10, ez_9]); rw [clampS (by omega) jz_13, farF_s, ← v1_24, ← hq, if_neg (by omega)]; exact v1_24) (by have hq : z_11 = szF (rf1 (L5_24).toNatClampNeg - r_2) := (by rw [sz_11, ez_10, ez_9]); rw [clampS (by omega) jz_13, farF_s, ← v1_24, ← hq, if_neg (by omega)]; exact v2_24) hP hD hS (lv_sub hl [0, 2, 3, 4, 5, 6] rfl)
          ·
            have ic_12 : L3_24.toInt < z_11.toInt := by first | exact (g_lt rfl rfl).mp c_12 | (have h := mt (g_le rfl rfl).mpr c_12; omega)
            clear c_12
            refine lv_iload hx hb dX3_dayFarthestOff_53 (lv_at hl 0 rfl) ?_
            refine lv_istore_n (lv' := [(3, .int z_11), (6, .int z_11), (5, .int L5_24), (4, .int L4_24), (2, .int r_2), (0, .ref rh), (1, .int p0)]) hx hb dX3_dayFarthestOff_55 rfl hl (by decide) rfl (fun ls hl => ?_)
            refine lv_aload_n hx hb dX3_dayFarthestOff_56 rfl (lv_at hl 5 rfl) ?_
            refine va_get (D := D) (ci := 3) (v := .ref (ra 0)) (C := RX3) (T := TX3) (N := 4) hx hb htb iX3 hown hK.1 hP 1 rfl rfl 0 (by decide) (htb _ k_61) (fun _ h9 => h9) rfl dX3_dayFarthestOff_57 ?_
            refine lv_iload hx hb dX3_dayFarthestOff_60 (lv_at hl 2 rfl) ?_
            refine va_iald hx hb hK.1 hP 0 0 rfl rfl (g_in rfl (by omega) (by omega)) dX3_dayFarthestOff_62 ?_
            refine lv_topi (fun z_14 ez_14 => ?_)
            have kz_14 := congrArg Int32.toInt ez_14
            have jz_14 : 0 ≤ z_14.toInt ∧ z_14.toInt ≤ 399 := by rw [ez_14]; exact hr_r0 _ (g_ix rfl (by omega) (by omega))
            refine lv_istore (lv' := [(4, .int z_14), (3, .int z_11), (6, .int z_11), (5, .int L5_24), (2, .int r_2), (0, .ref rh), (1, .int p0)]) hx hb dX3_dayFarthestOff_63 hl (by decide) rfl (fun ls hl => ?_)
            obtain ⟨z_15, ez_15⟩ : ∃ y : Int32, y = L5_24 + 1 := ⟨_, rfl⟩
            have jz_15 : z_15.toInt = L5_24.toInt + 1 := by rw [ez_15]; exact g_add rfl t_1 (by omega) (by omega)
            refine lv_iinc (v := z_15) (lv' := [(5, .int z_15), (4, .int z_14), (3, .int z_11), (6, .int z_11), (2, .int r_2), (0, .ref rh), (1, .int p0)]) hx hb dX3_dayFarthestOff_65 hl (k := 3) rfl (by rw [ez_15]; rfl) (by decide) rfl (fun ls hl => ?_)
            refine lv_goto (tgt := 24) hx hb dX3_dayFarthestOff_68 (by decide) ?_
            exact ih_6 z_15 z_14 z_11 _ _ _ (by (try dsimp only); omega) (by (try dsimp only); omega) (by have hq : z_11 = szF (rf1 (L5_24).toNatClampNeg - r_2) := (by rw [sz_11, ez_10, ez_9]); rw [clampS (by omega) jz_15, farF_s, ← v1_24, ← hq, if_pos (by omega)]) (by have hq : z_11 = szF (rf1 (L5_24).toNatClampNeg - r_2) := (by rw [sz_11, ez_10, ez_9]); rw [clampS (by omega) jz_15, farF_s, ← v1_24, ← hq, if_pos (by omega)]; exact ez_14) hP hD hS (lv_sub hl [0, 1, 2, 4, 5, 6] rfl)
    exact loop_5 61 0 ((-4)) p0 _ _ _ (by have h0 := t_m4; have h1 := t_0; (try dsimp only); omega) (by have h0 := t_m4; have h1 := t_0; (try dsimp only); omega) (by rw [clamp_0]; rfl) (by rw [clamp_0]; rfl) hP hD hS (lv_sub hl [0, 1, 2, 3, 4, 5] rfl)
  ·
    have ic_1 : rsize.toInt = 0 := (g_eq rfl t_0).mp c_1
    clear c_1
    refine lv_bipush (v := (-4)) hx hb dX3_dayFarthestOff_7 (by decide) ?_
    have hP9 := hP.sub (ws' := [(rh, .inr (3, G3 ra rsize)), ((ra 0), .inl (E 0, 60, .inl rf0)), ((ra 1), .inl (E 0, 60, .inl rf1)), ((ra 2), .inl (E 0, 60, .inl rf2))]) [0, 1, 2, 3] rfl
    have hD9 := hD.sub (ws' := [(rh, .inr (3, G3 ra rsize)), ((ra 0), .inl (E 0, 60, .inl rf0)), ((ra 1), .inl (E 0, 60, .inl rf1)), ((ra 2), .inl (E 0, 60, .inl rf2))]) [0, 1, 2, 3] (by decide) rfl
    exact W.iret (v := (-4)) hx hb hr (fun t ht hW => ⟨⟨(-4), rf2, rfl, (Or.inl ⟨by omega, by have hl0 := t_m4; omega⟩), by rw [ht]; exact hP9, hD9⟩, hS.F ht⟩) hS.2.2 dX3_dayFarthestOff_9
set_option maxHeartbeats 4000000 in
set_option maxRecDepth 100000 in
theorem g_X3_gather (l : Launch) (D : va_G) (E : Nat → Nat) (rh : Nat) (ra : Nat → Nat) (rsize : Int32) (rf0 : Nat → Int32) (rf1 : Nat → Int32) (wh : Nat) (wa : Nat → Nat) (wf0 : Nat → Int32) (wf1 : Nat → Int32) (wf2 : Nat → Int32) (oh : Nat) (oa : Nat → Nat) (osize : Int32) (of0 : Nat → Int32) (of1 : Nat → Int32) (of2 : Nat → Int32) (of3 : Nat → Int32) (of4 : Nat → Int32) (p2 : Int32) (p3 : Int32) (sz : Nat) (hi_r : (0 ≤ rsize.toInt ∧ rsize.toInt ≤ 60)) (hr_r0 : ∀ k : Nat, k < 60 → 0 ≤ (rf0 k).toInt ∧ (rf0 k).toInt ≤ 399) (hi_o : (0 ≤ osize.toInt ∧ osize.toInt ≤ 60)) (g0 : 0 ≤ p2.toInt ∧ p2.toInt ≤ 399 ∧ p3.toInt ≤ 399 ∧ p3.toInt - p2.toInt ≤ 60) : Met l yX3_gather (wl yX3_gather cX3_gather 9 none) (RM 3 0 0) (mu_P D E [.ref rh, .ref wh, .ref oh, .int p2, .int p3] [(rh, .inr (3, G3 ra rsize)), ((ra 0), .inl (E 0, 60, .inl rf0)), ((ra 1), .inl (E 0, 60, .inl rf1)), (wh, .inr (7, G7 wa)), ((wa 0), .inl (E 0, 400, .inl wf0)), ((wa 1), .inl (E 0, 400, .inl wf1)), ((wa 2), .inl (E 0, 400, .inl wf2)), (oh, .inr (2, G2 oa osize)), ((oa 0), .inl (E 0, 60, .inl of0)), ((oa 1), .inl (E 0, 60, .inl of1)), ((oa 2), .inl (E 0, 60, .inl of2)), ((oa 3), .inl (E 0, 60, .inl of3)), ((oa 4), .inl (E 0, 60, .inl of4))] sz) (va_Qv (fun (u : (Nat → Int32) × (Nat → Int32) × (Int32)) => (∀ k : Nat, k < 60 → 0 ≤ (u.1 k).toInt ∧ (u.1 k).toInt ≤ 399) ∧ (0 ≤ u.2.2.toInt ∧ u.2.2.toInt ≤ 60) ∧ (HOLDS u.1 u.2.1 u.2.2 (rateL (rXn wf0 wf1 wf2 of0 of1 of2 of3 of4 osize) p2 (p3.toInt - p2.toInt).toNat))) (mu_B D (va_A [(rh, .inr (3, G3 ra rsize)), ((ra 0), .inl (E 0, 60, .inl rf0)), ((ra 1), .inl (E 0, 60, .inl rf1)), (wh, .inr (7, G7 wa)), ((wa 0), .inl (E 0, 400, .inl wf0)), ((wa 1), .inl (E 0, 400, .inl wf1)), ((wa 2), .inl (E 0, 400, .inl wf2)), (oh, .inr (2, G2 oa osize)), ((oa 0), .inl (E 0, 60, .inl of0)), ((oa 1), .inl (E 0, 60, .inl of1)), ((oa 2), .inl (E 0, 60, .inl of2)), ((oa 3), .inl (E 0, 60, .inl of3)), ((oa 4), .inl (E 0, 60, .inl of4))] sz) (fun (u : (Nat → Int32) × (Nat → Int32) × (Int32)) => [(rh, .inr (3, G3 ra u.2.2)), ((ra 0), .inl (E 0, 60, .inl u.1)), ((ra 1), .inl (E 0, 60, .inl u.2.1)), (wh, .inr (7, G7 wa)), ((wa 0), .inl (E 0, 400, .inl wf0)), ((wa 1), .inl (E 0, 400, .inl wf1)), ((wa 2), .inl (E 0, 400, .inl wf2)), (oh, .inr (2, G2 oa osize)), ((oa 0), .inl (E 0, 60, .inl of0)), ((oa 1), .inl (E 0, 60, .inl of1)), ((oa 2), .inl (E 0, 60, .inl of2)), ((oa 3), .inl (E 0, 60, .inl of3)), ((oa 4), .inl (E 0, 60, .inl of4))])) (va_A [(rh, .inr (3, G3 ra rsize)), ((ra 0), .inl (E 0, 60, .inl rf0)), ((ra 1), .inl (E 0, 60, .inl rf1)), (wh, .inr (7, G7 wa)), ((wa 0), .inl (E 0, 400, .inl wf0)), ((wa 1), .inl (E 0, 400, .inl wf1)), ((wa 2), .inl (E 0, 400, .inl wf2)), (oh, .inr (2, G2 oa osize)), ((oa 0), .inl (E 0, 60, .inl of0)), ((oa 1), .inl (E 0, 60, .inl of1)), ((oa 2), .inl (E 0, 60, .inl of2)), ((oa 3), .inl (E 0, 60, .inl of3)), ((oa 4), .inl (E 0, 60, .inl of4))] sz)) 0 0 (va_A [(rh, .inr (3, G3 ra rsize)), ((ra 0), .inl (E 0, 60, .inl rf0)), ((ra 1), .inl (E 0, 60, .inl rf1)), (wh, .inr (7, G7 wa)), ((wa 0), .inl (E 0, 400, .inl wf0)), ((wa 1), .inl (E 0, 400, .inl wf1)), ((wa 2), .inl (E 0, 400, .inl wf2)), (oh, .inr (2, G2 oa osize)), ((oa 0), .inl (E 0, 60, .inl of0)), ((oa 1), .inl (E 0, 60, .inl of1)), ((oa 2), .inl (E 0, 60, .inl of2)), ((oa 3), .inl (E 0, 60, .inl of3)), ((oa 4), .inl (E 0, 60, .inl of4))] sz) := by
  refine Met.ofW (cc := cX3_gather) (maxL := 9) (ret := none) (by decide) rfl ?_
  intro p e s m args below meth c s₁ B hml hv
  obtain ⟨rfl, hsz, hP, hK, hD0⟩ := hv
  have hx := B.exec; have hb := B.bytes; have hr := B.returns
  have hts := atoms_spec (ws := wl yX3_gather cX3_gather 9 none) B.pre
  have htb : ∀ w ∈ tb, w.before _ s = true := fun w h => hts w (List.mem_cons_of_mem _ h)
  have hown : s.vm.findClass RX3 = some m.cls := findClass_of_methodNamed B.named
  have hlocks := B.notSynchronized
  subst hsz
  have hD := hD0.self (sz := s.heap.size)
  generalize hAe : va_A [(rh, .inr (3, G3 ra rsize)), ((ra 0), .inl (E 0, 60, .inl rf0)), ((ra 1), .inl (E 0, 60, .inl rf1)), (wh, .inr (7, G7 wa)), ((wa 0), .inl (E 0, 400, .inl wf0)), ((wa 1), .inl (E 0, 400, .inl wf1)), ((wa 2), .inl (E 0, 400, .inl wf2)), (oh, .inr (2, G2 oa osize)), ((oa 0), .inl (E 0, 60, .inl of0)), ((oa 1), .inl (E 0, 60, .inl of1)), ((oa 2), .inl (E 0, 60, .inl of2)), ((oa 3), .inl (E 0, 60, .inl of3)), ((oa 4), .inl (E 0, 60, .inl of4))] s.heap.size = A at hD ⊢
  have hA : ∀ q : Nat, s.heap.size ≤ q → A q := fun q h => by rw [← hAe]; exact Or.inr h
  have hS : va_S A s.heap s.heap [] := va_S.rf
  have hP : va_P D vwCl [(rh, .inr (3, G3 ra rsize)), ((ra 0), .inl (E 0, 60, .inl rf0)), ((ra 1), .inl (E 0, 60, .inl rf1)), (wh, .inr (7, G7 wa)), ((wa 0), .inl (E 0, 400, .inl wf0)), ((wa 1), .inl (E 0, 400, .inl wf1)), ((wa 2), .inl (E 0, 400, .inl wf2)), (oh, .inr (2, G2 oa osize)), ((oa 0), .inl (E 0, 60, .inl of0)), ((oa 1), .inl (E 0, 60, .inl of1)), ((oa 2), .inl (E 0, 60, .inl of2)), ((oa 3), .inl (E 0, 60, .inl of3)), ((oa 4), .inl (E 0, 60, .inl of4))] s.heap := hP
  have hl := lv_entry ([.ref rh, .ref wh, .ref oh, .int p2, .int p3]) (n := 9) (Nat.le_of_ble_eq_true rfl)
  rw [lg_entry_eq]
  generalize (lg_sl ([.ref rh, .ref wh, .ref oh, .int p2, .int p3]) ++ List.replicate (9 - (lg_sl ([.ref rh, .ref wh, .ref oh, .int p2, .int p3])).length) Slot.unset).toArray = ls at hl ⊢
  have hl : lv_has ls 9 [(0, .ref rh), (1, .ref wh), (2, .ref oh), (3, .int p2), (4, .int p3)] := hl
  have lo_p2 := i_lo p2; have hi_p2 := i_hi p2
  have lo_p3 := i_lo p3; have hi_p3 := i_hi p3
  refine lv_aload_n hx hb dX3_gather_0 rfl (lv_at hl 0 rfl) ?_
  refine lv_iconst (v := 0) hx hb dX3_gather_1 (by decide) ?_
  refine va_put (D := D) (ci := 3) (v := .int 0) (ty := .int) (C := RX3) (T := TX3) (N := 4) hx hb htb iX3 tyX3 tyX3_ok nmX3 hown hK.1 hP hD hS 0 rfl rfl 3 (by decide) (htb _ k_66) (fun _ h9 => h9) rfl (by decide +kernel) rfl rfl (Nat.le_of_ble_eq_true rfl) dX3_gather_2 (fun H locs hP hD hS => ?_)
  have hP : va_P D vwCl [(rh, .inr (3, G3 ra 0)), ((ra 0), .inl (E 0, 60, .inl rf0)), ((ra 1), .inl (E 0, 60, .inl rf1)), (wh, .inr (7, G7 wa)), ((wa 0), .inl (E 0, 400, .inl wf0)), ((wa 1), .inl (E 0, 400, .inl wf1)), ((wa 2), .inl (E 0, 400, .inl wf2)), (oh, .inr (2, G2 oa osize)), ((oa 0), .inl (E 0, 60, .inl of0)), ((oa 1), .inl (E 0, 60, .inl of1)), ((oa 2), .inl (E 0, 60, .inl of2)), ((oa 3), .inl (E 0, 60, .inl of3)), ((oa 4), .inl (E 0, 60, .inl of4))] H := hP
  have hD := toW hP hD rfl
  refine lv_aload_n hx hb dX3_gather_5 rfl (lv_at hl 1 rfl) ?_
  refine lv_ifnonnull (tgt := 10) hx hb dX3_gather_6 (by decide) ?_
  refine lv_aload_n hx hb dX3_gather_10 rfl (lv_at hl 1 rfl) ?_
  refine lv_iload_n hx hb dX3_gather_11 rfl (lv_at hl 3 rfl) ?_
  refine lv_aload_n hx hb dX3_gather_12 rfl (lv_at hl 2 rfl) ?_
  refine lv_iconst (v := (-1)) hx hb dX3_gather_13 (by decide) ?_
  refine callRV (rest := []) (As := [.int p2, .ref oh, .int (-1)]) hx hb hml hown htb hK (g_X7_errorAsKnown l D E wh wa wf0 wf1 oh oa osize of0 of1 of2 of3 of4 p2 (-1) (by (try dsimp only); omega)) ok_X7_errorAsKnown k_502 k_416 k_417 k_10 k_418 ⟨(Nat.le_of_ble_eq_true rfl), (Nat.le_of_ble_eq_true rfl)⟩ ⟨(Nat.le_of_ble_eq_true rfl), (Nat.le_of_ble_eq_true rfl)⟩ hl.1 (Nat.le_of_ble_eq_true rfl) rfl rfl dX3_gather_14 (hP.sub (ws' := [(wh, .inr (7, G7 wa)), ((wa 0), .inl (E 0, 400, .inl wf0)), ((wa 1), .inl (E 0, 400, .inl wf1)), (oh, .inr (2, G2 oa osize)), ((oa 0), .inl (E 0, 60, .inl of0)), ((oa 1), .inl (E 0, 60, .inl of1)), ((oa 2), .inl (E 0, 60, .inl of2)), ((oa 3), .inl (E 0, 60, .inl of3)), ((oa 4), .inl (E 0, 60, .inl of4))]) [3, 4, 5, 7, 8, 9, 10, 11, 12] rfl) rfl rfl 0 rfl (fun r_1 hw_2 => ?_)
  try simp only [t_m1] at hw_2
  refine lv_istore (lv' := [(5, .int r_1), (0, .ref rh), (1, .ref wh), (2, .ref oh), (3, .int p2), (4, .int p3)]) hx hb dX3_gather_17 hl (by decide) rfl (fun ls hl => ?_)
  refine lv_iload_n hx hb dX3_gather_19 rfl (lv_at hl 4 rfl) ?_
  refine lv_istore (lv' := [(6, .int p2), (5, .int r_1), (0, .ref rh), (1, .ref wh), (2, .ref oh), (3, .int p2), (4, .int p3)]) hx hb dX3_gather_20 hl (by decide) rfl (fun ls hl => ?_)
  have loop_4 : ∀ (N_6 : Nat) (L6_22 : Int32) (L5_22 : Int32) (rsize_22 : Int32) (rf0_22 : Nat → Int32) (rf1_22 : Nat → Int32) (H : Heap) (locs : List Loc) (ls : Array Slot), 400 - L6_22.toInt < (N_6 : Int) → (0 ≤ rsize_22.toInt ∧ rsize_22.toInt ≤ 60) → (∀ k : Nat, k < 60 → 0 ≤ (rf0_22 k).toInt ∧ (rf0_22 k).toInt ≤ 399) → (p2.toInt ≤ L6_22.toInt ∧ L6_22.toInt ≤ 400 ∧ (L6_22.toInt ≤ p3.toInt ∨ L6_22.toInt = p2.toInt) ∧ rsize_22.toInt ≤ L6_22.toInt - p2.toInt) → (HOLDS rf0_22 rf1_22 rsize_22 (rateL (rXn wf0 wf1 wf2 of0 of1 of2 of3 of4 osize) p2 (L6_22.toInt - p2.toInt).toNat)) → (L5_22 = eX wf0 wf1 of0 of1 of2 of3 of4 osize L6_22 (-1)) → va_P D vwCl [(rh, .inr (3, G3 ra rsize_22)), ((ra 0), .inl (E 0, 60, .inl rf0_22)), ((ra 1), .inl (E 0, 60, .inl rf1_22)), (wh, .inr (7, G7 wa)), ((wa 0), .inl (E 0, 400, .inl wf0)), ((wa 1), .inl (E 0, 400, .inl wf1)), ((wa 2), .inl (E 0, 400, .inl wf2)), (oh, .inr (2, G2 oa osize)), ((oa 0), .inl (E 0, 60, .inl of0)), ((oa 1), .inl (E 0, 60, .inl of1)), ((oa 2), .inl (E 0, 60, .inl of2)), ((oa 3), .inl (E 0, 60, .inl of3)), ((oa 4), .inl (E 0, 60, .inl of4))] H → va_D A [(rh, .inr (3, G3 ra rsize_22)), ((ra 0), .inl (E 0, 60, .inl rf0_22)), ((ra 1), .inl (E 0, 60, .inl rf1_22)), (wh, .inr (7, G7 wa)), ((wa 0), .inl (E 0, 400, .inl wf0)), ((wa 1), .inl (E 0, 400, .inl wf1)), ((wa 2), .inl (E 0, 400, .inl wf2)), (oh, .inr (2, G2 oa osize)), ((oa 0), .inl (E 0, 60, .inl of0)), ((oa 1), .inl (E 0, 60, .inl of1)), ((oa 2), .inl (E 0, 60, .inl of2)), ((oa 3), .inl (E 0, 60, .inl of3)), ((oa 4), .inl (E 0, 60, .inl of4))] → va_S A s.heap H locs → lv_has ls 9 [(6, .int L6_22), (5, .int L5_22), (0, .ref rh), (1, .ref wh), (2, .ref oh), (3, .int p2), (4, .int p3)] → W p l e (headSpec (wl yX3_gather cX3_gather 9 none) (RM 3 0 0)).room s m [Value.ref rh, .ref wh, .ref oh, .int p2, .int p3].toArray below meth c H locs 0 0 (MQ below (va_Qv (fun (u : (Nat → Int32) × (Nat → Int32) × (Int32)) => (∀ k : Nat, k < 60 → 0 ≤ (u.1 k).toInt ∧ (u.1 k).toInt ≤ 399) ∧ (0 ≤ u.2.2.toInt ∧ u.2.2.toInt ≤ 60) ∧ (HOLDS u.1 u.2.1 u.2.2 (rateL (rXn wf0 wf1 wf2 of0 of1 of2 of3 of4 osize) p2 (p3.toInt - p2.toInt).toNat))) (mu_B D A (fun (u : (Nat → Int32) × (Nat → Int32) × (Int32)) => [(rh, .inr (3, G3 ra u.2.2)), ((ra 0), .inl (E 0, 60, .inl u.1)), ((ra 1), .inl (E 0, 60, .inl u.2.1)), (wh, .inr (7, G7 wa)), ((wa 0), .inl (E 0, 400, .inl wf0)), ((wa 1), .inl (E 0, 400, .inl wf1)), ((wa 2), .inl (E 0, 400, .inl wf2)), (oh, .inr (2, G2 oa osize)), ((oa 0), .inl (E 0, 60, .inl of0)), ((oa 1), .inl (E 0, 60, .inl of1)), ((oa 2), .inl (E 0, 60, .inl of2)), ((oa 3), .inl (E 0, 60, .inl of3)), ((oa 4), .inl (E 0, 60, .inl of4))])) A) [Value.ref rh, .ref wh, .ref oh, .int p2, .int p3].toArray s 0 0 A) (F0 m 22 ls []) := by
    intro N_6
    induction N_6 with
    | zero => intro L6_22 L5_22 rsize_22 rf0_22 rf1_22 H locs ls hm v_rsize_22 v_rf0_22 v0_22 v1_22 v2_22 _ _ _ _; exfalso; omega
    | succ N_6 ih_5 =>
      intro L6_22 L5_22 rsize_22 rf0_22 rf1_22 H locs ls hm v_rsize_22 v_rf0_22 v0_22 v1_22 v2_22 hP hD hS hl
      have lo_L6_22 := i_lo L6_22; have hi_L6_22 := i_hi L6_22
      have lo_L5_22 := i_lo L5_22; have hi_L5_22 := i_hi L5_22
      have lo_rsize_22 := i_lo rsize_22; have hi_rsize_22 := i_hi rsize_22
      refine lv_iload hx hb dX3_gather_22 (lv_at hl 0 rfl) ?_
      refine lv_iload hx hb dX3_gather_24 (lv_at hl 6 rfl) ?_
      refine lv_icmp_ge (tgt := 111) hx hb dX3_gather_26 (by decide) (fun c_7 => ?_) (fun c_7 => ?_)
      ·
        have ic_7 : p3.toInt ≤ L6_22.toInt := by first | exact (g_le rfl rfl).mp c_7 | (have h := mt (g_lt rfl rfl).mpr c_7; omega)
        clear c_7
        have hP9 := hP.sub (ws' := [(rh, .inr (3, G3 ra rsize_22)), ((ra 0), .inl (E 0, 60, .inl rf0_22)), ((ra 1), .inl (E 0, 60, .inl rf1_22)), (wh, .inr (7, G7 wa)), ((wa 0), .inl (E 0, 400, .inl wf0)), ((wa 1), .inl (E 0, 400, .inl wf1)), ((wa 2), .inl (E 0, 400, .inl wf2)), (oh, .inr (2, G2 oa osize)), ((oa 0), .inl (E 0, 60, .inl of0)), ((oa 1), .inl (E 0, 60, .inl of1)), ((oa 2), .inl (E 0, 60, .inl of2)), ((oa 3), .inl (E 0, 60, .inl of3)), ((oa 4), .inl (E 0, 60, .inl of4))]) [0, 1, 2, 3, 4, 5, 6, 7, 8, 9, 10, 11, 12] rfl
        have hD9 := hD.sub (ws' := [(rh, .inr (3, G3 ra rsize_22)), ((ra 0), .inl (E 0, 60, .inl rf0_22)), ((ra 1), .inl (E 0, 60, .inl rf1_22)), (wh, .inr (7, G7 wa)), ((wa 0), .inl (E 0, 400, .inl wf0)), ((wa 1), .inl (E 0, 400, .inl wf1)), ((wa 2), .inl (E 0, 400, .inl wf2)), (oh, .inr (2, G2 oa osize)), ((oa 0), .inl (E 0, 60, .inl of0)), ((oa 1), .inl (E 0, 60, .inl of1)), ((oa 2), .inl (E 0, 60, .inl of2)), ((oa 3), .inl (E 0, 60, .inl of3)), ((oa 4), .inl (E 0, 60, .inl of4))]) [0, 1, 2, 3, 4, 5, 6, 7, 8, 9, 10, 11, 12] (by decide) rfl
        exact W.vret hx hb hr (fun t ht hW => ⟨⟨(rf0_22, rf1_22, rsize_22), rfl, ⟨v_rf0_22, (by (try dsimp only); omega), (by have h9 := v1_22; rw [show (L6_22.toInt - p2.toInt).toNat = (p3.toInt - p2.toInt).toNat by omega] at h9; exact h9)⟩, by rw [ht]; exact hP9, hD9⟩, hS.F ht⟩) hS.2.2 dX3_gather_111
      ·
        have ic_7 : L6_22.toInt < p3.toInt := by first | exact (g_lt rfl rfl).mp c_7 | (have h := mt (g_le rfl rfl).mpr c_7; omega)
        clear c_7
        refine lv_aload_n hx hb dX3_gather_29 rfl (lv_at hl 2 rfl) ?_
        refine va_get (D := D) (ci := 3) (v := .int rsize_22) (C := RX3) (T := TX3) (N := 4) hx hb htb iX3 hown hK.1 hP 0 rfl rfl 3 (by decide) (htb _ k_66) (fun _ h9 => h9) rfl dX3_gather_30 ?_
        refine lv_bipush (v := 60) hx hb dX3_gather_33 (by decide) ?_
        refine lv_icmp_ge (tgt := 111) hx hb dX3_gather_35 (by decide) (fun c_8 => ?_) (fun c_8 => ?_)
        ·
          have ic_8 : 60 ≤ rsize_22.toInt := by first | exact (g_le t_60 rfl).mp c_8 | (have h := mt (g_lt rfl t_60).mpr c_8; omega)
          clear c_8
          have hP9 := hP.sub (ws' := [(rh, .inr (3, G3 ra rsize_22)), ((ra 0), .inl (E 0, 60, .inl rf0_22)), ((ra 1), .inl (E 0, 60, .inl rf1_22)), (wh, .inr (7, G7 wa)), ((wa 0), .inl (E 0, 400, .inl wf0)), ((wa 1), .inl (E 0, 400, .inl wf1)), ((wa 2), .inl (E 0, 400, .inl wf2)), (oh, .inr (2, G2 oa osize)), ((oa 0), .inl (E 0, 60, .inl of0)), ((oa 1), .inl (E 0, 60, .inl of1)), ((oa 2), .inl (E 0, 60, .inl of2)), ((oa 3), .inl (E 0, 60, .inl of3)), ((oa 4), .inl (E 0, 60, .inl of4))]) [0, 1, 2, 3, 4, 5, 6, 7, 8, 9, 10, 11, 12] rfl
          have hD9 := hD.sub (ws' := [(rh, .inr (3, G3 ra rsize_22)), ((ra 0), .inl (E 0, 60, .inl rf0_22)), ((ra 1), .inl (E 0, 60, .inl rf1_22)), (wh, .inr (7, G7 wa)), ((wa 0), .inl (E 0, 400, .inl wf0)), ((wa 1), .inl (E 0, 400, .inl wf1)), ((wa 2), .inl (E 0, 400, .inl wf2)), (oh, .inr (2, G2 oa osize)), ((oa 0), .inl (E 0, 60, .inl of0)), ((oa 1), .inl (E 0, 60, .inl of1)), ((oa 2), .inl (E 0, 60, .inl of2)), ((oa 3), .inl (E 0, 60, .inl of3)), ((oa 4), .inl (E 0, 60, .inl of4))]) [0, 1, 2, 3, 4, 5, 6, 7, 8, 9, 10, 11, 12] (by decide) rfl
          exact W.vret hx hb hr (fun t ht hW => ⟨⟨(rf0_22, rf1_22, rsize_22), rfl, ⟨v_rf0_22, (by (try dsimp only); omega), (by have h9 := v1_22; rw [show (L6_22.toInt - p2.toInt).toNat = (p3.toInt - p2.toInt).toNat by omega] at h9; exact h9)⟩, by rw [ht]; exact hP9, hD9⟩, hS.F ht⟩) hS.2.2 dX3_gather_111
        ·
          have ic_8 : rsize_22.toInt < 60 := by first | exact (g_lt rfl t_60).mp c_8 | (have h := mt (g_le t_60 rfl).mpr c_8; omega)
          clear c_8
          refine lv_aload_n hx hb dX3_gather_38 rfl (lv_at hl 3 rfl) ?_
          refine lv_iload hx hb dX3_gather_39 (lv_at hl 0 rfl) ?_
          refine lv_iconst (v := 1) hx hb dX3_gather_41 (by decide) ?_
          refine lv_iadd hx hb dX3_gather_42 ?_
          refine lv_topi (fun z_9 ez_9 => ?_)
          have jz_9 : z_9.toInt = L6_22.toInt + 1 := by rw [ez_9]; exact g_add rfl t_1 (by omega) (by omega)
          refine lv_aload_n hx hb dX3_gather_43 rfl (lv_at hl 4 rfl) ?_
          refine lv_iconst (v := (-1)) hx hb dX3_gather_44 (by decide) ?_
          refine callRV (rest := []) (As := [.int z_9, .ref oh, .int (-1)]) hx hb hml hown htb hK (g_X7_errorAsKnown l D E wh wa wf0 wf1 oh oa osize of0 of1 of2 of3 of4 z_9 (-1) (by (try dsimp only); omega)) ok_X7_errorAsKnown k_502 k_416 k_417 k_10 k_418 ⟨(Nat.le_of_ble_eq_true rfl), (Nat.le_of_ble_eq_true rfl)⟩ ⟨(Nat.le_of_ble_eq_true rfl), (Nat.le_of_ble_eq_true rfl)⟩ hl.1 (Nat.le_of_ble_eq_true rfl) rfl rfl dX3_gather_45 (hP.sub (ws' := [(wh, .inr (7, G7 wa)), ((wa 0), .inl (E 0, 400, .inl wf0)), ((wa 1), .inl (E 0, 400, .inl wf1)), (oh, .inr (2, G2 oa osize)), ((oa 0), .inl (E 0, 60, .inl of0)), ((oa 1), .inl (E 0, 60, .inl of1)), ((oa 2), .inl (E 0, 60, .inl of2)), ((oa 3), .inl (E 0, 60, .inl of3)), ((oa 4), .inl (E 0, 60, .inl of4))]) [3, 4, 5, 7, 8, 9, 10, 11, 12] rfl) rfl rfl 0 rfl (fun r_10 hw_11 => ?_)
          try simp only [t_m1] at hw_11
          refine lv_istore (lv' := [(7, .int r_10), (6, .int L6_22), (5, .int L5_22), (0, .ref rh), (1, .ref wh), (2, .ref oh), (3, .int p2), (4, .int p3)]) hx hb dX3_gather_48 hl (by decide) rfl (fun ls hl => ?_)
          refine lv_aload_n hx hb dX3_gather_50 rfl (lv_at hl 4 rfl) ?_
          refine lv_iload hx hb dX3_gather_51 (lv_at hl 1 rfl) ?_
          refine lv_iload hx hb dX3_gather_53 (lv_at hl 2 rfl) ?_
          refine lv_iload hx hb dX3_gather_55 (lv_at hl 0 rfl) ?_
          refine callRV (rest := []) (As := [.int L6_22, .int L5_22, .int r_10]) hx hb hml hown htb hK (g_X7_rateBetween l D E wh wa wf2 L6_22 L5_22 r_10 (by (try dsimp only); omega)) ok_X7_rateBetween k_503 k_435 k_436 k_10 k_437 ⟨(Nat.le_of_ble_eq_true rfl), (Nat.le_of_ble_eq_true rfl)⟩ ⟨(Nat.le_of_ble_eq_true rfl), (Nat.le_of_ble_eq_true rfl)⟩ hl.1 (Nat.le_of_ble_eq_true rfl) rfl rfl dX3_gather_57 (hP.sub (ws' := [(wh, .inr (7, G7 wa)), ((wa 2), .inl (E 0, 400, .inl wf2))]) [3, 6] rfl) rfl rfl 0 rfl (fun r_13 hw_14 => ?_)
          refine lv_istore (lv' := [(8, .int r_13), (7, .int r_10), (6, .int L6_22), (5, .int L5_22), (0, .ref rh), (1, .ref wh), (2, .ref oh), (3, .int p2), (4, .int p3)]) hx hb dX3_gather_60 hl (by decide) rfl (fun ls hl => ?_)
          refine lv_iload hx hb dX3_gather_62 (lv_at hl 0 rfl) ?_
          refine lv_ldc hx hb hown (htb _ k_504) dX3_gather_64 ?_
          refine lv_icmp_eq (tgt := 101) hx hb dX3_gather_66 (by decide) (fun c_16 => ?_) (fun c_16 => ?_)
          ·
            have ic_16 : r_13.toInt = -2000000000 := (g_eq rfl t_m2000000000).mp c_16
            clear c_16
            refine lv_iload hx hb dX3_gather_101 (lv_at hl 1 rfl) ?_
            refine lv_istore (lv' := [(5, .int r_10), (8, .int r_13), (7, .int r_10), (6, .int L6_22), (0, .ref rh), (1, .ref wh), (2, .ref oh), (3, .int p2), (4, .int p3)]) hx hb dX3_gather_103 hl (by decide) rfl (fun ls hl => ?_)
            obtain ⟨z_17, ez_17⟩ : ∃ y : Int32, y = L6_22 + 1 := ⟨_, rfl⟩
            have jz_17 : z_17.toInt = L6_22.toInt + 1 := by rw [ez_17]; exact g_add rfl t_1 (by omega) (by omega)
            refine lv_iinc (v := z_17) (lv' := [(6, .int z_17), (5, .int r_10), (8, .int r_13), (7, .int r_10), (0, .ref rh), (1, .ref wh), (2, .ref oh), (3, .int p2), (4, .int p3)]) hx hb dX3_gather_105 hl (k := 3) rfl (by rw [ez_17]; rfl) (by decide) rfl (fun ls hl => ?_)
            refine lv_goto (tgt := 22) hx hb dX3_gather_108 (by decide) ?_
            exact ih_5 z_17 r_10 rsize_22 rf0_22 rf1_22 _ _ _ (by (try dsimp only); omega) (by (try dsimp only); omega) v_rf0_22 (by (try dsimp only); omega) (by subst ez_9; have hs := rate_step (R := (rXn wf0 wf1 wf2 of0 of1 of2 of3 of4 osize)) (p := p2) (L := L6_22) (z := z_17) (by omega) (by omega) jz_17; have hR : (rXn wf0 wf1 wf2 of0 of1 of2 of3 of4 osize) L6_22 = r_13 := (by unfold rXn rX; rw [← v2_22, ← hw_11, ← hw_14]); rw [hs, hR, if_pos (by omega)]; exact v1_22) (by rw [hw_11]; congr 1; subst_vars; rfl) hP hD hS (lv_sub hl [0, 1, 4, 5, 6, 7, 8] rfl)
          ·
            have ic_16 : r_13.toInt ≠ -2000000000 := mt (g_eq rfl t_m2000000000).mpr c_16
            clear c_16
            refine lv_aload_n hx hb dX3_gather_69 rfl (lv_at hl 4 rfl) ?_
            refine va_get (D := D) (ci := 3) (v := .ref (ra 0)) (C := RX3) (T := TX3) (N := 4) hx hb htb iX3 hown hK.1 hP 0 rfl rfl 0 (by decide) (htb _ k_61) (fun _ h9 => h9) rfl dX3_gather_70 ?_
            refine lv_aload_n hx hb dX3_gather_73 rfl (lv_at hl 4 rfl) ?_
            refine va_get (D := D) (ci := 3) (v := .int rsize_22) (C := RX3) (T := TX3) (N := 4) hx hb htb iX3 hown hK.1 hP 0 rfl rfl 3 (by decide) (htb _ k_66) (fun _ h9 => h9) rfl dX3_gather_74 ?_
            refine lv_iload hx hb dX3_gather_77 (lv_at hl 2 rfl) ?_
            refine va_iast hx hb hK.1 hP hD hS 1 0 rfl rfl (g_in rfl (by omega) (by omega)) dX3_gather_79 (fun H locs hP hD hS => ?_)
            have hP : va_P D vwCl [(rh, .inr (3, G3 ra rsize_22)), ((ra 0), .inl (E 0, 60, .inl (upd rf0_22 (rsize_22 : Int32).toNatClampNeg L6_22))), ((ra 1), .inl (E 0, 60, .inl rf1_22)), (wh, .inr (7, G7 wa)), ((wa 0), .inl (E 0, 400, .inl wf0)), ((wa 1), .inl (E 0, 400, .inl wf1)), ((wa 2), .inl (E 0, 400, .inl wf2)), (oh, .inr (2, G2 oa osize)), ((oa 0), .inl (E 0, 60, .inl of0)), ((oa 1), .inl (E 0, 60, .inl of1)), ((oa 2), .inl (E 0, 60, .inl of2)), ((oa 3), .inl (E 0, 60, .inl of3)), ((oa 4), .inl (E 0, 60, .inl of4))] H := hP
            have hD := toW hP hD rfl
            have hv_18 : ∀ k : Nat, k < 60 → 0 ≤ ((upd rf0_22 (rsize_22 : Int32).toNatClampNeg L6_22) k).toInt ∧ ((upd rf0_22 (rsize_22 : Int32).toNatClampNeg L6_22) k).toInt ≤ 399 := upd_r v_rf0_22 (by (try dsimp only); omega)
            refine lv_aload_n hx hb dX3_gather_80 rfl (lv_at hl 4 rfl) ?_
            refine va_get (D := D) (ci := 3) (v := .ref (ra 1)) (C := RX3) (T := TX3) (N := 4) hx hb htb iX3 hown hK.1 hP 0 rfl rfl 1 (by decide) (htb _ k_63) (fun _ h9 => h9) rfl dX3_gather_81 ?_
            refine lv_aload_n hx hb dX3_gather_84 rfl (lv_at hl 4 rfl) ?_
            refine va_get (D := D) (ci := 3) (v := .int rsize_22) (C := RX3) (T := TX3) (N := 4) hx hb htb iX3 hown hK.1 hP 0 rfl rfl 3 (by decide) (htb _ k_66) (fun _ h9 => h9) rfl dX3_gather_85 ?_
            refine lv_iload hx hb dX3_gather_88 (lv_at hl 0 rfl) ?_
            refine va_iast hx hb hK.1 hP hD hS 2 0 rfl rfl (g_in rfl (by omega) (by omega)) dX3_gather_90 (fun H locs hP hD hS => ?_)
            have hP : va_P D vwCl [(rh, .inr (3, G3 ra rsize_22)), ((ra 0), .inl (E 0, 60, .inl (upd rf0_22 (rsize_22 : Int32).toNatClampNeg L6_22))), ((ra 1), .inl (E 0, 60, .inl (upd rf1_22 (rsize_22 : Int32).toNatClampNeg r_13))), (wh, .inr (7, G7 wa)), ((wa 0), .inl (E 0, 400, .inl wf0)), ((wa 1), .inl (E 0, 400, .inl wf1)), ((wa 2), .inl (E 0, 400, .inl wf2)), (oh, .inr (2, G2 oa osize)), ((oa 0), .inl (E 0, 60, .inl of0)), ((oa 1), .inl (E 0, 60, .inl of1)), ((oa 2), .inl (E 0, 60, .inl of2)), ((oa 3), .inl (E 0, 60, .inl of3)), ((oa 4), .inl (E 0, 60, .inl of4))] H := hP
            have hD := toW hP hD rfl
            refine lv_aload_n hx hb dX3_gather_91 rfl (lv_at hl 4 rfl) ?_
            refine lv_dup hx hb dX3_gather_92 rfl ?_
            refine va_get (D := D) (ci := 3) (v := .int rsize_22) (C := RX3) (T := TX3) (N := 4) hx hb htb iX3 hown hK.1 hP 0 rfl rfl 3 (by decide) (htb _ k_66) (fun _ h9 => h9) rfl dX3_gather_93 ?_
            refine lv_iconst (v := 1) hx hb dX3_gather_96 (by decide) ?_
            refine lv_iadd hx hb dX3_gather_97 ?_
            refine lv_topi (fun z_19 ez_19 => ?_)
            have jz_19 : z_19.toInt = rsize_22.toInt + 1 := by rw [ez_19]; exact g_add rfl t_1 (by omega) (by omega)
            refine va_put (D := D) (ci := 3) (v := .int z_19) (ty := .int) (C := RX3) (T := TX3) (N := 4) hx hb htb iX3 tyX3 tyX3_ok nmX3 hown hK.1 hP hD hS 0 rfl rfl 3 (by decide) (htb _ k_66) (fun _ h9 => h9) rfl (by decide +kernel) rfl rfl (Nat.le_of_ble_eq_true rfl) dX3_gather_98 (fun H locs hP hD hS => ?_)
            have hP : va_P D vwCl [(rh, .inr (3, G3 ra z_19)), ((ra 0), .inl (E 0, 60, .inl (upd rf0_22 (rsize_22 : Int32).toNatClampNeg L6_22))), ((ra 1), .inl (E 0, 60, .inl (upd rf1_22 (rsize_22 : Int32).toNatClampNeg r_13))), (wh, .inr (7, G7 wa)), ((wa 0), .inl (E 0, 400, .inl wf0)), ((wa 1), .inl (E 0, 400, .inl wf1)), ((wa 2), .inl (E 0, 400, .inl wf2)), (oh, .inr (2, G2 oa osize)), ((oa 0), .inl (E 0, 60, .inl of0)), ((oa 1), .inl (E 0, 60, .inl of1)), ((oa 2), .inl (E 0, 60, .inl of2)), ((oa 3), .inl (E 0, 60, .inl of3)), ((oa 4), .inl (E 0, 60, .inl of4))] H := hP
            have hD := toW hP hD rfl
            refine lv_iload hx hb dX3_gather_101 (lv_at hl 1 rfl) ?_
            refine lv_istore (lv' := [(5, .int r_10), (8, .int r_13), (7, .int r_10), (6, .int L6_22), (0, .ref rh), (1, .ref wh), (2, .ref oh), (3, .int p2), (4, .int p3)]) hx hb dX3_gather_103 hl (by decide) rfl (fun ls hl => ?_)
            obtain ⟨z_20, ez_20⟩ : ∃ y : Int32, y = L6_22 + 1 := ⟨_, rfl⟩
            have jz_20 : z_20.toInt = L6_22.toInt + 1 := by rw [ez_20]; exact g_add rfl t_1 (by omega) (by omega)
            refine lv_iinc (v := z_20) (lv' := [(6, .int z_20), (5, .int r_10), (8, .int r_13), (7, .int r_10), (0, .ref rh), (1, .ref wh), (2, .ref oh), (3, .int p2), (4, .int p3)]) hx hb dX3_gather_105 hl (k := 3) rfl (by rw [ez_20]; rfl) (by decide) rfl (fun ls hl => ?_)
            refine lv_goto (tgt := 22) hx hb dX3_gather_108 (by decide) ?_
            exact ih_5 z_20 r_10 z_19 (upd rf0_22 (rsize_22 : Int32).toNatClampNeg L6_22) (upd rf1_22 (rsize_22 : Int32).toNatClampNeg r_13) _ _ _ (by (try dsimp only); omega) (by (try dsimp only); omega) hv_18 (by (try dsimp only); omega) (by subst ez_9; have hs := rate_step (R := (rXn wf0 wf1 wf2 of0 of1 of2 of3 of4 osize)) (p := p2) (L := L6_22) (z := z_20) (by omega) (by omega) jz_20; have hR : (rXn wf0 wf1 wf2 of0 of1 of2 of3 of4 osize) L6_22 = r_13 := (by unfold rXn rX; rw [← v2_22, ← hw_11, ← hw_14]); rw [hs, hR, if_neg (by omega)]; exact HOLDS_s v1_22 (by omega) (by omega)) (by rw [hw_11]; congr 1; subst_vars; rfl) hP hD hS (lv_sub hl [0, 1, 4, 5, 6, 7, 8] rfl)
  exact loop_4 401 p2 r_1 0 rf0 rf1 _ _ _ (by have h0 := t_0; (try dsimp only); omega) (by have h0 := t_0; (try dsimp only); omega) hr_r0 (by have h0 := t_0; (try dsimp only); omega) (by rw [show (p2.toInt - p2.toInt).toNat = 0 by omega]; exact HOLDS_0 (by decide)) hw_2 hP hD hS (lv_sub hl [0, 1, 2, 3, 4, 5, 6] rfl)
