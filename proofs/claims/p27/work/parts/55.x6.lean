set_option maxHeartbeats 4000000 in
set_option maxRecDepth 100000 in
theorem g_J9_floorDiv_7cf53 (l : Launch) (D : va_G) (E : Nat → Nat) (p0 : Int32) (p1 : Int32) (n0 : p1.toInt ≠ 0) : Met l yJ9_floorDiv_7cf53 (wl yJ9_floorDiv_7cf53 cJ9_floorDiv_7cf53 3 (some .int)) (RM 0 0 0) (rd_P D E [.int p0, .int p1] ([] : va_W)) (rd_Q (fun r => (0 < p1.toInt → r.toInt = p0.toInt / p1.toInt))) 0 0 (fun _ => False) := by
  refine met_for (cc := cJ9_floorDiv_7cf53) (maxL := 3) (ret := (some .int)) (by decide +kernel) rfl ?_
  intro p e s m args below meth c s₁ B hml hv
  obtain ⟨rfl, hP, hK⟩ := hv
  have hx := B.exec; have hb := B.bytes; have hr := B.returns
  have hts := atoms_spec (ws := wl yJ9_floorDiv_7cf53 cJ9_floorDiv_7cf53 3 (some .int)) B.pre
  have htb : ∀ w ∈ tb, w.before _ s = true := fun w h => hts w (List.mem_cons_of_mem _ h)
  have hown : s.vm.findClass RJ9 = some m.cls := findClass_of_methodNamed B.named
  have hlocks := B.notSynchronized
  have hP : va_P D vwCl ([] : va_W) s.heap := hP
  have hl := lv_entry ([.int p0, .int p1]) (n := 3) (Nat.le_of_ble_eq_true rfl)
  rw [lg_entry_eq]
  generalize (lg_sl ([.int p0, .int p1]) ++ List.replicate (3 - (lg_sl ([.int p0, .int p1])).length) Slot.unset).toArray = ls at hl ⊢
  have hl : lv_has ls 3 [(0, .int p0), (1, .int p1)] := hl
  have lo_p0 := i_lo p0; have hi_p0 := i_hi p0
  have lo_p1 := i_lo p1; have hi_p1 := i_hi p1
  refine lv_iload_n hx hb dJ9_floorDiv_7cf53_0 rfl (lv_at hl 0 rfl) ?_
  refine lv_iload_n hx hb dJ9_floorDiv_7cf53_1 rfl (lv_at hl 1 rfl) ?_
  refine lv_idiv hx hb dJ9_floorDiv_7cf53_2 (fun h => absurd ((g_eq rfl t_0).mp h) (by omega)) ?_
  refine lv_topi (fun z_1 ez_1 => ?_)
  refine lv_istore_n (lv' := [(2, .int z_1), (0, .int p0), (1, .int p1)]) hx hb dJ9_floorDiv_7cf53_3 rfl hl (by decide) rfl (fun ls hl => ?_)
  refine lv_iload_n hx hb dJ9_floorDiv_7cf53_4 rfl (lv_at hl 1 rfl) ?_
  refine lv_iload_n hx hb dJ9_floorDiv_7cf53_5 rfl (lv_at hl 2 rfl) ?_
  refine lv_ixor hx hb dJ9_floorDiv_7cf53_6 ?_
  refine lv_topi (fun z_2 ez_2 => ?_)
  refine lv_if_ge (tgt := 21) hx hb dJ9_floorDiv_7cf53_7 (by decide) (fun c_3 => ?_) (fun c_3 => ?_)
  ·
    have ic_3 : 0 ≤ z_2.toInt := by first | exact (g_le t_0 rfl).mp c_3 | (have h := mt (g_lt rfl t_0).mpr c_3; omega)
    clear c_3
    refine lv_iload_n hx hb dJ9_floorDiv_7cf53_21 rfl (lv_at hl 0 rfl) ?_
    exact W.iret (v := z_1) hx hb hr (fun t ht hW => ⟨z_1, rfl, (fun hy => by subst_vars; first | exact fdv_a hy (by assumption) | exact fdv_b hy (by assumption) | exact fdv_c hy (by assumption) (by assumption)), ht⟩) (fun q h => by cases h) dJ9_floorDiv_7cf53_22
  ·
    have ic_3 : z_2.toInt < 0 := by first | exact (g_lt rfl t_0).mp c_3 | (have h := mt (g_le t_0 rfl).mpr c_3; omega)
    clear c_3
    refine lv_iload_n hx hb dJ9_floorDiv_7cf53_10 rfl (lv_at hl 0 rfl) ?_
    refine lv_iload_n hx hb dJ9_floorDiv_7cf53_11 rfl (lv_at hl 2 rfl) ?_
    refine lv_imul hx hb dJ9_floorDiv_7cf53_12 ?_
    refine lv_topi (fun z_4 ez_4 => ?_)
    refine lv_iload_n hx hb dJ9_floorDiv_7cf53_13 rfl (lv_at hl 1 rfl) ?_
    refine lv_icmp_eq (tgt := 21) hx hb dJ9_floorDiv_7cf53_14 (by decide) (fun c_5 => ?_) (fun c_5 => ?_)
    ·
      have ic_5 : z_4.toInt = p0.toInt := (g_eq rfl rfl).mp c_5
      clear c_5
      refine lv_iload_n hx hb dJ9_floorDiv_7cf53_21 rfl (lv_at hl 0 rfl) ?_
      exact W.iret (v := z_1) hx hb hr (fun t ht hW => ⟨z_1, rfl, (fun hy => by subst_vars; first | exact fdv_a hy (by assumption) | exact fdv_b hy (by assumption) | exact fdv_c hy (by assumption) (by assumption)), ht⟩) (fun q h => by cases h) dJ9_floorDiv_7cf53_22
    ·
      have ic_5 : z_4.toInt ≠ p0.toInt := mt (g_eq rfl rfl).mpr c_5
      clear c_5
      refine lv_iload_n hx hb dJ9_floorDiv_7cf53_17 rfl (lv_at hl 0 rfl) ?_
      refine lv_iconst (v := 1) hx hb dJ9_floorDiv_7cf53_18 (by decide) ?_
      refine lv_isub hx hb dJ9_floorDiv_7cf53_19 ?_
      refine lv_topi (fun z_6 ez_6 => ?_)
      exact W.iret (v := z_6) hx hb hr (fun t ht hW => ⟨z_6, rfl, (fun hy => by subst_vars; first | exact fdv_a hy (by assumption) | exact fdv_b hy (by assumption) | exact fdv_c hy (by assumption) (by assumption)), ht⟩) (fun q h => by cases h) dJ9_floorDiv_7cf53_20
set_option maxHeartbeats 4000000 in
set_option maxRecDepth 100000 in
theorem g_J9_floorDiv_f86c9 (l : Launch) (D : va_G) (E : Nat → Nat) (p0 : Int64) (p1 : Int64) (n0 : ¬ p1 = 0) : Met l yJ9_floorDiv_f86c9 (wl yJ9_floorDiv_f86c9 cJ9_floorDiv_f86c9 6 (some .long)) (RM 0 0 0) (rd_P D E [.long p0, .long p1] ([] : va_W)) (rl_Q (fun r => (r = fdvL p0 p1))) 0 0 (fun _ => False) := by
  refine met_for (cc := cJ9_floorDiv_f86c9) (maxL := 6) (ret := (some .long)) (by decide +kernel) rfl ?_
  intro p e s m args below meth c s₁ B hml hv
  obtain ⟨rfl, hP, hK⟩ := hv
  have hx := B.exec; have hb := B.bytes; have hr := B.returns
  have hts := atoms_spec (ws := wl yJ9_floorDiv_f86c9 cJ9_floorDiv_f86c9 6 (some .long)) B.pre
  have htb : ∀ w ∈ tb, w.before _ s = true := fun w h => hts w (List.mem_cons_of_mem _ h)
  have hown : s.vm.findClass RJ9 = some m.cls := findClass_of_methodNamed B.named
  have hlocks := B.notSynchronized
  have hP : va_P D vwCl ([] : va_W) s.heap := hP
  have hl := lv_entry ([.long p0, .long p1]) (n := 6) (Nat.le_of_ble_eq_true rfl)
  rw [lg_entry_eq]
  generalize (lg_sl ([.long p0, .long p1]) ++ List.replicate (6 - (lg_sl ([.long p0, .long p1])).length) Slot.unset).toArray = ls at hl ⊢
  have hl : lv_has ls 6 [(0, .long p0), (2, .long p1)] := hl
  refine lv_lload_n hx hb dJ9_floorDiv_f86c9_0 rfl (lv_at hl 0 rfl) ?_
  refine lv_lload_n hx hb dJ9_floorDiv_f86c9_1 rfl (lv_at hl 1 rfl) ?_
  refine lv_ldiv hx hb dJ9_floorDiv_f86c9_2 (by assumption) ?_
  refine lv_topl (fun z_1 ez_1 => ?_)
  refine lv_lstore (lv' := [(4, .long z_1), (0, .long p0), (2, .long p1)]) hx hb dJ9_floorDiv_f86c9_3 hl (by decide) rfl (fun ls hl => ?_)
  refine lv_lload_n hx hb dJ9_floorDiv_f86c9_5 rfl (lv_at hl 1 rfl) ?_
  refine lv_lload_n hx hb dJ9_floorDiv_f86c9_6 rfl (lv_at hl 2 rfl) ?_
  refine lv_lxor hx hb dJ9_floorDiv_f86c9_7 ?_
  refine lv_topl (fun z_2 ez_2 => ?_)
  refine lv_lconst (v := 0) hx hb dJ9_floorDiv_f86c9_8 (by decide) ?_
  refine W.lcmp hx hb dJ9_floorDiv_f86c9_9 ?_
  refine lv_topi (fun z_3 ez_3 => ?_)
  refine lv_if_ge (tgt := 27) hx hb dJ9_floorDiv_f86c9_10 (by decide) (fun c_4 => ?_) (fun c_4 => ?_)
  ·
    have lc_5I : (0 : Int64).toInt ≤ (z_2 : Int64).toInt := lc_geI (by rw [← ez_3]; first | exact Or.inl c_4 | exact Or.inr c_4)
    refine lv_lload hx hb dJ9_floorDiv_f86c9_27 (lv_at hl 0 rfl) ?_
    exact W.lret (v := z_1) hx hb hr (fun t ht hW => ⟨z_1, rfl, (by unfold fdvL; rw [if_pos (by have h0 : (0 : Int64).toInt = 0 := (by decide); rw [← ez_2]; have h9 := lc_5I; omega)]; exact ez_1), ht⟩) (fun q h => by cases h) dJ9_floorDiv_f86c9_29
  ·
    have lc_6I : (z_2 : Int64).toInt < (0 : Int64).toInt := lc_ltI (by rw [← ez_3]; first | exact Or.inl c_4 | exact Or.inr c_4)
    refine lv_lload hx hb dJ9_floorDiv_f86c9_13 (lv_at hl 0 rfl) ?_
    refine lv_lload_n hx hb dJ9_floorDiv_f86c9_15 rfl (lv_at hl 2 rfl) ?_
    refine lv_lmul hx hb dJ9_floorDiv_f86c9_16 ?_
    refine lv_topl (fun z_7 ez_7 => ?_)
    refine lv_lload_n hx hb dJ9_floorDiv_f86c9_17 rfl (lv_at hl 1 rfl) ?_
    refine W.lcmp hx hb dJ9_floorDiv_f86c9_18 ?_
    refine lv_topi (fun z_8 ez_8 => ?_)
    refine lv_if_eq (tgt := 27) hx hb dJ9_floorDiv_f86c9_19 (by decide) (fun c_9 => ?_) (fun c_9 => ?_)
    ·
      have lc_10 : (z_7 : Int64) = (p0 : Int64) := lc_eq (by rw [← ez_8]; exact c_9)
      refine lv_lload hx hb dJ9_floorDiv_f86c9_27 (lv_at hl 0 rfl) ?_
      exact W.lret (v := z_1) hx hb hr (fun t ht hW => ⟨z_1, rfl, (by unfold fdvL; rw [if_neg (by have h0 : (0 : Int64).toInt = 0 := (by decide); rw [← ez_2]; have h9 := lc_6I; omega), if_pos (by rw [← ez_1, ← ez_7]; exact lc_10)]; exact ez_1), ht⟩) (fun q h => by cases h) dJ9_floorDiv_f86c9_29
    ·
      have lc_11 : ¬ (z_7 : Int64) = (p0 : Int64) := lc_ne (by rw [← ez_8]; exact c_9)
      refine lv_lload hx hb dJ9_floorDiv_f86c9_22 (lv_at hl 0 rfl) ?_
      refine lv_lconst (v := 1) hx hb dJ9_floorDiv_f86c9_24 (by decide) ?_
      refine lv_lsub hx hb dJ9_floorDiv_f86c9_25 ?_
      refine lv_topl (fun z_12 ez_12 => ?_)
      exact W.lret (v := z_12) hx hb hr (fun t ht hW => ⟨z_12, rfl, (by unfold fdvL; rw [if_neg (by have h0 : (0 : Int64).toInt = 0 := (by decide); rw [← ez_2]; have h9 := lc_6I; omega), if_neg (by rw [← ez_1, ← ez_7]; exact lc_11), ez_12, ez_1]), ht⟩) (fun q h => by cases h) dJ9_floorDiv_f86c9_26
set_option maxHeartbeats 4000000 in
set_option maxRecDepth 100000 in
theorem g_J9_floorMod_f86c9 (l : Launch) (D : va_G) (E : Nat → Nat) (p0 : Int64) (p1 : Int64) (n0 : ¬ p1 = 0) : Met l yJ9_floorMod_f86c9 (wl yJ9_floorMod_f86c9 cJ9_floorMod_f86c9 6 (some .long)) (RM 0 0 0) (rd_P D E [.long p0, .long p1] ([] : va_W)) (rl_Q (fun r => (r = fmdL p0 p1))) 0 0 (fun _ => False) := by
  refine met_for (cc := cJ9_floorMod_f86c9) (maxL := 6) (ret := (some .long)) (by decide +kernel) rfl ?_
  intro p e s m args below meth c s₁ B hml hv
  obtain ⟨rfl, hP, hK⟩ := hv
  have hx := B.exec; have hb := B.bytes; have hr := B.returns
  have hts := atoms_spec (ws := wl yJ9_floorMod_f86c9 cJ9_floorMod_f86c9 6 (some .long)) B.pre
  have htb : ∀ w ∈ tb, w.before _ s = true := fun w h => hts w (List.mem_cons_of_mem _ h)
  have hown : s.vm.findClass RJ9 = some m.cls := findClass_of_methodNamed B.named
  have hlocks := B.notSynchronized
  have hP : va_P D vwCl ([] : va_W) s.heap := hP
  have hl := lv_entry ([.long p0, .long p1]) (n := 6) (Nat.le_of_ble_eq_true rfl)
  rw [lg_entry_eq]
  generalize (lg_sl ([.long p0, .long p1]) ++ List.replicate (6 - (lg_sl ([.long p0, .long p1])).length) Slot.unset).toArray = ls at hl ⊢
  have hl : lv_has ls 6 [(0, .long p0), (2, .long p1)] := hl
  refine lv_lload_n hx hb dJ9_floorMod_f86c9_0 rfl (lv_at hl 0 rfl) ?_
  refine lv_lload_n hx hb dJ9_floorMod_f86c9_1 rfl (lv_at hl 1 rfl) ?_
  refine lv_lrem hx hb dJ9_floorMod_f86c9_2 (by assumption) ?_
  refine lv_topl (fun z_1 ez_1 => ?_)
  refine lv_lstore (lv' := [(4, .long z_1), (0, .long p0), (2, .long p1)]) hx hb dJ9_floorMod_f86c9_3 hl (by decide) rfl (fun ls hl => ?_)
  refine lv_lload_n hx hb dJ9_floorMod_f86c9_5 rfl (lv_at hl 1 rfl) ?_
  refine lv_lload_n hx hb dJ9_floorMod_f86c9_6 rfl (lv_at hl 2 rfl) ?_
  refine lv_lxor hx hb dJ9_floorMod_f86c9_7 ?_
  refine lv_topl (fun z_2 ez_2 => ?_)
  refine lv_lconst (v := 0) hx hb dJ9_floorMod_f86c9_8 (by decide) ?_
  refine W.lcmp hx hb dJ9_floorMod_f86c9_9 ?_
  refine lv_topi (fun z_3 ez_3 => ?_)
  refine lv_if_ge (tgt := 25) hx hb dJ9_floorMod_f86c9_10 (by decide) (fun c_4 => ?_) (fun c_4 => ?_)
  ·
    have lc_5I : (0 : Int64).toInt ≤ (z_2 : Int64).toInt := lc_geI (by rw [← ez_3]; first | exact Or.inl c_4 | exact Or.inr c_4)
    refine lv_lload hx hb dJ9_floorMod_f86c9_25 (lv_at hl 0 rfl) ?_
    exact W.lret (v := z_1) hx hb hr (fun t ht hW => ⟨z_1, rfl, (by unfold fmdL; rw [if_pos (by have h0 : (0 : Int64).toInt = 0 := (by decide); rw [← ez_2]; have h9 := lc_5I; omega)]; exact ez_1), ht⟩) (fun q h => by cases h) dJ9_floorMod_f86c9_27
  ·
    have lc_6I : (z_2 : Int64).toInt < (0 : Int64).toInt := lc_ltI (by rw [← ez_3]; first | exact Or.inl c_4 | exact Or.inr c_4)
    refine lv_lload hx hb dJ9_floorMod_f86c9_13 (lv_at hl 0 rfl) ?_
    refine lv_lconst (v := 0) hx hb dJ9_floorMod_f86c9_15 (by decide) ?_
    refine W.lcmp hx hb dJ9_floorMod_f86c9_16 ?_
    refine lv_topi (fun z_7 ez_7 => ?_)
    refine lv_if_eq (tgt := 25) hx hb dJ9_floorMod_f86c9_17 (by decide) (fun c_8 => ?_) (fun c_8 => ?_)
    ·
      have lc_9 : (z_1 : Int64) = (0 : Int64) := lc_eq (by rw [← ez_7]; exact c_8)
      refine lv_lload hx hb dJ9_floorMod_f86c9_25 (lv_at hl 0 rfl) ?_
      exact W.lret (v := z_1) hx hb hr (fun t ht hW => ⟨z_1, rfl, (by unfold fmdL; rw [if_neg (by have h0 : (0 : Int64).toInt = 0 := (by decide); rw [← ez_2]; have h9 := lc_6I; omega), if_pos (by rw [← ez_1]; exact lc_9)]; exact ez_1), ht⟩) (fun q h => by cases h) dJ9_floorMod_f86c9_27
    ·
      have lc_10 : ¬ (z_1 : Int64) = (0 : Int64) := lc_ne (by rw [← ez_7]; exact c_8)
      refine lv_lload hx hb dJ9_floorMod_f86c9_20 (lv_at hl 0 rfl) ?_
      refine lv_lload_n hx hb dJ9_floorMod_f86c9_22 rfl (lv_at hl 2 rfl) ?_
      refine lv_ladd hx hb dJ9_floorMod_f86c9_23 ?_
      refine lv_topl (fun z_11 ez_11 => ?_)
      exact W.lret (v := z_11) hx hb hr (fun t ht hW => ⟨z_11, rfl, (by unfold fmdL; rw [if_neg (by have h0 : (0 : Int64).toInt = 0 := (by decide); rw [← ez_2]; have h9 := lc_6I; omega), if_neg (by rw [← ez_1]; exact lc_10), ez_11, ez_1]), ht⟩) (fun q h => by cases h) dJ9_floorMod_f86c9_24
set_option maxHeartbeats 4000000 in
set_option maxRecDepth 100000 in
theorem g_J9_abs_067f4 (l : Launch) (D : va_G) (E : Nat → Nat) (p0 : Int64)  : Met l yJ9_abs_067f4 (wl yJ9_abs_067f4 cJ9_abs_067f4 2 (some .long)) (RM 0 0 0) (rd_P D E [.long p0] ([] : va_W)) (rl_Q (fun r => (r = absL p0))) 0 0 (fun _ => False) := by
  refine met_for (cc := cJ9_abs_067f4) (maxL := 2) (ret := (some .long)) (by decide +kernel) rfl ?_
  intro p e s m args below meth c s₁ B hml hv
  obtain ⟨rfl, hP, hK⟩ := hv
  have hx := B.exec; have hb := B.bytes; have hr := B.returns
  have hts := atoms_spec (ws := wl yJ9_abs_067f4 cJ9_abs_067f4 2 (some .long)) B.pre
  have htb : ∀ w ∈ tb, w.before _ s = true := fun w h => hts w (List.mem_cons_of_mem _ h)
  have hown : s.vm.findClass RJ9 = some m.cls := findClass_of_methodNamed B.named
  have hlocks := B.notSynchronized
  have hP : va_P D vwCl ([] : va_W) s.heap := hP
  have hl := lv_entry ([.long p0]) (n := 2) (Nat.le_of_ble_eq_true rfl)
  rw [lg_entry_eq]
  generalize (lg_sl ([.long p0]) ++ List.replicate (2 - (lg_sl ([.long p0])).length) Slot.unset).toArray = ls at hl ⊢
  have hl : lv_has ls 2 [(0, .long p0)] := hl
  refine lv_lload_n hx hb dJ9_abs_067f4_0 rfl (lv_at hl 0 rfl) ?_
  refine lv_lconst (v := 0) hx hb dJ9_abs_067f4_1 (by decide) ?_
  refine W.lcmp hx hb dJ9_abs_067f4_2 ?_
  refine lv_topi (fun z_1 ez_1 => ?_)
  refine lv_if_ge (tgt := 11) hx hb dJ9_abs_067f4_3 (by decide) (fun c_2 => ?_) (fun c_2 => ?_)
  ·
    have lc_3I : (0 : Int64).toInt ≤ (p0 : Int64).toInt := lc_geI (by rw [← ez_1]; first | exact Or.inl c_2 | exact Or.inr c_2)
    refine lv_lload_n hx hb dJ9_abs_067f4_11 rfl (lv_at hl 0 rfl) ?_
    exact W.lret (v := p0) hx hb hr (fun t ht hW => ⟨p0, rfl, (by unfold absL; rw [if_neg (by have h0 : (0 : Int64).toInt = 0 := (by decide); have h9 := lc_3I; omega)]), ht⟩) (fun q h => by cases h) dJ9_abs_067f4_12
  ·
    have lc_4I : (p0 : Int64).toInt < (0 : Int64).toInt := lc_ltI (by rw [← ez_1]; first | exact Or.inl c_2 | exact Or.inr c_2)
    refine lv_lload_n hx hb dJ9_abs_067f4_6 rfl (lv_at hl 0 rfl) ?_
    refine lv_lneg hx hb dJ9_abs_067f4_7 ?_
    refine lv_topl (fun z_5 ez_5 => ?_)
    refine lv_goto (tgt := 12) hx hb dJ9_abs_067f4_8 (by decide) ?_
    exact W.lret (v := z_5) hx hb hr (fun t ht hW => ⟨z_5, rfl, (by unfold absL; rw [if_pos (by have h0 : (0 : Int64).toInt = 0 := (by decide); have h9 := lc_4I; omega)]; exact ez_5), ht⟩) (fun q h => by cases h) dJ9_abs_067f4_12
set_option maxHeartbeats 4000000 in
set_option maxRecDepth 100000 in
theorem g_X5_timeOf (l : Launch) (D : va_G) (E : Nat → Nat) (yh : Nat) (ya : Nat → Nat) (ysights : Int32) (ystage : Int32) (ysailed : Int32) (yvoyage : Int32) (yf1 : Nat → Int32) (yf2 : Nat → Int32) (yf4 : Nat → Int32) (yf5 : Nat → Int32) (yf6 : Nat → Int32) (p0 : Int32) (p1 : Int32) (hi_y : (0 ≤ ysights.toInt ∧ ysights.toInt ≤ 40)) : Met l yX5_timeOf (wl yX5_timeOf cX5_timeOf 5 (some .int)) (RM 2 0 0) (rd_P D E [.ref yh, .int p0, .int p1] [(yh, .inr (5, G5 ya ysights ystage ysailed yvoyage)), ((ya 1), .inl (E 0, 3, .inl yf1)), ((ya 2), .inl (E 0, 3, .inl yf2)), ((ya 4), .inl (E 0, 3, .inl yf4)), ((ya 5), .inl (E 0, 40, .inl yf5)), ((ya 6), .inl (E 0, 120, .inl yf6))]) (rd_Q (fun r => (((0 ≤ p0.toInt ∧ p0.toInt < ysights.toInt ∧ 0 ≤ p1.toInt ∧ p1.toInt ≤ 2) ∧ r = tmX ystage yvoyage ysailed yf1 yf2 yf4 yf5 yf6 p0 p1) ∨ (¬ (0 ≤ p0.toInt ∧ p0.toInt < ysights.toInt ∧ 0 ≤ p1.toInt ∧ p1.toInt ≤ 2) ∧ r.toInt = 0)))) 0 0 (fun _ => False) := by
  refine Met.ofW (cc := cX5_timeOf) (maxL := 5) (ret := (some .int)) (by decide) rfl ?_
  intro p e s m args below meth c s₁ B hml hv
  obtain ⟨rfl, hP, hK⟩ := hv
  have hx := B.exec; have hb := B.bytes; have hr := B.returns
  have hts := atoms_spec (ws := wl yX5_timeOf cX5_timeOf 5 (some .int)) B.pre
  have htb : ∀ w ∈ tb, w.before _ s = true := fun w h => hts w (List.mem_cons_of_mem _ h)
  have hown : s.vm.findClass RX5 = some m.cls := findClass_of_methodNamed B.named
  have hlocks := B.notSynchronized
  have hP : va_P D vwCl [(yh, .inr (5, G5 ya ysights ystage ysailed yvoyage)), ((ya 1), .inl (E 0, 3, .inl yf1)), ((ya 2), .inl (E 0, 3, .inl yf2)), ((ya 4), .inl (E 0, 3, .inl yf4)), ((ya 5), .inl (E 0, 40, .inl yf5)), ((ya 6), .inl (E 0, 120, .inl yf6))] s.heap := hP
  have hl := lv_entry ([.ref yh, .int p0, .int p1]) (n := 5) (Nat.le_of_ble_eq_true rfl)
  rw [lg_entry_eq]
  generalize (lg_sl ([.ref yh, .int p0, .int p1]) ++ List.replicate (5 - (lg_sl ([.ref yh, .int p0, .int p1])).length) Slot.unset).toArray = ls at hl ⊢
  have hl : lv_has ls 5 [(0, .ref yh), (1, .int p0), (2, .int p1)] := hl
  have lo_p0 := i_lo p0; have hi_p0 := i_hi p0
  have lo_p1 := i_lo p1; have hi_p1 := i_hi p1
  refine lv_aload_n hx hb dX5_timeOf_0 rfl (lv_at hl 0 rfl) ?_
  refine lv_iload_n hx hb dX5_timeOf_1 rfl (lv_at hl 1 rfl) ?_
  refine lv_iload_n hx hb dX5_timeOf_2 rfl (lv_at hl 2 rfl) ?_
  refine callRV (rest := []) (As := [.int p0, .int p1]) hx hb hml hown htb hK (g_X5_isOf l D E yh ya ysights ystage ysailed yvoyage p0 p1 (by (try dsimp only); omega)) ok_X5_isOf k_833 k_835 ks_31 k_8 k_836 ⟨(Nat.le_of_ble_eq_true rfl), (Nat.le_of_ble_eq_true rfl)⟩ ⟨(Nat.le_of_ble_eq_true rfl), (Nat.le_of_ble_eq_true rfl)⟩ hl.1 (Nat.le_of_ble_eq_true rfl) rfl rfl dX5_timeOf_3 (hP.sub (ws' := [(yh, .inr (5, G5 ya ysights ystage ysailed yvoyage))]) [0] rfl) rfl rfl 0 rfl (fun r_1 hw_2 => ?_)
  rcases hw_2 with ⟨hr_1, hw_2⟩ | ⟨hr_1, hw_2⟩
  ·
    refine W_top (y := .int 1) (by rw [hr_1]) ?_
    refine lv_if_ne (tgt := 11) hx hb dX5_timeOf_6 (by decide) (fun c_4 => ?_) (fun c_4 => absurd c_4 (by decide))
    refine lv_aload_n hx hb dX5_timeOf_11 rfl (lv_at hl 0 rfl) ?_
    refine lv_iload_n hx hb dX5_timeOf_12 rfl (lv_at hl 1 rfl) ?_
    refine callRV (rest := []) (As := [.int p0]) hx hb hml hown htb hK (g_X5_daysSince l D E yh ya ysights ystage ysailed yvoyage yf5 p0 (by (try dsimp only); omega)) ok_X5_daysSince k_837 k_838 k_839 k_8 k_840 ⟨(Nat.le_of_ble_eq_true rfl), (Nat.le_of_ble_eq_true rfl)⟩ ⟨(Nat.le_of_ble_eq_true rfl), (Nat.le_of_ble_eq_true rfl)⟩ hl.1 (Nat.le_of_ble_eq_true rfl) rfl rfl dX5_timeOf_13 (hP.sub (ws' := [(yh, .inr (5, G5 ya ysights ystage ysailed yvoyage)), ((ya 5), .inl (E 0, 40, .inl yf5))]) [0, 4] rfl) rfl rfl 0 rfl (fun r_5 hw_6 => ?_)
    refine lv_istore_n (lv' := [(3, .int r_5), (0, .ref yh), (1, .int p0), (2, .int p1)]) hx hb dX5_timeOf_16 rfl hl (by decide) rfl (fun ls hl => ?_)
    refine lv_aload_n hx hb dX5_timeOf_17 rfl (lv_at hl 1 rfl) ?_
    refine va_get (D := D) (ci := 5) (v := .ref (ya 2)) (C := RX5) (T := TX5) (N := 11) hx hb htb iX5 hown hK.1 hP 0 rfl rfl 2 (by decide) (htb _ k_232) (fun _ h9 => h9) rfl dX5_timeOf_18 ?_
    refine lv_iload_n hx hb dX5_timeOf_21 rfl (lv_at hl 3 rfl) ?_
    refine va_iald hx hb hK.1 hP 2 0 rfl rfl (g_in rfl (by omega) (by omega)) dX5_timeOf_22 ?_
    refine lv_topi (fun z_8 ez_8 => ?_)
    have kz_8 := congrArg Int32.toInt ez_8
    refine lv_iload_n hx hb dX5_timeOf_23 rfl (lv_at hl 0 rfl) ?_
    refine lv_imul hx hb dX5_timeOf_24 ?_
    refine lv_topi (fun z_9 ez_9 => ?_)
    refine lv_istore (lv' := [(4, .int z_9), (3, .int r_5), (0, .ref yh), (1, .int p0), (2, .int p1)]) hx hb dX5_timeOf_25 hl (by decide) rfl (fun ls hl => ?_)
    refine lv_aload_n hx hb dX5_timeOf_27 rfl (lv_at hl 2 rfl) ?_
    refine va_get (D := D) (ci := 5) (v := .int ystage) (C := RX5) (T := TX5) (N := 11) hx hb htb iX5 hown hK.1 hP 0 rfl rfl 8 (by decide) (htb _ k_243) (fun _ h9 => h9) rfl dX5_timeOf_28 ?_
    refine lv_iconst (v := 2) hx hb dX5_timeOf_31 (by decide) ?_
    refine lv_icmp_ne (tgt := 66) hx hb dX5_timeOf_32 (by decide) (fun c_10 => ?_) (fun c_10 => ?_)
    ·
      have ic_10 : ystage.toInt ≠ 2 := mt (g_eq rfl t_2).mpr c_10
      clear c_10
      refine lv_aload_n hx hb dX5_timeOf_66 rfl (lv_at hl 2 rfl) ?_
      refine va_get (D := D) (ci := 5) (v := .ref (ya 6)) (C := RX5) (T := TX5) (N := 11) hx hb htb iX5 hown hK.1 hP 0 rfl rfl 6 (by decide) (htb _ k_240) (fun _ h9 => h9) rfl dX5_timeOf_67 ?_
      refine lv_iconst (v := 3) hx hb dX5_timeOf_70 (by decide) ?_
      refine lv_iload_n hx hb dX5_timeOf_71 rfl (lv_at hl 3 rfl) ?_
      refine lv_imul hx hb dX5_timeOf_72 ?_
      refine lv_topi (fun z_11 ez_11 => ?_)
      have jz_11 : z_11.toInt = 3 * p0.toInt := by rw [ez_11]; exact g_mul t_3 rfl (by omega) (by omega)
      refine lv_iload_n hx hb dX5_timeOf_73 rfl (lv_at hl 4 rfl) ?_
      refine lv_iadd hx hb dX5_timeOf_74 ?_
      refine lv_topi (fun z_12 ez_12 => ?_)
      have jz_12 : z_12.toInt = z_11.toInt + p1.toInt := by rw [ez_12]; exact g_add rfl rfl (by omega) (by omega)
      refine va_iald hx hb hK.1 hP 5 0 rfl rfl (g_in rfl (by omega) (by omega)) dX5_timeOf_75 ?_
      refine lv_topi (fun z_13 ez_13 => ?_)
      have kz_13 := congrArg Int32.toInt ez_13
      refine lv_aload_n hx hb dX5_timeOf_76 rfl (lv_at hl 2 rfl) ?_
      refine va_get (D := D) (ci := 5) (v := .ref (ya 1)) (C := RX5) (T := TX5) (N := 11) hx hb htb iX5 hown hK.1 hP 0 rfl rfl 1 (by decide) (htb _ k_230) (fun _ h9 => h9) rfl dX5_timeOf_77 ?_
      refine lv_iload_n hx hb dX5_timeOf_80 rfl (lv_at hl 4 rfl) ?_
      refine va_iald hx hb hK.1 hP 1 0 rfl rfl (g_in rfl (by omega) (by omega)) dX5_timeOf_81 ?_
      refine lv_topi (fun z_14 ez_14 => ?_)
      have kz_14 := congrArg Int32.toInt ez_14
      refine lv_isub hx hb dX5_timeOf_82 ?_
      refine lv_topi (fun z_15 ez_15 => ?_)
      refine lv_iload hx hb dX5_timeOf_83 (lv_at hl 0 rfl) ?_
      refine lv_isub hx hb dX5_timeOf_85 ?_
      refine lv_topi (fun z_16 ez_16 => ?_)
      exact W.iret (v := z_16) hx hb hr (fun t ht hW => ⟨z_16, rfl, (by refine Or.inl ⟨by omega, ?_⟩; have hd := (hw_6.resolve_right (fun h9 => h9.1 (by omega))).2; unfold tmX; rw [if_neg (by omega)]; subst_vars; rfl), ht⟩) (fun q h => by cases h) dX5_timeOf_86
    ·
      have ic_10 : ystage.toInt = 2 := (g_eq rfl t_2).mp c_10
      clear c_10
      refine lv_aload_n hx hb dX5_timeOf_35 rfl (lv_at hl 2 rfl) ?_
      refine va_get (D := D) (ci := 5) (v := .int yvoyage) (C := RX5) (T := TX5) (N := 11) hx hb htb iX5 hown hK.1 hP 0 rfl rfl 10 (by decide) (htb _ k_247) (fun _ h9 => h9) rfl dX5_timeOf_36 ?_
      refine lv_if_le (tgt := 66) hx hb dX5_timeOf_39 (by decide) (fun c_17 => ?_) (fun c_17 => ?_)
      ·
        have ic_17 : yvoyage.toInt ≤ 0 := by first | exact (g_le rfl t_0).mp c_17 | (have h := mt (g_lt t_0 rfl).mpr c_17; omega)
        clear c_17
        refine lv_aload_n hx hb dX5_timeOf_66 rfl (lv_at hl 2 rfl) ?_
        refine va_get (D := D) (ci := 5) (v := .ref (ya 6)) (C := RX5) (T := TX5) (N := 11) hx hb htb iX5 hown hK.1 hP 0 rfl rfl 6 (by decide) (htb _ k_240) (fun _ h9 => h9) rfl dX5_timeOf_67 ?_
        refine lv_iconst (v := 3) hx hb dX5_timeOf_70 (by decide) ?_
        refine lv_iload_n hx hb dX5_timeOf_71 rfl (lv_at hl 3 rfl) ?_
        refine lv_imul hx hb dX5_timeOf_72 ?_
        refine lv_topi (fun z_18 ez_18 => ?_)
        have jz_18 : z_18.toInt = 3 * p0.toInt := by rw [ez_18]; exact g_mul t_3 rfl (by omega) (by omega)
        refine lv_iload_n hx hb dX5_timeOf_73 rfl (lv_at hl 4 rfl) ?_
        refine lv_iadd hx hb dX5_timeOf_74 ?_
        refine lv_topi (fun z_19 ez_19 => ?_)
        have jz_19 : z_19.toInt = z_18.toInt + p1.toInt := by rw [ez_19]; exact g_add rfl rfl (by omega) (by omega)
        refine va_iald hx hb hK.1 hP 5 0 rfl rfl (g_in rfl (by omega) (by omega)) dX5_timeOf_75 ?_
        refine lv_topi (fun z_20 ez_20 => ?_)
        have kz_20 := congrArg Int32.toInt ez_20
        refine lv_aload_n hx hb dX5_timeOf_76 rfl (lv_at hl 2 rfl) ?_
        refine va_get (D := D) (ci := 5) (v := .ref (ya 1)) (C := RX5) (T := TX5) (N := 11) hx hb htb iX5 hown hK.1 hP 0 rfl rfl 1 (by decide) (htb _ k_230) (fun _ h9 => h9) rfl dX5_timeOf_77 ?_
        refine lv_iload_n hx hb dX5_timeOf_80 rfl (lv_at hl 4 rfl) ?_
        refine va_iald hx hb hK.1 hP 1 0 rfl rfl (g_in rfl (by omega) (by omega)) dX5_timeOf_81 ?_
        refine lv_topi (fun z_21 ez_21 => ?_)
        have kz_21 := congrArg Int32.toInt ez_21
        refine lv_isub hx hb dX5_timeOf_82 ?_
        refine lv_topi (fun z_22 ez_22 => ?_)
        refine lv_iload hx hb dX5_timeOf_83 (lv_at hl 0 rfl) ?_
        refine lv_isub hx hb dX5_timeOf_85 ?_
        refine lv_topi (fun z_23 ez_23 => ?_)
        exact W.iret (v := z_23) hx hb hr (fun t ht hW => ⟨z_23, rfl, (by refine Or.inl ⟨by omega, ?_⟩; have hd := (hw_6.resolve_right (fun h9 => h9.1 (by omega))).2; unfold tmX; rw [if_neg (by omega)]; subst_vars; rfl), ht⟩) (fun q h => by cases h) dX5_timeOf_86
      ·
        have ic_17 : 0 < yvoyage.toInt := by first | exact (g_lt t_0 rfl).mp c_17 | (have h := mt (g_le rfl t_0).mpr c_17; omega)
        clear c_17
        refine lv_iload_n hx hb dX5_timeOf_42 rfl (lv_at hl 1 rfl) ?_
        refine lv_aload_n hx hb dX5_timeOf_43 rfl (lv_at hl 2 rfl) ?_
        refine va_get (D := D) (ci := 5) (v := .ref (ya 4)) (C := RX5) (T := TX5) (N := 11) hx hb htb iX5 hown hK.1 hP 0 rfl rfl 4 (by decide) (htb _ k_236) (fun _ h9 => h9) rfl dX5_timeOf_44 ?_
        refine lv_iload_n hx hb dX5_timeOf_47 rfl (lv_at hl 4 rfl) ?_
        refine va_iald hx hb hK.1 hP 3 0 rfl rfl (g_in rfl (by omega) (by omega)) dX5_timeOf_48 ?_
        refine lv_topi (fun z_24 ez_24 => ?_)
        have kz_24 := congrArg Int32.toInt ez_24
        refine lv_aload_n hx hb dX5_timeOf_49 rfl (lv_at hl 2 rfl) ?_
        refine va_get (D := D) (ci := 5) (v := .ref (ya 1)) (C := RX5) (T := TX5) (N := 11) hx hb htb iX5 hown hK.1 hP 0 rfl rfl 1 (by decide) (htb _ k_230) (fun _ h9 => h9) rfl dX5_timeOf_50 ?_
        refine lv_iload_n hx hb dX5_timeOf_53 rfl (lv_at hl 4 rfl) ?_
        refine va_iald hx hb hK.1 hP 1 0 rfl rfl (g_in rfl (by omega) (by omega)) dX5_timeOf_54 ?_
        refine lv_topi (fun z_25 ez_25 => ?_)
        have kz_25 := congrArg Int32.toInt ez_25
        refine lv_isub hx hb dX5_timeOf_55 ?_
        refine lv_topi (fun z_26 ez_26 => ?_)
        refine lv_imul hx hb dX5_timeOf_56 ?_
        refine lv_topi (fun z_27 ez_27 => ?_)
        refine lv_aload_n hx hb dX5_timeOf_57 rfl (lv_at hl 2 rfl) ?_
        refine va_get (D := D) (ci := 5) (v := .int yvoyage) (C := RX5) (T := TX5) (N := 11) hx hb htb iX5 hown hK.1 hP 0 rfl rfl 10 (by decide) (htb _ k_247) (fun _ h9 => h9) rfl dX5_timeOf_58 ?_
        refine callRS (rest := []) (As := [.int z_27, .int yvoyage]) hx hb hml hown htb hK (g_J9_floorDiv_7cf53 l D E z_27 yvoyage (by (try dsimp only); omega)) ok_J9_floorDiv_7cf53 k_846 k_797 k_11 k_798 ⟨(Nat.le_of_ble_eq_true rfl), (Nat.le_of_ble_eq_true rfl)⟩ ⟨(Nat.le_of_ble_eq_true rfl), (Nat.le_of_ble_eq_true rfl)⟩ hl.1 (Nat.le_of_ble_eq_true rfl) rfl rfl dX5_timeOf_61 (hP.sub (ws' := ([] : va_W)) [] rfl) (fun r_28 hw_29 => ?_)
        refine lv_istore (lv' := [(4, .int r_28), (3, .int r_5), (0, .ref yh), (1, .int p0), (2, .int p1)]) hx hb dX5_timeOf_64 hl (by decide) rfl (fun ls hl => ?_)
        refine lv_aload_n hx hb dX5_timeOf_66 rfl (lv_at hl 2 rfl) ?_
        refine va_get (D := D) (ci := 5) (v := .ref (ya 6)) (C := RX5) (T := TX5) (N := 11) hx hb htb iX5 hown hK.1 hP 0 rfl rfl 6 (by decide) (htb _ k_240) (fun _ h9 => h9) rfl dX5_timeOf_67 ?_
        refine lv_iconst (v := 3) hx hb dX5_timeOf_70 (by decide) ?_
        refine lv_iload_n hx hb dX5_timeOf_71 rfl (lv_at hl 3 rfl) ?_
        refine lv_imul hx hb dX5_timeOf_72 ?_
        refine lv_topi (fun z_31 ez_31 => ?_)
        have jz_31 : z_31.toInt = 3 * p0.toInt := by rw [ez_31]; exact g_mul t_3 rfl (by omega) (by omega)
        refine lv_iload_n hx hb dX5_timeOf_73 rfl (lv_at hl 4 rfl) ?_
        refine lv_iadd hx hb dX5_timeOf_74 ?_
        refine lv_topi (fun z_32 ez_32 => ?_)
        have jz_32 : z_32.toInt = z_31.toInt + p1.toInt := by rw [ez_32]; exact g_add rfl rfl (by omega) (by omega)
        refine va_iald hx hb hK.1 hP 5 0 rfl rfl (g_in rfl (by omega) (by omega)) dX5_timeOf_75 ?_
        refine lv_topi (fun z_33 ez_33 => ?_)
        have kz_33 := congrArg Int32.toInt ez_33
        refine lv_aload_n hx hb dX5_timeOf_76 rfl (lv_at hl 2 rfl) ?_
        refine va_get (D := D) (ci := 5) (v := .ref (ya 1)) (C := RX5) (T := TX5) (N := 11) hx hb htb iX5 hown hK.1 hP 0 rfl rfl 1 (by decide) (htb _ k_230) (fun _ h9 => h9) rfl dX5_timeOf_77 ?_
        refine lv_iload_n hx hb dX5_timeOf_80 rfl (lv_at hl 4 rfl) ?_
        refine va_iald hx hb hK.1 hP 1 0 rfl rfl (g_in rfl (by omega) (by omega)) dX5_timeOf_81 ?_
        refine lv_topi (fun z_34 ez_34 => ?_)
        have kz_34 := congrArg Int32.toInt ez_34
        refine lv_isub hx hb dX5_timeOf_82 ?_
        refine lv_topi (fun z_35 ez_35 => ?_)
        refine lv_iload hx hb dX5_timeOf_83 (lv_at hl 0 rfl) ?_
        refine lv_isub hx hb dX5_timeOf_85 ?_
        refine lv_topi (fun z_36 ez_36 => ?_)
        exact W.iret (v := z_36) hx hb hr (fun t ht hW => ⟨z_36, rfl, (by refine Or.inl ⟨by omega, ?_⟩; have hd := (hw_6.resolve_right (fun h9 => h9.1 (by omega))).2; have hf := fdI_of hw_29 (by omega); unfold tmX; rw [if_pos (by omega)]; subst_vars; rfl), ht⟩) (fun q h => by cases h) dX5_timeOf_86
  ·
    refine W_top (y := .int 0) (by rw [hr_1]) ?_
    refine lv_if_ne (tgt := 11) hx hb dX5_timeOf_6 (by decide) (fun c_37 => absurd (by decide) c_37) (fun c_37 => ?_)
    refine lv_iconst (v := 0) hx hb dX5_timeOf_9 (by decide) ?_
    exact W.iret (v := 0) hx hb hr (fun t ht hW => ⟨0, rfl, (by have hl := t_0; exact Or.inr ⟨by omega, by omega⟩), ht⟩) (fun q h => by cases h) dX5_timeOf_10
set_option maxHeartbeats 4000000 in
set_option maxRecDepth 100000 in
theorem g_X5_offFromOthers (l : Launch) (D : va_G) (E : Nat → Nat) (yh : Nat) (ya : Nat → Nat) (ysights : Int32) (ystage : Int32) (ysailed : Int32) (yvoyage : Int32) (yf1 : Nat → Int32) (yf2 : Nat → Int32) (yf4 : Nat → Int32) (yf5 : Nat → Int32) (yf6 : Nat → Int32) (p0 : Int32) (p1 : Int32) (hi_y : (0 ≤ ysights.toInt ∧ ysights.toInt ≤ 40)) (g0 : 0 ≤ p1.toInt ∧ p1.toInt ≤ 2) : Met l yX5_offFromOthers (wl yX5_offFromOthers cX5_offFromOthers 4 (some .int)) (RM 3 0 0) (rd_P D E [.ref yh, .int p0, .int p1] [(yh, .inr (5, G5 ya ysights ystage ysailed yvoyage)), ((ya 1), .inl (E 0, 3, .inl yf1)), ((ya 2), .inl (E 0, 3, .inl yf2)), ((ya 4), .inl (E 0, 3, .inl yf4)), ((ya 5), .inl (E 0, 40, .inl yf5)), ((ya 6), .inl (E 0, 120, .inl yf6))]) (rd_Q (fun r => ((0 ≤ p0.toInt ∧ p0.toInt < ysights.toInt) → r = ofX (fun k => tmX ystage yvoyage ysailed yf1 yf2 yf4 yf5 yf6 p0 (Int32.ofNat k)) (p1).toNatClampNeg))) 0 0 (fun _ => False) := by
  refine Met.ofW (cc := cX5_offFromOthers) (maxL := 4) (ret := (some .int)) (by decide) rfl ?_
  intro p e s m args below meth c s₁ B hml hv
  obtain ⟨rfl, hP, hK⟩ := hv
  have hx := B.exec; have hb := B.bytes; have hr := B.returns
  have hts := atoms_spec (ws := wl yX5_offFromOthers cX5_offFromOthers 4 (some .int)) B.pre
  have htb : ∀ w ∈ tb, w.before _ s = true := fun w h => hts w (List.mem_cons_of_mem _ h)
  have hown : s.vm.findClass RX5 = some m.cls := findClass_of_methodNamed B.named
  have hlocks := B.notSynchronized
  have hP : va_P D vwCl [(yh, .inr (5, G5 ya ysights ystage ysailed yvoyage)), ((ya 1), .inl (E 0, 3, .inl yf1)), ((ya 2), .inl (E 0, 3, .inl yf2)), ((ya 4), .inl (E 0, 3, .inl yf4)), ((ya 5), .inl (E 0, 40, .inl yf5)), ((ya 6), .inl (E 0, 120, .inl yf6))] s.heap := hP
  have hl := lv_entry ([.ref yh, .int p0, .int p1]) (n := 4) (Nat.le_of_ble_eq_true rfl)
  rw [lg_entry_eq]
  generalize (lg_sl ([.ref yh, .int p0, .int p1]) ++ List.replicate (4 - (lg_sl ([.ref yh, .int p0, .int p1])).length) Slot.unset).toArray = ls at hl ⊢
  have hl : lv_has ls 4 [(0, .ref yh), (1, .int p0), (2, .int p1)] := hl
  have lo_p0 := i_lo p0; have hi_p0 := i_hi p0
  have lo_p1 := i_lo p1; have hi_p1 := i_hi p1
  refine lv_aload_n hx hb dX5_offFromOthers_0 rfl (lv_at hl 0 rfl) ?_
  refine lv_iload_n hx hb dX5_offFromOthers_1 rfl (lv_at hl 1 rfl) ?_
  refine lv_iload_n hx hb dX5_offFromOthers_2 rfl (lv_at hl 2 rfl) ?_
  refine lv_iconst (v := 1) hx hb dX5_offFromOthers_3 (by decide) ?_
  refine lv_iadd hx hb dX5_offFromOthers_4 ?_
  refine lv_topi (fun z_1 ez_1 => ?_)
  have jz_1 : z_1.toInt = p1.toInt + 1 := by rw [ez_1]; exact g_add rfl t_1 (by omega) (by omega)
  refine lv_iconst (v := 3) hx hb dX5_offFromOthers_5 (by decide) ?_
  refine lv_irem hx hb dX5_offFromOthers_6 (by decide) ?_
  refine lv_topi (fun z_2 ez_2 => ?_)
  have jz_2 : z_2.toInt = z_1.toInt % 3 := by rw [ez_2]; exact g_rem rfl t_3 (by omega) (by decide)
  refine callRV (rest := []) (As := [.int p0, .int z_2]) hx hb hml hown htb hK (g_X5_timeOf l D E yh ya ysights ystage ysailed yvoyage yf1 yf2 yf4 yf5 yf6 p0 z_2 (by (try dsimp only); omega)) ok_X5_timeOf k_855 k_843 k_844 k_8 k_845 ⟨(Nat.le_of_ble_eq_true rfl), (Nat.le_of_ble_eq_true rfl)⟩ ⟨(Nat.le_of_ble_eq_true rfl), (Nat.le_of_ble_eq_true rfl)⟩ hl.1 (Nat.le_of_ble_eq_true rfl) rfl rfl dX5_offFromOthers_7 (hP.sub (ws' := [(yh, .inr (5, G5 ya ysights ystage ysailed yvoyage)), ((ya 1), .inl (E 0, 3, .inl yf1)), ((ya 2), .inl (E 0, 3, .inl yf2)), ((ya 4), .inl (E 0, 3, .inl yf4)), ((ya 5), .inl (E 0, 40, .inl yf5)), ((ya 6), .inl (E 0, 120, .inl yf6))]) [0, 1, 2, 3, 4, 5] rfl) rfl rfl 0 rfl (fun r_3 hw_4 => ?_)
  refine lv_aload_n hx hb dX5_offFromOthers_10 rfl (lv_at hl 0 rfl) ?_
  refine lv_iload_n hx hb dX5_offFromOthers_11 rfl (lv_at hl 1 rfl) ?_
  refine lv_iload_n hx hb dX5_offFromOthers_12 rfl (lv_at hl 2 rfl) ?_
  refine lv_iconst (v := 2) hx hb dX5_offFromOthers_13 (by decide) ?_
  refine lv_iadd hx hb dX5_offFromOthers_14 ?_
  refine lv_topi (fun z_6 ez_6 => ?_)
  have jz_6 : z_6.toInt = p1.toInt + 2 := by rw [ez_6]; exact g_add rfl t_2 (by omega) (by omega)
  refine lv_iconst (v := 3) hx hb dX5_offFromOthers_15 (by decide) ?_
  refine lv_irem hx hb dX5_offFromOthers_16 (by decide) ?_
  refine lv_topi (fun z_7 ez_7 => ?_)
  have jz_7 : z_7.toInt = z_6.toInt % 3 := by rw [ez_7]; exact g_rem rfl t_3 (by omega) (by decide)
  refine callRV (rest := [.int r_3]) (As := [.int p0, .int z_7]) hx hb hml hown htb hK (g_X5_timeOf l D E yh ya ysights ystage ysailed yvoyage yf1 yf2 yf4 yf5 yf6 p0 z_7 (by (try dsimp only); omega)) ok_X5_timeOf k_855 k_843 k_844 k_8 k_845 ⟨(Nat.le_of_ble_eq_true rfl), (Nat.le_of_ble_eq_true rfl)⟩ ⟨(Nat.le_of_ble_eq_true rfl), (Nat.le_of_ble_eq_true rfl)⟩ hl.1 (Nat.le_of_ble_eq_true rfl) rfl rfl dX5_offFromOthers_17 (hP.sub (ws' := [(yh, .inr (5, G5 ya ysights ystage ysailed yvoyage)), ((ya 1), .inl (E 0, 3, .inl yf1)), ((ya 2), .inl (E 0, 3, .inl yf2)), ((ya 4), .inl (E 0, 3, .inl yf4)), ((ya 5), .inl (E 0, 40, .inl yf5)), ((ya 6), .inl (E 0, 120, .inl yf6))]) [0, 1, 2, 3, 4, 5] rfl) rfl rfl 0 rfl (fun r_8 hw_9 => ?_)
  refine lv_iadd hx hb dX5_offFromOthers_20 ?_
  refine lv_topi (fun z_11 ez_11 => ?_)
  refine lv_istore_n (lv' := [(3, .int z_11), (0, .ref yh), (1, .int p0), (2, .int p1)]) hx hb dX5_offFromOthers_21 rfl hl (by decide) rfl (fun ls hl => ?_)
  refine lv_aload_n hx hb dX5_offFromOthers_22 rfl (lv_at hl 1 rfl) ?_
  refine lv_iload_n hx hb dX5_offFromOthers_23 rfl (lv_at hl 2 rfl) ?_
  refine lv_iload_n hx hb dX5_offFromOthers_24 rfl (lv_at hl 3 rfl) ?_
  refine callRV (rest := []) (As := [.int p0, .int p1]) hx hb hml hown htb hK (g_X5_timeOf l D E yh ya ysights ystage ysailed yvoyage yf1 yf2 yf4 yf5 yf6 p0 p1 (by (try dsimp only); omega)) ok_X5_timeOf k_855 k_843 k_844 k_8 k_845 ⟨(Nat.le_of_ble_eq_true rfl), (Nat.le_of_ble_eq_true rfl)⟩ ⟨(Nat.le_of_ble_eq_true rfl), (Nat.le_of_ble_eq_true rfl)⟩ hl.1 (Nat.le_of_ble_eq_true rfl) rfl rfl dX5_offFromOthers_25 (hP.sub (ws' := [(yh, .inr (5, G5 ya ysights ystage ysailed yvoyage)), ((ya 1), .inl (E 0, 3, .inl yf1)), ((ya 2), .inl (E 0, 3, .inl yf2)), ((ya 4), .inl (E 0, 3, .inl yf4)), ((ya 5), .inl (E 0, 40, .inl yf5)), ((ya 6), .inl (E 0, 120, .inl yf6))]) [0, 1, 2, 3, 4, 5] rfl) rfl rfl 0 rfl (fun r_12 hw_13 => ?_)
  refine lv_iload_n hx hb dX5_offFromOthers_28 rfl (lv_at hl 0 rfl) ?_
  refine lv_iconst (v := 2) hx hb dX5_offFromOthers_29 (by decide) ?_
  refine callRS (rest := [.int r_12]) (As := [.int z_11, .int 2]) hx hb hml hown htb hK (g_J9_floorDiv_7cf53 l D E z_11 2 (by have h0 := t_2; (try dsimp only); omega)) ok_J9_floorDiv_7cf53 k_846 k_797 k_11 k_798 ⟨(Nat.le_of_ble_eq_true rfl), (Nat.le_of_ble_eq_true rfl)⟩ ⟨(Nat.le_of_ble_eq_true rfl), (Nat.le_of_ble_eq_true rfl)⟩ hl.1 (Nat.le_of_ble_eq_true rfl) rfl rfl dX5_offFromOthers_30 (hP.sub (ws' := ([] : va_W)) [] rfl) (fun r_15 hw_16 => ?_)
  try simp only [t_2] at hw_16
  refine lv_isub hx hb dX5_offFromOthers_33 ?_
  refine lv_topi (fun z_18 ez_18 => ?_)
  refine va_mabs hx hb (by rw [hml, hl.1]) hown (htb _ k_856) (htb _ k_571) (htb _ k_11) (htb _ k_572) (Nat.le_of_ble_eq_true rfl) (Nat.le_of_ble_eq_true rfl) (Nat.le_of_ble_eq_true rfl) (Nat.le_of_ble_eq_true rfl) dX5_offFromOthers_34 ?_
  refine lv_topi (fun z_19 ez_19 => ?_)
  have sz_19 := abs_sz ez_19
  exact W.iret (v := z_19) hx hb hr (fun t ht hW => ⟨z_19, rfl, (fun hO => by have c9 := i_clamp0 (x := p1) (by omega); have e1 : z_2 = Int32.ofNat (((p1).toNatClampNeg + 1) % 3) := ofN_i (by omega); have e2 : z_7 = Int32.ofNat (((p1).toNatClampNeg + 2) % 3) := ofN_i (by omega); have e3 : p1 = Int32.ofNat (p1).toNatClampNeg := ofN_i (by omega); have a1 := (hw_4.resolve_right (fun h9 => h9.1 (by omega))).2; have a2 := (hw_9.resolve_right (fun h9 => h9.1 (by omega))).2; have a3 := (hw_13.resolve_right (fun h9 => h9.1 (by omega))).2; have hf := fdI_of (r := r_15) (a := z_11) (b := (2 : Int32)) (fun _ => by rw [t_2]; exact hw_16 (by decide)) (by have h2 := t_2; omega); unfold ofX; (try dsimp only); rw [← e1, ← e2, ← e3, ← a1, ← a2, ← a3, sz_19]; congr 1; subst_vars; rfl), ht⟩) (fun q h => by cases h) dX5_offFromOthers_37
set_option maxHeartbeats 4000000 in
set_option maxRecDepth 100000 in
theorem g_X5_beginOf (l : Launch) (D : va_G) (E : Nat → Nat) (yh : Nat) (ya : Nat → Nat) (ysights : Int32) (ystage : Int32) (ysailed : Int32) (yvoyage : Int32) (yf1 : Nat → Int32) (yf2 : Nat → Int32) (yf3 : Nat → Int32) (yf4 : Nat → Int32) (yf5 : Nat → Int32) (yf6 : Nat → Int32) (p0 : Int32) (p1 : Int32) (hi_y : (0 ≤ ysights.toInt ∧ ysights.toInt ≤ 40)) : Met l yX5_beginOf (wl yX5_beginOf cX5_beginOf 5 (some .int)) (RM 3 0 0) (rd_P D E [.ref yh, .int p0, .int p1] [(yh, .inr (5, G5 ya ysights ystage ysailed yvoyage)), ((ya 1), .inl (E 0, 3, .inl yf1)), ((ya 2), .inl (E 0, 3, .inl yf2)), ((ya 3), .inl (E 0, 3, .inl yf3)), ((ya 4), .inl (E 0, 3, .inl yf4)), ((ya 5), .inl (E 0, 40, .inl yf5)), ((ya 6), .inl (E 0, 120, .inl yf6))]) (rd_Q (fun r => ((0 ≤ p0.toInt ∧ p0.toInt < ysights.toInt) → r = bgX (fun k => tmX ystage yvoyage ysailed yf1 yf2 yf4 yf5 yf6 p0 (Int32.ofNat k)) (fun k => wdX ystage yvoyage ysailed yf3 yf5 p0 (Int32.ofNat k)) p1.toInt 3))) 0 0 (fun _ => False) := by
  refine Met.ofW (cc := cX5_beginOf) (maxL := 5) (ret := (some .int)) (by decide) rfl ?_
  intro p e s m args below meth c s₁ B hml hv
  obtain ⟨rfl, hP, hK⟩ := hv
  have hx := B.exec; have hb := B.bytes; have hr := B.returns
  have hts := atoms_spec (ws := wl yX5_beginOf cX5_beginOf 5 (some .int)) B.pre
  have htb : ∀ w ∈ tb, w.before _ s = true := fun w h => hts w (List.mem_cons_of_mem _ h)
  have hown : s.vm.findClass RX5 = some m.cls := findClass_of_methodNamed B.named
  have hlocks := B.notSynchronized
  have hP : va_P D vwCl [(yh, .inr (5, G5 ya ysights ystage ysailed yvoyage)), ((ya 1), .inl (E 0, 3, .inl yf1)), ((ya 2), .inl (E 0, 3, .inl yf2)), ((ya 3), .inl (E 0, 3, .inl yf3)), ((ya 4), .inl (E 0, 3, .inl yf4)), ((ya 5), .inl (E 0, 40, .inl yf5)), ((ya 6), .inl (E 0, 120, .inl yf6))] s.heap := hP
  have hl := lv_entry ([.ref yh, .int p0, .int p1]) (n := 5) (Nat.le_of_ble_eq_true rfl)
  rw [lg_entry_eq]
  generalize (lg_sl ([.ref yh, .int p0, .int p1]) ++ List.replicate (5 - (lg_sl ([.ref yh, .int p0, .int p1])).length) Slot.unset).toArray = ls at hl ⊢
  have hl : lv_has ls 5 [(0, .ref yh), (1, .int p0), (2, .int p1)] := hl
  have lo_p0 := i_lo p0; have hi_p0 := i_hi p0
  have lo_p1 := i_lo p1; have hi_p1 := i_hi p1
  refine lv_ldc hx hb hown (htb _ k_862) dX5_beginOf_0 ?_
  refine lv_istore_n (lv' := [(3, .int (-2000000000)), (0, .ref yh), (1, .int p0), (2, .int p1)]) hx hb dX5_beginOf_2 rfl hl (by decide) rfl (fun ls hl => ?_)
  refine lv_iconst (v := 0) hx hb dX5_beginOf_3 (by decide) ?_
  refine lv_istore (lv' := [(4, .int 0), (3, .int (-2000000000)), (0, .ref yh), (1, .int p0), (2, .int p1)]) hx hb dX5_beginOf_4 hl (by decide) rfl (fun ls hl => ?_)
  have loop_1 : ∀ (N_3 : Nat) (L4_6 : Int32) (L3_6 : Int32)  (ls : Array Slot), 3 - L4_6.toInt < (N_3 : Int) → (0 ≤ L4_6.toInt ∧ L4_6.toInt ≤ 3) → ((0 ≤ p0.toInt ∧ p0.toInt < ysights.toInt) → L3_6 = bgX (fun k => tmX ystage yvoyage ysailed yf1 yf2 yf4 yf5 yf6 p0 (Int32.ofNat k)) (fun k => wdX ystage yvoyage ysailed yf3 yf5 p0 (Int32.ofNat k)) p1.toInt (L4_6).toNatClampNeg) → lv_has ls 5 [(4, .int L4_6), (3, .int L3_6), (0, .ref yh), (1, .int p0), (2, .int p1)] → W p l e (headSpec (wl yX5_beginOf cX5_beginOf 5 (some .int)) (RM 3 0 0)).room s m [Value.ref yh, .int p0, .int p1].toArray below meth c s.heap [] 0 0 (MQ below (rd_Q (fun r => ((0 ≤ p0.toInt ∧ p0.toInt < ysights.toInt) → r = bgX (fun k => tmX ystage yvoyage ysailed yf1 yf2 yf4 yf5 yf6 p0 (Int32.ofNat k)) (fun k => wdX ystage yvoyage ysailed yf3 yf5 p0 (Int32.ofNat k)) p1.toInt 3))) [Value.ref yh, .int p0, .int p1].toArray s 0 0 (fun _ => False)) (F0 m 6 ls []) := by
    intro N_3
    induction N_3 with
    | zero => intro L4_6 L3_6  ls hm v0_6 v1_6 _; exfalso; omega
    | succ N_3 ih_2 =>
      intro L4_6 L3_6 ls hm v0_6 v1_6 hl
      have lo_L4_6 := i_lo L4_6; have hi_L4_6 := i_hi L4_6
      have lo_L3_6 := i_lo L3_6; have hi_L3_6 := i_hi L3_6
      refine lv_iload hx hb dX5_beginOf_6 (lv_at hl 0 rfl) ?_
      refine lv_iconst (v := 3) hx hb dX5_beginOf_8 (by decide) ?_
      refine lv_icmp_ge (tgt := 44) hx hb dX5_beginOf_9 (by decide) (fun c_4 => ?_) (fun c_4 => ?_)
      ·
        have ic_4 : 3 ≤ L4_6.toInt := by first | exact (g_le t_3 rfl).mp c_4 | (have h := mt (g_lt rfl t_3).mpr c_4; omega)
        clear c_4
        refine lv_iload_n hx hb dX5_beginOf_44 rfl (lv_at hl 1 rfl) ?_
        exact W.iret (v := L3_6) hx hb hr (fun t ht hW => ⟨L3_6, rfl, (fun hO => by have e3 : (L4_6).toNatClampNeg = 3 := (by have c9 := i_clamp0 (x := L4_6) (by omega); omega); have v9 := v1_6 hO; rw [e3] at v9; exact v9), ht⟩) (fun q h => by cases h) dX5_beginOf_45
      ·
        have ic_4 : L4_6.toInt < 3 := by first | exact (g_lt rfl t_3).mp c_4 | (have h := mt (g_le t_3 rfl).mpr c_4; omega)
        clear c_4
        refine lv_iload hx hb dX5_beginOf_12 (lv_at hl 0 rfl) ?_
        refine lv_iload_n hx hb dX5_beginOf_14 rfl (lv_at hl 4 rfl) ?_
        refine lv_icmp_eq (tgt := 38) hx hb dX5_beginOf_15 (by decide) (fun c_5 => ?_) (fun c_5 => ?_)
        ·
          have ic_5 : L4_6.toInt = p1.toInt := (g_eq rfl rfl).mp c_5
          clear c_5
          obtain ⟨z_6, ez_6⟩ : ∃ y : Int32, y = L4_6 + 1 := ⟨_, rfl⟩
          have jz_6 : z_6.toInt = L4_6.toInt + 1 := by rw [ez_6]; exact g_add rfl t_1 (by omega) (by omega)
          refine lv_iinc (v := z_6) (lv' := [(4, .int z_6), (3, .int L3_6), (0, .ref yh), (1, .int p0), (2, .int p1)]) hx hb dX5_beginOf_38 hl (k := 0) rfl (by rw [ez_6]; rfl) (by decide) rfl (fun ls hl => ?_)
          refine lv_goto (tgt := 6) hx hb dX5_beginOf_41 (by decide) ?_
          exact ih_2 z_6 L3_6 _ (by (try dsimp only); omega) (by (try dsimp only); omega) (fun hO => bg_n (v1_6 hO) (by omega) jz_6 (by omega)) (lv_sub hl [0, 1, 2, 3, 4] rfl)
        ·
          have ic_5 : L4_6.toInt ≠ p1.toInt := mt (g_eq rfl rfl).mpr c_5
          clear c_5
          refine lv_iload_n hx hb dX5_beginOf_18 rfl (lv_at hl 1 rfl) ?_
          refine lv_aload_n hx hb dX5_beginOf_19 rfl (lv_at hl 2 rfl) ?_
          refine lv_iload_n hx hb dX5_beginOf_20 rfl (lv_at hl 3 rfl) ?_
          refine lv_iload hx hb dX5_beginOf_21 (lv_at hl 0 rfl) ?_
          refine callRV (rest := [.int L3_6]) (As := [.int p0, .int L4_6]) hx hb hml hown htb hK (g_X5_timeOf l D E yh ya ysights ystage ysailed yvoyage yf1 yf2 yf4 yf5 yf6 p0 L4_6 (by (try dsimp only); omega)) ok_X5_timeOf k_855 k_843 k_844 k_8 k_845 ⟨(Nat.le_of_ble_eq_true rfl), (Nat.le_of_ble_eq_true rfl)⟩ ⟨(Nat.le_of_ble_eq_true rfl), (Nat.le_of_ble_eq_true rfl)⟩ hl.1 (Nat.le_of_ble_eq_true rfl) rfl rfl dX5_beginOf_23 (hP.sub (ws' := [(yh, .inr (5, G5 ya ysights ystage ysailed yvoyage)), ((ya 1), .inl (E 0, 3, .inl yf1)), ((ya 2), .inl (E 0, 3, .inl yf2)), ((ya 4), .inl (E 0, 3, .inl yf4)), ((ya 5), .inl (E 0, 40, .inl yf5)), ((ya 6), .inl (E 0, 120, .inl yf6))]) [0, 1, 2, 4, 5, 6] rfl) rfl rfl 0 rfl (fun r_7 hw_8 => ?_)
          refine lv_aload_n hx hb dX5_beginOf_26 rfl (lv_at hl 2 rfl) ?_
          refine lv_iload_n hx hb dX5_beginOf_27 rfl (lv_at hl 3 rfl) ?_
          refine lv_iload hx hb dX5_beginOf_28 (lv_at hl 0 rfl) ?_
          refine callRV (rest := [.int r_7, .int L3_6]) (As := [.int p0, .int L4_6]) hx hb hml hown htb hK (g_X5_widthOf l D E yh ya ysights ystage ysailed yvoyage yf3 yf5 p0 L4_6 (by (try dsimp only); omega)) ok_X5_widthOf k_863 k_830 k_831 k_8 k_832 ⟨(Nat.le_of_ble_eq_true rfl), (Nat.le_of_ble_eq_true rfl)⟩ ⟨(Nat.le_of_ble_eq_true rfl), (Nat.le_of_ble_eq_true rfl)⟩ hl.1 (Nat.le_of_ble_eq_true rfl) rfl rfl dX5_beginOf_30 (hP.sub (ws' := [(yh, .inr (5, G5 ya ysights ystage ysailed yvoyage)), ((ya 3), .inl (E 0, 3, .inl yf3)), ((ya 5), .inl (E 0, 40, .inl yf5))]) [0, 3, 5] rfl) rfl rfl 0 rfl (fun r_10 hw_11 => ?_)
          refine lv_isub hx hb dX5_beginOf_33 ?_
          refine lv_topi (fun z_13 ez_13 => ?_)
          refine va_mmax hx hb (by rw [hml, hl.1]) hown (htb _ k_864) (htb _ k_732) (htb _ k_11) (htb _ k_733) (Nat.le_of_ble_eq_true rfl) (Nat.le_of_ble_eq_true rfl) (Nat.le_of_ble_eq_true rfl) (Nat.le_of_ble_eq_true rfl) dX5_beginOf_34 ?_
          refine lv_topi (fun z_14 ez_14 => ?_)
          have jz_14 := g_max rfl rfl ez_14
          refine lv_istore_n (lv' := [(3, .int z_14), (4, .int L4_6), (0, .ref yh), (1, .int p0), (2, .int p1)]) hx hb dX5_beginOf_37 rfl hl (by decide) rfl (fun ls hl => ?_)
          obtain ⟨z_15, ez_15⟩ : ∃ y : Int32, y = L4_6 + 1 := ⟨_, rfl⟩
          have jz_15 : z_15.toInt = L4_6.toInt + 1 := by rw [ez_15]; exact g_add rfl t_1 (by omega) (by omega)
          refine lv_iinc (v := z_15) (lv' := [(4, .int z_15), (3, .int z_14), (0, .ref yh), (1, .int p0), (2, .int p1)]) hx hb dX5_beginOf_38 hl (k := 1) rfl (by rw [ez_15]; rfl) (by decide) rfl (fun ls hl => ?_)
          refine lv_goto (tgt := 6) hx hb dX5_beginOf_41 (by decide) ?_
          exact ih_2 z_15 z_14 _ (by (try dsimp only); omega) (by (try dsimp only); omega) (fun hO => bg_y (x := z_13) (v1_6 hO) (by omega) jz_15 (by omega) (by (try dsimp only); rw [ofN_c (by omega), ← (hw_8.resolve_right (fun h9 => h9.1 (by omega))).2, ← (hw_11.resolve_right (fun h9 => h9.1 (by omega))).2]; subst_vars; rfl) (by subst_vars; rfl)) (lv_sub hl [0, 1, 2, 3, 4] rfl)
  exact loop_1 4 0 ((-2000000000)) _ (by have h0 := t_m2000000000; have h1 := t_0; (try dsimp only); omega) (by have h0 := t_m2000000000; have h1 := t_0; (try dsimp only); omega) (fun _ => by rw [clamp_0]; rfl)  (lv_sub hl [0, 1, 2, 3, 4] rfl)
set_option maxHeartbeats 4000000 in
set_option maxRecDepth 100000 in
theorem g_X5_endOf (l : Launch) (D : va_G) (E : Nat → Nat) (yh : Nat) (ya : Nat → Nat) (ysights : Int32) (ystage : Int32) (ysailed : Int32) (yvoyage : Int32) (yf1 : Nat → Int32) (yf2 : Nat → Int32) (yf3 : Nat → Int32) (yf4 : Nat → Int32) (yf5 : Nat → Int32) (yf6 : Nat → Int32) (p0 : Int32) (p1 : Int32) (hi_y : (0 ≤ ysights.toInt ∧ ysights.toInt ≤ 40)) : Met l yX5_endOf (wl yX5_endOf cX5_endOf 5 (some .int)) (RM 3 0 0) (rd_P D E [.ref yh, .int p0, .int p1] [(yh, .inr (5, G5 ya ysights ystage ysailed yvoyage)), ((ya 1), .inl (E 0, 3, .inl yf1)), ((ya 2), .inl (E 0, 3, .inl yf2)), ((ya 3), .inl (E 0, 3, .inl yf3)), ((ya 4), .inl (E 0, 3, .inl yf4)), ((ya 5), .inl (E 0, 40, .inl yf5)), ((ya 6), .inl (E 0, 120, .inl yf6))]) (rd_Q (fun r => ((0 ≤ p0.toInt ∧ p0.toInt < ysights.toInt) → r = enX (fun k => tmX ystage yvoyage ysailed yf1 yf2 yf4 yf5 yf6 p0 (Int32.ofNat k)) (fun k => wdX ystage yvoyage ysailed yf3 yf5 p0 (Int32.ofNat k)) p1.toInt 3))) 0 0 (fun _ => False) := by
  refine Met.ofW (cc := cX5_endOf) (maxL := 5) (ret := (some .int)) (by decide) rfl ?_
  intro p e s m args below meth c s₁ B hml hv
  obtain ⟨rfl, hP, hK⟩ := hv
  have hx := B.exec; have hb := B.bytes; have hr := B.returns
  have hts := atoms_spec (ws := wl yX5_endOf cX5_endOf 5 (some .int)) B.pre
  have htb : ∀ w ∈ tb, w.before _ s = true := fun w h => hts w (List.mem_cons_of_mem _ h)
  have hown : s.vm.findClass RX5 = some m.cls := findClass_of_methodNamed B.named
  have hlocks := B.notSynchronized
  have hP : va_P D vwCl [(yh, .inr (5, G5 ya ysights ystage ysailed yvoyage)), ((ya 1), .inl (E 0, 3, .inl yf1)), ((ya 2), .inl (E 0, 3, .inl yf2)), ((ya 3), .inl (E 0, 3, .inl yf3)), ((ya 4), .inl (E 0, 3, .inl yf4)), ((ya 5), .inl (E 0, 40, .inl yf5)), ((ya 6), .inl (E 0, 120, .inl yf6))] s.heap := hP
  have hl := lv_entry ([.ref yh, .int p0, .int p1]) (n := 5) (Nat.le_of_ble_eq_true rfl)
  rw [lg_entry_eq]
  generalize (lg_sl ([.ref yh, .int p0, .int p1]) ++ List.replicate (5 - (lg_sl ([.ref yh, .int p0, .int p1])).length) Slot.unset).toArray = ls at hl ⊢
  have hl : lv_has ls 5 [(0, .ref yh), (1, .int p0), (2, .int p1)] := hl
  have lo_p0 := i_lo p0; have hi_p0 := i_hi p0
  have lo_p1 := i_lo p1; have hi_p1 := i_hi p1
  refine lv_ldc hx hb hown (htb _ k_869) dX5_endOf_0 ?_
  refine lv_istore_n (lv' := [(3, .int 2000000000), (0, .ref yh), (1, .int p0), (2, .int p1)]) hx hb dX5_endOf_2 rfl hl (by decide) rfl (fun ls hl => ?_)
  refine lv_iconst (v := 0) hx hb dX5_endOf_3 (by decide) ?_
  refine lv_istore (lv' := [(4, .int 0), (3, .int 2000000000), (0, .ref yh), (1, .int p0), (2, .int p1)]) hx hb dX5_endOf_4 hl (by decide) rfl (fun ls hl => ?_)
  have loop_1 : ∀ (N_3 : Nat) (L4_6 : Int32) (L3_6 : Int32)  (ls : Array Slot), 3 - L4_6.toInt < (N_3 : Int) → (0 ≤ L4_6.toInt ∧ L4_6.toInt ≤ 3) → ((0 ≤ p0.toInt ∧ p0.toInt < ysights.toInt) → L3_6 = enX (fun k => tmX ystage yvoyage ysailed yf1 yf2 yf4 yf5 yf6 p0 (Int32.ofNat k)) (fun k => wdX ystage yvoyage ysailed yf3 yf5 p0 (Int32.ofNat k)) p1.toInt (L4_6).toNatClampNeg) → lv_has ls 5 [(4, .int L4_6), (3, .int L3_6), (0, .ref yh), (1, .int p0), (2, .int p1)] → W p l e (headSpec (wl yX5_endOf cX5_endOf 5 (some .int)) (RM 3 0 0)).room s m [Value.ref yh, .int p0, .int p1].toArray below meth c s.heap [] 0 0 (MQ below (rd_Q (fun r => ((0 ≤ p0.toInt ∧ p0.toInt < ysights.toInt) → r = enX (fun k => tmX ystage yvoyage ysailed yf1 yf2 yf4 yf5 yf6 p0 (Int32.ofNat k)) (fun k => wdX ystage yvoyage ysailed yf3 yf5 p0 (Int32.ofNat k)) p1.toInt 3))) [Value.ref yh, .int p0, .int p1].toArray s 0 0 (fun _ => False)) (F0 m 6 ls []) := by
    intro N_3
    induction N_3 with
    | zero => intro L4_6 L3_6  ls hm v0_6 v1_6 _; exfalso; omega
    | succ N_3 ih_2 =>
      intro L4_6 L3_6 ls hm v0_6 v1_6 hl
      have lo_L4_6 := i_lo L4_6; have hi_L4_6 := i_hi L4_6
      have lo_L3_6 := i_lo L3_6; have hi_L3_6 := i_hi L3_6
      refine lv_iload hx hb dX5_endOf_6 (lv_at hl 0 rfl) ?_
      refine lv_iconst (v := 3) hx hb dX5_endOf_8 (by decide) ?_
      refine lv_icmp_ge (tgt := 44) hx hb dX5_endOf_9 (by decide) (fun c_4 => ?_) (fun c_4 => ?_)
      ·
        have ic_4 : 3 ≤ L4_6.toInt := by first | exact (g_le t_3 rfl).mp c_4 | (have h := mt (g_lt rfl t_3).mpr c_4; omega)
        clear c_4
        refine lv_iload_n hx hb dX5_endOf_44 rfl (lv_at hl 1 rfl) ?_
        exact W.iret (v := L3_6) hx hb hr (fun t ht hW => ⟨L3_6, rfl, (fun hO => by have e3 : (L4_6).toNatClampNeg = 3 := (by have c9 := i_clamp0 (x := L4_6) (by omega); omega); have v9 := v1_6 hO; rw [e3] at v9; exact v9), ht⟩) (fun q h => by cases h) dX5_endOf_45
      ·
        have ic_4 : L4_6.toInt < 3 := by first | exact (g_lt rfl t_3).mp c_4 | (have h := mt (g_le t_3 rfl).mpr c_4; omega)
        clear c_4
        refine lv_iload hx hb dX5_endOf_12 (lv_at hl 0 rfl) ?_
        refine lv_iload_n hx hb dX5_endOf_14 rfl (lv_at hl 4 rfl) ?_
        refine lv_icmp_eq (tgt := 38) hx hb dX5_endOf_15 (by decide) (fun c_5 => ?_) (fun c_5 => ?_)
        ·
          have ic_5 : L4_6.toInt = p1.toInt := (g_eq rfl rfl).mp c_5
          clear c_5
          obtain ⟨z_6, ez_6⟩ : ∃ y : Int32, y = L4_6 + 1 := ⟨_, rfl⟩
          have jz_6 : z_6.toInt = L4_6.toInt + 1 := by rw [ez_6]; exact g_add rfl t_1 (by omega) (by omega)
          refine lv_iinc (v := z_6) (lv' := [(4, .int z_6), (3, .int L3_6), (0, .ref yh), (1, .int p0), (2, .int p1)]) hx hb dX5_endOf_38 hl (k := 0) rfl (by rw [ez_6]; rfl) (by decide) rfl (fun ls hl => ?_)
          refine lv_goto (tgt := 6) hx hb dX5_endOf_41 (by decide) ?_
          exact ih_2 z_6 L3_6 _ (by (try dsimp only); omega) (by (try dsimp only); omega) (fun hO => en_n (v1_6 hO) (by omega) jz_6 (by omega)) (lv_sub hl [0, 1, 2, 3, 4] rfl)
        ·
          have ic_5 : L4_6.toInt ≠ p1.toInt := mt (g_eq rfl rfl).mpr c_5
          clear c_5
          refine lv_iload_n hx hb dX5_endOf_18 rfl (lv_at hl 1 rfl) ?_
          refine lv_aload_n hx hb dX5_endOf_19 rfl (lv_at hl 2 rfl) ?_
          refine lv_iload_n hx hb dX5_endOf_20 rfl (lv_at hl 3 rfl) ?_
          refine lv_iload hx hb dX5_endOf_21 (lv_at hl 0 rfl) ?_
          refine callRV (rest := [.int L3_6]) (As := [.int p0, .int L4_6]) hx hb hml hown htb hK (g_X5_timeOf l D E yh ya ysights ystage ysailed yvoyage yf1 yf2 yf4 yf5 yf6 p0 L4_6 (by (try dsimp only); omega)) ok_X5_timeOf k_855 k_843 k_844 k_8 k_845 ⟨(Nat.le_of_ble_eq_true rfl), (Nat.le_of_ble_eq_true rfl)⟩ ⟨(Nat.le_of_ble_eq_true rfl), (Nat.le_of_ble_eq_true rfl)⟩ hl.1 (Nat.le_of_ble_eq_true rfl) rfl rfl dX5_endOf_23 (hP.sub (ws' := [(yh, .inr (5, G5 ya ysights ystage ysailed yvoyage)), ((ya 1), .inl (E 0, 3, .inl yf1)), ((ya 2), .inl (E 0, 3, .inl yf2)), ((ya 4), .inl (E 0, 3, .inl yf4)), ((ya 5), .inl (E 0, 40, .inl yf5)), ((ya 6), .inl (E 0, 120, .inl yf6))]) [0, 1, 2, 4, 5, 6] rfl) rfl rfl 0 rfl (fun r_7 hw_8 => ?_)
          refine lv_aload_n hx hb dX5_endOf_26 rfl (lv_at hl 2 rfl) ?_
          refine lv_iload_n hx hb dX5_endOf_27 rfl (lv_at hl 3 rfl) ?_
          refine lv_iload hx hb dX5_endOf_28 (lv_at hl 0 rfl) ?_
          refine callRV (rest := [.int r_7, .int L3_6]) (As := [.int p0, .int L4_6]) hx hb hml hown htb hK (g_X5_widthOf l D E yh ya ysights ystage ysailed yvoyage yf3 yf5 p0 L4_6 (by (try dsimp only); omega)) ok_X5_widthOf k_863 k_830 k_831 k_8 k_832 ⟨(Nat.le_of_ble_eq_true rfl), (Nat.le_of_ble_eq_true rfl)⟩ ⟨(Nat.le_of_ble_eq_true rfl), (Nat.le_of_ble_eq_true rfl)⟩ hl.1 (Nat.le_of_ble_eq_true rfl) rfl rfl dX5_endOf_30 (hP.sub (ws' := [(yh, .inr (5, G5 ya ysights ystage ysailed yvoyage)), ((ya 3), .inl (E 0, 3, .inl yf3)), ((ya 5), .inl (E 0, 40, .inl yf5))]) [0, 3, 5] rfl) rfl rfl 0 rfl (fun r_10 hw_11 => ?_)
          refine lv_iadd hx hb dX5_endOf_33 ?_
          refine lv_topi (fun z_13 ez_13 => ?_)
          refine va_mmin hx hb (by rw [hml, hl.1]) hown (htb _ k_841) (htb _ k_725) (htb _ k_11) (htb _ k_726) (Nat.le_of_ble_eq_true rfl) (Nat.le_of_ble_eq_true rfl) (Nat.le_of_ble_eq_true rfl) (Nat.le_of_ble_eq_true rfl) dX5_endOf_34 ?_
          refine lv_topi (fun z_14 ez_14 => ?_)
          have jz_14 := g_min rfl rfl ez_14
          refine lv_istore_n (lv' := [(3, .int z_14), (4, .int L4_6), (0, .ref yh), (1, .int p0), (2, .int p1)]) hx hb dX5_endOf_37 rfl hl (by decide) rfl (fun ls hl => ?_)
          obtain ⟨z_15, ez_15⟩ : ∃ y : Int32, y = L4_6 + 1 := ⟨_, rfl⟩
          have jz_15 : z_15.toInt = L4_6.toInt + 1 := by rw [ez_15]; exact g_add rfl t_1 (by omega) (by omega)
          refine lv_iinc (v := z_15) (lv' := [(4, .int z_15), (3, .int z_14), (0, .ref yh), (1, .int p0), (2, .int p1)]) hx hb dX5_endOf_38 hl (k := 1) rfl (by rw [ez_15]; rfl) (by decide) rfl (fun ls hl => ?_)
          refine lv_goto (tgt := 6) hx hb dX5_endOf_41 (by decide) ?_
          exact ih_2 z_15 z_14 _ (by (try dsimp only); omega) (by (try dsimp only); omega) (fun hO => en_y (x := z_13) (v1_6 hO) (by omega) jz_15 (by omega) (by (try dsimp only); rw [ofN_c (by omega), ← (hw_8.resolve_right (fun h9 => h9.1 (by omega))).2, ← (hw_11.resolve_right (fun h9 => h9.1 (by omega))).2]; subst_vars; rfl) (by subst_vars; rfl)) (lv_sub hl [0, 1, 2, 3, 4] rfl)
  exact loop_1 4 0 2000000000 _ (by have h0 := t_0; have h1 := t_2000000000; (try dsimp only); omega) (by have h0 := t_0; have h1 := t_2000000000; (try dsimp only); omega) (fun _ => by rw [clamp_0]; rfl)  (lv_sub hl [0, 1, 2, 3, 4] rfl)
set_option maxHeartbeats 4000000 in
set_option maxRecDepth 100000 in
theorem g_X1_addProduct (l : Launch) (D : va_G) (E : Nat → Nat) (fh : Nat) (fa : Nat → Nat) (fn : Int64) (fsumR : Int64) (fsumW : Int64) (fsumA : Int64) (fsumWW : Int64) (fsumAA : Int64) (fsumWA : Int64) (fsumWR : Int64) (fsumAR : Int64) (fdivisor : Int64) (fbyWarmth : Int64) (fbyAge : Int64) (fform : Int32) (fwhole : Int64) (frest : Int64) (p0 : Int64) (p1 : Int64) (sz : Nat)  : Met l yX1_addProduct (wl yX1_addProduct cX1_addProduct 18 none) (RM 1 0 0) (mu_P D E [.ref fh, .long p0, .long p1] [(fh, .inr (1, G1 fa fn fsumR fsumW fsumA fsumWW fsumAA fsumWA fsumWR fsumAR fdivisor fbyWarmth fbyAge fform fwhole frest))] sz) (va_Qv (fun (u : (Int64) × (Int64)) => (((u.2, u.1) : Int64 × Int64) = adPr (fn * fdivisor) fwhole frest p0 p1)) (mu_B D (va_A [(fh, .inr (1, G1 fa fn fsumR fsumW fsumA fsumWW fsumAA fsumWA fsumWR fsumAR fdivisor fbyWarmth fbyAge fform fwhole frest))] sz) (fun (u : (Int64) × (Int64)) => [(fh, .inr (1, G1 fa fn fsumR fsumW fsumA fsumWW fsumAA fsumWA fsumWR fsumAR fdivisor fbyWarmth fbyAge fform u.2 u.1))])) (va_A [(fh, .inr (1, G1 fa fn fsumR fsumW fsumA fsumWW fsumAA fsumWA fsumWR fsumAR fdivisor fbyWarmth fbyAge fform fwhole frest))] sz)) 0 0 (va_A [(fh, .inr (1, G1 fa fn fsumR fsumW fsumA fsumWW fsumAA fsumWA fsumWR fsumAR fdivisor fbyWarmth fbyAge fform fwhole frest))] sz) := by
  refine Met.ofW (cc := cX1_addProduct) (maxL := 18) (ret := none) (by decide) rfl ?_
  intro p e s m args below meth c s₁ B hml hv
  obtain ⟨rfl, hsz, hP, hK, hD0⟩ := hv
  have hx := B.exec; have hb := B.bytes; have hr := B.returns
  have hts := atoms_spec (ws := wl yX1_addProduct cX1_addProduct 18 none) B.pre
  have htb : ∀ w ∈ tb, w.before _ s = true := fun w h => hts w (List.mem_cons_of_mem _ h)
  have hown : s.vm.findClass RX1 = some m.cls := findClass_of_methodNamed B.named
  have hlocks := B.notSynchronized
  subst hsz
  have hD := hD0.self (sz := s.heap.size)
  generalize hAe : va_A [(fh, .inr (1, G1 fa fn fsumR fsumW fsumA fsumWW fsumAA fsumWA fsumWR fsumAR fdivisor fbyWarmth fbyAge fform fwhole frest))] s.heap.size = A at hD ⊢
  have hA : ∀ q : Nat, s.heap.size ≤ q → A q := fun q h => by rw [← hAe]; exact Or.inr h
  have hS : va_S A s.heap s.heap [] := va_S.rf
  have hP : va_P D vwCl [(fh, .inr (1, G1 fa fn fsumR fsumW fsumA fsumWW fsumAA fsumWA fsumWR fsumAR fdivisor fbyWarmth fbyAge fform fwhole frest))] s.heap := hP
  have hl := lv_entry ([.ref fh, .long p0, .long p1]) (n := 18) (Nat.le_of_ble_eq_true rfl)
  rw [lg_entry_eq]
  generalize (lg_sl ([.ref fh, .long p0, .long p1]) ++ List.replicate (18 - (lg_sl ([.ref fh, .long p0, .long p1])).length) Slot.unset).toArray = ls at hl ⊢
  have hl : lv_has ls 18 [(0, .ref fh), (1, .long p0), (3, .long p1)] := hl
  refine lv_aload_n hx hb dX1_addProduct_0 rfl (lv_at hl 0 rfl) ?_
  refine va_get (D := D) (ci := 1) (v := .long fn) (C := RX1) (T := TX1) (N := 15) hx hb htb iX1 hown hK.1 hP 0 rfl rfl 0 (by decide) (htb _ k_83) (fun _ h9 => h9) rfl dX1_addProduct_1 ?_
  refine lv_aload_n hx hb dX1_addProduct_4 rfl (lv_at hl 0 rfl) ?_
  refine va_get (D := D) (ci := 1) (v := .long fdivisor) (C := RX1) (T := TX1) (N := 15) hx hb htb iX1 hown hK.1 hP 0 rfl rfl 9 (by decide) (htb _ k_92) (fun _ h9 => h9) rfl dX1_addProduct_5 ?_
  refine lv_lmul hx hb dX1_addProduct_8 ?_
  refine lv_topl (fun z_1 ez_1 => ?_)
  refine lv_lstore (lv' := [(5, .long z_1), (0, .ref fh), (1, .long p0), (3, .long p1)]) hx hb dX1_addProduct_9 hl (by decide) rfl (fun ls hl => ?_)
  refine lv_lload hx hb dX1_addProduct_11 (lv_at hl 0 rfl) ?_
  refine lv_lconst (v := 0) hx hb dX1_addProduct_13 (by decide) ?_
  refine W.lcmp hx hb dX1_addProduct_14 ?_
  refine lv_topi (fun z_2 ez_2 => ?_)
  refine lv_if_gt (tgt := 19) hx hb dX1_addProduct_15 (by decide) (fun c_3 => ?_) (fun c_3 => ?_)
  ·
    have lc_4I : (0 : Int64).toInt < (z_1 : Int64).toInt := lc_gtI (by rw [← ez_2]; first | exact Or.inl c_3 | exact Or.inr c_3)
    have lc_4 : ¬ (z_1 : Int64) = (0 : Int64) := lc_gt (by rw [← ez_2]; first | exact Or.inl c_3 | exact Or.inr c_3)
    refine lv_lload_n hx hb dX1_addProduct_19 rfl (lv_at hl 3 rfl) ?_
    refine lv_lconst (v := 0) hx hb dX1_addProduct_20 (by decide) ?_
    refine W.lcmp hx hb dX1_addProduct_21 ?_
    refine lv_topi (fun z_5 ez_5 => ?_)
    refine lv_if_ge (tgt := 30) hx hb dX1_addProduct_22 (by decide) (fun c_6 => ?_) (fun c_6 => ?_)
    ·
      have lc_7I : (0 : Int64).toInt ≤ (p1 : Int64).toInt := lc_geI (by rw [← ez_5]; first | exact Or.inl c_6 | exact Or.inr c_6)
      refine lv_lload_n hx hb dX1_addProduct_30 rfl (lv_at hl 2 rfl) ?_
      refine lv_lstore (lv' := [(7, .long p0), (5, .long z_1), (0, .ref fh), (1, .long p0), (3, .long p1)]) hx hb dX1_addProduct_31 hl (by decide) rfl (fun ls hl => ?_)
      refine lv_lload_n hx hb dX1_addProduct_33 rfl (lv_at hl 4 rfl) ?_
      refine callLS (rest := []) (As := [.long p1]) hx hb hml hown htb hK (g_J9_abs_067f4 l D E p1 ) ok_J9_abs_067f4 k_546 k_547 k_11 k_548 ⟨(Nat.le_of_ble_eq_true rfl), (Nat.le_of_ble_eq_true rfl)⟩ ⟨(Nat.le_of_ble_eq_true rfl), (Nat.le_of_ble_eq_true rfl)⟩ hl.1 (Nat.le_of_ble_eq_true rfl) rfl rfl dX1_addProduct_34 (hP.sub (ws' := ([] : va_W)) [] rfl) (fun r_8 hw_9 => ?_)
      refine lv_lstore (lv' := [(9, .long r_8), (7, .long p0), (5, .long z_1), (0, .ref fh), (1, .long p0), (3, .long p1)]) hx hb dX1_addProduct_37 hl (by decide) rfl (fun ls hl => ?_)
      refine lv_lload hx hb dX1_addProduct_39 (lv_at hl 1 rfl) ?_
      refine lv_lload hx hb dX1_addProduct_41 (lv_at hl 2 rfl) ?_
      refine callLS (rest := []) (As := [.long p0, .long z_1]) hx hb hml hown htb hK (g_J9_floorMod_f86c9 l D E p0 z_1 lc_4) ok_J9_floorMod_f86c9 k_549 k_550 k_11 k_551 ⟨(Nat.le_of_ble_eq_true rfl), (Nat.le_of_ble_eq_true rfl)⟩ ⟨(Nat.le_of_ble_eq_true rfl), (Nat.le_of_ble_eq_true rfl)⟩ hl.1 (Nat.le_of_ble_eq_true rfl) rfl rfl dX1_addProduct_43 (hP.sub (ws' := ([] : va_W)) [] rfl) (fun r_11 hw_12 => ?_)
      refine lv_lstore (lv' := [(11, .long r_11), (9, .long r_8), (7, .long p0), (5, .long z_1), (0, .ref fh), (1, .long p0), (3, .long p1)]) hx hb dX1_addProduct_46 hl (by decide) rfl (fun ls hl => ?_)
      refine lv_aload_n hx hb dX1_addProduct_48 rfl (lv_at hl 4 rfl) ?_
      refine lv_dup hx hb dX1_addProduct_49 rfl ?_
      refine va_get (D := D) (ci := 1) (v := .long fwhole) (C := RX1) (T := TX1) (N := 15) hx hb htb iX1 hown hK.1 hP 0 rfl rfl 13 (by decide) (htb _ k_96) (fun _ h9 => h9) rfl dX1_addProduct_50 ?_
      refine lv_lload hx hb dX1_addProduct_53 (lv_at hl 2 rfl) ?_
      refine lv_lload hx hb dX1_addProduct_55 (lv_at hl 3 rfl) ?_
      refine callLS (rest := [.long fwhole, .ref fh]) (As := [.long p0, .long z_1]) hx hb hml hown htb hK (g_J9_floorDiv_f86c9 l D E p0 z_1 lc_4) ok_J9_floorDiv_f86c9 k_552 k_553 k_11 k_554 ⟨(Nat.le_of_ble_eq_true rfl), (Nat.le_of_ble_eq_true rfl)⟩ ⟨(Nat.le_of_ble_eq_true rfl), (Nat.le_of_ble_eq_true rfl)⟩ hl.1 (Nat.le_of_ble_eq_true rfl) rfl rfl dX1_addProduct_57 (hP.sub (ws' := ([] : va_W)) [] rfl) (fun r_14 hw_15 => ?_)
      refine lv_lload hx hb dX1_addProduct_60 (lv_at hl 1 rfl) ?_
      refine lv_lmul hx hb dX1_addProduct_62 ?_
      refine lv_topl (fun z_17 ez_17 => ?_)
      refine lv_ladd hx hb dX1_addProduct_63 ?_
      refine lv_topl (fun z_18 ez_18 => ?_)
      refine va_put (D := D) (ci := 1) (v := .long z_18) (ty := .long) (C := RX1) (T := TX1) (N := 15) hx hb htb iX1 tyX1 tyX1_ok nmX1 hown hK.1 hP hD hS 0 rfl rfl 13 (by decide) (htb _ k_96) (fun _ h9 => h9) rfl (by decide +kernel) rfl rfl (Nat.le_of_ble_eq_true rfl) dX1_addProduct_64 (fun H locs hP hD hS => ?_)
      have hP : va_P D vwCl [(fh, .inr (1, G1 fa fn fsumR fsumW fsumA fsumWW fsumAA fsumWA fsumWR fsumAR fdivisor fbyWarmth fbyAge fform z_18 frest))] H := hP
      have hD := toW hP hD rfl
      refine lv_lconst (v := 0) hx hb dX1_addProduct_67 (by decide) ?_
      refine lv_lstore (lv' := [(13, .long 0), (11, .long r_11), (9, .long r_8), (7, .long p0), (5, .long z_1), (0, .ref fh), (1, .long p0), (3, .long p1)]) hx hb dX1_addProduct_68 hl (by decide) rfl (fun ls hl => ?_)
      refine lv_lconst (v := 0) hx hb dX1_addProduct_70 (by decide) ?_
      refine lv_lstore (lv' := [(15, .long 0), (13, .long 0), (11, .long r_11), (9, .long r_8), (7, .long p0), (5, .long z_1), (0, .ref fh), (1, .long p0), (3, .long p1)]) hx hb dX1_addProduct_71 hl (by decide) rfl (fun ls hl => ?_)
      refine lv_bipush (v := 30) hx hb dX1_addProduct_73 (by decide) ?_
      refine lv_istore (lv' := [(17, .int 30), (15, .long 0), (13, .long 0), (11, .long r_11), (9, .long r_8), (7, .long p0), (5, .long z_1), (0, .ref fh), (1, .long p0), (3, .long p1)]) hx hb dX1_addProduct_75 hl (by decide) rfl (fun ls hl => ?_)
      have loop_19 : ∀ (N_21 : Nat) (L17_77 : Int32) (L15_77 : Int64) (L13_77 : Int64) (H : Heap) (locs : List Loc) (ls : Array Slot), L17_77.toInt + 1 < (N_21 : Int) → (-1 ≤ L17_77.toInt ∧ L17_77.toInt ≤ 30) → (((L15_77, L13_77) : Int64 × Int64) = adS z_1 r_11 r_8 (30 - L17_77.toInt).toNat) → va_P D vwCl [(fh, .inr (1, G1 fa fn fsumR fsumW fsumA fsumWW fsumAA fsumWA fsumWR fsumAR fdivisor fbyWarmth fbyAge fform z_18 frest))] H → va_D A [(fh, .inr (1, G1 fa fn fsumR fsumW fsumA fsumWW fsumAA fsumWA fsumWR fsumAR fdivisor fbyWarmth fbyAge fform z_18 frest))] → va_S A s.heap H locs → lv_has ls 18 [(17, .int L17_77), (15, .long L15_77), (13, .long L13_77), (11, .long r_11), (9, .long r_8), (7, .long p0), (5, .long z_1), (0, .ref fh), (1, .long p0), (3, .long p1)] → W p l e (headSpec (wl yX1_addProduct cX1_addProduct 18 none) (RM 1 0 0)).room s m [Value.ref fh, .long p0, .long p1].toArray below meth c H locs 0 0 (MQ below (va_Qv (fun (u : (Int64) × (Int64)) => (((u.2, u.1) : Int64 × Int64) = adPr (fn * fdivisor) fwhole frest p0 p1)) (mu_B D A (fun (u : (Int64) × (Int64)) => [(fh, .inr (1, G1 fa fn fsumR fsumW fsumA fsumWW fsumAA fsumWA fsumWR fsumAR fdivisor fbyWarmth fbyAge fform u.2 u.1))])) A) [Value.ref fh, .long p0, .long p1].toArray s 0 0 A) (F0 m 77 ls []) := by
        intro N_21
        induction N_21 with
        | zero => intro L17_77 L15_77 L13_77 H locs ls hm v0_77 v1_77 _ _ _ _; exfalso; omega
        | succ N_21 ih_20 =>
          intro L17_77 L15_77 L13_77 H locs ls hm v0_77 v1_77 hP hD hS hl
          have lo_L17_77 := i_lo L17_77; have hi_L17_77 := i_hi L17_77
          refine lv_iload hx hb dX1_addProduct_77 (lv_at hl 0 rfl) ?_
          refine lv_if_lt (tgt := 128) hx hb dX1_addProduct_79 (by decide) (fun c_22 => ?_) (fun c_22 => ?_)
          ·
            have ic_22 : L17_77.toInt < 0 := by first | exact (g_lt rfl t_0).mp c_22 | (have h := mt (g_le t_0 rfl).mpr c_22; omega)
            clear c_22
            refine lv_aload_n hx hb dX1_addProduct_128 rfl (lv_at hl 7 rfl) ?_
            refine lv_dup hx hb dX1_addProduct_129 rfl ?_
            refine va_get (D := D) (ci := 1) (v := .long frest) (C := RX1) (T := TX1) (N := 15) hx hb htb iX1 hown hK.1 hP 0 rfl rfl 14 (by decide) (htb _ k_97) (fun _ h9 => h9) rfl dX1_addProduct_130 ?_
            refine lv_lload hx hb dX1_addProduct_133 (lv_at hl 1 rfl) ?_
            refine lv_ladd hx hb dX1_addProduct_135 ?_
            refine lv_topl (fun z_23 ez_23 => ?_)
            refine va_put (D := D) (ci := 1) (v := .long z_23) (ty := .long) (C := RX1) (T := TX1) (N := 15) hx hb htb iX1 tyX1 tyX1_ok nmX1 hown hK.1 hP hD hS 0 rfl rfl 14 (by decide) (htb _ k_97) (fun _ h9 => h9) rfl (by decide +kernel) rfl rfl (Nat.le_of_ble_eq_true rfl) dX1_addProduct_136 (fun H locs hP hD hS => ?_)
            have hP : va_P D vwCl [(fh, .inr (1, G1 fa fn fsumR fsumW fsumA fsumWW fsumAA fsumWA fsumWR fsumAR fdivisor fbyWarmth fbyAge fform z_18 z_23))] H := hP
            have hD := toW hP hD rfl
            refine lv_aload_n hx hb dX1_addProduct_139 rfl (lv_at hl 7 rfl) ?_
            refine lv_dup hx hb dX1_addProduct_140 rfl ?_
            refine va_get (D := D) (ci := 1) (v := .long z_18) (C := RX1) (T := TX1) (N := 15) hx hb htb iX1 hown hK.1 hP 0 rfl rfl 13 (by decide) (htb _ k_96) (fun _ h9 => h9) rfl dX1_addProduct_141 ?_
            refine lv_lload hx hb dX1_addProduct_144 (lv_at hl 2 rfl) ?_
            refine lv_aload_n hx hb dX1_addProduct_146 rfl (lv_at hl 7 rfl) ?_
            refine va_get (D := D) (ci := 1) (v := .long z_23) (C := RX1) (T := TX1) (N := 15) hx hb htb iX1 hown hK.1 hP 0 rfl rfl 14 (by decide) (htb _ k_97) (fun _ h9 => h9) rfl dX1_addProduct_147 ?_
            refine lv_lload hx hb dX1_addProduct_150 (lv_at hl 6 rfl) ?_
            refine lv_ldiv hx hb dX1_addProduct_152 lc_4 ?_
            refine lv_topl (fun z_24 ez_24 => ?_)
            refine lv_ladd hx hb dX1_addProduct_153 ?_
            refine lv_topl (fun z_25 ez_25 => ?_)
            refine lv_ladd hx hb dX1_addProduct_154 ?_
            refine lv_topl (fun z_26 ez_26 => ?_)
            refine va_put (D := D) (ci := 1) (v := .long z_26) (ty := .long) (C := RX1) (T := TX1) (N := 15) hx hb htb iX1 tyX1 tyX1_ok nmX1 hown hK.1 hP hD hS 0 rfl rfl 13 (by decide) (htb _ k_96) (fun _ h9 => h9) rfl (by decide +kernel) rfl rfl (Nat.le_of_ble_eq_true rfl) dX1_addProduct_155 (fun H locs hP hD hS => ?_)
            have hP : va_P D vwCl [(fh, .inr (1, G1 fa fn fsumR fsumW fsumA fsumWW fsumAA fsumWA fsumWR fsumAR fdivisor fbyWarmth fbyAge fform z_26 z_23))] H := hP
            have hD := toW hP hD rfl
            refine lv_aload_n hx hb dX1_addProduct_158 rfl (lv_at hl 7 rfl) ?_
            refine lv_aload_n hx hb dX1_addProduct_159 rfl (lv_at hl 7 rfl) ?_
            refine va_get (D := D) (ci := 1) (v := .long z_23) (C := RX1) (T := TX1) (N := 15) hx hb htb iX1 hown hK.1 hP 0 rfl rfl 14 (by decide) (htb _ k_97) (fun _ h9 => h9) rfl dX1_addProduct_160 ?_
            refine lv_lload hx hb dX1_addProduct_163 (lv_at hl 6 rfl) ?_
            refine lv_lrem hx hb dX1_addProduct_165 lc_4 ?_
            refine lv_topl (fun z_27 ez_27 => ?_)
            refine va_put (D := D) (ci := 1) (v := .long z_27) (ty := .long) (C := RX1) (T := TX1) (N := 15) hx hb htb iX1 tyX1 tyX1_ok nmX1 hown hK.1 hP hD hS 0 rfl rfl 14 (by decide) (htb _ k_97) (fun _ h9 => h9) rfl (by decide +kernel) rfl rfl (Nat.le_of_ble_eq_true rfl) dX1_addProduct_166 (fun H locs hP hD hS => ?_)
            have hP : va_P D vwCl [(fh, .inr (1, G1 fa fn fsumR fsumW fsumA fsumWW fsumAA fsumWA fsumWR fsumAR fdivisor fbyWarmth fbyAge fform z_26 z_27))] H := hP
            have hD := toW hP hD rfl
            have hP9 := hP.sub (ws' := [(fh, .inr (1, G1 fa fn fsumR fsumW fsumA fsumWW fsumAA fsumWA fsumWR fsumAR fdivisor fbyWarmth fbyAge fform z_26 z_27))]) [0] rfl
            have hD9 := hD.sub (ws' := [(fh, .inr (1, G1 fa fn fsumR fsumW fsumA fsumWW fsumAA fsumWA fsumWR fsumAR fdivisor fbyWarmth fbyAge fform z_26 z_27))]) [0] (by decide) rfl
            exact W.vret hx hb hr (fun t ht hW => ⟨⟨(z_27, z_26), rfl, (by have w := v1_77; rw [show (30 - L17_77.toInt).toNat = 31 by omega] at w; (try dsimp only); unfold adPr; rw [if_neg (by have h0 : (0 : Int64).toInt = 0 := (by decide); rw [← ez_1]; have h9 := lc_4I; omega), if_pos (by have h0 : (0 : Int64).toInt = 0 := (by decide); have h9 := lc_7I; omega)]; (try dsimp only); rw [← ez_1, ← hw_9, ← hw_12, ← hw_15, ← w]; subst_vars; rfl), by rw [ht]; exact hP9, hD9⟩, hS.F ht⟩) hS.2.2 dX1_addProduct_169
          ·
            have ic_22 : 0 ≤ L17_77.toInt := by first | exact (g_le t_0 rfl).mp c_22 | (have h := mt (g_lt rfl t_0).mpr c_22; omega)
            clear c_22
            refine lv_ldc2 hx hb hown (htb _ k_555) dX1_addProduct_82 ?_
            refine lv_lload hx hb dX1_addProduct_85 (lv_at hl 1 rfl) ?_
            refine lv_lmul hx hb dX1_addProduct_87 ?_
            refine lv_topl (fun z_28 ez_28 => ?_)
            refine lv_lload hx hb dX1_addProduct_88 (lv_at hl 4 rfl) ?_
            refine lv_iload hx hb dX1_addProduct_90 (lv_at hl 0 rfl) ?_
            refine lv_lshr hx hb dX1_addProduct_92 rfl ?_
            refine lv_topl (fun z_29 ez_29 => ?_)
            refine lv_lconst (v := 1) hx hb dX1_addProduct_93 (by decide) ?_
            refine lv_land hx hb dX1_addProduct_94 ?_
            refine lv_topl (fun z_30 ez_30 => ?_)
            refine lv_lload hx hb dX1_addProduct_95 (lv_at hl 3 rfl) ?_
            refine lv_lmul hx hb dX1_addProduct_97 ?_
            refine lv_topl (fun z_31 ez_31 => ?_)
            refine lv_ladd hx hb dX1_addProduct_98 ?_
            refine lv_topl (fun z_32 ez_32 => ?_)
            refine lv_lstore (lv' := [(15, .long z_32), (17, .int L17_77), (13, .long L13_77), (11, .long r_11), (9, .long r_8), (7, .long p0), (5, .long z_1), (0, .ref fh), (1, .long p0), (3, .long p1)]) hx hb dX1_addProduct_99 hl (by decide) rfl (fun ls hl => ?_)
            refine lv_ldc2 hx hb hown (htb _ k_555) dX1_addProduct_101 ?_
            refine lv_lload hx hb dX1_addProduct_104 (lv_at hl 2 rfl) ?_
            refine lv_lmul hx hb dX1_addProduct_106 ?_
            refine lv_topl (fun z_33 ez_33 => ?_)
            refine lv_lload hx hb dX1_addProduct_107 (lv_at hl 0 rfl) ?_
            refine lv_lload hx hb dX1_addProduct_109 (lv_at hl 6 rfl) ?_
            refine lv_ldiv hx hb dX1_addProduct_111 lc_4 ?_
            refine lv_topl (fun z_34 ez_34 => ?_)
            refine lv_ladd hx hb dX1_addProduct_112 ?_
            refine lv_topl (fun z_35 ez_35 => ?_)
            refine lv_lstore (lv' := [(13, .long z_35), (15, .long z_32), (17, .int L17_77), (11, .long r_11), (9, .long r_8), (7, .long p0), (5, .long z_1), (0, .ref fh), (1, .long p0), (3, .long p1)]) hx hb dX1_addProduct_113 hl (by decide) rfl (fun ls hl => ?_)
            refine lv_lload hx hb dX1_addProduct_115 (lv_at hl 1 rfl) ?_
            refine lv_lload hx hb dX1_addProduct_117 (lv_at hl 6 rfl) ?_
            refine lv_lrem hx hb dX1_addProduct_119 lc_4 ?_
            refine lv_topl (fun z_36 ez_36 => ?_)
            refine lv_lstore (lv' := [(15, .long z_36), (13, .long z_35), (17, .int L17_77), (11, .long r_11), (9, .long r_8), (7, .long p0), (5, .long z_1), (0, .ref fh), (1, .long p0), (3, .long p1)]) hx hb dX1_addProduct_120 hl (by decide) rfl (fun ls hl => ?_)
            obtain ⟨z_37, ez_37⟩ : ∃ y : Int32, y = L17_77 + (-1) := ⟨_, rfl⟩
            have jz_37 : z_37.toInt = L17_77.toInt + -1 := by rw [ez_37]; exact g_add rfl t_m1 (by omega) (by omega)
            refine lv_iinc (v := z_37) (lv' := [(17, .int z_37), (15, .long z_36), (13, .long z_35), (11, .long r_11), (9, .long r_8), (7, .long p0), (5, .long z_1), (0, .ref fh), (1, .long p0), (3, .long p1)]) hx hb dX1_addProduct_122 hl (k := 2) rfl (by rw [ez_37]; rfl) (by decide) rfl (fun ls hl => ?_)
            refine lv_goto (tgt := 77) hx hb dX1_addProduct_125 (by decide) ?_
            exact ih_20 z_37 z_36 z_35 _ _ _ (by (try dsimp only); omega) (by (try dsimp only); omega) (by rw [show (30 - z_37.toInt).toNat = (30 - L17_77.toInt).toNat + 1 by omega, adS_s, bit_ix (by omega), ← v1_77]; unfold adG; (try dsimp only); rw [ez_36, ez_35, ez_34, ez_33, ez_32, ez_31, ez_30, ez_29, ez_28]) hP hD hS (lv_sub hl [0, 1, 2, 3, 4, 5, 6, 7, 8, 9] rfl)
      exact loop_19 32 30 0 0 _ _ _ (by have h0 := t_30; (try dsimp only); omega) (by have h0 := t_30; (try dsimp only); omega) (by rw [show (30 - (30 : Int32).toInt).toNat = 0 by decide]; rfl) hP hD hS (lv_sub hl [0, 1, 2, 3, 4, 5, 6, 7, 8, 9] rfl)
    ·
      have lc_38I : (p1 : Int64).toInt < (0 : Int64).toInt := lc_ltI (by rw [← ez_5]; first | exact Or.inl c_6 | exact Or.inr c_6)
      refine lv_lload_n hx hb dX1_addProduct_25 rfl (lv_at hl 2 rfl) ?_
      refine lv_lneg hx hb dX1_addProduct_26 ?_
      refine lv_topl (fun z_39 ez_39 => ?_)
      refine lv_goto (tgt := 31) hx hb dX1_addProduct_27 (by decide) ?_
      refine lv_lstore (lv' := [(7, .long z_39), (5, .long z_1), (0, .ref fh), (1, .long p0), (3, .long p1)]) hx hb dX1_addProduct_31 hl (by decide) rfl (fun ls hl => ?_)
      refine lv_lload_n hx hb dX1_addProduct_33 rfl (lv_at hl 4 rfl) ?_
      refine callLS (rest := []) (As := [.long p1]) hx hb hml hown htb hK (g_J9_abs_067f4 l D E p1 ) ok_J9_abs_067f4 k_546 k_547 k_11 k_548 ⟨(Nat.le_of_ble_eq_true rfl), (Nat.le_of_ble_eq_true rfl)⟩ ⟨(Nat.le_of_ble_eq_true rfl), (Nat.le_of_ble_eq_true rfl)⟩ hl.1 (Nat.le_of_ble_eq_true rfl) rfl rfl dX1_addProduct_34 (hP.sub (ws' := ([] : va_W)) [] rfl) (fun r_40 hw_41 => ?_)
      refine lv_lstore (lv' := [(9, .long r_40), (7, .long z_39), (5, .long z_1), (0, .ref fh), (1, .long p0), (3, .long p1)]) hx hb dX1_addProduct_37 hl (by decide) rfl (fun ls hl => ?_)
      refine lv_lload hx hb dX1_addProduct_39 (lv_at hl 1 rfl) ?_
      refine lv_lload hx hb dX1_addProduct_41 (lv_at hl 2 rfl) ?_
      refine callLS (rest := []) (As := [.long z_39, .long z_1]) hx hb hml hown htb hK (g_J9_floorMod_f86c9 l D E z_39 z_1 lc_4) ok_J9_floorMod_f86c9 k_549 k_550 k_11 k_551 ⟨(Nat.le_of_ble_eq_true rfl), (Nat.le_of_ble_eq_true rfl)⟩ ⟨(Nat.le_of_ble_eq_true rfl), (Nat.le_of_ble_eq_true rfl)⟩ hl.1 (Nat.le_of_ble_eq_true rfl) rfl rfl dX1_addProduct_43 (hP.sub (ws' := ([] : va_W)) [] rfl) (fun r_43 hw_44 => ?_)
      refine lv_lstore (lv' := [(11, .long r_43), (9, .long r_40), (7, .long z_39), (5, .long z_1), (0, .ref fh), (1, .long p0), (3, .long p1)]) hx hb dX1_addProduct_46 hl (by decide) rfl (fun ls hl => ?_)
      refine lv_aload_n hx hb dX1_addProduct_48 rfl (lv_at hl 4 rfl) ?_
      refine lv_dup hx hb dX1_addProduct_49 rfl ?_
      refine va_get (D := D) (ci := 1) (v := .long fwhole) (C := RX1) (T := TX1) (N := 15) hx hb htb iX1 hown hK.1 hP 0 rfl rfl 13 (by decide) (htb _ k_96) (fun _ h9 => h9) rfl dX1_addProduct_50 ?_
      refine lv_lload hx hb dX1_addProduct_53 (lv_at hl 2 rfl) ?_
      refine lv_lload hx hb dX1_addProduct_55 (lv_at hl 3 rfl) ?_
      refine callLS (rest := [.long fwhole, .ref fh]) (As := [.long z_39, .long z_1]) hx hb hml hown htb hK (g_J9_floorDiv_f86c9 l D E z_39 z_1 lc_4) ok_J9_floorDiv_f86c9 k_552 k_553 k_11 k_554 ⟨(Nat.le_of_ble_eq_true rfl), (Nat.le_of_ble_eq_true rfl)⟩ ⟨(Nat.le_of_ble_eq_true rfl), (Nat.le_of_ble_eq_true rfl)⟩ hl.1 (Nat.le_of_ble_eq_true rfl) rfl rfl dX1_addProduct_57 (hP.sub (ws' := ([] : va_W)) [] rfl) (fun r_46 hw_47 => ?_)
      refine lv_lload hx hb dX1_addProduct_60 (lv_at hl 1 rfl) ?_
      refine lv_lmul hx hb dX1_addProduct_62 ?_
      refine lv_topl (fun z_49 ez_49 => ?_)
      refine lv_ladd hx hb dX1_addProduct_63 ?_
      refine lv_topl (fun z_50 ez_50 => ?_)
      refine va_put (D := D) (ci := 1) (v := .long z_50) (ty := .long) (C := RX1) (T := TX1) (N := 15) hx hb htb iX1 tyX1 tyX1_ok nmX1 hown hK.1 hP hD hS 0 rfl rfl 13 (by decide) (htb _ k_96) (fun _ h9 => h9) rfl (by decide +kernel) rfl rfl (Nat.le_of_ble_eq_true rfl) dX1_addProduct_64 (fun H locs hP hD hS => ?_)
      have hP : va_P D vwCl [(fh, .inr (1, G1 fa fn fsumR fsumW fsumA fsumWW fsumAA fsumWA fsumWR fsumAR fdivisor fbyWarmth fbyAge fform z_50 frest))] H := hP
      have hD := toW hP hD rfl
      refine lv_lconst (v := 0) hx hb dX1_addProduct_67 (by decide) ?_
      refine lv_lstore (lv' := [(13, .long 0), (11, .long r_43), (9, .long r_40), (7, .long z_39), (5, .long z_1), (0, .ref fh), (1, .long p0), (3, .long p1)]) hx hb dX1_addProduct_68 hl (by decide) rfl (fun ls hl => ?_)
      refine lv_lconst (v := 0) hx hb dX1_addProduct_70 (by decide) ?_
      refine lv_lstore (lv' := [(15, .long 0), (13, .long 0), (11, .long r_43), (9, .long r_40), (7, .long z_39), (5, .long z_1), (0, .ref fh), (1, .long p0), (3, .long p1)]) hx hb dX1_addProduct_71 hl (by decide) rfl (fun ls hl => ?_)
      refine lv_bipush (v := 30) hx hb dX1_addProduct_73 (by decide) ?_
      refine lv_istore (lv' := [(17, .int 30), (15, .long 0), (13, .long 0), (11, .long r_43), (9, .long r_40), (7, .long z_39), (5, .long z_1), (0, .ref fh), (1, .long p0), (3, .long p1)]) hx hb dX1_addProduct_75 hl (by decide) rfl (fun ls hl => ?_)
      have loop_51 : ∀ (N_53 : Nat) (L17_77 : Int32) (L15_77 : Int64) (L13_77 : Int64) (H : Heap) (locs : List Loc) (ls : Array Slot), L17_77.toInt + 1 < (N_53 : Int) → (-1 ≤ L17_77.toInt ∧ L17_77.toInt ≤ 30) → (((L15_77, L13_77) : Int64 × Int64) = adS z_1 r_43 r_40 (30 - L17_77.toInt).toNat) → va_P D vwCl [(fh, .inr (1, G1 fa fn fsumR fsumW fsumA fsumWW fsumAA fsumWA fsumWR fsumAR fdivisor fbyWarmth fbyAge fform z_50 frest))] H → va_D A [(fh, .inr (1, G1 fa fn fsumR fsumW fsumA fsumWW fsumAA fsumWA fsumWR fsumAR fdivisor fbyWarmth fbyAge fform z_50 frest))] → va_S A s.heap H locs → lv_has ls 18 [(17, .int L17_77), (15, .long L15_77), (13, .long L13_77), (11, .long r_43), (9, .long r_40), (7, .long z_39), (5, .long z_1), (0, .ref fh), (1, .long p0), (3, .long p1)] → W p l e (headSpec (wl yX1_addProduct cX1_addProduct 18 none) (RM 1 0 0)).room s m [Value.ref fh, .long p0, .long p1].toArray below meth c H locs 0 0 (MQ below (va_Qv (fun (u : (Int64) × (Int64)) => (((u.2, u.1) : Int64 × Int64) = adPr (fn * fdivisor) fwhole frest p0 p1)) (mu_B D A (fun (u : (Int64) × (Int64)) => [(fh, .inr (1, G1 fa fn fsumR fsumW fsumA fsumWW fsumAA fsumWA fsumWR fsumAR fdivisor fbyWarmth fbyAge fform u.2 u.1))])) A) [Value.ref fh, .long p0, .long p1].toArray s 0 0 A) (F0 m 77 ls []) := by
        intro N_53
        induction N_53 with
        | zero => intro L17_77 L15_77 L13_77 H locs ls hm v0_77 v1_77 _ _ _ _; exfalso; omega
        | succ N_53 ih_52 =>
          intro L17_77 L15_77 L13_77 H locs ls hm v0_77 v1_77 hP hD hS hl
          have lo_L17_77 := i_lo L17_77; have hi_L17_77 := i_hi L17_77
          refine lv_iload hx hb dX1_addProduct_77 (lv_at hl 0 rfl) ?_
          refine lv_if_lt (tgt := 128) hx hb dX1_addProduct_79 (by decide) (fun c_54 => ?_) (fun c_54 => ?_)
          ·
            have ic_54 : L17_77.toInt < 0 := by first | exact (g_lt rfl t_0).mp c_54 | (have h := mt (g_le t_0 rfl).mpr c_54; omega)
            clear c_54
            refine lv_aload_n hx hb dX1_addProduct_128 rfl (lv_at hl 7 rfl) ?_
            refine lv_dup hx hb dX1_addProduct_129 rfl ?_
            refine va_get (D := D) (ci := 1) (v := .long frest) (C := RX1) (T := TX1) (N := 15) hx hb htb iX1 hown hK.1 hP 0 rfl rfl 14 (by decide) (htb _ k_97) (fun _ h9 => h9) rfl dX1_addProduct_130 ?_
            refine lv_lload hx hb dX1_addProduct_133 (lv_at hl 1 rfl) ?_
            refine lv_ladd hx hb dX1_addProduct_135 ?_
            refine lv_topl (fun z_55 ez_55 => ?_)
            refine va_put (D := D) (ci := 1) (v := .long z_55) (ty := .long) (C := RX1) (T := TX1) (N := 15) hx hb htb iX1 tyX1 tyX1_ok nmX1 hown hK.1 hP hD hS 0 rfl rfl 14 (by decide) (htb _ k_97) (fun _ h9 => h9) rfl (by decide +kernel) rfl rfl (Nat.le_of_ble_eq_true rfl) dX1_addProduct_136 (fun H locs hP hD hS => ?_)
            have hP : va_P D vwCl [(fh, .inr (1, G1 fa fn fsumR fsumW fsumA fsumWW fsumAA fsumWA fsumWR fsumAR fdivisor fbyWarmth fbyAge fform z_50 z_55))] H := hP
            have hD := toW hP hD rfl
            refine lv_aload_n hx hb dX1_addProduct_139 rfl (lv_at hl 7 rfl) ?_
            refine lv_dup hx hb dX1_addProduct_140 rfl ?_
            refine va_get (D := D) (ci := 1) (v := .long z_50) (C := RX1) (T := TX1) (N := 15) hx hb htb iX1 hown hK.1 hP 0 rfl rfl 13 (by decide) (htb _ k_96) (fun _ h9 => h9) rfl dX1_addProduct_141 ?_
            refine lv_lload hx hb dX1_addProduct_144 (lv_at hl 2 rfl) ?_
            refine lv_aload_n hx hb dX1_addProduct_146 rfl (lv_at hl 7 rfl) ?_
            refine va_get (D := D) (ci := 1) (v := .long z_55) (C := RX1) (T := TX1) (N := 15) hx hb htb iX1 hown hK.1 hP 0 rfl rfl 14 (by decide) (htb _ k_97) (fun _ h9 => h9) rfl dX1_addProduct_147 ?_
            refine lv_lload hx hb dX1_addProduct_150 (lv_at hl 6 rfl) ?_
            refine lv_ldiv hx hb dX1_addProduct_152 lc_4 ?_
            refine lv_topl (fun z_56 ez_56 => ?_)
            refine lv_ladd hx hb dX1_addProduct_153 ?_
            refine lv_topl (fun z_57 ez_57 => ?_)
            refine lv_ladd hx hb dX1_addProduct_154 ?_
            refine lv_topl (fun z_58 ez_58 => ?_)
            refine va_put (D := D) (ci := 1) (v := .long z_58) (ty := .long) (C := RX1) (T := TX1) (N := 15) hx hb htb iX1 tyX1 tyX1_ok nmX1 hown hK.1 hP hD hS 0 rfl rfl 13 (by decide) (htb _ k_96) (fun _ h9 => h9) rfl (by decide +kernel) rfl rfl (Nat.le_of_ble_eq_true rfl) dX1_addProduct_155 (fun H locs hP hD hS => ?_)
            have hP : va_P D vwCl [(fh, .inr (1, G1 fa fn fsumR fsumW fsumA fsumWW fsumAA fsumWA fsumWR fsumAR fdivisor fbyWarmth fbyAge fform z_58 z_55))] H := hP
            have hD := toW hP hD rfl
            refine lv_aload_n hx hb dX1_addProduct_158 rfl (lv_at hl 7 rfl) ?_
            refine lv_aload_n hx hb dX1_addProduct_159 rfl (lv_at hl 7 rfl) ?_
            refine va_get (D := D) (ci := 1) (v := .long z_55) (C := RX1) (T := TX1) (N := 15) hx hb htb iX1 hown hK.1 hP 0 rfl rfl 14 (by decide) (htb _ k_97) (fun _ h9 => h9) rfl dX1_addProduct_160 ?_
            refine lv_lload hx hb dX1_addProduct_163 (lv_at hl 6 rfl) ?_
            refine lv_lrem hx hb dX1_addProduct_165 lc_4 ?_
            refine lv_topl (fun z_59 ez_59 => ?_)
            refine va_put (D := D) (ci := 1) (v := .long z_59) (ty := .long) (C := RX1) (T := TX1) (N := 15) hx hb htb iX1 tyX1 tyX1_ok nmX1 hown hK.1 hP hD hS 0 rfl rfl 14 (by decide) (htb _ k_97) (fun _ h9 => h9) rfl (by decide +kernel) rfl rfl (Nat.le_of_ble_eq_true rfl) dX1_addProduct_166 (fun H locs hP hD hS => ?_)
            have hP : va_P D vwCl [(fh, .inr (1, G1 fa fn fsumR fsumW fsumA fsumWW fsumAA fsumWA fsumWR fsumAR fdivisor fbyWarmth fbyAge fform z_58 z_59))] H := hP
            have hD := toW hP hD rfl
            have hP9 := hP.sub (ws' := [(fh, .inr (1, G1 fa fn fsumR fsumW fsumA fsumWW fsumAA fsumWA fsumWR fsumAR fdivisor fbyWarmth fbyAge fform z_58 z_59))]) [0] rfl
            have hD9 := hD.sub (ws' := [(fh, .inr (1, G1 fa fn fsumR fsumW fsumA fsumWW fsumAA fsumWA fsumWR fsumAR fdivisor fbyWarmth fbyAge fform z_58 z_59))]) [0] (by decide) rfl
            exact W.vret hx hb hr (fun t ht hW => ⟨⟨(z_59, z_58), rfl, (by have w := v1_77; rw [show (30 - L17_77.toInt).toNat = 31 by omega] at w; (try dsimp only); unfold adPr; rw [if_neg (by have h0 : (0 : Int64).toInt = 0 := (by decide); rw [← ez_1]; have h9 := lc_4I; omega), if_neg (by have h0 : (0 : Int64).toInt = 0 := (by decide); have h9 := lc_38I; omega)]; (try dsimp only); rw [← ez_1, ← ez_39, ← hw_41, ← hw_44, ← hw_47, ← w]; subst_vars; rfl), by rw [ht]; exact hP9, hD9⟩, hS.F ht⟩) hS.2.2 dX1_addProduct_169
          ·
            have ic_54 : 0 ≤ L17_77.toInt := by first | exact (g_le t_0 rfl).mp c_54 | (have h := mt (g_lt rfl t_0).mpr c_54; omega)
            clear c_54
            refine lv_ldc2 hx hb hown (htb _ k_555) dX1_addProduct_82 ?_
            refine lv_lload hx hb dX1_addProduct_85 (lv_at hl 1 rfl) ?_
            refine lv_lmul hx hb dX1_addProduct_87 ?_
            refine lv_topl (fun z_60 ez_60 => ?_)
            refine lv_lload hx hb dX1_addProduct_88 (lv_at hl 4 rfl) ?_
            refine lv_iload hx hb dX1_addProduct_90 (lv_at hl 0 rfl) ?_
            refine lv_lshr hx hb dX1_addProduct_92 rfl ?_
            refine lv_topl (fun z_61 ez_61 => ?_)
            refine lv_lconst (v := 1) hx hb dX1_addProduct_93 (by decide) ?_
            refine lv_land hx hb dX1_addProduct_94 ?_
            refine lv_topl (fun z_62 ez_62 => ?_)
            refine lv_lload hx hb dX1_addProduct_95 (lv_at hl 3 rfl) ?_
            refine lv_lmul hx hb dX1_addProduct_97 ?_
            refine lv_topl (fun z_63 ez_63 => ?_)
            refine lv_ladd hx hb dX1_addProduct_98 ?_
            refine lv_topl (fun z_64 ez_64 => ?_)
            refine lv_lstore (lv' := [(15, .long z_64), (17, .int L17_77), (13, .long L13_77), (11, .long r_43), (9, .long r_40), (7, .long z_39), (5, .long z_1), (0, .ref fh), (1, .long p0), (3, .long p1)]) hx hb dX1_addProduct_99 hl (by decide) rfl (fun ls hl => ?_)
            refine lv_ldc2 hx hb hown (htb _ k_555) dX1_addProduct_101 ?_
            refine lv_lload hx hb dX1_addProduct_104 (lv_at hl 2 rfl) ?_
            refine lv_lmul hx hb dX1_addProduct_106 ?_
            refine lv_topl (fun z_65 ez_65 => ?_)
            refine lv_lload hx hb dX1_addProduct_107 (lv_at hl 0 rfl) ?_
            refine lv_lload hx hb dX1_addProduct_109 (lv_at hl 6 rfl) ?_
            refine lv_ldiv hx hb dX1_addProduct_111 lc_4 ?_
            refine lv_topl (fun z_66 ez_66 => ?_)
            refine lv_ladd hx hb dX1_addProduct_112 ?_
            refine lv_topl (fun z_67 ez_67 => ?_)
            refine lv_lstore (lv' := [(13, .long z_67), (15, .long z_64), (17, .int L17_77), (11, .long r_43), (9, .long r_40), (7, .long z_39), (5, .long z_1), (0, .ref fh), (1, .long p0), (3, .long p1)]) hx hb dX1_addProduct_113 hl (by decide) rfl (fun ls hl => ?_)
            refine lv_lload hx hb dX1_addProduct_115 (lv_at hl 1 rfl) ?_
            refine lv_lload hx hb dX1_addProduct_117 (lv_at hl 6 rfl) ?_
            refine lv_lrem hx hb dX1_addProduct_119 lc_4 ?_
            refine lv_topl (fun z_68 ez_68 => ?_)
            refine lv_lstore (lv' := [(15, .long z_68), (13, .long z_67), (17, .int L17_77), (11, .long r_43), (9, .long r_40), (7, .long z_39), (5, .long z_1), (0, .ref fh), (1, .long p0), (3, .long p1)]) hx hb dX1_addProduct_120 hl (by decide) rfl (fun ls hl => ?_)
            obtain ⟨z_69, ez_69⟩ : ∃ y : Int32, y = L17_77 + (-1) := ⟨_, rfl⟩
            have jz_69 : z_69.toInt = L17_77.toInt + -1 := by rw [ez_69]; exact g_add rfl t_m1 (by omega) (by omega)
            refine lv_iinc (v := z_69) (lv' := [(17, .int z_69), (15, .long z_68), (13, .long z_67), (11, .long r_43), (9, .long r_40), (7, .long z_39), (5, .long z_1), (0, .ref fh), (1, .long p0), (3, .long p1)]) hx hb dX1_addProduct_122 hl (k := 2) rfl (by rw [ez_69]; rfl) (by decide) rfl (fun ls hl => ?_)
            refine lv_goto (tgt := 77) hx hb dX1_addProduct_125 (by decide) ?_
            exact ih_52 z_69 z_68 z_67 _ _ _ (by (try dsimp only); omega) (by (try dsimp only); omega) (by rw [show (30 - z_69.toInt).toNat = (30 - L17_77.toInt).toNat + 1 by omega, adS_s, bit_ix (by omega), ← v1_77]; unfold adG; (try dsimp only); rw [ez_68, ez_67, ez_66, ez_65, ez_64, ez_63, ez_62, ez_61, ez_60]) hP hD hS (lv_sub hl [0, 1, 2, 3, 4, 5, 6, 7, 8, 9] rfl)
      exact loop_51 32 30 0 0 _ _ _ (by have h0 := t_30; (try dsimp only); omega) (by have h0 := t_30; (try dsimp only); omega) (by rw [show (30 - (30 : Int32).toInt).toNat = 0 by decide]; rfl) hP hD hS (lv_sub hl [0, 1, 2, 3, 4, 5, 6, 7, 8, 9] rfl)
  ·
    have lc_70I : (z_1 : Int64).toInt ≤ (0 : Int64).toInt := lc_leI (by rw [← ez_2]; first | exact Or.inl c_3 | exact Or.inr c_3)
    have hP9 := hP.sub (ws' := [(fh, .inr (1, G1 fa fn fsumR fsumW fsumA fsumWW fsumAA fsumWA fsumWR fsumAR fdivisor fbyWarmth fbyAge fform fwhole frest))]) [0] rfl
    have hD9 := hD.sub (ws' := [(fh, .inr (1, G1 fa fn fsumR fsumW fsumA fsumWW fsumAA fsumWA fsumWR fsumAR fdivisor fbyWarmth fbyAge fform fwhole frest))]) [0] (by decide) rfl
    exact W.vret hx hb hr (fun t ht hW => ⟨⟨(frest, fwhole), rfl, (by (try dsimp only); unfold adPr; rw [if_pos (by have h0 : (0 : Int64).toInt = 0 := (by decide); rw [← ez_1]; have h9 := lc_70I; omega)]), by rw [ht]; exact hP9, hD9⟩, hS.F ht⟩) hS.2.2 dX1_addProduct_18
set_option maxHeartbeats 4000000 in
set_option maxRecDepth 100000 in
theorem g_X1_thousandfold (l : Launch) (D : va_G) (E : Nat → Nat) (fh : Nat) (fa : Nat → Nat) (fn : Int64) (fsumR : Int64) (fsumW : Int64) (fsumA : Int64) (fsumWW : Int64) (fsumAA : Int64) (fsumWA : Int64) (fsumWR : Int64) (fsumAR : Int64) (fdivisor : Int64) (fbyWarmth : Int64) (fbyAge : Int64) (fform : Int32) (fwhole : Int64) (frest : Int64) (p0 : Int32) (p1 : Int32) (sz : Nat)  : Met l yX1_thousandfold (wl yX1_thousandfold cX1_thousandfold 3 (some .long)) (RM 2 0 0) (mu_P D E [.ref fh, .int p0, .int p1] [(fh, .inr (1, G1 fa fn fsumR fsumW fsumA fsumWW fsumAA fsumWA fsumWR fsumAR fdivisor fbyWarmth fbyAge fform fwhole frest))] sz) (va_Ql (fun (r : Int64) (u : (Int64) × (Int64)) => (r = thoX ((fn, fsumR, fsumW, fsumA, fsumWW, fsumAA, fsumWA, fsumWR, fsumAR) : S9) fdivisor fbyWarmth fbyAge p0 p1)) (mu_B D (va_A [(fh, .inr (1, G1 fa fn fsumR fsumW fsumA fsumWW fsumAA fsumWA fsumWR fsumAR fdivisor fbyWarmth fbyAge fform fwhole frest))] sz) (fun (u : (Int64) × (Int64)) => [(fh, .inr (1, G1 fa fn fsumR fsumW fsumA fsumWW fsumAA fsumWA fsumWR fsumAR fdivisor fbyWarmth fbyAge fform u.2 u.1))])) (va_A [(fh, .inr (1, G1 fa fn fsumR fsumW fsumA fsumWW fsumAA fsumWA fsumWR fsumAR fdivisor fbyWarmth fbyAge fform fwhole frest))] sz)) 0 0 (va_A [(fh, .inr (1, G1 fa fn fsumR fsumW fsumA fsumWW fsumAA fsumWA fsumWR fsumAR fdivisor fbyWarmth fbyAge fform fwhole frest))] sz) := by
  refine Met.ofW (cc := cX1_thousandfold) (maxL := 3) (ret := (some .long)) (by decide) rfl ?_
  intro p e s m args below meth c s₁ B hml hv
  obtain ⟨rfl, hsz, hP, hK, hD0⟩ := hv
  have hx := B.exec; have hb := B.bytes; have hr := B.returns
  have hts := atoms_spec (ws := wl yX1_thousandfold cX1_thousandfold 3 (some .long)) B.pre
  have htb : ∀ w ∈ tb, w.before _ s = true := fun w h => hts w (List.mem_cons_of_mem _ h)
  have hown : s.vm.findClass RX1 = some m.cls := findClass_of_methodNamed B.named
  have hlocks := B.notSynchronized
  subst hsz
  have hD := hD0.self (sz := s.heap.size)
  generalize hAe : va_A [(fh, .inr (1, G1 fa fn fsumR fsumW fsumA fsumWW fsumAA fsumWA fsumWR fsumAR fdivisor fbyWarmth fbyAge fform fwhole frest))] s.heap.size = A at hD ⊢
  have hA : ∀ q : Nat, s.heap.size ≤ q → A q := fun q h => by rw [← hAe]; exact Or.inr h
  have hS : va_S A s.heap s.heap [] := va_S.rf
  have hP : va_P D vwCl [(fh, .inr (1, G1 fa fn fsumR fsumW fsumA fsumWW fsumAA fsumWA fsumWR fsumAR fdivisor fbyWarmth fbyAge fform fwhole frest))] s.heap := hP
  have hl := lv_entry ([.ref fh, .int p0, .int p1]) (n := 3) (Nat.le_of_ble_eq_true rfl)
  rw [lg_entry_eq]
  generalize (lg_sl ([.ref fh, .int p0, .int p1]) ++ List.replicate (3 - (lg_sl ([.ref fh, .int p0, .int p1])).length) Slot.unset).toArray = ls at hl ⊢
  have hl : lv_has ls 3 [(0, .ref fh), (1, .int p0), (2, .int p1)] := hl
  have lo_p0 := i_lo p0; have hi_p0 := i_hi p0
  have lo_p1 := i_lo p1; have hi_p1 := i_hi p1
  refine lv_aload_n hx hb dX1_thousandfold_0 rfl (lv_at hl 0 rfl) ?_
  refine lv_lconst (v := 0) hx hb dX1_thousandfold_1 (by decide) ?_
  refine va_put (D := D) (ci := 1) (v := .long 0) (ty := .long) (C := RX1) (T := TX1) (N := 15) hx hb htb iX1 tyX1 tyX1_ok nmX1 hown hK.1 hP hD hS 0 rfl rfl 13 (by decide) (htb _ k_96) (fun _ h9 => h9) rfl (by decide +kernel) rfl rfl (Nat.le_of_ble_eq_true rfl) dX1_thousandfold_2 (fun H locs hP hD hS => ?_)
  have hP : va_P D vwCl [(fh, .inr (1, G1 fa fn fsumR fsumW fsumA fsumWW fsumAA fsumWA fsumWR fsumAR fdivisor fbyWarmth fbyAge fform 0 frest))] H := hP
  have hD := toW hP hD rfl
  refine lv_aload_n hx hb dX1_thousandfold_5 rfl (lv_at hl 0 rfl) ?_
  refine lv_lconst (v := 0) hx hb dX1_thousandfold_6 (by decide) ?_
  refine va_put (D := D) (ci := 1) (v := .long 0) (ty := .long) (C := RX1) (T := TX1) (N := 15) hx hb htb iX1 tyX1 tyX1_ok nmX1 hown hK.1 hP hD hS 0 rfl rfl 14 (by decide) (htb _ k_97) (fun _ h9 => h9) rfl (by decide +kernel) rfl rfl (Nat.le_of_ble_eq_true rfl) dX1_thousandfold_7 (fun H locs hP hD hS => ?_)
  have hP : va_P D vwCl [(fh, .inr (1, G1 fa fn fsumR fsumW fsumA fsumWW fsumAA fsumWA fsumWR fsumAR fdivisor fbyWarmth fbyAge fform 0 0))] H := hP
  have hD := toW hP hD rfl
  refine lv_aload_n hx hb dX1_thousandfold_10 rfl (lv_at hl 0 rfl) ?_
  refine lv_aload_n hx hb dX1_thousandfold_11 rfl (lv_at hl 0 rfl) ?_
  refine va_get (D := D) (ci := 1) (v := .long fdivisor) (C := RX1) (T := TX1) (N := 15) hx hb htb iX1 hown hK.1 hP 0 rfl rfl 9 (by decide) (htb _ k_92) (fun _ h9 => h9) rfl dX1_thousandfold_12 ?_
  refine lv_ldc2 hx hb hown (htb _ k_541) dX1_thousandfold_15 ?_
  refine lv_aload_n hx hb dX1_thousandfold_18 rfl (lv_at hl 0 rfl) ?_
  refine va_get (D := D) (ci := 1) (v := .long fsumR) (C := RX1) (T := TX1) (N := 15) hx hb htb iX1 hown hK.1 hP 0 rfl rfl 1 (by decide) (htb _ k_84) (fun _ h9 => h9) rfl dX1_thousandfold_19 ?_
  refine lv_lmul hx hb dX1_thousandfold_22 ?_
  refine lv_topl (fun z_1 ez_1 => ?_)
  have hPc := hP.sub (ws' := [(fh, .inr (1, G1 fa fn fsumR fsumW fsumA fsumWW fsumAA fsumWA fsumWR fsumAR fdivisor fbyWarmth fbyAge fform 0 0))]) [0] rfl
  have hDc := hD.sub (ws' := [(fh, .inr (1, G1 fa fn fsumR fsumW fsumA fsumWW fsumAA fsumWA fsumWR fsumAR fdivisor fbyWarmth fbyAge fform 0 0))]) [0] (by decide) rfl
  refine aft_v (runMV (rest := []) (As := [.long fdivisor, .long z_1]) hx hb hml hown htb hK (g_X1_addProduct l D E fh fa fn fsumR fsumW fsumA fsumWW fsumAA fsumWA fsumWR fsumAR fdivisor fbyWarmth fbyAge fform 0 0 fdivisor z_1 _ ) ok_X1_addProduct k_542 k_544 ks_9 k_4 k_545 ⟨(Nat.le_of_ble_eq_true rfl), (Nat.le_of_ble_eq_true rfl)⟩ ⟨(Nat.le_of_ble_eq_true rfl), (Nat.le_of_ble_eq_true rfl)⟩ hl.1 (Nat.le_of_ble_eq_true rfl) rfl rfl dX1_thousandfold_23 hPc hDc rfl rfl 0 rfl) hP hD hS hA [0] [] (wr := ([] : va_W)) rfl rfl (by decide) (by decide) (fun u_4 H locs hw_3 hP hD hS => ?_)
  clear hPc hDc
  obtain ⟨w_5, w_6⟩ := u_4
  try dsimp only at hw_3
  have hP : va_P D vwCl [(fh, .inr (1, G1 fa fn fsumR fsumW fsumA fsumWW fsumAA fsumWA fsumWR fsumAR fdivisor fbyWarmth fbyAge fform w_6 w_5))] H := hP
  have hD := toW hP hD rfl
  try simp only [t_0] at hw_3
  refine lv_aload_n hx hb dX1_thousandfold_26 rfl (lv_at hl 0 rfl) ?_
  refine lv_aload_n hx hb dX1_thousandfold_27 rfl (lv_at hl 0 rfl) ?_
  refine va_get (D := D) (ci := 1) (v := .long fbyWarmth) (C := RX1) (T := TX1) (N := 15) hx hb htb iX1 hown hK.1 hP 0 rfl rfl 10 (by decide) (htb _ k_93) (fun _ h9 => h9) rfl dX1_thousandfold_28 ?_
  refine lv_ldc2 hx hb hown (htb _ k_541) dX1_thousandfold_31 ?_
  refine lv_aload_n hx hb dX1_thousandfold_34 rfl (lv_at hl 0 rfl) ?_
  refine va_get (D := D) (ci := 1) (v := .long fn) (C := RX1) (T := TX1) (N := 15) hx hb htb iX1 hown hK.1 hP 0 rfl rfl 0 (by decide) (htb _ k_83) (fun _ h9 => h9) rfl dX1_thousandfold_35 ?_
  refine lv_iload_n hx hb dX1_thousandfold_38 rfl (lv_at hl 1 rfl) ?_
  obtain ⟨z_7, ez_7⟩ : ∃ y : Int64, (p0 : Int32).toInt64 = y := ⟨_, rfl⟩
  refine lv_i2l hx hb dX1_thousandfold_39 ez_7 ?_
  refine lv_lmul hx hb dX1_thousandfold_40 ?_
  refine lv_topl (fun z_8 ez_8 => ?_)
  refine lv_aload_n hx hb dX1_thousandfold_41 rfl (lv_at hl 0 rfl) ?_
  refine va_get (D := D) (ci := 1) (v := .long fsumW) (C := RX1) (T := TX1) (N := 15) hx hb htb iX1 hown hK.1 hP 0 rfl rfl 2 (by decide) (htb _ k_85) (fun _ h9 => h9) rfl dX1_thousandfold_42 ?_
  refine lv_lsub hx hb dX1_thousandfold_45 ?_
  refine lv_topl (fun z_9 ez_9 => ?_)
  refine lv_lmul hx hb dX1_thousandfold_46 ?_
  refine lv_topl (fun z_10 ez_10 => ?_)
  have hPc := hP.sub (ws' := [(fh, .inr (1, G1 fa fn fsumR fsumW fsumA fsumWW fsumAA fsumWA fsumWR fsumAR fdivisor fbyWarmth fbyAge fform w_6 w_5))]) [0] rfl
  have hDc := hD.sub (ws' := [(fh, .inr (1, G1 fa fn fsumR fsumW fsumA fsumWW fsumAA fsumWA fsumWR fsumAR fdivisor fbyWarmth fbyAge fform w_6 w_5))]) [0] (by decide) rfl
  refine aft_v (runMV (rest := []) (As := [.long fbyWarmth, .long z_10]) hx hb hml hown htb hK (g_X1_addProduct l D E fh fa fn fsumR fsumW fsumA fsumWW fsumAA fsumWA fsumWR fsumAR fdivisor fbyWarmth fbyAge fform w_6 w_5 fbyWarmth z_10 _ ) ok_X1_addProduct k_542 k_544 ks_9 k_4 k_545 ⟨(Nat.le_of_ble_eq_true rfl), (Nat.le_of_ble_eq_true rfl)⟩ ⟨(Nat.le_of_ble_eq_true rfl), (Nat.le_of_ble_eq_true rfl)⟩ hl.1 (Nat.le_of_ble_eq_true rfl) rfl rfl dX1_thousandfold_47 hPc hDc rfl rfl 0 rfl) hP hD hS hA [0] [] (wr := ([] : va_W)) rfl rfl (by decide) (by decide) (fun u_13 H locs hw_12 hP hD hS => ?_)
  clear hPc hDc
  obtain ⟨w_14, w_15⟩ := u_13
  try dsimp only at hw_12
  have hP : va_P D vwCl [(fh, .inr (1, G1 fa fn fsumR fsumW fsumA fsumWW fsumAA fsumWA fsumWR fsumAR fdivisor fbyWarmth fbyAge fform w_15 w_14))] H := hP
  have hD := toW hP hD rfl
  refine lv_aload_n hx hb dX1_thousandfold_50 rfl (lv_at hl 0 rfl) ?_
  refine lv_aload_n hx hb dX1_thousandfold_51 rfl (lv_at hl 0 rfl) ?_
  refine va_get (D := D) (ci := 1) (v := .long fbyAge) (C := RX1) (T := TX1) (N := 15) hx hb htb iX1 hown hK.1 hP 0 rfl rfl 11 (by decide) (htb _ k_94) (fun _ h9 => h9) rfl dX1_thousandfold_52 ?_
  refine lv_ldc2 hx hb hown (htb _ k_541) dX1_thousandfold_55 ?_
  refine lv_aload_n hx hb dX1_thousandfold_58 rfl (lv_at hl 0 rfl) ?_
  refine va_get (D := D) (ci := 1) (v := .long fn) (C := RX1) (T := TX1) (N := 15) hx hb htb iX1 hown hK.1 hP 0 rfl rfl 0 (by decide) (htb _ k_83) (fun _ h9 => h9) rfl dX1_thousandfold_59 ?_
  refine lv_iload_n hx hb dX1_thousandfold_62 rfl (lv_at hl 2 rfl) ?_
  obtain ⟨z_16, ez_16⟩ : ∃ y : Int64, (p1 : Int32).toInt64 = y := ⟨_, rfl⟩
  refine lv_i2l hx hb dX1_thousandfold_63 ez_16 ?_
  refine lv_lmul hx hb dX1_thousandfold_64 ?_
  refine lv_topl (fun z_17 ez_17 => ?_)
  refine lv_aload_n hx hb dX1_thousandfold_65 rfl (lv_at hl 0 rfl) ?_
  refine va_get (D := D) (ci := 1) (v := .long fsumA) (C := RX1) (T := TX1) (N := 15) hx hb htb iX1 hown hK.1 hP 0 rfl rfl 3 (by decide) (htb _ k_86) (fun _ h9 => h9) rfl dX1_thousandfold_66 ?_
  refine lv_lsub hx hb dX1_thousandfold_69 ?_
  refine lv_topl (fun z_18 ez_18 => ?_)
  refine lv_lmul hx hb dX1_thousandfold_70 ?_
  refine lv_topl (fun z_19 ez_19 => ?_)
  have hPc := hP.sub (ws' := [(fh, .inr (1, G1 fa fn fsumR fsumW fsumA fsumWW fsumAA fsumWA fsumWR fsumAR fdivisor fbyWarmth fbyAge fform w_15 w_14))]) [0] rfl
  have hDc := hD.sub (ws' := [(fh, .inr (1, G1 fa fn fsumR fsumW fsumA fsumWW fsumAA fsumWA fsumWR fsumAR fdivisor fbyWarmth fbyAge fform w_15 w_14))]) [0] (by decide) rfl
  refine aft_v (runMV (rest := []) (As := [.long fbyAge, .long z_19]) hx hb hml hown htb hK (g_X1_addProduct l D E fh fa fn fsumR fsumW fsumA fsumWW fsumAA fsumWA fsumWR fsumAR fdivisor fbyWarmth fbyAge fform w_15 w_14 fbyAge z_19 _ ) ok_X1_addProduct k_542 k_544 ks_9 k_4 k_545 ⟨(Nat.le_of_ble_eq_true rfl), (Nat.le_of_ble_eq_true rfl)⟩ ⟨(Nat.le_of_ble_eq_true rfl), (Nat.le_of_ble_eq_true rfl)⟩ hl.1 (Nat.le_of_ble_eq_true rfl) rfl rfl dX1_thousandfold_71 hPc hDc rfl rfl 0 rfl) hP hD hS hA [0] [] (wr := ([] : va_W)) rfl rfl (by decide) (by decide) (fun u_22 H locs hw_21 hP hD hS => ?_)
  clear hPc hDc
  obtain ⟨w_23, w_24⟩ := u_22
  try dsimp only at hw_21
  have hP : va_P D vwCl [(fh, .inr (1, G1 fa fn fsumR fsumW fsumA fsumWW fsumAA fsumWA fsumWR fsumAR fdivisor fbyWarmth fbyAge fform w_24 w_23))] H := hP
  have hD := toW hP hD rfl
  refine lv_aload_n hx hb dX1_thousandfold_74 rfl (lv_at hl 0 rfl) ?_
  refine va_get (D := D) (ci := 1) (v := .long w_24) (C := RX1) (T := TX1) (N := 15) hx hb htb iX1 hown hK.1 hP 0 rfl rfl 13 (by decide) (htb _ k_96) (fun _ h9 => h9) rfl dX1_thousandfold_75 ?_
  have hP9 := hP.sub (ws' := [(fh, .inr (1, G1 fa fn fsumR fsumW fsumA fsumWW fsumAA fsumWA fsumWR fsumAR fdivisor fbyWarmth fbyAge fform w_24 w_23))]) [0] rfl
  have hD9 := hD.sub (ws' := [(fh, .inr (1, G1 fa fn fsumR fsumW fsumA fsumWW fsumAA fsumWA fsumWR fsumAR fdivisor fbyWarmth fbyAge fform w_24 w_23))]) [0] (by decide) rfl
  exact W.lret (v := w_24) hx hb hr (fun t ht hW => ⟨⟨w_24, (w_23, w_24), rfl, (by have h1 := hw_3; have h2 := hw_12; have h3 := hw_21; subst_vars; unfold thoX; (try dsimp only); rw [← h1]; (try dsimp only); rw [← h2]; (try dsimp only); rw [← h3]), by rw [ht]; exact hP9, hD9⟩, hS.F ht⟩) hS.2.2 dX1_thousandfold_78
