set_option maxHeartbeats 4000000 in
set_option maxRecDepth 100000 in
theorem c_X8_isPast (l : Launch) (D : va_G) (E : Nat → Nat) (h0 : Nat) (a : Nat → Nat) (p0 : Int32)  : Met l yX8_isPast (wl yX8_isPast cX8_isPast 2 (some .boolean)) (RM 0 0 0) (rd_P D E [.ref h0, .int p0] [(h0, .inr (8, xF a 0))]) (rd_Q (fun r => (r = 1 ∧ (0 ≤ p0.toInt ∧ p0.toInt ≤ 0)) ∨ (r = 0 ∧ ¬ (0 ≤ p0.toInt ∧ p0.toInt ≤ 0)))) 0 0 (fun _ => False) := by
  refine Met.ofW (cc := cX8_isPast) (maxL := 2) (ret := (some .boolean)) (by decide) rfl ?_
  intro p e s m args below meth c s₁ B hml hv
  obtain ⟨rfl, hP, hK⟩ := hv
  have hx := B.exec
  have hb := B.bytes
  have hr := B.returns
  have hts := atoms_spec (ws := wl yX8_isPast cX8_isPast 2 (some .boolean)) B.pre
  have htb : ∀ w ∈ tb, w.before _ s = true := fun w h => hts w (List.mem_cons_of_mem _ h)
  have hown : s.vm.findClass RX8 = some m.cls := findClass_of_methodNamed B.named
  have hlocks := B.notSynchronized
  have hP : va_P D vwCl [(h0, .inr (8, xF a 0))] s.heap := hP
  have hl := lv_entry ([.ref h0, .int p0]) (n := 2) (Nat.le_of_ble_eq_true rfl)
  rw [lg_entry_eq]
  generalize (lg_sl ([.ref h0, .int p0]) ++ List.replicate (2 - (lg_sl ([.ref h0, .int p0])).length) Slot.unset).toArray = ls at hl ⊢
  have hl : lv_has ls 2 [(0, .ref h0), (1, .int p0)] := hl
  have lo_p0 := i_lo p0
  have hi_p0 := i_hi p0
  refine lv_iload_n hx hb dX8_isPast_0 rfl (lv_at hl 1 rfl) ?_
  refine lv_if_lt (tgt := 16) hx hb dX8_isPast_1 (by decide) (fun c_1 => ?_) (fun c_1 => ?_)
  ·
    have ic_1 : p0.toInt < 0 := by first | exact (g_lt rfl t_0).mp c_1 | (have h := mt (g_le t_0 rfl).mpr c_1; omega)
    refine lv_iconst (v := 0) hx hb dX8_isPast_16 (by decide) ?_
    exact W.zret (v := 0) hx hb hr rfl (fun t ht hW => ⟨0, rfl, by first | exact Or.inr ⟨rfl, by omega⟩ | (exfalso; omega), ht⟩) (fun q h => by cases h) dX8_isPast_17
  ·
    have ic_1 : 0 ≤ p0.toInt := by first | exact (g_le t_0 rfl).mp c_1 | (have h := mt (g_lt rfl t_0).mpr c_1; omega)
    refine lv_iload_n hx hb dX8_isPast_4 rfl (lv_at hl 1 rfl) ?_
    refine lv_aload_n hx hb dX8_isPast_5 rfl (lv_at hl 0 rfl) ?_
    refine va_get (D := D) (ci := 8) (v := .int 0) (C := RX8) (T := TX8) (N := 14) hx hb htb iX8 hown hK.1 hP 0 rfl rfl 13 (by decide) (htb _ k_285) (fun _ h9 => h9) rfl dX8_isPast_6 ?_
    refine lv_icmp_gt (tgt := 16) hx hb dX8_isPast_9 (by decide) (fun c_2 => ?_) (fun c_2 => ?_)
    ·
      have ic_2 : 0 < p0.toInt := by first | exact (g_lt t_0 rfl).mp c_2 | (have h := mt (g_le rfl t_0).mpr c_2; omega)
      refine lv_iconst (v := 0) hx hb dX8_isPast_16 (by decide) ?_
      exact W.zret (v := 0) hx hb hr rfl (fun t ht hW => ⟨0, rfl, by first | exact Or.inr ⟨rfl, by omega⟩ | (exfalso; omega), ht⟩) (fun q h => by cases h) dX8_isPast_17
    ·
      have ic_2 : p0.toInt ≤ 0 := by first | exact (g_le rfl t_0).mp c_2 | (have h := mt (g_lt t_0 rfl).mpr c_2; omega)
      refine lv_iconst (v := 1) hx hb dX8_isPast_12 (by decide) ?_
      refine lv_goto (tgt := 17) hx hb dX8_isPast_13 (by decide) ?_
      exact W.zret (v := 1) hx hb hr rfl (fun t ht hW => ⟨1, rfl, by first | exact Or.inl ⟨rfl, by omega⟩ | (exfalso; omega), ht⟩) (fun q h => by cases h) dX8_isPast_17
set_option maxHeartbeats 4000000 in
set_option maxRecDepth 100000 in
theorem c_X8_watchAt (l : Launch) (D : va_G) (E : Nat → Nat) (h0 : Nat) (a : Nat → Nat) (p0 : Int32)  : Met l yX8_watchAt (wl yX8_watchAt cX8_watchAt 2 (some (.object "SeaWatches$Watch"))) (RM 1 0 0) (rd_P D E [.ref h0, .int p0] [(h0, .inr (8, xF a 0)), ((a 1), .inl (E 0, 16, .inl (fun _ => -5)))]) rn_Q 0 0 (fun _ => False) := by
  refine Met.ofW (cc := cX8_watchAt) (maxL := 2) (ret := (some (.object "SeaWatches$Watch"))) (by decide) rfl ?_
  intro p e s m args below meth c s₁ B hml hv
  obtain ⟨rfl, hP, hK⟩ := hv
  have hx := B.exec
  have hb := B.bytes
  have hr := B.returns
  have hts := atoms_spec (ws := wl yX8_watchAt cX8_watchAt 2 (some (.object "SeaWatches$Watch"))) B.pre
  have htb : ∀ w ∈ tb, w.before _ s = true := fun w h => hts w (List.mem_cons_of_mem _ h)
  have hown : s.vm.findClass RX8 = some m.cls := findClass_of_methodNamed B.named
  have hlocks := B.notSynchronized
  have hP : va_P D vwCl [(h0, .inr (8, xF a 0)), ((a 1), .inl (E 0, 16, .inl (fun _ => -5)))] s.heap := hP
  have hl := lv_entry ([.ref h0, .int p0]) (n := 2) (Nat.le_of_ble_eq_true rfl)
  rw [lg_entry_eq]
  generalize (lg_sl ([.ref h0, .int p0]) ++ List.replicate (2 - (lg_sl ([.ref h0, .int p0])).length) Slot.unset).toArray = ls at hl ⊢
  have hl : lv_has ls 2 [(0, .ref h0), (1, .int p0)] := hl
  have lo_p0 := i_lo p0
  have hi_p0 := i_hi p0
  refine lv_iload_n hx hb dX8_watchAt_0 rfl (lv_at hl 1 rfl) ?_
  refine callRS (rest := []) (As := [.int p0]) hx hb hml hown htb hK (c_X8_isPlace l D E p0 ) ok_X8_isPlace k_333 k_334 k_1 k_335 ⟨(Nat.le_of_ble_eq_true rfl), (Nat.le_of_ble_eq_true rfl)⟩ ⟨(Nat.le_of_ble_eq_true rfl), (Nat.le_of_ble_eq_true rfl)⟩ hl.1 (Nat.le_of_ble_eq_true rfl) rfl rfl dX8_watchAt_1 (hP.sub (ws' := ([] : va_W)) [] rfl) (fun r_2 hw_1 => ?_)
  rcases hw_1 with ⟨hr_2, hw_1⟩ | ⟨hr_2, hw_1⟩
  ·
    refine W_top (y := .int 1) (by rw [hr_2]) ?_
    refine lv_if_eq (tgt := 26) hx hb dX8_watchAt_4 (by decide) (fun c_3 => absurd c_3 (by decide)) (fun c_3 => ?_)
    refine lv_aload_n hx hb dX8_watchAt_7 rfl (lv_at hl 0 rfl) ?_
    refine va_get (D := D) (ci := 8) (v := .ref (a 1)) (C := RX8) (T := TX8) (N := 14) hx hb htb iX8 hown hK.1 hP 0 rfl rfl 1 (by decide) (htb _ k_273) (fun _ h9 => h9) rfl dX8_watchAt_8 ?_
    refine lv_iload_n hx hb dX8_watchAt_11 rfl (lv_at hl 1 rfl) ?_
    refine va_iald hx hb hK.1 hP 1 0 rfl rfl (g_in rfl (by omega) (by omega)) dX8_watchAt_12 ?_
    refine W_top (y := .int (-5)) rfl ?_
    refine lv_if_eq (tgt := 28) hx hb dX8_watchAt_13 (by decide) (fun c_4 => absurd c_4 (by decide)) (fun c_4 => ?_)
    refine lv_aload_n hx hb dX8_watchAt_16 rfl (lv_at hl 0 rfl) ?_
    refine va_get (D := D) (ci := 8) (v := .ref (a 1)) (C := RX8) (T := TX8) (N := 14) hx hb htb iX8 hown hK.1 hP 0 rfl rfl 1 (by decide) (htb _ k_273) (fun _ h9 => h9) rfl dX8_watchAt_17 ?_
    refine lv_iload_n hx hb dX8_watchAt_20 rfl (lv_at hl 1 rfl) ?_
    refine va_iald hx hb hK.1 hP 1 0 rfl rfl (g_in rfl (by omega) (by omega)) dX8_watchAt_21 ?_
    refine W_top (y := .int (-5)) rfl ?_
    refine lv_iconst (v := 1) hx hb dX8_watchAt_22 (by decide) ?_
    refine lv_icmp_eq (tgt := 28) hx hb dX8_watchAt_23 (by decide) (fun c_5 => absurd c_5 (by decide)) (fun c_5 => ?_)
    refine lv_null hx hb dX8_watchAt_26 ?_
    exact W.aret hx hb hr (Or.inl ⟨_, rfl⟩) (Or.inl rfl) (fun t ht hW => ⟨rfl, ht⟩) (fun q h => by cases h) dX8_watchAt_27
  ·
    refine W_top (y := .int 0) (by rw [hr_2]) ?_
    refine lv_if_eq (tgt := 26) hx hb dX8_watchAt_4 (by decide) (fun c_6 => ?_) (fun c_6 => absurd (by decide) c_6)
    refine lv_null hx hb dX8_watchAt_26 ?_
    exact W.aret hx hb hr (Or.inl ⟨_, rfl⟩) (Or.inl rfl) (fun t ht hW => ⟨rfl, ht⟩) (fun q h => by cases h) dX8_watchAt_27
set_option maxHeartbeats 4000000 in
set_option maxRecDepth 100000 in
theorem c_X8_lackAt (l : Launch) (D : va_G) (E : Nat → Nat) (h0 : Nat) (a : Nat → Nat) (p0 : Int32)  : Met l yX8_lackAt (wl yX8_lackAt cX8_lackAt 2 (some .int)) (RM 1 0 0) (rd_P D E [.ref h0, .int p0] [(h0, .inr (8, xF a 0)), ((a 1), .inl (E 0, 16, .inl (fun _ => -5)))]) (rd_Q (fun r => (r = (-2) ∧ (0 ≤ p0.toInt ∧ p0.toInt ≤ 15)) ∨ (r = (-1) ∧ ¬ (0 ≤ p0.toInt ∧ p0.toInt ≤ 15)))) 0 0 (fun _ => False) := by
  refine Met.ofW (cc := cX8_lackAt) (maxL := 2) (ret := (some .int)) (by decide) rfl ?_
  intro p e s m args below meth c s₁ B hml hv
  obtain ⟨rfl, hP, hK⟩ := hv
  have hx := B.exec
  have hb := B.bytes
  have hr := B.returns
  have hts := atoms_spec (ws := wl yX8_lackAt cX8_lackAt 2 (some .int)) B.pre
  have htb : ∀ w ∈ tb, w.before _ s = true := fun w h => hts w (List.mem_cons_of_mem _ h)
  have hown : s.vm.findClass RX8 = some m.cls := findClass_of_methodNamed B.named
  have hlocks := B.notSynchronized
  have hP : va_P D vwCl [(h0, .inr (8, xF a 0)), ((a 1), .inl (E 0, 16, .inl (fun _ => -5)))] s.heap := hP
  have hl := lv_entry ([.ref h0, .int p0]) (n := 2) (Nat.le_of_ble_eq_true rfl)
  rw [lg_entry_eq]
  generalize (lg_sl ([.ref h0, .int p0]) ++ List.replicate (2 - (lg_sl ([.ref h0, .int p0])).length) Slot.unset).toArray = ls at hl ⊢
  have hl : lv_has ls 2 [(0, .ref h0), (1, .int p0)] := hl
  have lo_p0 := i_lo p0
  have hi_p0 := i_hi p0
  refine lv_iload_n hx hb dX8_lackAt_0 rfl (lv_at hl 1 rfl) ?_
  refine callRS (rest := []) (As := [.int p0]) hx hb hml hown htb hK (c_X8_isPlace l D E p0 ) ok_X8_isPlace k_333 k_334 k_1 k_335 ⟨(Nat.le_of_ble_eq_true rfl), (Nat.le_of_ble_eq_true rfl)⟩ ⟨(Nat.le_of_ble_eq_true rfl), (Nat.le_of_ble_eq_true rfl)⟩ hl.1 (Nat.le_of_ble_eq_true rfl) rfl rfl dX8_lackAt_1 (hP.sub (ws' := ([] : va_W)) [] rfl) (fun r_2 hw_1 => ?_)
  rcases hw_1 with ⟨hr_2, hw_1⟩ | ⟨hr_2, hw_1⟩
  ·
    refine W_top (y := .int 1) (by rw [hr_2]) ?_
    refine lv_if_ne (tgt := 9) hx hb dX8_lackAt_4 (by decide) (fun c_3 => ?_) (fun c_3 => absurd c_3 (by decide))
    refine lv_aload_n hx hb dX8_lackAt_9 rfl (lv_at hl 0 rfl) ?_
    refine va_get (D := D) (ci := 8) (v := .ref (a 1)) (C := RX8) (T := TX8) (N := 14) hx hb htb iX8 hown hK.1 hP 0 rfl rfl 1 (by decide) (htb _ k_273) (fun _ h9 => h9) rfl dX8_lackAt_10 ?_
    refine lv_iload_n hx hb dX8_lackAt_13 rfl (lv_at hl 1 rfl) ?_
    refine va_iald hx hb hK.1 hP 1 0 rfl rfl (g_in rfl (by omega) (by omega)) dX8_lackAt_14 ?_
    refine W_top (y := .int (-5)) rfl ?_
    refine lv_bipush (v := (-5)) hx hb dX8_lackAt_15 (by decide) ?_
    refine lv_icmp_ne (tgt := 25) hx hb dX8_lackAt_17 (by decide) (fun c_4 => absurd (by decide) c_4) (fun c_4 => ?_)
    refine lv_bipush (v := (-2)) hx hb dX8_lackAt_20 (by decide) ?_
    refine lv_goto (tgt := 27) hx hb dX8_lackAt_22 (by decide) ?_
    exact W.iret (v := (-2)) hx hb hr (fun t ht hW => ⟨(-2), rfl, by first | exact Or.inl ⟨rfl, by omega⟩ | (exfalso; omega), ht⟩) (fun q h => by cases h) dX8_lackAt_27
  ·
    refine W_top (y := .int 0) (by rw [hr_2]) ?_
    refine lv_if_ne (tgt := 9) hx hb dX8_lackAt_4 (by decide) (fun c_5 => absurd (by decide) c_5) (fun c_5 => ?_)
    refine lv_iconst (v := (-1)) hx hb dX8_lackAt_7 (by decide) ?_
    exact W.iret (v := (-1)) hx hb hr (fun t ht hW => ⟨(-1), rfl, by first | exact Or.inr ⟨rfl, by omega⟩ | (exfalso; omega), ht⟩) (fun q h => by cases h) dX8_lackAt_8
set_option maxHeartbeats 4000000 in
set_option maxRecDepth 100000 in
theorem c_X8_firstLack (l : Launch) (D : va_G) (E : Nat → Nat) (h0 : Nat) (a : Nat → Nat) (p0 : Int32) (p1 : Int32) (p2 : Int32)  : Met l yX8_firstLack (wl yX8_firstLack cX8_firstLack 4 (some .int)) (RM 2 0 0) (rd_P D E [.ref h0, .int p0, .int p1, .int p2] [(h0, .inr (8, xF a 0)), ((a 1), .inl (E 0, 16, .inl (fun _ => -5)))]) (rd_Q (fun r => (r = (-2) ∧ (0 ≤ p0.toInt ∧ p0.toInt ≤ 15)) ∨ (r = (-1) ∧ ¬ (0 ≤ p0.toInt ∧ p0.toInt ≤ 15)))) 0 0 (fun _ => False) := by
  refine Met.ofW (cc := cX8_firstLack) (maxL := 4) (ret := (some .int)) (by decide) rfl ?_
  intro p e s m args below meth c s₁ B hml hv
  obtain ⟨rfl, hP, hK⟩ := hv
  have hx := B.exec
  have hb := B.bytes
  have hr := B.returns
  have hts := atoms_spec (ws := wl yX8_firstLack cX8_firstLack 4 (some .int)) B.pre
  have htb : ∀ w ∈ tb, w.before _ s = true := fun w h => hts w (List.mem_cons_of_mem _ h)
  have hown : s.vm.findClass RX8 = some m.cls := findClass_of_methodNamed B.named
  have hlocks := B.notSynchronized
  have hP : va_P D vwCl [(h0, .inr (8, xF a 0)), ((a 1), .inl (E 0, 16, .inl (fun _ => -5)))] s.heap := hP
  have hl := lv_entry ([.ref h0, .int p0, .int p1, .int p2]) (n := 4) (Nat.le_of_ble_eq_true rfl)
  rw [lg_entry_eq]
  generalize (lg_sl ([.ref h0, .int p0, .int p1, .int p2]) ++ List.replicate (4 - (lg_sl ([.ref h0, .int p0, .int p1, .int p2])).length) Slot.unset).toArray = ls at hl ⊢
  have hl : lv_has ls 4 [(0, .ref h0), (1, .int p0), (2, .int p1), (3, .int p2)] := hl
  have lo_p0 := i_lo p0
  have hi_p0 := i_hi p0
  have lo_p1 := i_lo p1
  have hi_p1 := i_hi p1
  have lo_p2 := i_lo p2
  have hi_p2 := i_hi p2
  refine lv_aload_n hx hb dX8_firstLack_0 rfl (lv_at hl 0 rfl) ?_
  refine lv_iload_n hx hb dX8_firstLack_1 rfl (lv_at hl 1 rfl) ?_
  refine callNV (rest := []) (As := [.int p0]) hx hb hml hown htb hK (c_X8_watchAt l D E h0 a p0 ) ok_X8_watchAt k_369 k_371 ks_1 k_1 k_372 ⟨(Nat.le_of_ble_eq_true rfl), (Nat.le_of_ble_eq_true rfl)⟩ ⟨(Nat.le_of_ble_eq_true rfl), (Nat.le_of_ble_eq_true rfl)⟩ hl.1 (Nat.le_of_ble_eq_true rfl) rfl rfl dX8_firstLack_2 (hP.sub (ws' := [(h0, .inr (8, xF a 0)), ((a 1), .inl (E 0, 16, .inl (fun _ => -5)))]) [0, 1] rfl) rfl rfl 0 rfl ?_
  refine lv_ifnonnullN hx hb dX8_firstLack_5 ?_
  refine lv_aload_n hx hb dX8_firstLack_8 rfl (lv_at hl 0 rfl) ?_
  refine lv_iload_n hx hb dX8_firstLack_9 rfl (lv_at hl 1 rfl) ?_
  refine callRV (rest := []) (As := [.int p0]) hx hb hml hown htb hK (c_X8_lackAt l D E h0 a p0 ) ok_X8_lackAt k_396 k_398 ks_3 k_1 k_399 ⟨(Nat.le_of_ble_eq_true rfl), (Nat.le_of_ble_eq_true rfl)⟩ ⟨(Nat.le_of_ble_eq_true rfl), (Nat.le_of_ble_eq_true rfl)⟩ hl.1 (Nat.le_of_ble_eq_true rfl) rfl rfl dX8_firstLack_10 (hP.sub (ws' := [(h0, .inr (8, xF a 0)), ((a 1), .inl (E 0, 16, .inl (fun _ => -5)))]) [0, 1] rfl) rfl rfl 0 rfl (fun r_3 hw_2 => ?_)
  rcases hw_2 with ⟨hr_3, hw_2⟩ | ⟨hr_3, hw_2⟩
  ·
    refine W_top (y := .int (-2)) (by rw [hr_3]) ?_
    exact W.iret (v := (-2)) hx hb hr (fun t ht hW => ⟨(-2), rfl, by first | exact Or.inl ⟨rfl, by omega⟩ | (exfalso; omega), ht⟩) (fun q h => by cases h) dX8_firstLack_13
  ·
    refine W_top (y := .int (-1)) (by rw [hr_3]) ?_
    exact W.iret (v := (-1)) hx hb hr (fun t ht hW => ⟨(-1), rfl, by first | exact Or.inr ⟨rfl, by omega⟩ | (exfalso; omega), ht⟩) (fun q h => by cases h) dX8_firstLack_13
set_option maxHeartbeats 4000000 in
set_option maxRecDepth 100000 in
theorem c_X8_refusalOfStretch (l : Launch) (D : va_G) (E : Nat → Nat) (h0 : Nat) (a : Nat → Nat) (p0 : Int32) (p1 : Int32) (p2 : Int32)  : Met l yX8_refusalOfStretch (wl yX8_refusalOfStretch cX8_refusalOfStretch 4 (some .int)) (RM 2 0 0) (rd_P D E [.ref h0, .int p0, .int p1, .int p2] [(h0, .inr (8, xF a 0)), ((a 1), .inl (E 0, 16, .inl (fun _ => -5)))]) (rd_Q (fun r => (r = (-2) ∧ ((0 ≤ p0.toInt ∧ p0.toInt ≤ 15) ∧ (0 ≤ p1.toInt ∧ p2.toInt ≤ 399 ∧ p1.toInt < p2.toInt ∧ p2.toInt - p1.toInt ≤ 60))) ∨ (r = (-1) ∧ ¬ ((0 ≤ p0.toInt ∧ p0.toInt ≤ 15) ∧ (0 ≤ p1.toInt ∧ p2.toInt ≤ 399 ∧ p1.toInt < p2.toInt ∧ p2.toInt - p1.toInt ≤ 60))))) 0 0 (fun _ => False) := by
  refine Met.ofW (cc := cX8_refusalOfStretch) (maxL := 4) (ret := (some .int)) (by decide) rfl ?_
  intro p e s m args below meth c s₁ B hml hv
  obtain ⟨rfl, hP, hK⟩ := hv
  have hx := B.exec
  have hb := B.bytes
  have hr := B.returns
  have hts := atoms_spec (ws := wl yX8_refusalOfStretch cX8_refusalOfStretch 4 (some .int)) B.pre
  have htb : ∀ w ∈ tb, w.before _ s = true := fun w h => hts w (List.mem_cons_of_mem _ h)
  have hown : s.vm.findClass RX8 = some m.cls := findClass_of_methodNamed B.named
  have hlocks := B.notSynchronized
  have hP : va_P D vwCl [(h0, .inr (8, xF a 0)), ((a 1), .inl (E 0, 16, .inl (fun _ => -5)))] s.heap := hP
  have hl := lv_entry ([.ref h0, .int p0, .int p1, .int p2]) (n := 4) (Nat.le_of_ble_eq_true rfl)
  rw [lg_entry_eq]
  generalize (lg_sl ([.ref h0, .int p0, .int p1, .int p2]) ++ List.replicate (4 - (lg_sl ([.ref h0, .int p0, .int p1, .int p2])).length) Slot.unset).toArray = ls at hl ⊢
  have hl : lv_has ls 4 [(0, .ref h0), (1, .int p0), (2, .int p1), (3, .int p2)] := hl
  have lo_p0 := i_lo p0
  have hi_p0 := i_hi p0
  have lo_p1 := i_lo p1
  have hi_p1 := i_hi p1
  have lo_p2 := i_lo p2
  have hi_p2 := i_hi p2
  refine lv_iload_n hx hb dX8_refusalOfStretch_0 rfl (lv_at hl 1 rfl) ?_
  refine callRS (rest := []) (As := [.int p0]) hx hb hml hown htb hK (c_X8_isPlace l D E p0 ) ok_X8_isPlace k_333 k_334 k_1 k_335 ⟨(Nat.le_of_ble_eq_true rfl), (Nat.le_of_ble_eq_true rfl)⟩ ⟨(Nat.le_of_ble_eq_true rfl), (Nat.le_of_ble_eq_true rfl)⟩ hl.1 (Nat.le_of_ble_eq_true rfl) rfl rfl dX8_refusalOfStretch_1 (hP.sub (ws' := ([] : va_W)) [] rfl) (fun r_2 hw_1 => ?_)
  rcases hw_1 with ⟨hr_2, hw_1⟩ | ⟨hr_2, hw_1⟩
  ·
    refine W_top (y := .int 1) (by rw [hr_2]) ?_
    refine lv_if_eq (tgt := 15) hx hb dX8_refusalOfStretch_4 (by decide) (fun c_3 => absurd c_3 (by decide)) (fun c_3 => ?_)
    refine lv_iload_n hx hb dX8_refusalOfStretch_7 rfl (lv_at hl 2 rfl) ?_
    refine lv_iload_n hx hb dX8_refusalOfStretch_8 rfl (lv_at hl 3 rfl) ?_
    refine callRS (rest := []) (As := [.int p1, .int p2]) hx hb hml hown htb hK (c_X8_isStretch l D E p1 p2 ) ok_X8_isStretch k_479 k_480 k_1 k_481 ⟨(Nat.le_of_ble_eq_true rfl), (Nat.le_of_ble_eq_true rfl)⟩ ⟨(Nat.le_of_ble_eq_true rfl), (Nat.le_of_ble_eq_true rfl)⟩ hl.1 (Nat.le_of_ble_eq_true rfl) rfl rfl dX8_refusalOfStretch_9 (hP.sub (ws' := ([] : va_W)) [] rfl) (fun r_5 hw_4 => ?_)
    rcases hw_4 with ⟨hr_5, hw_4⟩ | ⟨hr_5, hw_4⟩
    ·
      refine W_top (y := .int 1) (by rw [hr_5]) ?_
      refine lv_if_ne (tgt := 17) hx hb dX8_refusalOfStretch_12 (by decide) (fun c_6 => ?_) (fun c_6 => absurd c_6 (by decide))
      refine lv_aload_n hx hb dX8_refusalOfStretch_17 rfl (lv_at hl 0 rfl) ?_
      refine lv_iload_n hx hb dX8_refusalOfStretch_18 rfl (lv_at hl 1 rfl) ?_
      refine callNV (rest := []) (As := [.int p0]) hx hb hml hown htb hK (c_X8_watchAt l D E h0 a p0 ) ok_X8_watchAt k_369 k_371 ks_1 k_1 k_372 ⟨(Nat.le_of_ble_eq_true rfl), (Nat.le_of_ble_eq_true rfl)⟩ ⟨(Nat.le_of_ble_eq_true rfl), (Nat.le_of_ble_eq_true rfl)⟩ hl.1 (Nat.le_of_ble_eq_true rfl) rfl rfl dX8_refusalOfStretch_19 (hP.sub (ws' := [(h0, .inr (8, xF a 0)), ((a 1), .inl (E 0, 16, .inl (fun _ => -5)))]) [0, 1] rfl) rfl rfl 0 rfl ?_
      refine lv_ifnonnullN hx hb dX8_refusalOfStretch_22 ?_
      refine lv_aload_n hx hb dX8_refusalOfStretch_25 rfl (lv_at hl 0 rfl) ?_
      refine lv_iload_n hx hb dX8_refusalOfStretch_26 rfl (lv_at hl 1 rfl) ?_
      refine callRV (rest := []) (As := [.int p0]) hx hb hml hown htb hK (c_X8_lackAt l D E h0 a p0 ) ok_X8_lackAt k_396 k_398 ks_3 k_1 k_399 ⟨(Nat.le_of_ble_eq_true rfl), (Nat.le_of_ble_eq_true rfl)⟩ ⟨(Nat.le_of_ble_eq_true rfl), (Nat.le_of_ble_eq_true rfl)⟩ hl.1 (Nat.le_of_ble_eq_true rfl) rfl rfl dX8_refusalOfStretch_27 (hP.sub (ws' := [(h0, .inr (8, xF a 0)), ((a 1), .inl (E 0, 16, .inl (fun _ => -5)))]) [0, 1] rfl) rfl rfl 0 rfl (fun r_9 hw_8 => ?_)
      rcases hw_8 with ⟨hr_9, hw_8⟩ | ⟨hr_9, hw_8⟩
      ·
        refine W_top (y := .int (-2)) (by rw [hr_9]) ?_
        refine lv_goto (tgt := 34) hx hb dX8_refusalOfStretch_30 (by decide) ?_
        exact W.iret (v := (-2)) hx hb hr (fun t ht hW => ⟨(-2), rfl, by first | exact Or.inl ⟨rfl, by omega⟩ | (exfalso; omega), ht⟩) (fun q h => by cases h) dX8_refusalOfStretch_34
      ·
        refine W_top (y := .int (-1)) (by rw [hr_9]) ?_
        refine lv_goto (tgt := 34) hx hb dX8_refusalOfStretch_30 (by decide) ?_
        exact W.iret (v := (-1)) hx hb hr (fun t ht hW => ⟨(-1), rfl, by first | exact Or.inr ⟨rfl, by omega⟩ | (exfalso; omega), ht⟩) (fun q h => by cases h) dX8_refusalOfStretch_34
    ·
      refine W_top (y := .int 0) (by rw [hr_5]) ?_
      refine lv_if_ne (tgt := 17) hx hb dX8_refusalOfStretch_12 (by decide) (fun c_10 => absurd (by decide) c_10) (fun c_10 => ?_)
      refine lv_iconst (v := (-1)) hx hb dX8_refusalOfStretch_15 (by decide) ?_
      exact W.iret (v := (-1)) hx hb hr (fun t ht hW => ⟨(-1), rfl, by first | exact Or.inr ⟨rfl, by omega⟩ | (exfalso; omega), ht⟩) (fun q h => by cases h) dX8_refusalOfStretch_16
  ·
    refine W_top (y := .int 0) (by rw [hr_2]) ?_
    refine lv_if_eq (tgt := 15) hx hb dX8_refusalOfStretch_4 (by decide) (fun c_11 => ?_) (fun c_11 => absurd (by decide) c_11)
    refine lv_iconst (v := (-1)) hx hb dX8_refusalOfStretch_15 (by decide) ?_
    exact W.iret (v := (-1)) hx hb hr (fun t ht hW => ⟨(-1), rfl, by first | exact Or.inr ⟨rfl, by omega⟩ | (exfalso; omega), ht⟩) (fun q h => by cases h) dX8_refusalOfStretch_16
set_option maxHeartbeats 4000000 in
set_option maxRecDepth 100000 in
theorem c_X8_markOn (l : Launch) (D : va_G) (E : Nat → Nat) (h0 : Nat) (a : Nat → Nat) (p0 : Int32) (p1 : Int32) (p2 : Int32)  : Met l yX8_markOn (wl yX8_markOn cX8_markOn 5 (some .int)) (RM 2 0 0) (rd_P D E [.ref h0, .int p0, .int p1, .int p2] [(h0, .inr (8, xF a 0)), ((a 1), .inl (E 0, 16, .inl (fun _ => -5)))]) (rd_Q (fun r => (r = (-2) ∧ ((0 ≤ p0.toInt ∧ p0.toInt ≤ 15) ∧ (0 ≤ p1.toInt ∧ p1.toInt ≤ 0))) ∨ (r = (-1) ∧ ¬ ((0 ≤ p0.toInt ∧ p0.toInt ≤ 15) ∧ (0 ≤ p1.toInt ∧ p1.toInt ≤ 0))))) 0 0 (fun _ => False) := by
  refine Met.ofW (cc := cX8_markOn) (maxL := 5) (ret := (some .int)) (by decide) rfl ?_
  intro p e s m args below meth c s₁ B hml hv
  obtain ⟨rfl, hP, hK⟩ := hv
  have hx := B.exec
  have hb := B.bytes
  have hr := B.returns
  have hts := atoms_spec (ws := wl yX8_markOn cX8_markOn 5 (some .int)) B.pre
  have htb : ∀ w ∈ tb, w.before _ s = true := fun w h => hts w (List.mem_cons_of_mem _ h)
  have hown : s.vm.findClass RX8 = some m.cls := findClass_of_methodNamed B.named
  have hlocks := B.notSynchronized
  have hP : va_P D vwCl [(h0, .inr (8, xF a 0)), ((a 1), .inl (E 0, 16, .inl (fun _ => -5)))] s.heap := hP
  have hl := lv_entry ([.ref h0, .int p0, .int p1, .int p2]) (n := 5) (Nat.le_of_ble_eq_true rfl)
  rw [lg_entry_eq]
  generalize (lg_sl ([.ref h0, .int p0, .int p1, .int p2]) ++ List.replicate (5 - (lg_sl ([.ref h0, .int p0, .int p1, .int p2])).length) Slot.unset).toArray = ls at hl ⊢
  have hl : lv_has ls 5 [(0, .ref h0), (1, .int p0), (2, .int p1), (3, .int p2)] := hl
  have lo_p0 := i_lo p0
  have hi_p0 := i_hi p0
  have lo_p1 := i_lo p1
  have hi_p1 := i_hi p1
  have lo_p2 := i_lo p2
  have hi_p2 := i_hi p2
  refine lv_iload_n hx hb dX8_markOn_0 rfl (lv_at hl 1 rfl) ?_
  refine callRS (rest := []) (As := [.int p0]) hx hb hml hown htb hK (c_X8_isPlace l D E p0 ) ok_X8_isPlace k_333 k_334 k_1 k_335 ⟨(Nat.le_of_ble_eq_true rfl), (Nat.le_of_ble_eq_true rfl)⟩ ⟨(Nat.le_of_ble_eq_true rfl), (Nat.le_of_ble_eq_true rfl)⟩ hl.1 (Nat.le_of_ble_eq_true rfl) rfl rfl dX8_markOn_1 (hP.sub (ws' := ([] : va_W)) [] rfl) (fun r_2 hw_1 => ?_)
  rcases hw_1 with ⟨hr_2, hw_1⟩ | ⟨hr_2, hw_1⟩
  ·
    refine W_top (y := .int 1) (by rw [hr_2]) ?_
    refine lv_if_eq (tgt := 15) hx hb dX8_markOn_4 (by decide) (fun c_3 => absurd c_3 (by decide)) (fun c_3 => ?_)
    refine lv_aload_n hx hb dX8_markOn_7 rfl (lv_at hl 0 rfl) ?_
    refine lv_iload_n hx hb dX8_markOn_8 rfl (lv_at hl 2 rfl) ?_
    refine callRV (rest := []) (As := [.int p1]) hx hb hml hown htb hK (c_X8_isPast l D E h0 a p1 ) ok_X8_isPast k_391 k_393 ks_2 k_1 k_394 ⟨(Nat.le_of_ble_eq_true rfl), (Nat.le_of_ble_eq_true rfl)⟩ ⟨(Nat.le_of_ble_eq_true rfl), (Nat.le_of_ble_eq_true rfl)⟩ hl.1 (Nat.le_of_ble_eq_true rfl) rfl rfl dX8_markOn_9 (hP.sub (ws' := [(h0, .inr (8, xF a 0))]) [0] rfl) rfl rfl 0 rfl (fun r_5 hw_4 => ?_)
    rcases hw_4 with ⟨hr_5, hw_4⟩ | ⟨hr_5, hw_4⟩
    ·
      refine W_top (y := .int 1) (by rw [hr_5]) ?_
      refine lv_if_ne (tgt := 17) hx hb dX8_markOn_12 (by decide) (fun c_6 => ?_) (fun c_6 => absurd c_6 (by decide))
      refine lv_aload_n hx hb dX8_markOn_17 rfl (lv_at hl 0 rfl) ?_
      refine lv_iload_n hx hb dX8_markOn_18 rfl (lv_at hl 1 rfl) ?_
      refine callNV (rest := []) (As := [.int p0]) hx hb hml hown htb hK (c_X8_watchAt l D E h0 a p0 ) ok_X8_watchAt k_369 k_371 ks_1 k_1 k_372 ⟨(Nat.le_of_ble_eq_true rfl), (Nat.le_of_ble_eq_true rfl)⟩ ⟨(Nat.le_of_ble_eq_true rfl), (Nat.le_of_ble_eq_true rfl)⟩ hl.1 (Nat.le_of_ble_eq_true rfl) rfl rfl dX8_markOn_19 (hP.sub (ws' := [(h0, .inr (8, xF a 0)), ((a 1), .inl (E 0, 16, .inl (fun _ => -5)))]) [0, 1] rfl) rfl rfl 0 rfl ?_
      refine lv_astoreN (lv' := [(4, .null), (0, .ref h0), (1, .int p0), (2, .int p1), (3, .int p2)]) hx hb dX8_markOn_22 hl (by decide) rfl (fun ls hl => ?_)
      refine lv_aloadN hx hb dX8_markOn_24 (lv_at hl 0 rfl) ?_
      refine lv_ifnonnullN hx hb dX8_markOn_26 ?_
      refine lv_aload_n hx hb dX8_markOn_29 rfl (lv_at hl 1 rfl) ?_
      refine lv_iload_n hx hb dX8_markOn_30 rfl (lv_at hl 2 rfl) ?_
      refine callRV (rest := []) (As := [.int p0]) hx hb hml hown htb hK (c_X8_lackAt l D E h0 a p0 ) ok_X8_lackAt k_396 k_398 ks_3 k_1 k_399 ⟨(Nat.le_of_ble_eq_true rfl), (Nat.le_of_ble_eq_true rfl)⟩ ⟨(Nat.le_of_ble_eq_true rfl), (Nat.le_of_ble_eq_true rfl)⟩ hl.1 (Nat.le_of_ble_eq_true rfl) rfl rfl dX8_markOn_31 (hP.sub (ws' := [(h0, .inr (8, xF a 0)), ((a 1), .inl (E 0, 16, .inl (fun _ => -5)))]) [0, 1] rfl) rfl rfl 0 rfl (fun r_9 hw_8 => ?_)
      rcases hw_8 with ⟨hr_9, hw_8⟩ | ⟨hr_9, hw_8⟩
      ·
        refine W_top (y := .int (-2)) (by rw [hr_9]) ?_
        exact W.iret (v := (-2)) hx hb hr (fun t ht hW => ⟨(-2), rfl, by first | exact Or.inl ⟨rfl, by omega⟩ | (exfalso; omega), ht⟩) (fun q h => by cases h) dX8_markOn_34
      ·
        refine W_top (y := .int (-1)) (by rw [hr_9]) ?_
        exact W.iret (v := (-1)) hx hb hr (fun t ht hW => ⟨(-1), rfl, by first | exact Or.inr ⟨rfl, by omega⟩ | (exfalso; omega), ht⟩) (fun q h => by cases h) dX8_markOn_34
    ·
      refine W_top (y := .int 0) (by rw [hr_5]) ?_
      refine lv_if_ne (tgt := 17) hx hb dX8_markOn_12 (by decide) (fun c_10 => absurd (by decide) c_10) (fun c_10 => ?_)
      refine lv_iconst (v := (-1)) hx hb dX8_markOn_15 (by decide) ?_
      exact W.iret (v := (-1)) hx hb hr (fun t ht hW => ⟨(-1), rfl, by first | exact Or.inr ⟨rfl, by omega⟩ | (exfalso; omega), ht⟩) (fun q h => by cases h) dX8_markOn_16
  ·
    refine W_top (y := .int 0) (by rw [hr_2]) ?_
    refine lv_if_eq (tgt := 15) hx hb dX8_markOn_4 (by decide) (fun c_11 => ?_) (fun c_11 => absurd (by decide) c_11)
    refine lv_iconst (v := (-1)) hx hb dX8_markOn_15 (by decide) ?_
    exact W.iret (v := (-1)) hx hb hr (fun t ht hW => ⟨(-1), rfl, by first | exact Or.inr ⟨rfl, by omega⟩ | (exfalso; omega), ht⟩) (fun q h => by cases h) dX8_markOn_16
set_option maxHeartbeats 4000000 in
set_option maxRecDepth 100000 in
theorem c_X8_placesWith (l : Launch) (D : va_G) (E : Nat → Nat) (h0 : Nat) (a : Nat → Nat) (p0 : Int32) (g0 : 0 ≤ p0.toInt ∧ p0.toInt ≤ 2) : Met l yX8_placesWith (wl yX8_placesWith cX8_placesWith 4 (some .int)) (RM 0 0 0) (rd_P D E [.ref h0, .int p0] [(h0, .inr (8, xF a 0)), ((a 1), .inl (E 0, 16, .inl (fun _ => -5)))]) (rd_Q (fun r => (r = 0 ∧ True))) 0 0 (fun _ => False) := by
  refine Met.ofW (cc := cX8_placesWith) (maxL := 4) (ret := (some .int)) (by decide) rfl ?_
  intro p e s m args below meth c s₁ B hml hv
  obtain ⟨rfl, hP, hK⟩ := hv
  have hx := B.exec
  have hb := B.bytes
  have hr := B.returns
  have hts := atoms_spec (ws := wl yX8_placesWith cX8_placesWith 4 (some .int)) B.pre
  have htb : ∀ w ∈ tb, w.before _ s = true := fun w h => hts w (List.mem_cons_of_mem _ h)
  have hown : s.vm.findClass RX8 = some m.cls := findClass_of_methodNamed B.named
  have hlocks := B.notSynchronized
  have hP : va_P D vwCl [(h0, .inr (8, xF a 0)), ((a 1), .inl (E 0, 16, .inl (fun _ => -5)))] s.heap := hP
  have hl := lv_entry ([.ref h0, .int p0]) (n := 4) (Nat.le_of_ble_eq_true rfl)
  rw [lg_entry_eq]
  generalize (lg_sl ([.ref h0, .int p0]) ++ List.replicate (4 - (lg_sl ([.ref h0, .int p0])).length) Slot.unset).toArray = ls at hl ⊢
  have hl : lv_has ls 4 [(0, .ref h0), (1, .int p0)] := hl
  have lo_p0 := i_lo p0
  have hi_p0 := i_hi p0
  refine lv_iconst (v := 0) hx hb dX8_placesWith_0 (by decide) ?_
  refine lv_istore_n (lv' := [(2, .int 0), (0, .ref h0), (1, .int p0)]) hx hb dX8_placesWith_1 rfl hl (by decide) rfl (fun ls hl => ?_)
  refine lv_iconst (v := 0) hx hb dX8_placesWith_2 (by decide) ?_
  refine lv_istore_n (lv' := [(3, .int 0), (2, .int 0), (0, .ref h0), (1, .int p0)]) hx hb dX8_placesWith_3 rfl hl (by decide) rfl (fun ls hl => ?_)
  refine lv_iload_n hx hb dX8_placesWith_4 rfl (lv_at hl 0 rfl) ?_
  refine lv_bipush (v := 16) hx hb dX8_placesWith_5 (by decide) ?_
  refine lv_icmp_ge (tgt := 29) hx hb dX8_placesWith_7 (by decide) (fun c_1 => absurd c_1 (by decide)) (fun c_1 => ?_)
  refine lv_aload_n hx hb dX8_placesWith_10 rfl (lv_at hl 2 rfl) ?_
  refine va_get (D := D) (ci := 8) (v := .ref (a 1)) (C := RX8) (T := TX8) (N := 14) hx hb htb iX8 hown hK.1 hP 0 rfl rfl 1 (by decide) (htb _ k_273) (fun _ h9 => h9) rfl dX8_placesWith_11 ?_
  refine lv_iload_n hx hb dX8_placesWith_14 rfl (lv_at hl 0 rfl) ?_
  refine va_iald hx hb hK.1 hP 1 0 rfl rfl (g_in t_0 (by decide) (by decide)) dX8_placesWith_15 ?_
  refine W_top (y := .int (-5)) rfl ?_
  refine lv_iload_n hx hb dX8_placesWith_16 rfl (lv_at hl 3 rfl) ?_
  refine lv_icmp_ne (tgt := 23) hx hb dX8_placesWith_17 (by decide) (fun c_2 => ?_) (fun c_2 => absurd c_2 (by rw [g_eq t_m5 rfl]; omega))
  refine lv_iinc (v := 1) (lv' := [(3, .int 1), (2, .int 0), (0, .ref h0), (1, .int p0)]) hx hb dX8_placesWith_23 hl (k := 0) rfl (by decide) (by decide) rfl (fun ls hl => ?_)
  refine lv_goto (tgt := 4) hx hb dX8_placesWith_26 (by decide) ?_
  refine lv_iload_n hx hb dX8_placesWith_4 rfl (lv_at hl 0 rfl) ?_
  refine lv_bipush (v := 16) hx hb dX8_placesWith_5 (by decide) ?_
  refine lv_icmp_ge (tgt := 29) hx hb dX8_placesWith_7 (by decide) (fun c_3 => absurd c_3 (by decide)) (fun c_3 => ?_)
  refine lv_aload_n hx hb dX8_placesWith_10 rfl (lv_at hl 2 rfl) ?_
  refine va_get (D := D) (ci := 8) (v := .ref (a 1)) (C := RX8) (T := TX8) (N := 14) hx hb htb iX8 hown hK.1 hP 0 rfl rfl 1 (by decide) (htb _ k_273) (fun _ h9 => h9) rfl dX8_placesWith_11 ?_
  refine lv_iload_n hx hb dX8_placesWith_14 rfl (lv_at hl 0 rfl) ?_
  refine va_iald hx hb hK.1 hP 1 0 rfl rfl (g_in t_1 (by decide) (by decide)) dX8_placesWith_15 ?_
  refine W_top (y := .int (-5)) rfl ?_
  refine lv_iload_n hx hb dX8_placesWith_16 rfl (lv_at hl 3 rfl) ?_
  refine lv_icmp_ne (tgt := 23) hx hb dX8_placesWith_17 (by decide) (fun c_4 => ?_) (fun c_4 => absurd c_4 (by rw [g_eq t_m5 rfl]; omega))
  refine lv_iinc (v := 2) (lv' := [(3, .int 2), (2, .int 0), (0, .ref h0), (1, .int p0)]) hx hb dX8_placesWith_23 hl (k := 0) rfl (by decide) (by decide) rfl (fun ls hl => ?_)
  refine lv_goto (tgt := 4) hx hb dX8_placesWith_26 (by decide) ?_
  refine lv_iload_n hx hb dX8_placesWith_4 rfl (lv_at hl 0 rfl) ?_
  refine lv_bipush (v := 16) hx hb dX8_placesWith_5 (by decide) ?_
  refine lv_icmp_ge (tgt := 29) hx hb dX8_placesWith_7 (by decide) (fun c_5 => absurd c_5 (by decide)) (fun c_5 => ?_)
  refine lv_aload_n hx hb dX8_placesWith_10 rfl (lv_at hl 2 rfl) ?_
  refine va_get (D := D) (ci := 8) (v := .ref (a 1)) (C := RX8) (T := TX8) (N := 14) hx hb htb iX8 hown hK.1 hP 0 rfl rfl 1 (by decide) (htb _ k_273) (fun _ h9 => h9) rfl dX8_placesWith_11 ?_
  refine lv_iload_n hx hb dX8_placesWith_14 rfl (lv_at hl 0 rfl) ?_
  refine va_iald hx hb hK.1 hP 1 0 rfl rfl (g_in t_2 (by decide) (by decide)) dX8_placesWith_15 ?_
  refine W_top (y := .int (-5)) rfl ?_
  refine lv_iload_n hx hb dX8_placesWith_16 rfl (lv_at hl 3 rfl) ?_
  refine lv_icmp_ne (tgt := 23) hx hb dX8_placesWith_17 (by decide) (fun c_6 => ?_) (fun c_6 => absurd c_6 (by rw [g_eq t_m5 rfl]; omega))
  refine lv_iinc (v := 3) (lv' := [(3, .int 3), (2, .int 0), (0, .ref h0), (1, .int p0)]) hx hb dX8_placesWith_23 hl (k := 0) rfl (by decide) (by decide) rfl (fun ls hl => ?_)
  refine lv_goto (tgt := 4) hx hb dX8_placesWith_26 (by decide) ?_
  refine lv_iload_n hx hb dX8_placesWith_4 rfl (lv_at hl 0 rfl) ?_
  refine lv_bipush (v := 16) hx hb dX8_placesWith_5 (by decide) ?_
  refine lv_icmp_ge (tgt := 29) hx hb dX8_placesWith_7 (by decide) (fun c_7 => absurd c_7 (by decide)) (fun c_7 => ?_)
  refine lv_aload_n hx hb dX8_placesWith_10 rfl (lv_at hl 2 rfl) ?_
  refine va_get (D := D) (ci := 8) (v := .ref (a 1)) (C := RX8) (T := TX8) (N := 14) hx hb htb iX8 hown hK.1 hP 0 rfl rfl 1 (by decide) (htb _ k_273) (fun _ h9 => h9) rfl dX8_placesWith_11 ?_
  refine lv_iload_n hx hb dX8_placesWith_14 rfl (lv_at hl 0 rfl) ?_
  refine va_iald hx hb hK.1 hP 1 0 rfl rfl (g_in t_3 (by decide) (by decide)) dX8_placesWith_15 ?_
  refine W_top (y := .int (-5)) rfl ?_
  refine lv_iload_n hx hb dX8_placesWith_16 rfl (lv_at hl 3 rfl) ?_
  refine lv_icmp_ne (tgt := 23) hx hb dX8_placesWith_17 (by decide) (fun c_8 => ?_) (fun c_8 => absurd c_8 (by rw [g_eq t_m5 rfl]; omega))
  refine lv_iinc (v := 4) (lv' := [(3, .int 4), (2, .int 0), (0, .ref h0), (1, .int p0)]) hx hb dX8_placesWith_23 hl (k := 0) rfl (by decide) (by decide) rfl (fun ls hl => ?_)
  refine lv_goto (tgt := 4) hx hb dX8_placesWith_26 (by decide) ?_
  refine lv_iload_n hx hb dX8_placesWith_4 rfl (lv_at hl 0 rfl) ?_
  refine lv_bipush (v := 16) hx hb dX8_placesWith_5 (by decide) ?_
  refine lv_icmp_ge (tgt := 29) hx hb dX8_placesWith_7 (by decide) (fun c_9 => absurd c_9 (by decide)) (fun c_9 => ?_)
  refine lv_aload_n hx hb dX8_placesWith_10 rfl (lv_at hl 2 rfl) ?_
  refine va_get (D := D) (ci := 8) (v := .ref (a 1)) (C := RX8) (T := TX8) (N := 14) hx hb htb iX8 hown hK.1 hP 0 rfl rfl 1 (by decide) (htb _ k_273) (fun _ h9 => h9) rfl dX8_placesWith_11 ?_
  refine lv_iload_n hx hb dX8_placesWith_14 rfl (lv_at hl 0 rfl) ?_
  refine va_iald hx hb hK.1 hP 1 0 rfl rfl (g_in t_4 (by decide) (by decide)) dX8_placesWith_15 ?_
  refine W_top (y := .int (-5)) rfl ?_
  refine lv_iload_n hx hb dX8_placesWith_16 rfl (lv_at hl 3 rfl) ?_
  refine lv_icmp_ne (tgt := 23) hx hb dX8_placesWith_17 (by decide) (fun c_10 => ?_) (fun c_10 => absurd c_10 (by rw [g_eq t_m5 rfl]; omega))
  refine lv_iinc (v := 5) (lv' := [(3, .int 5), (2, .int 0), (0, .ref h0), (1, .int p0)]) hx hb dX8_placesWith_23 hl (k := 0) rfl (by decide) (by decide) rfl (fun ls hl => ?_)
  refine lv_goto (tgt := 4) hx hb dX8_placesWith_26 (by decide) ?_
  refine lv_iload_n hx hb dX8_placesWith_4 rfl (lv_at hl 0 rfl) ?_
  refine lv_bipush (v := 16) hx hb dX8_placesWith_5 (by decide) ?_
  refine lv_icmp_ge (tgt := 29) hx hb dX8_placesWith_7 (by decide) (fun c_11 => absurd c_11 (by decide)) (fun c_11 => ?_)
  refine lv_aload_n hx hb dX8_placesWith_10 rfl (lv_at hl 2 rfl) ?_
  refine va_get (D := D) (ci := 8) (v := .ref (a 1)) (C := RX8) (T := TX8) (N := 14) hx hb htb iX8 hown hK.1 hP 0 rfl rfl 1 (by decide) (htb _ k_273) (fun _ h9 => h9) rfl dX8_placesWith_11 ?_
  refine lv_iload_n hx hb dX8_placesWith_14 rfl (lv_at hl 0 rfl) ?_
  refine va_iald hx hb hK.1 hP 1 0 rfl rfl (g_in t_5 (by decide) (by decide)) dX8_placesWith_15 ?_
  refine W_top (y := .int (-5)) rfl ?_
  refine lv_iload_n hx hb dX8_placesWith_16 rfl (lv_at hl 3 rfl) ?_
  refine lv_icmp_ne (tgt := 23) hx hb dX8_placesWith_17 (by decide) (fun c_12 => ?_) (fun c_12 => absurd c_12 (by rw [g_eq t_m5 rfl]; omega))
  refine lv_iinc (v := 6) (lv' := [(3, .int 6), (2, .int 0), (0, .ref h0), (1, .int p0)]) hx hb dX8_placesWith_23 hl (k := 0) rfl (by decide) (by decide) rfl (fun ls hl => ?_)
  refine lv_goto (tgt := 4) hx hb dX8_placesWith_26 (by decide) ?_
  refine lv_iload_n hx hb dX8_placesWith_4 rfl (lv_at hl 0 rfl) ?_
  refine lv_bipush (v := 16) hx hb dX8_placesWith_5 (by decide) ?_
  refine lv_icmp_ge (tgt := 29) hx hb dX8_placesWith_7 (by decide) (fun c_13 => absurd c_13 (by decide)) (fun c_13 => ?_)
  refine lv_aload_n hx hb dX8_placesWith_10 rfl (lv_at hl 2 rfl) ?_
  refine va_get (D := D) (ci := 8) (v := .ref (a 1)) (C := RX8) (T := TX8) (N := 14) hx hb htb iX8 hown hK.1 hP 0 rfl rfl 1 (by decide) (htb _ k_273) (fun _ h9 => h9) rfl dX8_placesWith_11 ?_
  refine lv_iload_n hx hb dX8_placesWith_14 rfl (lv_at hl 0 rfl) ?_
  refine va_iald hx hb hK.1 hP 1 0 rfl rfl (g_in t_6 (by decide) (by decide)) dX8_placesWith_15 ?_
  refine W_top (y := .int (-5)) rfl ?_
  refine lv_iload_n hx hb dX8_placesWith_16 rfl (lv_at hl 3 rfl) ?_
  refine lv_icmp_ne (tgt := 23) hx hb dX8_placesWith_17 (by decide) (fun c_14 => ?_) (fun c_14 => absurd c_14 (by rw [g_eq t_m5 rfl]; omega))
  refine lv_iinc (v := 7) (lv' := [(3, .int 7), (2, .int 0), (0, .ref h0), (1, .int p0)]) hx hb dX8_placesWith_23 hl (k := 0) rfl (by decide) (by decide) rfl (fun ls hl => ?_)
  refine lv_goto (tgt := 4) hx hb dX8_placesWith_26 (by decide) ?_
  refine lv_iload_n hx hb dX8_placesWith_4 rfl (lv_at hl 0 rfl) ?_
  refine lv_bipush (v := 16) hx hb dX8_placesWith_5 (by decide) ?_
  refine lv_icmp_ge (tgt := 29) hx hb dX8_placesWith_7 (by decide) (fun c_15 => absurd c_15 (by decide)) (fun c_15 => ?_)
  refine lv_aload_n hx hb dX8_placesWith_10 rfl (lv_at hl 2 rfl) ?_
  refine va_get (D := D) (ci := 8) (v := .ref (a 1)) (C := RX8) (T := TX8) (N := 14) hx hb htb iX8 hown hK.1 hP 0 rfl rfl 1 (by decide) (htb _ k_273) (fun _ h9 => h9) rfl dX8_placesWith_11 ?_
  refine lv_iload_n hx hb dX8_placesWith_14 rfl (lv_at hl 0 rfl) ?_
  refine va_iald hx hb hK.1 hP 1 0 rfl rfl (g_in t_7 (by decide) (by decide)) dX8_placesWith_15 ?_
  refine W_top (y := .int (-5)) rfl ?_
  refine lv_iload_n hx hb dX8_placesWith_16 rfl (lv_at hl 3 rfl) ?_
  refine lv_icmp_ne (tgt := 23) hx hb dX8_placesWith_17 (by decide) (fun c_16 => ?_) (fun c_16 => absurd c_16 (by rw [g_eq t_m5 rfl]; omega))
  refine lv_iinc (v := 8) (lv' := [(3, .int 8), (2, .int 0), (0, .ref h0), (1, .int p0)]) hx hb dX8_placesWith_23 hl (k := 0) rfl (by decide) (by decide) rfl (fun ls hl => ?_)
  refine lv_goto (tgt := 4) hx hb dX8_placesWith_26 (by decide) ?_
  refine lv_iload_n hx hb dX8_placesWith_4 rfl (lv_at hl 0 rfl) ?_
  refine lv_bipush (v := 16) hx hb dX8_placesWith_5 (by decide) ?_
  refine lv_icmp_ge (tgt := 29) hx hb dX8_placesWith_7 (by decide) (fun c_17 => absurd c_17 (by decide)) (fun c_17 => ?_)
  refine lv_aload_n hx hb dX8_placesWith_10 rfl (lv_at hl 2 rfl) ?_
  refine va_get (D := D) (ci := 8) (v := .ref (a 1)) (C := RX8) (T := TX8) (N := 14) hx hb htb iX8 hown hK.1 hP 0 rfl rfl 1 (by decide) (htb _ k_273) (fun _ h9 => h9) rfl dX8_placesWith_11 ?_
  refine lv_iload_n hx hb dX8_placesWith_14 rfl (lv_at hl 0 rfl) ?_
  refine va_iald hx hb hK.1 hP 1 0 rfl rfl (g_in t_8 (by decide) (by decide)) dX8_placesWith_15 ?_
  refine W_top (y := .int (-5)) rfl ?_
  refine lv_iload_n hx hb dX8_placesWith_16 rfl (lv_at hl 3 rfl) ?_
  refine lv_icmp_ne (tgt := 23) hx hb dX8_placesWith_17 (by decide) (fun c_18 => ?_) (fun c_18 => absurd c_18 (by rw [g_eq t_m5 rfl]; omega))
  refine lv_iinc (v := 9) (lv' := [(3, .int 9), (2, .int 0), (0, .ref h0), (1, .int p0)]) hx hb dX8_placesWith_23 hl (k := 0) rfl (by decide) (by decide) rfl (fun ls hl => ?_)
  refine lv_goto (tgt := 4) hx hb dX8_placesWith_26 (by decide) ?_
  refine lv_iload_n hx hb dX8_placesWith_4 rfl (lv_at hl 0 rfl) ?_
  refine lv_bipush (v := 16) hx hb dX8_placesWith_5 (by decide) ?_
  refine lv_icmp_ge (tgt := 29) hx hb dX8_placesWith_7 (by decide) (fun c_19 => absurd c_19 (by decide)) (fun c_19 => ?_)
  refine lv_aload_n hx hb dX8_placesWith_10 rfl (lv_at hl 2 rfl) ?_
  refine va_get (D := D) (ci := 8) (v := .ref (a 1)) (C := RX8) (T := TX8) (N := 14) hx hb htb iX8 hown hK.1 hP 0 rfl rfl 1 (by decide) (htb _ k_273) (fun _ h9 => h9) rfl dX8_placesWith_11 ?_
  refine lv_iload_n hx hb dX8_placesWith_14 rfl (lv_at hl 0 rfl) ?_
  refine va_iald hx hb hK.1 hP 1 0 rfl rfl (g_in t_9 (by decide) (by decide)) dX8_placesWith_15 ?_
  refine W_top (y := .int (-5)) rfl ?_
  refine lv_iload_n hx hb dX8_placesWith_16 rfl (lv_at hl 3 rfl) ?_
  refine lv_icmp_ne (tgt := 23) hx hb dX8_placesWith_17 (by decide) (fun c_20 => ?_) (fun c_20 => absurd c_20 (by rw [g_eq t_m5 rfl]; omega))
  refine lv_iinc (v := 10) (lv' := [(3, .int 10), (2, .int 0), (0, .ref h0), (1, .int p0)]) hx hb dX8_placesWith_23 hl (k := 0) rfl (by decide) (by decide) rfl (fun ls hl => ?_)
  refine lv_goto (tgt := 4) hx hb dX8_placesWith_26 (by decide) ?_
  refine lv_iload_n hx hb dX8_placesWith_4 rfl (lv_at hl 0 rfl) ?_
  refine lv_bipush (v := 16) hx hb dX8_placesWith_5 (by decide) ?_
  refine lv_icmp_ge (tgt := 29) hx hb dX8_placesWith_7 (by decide) (fun c_21 => absurd c_21 (by decide)) (fun c_21 => ?_)
  refine lv_aload_n hx hb dX8_placesWith_10 rfl (lv_at hl 2 rfl) ?_
  refine va_get (D := D) (ci := 8) (v := .ref (a 1)) (C := RX8) (T := TX8) (N := 14) hx hb htb iX8 hown hK.1 hP 0 rfl rfl 1 (by decide) (htb _ k_273) (fun _ h9 => h9) rfl dX8_placesWith_11 ?_
  refine lv_iload_n hx hb dX8_placesWith_14 rfl (lv_at hl 0 rfl) ?_
  refine va_iald hx hb hK.1 hP 1 0 rfl rfl (g_in t_10 (by decide) (by decide)) dX8_placesWith_15 ?_
  refine W_top (y := .int (-5)) rfl ?_
  refine lv_iload_n hx hb dX8_placesWith_16 rfl (lv_at hl 3 rfl) ?_
  refine lv_icmp_ne (tgt := 23) hx hb dX8_placesWith_17 (by decide) (fun c_22 => ?_) (fun c_22 => absurd c_22 (by rw [g_eq t_m5 rfl]; omega))
  refine lv_iinc (v := 11) (lv' := [(3, .int 11), (2, .int 0), (0, .ref h0), (1, .int p0)]) hx hb dX8_placesWith_23 hl (k := 0) rfl (by decide) (by decide) rfl (fun ls hl => ?_)
  refine lv_goto (tgt := 4) hx hb dX8_placesWith_26 (by decide) ?_
  refine lv_iload_n hx hb dX8_placesWith_4 rfl (lv_at hl 0 rfl) ?_
  refine lv_bipush (v := 16) hx hb dX8_placesWith_5 (by decide) ?_
  refine lv_icmp_ge (tgt := 29) hx hb dX8_placesWith_7 (by decide) (fun c_23 => absurd c_23 (by decide)) (fun c_23 => ?_)
  refine lv_aload_n hx hb dX8_placesWith_10 rfl (lv_at hl 2 rfl) ?_
  refine va_get (D := D) (ci := 8) (v := .ref (a 1)) (C := RX8) (T := TX8) (N := 14) hx hb htb iX8 hown hK.1 hP 0 rfl rfl 1 (by decide) (htb _ k_273) (fun _ h9 => h9) rfl dX8_placesWith_11 ?_
  refine lv_iload_n hx hb dX8_placesWith_14 rfl (lv_at hl 0 rfl) ?_
  refine va_iald hx hb hK.1 hP 1 0 rfl rfl (g_in t_11 (by decide) (by decide)) dX8_placesWith_15 ?_
  refine W_top (y := .int (-5)) rfl ?_
  refine lv_iload_n hx hb dX8_placesWith_16 rfl (lv_at hl 3 rfl) ?_
  refine lv_icmp_ne (tgt := 23) hx hb dX8_placesWith_17 (by decide) (fun c_24 => ?_) (fun c_24 => absurd c_24 (by rw [g_eq t_m5 rfl]; omega))
  refine lv_iinc (v := 12) (lv' := [(3, .int 12), (2, .int 0), (0, .ref h0), (1, .int p0)]) hx hb dX8_placesWith_23 hl (k := 0) rfl (by decide) (by decide) rfl (fun ls hl => ?_)
  refine lv_goto (tgt := 4) hx hb dX8_placesWith_26 (by decide) ?_
  refine lv_iload_n hx hb dX8_placesWith_4 rfl (lv_at hl 0 rfl) ?_
  refine lv_bipush (v := 16) hx hb dX8_placesWith_5 (by decide) ?_
  refine lv_icmp_ge (tgt := 29) hx hb dX8_placesWith_7 (by decide) (fun c_25 => absurd c_25 (by decide)) (fun c_25 => ?_)
  refine lv_aload_n hx hb dX8_placesWith_10 rfl (lv_at hl 2 rfl) ?_
  refine va_get (D := D) (ci := 8) (v := .ref (a 1)) (C := RX8) (T := TX8) (N := 14) hx hb htb iX8 hown hK.1 hP 0 rfl rfl 1 (by decide) (htb _ k_273) (fun _ h9 => h9) rfl dX8_placesWith_11 ?_
  refine lv_iload_n hx hb dX8_placesWith_14 rfl (lv_at hl 0 rfl) ?_
  refine va_iald hx hb hK.1 hP 1 0 rfl rfl (g_in t_12 (by decide) (by decide)) dX8_placesWith_15 ?_
  refine W_top (y := .int (-5)) rfl ?_
  refine lv_iload_n hx hb dX8_placesWith_16 rfl (lv_at hl 3 rfl) ?_
  refine lv_icmp_ne (tgt := 23) hx hb dX8_placesWith_17 (by decide) (fun c_26 => ?_) (fun c_26 => absurd c_26 (by rw [g_eq t_m5 rfl]; omega))
  refine lv_iinc (v := 13) (lv' := [(3, .int 13), (2, .int 0), (0, .ref h0), (1, .int p0)]) hx hb dX8_placesWith_23 hl (k := 0) rfl (by decide) (by decide) rfl (fun ls hl => ?_)
  refine lv_goto (tgt := 4) hx hb dX8_placesWith_26 (by decide) ?_
  refine lv_iload_n hx hb dX8_placesWith_4 rfl (lv_at hl 0 rfl) ?_
  refine lv_bipush (v := 16) hx hb dX8_placesWith_5 (by decide) ?_
  refine lv_icmp_ge (tgt := 29) hx hb dX8_placesWith_7 (by decide) (fun c_27 => absurd c_27 (by decide)) (fun c_27 => ?_)
  refine lv_aload_n hx hb dX8_placesWith_10 rfl (lv_at hl 2 rfl) ?_
  refine va_get (D := D) (ci := 8) (v := .ref (a 1)) (C := RX8) (T := TX8) (N := 14) hx hb htb iX8 hown hK.1 hP 0 rfl rfl 1 (by decide) (htb _ k_273) (fun _ h9 => h9) rfl dX8_placesWith_11 ?_
  refine lv_iload_n hx hb dX8_placesWith_14 rfl (lv_at hl 0 rfl) ?_
  refine va_iald hx hb hK.1 hP 1 0 rfl rfl (g_in t_13 (by decide) (by decide)) dX8_placesWith_15 ?_
  refine W_top (y := .int (-5)) rfl ?_
  refine lv_iload_n hx hb dX8_placesWith_16 rfl (lv_at hl 3 rfl) ?_
  refine lv_icmp_ne (tgt := 23) hx hb dX8_placesWith_17 (by decide) (fun c_28 => ?_) (fun c_28 => absurd c_28 (by rw [g_eq t_m5 rfl]; omega))
  refine lv_iinc (v := 14) (lv' := [(3, .int 14), (2, .int 0), (0, .ref h0), (1, .int p0)]) hx hb dX8_placesWith_23 hl (k := 0) rfl (by decide) (by decide) rfl (fun ls hl => ?_)
  refine lv_goto (tgt := 4) hx hb dX8_placesWith_26 (by decide) ?_
  refine lv_iload_n hx hb dX8_placesWith_4 rfl (lv_at hl 0 rfl) ?_
  refine lv_bipush (v := 16) hx hb dX8_placesWith_5 (by decide) ?_
  refine lv_icmp_ge (tgt := 29) hx hb dX8_placesWith_7 (by decide) (fun c_29 => absurd c_29 (by decide)) (fun c_29 => ?_)
  refine lv_aload_n hx hb dX8_placesWith_10 rfl (lv_at hl 2 rfl) ?_
  refine va_get (D := D) (ci := 8) (v := .ref (a 1)) (C := RX8) (T := TX8) (N := 14) hx hb htb iX8 hown hK.1 hP 0 rfl rfl 1 (by decide) (htb _ k_273) (fun _ h9 => h9) rfl dX8_placesWith_11 ?_
  refine lv_iload_n hx hb dX8_placesWith_14 rfl (lv_at hl 0 rfl) ?_
  refine va_iald hx hb hK.1 hP 1 0 rfl rfl (g_in t_14 (by decide) (by decide)) dX8_placesWith_15 ?_
  refine W_top (y := .int (-5)) rfl ?_
  refine lv_iload_n hx hb dX8_placesWith_16 rfl (lv_at hl 3 rfl) ?_
  refine lv_icmp_ne (tgt := 23) hx hb dX8_placesWith_17 (by decide) (fun c_30 => ?_) (fun c_30 => absurd c_30 (by rw [g_eq t_m5 rfl]; omega))
  refine lv_iinc (v := 15) (lv' := [(3, .int 15), (2, .int 0), (0, .ref h0), (1, .int p0)]) hx hb dX8_placesWith_23 hl (k := 0) rfl (by decide) (by decide) rfl (fun ls hl => ?_)
  refine lv_goto (tgt := 4) hx hb dX8_placesWith_26 (by decide) ?_
  refine lv_iload_n hx hb dX8_placesWith_4 rfl (lv_at hl 0 rfl) ?_
  refine lv_bipush (v := 16) hx hb dX8_placesWith_5 (by decide) ?_
  refine lv_icmp_ge (tgt := 29) hx hb dX8_placesWith_7 (by decide) (fun c_31 => absurd c_31 (by decide)) (fun c_31 => ?_)
  refine lv_aload_n hx hb dX8_placesWith_10 rfl (lv_at hl 2 rfl) ?_
  refine va_get (D := D) (ci := 8) (v := .ref (a 1)) (C := RX8) (T := TX8) (N := 14) hx hb htb iX8 hown hK.1 hP 0 rfl rfl 1 (by decide) (htb _ k_273) (fun _ h9 => h9) rfl dX8_placesWith_11 ?_
  refine lv_iload_n hx hb dX8_placesWith_14 rfl (lv_at hl 0 rfl) ?_
  refine va_iald hx hb hK.1 hP 1 0 rfl rfl (g_in t_15 (by decide) (by decide)) dX8_placesWith_15 ?_
  refine W_top (y := .int (-5)) rfl ?_
  refine lv_iload_n hx hb dX8_placesWith_16 rfl (lv_at hl 3 rfl) ?_
  refine lv_icmp_ne (tgt := 23) hx hb dX8_placesWith_17 (by decide) (fun c_32 => ?_) (fun c_32 => absurd c_32 (by rw [g_eq t_m5 rfl]; omega))
  refine lv_iinc (v := 16) (lv' := [(3, .int 16), (2, .int 0), (0, .ref h0), (1, .int p0)]) hx hb dX8_placesWith_23 hl (k := 0) rfl (by decide) (by decide) rfl (fun ls hl => ?_)
  refine lv_goto (tgt := 4) hx hb dX8_placesWith_26 (by decide) ?_
  refine lv_iload_n hx hb dX8_placesWith_4 rfl (lv_at hl 0 rfl) ?_
  refine lv_bipush (v := 16) hx hb dX8_placesWith_5 (by decide) ?_
  refine lv_icmp_ge (tgt := 29) hx hb dX8_placesWith_7 (by decide) (fun c_33 => ?_) (fun c_33 => absurd (by decide) c_33)
  refine lv_iload_n hx hb dX8_placesWith_29 rfl (lv_at hl 1 rfl) ?_
  exact W.iret (v := 0) hx hb hr (fun t ht hW => ⟨0, rfl, ⟨rfl, trivial⟩, ht⟩) (fun q h => by cases h) dX8_placesWith_30
set_option maxHeartbeats 4000000 in
set_option maxRecDepth 100000 in
theorem c_X8_shipsAtSea (l : Launch) (D : va_G) (E : Nat → Nat) (h0 : Nat) (a : Nat → Nat) (b : Nat → Nat → Nat)  : Met l yX8_shipsAtSea (wl yX8_shipsAtSea cX8_shipsAtSea 3 (some .int)) (RM 0 0 0) (rd_P D E [.ref h0] [(h0, .inr (8, xF a 0)), ((a 4), .inl (E 4, 5, .inr (.inr (.inr (.inr (fun j => some (a (13 + j)))))))), ((a 13), .inr (5, sF (b 0))), ((a 14), .inr (5, sF (b 1))), ((a 15), .inr (5, sF (b 2))), ((a 16), .inr (5, sF (b 3))), ((a 17), .inr (5, sF (b 4)))]) (rd_Q (fun r => (r = 0 ∧ True))) 0 0 (fun _ => False) := by
  refine Met.ofW (cc := cX8_shipsAtSea) (maxL := 3) (ret := (some .int)) (by decide) rfl ?_
  intro p e s m args below meth c s₁ B hml hv
  obtain ⟨rfl, hP, hK⟩ := hv
  have hx := B.exec
  have hb := B.bytes
  have hr := B.returns
  have hts := atoms_spec (ws := wl yX8_shipsAtSea cX8_shipsAtSea 3 (some .int)) B.pre
  have htb : ∀ w ∈ tb, w.before _ s = true := fun w h => hts w (List.mem_cons_of_mem _ h)
  have hown : s.vm.findClass RX8 = some m.cls := findClass_of_methodNamed B.named
  have hlocks := B.notSynchronized
  have hP : va_P D vwCl [(h0, .inr (8, xF a 0)), ((a 4), .inl (E 4, 5, .inr (.inr (.inr (.inr (fun j => some (a (13 + j)))))))), ((a 13), .inr (5, sF (b 0))), ((a 14), .inr (5, sF (b 1))), ((a 15), .inr (5, sF (b 2))), ((a 16), .inr (5, sF (b 3))), ((a 17), .inr (5, sF (b 4)))] s.heap := hP
  have hl := lv_entry ([.ref h0]) (n := 3) (Nat.le_of_ble_eq_true rfl)
  rw [lg_entry_eq]
  generalize (lg_sl ([.ref h0]) ++ List.replicate (3 - (lg_sl ([.ref h0])).length) Slot.unset).toArray = ls at hl ⊢
  have hl : lv_has ls 3 [(0, .ref h0)] := hl
  refine lv_iconst (v := 0) hx hb dX8_shipsAtSea_0 (by decide) ?_
  refine lv_istore_n (lv' := [(1, .int 0), (0, .ref h0)]) hx hb dX8_shipsAtSea_1 rfl hl (by decide) rfl (fun ls hl => ?_)
  refine lv_iconst (v := 0) hx hb dX8_shipsAtSea_2 (by decide) ?_
  refine lv_istore_n (lv' := [(2, .int 0), (1, .int 0), (0, .ref h0)]) hx hb dX8_shipsAtSea_3 rfl hl (by decide) rfl (fun ls hl => ?_)
  refine lv_iload_n hx hb dX8_shipsAtSea_4 rfl (lv_at hl 0 rfl) ?_
  refine lv_iconst (v := 5) hx hb dX8_shipsAtSea_5 (by decide) ?_
  refine lv_icmp_ge (tgt := 31) hx hb dX8_shipsAtSea_6 (by decide) (fun c_1 => absurd c_1 (by decide)) (fun c_1 => ?_)
  refine lv_aload_n hx hb dX8_shipsAtSea_9 rfl (lv_at hl 2 rfl) ?_
  refine va_get (D := D) (ci := 8) (v := .ref (a 4)) (C := RX8) (T := TX8) (N := 14) hx hb htb iX8 hown hK.1 hP 0 rfl rfl 4 (by decide) (htb _ k_276) (fun _ h9 => h9) rfl dX8_shipsAtSea_10 ?_
  refine lv_iload_n hx hb dX8_shipsAtSea_13 rfl (lv_at hl 0 rfl) ?_
  refine va_aldq hx hb hK.1 hP 1 4 rfl rfl (g_in t_0 (by decide) (by decide)) dX8_shipsAtSea_14 ?_
  refine W_top (y := .ref (a 13)) (congrArg (fun n => Value.ref (a n)) (by decide : 13 + (0 : Int32).toNatClampNeg = 13)) ?_
  refine va_getN (D := D) (ci := 5) (v := .int 0) (C := RX5) (T := TX5) (N := 11) hx hb htb iX5 hown hK.1 hP 2 rfl rfl 8 (by decide) (va_Nw.use rfl (hK.2.1 (Cond.fieldLinkNest RX8 208 "SeaWatches$Ship" "stage" "I" "SeaWatches") (by decide +kernel))) (fun _ h9 => h9) rfl dX8_shipsAtSea_15 ?_
  refine lv_iconst (v := 1) hx hb dX8_shipsAtSea_18 (by decide) ?_
  refine lv_icmp_ne (tgt := 25) hx hb dX8_shipsAtSea_19 (by decide) (fun c_2 => ?_) (fun c_2 => absurd c_2 (by decide))
  refine lv_iinc (v := 1) (lv' := [(2, .int 1), (1, .int 0), (0, .ref h0)]) hx hb dX8_shipsAtSea_25 hl (k := 0) rfl (by decide) (by decide) rfl (fun ls hl => ?_)
  refine lv_goto (tgt := 4) hx hb dX8_shipsAtSea_28 (by decide) ?_
  refine lv_iload_n hx hb dX8_shipsAtSea_4 rfl (lv_at hl 0 rfl) ?_
  refine lv_iconst (v := 5) hx hb dX8_shipsAtSea_5 (by decide) ?_
  refine lv_icmp_ge (tgt := 31) hx hb dX8_shipsAtSea_6 (by decide) (fun c_3 => absurd c_3 (by decide)) (fun c_3 => ?_)
  refine lv_aload_n hx hb dX8_shipsAtSea_9 rfl (lv_at hl 2 rfl) ?_
  refine va_get (D := D) (ci := 8) (v := .ref (a 4)) (C := RX8) (T := TX8) (N := 14) hx hb htb iX8 hown hK.1 hP 0 rfl rfl 4 (by decide) (htb _ k_276) (fun _ h9 => h9) rfl dX8_shipsAtSea_10 ?_
  refine lv_iload_n hx hb dX8_shipsAtSea_13 rfl (lv_at hl 0 rfl) ?_
  refine va_aldq hx hb hK.1 hP 1 4 rfl rfl (g_in t_1 (by decide) (by decide)) dX8_shipsAtSea_14 ?_
  refine W_top (y := .ref (a 14)) (congrArg (fun n => Value.ref (a n)) (by decide : 13 + (1 : Int32).toNatClampNeg = 14)) ?_
  refine va_getN (D := D) (ci := 5) (v := .int 0) (C := RX5) (T := TX5) (N := 11) hx hb htb iX5 hown hK.1 hP 3 rfl rfl 8 (by decide) (va_Nw.use rfl (hK.2.1 (Cond.fieldLinkNest RX8 208 "SeaWatches$Ship" "stage" "I" "SeaWatches") (by decide +kernel))) (fun _ h9 => h9) rfl dX8_shipsAtSea_15 ?_
  refine lv_iconst (v := 1) hx hb dX8_shipsAtSea_18 (by decide) ?_
  refine lv_icmp_ne (tgt := 25) hx hb dX8_shipsAtSea_19 (by decide) (fun c_4 => ?_) (fun c_4 => absurd c_4 (by decide))
  refine lv_iinc (v := 2) (lv' := [(2, .int 2), (1, .int 0), (0, .ref h0)]) hx hb dX8_shipsAtSea_25 hl (k := 0) rfl (by decide) (by decide) rfl (fun ls hl => ?_)
  refine lv_goto (tgt := 4) hx hb dX8_shipsAtSea_28 (by decide) ?_
  refine lv_iload_n hx hb dX8_shipsAtSea_4 rfl (lv_at hl 0 rfl) ?_
  refine lv_iconst (v := 5) hx hb dX8_shipsAtSea_5 (by decide) ?_
  refine lv_icmp_ge (tgt := 31) hx hb dX8_shipsAtSea_6 (by decide) (fun c_5 => absurd c_5 (by decide)) (fun c_5 => ?_)
  refine lv_aload_n hx hb dX8_shipsAtSea_9 rfl (lv_at hl 2 rfl) ?_
  refine va_get (D := D) (ci := 8) (v := .ref (a 4)) (C := RX8) (T := TX8) (N := 14) hx hb htb iX8 hown hK.1 hP 0 rfl rfl 4 (by decide) (htb _ k_276) (fun _ h9 => h9) rfl dX8_shipsAtSea_10 ?_
  refine lv_iload_n hx hb dX8_shipsAtSea_13 rfl (lv_at hl 0 rfl) ?_
  refine va_aldq hx hb hK.1 hP 1 4 rfl rfl (g_in t_2 (by decide) (by decide)) dX8_shipsAtSea_14 ?_
  refine W_top (y := .ref (a 15)) (congrArg (fun n => Value.ref (a n)) (by decide : 13 + (2 : Int32).toNatClampNeg = 15)) ?_
  refine va_getN (D := D) (ci := 5) (v := .int 0) (C := RX5) (T := TX5) (N := 11) hx hb htb iX5 hown hK.1 hP 4 rfl rfl 8 (by decide) (va_Nw.use rfl (hK.2.1 (Cond.fieldLinkNest RX8 208 "SeaWatches$Ship" "stage" "I" "SeaWatches") (by decide +kernel))) (fun _ h9 => h9) rfl dX8_shipsAtSea_15 ?_
  refine lv_iconst (v := 1) hx hb dX8_shipsAtSea_18 (by decide) ?_
  refine lv_icmp_ne (tgt := 25) hx hb dX8_shipsAtSea_19 (by decide) (fun c_6 => ?_) (fun c_6 => absurd c_6 (by decide))
  refine lv_iinc (v := 3) (lv' := [(2, .int 3), (1, .int 0), (0, .ref h0)]) hx hb dX8_shipsAtSea_25 hl (k := 0) rfl (by decide) (by decide) rfl (fun ls hl => ?_)
  refine lv_goto (tgt := 4) hx hb dX8_shipsAtSea_28 (by decide) ?_
  refine lv_iload_n hx hb dX8_shipsAtSea_4 rfl (lv_at hl 0 rfl) ?_
  refine lv_iconst (v := 5) hx hb dX8_shipsAtSea_5 (by decide) ?_
  refine lv_icmp_ge (tgt := 31) hx hb dX8_shipsAtSea_6 (by decide) (fun c_7 => absurd c_7 (by decide)) (fun c_7 => ?_)
  refine lv_aload_n hx hb dX8_shipsAtSea_9 rfl (lv_at hl 2 rfl) ?_
  refine va_get (D := D) (ci := 8) (v := .ref (a 4)) (C := RX8) (T := TX8) (N := 14) hx hb htb iX8 hown hK.1 hP 0 rfl rfl 4 (by decide) (htb _ k_276) (fun _ h9 => h9) rfl dX8_shipsAtSea_10 ?_
  refine lv_iload_n hx hb dX8_shipsAtSea_13 rfl (lv_at hl 0 rfl) ?_
  refine va_aldq hx hb hK.1 hP 1 4 rfl rfl (g_in t_3 (by decide) (by decide)) dX8_shipsAtSea_14 ?_
  refine W_top (y := .ref (a 16)) (congrArg (fun n => Value.ref (a n)) (by decide : 13 + (3 : Int32).toNatClampNeg = 16)) ?_
  refine va_getN (D := D) (ci := 5) (v := .int 0) (C := RX5) (T := TX5) (N := 11) hx hb htb iX5 hown hK.1 hP 5 rfl rfl 8 (by decide) (va_Nw.use rfl (hK.2.1 (Cond.fieldLinkNest RX8 208 "SeaWatches$Ship" "stage" "I" "SeaWatches") (by decide +kernel))) (fun _ h9 => h9) rfl dX8_shipsAtSea_15 ?_
  refine lv_iconst (v := 1) hx hb dX8_shipsAtSea_18 (by decide) ?_
  refine lv_icmp_ne (tgt := 25) hx hb dX8_shipsAtSea_19 (by decide) (fun c_8 => ?_) (fun c_8 => absurd c_8 (by decide))
  refine lv_iinc (v := 4) (lv' := [(2, .int 4), (1, .int 0), (0, .ref h0)]) hx hb dX8_shipsAtSea_25 hl (k := 0) rfl (by decide) (by decide) rfl (fun ls hl => ?_)
  refine lv_goto (tgt := 4) hx hb dX8_shipsAtSea_28 (by decide) ?_
  refine lv_iload_n hx hb dX8_shipsAtSea_4 rfl (lv_at hl 0 rfl) ?_
  refine lv_iconst (v := 5) hx hb dX8_shipsAtSea_5 (by decide) ?_
  refine lv_icmp_ge (tgt := 31) hx hb dX8_shipsAtSea_6 (by decide) (fun c_9 => absurd c_9 (by decide)) (fun c_9 => ?_)
  refine lv_aload_n hx hb dX8_shipsAtSea_9 rfl (lv_at hl 2 rfl) ?_
  refine va_get (D := D) (ci := 8) (v := .ref (a 4)) (C := RX8) (T := TX8) (N := 14) hx hb htb iX8 hown hK.1 hP 0 rfl rfl 4 (by decide) (htb _ k_276) (fun _ h9 => h9) rfl dX8_shipsAtSea_10 ?_
  refine lv_iload_n hx hb dX8_shipsAtSea_13 rfl (lv_at hl 0 rfl) ?_
  refine va_aldq hx hb hK.1 hP 1 4 rfl rfl (g_in t_4 (by decide) (by decide)) dX8_shipsAtSea_14 ?_
  refine W_top (y := .ref (a 17)) (congrArg (fun n => Value.ref (a n)) (by decide : 13 + (4 : Int32).toNatClampNeg = 17)) ?_
  refine va_getN (D := D) (ci := 5) (v := .int 0) (C := RX5) (T := TX5) (N := 11) hx hb htb iX5 hown hK.1 hP 6 rfl rfl 8 (by decide) (va_Nw.use rfl (hK.2.1 (Cond.fieldLinkNest RX8 208 "SeaWatches$Ship" "stage" "I" "SeaWatches") (by decide +kernel))) (fun _ h9 => h9) rfl dX8_shipsAtSea_15 ?_
  refine lv_iconst (v := 1) hx hb dX8_shipsAtSea_18 (by decide) ?_
  refine lv_icmp_ne (tgt := 25) hx hb dX8_shipsAtSea_19 (by decide) (fun c_10 => ?_) (fun c_10 => absurd c_10 (by decide))
  refine lv_iinc (v := 5) (lv' := [(2, .int 5), (1, .int 0), (0, .ref h0)]) hx hb dX8_shipsAtSea_25 hl (k := 0) rfl (by decide) (by decide) rfl (fun ls hl => ?_)
  refine lv_goto (tgt := 4) hx hb dX8_shipsAtSea_28 (by decide) ?_
  refine lv_iload_n hx hb dX8_shipsAtSea_4 rfl (lv_at hl 0 rfl) ?_
  refine lv_iconst (v := 5) hx hb dX8_shipsAtSea_5 (by decide) ?_
  refine lv_icmp_ge (tgt := 31) hx hb dX8_shipsAtSea_6 (by decide) (fun c_11 => ?_) (fun c_11 => absurd (by decide) c_11)
  refine lv_iload_n hx hb dX8_shipsAtSea_31 rfl (lv_at hl 1 rfl) ?_
  exact W.iret (v := 0) hx hb hr (fun t ht hW => ⟨0, rfl, ⟨rfl, trivial⟩, ht⟩) (fun q h => by cases h) dX8_shipsAtSea_32
set_option maxHeartbeats 4000000 in
set_option maxRecDepth 100000 in
theorem c_X5_mayBeSighted (l : Launch) (D : va_G) (E : Nat → Nat) (h0 : Nat) (b : Nat → Nat) (p0 : Int32)  : Met l yX5_mayBeSighted (wl yX5_mayBeSighted cX5_mayBeSighted 2 (some .boolean)) (RM 0 0 0) (rd_P D E [.ref h0, .int p0] [(h0, .inr (5, sF b))]) (rd_Q (fun r => (r = 1 ∧ True))) 0 0 (fun _ => False) := by
  refine Met.ofW (cc := cX5_mayBeSighted) (maxL := 2) (ret := (some .boolean)) (by decide) rfl ?_
  intro p e s m args below meth c s₁ B hml hv
  obtain ⟨rfl, hP, hK⟩ := hv
  have hx := B.exec
  have hb := B.bytes
  have hr := B.returns
  have hts := atoms_spec (ws := wl yX5_mayBeSighted cX5_mayBeSighted 2 (some .boolean)) B.pre
  have htb : ∀ w ∈ tb, w.before _ s = true := fun w h => hts w (List.mem_cons_of_mem _ h)
  have hown : s.vm.findClass RX5 = some m.cls := findClass_of_methodNamed B.named
  have hlocks := B.notSynchronized
  have hP : va_P D vwCl [(h0, .inr (5, sF b))] s.heap := hP
  have hl := lv_entry ([.ref h0, .int p0]) (n := 2) (Nat.le_of_ble_eq_true rfl)
  rw [lg_entry_eq]
  generalize (lg_sl ([.ref h0, .int p0]) ++ List.replicate (2 - (lg_sl ([.ref h0, .int p0])).length) Slot.unset).toArray = ls at hl ⊢
  have hl : lv_has ls 2 [(0, .ref h0), (1, .int p0)] := hl
  have lo_p0 := i_lo p0
  have hi_p0 := i_hi p0
  refine lv_aload_n hx hb dX5_mayBeSighted_0 rfl (lv_at hl 0 rfl) ?_
  refine va_get (D := D) (ci := 5) (v := .int 0) (C := RX5) (T := TX5) (N := 11) hx hb htb iX5 hown hK.1 hP 0 rfl rfl 8 (by decide) (htb _ k_243) (fun _ h9 => h9) rfl dX5_mayBeSighted_1 ?_
  refine lv_if_ne (tgt := 9) hx hb dX5_mayBeSighted_4 (by decide) (fun c_1 => absurd (by decide) c_1) (fun c_1 => ?_)
  refine lv_iconst (v := 1) hx hb dX5_mayBeSighted_7 (by decide) ?_
  exact W.zret (v := 1) hx hb hr rfl (fun t ht hW => ⟨1, rfl, ⟨rfl, trivial⟩, ht⟩) (fun q h => by cases h) dX5_mayBeSighted_8
