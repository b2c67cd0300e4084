set_option maxHeartbeats 4000000 in
set_option maxRecDepth 100000 in
theorem c_X8_take (l : Launch) (D : va_G) (E : Nat → Nat) (h0 : Nat) (a : Nat → Nat) (p0 : Int32)  : Met l yX8_take (wl yX8_take cX8_take 3 (some .int)) (RM 1 0 0) (rd_P D E [.ref h0, .int p0] [(h0, .inr (8, xF a 0)), ((a 1), .inl (E 0, 16, .inl (fun _ => -5)))]) (rd_Q (fun r => (r = (-2) ∧ (0 ≤ p0.toInt ∧ p0.toInt ≤ 15)) ∨ (r = (-1) ∧ ¬ (0 ≤ p0.toInt ∧ p0.toInt ≤ 15)))) 0 0 (fun _ => False) := by
  refine Met.ofW (cc := cX8_take) (maxL := 3) (ret := (some .int)) (by decide) rfl ?_
  intro p e s m args below meth c s₁ B hml hv
  obtain ⟨rfl, hP, hK⟩ := hv
  have hx := B.exec
  have hb := B.bytes
  have hr := B.returns
  have hts := atoms_spec (ws := wl yX8_take cX8_take 3 (some .int)) B.pre
  have htb : ∀ w ∈ tb, w.before _ s = true := fun w h => hts w (List.mem_cons_of_mem _ h)
  have hown : s.vm.findClass RX8 = some m.cls := findClass_of_methodNamed B.named
  have hlocks := B.notSynchronized
  have hP : va_P D vwCl [(h0, .inr (8, xF a 0)), ((a 1), .inl (E 0, 16, .inl (fun _ => -5)))] s.heap := hP
  have hl := lv_entry ([.ref h0, .int p0]) (n := 3) (Nat.le_of_ble_eq_true rfl)
  rw [lg_entry_eq]
  generalize (lg_sl ([.ref h0, .int p0]) ++ List.replicate (3 - (lg_sl ([.ref h0, .int p0])).length) Slot.unset).toArray = ls at hl ⊢
  have hl : lv_has ls 3 [(0, .ref h0), (1, .int p0)] := hl
  have lo_p0 := i_lo p0
  have hi_p0 := i_hi p0
  refine lv_iload_n hx hb dX8_take_0 rfl (lv_at hl 1 rfl) ?_
  refine callRS (rest := []) (As := [.int p0]) hx hb hml hown htb hK (c_X8_isPlace l D E p0 ) ok_X8_isPlace k_333 k_334 k_1 k_335 ⟨(Nat.le_of_ble_eq_true rfl), (Nat.le_of_ble_eq_true rfl)⟩ ⟨(Nat.le_of_ble_eq_true rfl), (Nat.le_of_ble_eq_true rfl)⟩ hl.1 (Nat.le_of_ble_eq_true rfl) rfl rfl dX8_take_1 (hP.sub (ws' := ([] : va_W)) [] rfl) (fun r_2 hw_1 => ?_)
  rcases hw_1 with ⟨hr_2, hw_1⟩ | ⟨hr_2, hw_1⟩
  ·
    refine W_top (y := .int 1) (by rw [hr_2]) ?_
    refine lv_if_ne (tgt := 9) hx hb dX8_take_4 (by decide) (fun c_3 => ?_) (fun c_3 => absurd c_3 (by decide))
    refine lv_aload_n hx hb dX8_take_9 rfl (lv_at hl 0 rfl) ?_
    refine va_get (D := D) (ci := 8) (v := .ref (a 1)) (C := RX8) (T := TX8) (N := 14) hx hb htb iX8 hown hK.1 hP 0 rfl rfl 1 (by decide) (htb _ k_273) (fun _ h9 => h9) rfl dX8_take_10 ?_
    refine lv_iload_n hx hb dX8_take_13 rfl (lv_at hl 1 rfl) ?_
    refine va_iald hx hb hK.1 hP 1 0 rfl rfl (g_in rfl (by omega) (by omega)) dX8_take_14 ?_
    refine W_top (y := .int (-5)) rfl ?_
    refine lv_bipush (v := (-5)) hx hb dX8_take_15 (by decide) ?_
    refine lv_icmp_ne (tgt := 23) hx hb dX8_take_17 (by decide) (fun c_4 => absurd (by decide) c_4) (fun c_4 => ?_)
    refine lv_bipush (v := (-2)) hx hb dX8_take_20 (by decide) ?_
    exact W.iret (v := (-2)) hx hb hr (fun t ht hW => ⟨(-2), rfl, by first | exact Or.inl ⟨rfl, by omega⟩ | (exfalso; omega), ht⟩) (fun q h => by cases h) dX8_take_22
  ·
    refine W_top (y := .int 0) (by rw [hr_2]) ?_
    refine lv_if_ne (tgt := 9) hx hb dX8_take_4 (by decide) (fun c_5 => absurd (by decide) c_5) (fun c_5 => ?_)
    refine lv_iconst (v := (-1)) hx hb dX8_take_7 (by decide) ?_
    exact W.iret (v := (-1)) hx hb hr (fun t ht hW => ⟨(-1), rfl, by first | exact Or.inr ⟨rfl, by omega⟩ | (exfalso; omega), ht⟩) (fun q h => by cases h) dX8_take_8
set_option maxHeartbeats 4000000 in
set_option maxRecDepth 100000 in
theorem c_X8_holds (l : Launch) (D : va_G) (E : Nat → Nat) (h0 : Nat) (a : Nat → Nat) (p0 : Int32)  : Met l yX8_holds (wl yX8_holds cX8_holds 2 (some .int)) (RM 1 0 0) (rd_P D E [.ref h0, .int p0] [(h0, .inr (8, xF a 0)), ((a 1), .inl (E 0, 16, .inl (fun _ => -5)))]) (rd_Q (fun r => (r = (-5) ∧ (0 ≤ p0.toInt ∧ p0.toInt ≤ 15)) ∨ (r = (-1) ∧ ¬ (0 ≤ p0.toInt ∧ p0.toInt ≤ 15)))) 0 0 (fun _ => False) := by
  refine Met.ofW (cc := cX8_holds) (maxL := 2) (ret := (some .int)) (by decide) rfl ?_
  intro p e s m args below meth c s₁ B hml hv
  obtain ⟨rfl, hP, hK⟩ := hv
  have hx := B.exec
  have hb := B.bytes
  have hr := B.returns
  have hts := atoms_spec (ws := wl yX8_holds cX8_holds 2 (some .int)) B.pre
  have htb : ∀ w ∈ tb, w.before _ s = true := fun w h => hts w (List.mem_cons_of_mem _ h)
  have hown : s.vm.findClass RX8 = some m.cls := findClass_of_methodNamed B.named
  have hlocks := B.notSynchronized
  have hP : va_P D vwCl [(h0, .inr (8, xF a 0)), ((a 1), .inl (E 0, 16, .inl (fun _ => -5)))] s.heap := hP
  have hl := lv_entry ([.ref h0, .int p0]) (n := 2) (Nat.le_of_ble_eq_true rfl)
  rw [lg_entry_eq]
  generalize (lg_sl ([.ref h0, .int p0]) ++ List.replicate (2 - (lg_sl ([.ref h0, .int p0])).length) Slot.unset).toArray = ls at hl ⊢
  have hl : lv_has ls 2 [(0, .ref h0), (1, .int p0)] := hl
  have lo_p0 := i_lo p0
  have hi_p0 := i_hi p0
  refine lv_iload_n hx hb dX8_holds_0 rfl (lv_at hl 1 rfl) ?_
  refine callRS (rest := []) (As := [.int p0]) hx hb hml hown htb hK (c_X8_isPlace l D E p0 ) ok_X8_isPlace k_333 k_334 k_1 k_335 ⟨(Nat.le_of_ble_eq_true rfl), (Nat.le_of_ble_eq_true rfl)⟩ ⟨(Nat.le_of_ble_eq_true rfl), (Nat.le_of_ble_eq_true rfl)⟩ hl.1 (Nat.le_of_ble_eq_true rfl) rfl rfl dX8_holds_1 (hP.sub (ws' := ([] : va_W)) [] rfl) (fun r_2 hw_1 => ?_)
  rcases hw_1 with ⟨hr_2, hw_1⟩ | ⟨hr_2, hw_1⟩
  ·
    refine W_top (y := .int 1) (by rw [hr_2]) ?_
    refine lv_if_eq (tgt := 16) hx hb dX8_holds_4 (by decide) (fun c_3 => absurd c_3 (by decide)) (fun c_3 => ?_)
    refine lv_aload_n hx hb dX8_holds_7 rfl (lv_at hl 0 rfl) ?_
    refine va_get (D := D) (ci := 8) (v := .ref (a 1)) (C := RX8) (T := TX8) (N := 14) hx hb htb iX8 hown hK.1 hP 0 rfl rfl 1 (by decide) (htb _ k_273) (fun _ h9 => h9) rfl dX8_holds_8 ?_
    refine lv_iload_n hx hb dX8_holds_11 rfl (lv_at hl 1 rfl) ?_
    refine va_iald hx hb hK.1 hP 1 0 rfl rfl (g_in rfl (by omega) (by omega)) dX8_holds_12 ?_
    refine W_top (y := .int (-5)) rfl ?_
    refine lv_goto (tgt := 17) hx hb dX8_holds_13 (by decide) ?_
    exact W.iret (v := (-5)) hx hb hr (fun t ht hW => ⟨(-5), rfl, by first | exact Or.inl ⟨rfl, by omega⟩ | (exfalso; omega), ht⟩) (fun q h => by cases h) dX8_holds_17
  ·
    refine W_top (y := .int 0) (by rw [hr_2]) ?_
    refine lv_if_eq (tgt := 16) hx hb dX8_holds_4 (by decide) (fun c_4 => ?_) (fun c_4 => absurd (by decide) c_4)
    refine lv_iconst (v := (-1)) hx hb dX8_holds_16 (by decide) ?_
    exact W.iret (v := (-1)) hx hb hr (fun t ht hW => ⟨(-1), rfl, by first | exact Or.inr ⟨rfl, by omega⟩ | (exfalso; omega), ht⟩) (fun q h => by cases h) dX8_holds_17
set_option maxHeartbeats 4000000 in
set_option maxRecDepth 100000 in
theorem c_X8_read (l : Launch) (D : va_G) (E : Nat → Nat) (h0 : Nat) (a : Nat → Nat) (p0 : Int32)  : Met l yX8_read (wl yX8_read cX8_read 2 (some .int)) (RM 1 0 0) (rd_P D E [.ref h0, .int p0] [(h0, .inr (8, xF a 0)), ((a 1), .inl (E 0, 16, .inl (fun _ => -5)))]) (rd_Q (fun r => (r = (-2000000000) ∧ True))) 0 0 (fun _ => False) := by
  refine Met.ofW (cc := cX8_read) (maxL := 2) (ret := (some .int)) (by decide) rfl ?_
  intro p e s m args below meth c s₁ B hml hv
  obtain ⟨rfl, hP, hK⟩ := hv
  have hx := B.exec
  have hb := B.bytes
  have hr := B.returns
  have hts := atoms_spec (ws := wl yX8_read cX8_read 2 (some .int)) B.pre
  have htb : ∀ w ∈ tb, w.before _ s = true := fun w h => hts w (List.mem_cons_of_mem _ h)
  have hown : s.vm.findClass RX8 = some m.cls := findClass_of_methodNamed B.named
  have hlocks := B.notSynchronized
  have hP : va_P D vwCl [(h0, .inr (8, xF a 0)), ((a 1), .inl (E 0, 16, .inl (fun _ => -5)))] s.heap := hP
  have hl := lv_entry ([.ref h0, .int p0]) (n := 2) (Nat.le_of_ble_eq_true rfl)
  rw [lg_entry_eq]
  generalize (lg_sl ([.ref h0, .int p0]) ++ List.replicate (2 - (lg_sl ([.ref h0, .int p0])).length) Slot.unset).toArray = ls at hl ⊢
  have hl : lv_has ls 2 [(0, .ref h0), (1, .int p0)] := hl
  have lo_p0 := i_lo p0
  have hi_p0 := i_hi p0
  refine lv_iload_n hx hb dX8_read_0 rfl (lv_at hl 1 rfl) ?_
  refine callRS (rest := []) (As := [.int p0]) hx hb hml hown htb hK (c_X8_isPlace l D E p0 ) ok_X8_isPlace k_333 k_334 k_1 k_335 ⟨(Nat.le_of_ble_eq_true rfl), (Nat.le_of_ble_eq_true rfl)⟩ ⟨(Nat.le_of_ble_eq_true rfl), (Nat.le_of_ble_eq_true rfl)⟩ hl.1 (Nat.le_of_ble_eq_true rfl) rfl rfl dX8_read_1 (hP.sub (ws' := ([] : va_W)) [] rfl) (fun r_2 hw_1 => ?_)
  rcases hw_1 with ⟨hr_2, hw_1⟩ | ⟨hr_2, hw_1⟩
  ·
    refine W_top (y := .int 1) (by rw [hr_2]) ?_
    refine lv_if_eq (tgt := 27) hx hb dX8_read_4 (by decide) (fun c_3 => absurd c_3 (by decide)) (fun c_3 => ?_)
    refine lv_aload_n hx hb dX8_read_7 rfl (lv_at hl 0 rfl) ?_
    refine va_get (D := D) (ci := 8) (v := .ref (a 1)) (C := RX8) (T := TX8) (N := 14) hx hb htb iX8 hown hK.1 hP 0 rfl rfl 1 (by decide) (htb _ k_273) (fun _ h9 => h9) rfl dX8_read_8 ?_
    refine lv_iload_n hx hb dX8_read_11 rfl (lv_at hl 1 rfl) ?_
    refine va_iald hx hb hK.1 hP 1 0 rfl rfl (g_in rfl (by omega) (by omega)) dX8_read_12 ?_
    refine W_top (y := .int (-5)) rfl ?_
    refine lv_iconst (v := 1) hx hb dX8_read_13 (by decide) ?_
    refine lv_icmp_eq (tgt := 30) hx hb dX8_read_14 (by decide) (fun c_4 => absurd c_4 (by decide)) (fun c_4 => ?_)
    refine lv_aload_n hx hb dX8_read_17 rfl (lv_at hl 0 rfl) ?_
    refine va_get (D := D) (ci := 8) (v := .ref (a 1)) (C := RX8) (T := TX8) (N := 14) hx hb htb iX8 hown hK.1 hP 0 rfl rfl 1 (by decide) (htb _ k_273) (fun _ h9 => h9) rfl dX8_read_18 ?_
    refine lv_iload_n hx hb dX8_read_21 rfl (lv_at hl 1 rfl) ?_
    refine va_iald hx hb hK.1 hP 1 0 rfl rfl (g_in rfl (by omega) (by omega)) dX8_read_22 ?_
    refine W_top (y := .int (-5)) rfl ?_
    refine lv_iconst (v := 2) hx hb dX8_read_23 (by decide) ?_
    refine lv_icmp_eq (tgt := 30) hx hb dX8_read_24 (by decide) (fun c_5 => absurd c_5 (by decide)) (fun c_5 => ?_)
    refine lv_ldc hx hb hown (htb _ k_386) dX8_read_27 ?_
    exact W.iret (v := (-2000000000)) hx hb hr (fun t ht hW => ⟨(-2000000000), rfl, ⟨rfl, trivial⟩, ht⟩) (fun q h => by cases h) dX8_read_29
  ·
    refine W_top (y := .int 0) (by rw [hr_2]) ?_
    refine lv_if_eq (tgt := 27) hx hb dX8_read_4 (by decide) (fun c_6 => ?_) (fun c_6 => absurd (by decide) c_6)
    refine lv_ldc hx hb hown (htb _ k_386) dX8_read_27 ?_
    exact W.iret (v := (-2000000000)) hx hb hr (fun t ht hW => ⟨(-2000000000), rfl, ⟨rfl, trivial⟩, ht⟩) (fun q h => by cases h) dX8_read_29
set_option maxHeartbeats 4000000 in
set_option maxRecDepth 100000 in
theorem c_X8_compare (l : Launch) (D : va_G) (E : Nat → Nat) (h0 : Nat) (a : Nat → Nat) (p0 : Int32) (p1 : Int32) (p2 : Int32) (p3 : Int32)  : Met l yX8_compare (wl yX8_compare cX8_compare 6 (some .int)) (RM 2 0 0) (rd_P D E [.ref h0, .int p0, .int p1, .int p2, .int p3] [(h0, .inr (8, xF a 0)), ((a 1), .inl (E 0, 16, .inl (fun _ => -5)))]) (rd_Q (fun r => (r = (-2) ∧ ((0 ≤ p0.toInt ∧ p0.toInt ≤ 15) ∧ (0 ≤ p1.toInt ∧ p1.toInt ≤ 0) ∧ (-100000 ≤ p2.toInt ∧ p2.toInt ≤ 100000) ∧ (0 ≤ p3.toInt ∧ p3.toInt ≤ 5))) ∨ (r = (-1) ∧ ¬ ((0 ≤ p0.toInt ∧ p0.toInt ≤ 15) ∧ (0 ≤ p1.toInt ∧ p1.toInt ≤ 0) ∧ (-100000 ≤ p2.toInt ∧ p2.toInt ≤ 100000) ∧ (0 ≤ p3.toInt ∧ p3.toInt ≤ 5))))) 0 0 (fun _ => False) := by
  refine Met.ofW (cc := cX8_compare) (maxL := 6) (ret := (some .int)) (by decide) rfl ?_
  intro p e s m args below meth c s₁ B hml hv
  obtain ⟨rfl, hP, hK⟩ := hv
  have hx := B.exec
  have hb := B.bytes
  have hr := B.returns
  have hts := atoms_spec (ws := wl yX8_compare cX8_compare 6 (some .int)) B.pre
  have htb : ∀ w ∈ tb, w.before _ s = true := fun w h => hts w (List.mem_cons_of_mem _ h)
  have hown : s.vm.findClass RX8 = some m.cls := findClass_of_methodNamed B.named
  have hlocks := B.notSynchronized
  have hP : va_P D vwCl [(h0, .inr (8, xF a 0)), ((a 1), .inl (E 0, 16, .inl (fun _ => -5)))] s.heap := hP
  have hl := lv_entry ([.ref h0, .int p0, .int p1, .int p2, .int p3]) (n := 6) (Nat.le_of_ble_eq_true rfl)
  rw [lg_entry_eq]
  generalize (lg_sl ([.ref h0, .int p0, .int p1, .int p2, .int p3]) ++ List.replicate (6 - (lg_sl ([.ref h0, .int p0, .int p1, .int p2, .int p3])).length) Slot.unset).toArray = ls at hl ⊢
  have hl : lv_has ls 6 [(0, .ref h0), (1, .int p0), (2, .int p1), (3, .int p2), (4, .int p3)] := hl
  have lo_p0 := i_lo p0
  have hi_p0 := i_hi p0
  have lo_p1 := i_lo p1
  have hi_p1 := i_hi p1
  have lo_p2 := i_lo p2
  have hi_p2 := i_hi p2
  have lo_p3 := i_lo p3
  have hi_p3 := i_hi p3
  refine lv_iload_n hx hb dX8_compare_0 rfl (lv_at hl 1 rfl) ?_
  refine callRS (rest := []) (As := [.int p0]) hx hb hml hown htb hK (c_X8_isPlace l D E p0 ) ok_X8_isPlace k_333 k_334 k_1 k_335 ⟨(Nat.le_of_ble_eq_true rfl), (Nat.le_of_ble_eq_true rfl)⟩ ⟨(Nat.le_of_ble_eq_true rfl), (Nat.le_of_ble_eq_true rfl)⟩ hl.1 (Nat.le_of_ble_eq_true rfl) rfl rfl dX8_compare_1 (hP.sub (ws' := ([] : va_W)) [] rfl) (fun r_2 hw_1 => ?_)
  rcases hw_1 with ⟨hr_2, hw_1⟩ | ⟨hr_2, hw_1⟩
  ·
    refine W_top (y := .int 1) (by rw [hr_2]) ?_
    refine lv_if_eq (tgt := 36) hx hb dX8_compare_4 (by decide) (fun c_3 => absurd c_3 (by decide)) (fun c_3 => ?_)
    refine lv_aload_n hx hb dX8_compare_7 rfl (lv_at hl 0 rfl) ?_
    refine lv_iload_n hx hb dX8_compare_8 rfl (lv_at hl 2 rfl) ?_
    refine callRV (rest := []) (As := [.int p1]) hx hb hml hown htb hK (c_X8_isPast l D E h0 a p1 ) ok_X8_isPast k_391 k_393 ks_2 k_1 k_394 ⟨(Nat.le_of_ble_eq_true rfl), (Nat.le_of_ble_eq_true rfl)⟩ ⟨(Nat.le_of_ble_eq_true rfl), (Nat.le_of_ble_eq_true rfl)⟩ hl.1 (Nat.le_of_ble_eq_true rfl) rfl rfl dX8_compare_9 (hP.sub (ws' := [(h0, .inr (8, xF a 0))]) [0] rfl) rfl rfl 0 rfl (fun r_5 hw_4 => ?_)
    rcases hw_4 with ⟨hr_5, hw_4⟩ | ⟨hr_5, hw_4⟩
    ·
      refine W_top (y := .int 1) (by rw [hr_5]) ?_
      refine lv_if_eq (tgt := 36) hx hb dX8_compare_12 (by decide) (fun c_6 => absurd c_6 (by decide)) (fun c_6 => ?_)
      refine lv_iload_n hx hb dX8_compare_15 rfl (lv_at hl 3 rfl) ?_
      refine lv_ldc hx hb hown (htb _ k_395) dX8_compare_16 ?_
      refine callRS (rest := []) (As := [.int p2, .int 100000]) hx hb hml hown htb hK (c_X8_isWithin l D E p2 100000 (by decide)) ok_X8_isWithin k_326 k_327 k_1 k_328 ⟨(Nat.le_of_ble_eq_true rfl), (Nat.le_of_ble_eq_true rfl)⟩ ⟨(Nat.le_of_ble_eq_true rfl), (Nat.le_of_ble_eq_true rfl)⟩ hl.1 (Nat.le_of_ble_eq_true rfl) rfl rfl dX8_compare_18 (hP.sub (ws' := ([] : va_W)) [] rfl) (fun r_8 hw_7 => ?_)
      rcases hw_7 with ⟨hr_8, hw_7⟩ | ⟨hr_8, hw_7⟩
      ·
        try simp only [t_100000] at hw_7
        refine W_top (y := .int 1) (by rw [hr_8]) ?_
        refine lv_if_eq (tgt := 36) hx hb dX8_compare_21 (by decide) (fun c_9 => absurd c_9 (by decide)) (fun c_9 => ?_)
        refine lv_iload hx hb dX8_compare_24 (lv_at hl 4 rfl) ?_
        refine lv_if_lt (tgt := 36) hx hb dX8_compare_26 (by decide) (fun c_10 => ?_) (fun c_10 => ?_)
        ·
          have ic_10 : p3.toInt < 0 := by first | exact (g_lt rfl t_0).mp c_10 | (have h := mt (g_le t_0 rfl).mpr c_10; omega)
          refine lv_iconst (v := (-1)) hx hb dX8_compare_36 (by decide) ?_
          exact W.iret (v := (-1)) hx hb hr (fun t ht hW => ⟨(-1), rfl, by first | exact Or.inr ⟨rfl, by omega⟩ | (exfalso; omega), ht⟩) (fun q h => by cases h) dX8_compare_37
        ·
          have ic_10 : 0 ≤ p3.toInt := by first | exact (g_le t_0 rfl).mp c_10 | (have h := mt (g_lt rfl t_0).mpr c_10; omega)
          refine lv_iload hx hb dX8_compare_29 (lv_at hl 4 rfl) ?_
          refine lv_bipush (v := 6) hx hb dX8_compare_31 (by decide) ?_
          refine lv_icmp_lt (tgt := 38) hx hb dX8_compare_33 (by decide) (fun c_11 => ?_) (fun c_11 => ?_)
          ·
            have ic_11 : p3.toInt < 6 := by first | exact (g_lt rfl t_6).mp c_11 | (have h := mt (g_le t_6 rfl).mpr c_11; omega)
            refine lv_aload_n hx hb dX8_compare_38 rfl (lv_at hl 0 rfl) ?_
            refine lv_iload_n hx hb dX8_compare_39 rfl (lv_at hl 1 rfl) ?_
            refine callNV (rest := []) (As := [.int p0]) hx hb hml hown htb hK (c_X8_watchAt l D E h0 a p0 ) ok_X8_watchAt k_369 k_371 ks_1 k_1 k_372 ⟨(Nat.le_of_ble_eq_true rfl), (Nat.le_of_ble_eq_true rfl)⟩ ⟨(Nat.le_of_ble_eq_true rfl), (Nat.le_of_ble_eq_true rfl)⟩ hl.1 (Nat.le_of_ble_eq_true rfl) rfl rfl dX8_compare_40 (hP.sub (ws' := [(h0, .inr (8, xF a 0)), ((a 1), .inl (E 0, 16, .inl (fun _ => -5)))]) [0, 1] rfl) rfl rfl 0 rfl ?_
            refine lv_astoreN (lv' := [(5, .null), (0, .ref h0), (1, .int p0), (2, .int p1), (3, .int p2), (4, .int p3)]) hx hb dX8_compare_43 hl (by decide) rfl (fun ls hl => ?_)
            refine lv_aloadN hx hb dX8_compare_45 (lv_at hl 0 rfl) ?_
            refine lv_ifnonnullN hx hb dX8_compare_47 ?_
            refine lv_aload_n hx hb dX8_compare_50 rfl (lv_at hl 1 rfl) ?_
            refine lv_iload_n hx hb dX8_compare_51 rfl (lv_at hl 2 rfl) ?_
            refine callRV (rest := []) (As := [.int p0]) hx hb hml hown htb hK (c_X8_lackAt l D E h0 a p0 ) ok_X8_lackAt k_396 k_398 ks_3 k_1 k_399 ⟨(Nat.le_of_ble_eq_true rfl), (Nat.le_of_ble_eq_true rfl)⟩ ⟨(Nat.le_of_ble_eq_true rfl), (Nat.le_of_ble_eq_true rfl)⟩ hl.1 (Nat.le_of_ble_eq_true rfl) rfl rfl dX8_compare_52 (hP.sub (ws' := [(h0, .inr (8, xF a 0)), ((a 1), .inl (E 0, 16, .inl (fun _ => -5)))]) [0, 1] rfl) rfl rfl 0 rfl (fun r_14 hw_13 => ?_)
            rcases hw_13 with ⟨hr_14, hw_13⟩ | ⟨hr_14, hw_13⟩
            ·
              refine W_top (y := .int (-2)) (by rw [hr_14]) ?_
              exact W.iret (v := (-2)) hx hb hr (fun t ht hW => ⟨(-2), rfl, by first | exact Or.inl ⟨rfl, by omega⟩ | (exfalso; omega), ht⟩) (fun q h => by cases h) dX8_compare_55
            ·
              refine W_top (y := .int (-1)) (by rw [hr_14]) ?_
              exact W.iret (v := (-1)) hx hb hr (fun t ht hW => ⟨(-1), rfl, by first | exact Or.inr ⟨rfl, by omega⟩ | (exfalso; omega), ht⟩) (fun q h => by cases h) dX8_compare_55
          ·
            have ic_11 : 6 ≤ p3.toInt := by first | exact (g_le t_6 rfl).mp c_11 | (have h := mt (g_lt rfl t_6).mpr c_11; omega)
            refine lv_iconst (v := (-1)) hx hb dX8_compare_36 (by decide) ?_
            exact W.iret (v := (-1)) hx hb hr (fun t ht hW => ⟨(-1), rfl, by first | exact Or.inr ⟨rfl, by omega⟩ | (exfalso; omega), ht⟩) (fun q h => by cases h) dX8_compare_37
      ·
        try simp only [t_100000] at hw_7
        refine W_top (y := .int 0) (by rw [hr_8]) ?_
        refine lv_if_eq (tgt := 36) hx hb dX8_compare_21 (by decide) (fun c_15 => ?_) (fun c_15 => absurd (by decide) c_15)
        refine lv_iconst (v := (-1)) hx hb dX8_compare_36 (by decide) ?_
        exact W.iret (v := (-1)) hx hb hr (fun t ht hW => ⟨(-1), rfl, by first | exact Or.inr ⟨rfl, by omega⟩ | (exfalso; omega), ht⟩) (fun q h => by cases h) dX8_compare_37
    ·
      refine W_top (y := .int 0) (by rw [hr_5]) ?_
      refine lv_if_eq (tgt := 36) hx hb dX8_compare_12 (by decide) (fun c_16 => ?_) (fun c_16 => absurd (by decide) c_16)
      refine lv_iconst (v := (-1)) hx hb dX8_compare_36 (by decide) ?_
      exact W.iret (v := (-1)) hx hb hr (fun t ht hW => ⟨(-1), rfl, by first | exact Or.inr ⟨rfl, by omega⟩ | (exfalso; omega), ht⟩) (fun q h => by cases h) dX8_compare_37
  ·
    refine W_top (y := .int 0) (by rw [hr_2]) ?_
    refine lv_if_eq (tgt := 36) hx hb dX8_compare_4 (by decide) (fun c_17 => ?_) (fun c_17 => absurd (by decide) c_17)
    refine lv_iconst (v := (-1)) hx hb dX8_compare_36 (by decide) ?_
    exact W.iret (v := (-1)) hx hb hr (fun t ht hW => ⟨(-1), rfl, by first | exact Or.inr ⟨rfl, by omega⟩ | (exfalso; omega), ht⟩) (fun q h => by cases h) dX8_compare_37
set_option maxHeartbeats 4000000 in
set_option maxRecDepth 100000 in
theorem c_X8_error (l : Launch) (D : va_G) (E : Nat → Nat) (h0 : Nat) (a : Nat → Nat) (p0 : Int32) (p1 : Int32) (p2 : Int32)  : Met l yX8_error (wl yX8_error cX8_error 5 (some .int)) (RM 2 0 0) (rd_P D E [.ref h0, .int p0, .int p1, .int p2] [(h0, .inr (8, xF a 0)), ((a 1), .inl (E 0, 16, .inl (fun _ => -5)))]) (rd_Q (fun r => (r = (-2000000000) ∧ True))) 0 0 (fun _ => False) := by
  refine Met.ofW (cc := cX8_error) (maxL := 5) (ret := (some .int)) (by decide) rfl ?_
  intro p e s m args below meth c s₁ B hml hv
  obtain ⟨rfl, hP, hK⟩ := hv
  have hx := B.exec
  have hb := B.bytes
  have hr := B.returns
  have hts := atoms_spec (ws := wl yX8_error cX8_error 5 (some .int)) B.pre
  have htb : ∀ w ∈ tb, w.before _ s = true := fun w h => hts w (List.mem_cons_of_mem _ h)
  have hown : s.vm.findClass RX8 = some m.cls := findClass_of_methodNamed B.named
  have hlocks := B.notSynchronized
  have hP : va_P D vwCl [(h0, .inr (8, xF a 0)), ((a 1), .inl (E 0, 16, .inl (fun _ => -5)))] s.heap := hP
  have hl := lv_entry ([.ref h0, .int p0, .int p1, .int p2]) (n := 5) (Nat.le_of_ble_eq_true rfl)
  rw [lg_entry_eq]
  generalize (lg_sl ([.ref h0, .int p0, .int p1, .int p2]) ++ List.replicate (5 - (lg_sl ([.ref h0, .int p0, .int p1, .int p2])).length) Slot.unset).toArray = ls at hl ⊢
  have hl : lv_has ls 5 [(0, .ref h0), (1, .int p0), (2, .int p1), (3, .int p2)] := hl
  have lo_p0 := i_lo p0
  have hi_p0 := i_hi p0
  have lo_p1 := i_lo p1
  have hi_p1 := i_hi p1
  have lo_p2 := i_lo p2
  have hi_p2 := i_hi p2
  refine lv_aload_n hx hb dX8_error_0 rfl (lv_at hl 0 rfl) ?_
  refine lv_iload_n hx hb dX8_error_1 rfl (lv_at hl 1 rfl) ?_
  refine callNV (rest := []) (As := [.int p0]) hx hb hml hown htb hK (c_X8_watchAt l D E h0 a p0 ) ok_X8_watchAt k_369 k_371 ks_1 k_1 k_372 ⟨(Nat.le_of_ble_eq_true rfl), (Nat.le_of_ble_eq_true rfl)⟩ ⟨(Nat.le_of_ble_eq_true rfl), (Nat.le_of_ble_eq_true rfl)⟩ hl.1 (Nat.le_of_ble_eq_true rfl) rfl rfl dX8_error_2 (hP.sub (ws' := [(h0, .inr (8, xF a 0)), ((a 1), .inl (E 0, 16, .inl (fun _ => -5)))]) [0, 1] rfl) rfl rfl 0 rfl ?_
  refine lv_astoreN (lv' := [(4, .null), (0, .ref h0), (1, .int p0), (2, .int p1), (3, .int p2)]) hx hb dX8_error_5 hl (by decide) rfl (fun ls hl => ?_)
  refine lv_aloadN hx hb dX8_error_7 (lv_at hl 0 rfl) ?_
  refine lv_ifnullN (tgt := 26) hx hb dX8_error_9 (by decide) ?_
  refine lv_ldc hx hb hown (htb _ k_386) dX8_error_26 ?_
  exact W.iret (v := (-2000000000)) hx hb hr (fun t ht hW => ⟨(-2000000000), rfl, ⟨rfl, trivial⟩, ht⟩) (fun q h => by cases h) dX8_error_28
set_option maxHeartbeats 4000000 in
set_option maxRecDepth 100000 in
theorem c_X8_rate (l : Launch) (D : va_G) (E : Nat → Nat) (h0 : Nat) (a : Nat → Nat) (p0 : Int32) (p1 : Int32) (p2 : Int32)  : Met l yX8_rate (wl yX8_rate cX8_rate 5 (some .int)) (RM 2 0 0) (rd_P D E [.ref h0, .int p0, .int p1, .int p2] [(h0, .inr (8, xF a 0)), ((a 1), .inl (E 0, 16, .inl (fun _ => -5)))]) (rd_Q (fun r => (r = (-2000000000) ∧ True))) 0 0 (fun _ => False) := by
  refine Met.ofW (cc := cX8_rate) (maxL := 5) (ret := (some .int)) (by decide) rfl ?_
  intro p e s m args below meth c s₁ B hml hv
  obtain ⟨rfl, hP, hK⟩ := hv
  have hx := B.exec
  have hb := B.bytes
  have hr := B.returns
  have hts := atoms_spec (ws := wl yX8_rate cX8_rate 5 (some .int)) B.pre
  have htb : ∀ w ∈ tb, w.before _ s = true := fun w h => hts w (List.mem_cons_of_mem _ h)
  have hown : s.vm.findClass RX8 = some m.cls := findClass_of_methodNamed B.named
  have hlocks := B.notSynchronized
  have hP : va_P D vwCl [(h0, .inr (8, xF a 0)), ((a 1), .inl (E 0, 16, .inl (fun _ => -5)))] s.heap := hP
  have hl := lv_entry ([.ref h0, .int p0, .int p1, .int p2]) (n := 5) (Nat.le_of_ble_eq_true rfl)
  rw [lg_entry_eq]
  generalize (lg_sl ([.ref h0, .int p0, .int p1, .int p2]) ++ List.replicate (5 - (lg_sl ([.ref h0, .int p0, .int p1, .int p2])).length) Slot.unset).toArray = ls at hl ⊢
  have hl : lv_has ls 5 [(0, .ref h0), (1, .int p0), (2, .int p1), (3, .int p2)] := hl
  have lo_p0 := i_lo p0
  have hi_p0 := i_hi p0
  have lo_p1 := i_lo p1
  have hi_p1 := i_hi p1
  have lo_p2 := i_lo p2
  have hi_p2 := i_hi p2
  refine lv_aload_n hx hb dX8_rate_0 rfl (lv_at hl 0 rfl) ?_
  refine lv_iload_n hx hb dX8_rate_1 rfl (lv_at hl 1 rfl) ?_
  refine callNV (rest := []) (As := [.int p0]) hx hb hml hown htb hK (c_X8_watchAt l D E h0 a p0 ) ok_X8_watchAt k_369 k_371 ks_1 k_1 k_372 ⟨(Nat.le_of_ble_eq_true rfl), (Nat.le_of_ble_eq_true rfl)⟩ ⟨(Nat.le_of_ble_eq_true rfl), (Nat.le_of_ble_eq_true rfl)⟩ hl.1 (Nat.le_of_ble_eq_true rfl) rfl rfl dX8_rate_2 (hP.sub (ws' := [(h0, .inr (8, xF a 0)), ((a 1), .inl (E 0, 16, .inl (fun _ => -5)))]) [0, 1] rfl) rfl rfl 0 rfl ?_
  refine lv_astoreN (lv' := [(4, .null), (0, .ref h0), (1, .int p0), (2, .int p1), (3, .int p2)]) hx hb dX8_rate_5 hl (by decide) rfl (fun ls hl => ?_)
  refine lv_aloadN hx hb dX8_rate_7 (lv_at hl 0 rfl) ?_
  refine lv_ifnullN (tgt := 26) hx hb dX8_rate_9 (by decide) ?_
  refine lv_ldc hx hb hown (htb _ k_386) dX8_rate_26 ?_
  exact W.iret (v := (-2000000000)) hx hb hr (fun t ht hW => ⟨(-2000000000), rfl, ⟨rfl, trivial⟩, ht⟩) (fun q h => by cases h) dX8_rate_28
set_option maxHeartbeats 4000000 in
set_option maxRecDepth 100000 in
theorem c_X8_repair (l : Launch) (D : va_G) (E : Nat → Nat) (h0 : Nat) (a : Nat → Nat) (p0 : Int32) (p1 : Int32)  : Met l yX8_repair (wl yX8_repair cX8_repair 3 (some .int)) (RM 3 0 0) (rd_P D E [.ref h0, .int p0, .int p1] [(h0, .inr (8, xF a 0)), ((a 1), .inl (E 0, 16, .inl (fun _ => -5)))]) (rd_Q (fun r => (r = (-2) ∧ ((0 ≤ p0.toInt ∧ p0.toInt ≤ 15) ∧ (0 ≤ p1.toInt ∧ p1.toInt ≤ 0))) ∨ (r = (-1) ∧ ¬ ((0 ≤ p0.toInt ∧ p0.toInt ≤ 15) ∧ (0 ≤ p1.toInt ∧ p1.toInt ≤ 0))))) 0 0 (fun _ => False) := by
  refine Met.ofW (cc := cX8_repair) (maxL := 3) (ret := (some .int)) (by decide) rfl ?_
  intro p e s m args below meth c s₁ B hml hv
  obtain ⟨rfl, hP, hK⟩ := hv
  have hx := B.exec
  have hb := B.bytes
  have hr := B.returns
  have hts := atoms_spec (ws := wl yX8_repair cX8_repair 3 (some .int)) B.pre
  have htb : ∀ w ∈ tb, w.before _ s = true := fun w h => hts w (List.mem_cons_of_mem _ h)
  have hown : s.vm.findClass RX8 = some m.cls := findClass_of_methodNamed B.named
  have hlocks := B.notSynchronized
  have hP : va_P D vwCl [(h0, .inr (8, xF a 0)), ((a 1), .inl (E 0, 16, .inl (fun _ => -5)))] s.heap := hP
  have hl := lv_entry ([.ref h0, .int p0, .int p1]) (n := 3) (Nat.le_of_ble_eq_true rfl)
  rw [lg_entry_eq]
  generalize (lg_sl ([.ref h0, .int p0, .int p1]) ++ List.replicate (3 - (lg_sl ([.ref h0, .int p0, .int p1])).length) Slot.unset).toArray = ls at hl ⊢
  have hl : lv_has ls 3 [(0, .ref h0), (1, .int p0), (2, .int p1)] := hl
  have lo_p0 := i_lo p0
  have hi_p0 := i_hi p0
  have lo_p1 := i_lo p1
  have hi_p1 := i_hi p1
  refine lv_aload_n hx hb dX8_repair_0 rfl (lv_at hl 0 rfl) ?_
  refine lv_iload_n hx hb dX8_repair_1 rfl (lv_at hl 1 rfl) ?_
  refine lv_iload_n hx hb dX8_repair_2 rfl (lv_at hl 2 rfl) ?_
  refine lv_iconst (v := 1) hx hb dX8_repair_3 (by decide) ?_
  refine callRV (rest := []) (As := [.int p0, .int p1, .int 1]) hx hb hml hown htb hK (c_X8_markOn l D E h0 a p0 p1 1 ) ok_X8_markOn k_447 k_449 ks_4 k_1 k_450 ⟨(Nat.le_of_ble_eq_true rfl), (Nat.le_of_ble_eq_true rfl)⟩ ⟨(Nat.le_of_ble_eq_true rfl), (Nat.le_of_ble_eq_true rfl)⟩ hl.1 (Nat.le_of_ble_eq_true rfl) rfl rfl dX8_repair_4 (hP.sub (ws' := [(h0, .inr (8, xF a 0)), ((a 1), .inl (E 0, 16, .inl (fun _ => -5)))]) [0, 1] rfl) rfl rfl 0 rfl (fun r_2 hw_1 => ?_)
  rcases hw_1 with ⟨hr_2, hw_1⟩ | ⟨hr_2, hw_1⟩
  ·
    try simp only [t_1] at hw_1
    refine W_top (y := .int (-2)) (by rw [hr_2]) ?_
    exact W.iret (v := (-2)) hx hb hr (fun t ht hW => ⟨(-2), rfl, by first | exact Or.inl ⟨rfl, by omega⟩ | (exfalso; omega), ht⟩) (fun q h => by cases h) dX8_repair_7
  ·
    try simp only [t_1] at hw_1
    refine W_top (y := .int (-1)) (by rw [hr_2]) ?_
    exact W.iret (v := (-1)) hx hb hr (fun t ht hW => ⟨(-1), rfl, by first | exact Or.inr ⟨rfl, by omega⟩ | (exfalso; omega), ht⟩) (fun q h => by cases h) dX8_repair_7
set_option maxHeartbeats 4000000 in
set_option maxRecDepth 100000 in
theorem c_X8_late (l : Launch) (D : va_G) (E : Nat → Nat) (h0 : Nat) (a : Nat → Nat) (p0 : Int32) (p1 : Int32)  : Met l yX8_late (wl yX8_late cX8_late 3 (some .int)) (RM 3 0 0) (rd_P D E [.ref h0, .int p0, .int p1] [(h0, .inr (8, xF a 0)), ((a 1), .inl (E 0, 16, .inl (fun _ => -5)))]) (rd_Q (fun r => (r = (-2) ∧ ((0 ≤ p0.toInt ∧ p0.toInt ≤ 15) ∧ (0 ≤ p1.toInt ∧ p1.toInt ≤ 0))) ∨ (r = (-1) ∧ ¬ ((0 ≤ p0.toInt ∧ p0.toInt ≤ 15) ∧ (0 ≤ p1.toInt ∧ p1.toInt ≤ 0))))) 0 0 (fun _ => False) := by
  refine Met.ofW (cc := cX8_late) (maxL := 3) (ret := (some .int)) (by decide) rfl ?_
  intro p e s m args below meth c s₁ B hml hv
  obtain ⟨rfl, hP, hK⟩ := hv
  have hx := B.exec
  have hb := B.bytes
  have hr := B.returns
  have hts := atoms_spec (ws := wl yX8_late cX8_late 3 (some .int)) B.pre
  have htb : ∀ w ∈ tb, w.before _ s = true := fun w h => hts w (List.mem_cons_of_mem _ h)
  have hown : s.vm.findClass RX8 = some m.cls := findClass_of_methodNamed B.named
  have hlocks := B.notSynchronized
  have hP : va_P D vwCl [(h0, .inr (8, xF a 0)), ((a 1), .inl (E 0, 16, .inl (fun _ => -5)))] s.heap := hP
  have hl := lv_entry ([.ref h0, .int p0, .int p1]) (n := 3) (Nat.le_of_ble_eq_true rfl)
  rw [lg_entry_eq]
  generalize (lg_sl ([.ref h0, .int p0, .int p1]) ++ List.replicate (3 - (lg_sl ([.ref h0, .int p0, .int p1])).length) Slot.unset).toArray = ls at hl ⊢
  have hl : lv_has ls 3 [(0, .ref h0), (1, .int p0), (2, .int p1)] := hl
  have lo_p0 := i_lo p0
  have hi_p0 := i_hi p0
  have lo_p1 := i_lo p1
  have hi_p1 := i_hi p1
  refine lv_aload_n hx hb dX8_late_0 rfl (lv_at hl 0 rfl) ?_
  refine lv_iload_n hx hb dX8_late_1 rfl (lv_at hl 1 rfl) ?_
  refine lv_iload_n hx hb dX8_late_2 rfl (lv_at hl 2 rfl) ?_
  refine lv_iconst (v := 2) hx hb dX8_late_3 (by decide) ?_
  refine callRV (rest := []) (As := [.int p0, .int p1, .int 2]) hx hb hml hown htb hK (c_X8_markOn l D E h0 a p0 p1 2 ) ok_X8_markOn k_447 k_449 ks_4 k_1 k_450 ⟨(Nat.le_of_ble_eq_true rfl), (Nat.le_of_ble_eq_true rfl)⟩ ⟨(Nat.le_of_ble_eq_true rfl), (Nat.le_of_ble_eq_true rfl)⟩ hl.1 (Nat.le_of_ble_eq_true rfl) rfl rfl dX8_late_4 (hP.sub (ws' := [(h0, .inr (8, xF a 0)), ((a 1), .inl (E 0, 16, .inl (fun _ => -5)))]) [0, 1] rfl) rfl rfl 0 rfl (fun r_2 hw_1 => ?_)
  rcases hw_1 with ⟨hr_2, hw_1⟩ | ⟨hr_2, hw_1⟩
  ·
    try simp only [t_2] at hw_1
    refine W_top (y := .int (-2)) (by rw [hr_2]) ?_
    exact W.iret (v := (-2)) hx hb hr (fun t ht hW => ⟨(-2), rfl, by first | exact Or.inl ⟨rfl, by omega⟩ | (exfalso; omega), ht⟩) (fun q h => by cases h) dX8_late_7
  ·
    try simp only [t_2] at hw_1
    refine W_top (y := .int (-1)) (by rw [hr_2]) ?_
    exact W.iret (v := (-1)) hx hb hr (fun t ht hW => ⟨(-1), rfl, by first | exact Or.inr ⟨rfl, by omega⟩ | (exfalso; omega), ht⟩) (fun q h => by cases h) dX8_late_7
set_option maxHeartbeats 4000000 in
set_option maxRecDepth 100000 in
theorem c_X8_age (l : Launch) (D : va_G) (E : Nat → Nat) (h0 : Nat) (a : Nat → Nat) (p0 : Int32) (p1 : Int32)  : Met l yX8_age (wl yX8_age cX8_age 4 (some .int)) (RM 2 0 0) (rd_P D E [.ref h0, .int p0, .int p1] [(h0, .inr (8, xF a 0)), ((a 1), .inl (E 0, 16, .inl (fun _ => -5)))]) (rd_Q (fun r => (r = (-2) ∧ ((0 ≤ p0.toInt ∧ p0.toInt ≤ 15) ∧ (0 ≤ p1.toInt ∧ p1.toInt ≤ 399))) ∨ (r = (-1) ∧ ¬ ((0 ≤ p0.toInt ∧ p0.toInt ≤ 15) ∧ (0 ≤ p1.toInt ∧ p1.toInt ≤ 399))))) 0 0 (fun _ => False) := by
  refine Met.ofW (cc := cX8_age) (maxL := 4) (ret := (some .int)) (by decide) rfl ?_
  intro p e s m args below meth c s₁ B hml hv
  obtain ⟨rfl, hP, hK⟩ := hv
  have hx := B.exec
  have hb := B.bytes
  have hr := B.returns
  have hts := atoms_spec (ws := wl yX8_age cX8_age 4 (some .int)) B.pre
  have htb : ∀ w ∈ tb, w.before _ s = true := fun w h => hts w (List.mem_cons_of_mem _ h)
  have hown : s.vm.findClass RX8 = some m.cls := findClass_of_methodNamed B.named
  have hlocks := B.notSynchronized
  have hP : va_P D vwCl [(h0, .inr (8, xF a 0)), ((a 1), .inl (E 0, 16, .inl (fun _ => -5)))] s.heap := hP
  have hl := lv_entry ([.ref h0, .int p0, .int p1]) (n := 4) (Nat.le_of_ble_eq_true rfl)
  rw [lg_entry_eq]
  generalize (lg_sl ([.ref h0, .int p0, .int p1]) ++ List.replicate (4 - (lg_sl ([.ref h0, .int p0, .int p1])).length) Slot.unset).toArray = ls at hl ⊢
  have hl : lv_has ls 4 [(0, .ref h0), (1, .int p0), (2, .int p1)] := hl
  have lo_p0 := i_lo p0
  have hi_p0 := i_hi p0
  have lo_p1 := i_lo p1
  have hi_p1 := i_hi p1
  refine lv_iload_n hx hb dX8_age_0 rfl (lv_at hl 1 rfl) ?_
  refine callRS (rest := []) (As := [.int p0]) hx hb hml hown htb hK (c_X8_isPlace l D E p0 ) ok_X8_isPlace k_333 k_334 k_1 k_335 ⟨(Nat.le_of_ble_eq_true rfl), (Nat.le_of_ble_eq_true rfl)⟩ ⟨(Nat.le_of_ble_eq_true rfl), (Nat.le_of_ble_eq_true rfl)⟩ hl.1 (Nat.le_of_ble_eq_true rfl) rfl rfl dX8_age_1 (hP.sub (ws' := ([] : va_W)) [] rfl) (fun r_2 hw_1 => ?_)
  rcases hw_1 with ⟨hr_2, hw_1⟩ | ⟨hr_2, hw_1⟩
  ·
    refine W_top (y := .int 1) (by rw [hr_2]) ?_
    refine lv_if_eq (tgt := 14) hx hb dX8_age_4 (by decide) (fun c_3 => absurd c_3 (by decide)) (fun c_3 => ?_)
    refine lv_iload_n hx hb dX8_age_7 rfl (lv_at hl 2 rfl) ?_
    refine callRS (rest := []) (As := [.int p1]) hx hb hml hown htb hK (c_X8_isDay l D E p1 ) ok_X8_isDay k_323 k_324 k_1 k_325 ⟨(Nat.le_of_ble_eq_true rfl), (Nat.le_of_ble_eq_true rfl)⟩ ⟨(Nat.le_of_ble_eq_true rfl), (Nat.le_of_ble_eq_true rfl)⟩ hl.1 (Nat.le_of_ble_eq_true rfl) rfl rfl dX8_age_8 (hP.sub (ws' := ([] : va_W)) [] rfl) (fun r_5 hw_4 => ?_)
    rcases hw_4 with ⟨hr_5, hw_4⟩ | ⟨hr_5, hw_4⟩
    ·
      refine W_top (y := .int 1) (by rw [hr_5]) ?_
      refine lv_if_ne (tgt := 16) hx hb dX8_age_11 (by decide) (fun c_6 => ?_) (fun c_6 => absurd c_6 (by decide))
      refine lv_aload_n hx hb dX8_age_16 rfl (lv_at hl 0 rfl) ?_
      refine lv_iload_n hx hb dX8_age_17 rfl (lv_at hl 1 rfl) ?_
      refine callNV (rest := []) (As := [.int p0]) hx hb hml hown htb hK (c_X8_watchAt l D E h0 a p0 ) ok_X8_watchAt k_369 k_371 ks_1 k_1 k_372 ⟨(Nat.le_of_ble_eq_true rfl), (Nat.le_of_ble_eq_true rfl)⟩ ⟨(Nat.le_of_ble_eq_true rfl), (Nat.le_of_ble_eq_true rfl)⟩ hl.1 (Nat.le_of_ble_eq_true rfl) rfl rfl dX8_age_18 (hP.sub (ws' := [(h0, .inr (8, xF a 0)), ((a 1), .inl (E 0, 16, .inl (fun _ => -5)))]) [0, 1] rfl) rfl rfl 0 rfl ?_
      refine lv_astore_nN (lv' := [(3, .null), (0, .ref h0), (1, .int p0), (2, .int p1)]) hx hb dX8_age_21 rfl hl (by decide) rfl (fun ls hl => ?_)
      refine lv_aload_nN hx hb dX8_age_22 rfl (lv_at hl 0 rfl) ?_
      refine lv_ifnonnullN hx hb dX8_age_23 ?_
      refine lv_aload_n hx hb dX8_age_26 rfl (lv_at hl 1 rfl) ?_
      refine lv_iload_n hx hb dX8_age_27 rfl (lv_at hl 2 rfl) ?_
      refine callRV (rest := []) (As := [.int p0]) hx hb hml hown htb hK (c_X8_lackAt l D E h0 a p0 ) ok_X8_lackAt k_396 k_398 ks_3 k_1 k_399 ⟨(Nat.le_of_ble_eq_true rfl), (Nat.le_of_ble_eq_true rfl)⟩ ⟨(Nat.le_of_ble_eq_true rfl), (Nat.le_of_ble_eq_true rfl)⟩ hl.1 (Nat.le_of_ble_eq_true rfl) rfl rfl dX8_age_28 (hP.sub (ws' := [(h0, .inr (8, xF a 0)), ((a 1), .inl (E 0, 16, .inl (fun _ => -5)))]) [0, 1] rfl) rfl rfl 0 rfl (fun r_9 hw_8 => ?_)
      rcases hw_8 with ⟨hr_9, hw_8⟩ | ⟨hr_9, hw_8⟩
      ·
        refine W_top (y := .int (-2)) (by rw [hr_9]) ?_
        refine lv_goto (tgt := 39) hx hb dX8_age_31 (by decide) ?_
        exact W.iret (v := (-2)) hx hb hr (fun t ht hW => ⟨(-2), rfl, by first | exact Or.inl ⟨rfl, by omega⟩ | (exfalso; omega), ht⟩) (fun q h => by cases h) dX8_age_39
      ·
        refine W_top (y := .int (-1)) (by rw [hr_9]) ?_
        refine lv_goto (tgt := 39) hx hb dX8_age_31 (by decide) ?_
        exact W.iret (v := (-1)) hx hb hr (fun t ht hW => ⟨(-1), rfl, by first | exact Or.inr ⟨rfl, by omega⟩ | (exfalso; omega), ht⟩) (fun q h => by cases h) dX8_age_39
    ·
      refine W_top (y := .int 0) (by rw [hr_5]) ?_
      refine lv_if_ne (tgt := 16) hx hb dX8_age_11 (by decide) (fun c_10 => absurd (by decide) c_10) (fun c_10 => ?_)
      refine lv_iconst (v := (-1)) hx hb dX8_age_14 (by decide) ?_
      exact W.iret (v := (-1)) hx hb hr (fun t ht hW => ⟨(-1), rfl, by first | exact Or.inr ⟨rfl, by omega⟩ | (exfalso; omega), ht⟩) (fun q h => by cases h) dX8_age_15
  ·
    refine W_top (y := .int 0) (by rw [hr_2]) ?_
    refine lv_if_eq (tgt := 14) hx hb dX8_age_4 (by decide) (fun c_11 => ?_) (fun c_11 => absurd (by decide) c_11)
    refine lv_iconst (v := (-1)) hx hb dX8_age_14 (by decide) ?_
    exact W.iret (v := (-1)) hx hb hr (fun t ht hW => ⟨(-1), rfl, by first | exact Or.inr ⟨rfl, by omega⟩ | (exfalso; omega), ht⟩) (fun q h => by cases h) dX8_age_15
set_option maxHeartbeats 4000000 in
set_option maxRecDepth 100000 in
theorem c_X8_changed (l : Launch) (D : va_G) (E : Nat → Nat) (h0 : Nat) (a : Nat → Nat) (p0 : Int32) (p1 : Int32) (p2 : Int32) (p3 : Int32)  : Met l yX8_changed (wl yX8_changed cX8_changed 8 (some .int)) (RM 2 0 0) (rd_P D E [.ref h0, .int p0, .int p1, .int p2, .int p3] [(h0, .inr (8, xF a 0)), ((a 1), .inl (E 0, 16, .inl (fun _ => -5)))]) (rd_Q (fun r => (r = (-2) ∧ ((0 ≤ p0.toInt ∧ p0.toInt ≤ 15) ∧ (0 ≤ p1.toInt ∧ p2.toInt ≤ 399 ∧ p1.toInt < p2.toInt ∧ p2.toInt - p1.toInt ≤ 60) ∧ (-1 ≤ p3.toInt ∧ p3.toInt ≤ 399))) ∨ (r = (-1) ∧ ¬ ((0 ≤ p0.toInt ∧ p0.toInt ≤ 15) ∧ (0 ≤ p1.toInt ∧ p2.toInt ≤ 399 ∧ p1.toInt < p2.toInt ∧ p2.toInt - p1.toInt ≤ 60) ∧ (-1 ≤ p3.toInt ∧ p3.toInt ≤ 399))))) 0 0 (fun _ => False) := by
  refine Met.ofW (cc := cX8_changed) (maxL := 8) (ret := (some .int)) (by decide) rfl ?_
  intro p e s m args below meth c s₁ B hml hv
  obtain ⟨rfl, hP, hK⟩ := hv
  have hx := B.exec
  have hb := B.bytes
  have hr := B.returns
  have hts := atoms_spec (ws := wl yX8_changed cX8_changed 8 (some .int)) B.pre
  have htb : ∀ w ∈ tb, w.before _ s = true := fun w h => hts w (List.mem_cons_of_mem _ h)
  have hown : s.vm.findClass RX8 = some m.cls := findClass_of_methodNamed B.named
  have hlocks := B.notSynchronized
  have hP : va_P D vwCl [(h0, .inr (8, xF a 0)), ((a 1), .inl (E 0, 16, .inl (fun _ => -5)))] s.heap := hP
  have hl := lv_entry ([.ref h0, .int p0, .int p1, .int p2, .int p3]) (n := 8) (Nat.le_of_ble_eq_true rfl)
  rw [lg_entry_eq]
  generalize (lg_sl ([.ref h0, .int p0, .int p1, .int p2, .int p3]) ++ List.replicate (8 - (lg_sl ([.ref h0, .int p0, .int p1, .int p2, .int p3])).length) Slot.unset).toArray = ls at hl ⊢
  have hl : lv_has ls 8 [(0, .ref h0), (1, .int p0), (2, .int p1), (3, .int p2), (4, .int p3)] := hl
  have lo_p0 := i_lo p0
  have hi_p0 := i_hi p0
  have lo_p1 := i_lo p1
  have hi_p1 := i_hi p1
  have lo_p2 := i_lo p2
  have hi_p2 := i_hi p2
  have lo_p3 := i_lo p3
  have hi_p3 := i_hi p3
  refine lv_iload_n hx hb dX8_changed_0 rfl (lv_at hl 1 rfl) ?_
  refine callRS (rest := []) (As := [.int p0]) hx hb hml hown htb hK (c_X8_isPlace l D E p0 ) ok_X8_isPlace k_333 k_334 k_1 k_335 ⟨(Nat.le_of_ble_eq_true rfl), (Nat.le_of_ble_eq_true rfl)⟩ ⟨(Nat.le_of_ble_eq_true rfl), (Nat.le_of_ble_eq_true rfl)⟩ hl.1 (Nat.le_of_ble_eq_true rfl) rfl rfl dX8_changed_1 (hP.sub (ws' := ([] : va_W)) [] rfl) (fun r_2 hw_1 => ?_)
  rcases hw_1 with ⟨hr_2, hw_1⟩ | ⟨hr_2, hw_1⟩
  ·
    refine W_top (y := .int 1) (by rw [hr_2]) ?_
    refine lv_if_eq (tgt := 23) hx hb dX8_changed_4 (by decide) (fun c_3 => absurd c_3 (by decide)) (fun c_3 => ?_)
    refine lv_iload_n hx hb dX8_changed_7 rfl (lv_at hl 2 rfl) ?_
    refine lv_iload_n hx hb dX8_changed_8 rfl (lv_at hl 3 rfl) ?_
    refine callRS (rest := []) (As := [.int p1, .int p2]) hx hb hml hown htb hK (c_X8_isStretch l D E p1 p2 ) ok_X8_isStretch k_479 k_480 k_1 k_481 ⟨(Nat.le_of_ble_eq_true rfl), (Nat.le_of_ble_eq_true rfl)⟩ ⟨(Nat.le_of_ble_eq_true rfl), (Nat.le_of_ble_eq_true rfl)⟩ hl.1 (Nat.le_of_ble_eq_true rfl) rfl rfl dX8_changed_9 (hP.sub (ws' := ([] : va_W)) [] rfl) (fun r_5 hw_4 => ?_)
    rcases hw_4 with ⟨hr_5, hw_4⟩ | ⟨hr_5, hw_4⟩
    ·
      refine W_top (y := .int 1) (by rw [hr_5]) ?_
      refine lv_if_eq (tgt := 23) hx hb dX8_changed_12 (by decide) (fun c_6 => absurd c_6 (by decide)) (fun c_6 => ?_)
      refine lv_iload hx hb dX8_changed_15 (lv_at hl 4 rfl) ?_
      refine callRS (rest := []) (As := [.int p3]) hx hb hml hown htb hK (c_X8_isKnowledge l D E p3 ) ok_X8_isKnowledge k_412 k_413 k_1 k_414 ⟨(Nat.le_of_ble_eq_true rfl), (Nat.le_of_ble_eq_true rfl)⟩ ⟨(Nat.le_of_ble_eq_true rfl), (Nat.le_of_ble_eq_true rfl)⟩ hl.1 (Nat.le_of_ble_eq_true rfl) rfl rfl dX8_changed_17 (hP.sub (ws' := ([] : va_W)) [] rfl) (fun r_8 hw_7 => ?_)
      rcases hw_7 with ⟨hr_8, hw_7⟩ | ⟨hr_8, hw_7⟩
      ·
        refine W_top (y := .int 1) (by rw [hr_8]) ?_
        refine lv_if_ne (tgt := 25) hx hb dX8_changed_20 (by decide) (fun c_9 => ?_) (fun c_9 => absurd c_9 (by decide))
        refine lv_aload_n hx hb dX8_changed_25 rfl (lv_at hl 0 rfl) ?_
        refine lv_iload_n hx hb dX8_changed_26 rfl (lv_at hl 1 rfl) ?_
        refine callNV (rest := []) (As := [.int p0]) hx hb hml hown htb hK (c_X8_watchAt l D E h0 a p0 ) ok_X8_watchAt k_369 k_371 ks_1 k_1 k_372 ⟨(Nat.le_of_ble_eq_true rfl), (Nat.le_of_ble_eq_true rfl)⟩ ⟨(Nat.le_of_ble_eq_true rfl), (Nat.le_of_ble_eq_true rfl)⟩ hl.1 (Nat.le_of_ble_eq_true rfl) rfl rfl dX8_changed_27 (hP.sub (ws' := [(h0, .inr (8, xF a 0)), ((a 1), .inl (E 0, 16, .inl (fun _ => -5)))]) [0, 1] rfl) rfl rfl 0 rfl ?_
        refine lv_astoreN (lv' := [(5, .null), (0, .ref h0), (1, .int p0), (2, .int p1), (3, .int p2), (4, .int p3)]) hx hb dX8_changed_30 hl (by decide) rfl (fun ls hl => ?_)
        refine lv_aloadN hx hb dX8_changed_32 (lv_at hl 0 rfl) ?_
        refine lv_ifnonnullN hx hb dX8_changed_34 ?_
        refine lv_aload_n hx hb dX8_changed_37 rfl (lv_at hl 1 rfl) ?_
        refine lv_iload_n hx hb dX8_changed_38 rfl (lv_at hl 2 rfl) ?_
        refine callRV (rest := []) (As := [.int p0]) hx hb hml hown htb hK (c_X8_lackAt l D E h0 a p0 ) ok_X8_lackAt k_396 k_398 ks_3 k_1 k_399 ⟨(Nat.le_of_ble_eq_true rfl), (Nat.le_of_ble_eq_true rfl)⟩ ⟨(Nat.le_of_ble_eq_true rfl), (Nat.le_of_ble_eq_true rfl)⟩ hl.1 (Nat.le_of_ble_eq_true rfl) rfl rfl dX8_changed_39 (hP.sub (ws' := [(h0, .inr (8, xF a 0)), ((a 1), .inl (E 0, 16, .inl (fun _ => -5)))]) [0, 1] rfl) rfl rfl 0 rfl (fun r_12 hw_11 => ?_)
        rcases hw_11 with ⟨hr_12, hw_11⟩ | ⟨hr_12, hw_11⟩
        ·
          refine W_top (y := .int (-2)) (by rw [hr_12]) ?_
          exact W.iret (v := (-2)) hx hb hr (fun t ht hW => ⟨(-2), rfl, by first | exact Or.inl ⟨rfl, by omega⟩ | (exfalso; omega), ht⟩) (fun q h => by cases h) dX8_changed_42
        ·
          refine W_top (y := .int (-1)) (by rw [hr_12]) ?_
          exact W.iret (v := (-1)) hx hb hr (fun t ht hW => ⟨(-1), rfl, by first | exact Or.inr ⟨rfl, by omega⟩ | (exfalso; omega), ht⟩) (fun q h => by cases h) dX8_changed_42
      ·
        refine W_top (y := .int 0) (by rw [hr_8]) ?_
        refine lv_if_ne (tgt := 25) hx hb dX8_changed_20 (by decide) (fun c_13 => absurd (by decide) c_13) (fun c_13 => ?_)
        refine lv_iconst (v := (-1)) hx hb dX8_changed_23 (by decide) ?_
        exact W.iret (v := (-1)) hx hb hr (fun t ht hW => ⟨(-1), rfl, by first | exact Or.inr ⟨rfl, by omega⟩ | (exfalso; omega), ht⟩) (fun q h => by cases h) dX8_changed_24
    ·
      refine W_top (y := .int 0) (by rw [hr_5]) ?_
      refine lv_if_eq (tgt := 23) hx hb dX8_changed_12 (by decide) (fun c_14 => ?_) (fun c_14 => absurd (by decide) c_14)
      refine lv_iconst (v := (-1)) hx hb dX8_changed_23 (by decide) ?_
      exact W.iret (v := (-1)) hx hb hr (fun t ht hW => ⟨(-1), rfl, by first | exact Or.inr ⟨rfl, by omega⟩ | (exfalso; omega), ht⟩) (fun q h => by cases h) dX8_changed_24
  ·
    refine W_top (y := .int 0) (by rw [hr_2]) ?_
    refine lv_if_eq (tgt := 23) hx hb dX8_changed_4 (by decide) (fun c_15 => ?_) (fun c_15 => absurd (by decide) c_15)
    refine lv_iconst (v := (-1)) hx hb dX8_changed_23 (by decide) ?_
    exact W.iret (v := (-1)) hx hb hr (fun t ht hW => ⟨(-1), rfl, by first | exact Or.inr ⟨rfl, by omega⟩ | (exfalso; omega), ht⟩) (fun q h => by cases h) dX8_changed_24
set_option maxHeartbeats 4000000 in
set_option maxRecDepth 100000 in
theorem c_X8_law (l : Launch) (D : va_G) (E : Nat → Nat) (h0 : Nat) (a : Nat → Nat) (p0 : Int32) (p1 : Int32) (p2 : Int32)  : Met l yX8_law (wl yX8_law cX8_law 5 (some .int)) (RM 3 0 0) (rd_P D E [.ref h0, .int p0, .int p1, .int p2] [(h0, .inr (8, xF a 0)), ((a 1), .inl (E 0, 16, .inl (fun _ => -5)))]) (rd_Q (fun r => (r = (-2) ∧ ((0 ≤ p0.toInt ∧ p0.toInt ≤ 15) ∧ (0 ≤ p1.toInt ∧ p2.toInt ≤ 399 ∧ p1.toInt < p2.toInt ∧ p2.toInt - p1.toInt ≤ 60))) ∨ (r = (-1) ∧ ¬ ((0 ≤ p0.toInt ∧ p0.toInt ≤ 15) ∧ (0 ≤ p1.toInt ∧ p2.toInt ≤ 399 ∧ p1.toInt < p2.toInt ∧ p2.toInt - p1.toInt ≤ 60))))) 0 0 (fun _ => False) := by
  refine Met.ofW (cc := cX8_law) (maxL := 5) (ret := (some .int)) (by decide) rfl ?_
  intro p e s m args below meth c s₁ B hml hv
  obtain ⟨rfl, hP, hK⟩ := hv
  have hx := B.exec
  have hb := B.bytes
  have hr := B.returns
  have hts := atoms_spec (ws := wl yX8_law cX8_law 5 (some .int)) B.pre
  have htb : ∀ w ∈ tb, w.before _ s = true := fun w h => hts w (List.mem_cons_of_mem _ h)
  have hown : s.vm.findClass RX8 = some m.cls := findClass_of_methodNamed B.named
  have hlocks := B.notSynchronized
  have hP : va_P D vwCl [(h0, .inr (8, xF a 0)), ((a 1), .inl (E 0, 16, .inl (fun _ => -5)))] s.heap := hP
  have hl := lv_entry ([.ref h0, .int p0, .int p1, .int p2]) (n := 5) (Nat.le_of_ble_eq_true rfl)
  rw [lg_entry_eq]
  generalize (lg_sl ([.ref h0, .int p0, .int p1, .int p2]) ++ List.replicate (5 - (lg_sl ([.ref h0, .int p0, .int p1, .int p2])).length) Slot.unset).toArray = ls at hl ⊢
  have hl : lv_has ls 5 [(0, .ref h0), (1, .int p0), (2, .int p1), (3, .int p2)] := hl
  have lo_p0 := i_lo p0
  have hi_p0 := i_hi p0
  have lo_p1 := i_lo p1
  have hi_p1 := i_hi p1
  have lo_p2 := i_lo p2
  have hi_p2 := i_hi p2
  refine lv_aload_n hx hb dX8_law_0 rfl (lv_at hl 0 rfl) ?_
  refine lv_iload_n hx hb dX8_law_1 rfl (lv_at hl 1 rfl) ?_
  refine lv_iload_n hx hb dX8_law_2 rfl (lv_at hl 2 rfl) ?_
  refine lv_iload_n hx hb dX8_law_3 rfl (lv_at hl 3 rfl) ?_
  refine callRV (rest := []) (As := [.int p0, .int p1, .int p2]) hx hb hml hown htb hK (c_X8_refusalOfStretch l D E h0 a p0 p1 p2 ) ok_X8_refusalOfStretch k_486 k_488 ks_5 k_1 k_489 ⟨(Nat.le_of_ble_eq_true rfl), (Nat.le_of_ble_eq_true rfl)⟩ ⟨(Nat.le_of_ble_eq_true rfl), (Nat.le_of_ble_eq_true rfl)⟩ hl.1 (Nat.le_of_ble_eq_true rfl) rfl rfl dX8_law_4 (hP.sub (ws' := [(h0, .inr (8, xF a 0)), ((a 1), .inl (E 0, 16, .inl (fun _ => -5)))]) [0, 1] rfl) rfl rfl 0 rfl (fun r_2 hw_1 => ?_)
  rcases hw_1 with ⟨hr_2, hw_1⟩ | ⟨hr_2, hw_1⟩
  ·
    refine W_top (y := .int (-2)) (by rw [hr_2]) ?_
    refine lv_istore (lv' := [(4, .int (-2)), (0, .ref h0), (1, .int p0), (2, .int p1), (3, .int p2)]) hx hb dX8_law_7 hl (by decide) rfl (fun ls hl => ?_)
    refine lv_iload hx hb dX8_law_9 (lv_at hl 0 rfl) ?_
    refine lv_if_eq (tgt := 17) hx hb dX8_law_11 (by decide) (fun c_3 => absurd c_3 (by decide)) (fun c_3 => ?_)
    refine lv_iload hx hb dX8_law_14 (lv_at hl 0 rfl) ?_
    exact W.iret (v := (-2)) hx hb hr (fun t ht hW => ⟨(-2), rfl, by first | exact Or.inl ⟨rfl, by omega⟩ | (exfalso; omega), ht⟩) (fun q h => by cases h) dX8_law_16
  ·
    refine W_top (y := .int (-1)) (by rw [hr_2]) ?_
    refine lv_istore (lv' := [(4, .int (-1)), (0, .ref h0), (1, .int p0), (2, .int p1), (3, .int p2)]) hx hb dX8_law_7 hl (by decide) rfl (fun ls hl => ?_)
    refine lv_iload hx hb dX8_law_9 (lv_at hl 0 rfl) ?_
    refine lv_if_eq (tgt := 17) hx hb dX8_law_11 (by decide) (fun c_4 => absurd c_4 (by decide)) (fun c_4 => ?_)
    refine lv_iload hx hb dX8_law_14 (lv_at hl 0 rfl) ?_
    exact W.iret (v := (-1)) hx hb hr (fun t ht hW => ⟨(-1), rfl, by first | exact Or.inr ⟨rfl, by omega⟩ | (exfalso; omega), ht⟩) (fun q h => by cases h) dX8_law_16
set_option maxHeartbeats 4000000 in
set_option maxRecDepth 100000 in
theorem c_X8_terms (l : Launch) (D : va_G) (E : Nat → Nat) (h0 : Nat) (a : Nat → Nat) (p0 : Int32) (p1 : Int32) (p2 : Int32)  : Met l yX8_terms (wl yX8_terms cX8_terms 5 (some .int)) (RM 3 0 0) (rd_P D E [.ref h0, .int p0, .int p1, .int p2] [(h0, .inr (8, xF a 0)), ((a 1), .inl (E 0, 16, .inl (fun _ => -5)))]) (rd_Q (fun r => (r = (-2) ∧ ((0 ≤ p0.toInt ∧ p0.toInt ≤ 15) ∧ (0 ≤ p1.toInt ∧ p2.toInt ≤ 399 ∧ p1.toInt < p2.toInt ∧ p2.toInt - p1.toInt ≤ 60))) ∨ (r = (-1) ∧ ¬ ((0 ≤ p0.toInt ∧ p0.toInt ≤ 15) ∧ (0 ≤ p1.toInt ∧ p2.toInt ≤ 399 ∧ p1.toInt < p2.toInt ∧ p2.toInt - p1.toInt ≤ 60))))) 0 0 (fun _ => False) := by
  refine Met.ofW (cc := cX8_terms) (maxL := 5) (ret := (some .int)) (by decide) rfl ?_
  intro p e s m args below meth c s₁ B hml hv
  obtain ⟨rfl, hP, hK⟩ := hv
  have hx := B.exec
  have hb := B.bytes
  have hr := B.returns
  have hts := atoms_spec (ws := wl yX8_terms cX8_terms 5 (some .int)) B.pre
  have htb : ∀ w ∈ tb, w.before _ s = true := fun w h => hts w (List.mem_cons_of_mem _ h)
  have hown : s.vm.findClass RX8 = some m.cls := findClass_of_methodNamed B.named
  have hlocks := B.notSynchronized
  have hP : va_P D vwCl [(h0, .inr (8, xF a 0)), ((a 1), .inl (E 0, 16, .inl (fun _ => -5)))] s.heap := hP
  have hl := lv_entry ([.ref h0, .int p0, .int p1, .int p2]) (n := 5) (Nat.le_of_ble_eq_true rfl)
  rw [lg_entry_eq]
  generalize (lg_sl ([.ref h0, .int p0, .int p1, .int p2]) ++ List.replicate (5 - (lg_sl ([.ref h0, .int p0, .int p1, .int p2])).length) Slot.unset).toArray = ls at hl ⊢
  have hl : lv_has ls 5 [(0, .ref h0), (1, .int p0), (2, .int p1), (3, .int p2)] := hl
  have lo_p0 := i_lo p0
  have hi_p0 := i_hi p0
  have lo_p1 := i_lo p1
  have hi_p1 := i_hi p1
  have lo_p2 := i_lo p2
  have hi_p2 := i_hi p2
  refine lv_aload_n hx hb dX8_terms_0 rfl (lv_at hl 0 rfl) ?_
  refine lv_iload_n hx hb dX8_terms_1 rfl (lv_at hl 1 rfl) ?_
  refine lv_iload_n hx hb dX8_terms_2 rfl (lv_at hl 2 rfl) ?_
  refine lv_iload_n hx hb dX8_terms_3 rfl (lv_at hl 3 rfl) ?_
  refine callRV (rest := []) (As := [.int p0, .int p1, .int p2]) hx hb hml hown htb hK (c_X8_refusalOfStretch l D E h0 a p0 p1 p2 ) ok_X8_refusalOfStretch k_486 k_488 ks_5 k_1 k_489 ⟨(Nat.le_of_ble_eq_true rfl), (Nat.le_of_ble_eq_true rfl)⟩ ⟨(Nat.le_of_ble_eq_true rfl), (Nat.le_of_ble_eq_true rfl)⟩ hl.1 (Nat.le_of_ble_eq_true rfl) rfl rfl dX8_terms_4 (hP.sub (ws' := [(h0, .inr (8, xF a 0)), ((a 1), .inl (E 0, 16, .inl (fun _ => -5)))]) [0, 1] rfl) rfl rfl 0 rfl (fun r_2 hw_1 => ?_)
  rcases hw_1 with ⟨hr_2, hw_1⟩ | ⟨hr_2, hw_1⟩
  ·
    refine W_top (y := .int (-2)) (by rw [hr_2]) ?_
    refine lv_istore (lv' := [(4, .int (-2)), (0, .ref h0), (1, .int p0), (2, .int p1), (3, .int p2)]) hx hb dX8_terms_7 hl (by decide) rfl (fun ls hl => ?_)
    refine lv_iload hx hb dX8_terms_9 (lv_at hl 0 rfl) ?_
    refine lv_if_eq (tgt := 17) hx hb dX8_terms_11 (by decide) (fun c_3 => absurd c_3 (by decide)) (fun c_3 => ?_)
    refine lv_iload hx hb dX8_terms_14 (lv_at hl 0 rfl) ?_
    exact W.iret (v := (-2)) hx hb hr (fun t ht hW => ⟨(-2), rfl, by first | exact Or.inl ⟨rfl, by omega⟩ | (exfalso; omega), ht⟩) (fun q h => by cases h) dX8_terms_16
  ·
    refine W_top (y := .int (-1)) (by rw [hr_2]) ?_
    refine lv_istore (lv' := [(4, .int (-1)), (0, .ref h0), (1, .int p0), (2, .int p1), (3, .int p2)]) hx hb dX8_terms_7 hl (by decide) rfl (fun ls hl => ?_)
    refine lv_iload hx hb dX8_terms_9 (lv_at hl 0 rfl) ?_
    refine lv_if_eq (tgt := 17) hx hb dX8_terms_11 (by decide) (fun c_4 => absurd c_4 (by decide)) (fun c_4 => ?_)
    refine lv_iload hx hb dX8_terms_14 (lv_at hl 0 rfl) ?_
    exact W.iret (v := (-1)) hx hb hr (fun t ht hW => ⟨(-1), rfl, by first | exact Or.inr ⟨rfl, by omega⟩ | (exfalso; omega), ht⟩) (fun q h => by cases h) dX8_terms_16
set_option maxHeartbeats 4000000 in
set_option maxRecDepth 100000 in
theorem c_X8_order (l : Launch) (D : va_G) (E : Nat → Nat) (h0 : Nat) (a : Nat → Nat) (p0 : Int32) (p1 : Int32) (p2 : Int32)  : Met l yX8_order (wl yX8_order cX8_order 8 (some .int)) (RM 3 0 0) (rd_P D E [.ref h0, .int p0, .int p1, .int p2] [(h0, .inr (8, xF a 0)), ((a 1), .inl (E 0, 16, .inl (fun _ => -5)))]) (rd_Q (fun r => (r = (-2) ∧ ((0 ≤ p0.toInt ∧ p0.toInt ≤ 15) ∧ (0 ≤ p1.toInt ∧ p2.toInt ≤ 399 ∧ p1.toInt < p2.toInt ∧ p2.toInt - p1.toInt ≤ 60))) ∨ (r = (-1) ∧ ¬ ((0 ≤ p0.toInt ∧ p0.toInt ≤ 15) ∧ (0 ≤ p1.toInt ∧ p2.toInt ≤ 399 ∧ p1.toInt < p2.toInt ∧ p2.toInt - p1.toInt ≤ 60))))) 0 0 (fun _ => False) := by
  refine Met.ofW (cc := cX8_order) (maxL := 8) (ret := (some .int)) (by decide) rfl ?_
  intro p e s m args below meth c s₁ B hml hv
  obtain ⟨rfl, hP, hK⟩ := hv
  have hx := B.exec
  have hb := B.bytes
  have hr := B.returns
  have hts := atoms_spec (ws := wl yX8_order cX8_order 8 (some .int)) B.pre
  have htb : ∀ w ∈ tb, w.before _ s = true := fun w h => hts w (List.mem_cons_of_mem _ h)
  have hown : s.vm.findClass RX8 = some m.cls := findClass_of_methodNamed B.named
  have hlocks := B.notSynchronized
  have hP : va_P D vwCl [(h0, .inr (8, xF a 0)), ((a 1), .inl (E 0, 16, .inl (fun _ => -5)))] s.heap := hP
  have hl := lv_entry ([.ref h0, .int p0, .int p1, .int p2]) (n := 8) (Nat.le_of_ble_eq_true rfl)
  rw [lg_entry_eq]
  generalize (lg_sl ([.ref h0, .int p0, .int p1, .int p2]) ++ List.replicate (8 - (lg_sl ([.ref h0, .int p0, .int p1, .int p2])).length) Slot.unset).toArray = ls at hl ⊢
  have hl : lv_has ls 8 [(0, .ref h0), (1, .int p0), (2, .int p1), (3, .int p2)] := hl
  have lo_p0 := i_lo p0
  have hi_p0 := i_hi p0
  have lo_p1 := i_lo p1
  have hi_p1 := i_hi p1
  have lo_p2 := i_lo p2
  have hi_p2 := i_hi p2
  refine lv_aload_n hx hb dX8_order_0 rfl (lv_at hl 0 rfl) ?_
  refine lv_iload_n hx hb dX8_order_1 rfl (lv_at hl 1 rfl) ?_
  refine lv_iload_n hx hb dX8_order_2 rfl (lv_at hl 2 rfl) ?_
  refine lv_iload_n hx hb dX8_order_3 rfl (lv_at hl 3 rfl) ?_
  refine callRV (rest := []) (As := [.int p0, .int p1, .int p2]) hx hb hml hown htb hK (c_X8_refusalOfStretch l D E h0 a p0 p1 p2 ) ok_X8_refusalOfStretch k_486 k_488 ks_5 k_1 k_489 ⟨(Nat.le_of_ble_eq_true rfl), (Nat.le_of_ble_eq_true rfl)⟩ ⟨(Nat.le_of_ble_eq_true rfl), (Nat.le_of_ble_eq_true rfl)⟩ hl.1 (Nat.le_of_ble_eq_true rfl) rfl rfl dX8_order_4 (hP.sub (ws' := [(h0, .inr (8, xF a 0)), ((a 1), .inl (E 0, 16, .inl (fun _ => -5)))]) [0, 1] rfl) rfl rfl 0 rfl (fun r_2 hw_1 => ?_)
  rcases hw_1 with ⟨hr_2, hw_1⟩ | ⟨hr_2, hw_1⟩
  ·
    refine W_top (y := .int (-2)) (by rw [hr_2]) ?_
    refine lv_istore (lv' := [(4, .int (-2)), (0, .ref h0), (1, .int p0), (2, .int p1), (3, .int p2)]) hx hb dX8_order_7 hl (by decide) rfl (fun ls hl => ?_)
    refine lv_iload hx hb dX8_order_9 (lv_at hl 0 rfl) ?_
    refine lv_if_eq (tgt := 17) hx hb dX8_order_11 (by decide) (fun c_3 => absurd c_3 (by decide)) (fun c_3 => ?_)
    refine lv_iload hx hb dX8_order_14 (lv_at hl 0 rfl) ?_
    exact W.iret (v := (-2)) hx hb hr (fun t ht hW => ⟨(-2), rfl, by first | exact Or.inl ⟨rfl, by omega⟩ | (exfalso; omega), ht⟩) (fun q h => by cases h) dX8_order_16
  ·
    refine W_top (y := .int (-1)) (by rw [hr_2]) ?_
    refine lv_istore (lv' := [(4, .int (-1)), (0, .ref h0), (1, .int p0), (2, .int p1), (3, .int p2)]) hx hb dX8_order_7 hl (by decide) rfl (fun ls hl => ?_)
    refine lv_iload hx hb dX8_order_9 (lv_at hl 0 rfl) ?_
    refine lv_if_eq (tgt := 17) hx hb dX8_order_11 (by decide) (fun c_4 => absurd c_4 (by decide)) (fun c_4 => ?_)
    refine lv_iload hx hb dX8_order_14 (lv_at hl 0 rfl) ?_
    exact W.iret (v := (-1)) hx hb hr (fun t ht hW => ⟨(-1), rfl, by first | exact Or.inr ⟨rfl, by omega⟩ | (exfalso; omega), ht⟩) (fun q h => by cases h) dX8_order_16
set_option maxHeartbeats 4000000 in
set_option maxRecDepth 100000 in
theorem c_X8_foretold (l : Launch) (D : va_G) (E : Nat → Nat) (h0 : Nat) (a : Nat → Nat) (p0 : Int32) (p1 : Int32) (p2 : Int32) (p3 : Int32) (p4 : Int32)  : Met l yX8_foretold (wl yX8_foretold cX8_foretold 8 (some .int)) (RM 3 0 0) (rd_P D E [.ref h0, .int p0, .int p1, .int p2, .int p3, .int p4] [(h0, .inr (8, xF a 0)), ((a 1), .inl (E 0, 16, .inl (fun _ => -5)))]) (rd_Q (fun r => (r = (-2000000000) ∧ True))) 0 0 (fun _ => False) := by
  refine Met.ofW (cc := cX8_foretold) (maxL := 8) (ret := (some .int)) (by decide) rfl ?_
  intro p e s m args below meth c s₁ B hml hv
  obtain ⟨rfl, hP, hK⟩ := hv
  have hx := B.exec
  have hb := B.bytes
  have hr := B.returns
  have hts := atoms_spec (ws := wl yX8_foretold cX8_foretold 8 (some .int)) B.pre
  have htb : ∀ w ∈ tb, w.before _ s = true := fun w h => hts w (List.mem_cons_of_mem _ h)
  have hown : s.vm.findClass RX8 = some m.cls := findClass_of_methodNamed B.named
  have hlocks := B.notSynchronized
  have hP : va_P D vwCl [(h0, .inr (8, xF a 0)), ((a 1), .inl (E 0, 16, .inl (fun _ => -5)))] s.heap := hP
  have hl := lv_entry ([.ref h0, .int p0, .int p1, .int p2, .int p3, .int p4]) (n := 8) (Nat.le_of_ble_eq_true rfl)
  rw [lg_entry_eq]
  generalize (lg_sl ([.ref h0, .int p0, .int p1, .int p2, .int p3, .int p4]) ++ List.replicate (8 - (lg_sl ([.ref h0, .int p0, .int p1, .int p2, .int p3, .int p4])).length) Slot.unset).toArray = ls at hl ⊢
  have hl : lv_has ls 8 [(0, .ref h0), (1, .int p0), (2, .int p1), (3, .int p2), (4, .int p3), (5, .int p4)] := hl
  have lo_p0 := i_lo p0
  have hi_p0 := i_hi p0
  have lo_p1 := i_lo p1
  have hi_p1 := i_hi p1
  have lo_p2 := i_lo p2
  have hi_p2 := i_hi p2
  have lo_p3 := i_lo p3
  have hi_p3 := i_hi p3
  have lo_p4 := i_lo p4
  have hi_p4 := i_hi p4
  refine lv_aload_n hx hb dX8_foretold_0 rfl (lv_at hl 0 rfl) ?_
  refine lv_iload_n hx hb dX8_foretold_1 rfl (lv_at hl 1 rfl) ?_
  refine lv_iload_n hx hb dX8_foretold_2 rfl (lv_at hl 2 rfl) ?_
  refine lv_iload_n hx hb dX8_foretold_3 rfl (lv_at hl 3 rfl) ?_
  refine callRV (rest := []) (As := [.int p0, .int p1, .int p2]) hx hb hml hown htb hK (c_X8_refusalOfStretch l D E h0 a p0 p1 p2 ) ok_X8_refusalOfStretch k_486 k_488 ks_5 k_1 k_489 ⟨(Nat.le_of_ble_eq_true rfl), (Nat.le_of_ble_eq_true rfl)⟩ ⟨(Nat.le_of_ble_eq_true rfl), (Nat.le_of_ble_eq_true rfl)⟩ hl.1 (Nat.le_of_ble_eq_true rfl) rfl rfl dX8_foretold_4 (hP.sub (ws' := [(h0, .inr (8, xF a 0)), ((a 1), .inl (E 0, 16, .inl (fun _ => -5)))]) [0, 1] rfl) rfl rfl 0 rfl (fun r_2 hw_1 => ?_)
  rcases hw_1 with ⟨hr_2, hw_1⟩ | ⟨hr_2, hw_1⟩
  ·
    refine W_top (y := .int (-2)) (by rw [hr_2]) ?_
    refine lv_if_ne (tgt := 28) hx hb dX8_foretold_7 (by decide) (fun c_3 => ?_) (fun c_3 => absurd c_3 (by decide))
    refine lv_ldc hx hb hown (htb _ k_386) dX8_foretold_28 ?_
    exact W.iret (v := (-2000000000)) hx hb hr (fun t ht hW => ⟨(-2000000000), rfl, ⟨rfl, trivial⟩, ht⟩) (fun q h => by cases h) dX8_foretold_30
  ·
    refine W_top (y := .int (-1)) (by rw [hr_2]) ?_
    refine lv_if_ne (tgt := 28) hx hb dX8_foretold_7 (by decide) (fun c_4 => ?_) (fun c_4 => absurd c_4 (by decide))
    refine lv_ldc hx hb hown (htb _ k_386) dX8_foretold_28 ?_
    exact W.iret (v := (-2000000000)) hx hb hr (fun t ht hW => ⟨(-2000000000), rfl, ⟨rfl, trivial⟩, ht⟩) (fun q h => by cases h) dX8_foretold_30
set_option maxHeartbeats 4000000 in
set_option maxRecDepth 100000 in
theorem c_X8_trial (l : Launch) (D : va_G) (E : Nat → Nat) (h0 : Nat) (a : Nat → Nat) (p0 : Int32) (p1 : Int32) (p2 : Int32)  : Met l yX8_trial (wl yX8_trial cX8_trial 4 (some .int)) (RM 3 0 0) (rd_P D E [.ref h0, .int p0, .int p1, .int p2] [(h0, .inr (8, xF a 0)), ((a 1), .inl (E 0, 16, .inl (fun _ => -5)))]) (rd_Q (fun r => (r = (-2000000000) ∧ True))) 0 0 (fun _ => False) := by
  refine Met.ofW (cc := cX8_trial) (maxL := 4) (ret := (some .int)) (by decide) rfl ?_
  intro p e s m args below meth c s₁ B hml hv
  obtain ⟨rfl, hP, hK⟩ := hv
  have hx := B.exec
  have hb := B.bytes
  have hr := B.returns
  have hts := atoms_spec (ws := wl yX8_trial cX8_trial 4 (some .int)) B.pre
  have htb : ∀ w ∈ tb, w.before _ s = true := fun w h => hts w (List.mem_cons_of_mem _ h)
  have hown : s.vm.findClass RX8 = some m.cls := findClass_of_methodNamed B.named
  have hlocks := B.notSynchronized
  have hP : va_P D vwCl [(h0, .inr (8, xF a 0)), ((a 1), .inl (E 0, 16, .inl (fun _ => -5)))] s.heap := hP
  have hl := lv_entry ([.ref h0, .int p0, .int p1, .int p2]) (n := 4) (Nat.le_of_ble_eq_true rfl)
  rw [lg_entry_eq]
  generalize (lg_sl ([.ref h0, .int p0, .int p1, .int p2]) ++ List.replicate (4 - (lg_sl ([.ref h0, .int p0, .int p1, .int p2])).length) Slot.unset).toArray = ls at hl ⊢
  have hl : lv_has ls 4 [(0, .ref h0), (1, .int p0), (2, .int p1), (3, .int p2)] := hl
  have lo_p0 := i_lo p0
  have hi_p0 := i_hi p0
  have lo_p1 := i_lo p1
  have hi_p1 := i_hi p1
  have lo_p2 := i_lo p2
  have hi_p2 := i_hi p2
  refine lv_aload_n hx hb dX8_trial_0 rfl (lv_at hl 0 rfl) ?_
  refine lv_iload_n hx hb dX8_trial_1 rfl (lv_at hl 1 rfl) ?_
  refine lv_iload_n hx hb dX8_trial_2 rfl (lv_at hl 2 rfl) ?_
  refine lv_iload_n hx hb dX8_trial_3 rfl (lv_at hl 3 rfl) ?_
  refine callRV (rest := []) (As := [.int p0, .int p1, .int p2]) hx hb hml hown htb hK (c_X8_refusalOfStretch l D E h0 a p0 p1 p2 ) ok_X8_refusalOfStretch k_486 k_488 ks_5 k_1 k_489 ⟨(Nat.le_of_ble_eq_true rfl), (Nat.le_of_ble_eq_true rfl)⟩ ⟨(Nat.le_of_ble_eq_true rfl), (Nat.le_of_ble_eq_true rfl)⟩ hl.1 (Nat.le_of_ble_eq_true rfl) rfl rfl dX8_trial_4 (hP.sub (ws' := [(h0, .inr (8, xF a 0)), ((a 1), .inl (E 0, 16, .inl (fun _ => -5)))]) [0, 1] rfl) rfl rfl 0 rfl (fun r_2 hw_1 => ?_)
  rcases hw_1 with ⟨hr_2, hw_1⟩ | ⟨hr_2, hw_1⟩
  ·
    refine W_top (y := .int (-2)) (by rw [hr_2]) ?_
    refine lv_if_ne (tgt := 20) hx hb dX8_trial_7 (by decide) (fun c_3 => ?_) (fun c_3 => absurd c_3 (by decide))
    refine lv_ldc hx hb hown (htb _ k_386) dX8_trial_20 ?_
    exact W.iret (v := (-2000000000)) hx hb hr (fun t ht hW => ⟨(-2000000000), rfl, ⟨rfl, trivial⟩, ht⟩) (fun q h => by cases h) dX8_trial_22
  ·
    refine W_top (y := .int (-1)) (by rw [hr_2]) ?_
    refine lv_if_ne (tgt := 20) hx hb dX8_trial_7 (by decide) (fun c_4 => ?_) (fun c_4 => absurd c_4 (by decide))
    refine lv_ldc hx hb hown (htb _ k_386) dX8_trial_20 ?_
    exact W.iret (v := (-2000000000)) hx hb hr (fun t ht hW => ⟨(-2000000000), rfl, ⟨rfl, trivial⟩, ht⟩) (fun q h => by cases h) dX8_trial_22
set_option maxHeartbeats 4000000 in
set_option maxRecDepth 100000 in
theorem c_X8_jump (l : Launch) (D : va_G) (E : Nat → Nat) (h0 : Nat) (a : Nat → Nat) (p0 : Int32) (p1 : Int32) (p2 : Int32) (p3 : Int32)  : Met l yX8_jump (wl yX8_jump cX8_jump 6 (some .int)) (RM 3 0 0) (rd_P D E [.ref h0, .int p0, .int p1, .int p2, .int p3] [(h0, .inr (8, xF a 0)), ((a 1), .inl (E 0, 16, .inl (fun _ => -5)))]) (rd_Q (fun r => (r = (-2) ∧ ((0 ≤ p3.toInt ∧ p3.toInt ≤ 2000) ∧ (0 ≤ p0.toInt ∧ p0.toInt ≤ 15) ∧ (0 ≤ p1.toInt ∧ p2.toInt ≤ 399 ∧ p1.toInt < p2.toInt ∧ p2.toInt - p1.toInt ≤ 60))) ∨ (r = (-1) ∧ ¬ ((0 ≤ p3.toInt ∧ p3.toInt ≤ 2000) ∧ (0 ≤ p0.toInt ∧ p0.toInt ≤ 15) ∧ (0 ≤ p1.toInt ∧ p2.toInt ≤ 399 ∧ p1.toInt < p2.toInt ∧ p2.toInt - p1.toInt ≤ 60))))) 0 0 (fun _ => False) := by
  refine Met.ofW (cc := cX8_jump) (maxL := 6) (ret := (some .int)) (by decide) rfl ?_
  intro p e s m args below meth c s₁ B hml hv
  obtain ⟨rfl, hP, hK⟩ := hv
  have hx := B.exec
  have hb := B.bytes
  have hr := B.returns
  have hts := atoms_spec (ws := wl yX8_jump cX8_jump 6 (some .int)) B.pre
  have htb : ∀ w ∈ tb, w.before _ s = true := fun w h => hts w (List.mem_cons_of_mem _ h)
  have hown : s.vm.findClass RX8 = some m.cls := findClass_of_methodNamed B.named
  have hlocks := B.notSynchronized
  have hP : va_P D vwCl [(h0, .inr (8, xF a 0)), ((a 1), .inl (E 0, 16, .inl (fun _ => -5)))] s.heap := hP
  have hl := lv_entry ([.ref h0, .int p0, .int p1, .int p2, .int p3]) (n := 6) (Nat.le_of_ble_eq_true rfl)
  rw [lg_entry_eq]
  generalize (lg_sl ([.ref h0, .int p0, .int p1, .int p2, .int p3]) ++ List.replicate (6 - (lg_sl ([.ref h0, .int p0, .int p1, .int p2, .int p3])).length) Slot.unset).toArray = ls at hl ⊢
  have hl : lv_has ls 6 [(0, .ref h0), (1, .int p0), (2, .int p1), (3, .int p2), (4, .int p3)] := hl
  have lo_p0 := i_lo p0
  have hi_p0 := i_hi p0
  have lo_p1 := i_lo p1
  have hi_p1 := i_hi p1
  have lo_p2 := i_lo p2
  have hi_p2 := i_hi p2
  have lo_p3 := i_lo p3
  have hi_p3 := i_hi p3
  refine lv_iload hx hb dX8_jump_0 (lv_at hl 4 rfl) ?_
  refine lv_if_lt (tgt := 13) hx hb dX8_jump_2 (by decide) (fun c_1 => ?_) (fun c_1 => ?_)
  ·
    have ic_1 : p3.toInt < 0 := by first | exact (g_lt rfl t_0).mp c_1 | (have h := mt (g_le t_0 rfl).mpr c_1; omega)
    refine lv_iconst (v := (-1)) hx hb dX8_jump_13 (by decide) ?_
    exact W.iret (v := (-1)) hx hb hr (fun t ht hW => ⟨(-1), rfl, by first | exact Or.inr ⟨rfl, by omega⟩ | (exfalso; omega), ht⟩) (fun q h => by cases h) dX8_jump_14
  ·
    have ic_1 : 0 ≤ p3.toInt := by first | exact (g_le t_0 rfl).mp c_1 | (have h := mt (g_lt rfl t_0).mpr c_1; omega)
    refine lv_iload hx hb dX8_jump_5 (lv_at hl 4 rfl) ?_
    refine lv_sipush (v := 2000) hx hb dX8_jump_7 (by decide) ?_
    refine lv_icmp_le (tgt := 15) hx hb dX8_jump_10 (by decide) (fun c_2 => ?_) (fun c_2 => ?_)
    ·
      have ic_2 : p3.toInt ≤ 2000 := by first | exact (g_le rfl t_2000).mp c_2 | (have h := mt (g_lt t_2000 rfl).mpr c_2; omega)
      refine lv_aload_n hx hb dX8_jump_15 rfl (lv_at hl 0 rfl) ?_
      refine lv_iload_n hx hb dX8_jump_16 rfl (lv_at hl 1 rfl) ?_
      refine lv_iload_n hx hb dX8_jump_17 rfl (lv_at hl 2 rfl) ?_
      refine lv_iload_n hx hb dX8_jump_18 rfl (lv_at hl 3 rfl) ?_
      refine callRV (rest := []) (As := [.int p0, .int p1, .int p2]) hx hb hml hown htb hK (c_X8_refusalOfStretch l D E h0 a p0 p1 p2 ) ok_X8_refusalOfStretch k_486 k_488 ks_5 k_1 k_489 ⟨(Nat.le_of_ble_eq_true rfl), (Nat.le_of_ble_eq_true rfl)⟩ ⟨(Nat.le_of_ble_eq_true rfl), (Nat.le_of_ble_eq_true rfl)⟩ hl.1 (Nat.le_of_ble_eq_true rfl) rfl rfl dX8_jump_19 (hP.sub (ws' := [(h0, .inr (8, xF a 0)), ((a 1), .inl (E 0, 16, .inl (fun _ => -5)))]) [0, 1] rfl) rfl rfl 0 rfl (fun r_4 hw_3 => ?_)
      rcases hw_3 with ⟨hr_4, hw_3⟩ | ⟨hr_4, hw_3⟩
      ·
        refine W_top (y := .int (-2)) (by rw [hr_4]) ?_
        refine lv_istore (lv' := [(5, .int (-2)), (0, .ref h0), (1, .int p0), (2, .int p1), (3, .int p2), (4, .int p3)]) hx hb dX8_jump_22 hl (by decide) rfl (fun ls hl => ?_)
        refine lv_iload hx hb dX8_jump_24 (lv_at hl 0 rfl) ?_
        refine lv_if_eq (tgt := 32) hx hb dX8_jump_26 (by decide) (fun c_5 => absurd c_5 (by decide)) (fun c_5 => ?_)
        refine lv_iload hx hb dX8_jump_29 (lv_at hl 0 rfl) ?_
        exact W.iret (v := (-2)) hx hb hr (fun t ht hW => ⟨(-2), rfl, by first | exact Or.inl ⟨rfl, by omega⟩ | (exfalso; omega), ht⟩) (fun q h => by cases h) dX8_jump_31
      ·
        refine W_top (y := .int (-1)) (by rw [hr_4]) ?_
        refine lv_istore (lv' := [(5, .int (-1)), (0, .ref h0), (1, .int p0), (2, .int p1), (3, .int p2), (4, .int p3)]) hx hb dX8_jump_22 hl (by decide) rfl (fun ls hl => ?_)
        refine lv_iload hx hb dX8_jump_24 (lv_at hl 0 rfl) ?_
        refine lv_if_eq (tgt := 32) hx hb dX8_jump_26 (by decide) (fun c_6 => absurd c_6 (by decide)) (fun c_6 => ?_)
        refine lv_iload hx hb dX8_jump_29 (lv_at hl 0 rfl) ?_
        exact W.iret (v := (-1)) hx hb hr (fun t ht hW => ⟨(-1), rfl, by first | exact Or.inr ⟨rfl, by omega⟩ | (exfalso; omega), ht⟩) (fun q h => by cases h) dX8_jump_31
    ·
      have ic_2 : 2000 < p3.toInt := by first | exact (g_lt t_2000 rfl).mp c_2 | (have h := mt (g_le rfl t_2000).mpr c_2; omega)
      refine lv_iconst (v := (-1)) hx hb dX8_jump_13 (by decide) ?_
      exact W.iret (v := (-1)) hx hb hr (fun t ht hW => ⟨(-1), rfl, by first | exact Or.inr ⟨rfl, by omega⟩ | (exfalso; omega), ht⟩) (fun q h => by cases h) dX8_jump_14
set_option maxHeartbeats 4000000 in
set_option maxRecDepth 100000 in
theorem c_X8_sail (l : Launch) (D : va_G) (E : Nat → Nat) (h0 : Nat) (a : Nat → Nat) (p0 : Int32) (p1 : Int32) (p2 : Int32) (p3 : Int32)  : Met l yX8_sail (wl yX8_sail cX8_sail 7 (some .int)) (RM 3 0 0) (rd_P D E [.ref h0, .int p0, .int p1, .int p2, .int p3] [(h0, .inr (8, xF a 0)), ((a 1), .inl (E 0, 16, .inl (fun _ => -5)))]) (rd_Q (fun r => (r = (-2) ∧ ((0 ≤ p0.toInt ∧ p0.toInt ≤ 4) ∧ (0 ≤ p1.toInt ∧ p1.toInt ≤ 15) ∧ (0 ≤ p2.toInt ∧ p2.toInt ≤ 15) ∧ (0 ≤ p3.toInt ∧ p3.toInt ≤ 15) ∧ p1.toInt ≠ p2.toInt ∧ p1.toInt ≠ p3.toInt ∧ p2.toInt ≠ p3.toInt)) ∨ (r = (-1) ∧ ¬ ((0 ≤ p0.toInt ∧ p0.toInt ≤ 4) ∧ (0 ≤ p1.toInt ∧ p1.toInt ≤ 15) ∧ (0 ≤ p2.toInt ∧ p2.toInt ≤ 15) ∧ (0 ≤ p3.toInt ∧ p3.toInt ≤ 15) ∧ p1.toInt ≠ p2.toInt ∧ p1.toInt ≠ p3.toInt ∧ p2.toInt ≠ p3.toInt)))) 0 0 (fun _ => False) := by
  refine Met.ofW (cc := cX8_sail) (maxL := 7) (ret := (some .int)) (by decide) rfl ?_
  intro p e s m args below meth c s₁ B hml hv
  obtain ⟨rfl, hP, hK⟩ := hv
  have hx := B.exec
  have hb := B.bytes
  have hr := B.returns
  have hts := atoms_spec (ws := wl yX8_sail cX8_sail 7 (some .int)) B.pre
  have htb : ∀ w ∈ tb, w.before _ s = true := fun w h => hts w (List.mem_cons_of_mem _ h)
  have hown : s.vm.findClass RX8 = some m.cls := findClass_of_methodNamed B.named
  have hlocks := B.notSynchronized
  have hP : va_P D vwCl [(h0, .inr (8, xF a 0)), ((a 1), .inl (E 0, 16, .inl (fun _ => -5)))] s.heap := hP
  have hl := lv_entry ([.ref h0, .int p0, .int p1, .int p2, .int p3]) (n := 7) (Nat.le_of_ble_eq_true rfl)
  rw [lg_entry_eq]
  generalize (lg_sl ([.ref h0, .int p0, .int p1, .int p2, .int p3]) ++ List.replicate (7 - (lg_sl ([.ref h0, .int p0, .int p1, .int p2, .int p3])).length) Slot.unset).toArray = ls at hl ⊢
  have hl : lv_has ls 7 [(0, .ref h0), (1, .int p0), (2, .int p1), (3, .int p2), (4, .int p3)] := hl
  have lo_p0 := i_lo p0
  have hi_p0 := i_hi p0
  have lo_p1 := i_lo p1
  have hi_p1 := i_hi p1
  have lo_p2 := i_lo p2
  have hi_p2 := i_hi p2
  have lo_p3 := i_lo p3
  have hi_p3 := i_hi p3
  refine lv_iload_n hx hb dX8_sail_0 rfl (lv_at hl 1 rfl) ?_
  refine callRS (rest := []) (As := [.int p0]) hx hb hml hown htb hK (c_X8_isShip l D E p0 ) ok_X8_isShip k_773 k_774 k_1 k_775 ⟨(Nat.le_of_ble_eq_true rfl), (Nat.le_of_ble_eq_true rfl)⟩ ⟨(Nat.le_of_ble_eq_true rfl), (Nat.le_of_ble_eq_true rfl)⟩ hl.1 (Nat.le_of_ble_eq_true rfl) rfl rfl dX8_sail_1 (hP.sub (ws' := ([] : va_W)) [] rfl) (fun r_2 hw_1 => ?_)
  rcases hw_1 with ⟨hr_2, hw_1⟩ | ⟨hr_2, hw_1⟩
  ·
    refine W_top (y := .int 1) (by rw [hr_2]) ?_
    refine lv_if_eq (tgt := 46) hx hb dX8_sail_4 (by decide) (fun c_3 => absurd c_3 (by decide)) (fun c_3 => ?_)
    refine lv_iload_n hx hb dX8_sail_7 rfl (lv_at hl 2 rfl) ?_
    refine callRS (rest := []) (As := [.int p1]) hx hb hml hown htb hK (c_X8_isPlace l D E p1 ) ok_X8_isPlace k_333 k_334 k_1 k_335 ⟨(Nat.le_of_ble_eq_true rfl), (Nat.le_of_ble_eq_true rfl)⟩ ⟨(Nat.le_of_ble_eq_true rfl), (Nat.le_of_ble_eq_true rfl)⟩ hl.1 (Nat.le_of_ble_eq_true rfl) rfl rfl dX8_sail_8 (hP.sub (ws' := ([] : va_W)) [] rfl) (fun r_5 hw_4 => ?_)
    rcases hw_4 with ⟨hr_5, hw_4⟩ | ⟨hr_5, hw_4⟩
    ·
      refine W_top (y := .int 1) (by rw [hr_5]) ?_
      refine lv_if_eq (tgt := 46) hx hb dX8_sail_11 (by decide) (fun c_6 => absurd c_6 (by decide)) (fun c_6 => ?_)
      refine lv_iload_n hx hb dX8_sail_14 rfl (lv_at hl 3 rfl) ?_
      refine callRS (rest := []) (As := [.int p2]) hx hb hml hown htb hK (c_X8_isPlace l D E p2 ) ok_X8_isPlace k_333 k_334 k_1 k_335 ⟨(Nat.le_of_ble_eq_true rfl), (Nat.le_of_ble_eq_true rfl)⟩ ⟨(Nat.le_of_ble_eq_true rfl), (Nat.le_of_ble_eq_true rfl)⟩ hl.1 (Nat.le_of_ble_eq_true rfl) rfl rfl dX8_sail_15 (hP.sub (ws' := ([] : va_W)) [] rfl) (fun r_8 hw_7 => ?_)
      rcases hw_7 with ⟨hr_8, hw_7⟩ | ⟨hr_8, hw_7⟩
      ·
        refine W_top (y := .int 1) (by rw [hr_8]) ?_
        refine lv_if_eq (tgt := 46) hx hb dX8_sail_18 (by decide) (fun c_9 => absurd c_9 (by decide)) (fun c_9 => ?_)
        refine lv_iload hx hb dX8_sail_21 (lv_at hl 4 rfl) ?_
        refine callRS (rest := []) (As := [.int p3]) hx hb hml hown htb hK (c_X8_isPlace l D E p3 ) ok_X8_isPlace k_333 k_334 k_1 k_335 ⟨(Nat.le_of_ble_eq_true rfl), (Nat.le_of_ble_eq_true rfl)⟩ ⟨(Nat.le_of_ble_eq_true rfl), (Nat.le_of_ble_eq_true rfl)⟩ hl.1 (Nat.le_of_ble_eq_true rfl) rfl rfl dX8_sail_23 (hP.sub (ws' := ([] : va_W)) [] rfl) (fun r_11 hw_10 => ?_)
        rcases hw_10 with ⟨hr_11, hw_10⟩ | ⟨hr_11, hw_10⟩
        ·
          refine W_top (y := .int 1) (by rw [hr_11]) ?_
          refine lv_if_eq (tgt := 46) hx hb dX8_sail_26 (by decide) (fun c_12 => absurd c_12 (by decide)) (fun c_12 => ?_)
          refine lv_iload_n hx hb dX8_sail_29 rfl (lv_at hl 2 rfl) ?_
          refine lv_iload_n hx hb dX8_sail_30 rfl (lv_at hl 3 rfl) ?_
          refine lv_icmp_eq (tgt := 46) hx hb dX8_sail_31 (by decide) (fun c_13 => ?_) (fun c_13 => ?_)
          ·
            have ic_13 : p1.toInt = p2.toInt := (g_eq rfl rfl).mp c_13
            refine lv_iconst (v := (-1)) hx hb dX8_sail_46 (by decide) ?_
            exact W.iret (v := (-1)) hx hb hr (fun t ht hW => ⟨(-1), rfl, by first | exact Or.inr ⟨rfl, by omega⟩ | (exfalso; omega), ht⟩) (fun q h => by cases h) dX8_sail_47
          ·
            have ic_13 : p1.toInt ≠ p2.toInt := mt (g_eq rfl rfl).mpr c_13
            refine lv_iload_n hx hb dX8_sail_34 rfl (lv_at hl 2 rfl) ?_
            refine lv_iload hx hb dX8_sail_35 (lv_at hl 4 rfl) ?_
            refine lv_icmp_eq (tgt := 46) hx hb dX8_sail_37 (by decide) (fun c_14 => ?_) (fun c_14 => ?_)
            ·
              have ic_14 : p1.toInt = p3.toInt := (g_eq rfl rfl).mp c_14
              refine lv_iconst (v := (-1)) hx hb dX8_sail_46 (by decide) ?_
              exact W.iret (v := (-1)) hx hb hr (fun t ht hW => ⟨(-1), rfl, by first | exact Or.inr ⟨rfl, by omega⟩ | (exfalso; omega), ht⟩) (fun q h => by cases h) dX8_sail_47
            ·
              have ic_14 : p1.toInt ≠ p3.toInt := mt (g_eq rfl rfl).mpr c_14
              refine lv_iload_n hx hb dX8_sail_40 rfl (lv_at hl 3 rfl) ?_
              refine lv_iload hx hb dX8_sail_41 (lv_at hl 4 rfl) ?_
              refine lv_icmp_ne (tgt := 48) hx hb dX8_sail_43 (by decide) (fun c_15 => ?_) (fun c_15 => ?_)
              ·
                have ic_15 : p2.toInt ≠ p3.toInt := mt (g_eq rfl rfl).mpr c_15
                refine lv_aload_n hx hb dX8_sail_48 rfl (lv_at hl 0 rfl) ?_
                refine lv_iload_n hx hb dX8_sail_49 rfl (lv_at hl 2 rfl) ?_
                refine lv_iload_n hx hb dX8_sail_50 rfl (lv_at hl 3 rfl) ?_
                refine lv_iload hx hb dX8_sail_51 (lv_at hl 4 rfl) ?_
                refine callRV (rest := []) (As := [.int p1, .int p2, .int p3]) hx hb hml hown htb hK (c_X8_firstLack l D E h0 a p1 p2 p3 ) ok_X8_firstLack k_776 k_778 ks_27 k_1 k_779 ⟨(Nat.le_of_ble_eq_true rfl), (Nat.le_of_ble_eq_true rfl)⟩ ⟨(Nat.le_of_ble_eq_true rfl), (Nat.le_of_ble_eq_true rfl)⟩ hl.1 (Nat.le_of_ble_eq_true rfl) rfl rfl dX8_sail_53 (hP.sub (ws' := [(h0, .inr (8, xF a 0)), ((a 1), .inl (E 0, 16, .inl (fun _ => -5)))]) [0, 1] rfl) rfl rfl 0 rfl (fun r_17 hw_16 => ?_)
                rcases hw_16 with ⟨hr_17, hw_16⟩ | ⟨hr_17, hw_16⟩
                ·
                  refine W_top (y := .int (-2)) (by rw [hr_17]) ?_
                  refine lv_istore (lv' := [(5, .int (-2)), (0, .ref h0), (1, .int p0), (2, .int p1), (3, .int p2), (4, .int p3)]) hx hb dX8_sail_56 hl (by decide) rfl (fun ls hl => ?_)
                  refine lv_iload hx hb dX8_sail_58 (lv_at hl 0 rfl) ?_
                  refine lv_if_eq (tgt := 66) hx hb dX8_sail_60 (by decide) (fun c_18 => absurd c_18 (by decide)) (fun c_18 => ?_)
                  refine lv_iload hx hb dX8_sail_63 (lv_at hl 0 rfl) ?_
                  exact W.iret (v := (-2)) hx hb hr (fun t ht hW => ⟨(-2), rfl, by first | exact Or.inl ⟨rfl, by omega⟩ | (exfalso; omega), ht⟩) (fun q h => by cases h) dX8_sail_65
                ·
                  refine W_top (y := .int (-1)) (by rw [hr_17]) ?_
                  refine lv_istore (lv' := [(5, .int (-1)), (0, .ref h0), (1, .int p0), (2, .int p1), (3, .int p2), (4, .int p3)]) hx hb dX8_sail_56 hl (by decide) rfl (fun ls hl => ?_)
                  refine lv_iload hx hb dX8_sail_58 (lv_at hl 0 rfl) ?_
                  refine lv_if_eq (tgt := 66) hx hb dX8_sail_60 (by decide) (fun c_19 => absurd c_19 (by decide)) (fun c_19 => ?_)
                  refine lv_iload hx hb dX8_sail_63 (lv_at hl 0 rfl) ?_
                  exact W.iret (v := (-1)) hx hb hr (fun t ht hW => ⟨(-1), rfl, by first | exact Or.inr ⟨rfl, by omega⟩ | (exfalso; omega), ht⟩) (fun q h => by cases h) dX8_sail_65
              ·
                have ic_15 : p2.toInt = p3.toInt := (g_eq rfl rfl).mp c_15
                refine lv_iconst (v := (-1)) hx hb dX8_sail_46 (by decide) ?_
                exact W.iret (v := (-1)) hx hb hr (fun t ht hW => ⟨(-1), rfl, by first | exact Or.inr ⟨rfl, by omega⟩ | (exfalso; omega), ht⟩) (fun q h => by cases h) dX8_sail_47
        ·
          refine W_top (y := .int 0) (by rw [hr_11]) ?_
          refine lv_if_eq (tgt := 46) hx hb dX8_sail_26 (by decide) (fun c_20 => ?_) (fun c_20 => absurd (by decide) c_20)
          refine lv_iconst (v := (-1)) hx hb dX8_sail_46 (by decide) ?_
          exact W.iret (v := (-1)) hx hb hr (fun t ht hW => ⟨(-1), rfl, by first | exact Or.inr ⟨rfl, by omega⟩ | (exfalso; omega), ht⟩) (fun q h => by cases h) dX8_sail_47
      ·
        refine W_top (y := .int 0) (by rw [hr_8]) ?_
        refine lv_if_eq (tgt := 46) hx hb dX8_sail_18 (by decide) (fun c_21 => ?_) (fun c_21 => absurd (by decide) c_21)
        refine lv_iconst (v := (-1)) hx hb dX8_sail_46 (by decide) ?_
        exact W.iret (v := (-1)) hx hb hr (fun t ht hW => ⟨(-1), rfl, by first | exact Or.inr ⟨rfl, by omega⟩ | (exfalso; omega), ht⟩) (fun q h => by cases h) dX8_sail_47
    ·
      refine W_top (y := .int 0) (by rw [hr_5]) ?_
      refine lv_if_eq (tgt := 46) hx hb dX8_sail_11 (by decide) (fun c_22 => ?_) (fun c_22 => absurd (by decide) c_22)
      refine lv_iconst (v := (-1)) hx hb dX8_sail_46 (by decide) ?_
      exact W.iret (v := (-1)) hx hb hr (fun t ht hW => ⟨(-1), rfl, by first | exact Or.inr ⟨rfl, by omega⟩ | (exfalso; omega), ht⟩) (fun q h => by cases h) dX8_sail_47
  ·
    refine W_top (y := .int 0) (by rw [hr_2]) ?_
    refine lv_if_eq (tgt := 46) hx hb dX8_sail_4 (by decide) (fun c_23 => ?_) (fun c_23 => absurd (by decide) c_23)
    refine lv_iconst (v := (-1)) hx hb dX8_sail_46 (by decide) ?_
    exact W.iret (v := (-1)) hx hb hr (fun t ht hW => ⟨(-1), rfl, by first | exact Or.inr ⟨rfl, by omega⟩ | (exfalso; omega), ht⟩) (fun q h => by cases h) dX8_sail_47
set_option maxHeartbeats 4000000 in
set_option maxRecDepth 100000 in
theorem c_X8_lend (l : Launch) (D : va_G) (E : Nat → Nat) (h0 : Nat) (a : Nat → Nat) (p0 : Int32) (p1 : Int32)  : Met l yX8_lend (wl yX8_lend cX8_lend 4 (some .int)) (RM 2 0 0) (rd_P D E [.ref h0, .int p0, .int p1] [(h0, .inr (8, xF a 0)), ((a 1), .inl (E 0, 16, .inl (fun _ => -5)))]) (rd_Q (fun r => (r = (-2) ∧ ((0 ≤ p0.toInt ∧ p0.toInt ≤ 15) ∧ (0 ≤ p1.toInt ∧ p1.toInt ≤ 19))) ∨ (r = (-1) ∧ ¬ ((0 ≤ p0.toInt ∧ p0.toInt ≤ 15) ∧ (0 ≤ p1.toInt ∧ p1.toInt ≤ 19))))) 0 0 (fun _ => False) := by
  refine Met.ofW (cc := cX8_lend) (maxL := 4) (ret := (some .int)) (by decide) rfl ?_
  intro p e s m args below meth c s₁ B hml hv
  obtain ⟨rfl, hP, hK⟩ := hv
  have hx := B.exec
  have hb := B.bytes
  have hr := B.returns
  have hts := atoms_spec (ws := wl yX8_lend cX8_lend 4 (some .int)) B.pre
  have htb : ∀ w ∈ tb, w.before _ s = true := fun w h => hts w (List.mem_cons_of_mem _ h)
  have hown : s.vm.findClass RX8 = some m.cls := findClass_of_methodNamed B.named
  have hlocks := B.notSynchronized
  have hP : va_P D vwCl [(h0, .inr (8, xF a 0)), ((a 1), .inl (E 0, 16, .inl (fun _ => -5)))] s.heap := hP
  have hl := lv_entry ([.ref h0, .int p0, .int p1]) (n := 4) (Nat.le_of_ble_eq_true rfl)
  rw [lg_entry_eq]
  generalize (lg_sl ([.ref h0, .int p0, .int p1]) ++ List.replicate (4 - (lg_sl ([.ref h0, .int p0, .int p1])).length) Slot.unset).toArray = ls at hl ⊢
  have hl : lv_has ls 4 [(0, .ref h0), (1, .int p0), (2, .int p1)] := hl
  have lo_p0 := i_lo p0
  have hi_p0 := i_hi p0
  have lo_p1 := i_lo p1
  have hi_p1 := i_hi p1
  refine lv_iload_n hx hb dX8_lend_0 rfl (lv_at hl 1 rfl) ?_
  refine callRS (rest := []) (As := [.int p0]) hx hb hml hown htb hK (c_X8_isPlace l D E p0 ) ok_X8_isPlace k_333 k_334 k_1 k_335 ⟨(Nat.le_of_ble_eq_true rfl), (Nat.le_of_ble_eq_true rfl)⟩ ⟨(Nat.le_of_ble_eq_true rfl), (Nat.le_of_ble_eq_true rfl)⟩ hl.1 (Nat.le_of_ble_eq_true rfl) rfl rfl dX8_lend_1 (hP.sub (ws' := ([] : va_W)) [] rfl) (fun r_2 hw_1 => ?_)
  rcases hw_1 with ⟨hr_2, hw_1⟩ | ⟨hr_2, hw_1⟩
  ·
    refine W_top (y := .int 1) (by rw [hr_2]) ?_
    refine lv_if_eq (tgt := 17) hx hb dX8_lend_4 (by decide) (fun c_3 => absurd c_3 (by decide)) (fun c_3 => ?_)
    refine lv_iload_n hx hb dX8_lend_7 rfl (lv_at hl 2 rfl) ?_
    refine lv_if_lt (tgt := 17) hx hb dX8_lend_8 (by decide) (fun c_4 => ?_) (fun c_4 => ?_)
    ·
      have ic_4 : p1.toInt < 0 := by first | exact (g_lt rfl t_0).mp c_4 | (have h := mt (g_le t_0 rfl).mpr c_4; omega)
      refine lv_iconst (v := (-1)) hx hb dX8_lend_17 (by decide) ?_
      exact W.iret (v := (-1)) hx hb hr (fun t ht hW => ⟨(-1), rfl, by first | exact Or.inr ⟨rfl, by omega⟩ | (exfalso; omega), ht⟩) (fun q h => by cases h) dX8_lend_18
    ·
      have ic_4 : 0 ≤ p1.toInt := by first | exact (g_le t_0 rfl).mp c_4 | (have h := mt (g_lt rfl t_0).mpr c_4; omega)
      refine lv_iload_n hx hb dX8_lend_11 rfl (lv_at hl 2 rfl) ?_
      refine lv_bipush (v := 20) hx hb dX8_lend_12 (by decide) ?_
      refine lv_icmp_lt (tgt := 19) hx hb dX8_lend_14 (by decide) (fun c_5 => ?_) (fun c_5 => ?_)
      ·
        have ic_5 : p1.toInt < 20 := by first | exact (g_lt rfl t_20).mp c_5 | (have h := mt (g_le t_20 rfl).mpr c_5; omega)
        refine lv_aload_n hx hb dX8_lend_19 rfl (lv_at hl 0 rfl) ?_
        refine lv_iload_n hx hb dX8_lend_20 rfl (lv_at hl 1 rfl) ?_
        refine callNV (rest := []) (As := [.int p0]) hx hb hml hown htb hK (c_X8_watchAt l D E h0 a p0 ) ok_X8_watchAt k_369 k_371 ks_1 k_1 k_372 ⟨(Nat.le_of_ble_eq_true rfl), (Nat.le_of_ble_eq_true rfl)⟩ ⟨(Nat.le_of_ble_eq_true rfl), (Nat.le_of_ble_eq_true rfl)⟩ hl.1 (Nat.le_of_ble_eq_true rfl) rfl rfl dX8_lend_21 (hP.sub (ws' := [(h0, .inr (8, xF a 0)), ((a 1), .inl (E 0, 16, .inl (fun _ => -5)))]) [0, 1] rfl) rfl rfl 0 rfl ?_
        refine lv_astore_nN (lv' := [(3, .null), (0, .ref h0), (1, .int p0), (2, .int p1)]) hx hb dX8_lend_24 rfl hl (by decide) rfl (fun ls hl => ?_)
        refine lv_aload_nN hx hb dX8_lend_25 rfl (lv_at hl 0 rfl) ?_
        refine lv_ifnonnullN hx hb dX8_lend_26 ?_
        refine lv_aload_n hx hb dX8_lend_29 rfl (lv_at hl 1 rfl) ?_
        refine lv_iload_n hx hb dX8_lend_30 rfl (lv_at hl 2 rfl) ?_
        refine callRV (rest := []) (As := [.int p0]) hx hb hml hown htb hK (c_X8_lackAt l D E h0 a p0 ) ok_X8_lackAt k_396 k_398 ks_3 k_1 k_399 ⟨(Nat.le_of_ble_eq_true rfl), (Nat.le_of_ble_eq_true rfl)⟩ ⟨(Nat.le_of_ble_eq_true rfl), (Nat.le_of_ble_eq_true rfl)⟩ hl.1 (Nat.le_of_ble_eq_true rfl) rfl rfl dX8_lend_31 (hP.sub (ws' := [(h0, .inr (8, xF a 0)), ((a 1), .inl (E 0, 16, .inl (fun _ => -5)))]) [0, 1] rfl) rfl rfl 0 rfl (fun r_8 hw_7 => ?_)
        rcases hw_7 with ⟨hr_8, hw_7⟩ | ⟨hr_8, hw_7⟩
        ·
          refine W_top (y := .int (-2)) (by rw [hr_8]) ?_
          exact W.iret (v := (-2)) hx hb hr (fun t ht hW => ⟨(-2), rfl, by first | exact Or.inl ⟨rfl, by omega⟩ | (exfalso; omega), ht⟩) (fun q h => by cases h) dX8_lend_34
        ·
          refine W_top (y := .int (-1)) (by rw [hr_8]) ?_
          exact W.iret (v := (-1)) hx hb hr (fun t ht hW => ⟨(-1), rfl, by first | exact Or.inr ⟨rfl, by omega⟩ | (exfalso; omega), ht⟩) (fun q h => by cases h) dX8_lend_34
      ·
        have ic_5 : 20 ≤ p1.toInt := by first | exact (g_le t_20 rfl).mp c_5 | (have h := mt (g_lt rfl t_20).mpr c_5; omega)
        refine lv_iconst (v := (-1)) hx hb dX8_lend_17 (by decide) ?_
        exact W.iret (v := (-1)) hx hb hr (fun t ht hW => ⟨(-1), rfl, by first | exact Or.inr ⟨rfl, by omega⟩ | (exfalso; omega), ht⟩) (fun q h => by cases h) dX8_lend_18
  ·
    refine W_top (y := .int 0) (by rw [hr_2]) ?_
    refine lv_if_eq (tgt := 17) hx hb dX8_lend_4 (by decide) (fun c_9 => ?_) (fun c_9 => absurd (by decide) c_9)
    refine lv_iconst (v := (-1)) hx hb dX8_lend_17 (by decide) ?_
    exact W.iret (v := (-1)) hx hb hr (fun t ht hW => ⟨(-1), rfl, by first | exact Or.inr ⟨rfl, by omega⟩ | (exfalso; omega), ht⟩) (fun q h => by cases h) dX8_lend_18
set_option maxHeartbeats 4000000 in
set_option maxRecDepth 100000 in
theorem c_X8_home (l : Launch) (D : va_G) (E : Nat → Nat) (h0 : Nat) (a : Nat → Nat) (p0 : Int32)  : Met l yX8_home (wl yX8_home cX8_home 4 (some .int)) (RM 2 0 0) (rd_P D E [.ref h0, .int p0] [(h0, .inr (8, xF a 0)), ((a 1), .inl (E 0, 16, .inl (fun _ => -5)))]) (rd_Q (fun r => (r = (-2) ∧ (0 ≤ p0.toInt ∧ p0.toInt ≤ 15)) ∨ (r = (-1) ∧ ¬ (0 ≤ p0.toInt ∧ p0.toInt ≤ 15)))) 0 0 (fun _ => False) := by
  refine Met.ofW (cc := cX8_home) (maxL := 4) (ret := (some .int)) (by decide) rfl ?_
  intro p e s m args below meth c s₁ B hml hv
  obtain ⟨rfl, hP, hK⟩ := hv
  have hx := B.exec
  have hb := B.bytes
  have hr := B.returns
  have hts := atoms_spec (ws := wl yX8_home cX8_home 4 (some .int)) B.pre
  have htb : ∀ w ∈ tb, w.before _ s = true := fun w h => hts w (List.mem_cons_of_mem _ h)
  have hown : s.vm.findClass RX8 = some m.cls := findClass_of_methodNamed B.named
  have hlocks := B.notSynchronized
  have hP : va_P D vwCl [(h0, .inr (8, xF a 0)), ((a 1), .inl (E 0, 16, .inl (fun _ => -5)))] s.heap := hP
  have hl := lv_entry ([.ref h0, .int p0]) (n := 4) (Nat.le_of_ble_eq_true rfl)
  rw [lg_entry_eq]
  generalize (lg_sl ([.ref h0, .int p0]) ++ List.replicate (4 - (lg_sl ([.ref h0, .int p0])).length) Slot.unset).toArray = ls at hl ⊢
  have hl : lv_has ls 4 [(0, .ref h0), (1, .int p0)] := hl
  have lo_p0 := i_lo p0
  have hi_p0 := i_hi p0
  refine lv_iload_n hx hb dX8_home_0 rfl (lv_at hl 1 rfl) ?_
  refine callRS (rest := []) (As := [.int p0]) hx hb hml hown htb hK (c_X8_isPlace l D E p0 ) ok_X8_isPlace k_333 k_334 k_1 k_335 ⟨(Nat.le_of_ble_eq_true rfl), (Nat.le_of_ble_eq_true rfl)⟩ ⟨(Nat.le_of_ble_eq_true rfl), (Nat.le_of_ble_eq_true rfl)⟩ hl.1 (Nat.le_of_ble_eq_true rfl) rfl rfl dX8_home_1 (hP.sub (ws' := ([] : va_W)) [] rfl) (fun r_2 hw_1 => ?_)
  rcases hw_1 with ⟨hr_2, hw_1⟩ | ⟨hr_2, hw_1⟩
  ·
    refine W_top (y := .int 1) (by rw [hr_2]) ?_
    refine lv_if_ne (tgt := 9) hx hb dX8_home_4 (by decide) (fun c_3 => ?_) (fun c_3 => absurd c_3 (by decide))
    refine lv_aload_n hx hb dX8_home_9 rfl (lv_at hl 0 rfl) ?_
    refine lv_iload_n hx hb dX8_home_10 rfl (lv_at hl 1 rfl) ?_
    refine callNV (rest := []) (As := [.int p0]) hx hb hml hown htb hK (c_X8_watchAt l D E h0 a p0 ) ok_X8_watchAt k_369 k_371 ks_1 k_1 k_372 ⟨(Nat.le_of_ble_eq_true rfl), (Nat.le_of_ble_eq_true rfl)⟩ ⟨(Nat.le_of_ble_eq_true rfl), (Nat.le_of_ble_eq_true rfl)⟩ hl.1 (Nat.le_of_ble_eq_true rfl) rfl rfl dX8_home_11 (hP.sub (ws' := [(h0, .inr (8, xF a 0)), ((a 1), .inl (E 0, 16, .inl (fun _ => -5)))]) [0, 1] rfl) rfl rfl 0 rfl ?_
    refine lv_astore_nN (lv' := [(2, .null), (0, .ref h0), (1, .int p0)]) hx hb dX8_home_14 rfl hl (by decide) rfl (fun ls hl => ?_)
    refine lv_aload_nN hx hb dX8_home_15 rfl (lv_at hl 0 rfl) ?_
    refine lv_ifnonnullN hx hb dX8_home_16 ?_
    refine lv_aload_n hx hb dX8_home_19 rfl (lv_at hl 1 rfl) ?_
    refine lv_iload_n hx hb dX8_home_20 rfl (lv_at hl 2 rfl) ?_
    refine callRV (rest := []) (As := [.int p0]) hx hb hml hown htb hK (c_X8_lackAt l D E h0 a p0 ) ok_X8_lackAt k_396 k_398 ks_3 k_1 k_399 ⟨(Nat.le_of_ble_eq_true rfl), (Nat.le_of_ble_eq_true rfl)⟩ ⟨(Nat.le_of_ble_eq_true rfl), (Nat.le_of_ble_eq_true rfl)⟩ hl.1 (Nat.le_of_ble_eq_true rfl) rfl rfl dX8_home_21 (hP.sub (ws' := [(h0, .inr (8, xF a 0)), ((a 1), .inl (E 0, 16, .inl (fun _ => -5)))]) [0, 1] rfl) rfl rfl 0 rfl (fun r_6 hw_5 => ?_)
    rcases hw_5 with ⟨hr_6, hw_5⟩ | ⟨hr_6, hw_5⟩
    ·
      refine W_top (y := .int (-2)) (by rw [hr_6]) ?_
      exact W.iret (v := (-2)) hx hb hr (fun t ht hW => ⟨(-2), rfl, by first | exact Or.inl ⟨rfl, by omega⟩ | (exfalso; omega), ht⟩) (fun q h => by cases h) dX8_home_24
    ·
      refine W_top (y := .int (-1)) (by rw [hr_6]) ?_
      exact W.iret (v := (-1)) hx hb hr (fun t ht hW => ⟨(-1), rfl, by first | exact Or.inr ⟨rfl, by omega⟩ | (exfalso; omega), ht⟩) (fun q h => by cases h) dX8_home_24
  ·
    refine W_top (y := .int 0) (by rw [hr_2]) ?_
    refine lv_if_ne (tgt := 9) hx hb dX8_home_4 (by decide) (fun c_7 => absurd (by decide) c_7) (fun c_7 => ?_)
    refine lv_iconst (v := (-1)) hx hb dX8_home_7 (by decide) ?_
    exact W.iret (v := (-1)) hx hb hr (fun t ht hW => ⟨(-1), rfl, by first | exact Or.inr ⟨rfl, by omega⟩ | (exfalso; omega), ht⟩) (fun q h => by cases h) dX8_home_8
set_option maxHeartbeats 4000000 in
set_option maxRecDepth 100000 in
theorem c_X8_holder (l : Launch) (D : va_G) (E : Nat → Nat) (h0 : Nat) (a : Nat → Nat) (p0 : Int32) (p1 : Int32)  : Met l yX8_holder (wl yX8_holder cX8_holder 4 (some .int)) (RM 2 0 0) (rd_P D E [.ref h0, .int p0, .int p1] [(h0, .inr (8, xF a 0)), ((a 1), .inl (E 0, 16, .inl (fun _ => -5)))]) (rd_Q (fun r => (r = (-2000000000) ∧ True))) 0 0 (fun _ => False) := by
  refine Met.ofW (cc := cX8_holder) (maxL := 4) (ret := (some .int)) (by decide) rfl ?_
  intro p e s m args below meth c s₁ B hml hv
  obtain ⟨rfl, hP, hK⟩ := hv
  have hx := B.exec
  have hb := B.bytes
  have hr := B.returns
  have hts := atoms_spec (ws := wl yX8_holder cX8_holder 4 (some .int)) B.pre
  have htb : ∀ w ∈ tb, w.before _ s = true := fun w h => hts w (List.mem_cons_of_mem _ h)
  have hown : s.vm.findClass RX8 = some m.cls := findClass_of_methodNamed B.named
  have hlocks := B.notSynchronized
  have hP : va_P D vwCl [(h0, .inr (8, xF a 0)), ((a 1), .inl (E 0, 16, .inl (fun _ => -5)))] s.heap := hP
  have hl := lv_entry ([.ref h0, .int p0, .int p1]) (n := 4) (Nat.le_of_ble_eq_true rfl)
  rw [lg_entry_eq]
  generalize (lg_sl ([.ref h0, .int p0, .int p1]) ++ List.replicate (4 - (lg_sl ([.ref h0, .int p0, .int p1])).length) Slot.unset).toArray = ls at hl ⊢
  have hl : lv_has ls 4 [(0, .ref h0), (1, .int p0), (2, .int p1)] := hl
  have lo_p0 := i_lo p0
  have hi_p0 := i_hi p0
  have lo_p1 := i_lo p1
  have hi_p1 := i_hi p1
  refine lv_aload_n hx hb dX8_holder_0 rfl (lv_at hl 0 rfl) ?_
  refine lv_iload_n hx hb dX8_holder_1 rfl (lv_at hl 1 rfl) ?_
  refine callNV (rest := []) (As := [.int p0]) hx hb hml hown htb hK (c_X8_watchAt l D E h0 a p0 ) ok_X8_watchAt k_369 k_371 ks_1 k_1 k_372 ⟨(Nat.le_of_ble_eq_true rfl), (Nat.le_of_ble_eq_true rfl)⟩ ⟨(Nat.le_of_ble_eq_true rfl), (Nat.le_of_ble_eq_true rfl)⟩ hl.1 (Nat.le_of_ble_eq_true rfl) rfl rfl dX8_holder_2 (hP.sub (ws' := [(h0, .inr (8, xF a 0)), ((a 1), .inl (E 0, 16, .inl (fun _ => -5)))]) [0, 1] rfl) rfl rfl 0 rfl ?_
  refine lv_astore_nN (lv' := [(3, .null), (0, .ref h0), (1, .int p0), (2, .int p1)]) hx hb dX8_holder_5 rfl hl (by decide) rfl (fun ls hl => ?_)
  refine lv_aload_nN hx hb dX8_holder_6 rfl (lv_at hl 0 rfl) ?_
  refine lv_ifnullN (tgt := 18) hx hb dX8_holder_7 (by decide) ?_
  refine lv_ldc hx hb hown (htb _ k_386) dX8_holder_18 ?_
  refine lv_goto (tgt := 28) hx hb dX8_holder_20 (by decide) ?_
  exact W.iret (v := (-2000000000)) hx hb hr (fun t ht hW => ⟨(-2000000000), rfl, ⟨rfl, trivial⟩, ht⟩) (fun q h => by cases h) dX8_holder_28
set_option maxHeartbeats 4000000 in
set_option maxRecDepth 100000 in
theorem c_X8_away (l : Launch) (D : va_G) (E : Nat → Nat) (h0 : Nat) (a : Nat → Nat) (p0 : Int32)  : Met l yX8_away (wl yX8_away cX8_away 3 (some .int)) (RM 2 0 0) (rd_P D E [.ref h0, .int p0] [(h0, .inr (8, xF a 0)), ((a 1), .inl (E 0, 16, .inl (fun _ => -5)))]) (rd_Q (fun r => (r = (-2) ∧ (0 ≤ p0.toInt ∧ p0.toInt ≤ 15)) ∨ (r = (-1) ∧ ¬ (0 ≤ p0.toInt ∧ p0.toInt ≤ 15)))) 0 0 (fun _ => False) := by
  refine Met.ofW (cc := cX8_away) (maxL := 3) (ret := (some .int)) (by decide) rfl ?_
  intro p e s m args below meth c s₁ B hml hv
  obtain ⟨rfl, hP, hK⟩ := hv
  have hx := B.exec
  have hb := B.bytes
  have hr := B.returns
  have hts := atoms_spec (ws := wl yX8_away cX8_away 3 (some .int)) B.pre
  have htb : ∀ w ∈ tb, w.before _ s = true := fun w h => hts w (List.mem_cons_of_mem _ h)
  have hown : s.vm.findClass RX8 = some m.cls := findClass_of_methodNamed B.named
  have hlocks := B.notSynchronized
  have hP : va_P D vwCl [(h0, .inr (8, xF a 0)), ((a 1), .inl (E 0, 16, .inl (fun _ => -5)))] s.heap := hP
  have hl := lv_entry ([.ref h0, .int p0]) (n := 3) (Nat.le_of_ble_eq_true rfl)
  rw [lg_entry_eq]
  generalize (lg_sl ([.ref h0, .int p0]) ++ List.replicate (3 - (lg_sl ([.ref h0, .int p0])).length) Slot.unset).toArray = ls at hl ⊢
  have hl : lv_has ls 3 [(0, .ref h0), (1, .int p0)] := hl
  have lo_p0 := i_lo p0
  have hi_p0 := i_hi p0
  refine lv_iload_n hx hb dX8_away_0 rfl (lv_at hl 1 rfl) ?_
  refine callRS (rest := []) (As := [.int p0]) hx hb hml hown htb hK (c_X8_isPlace l D E p0 ) ok_X8_isPlace k_333 k_334 k_1 k_335 ⟨(Nat.le_of_ble_eq_true rfl), (Nat.le_of_ble_eq_true rfl)⟩ ⟨(Nat.le_of_ble_eq_true rfl), (Nat.le_of_ble_eq_true rfl)⟩ hl.1 (Nat.le_of_ble_eq_true rfl) rfl rfl dX8_away_1 (hP.sub (ws' := ([] : va_W)) [] rfl) (fun r_2 hw_1 => ?_)
  rcases hw_1 with ⟨hr_2, hw_1⟩ | ⟨hr_2, hw_1⟩
  ·
    refine W_top (y := .int 1) (by rw [hr_2]) ?_
    refine lv_if_ne (tgt := 9) hx hb dX8_away_4 (by decide) (fun c_3 => ?_) (fun c_3 => absurd c_3 (by decide))
    refine lv_aload_n hx hb dX8_away_9 rfl (lv_at hl 0 rfl) ?_
    refine lv_iload_n hx hb dX8_away_10 rfl (lv_at hl 1 rfl) ?_
    refine callNV (rest := []) (As := [.int p0]) hx hb hml hown htb hK (c_X8_watchAt l D E h0 a p0 ) ok_X8_watchAt k_369 k_371 ks_1 k_1 k_372 ⟨(Nat.le_of_ble_eq_true rfl), (Nat.le_of_ble_eq_true rfl)⟩ ⟨(Nat.le_of_ble_eq_true rfl), (Nat.le_of_ble_eq_true rfl)⟩ hl.1 (Nat.le_of_ble_eq_true rfl) rfl rfl dX8_away_11 (hP.sub (ws' := [(h0, .inr (8, xF a 0)), ((a 1), .inl (E 0, 16, .inl (fun _ => -5)))]) [0, 1] rfl) rfl rfl 0 rfl ?_
    refine lv_astore_nN (lv' := [(2, .null), (0, .ref h0), (1, .int p0)]) hx hb dX8_away_14 rfl hl (by decide) rfl (fun ls hl => ?_)
    refine lv_aload_nN hx hb dX8_away_15 rfl (lv_at hl 0 rfl) ?_
    refine lv_ifnonnullN hx hb dX8_away_16 ?_
    refine lv_aload_n hx hb dX8_away_19 rfl (lv_at hl 1 rfl) ?_
    refine lv_iload_n hx hb dX8_away_20 rfl (lv_at hl 2 rfl) ?_
    refine callRV (rest := []) (As := [.int p0]) hx hb hml hown htb hK (c_X8_lackAt l D E h0 a p0 ) ok_X8_lackAt k_396 k_398 ks_3 k_1 k_399 ⟨(Nat.le_of_ble_eq_true rfl), (Nat.le_of_ble_eq_true rfl)⟩ ⟨(Nat.le_of_ble_eq_true rfl), (Nat.le_of_ble_eq_true rfl)⟩ hl.1 (Nat.le_of_ble_eq_true rfl) rfl rfl dX8_away_21 (hP.sub (ws' := [(h0, .inr (8, xF a 0)), ((a 1), .inl (E 0, 16, .inl (fun _ => -5)))]) [0, 1] rfl) rfl rfl 0 rfl (fun r_6 hw_5 => ?_)
    rcases hw_5 with ⟨hr_6, hw_5⟩ | ⟨hr_6, hw_5⟩
    ·
      refine W_top (y := .int (-2)) (by rw [hr_6]) ?_
      refine lv_goto (tgt := 35) hx hb dX8_away_24 (by decide) ?_
      exact W.iret (v := (-2)) hx hb hr (fun t ht hW => ⟨(-2), rfl, by first | exact Or.inl ⟨rfl, by omega⟩ | (exfalso; omega), ht⟩) (fun q h => by cases h) dX8_away_35
    ·
      refine W_top (y := .int (-1)) (by rw [hr_6]) ?_
      refine lv_goto (tgt := 35) hx hb dX8_away_24 (by decide) ?_
      exact W.iret (v := (-1)) hx hb hr (fun t ht hW => ⟨(-1), rfl, by first | exact Or.inr ⟨rfl, by omega⟩ | (exfalso; omega), ht⟩) (fun q h => by cases h) dX8_away_35
  ·
    refine W_top (y := .int 0) (by rw [hr_2]) ?_
    refine lv_if_ne (tgt := 9) hx hb dX8_away_4 (by decide) (fun c_7 => absurd (by decide) c_7) (fun c_7 => ?_)
    refine lv_iconst (v := (-1)) hx hb dX8_away_7 (by decide) ?_
    exact W.iret (v := (-1)) hx hb hr (fun t ht hW => ⟨(-1), rfl, by first | exact Or.inr ⟨rfl, by omega⟩ | (exfalso; omega), ht⟩) (fun q h => by cases h) dX8_away_8
