set_option maxHeartbeats 4000000 in
set_option maxRecDepth 100000 in
theorem c_X9_take (l : Launch) (D : va_G) (E : Nat → Nat) (k0 : Nat) (cm : Nat → Nat) (p0 : Int32)  : Met l yX9_take (wl yX9_take cX9_take 2 (some .int)) (RM 2 0 0) (rd_P D E [.ref k0, .int p0] [(k0, .inr (9, mF cm 0 0 0 0 0 0 0 0 0)), ((cm 3), .inl (E 0, 16, .inl (fun _ => -5)))]) (rd_Q (fun r => (r = (-2) ∧ (0 ≤ p0.toInt ∧ p0.toInt ≤ 15)) ∨ (r = (-1) ∧ ¬ (0 ≤ p0.toInt ∧ p0.toInt ≤ 15)))) 0 0 (fun _ => False) := by
  refine Met.ofW (cc := cX9_take) (maxL := 2) (ret := (some .int)) (by decide) rfl ?_
  intro p e s m args below meth c s₁ B hml hv
  obtain ⟨rfl, hP, hK⟩ := hv
  have hx := B.exec
  have hb := B.bytes
  have hr := B.returns
  have hts := atoms_spec (ws := wl yX9_take cX9_take 2 (some .int)) B.pre
  have htb : ∀ w ∈ tb, w.before _ s = true := fun w h => hts w (List.mem_cons_of_mem _ h)
  have hown : s.vm.findClass RX9 = some m.cls := findClass_of_methodNamed B.named
  have hlocks := B.notSynchronized
  have hP : va_P D vwCl [(k0, .inr (9, mF cm 0 0 0 0 0 0 0 0 0)), ((cm 3), .inl (E 0, 16, .inl (fun _ => -5)))] s.heap := hP
  have hl := lv_entry ([.ref k0, .int p0]) (n := 2) (Nat.le_of_ble_eq_true rfl)
  rw [lg_entry_eq]
  generalize (lg_sl ([.ref k0, .int p0]) ++ List.replicate (2 - (lg_sl ([.ref k0, .int p0])).length) Slot.unset).toArray = ls at hl ⊢
  have hl : lv_has ls 2 [(0, .ref k0), (1, .int p0)] := hl
  have lo_p0 := i_lo p0
  have hi_p0 := i_hi p0
  refine lv_iload_n hx hb dX9_take_0 rfl (lv_at hl 1 rfl) ?_
  refine callRS (rest := []) (As := [.int p0]) hx hb hml hown htb hK (c_X9_isPlace l D E p0 ) ok_X9_isPlace k_1182 k_1183 k_9 k_1184 ⟨(Nat.le_of_ble_eq_true rfl), (Nat.le_of_ble_eq_true rfl)⟩ ⟨(Nat.le_of_ble_eq_true rfl), (Nat.le_of_ble_eq_true rfl)⟩ hl.1 (Nat.le_of_ble_eq_true rfl) rfl rfl dX9_take_1 (hP.sub (ws' := ([] : va_W)) [] rfl) (fun r_2 hw_1 => ?_)
  rcases hw_1 with ⟨hr_2, hw_1⟩ | ⟨hr_2, hw_1⟩
  ·
    refine W_top (y := .int 1) (by rw [hr_2]) ?_
    refine lv_if_ne (tgt := 9) hx hb dX9_take_4 (by decide) (fun c_3 => ?_) (fun c_3 => absurd c_3 (by decide))
    refine lv_aload_n hx hb dX9_take_9 rfl (lv_at hl 0 rfl) ?_
    refine va_get (D := D) (ci := 9) (v := .ref (cm 3)) (C := RX9) (T := TX9) (N := 68) hx hb htb iX9 hown hK.1 hP 0 rfl rfl 3 (by decide) (htb _ k_961) (fun _ h9 => h9) rfl dX9_take_10 ?_
    refine lv_iload_n hx hb dX9_take_13 rfl (lv_at hl 1 rfl) ?_
    refine va_iald hx hb hK.1 hP 1 0 rfl rfl (g_in rfl (by omega) (by omega)) dX9_take_14 ?_
    refine W_top (y := .int (-5)) rfl ?_
    refine lv_bipush (v := (-5)) hx hb dX9_take_15 (by decide) ?_
    refine lv_icmp_ne (tgt := 23) hx hb dX9_take_17 (by decide) (fun c_4 => absurd (by decide) c_4) (fun c_4 => ?_)
    refine lv_bipush (v := (-2)) hx hb dX9_take_20 (by decide) ?_
    exact W.iret (v := (-2)) hx hb hr (fun t ht hW => ⟨(-2), rfl, by first | exact Or.inl ⟨rfl, by omega⟩ | (exfalso; omega), ht⟩) (fun q h => by cases h) dX9_take_22
  ·
    refine W_top (y := .int 0) (by rw [hr_2]) ?_
    refine lv_if_ne (tgt := 9) hx hb dX9_take_4 (by decide) (fun c_5 => absurd (by decide) c_5) (fun c_5 => ?_)
    refine lv_iconst (v := (-1)) hx hb dX9_take_7 (by decide) ?_
    exact W.iret (v := (-1)) hx hb hr (fun t ht hW => ⟨(-1), rfl, by first | exact Or.inr ⟨rfl, by omega⟩ | (exfalso; omega), ht⟩) (fun q h => by cases h) dX9_take_8
set_option maxHeartbeats 4000000 in
set_option maxRecDepth 100000 in
theorem c_X9_holds (l : Launch) (D : va_G) (E : Nat → Nat) (k0 : Nat) (cm : Nat → Nat) (p0 : Int32)  : Met l yX9_holds (wl yX9_holds cX9_holds 2 (some .int)) (RM 2 0 0) (rd_P D E [.ref k0, .int p0] [(k0, .inr (9, mF cm 0 0 0 0 0 0 0 0 0)), ((cm 3), .inl (E 0, 16, .inl (fun _ => -5)))]) (rd_Q (fun r => (r = (-5) ∧ (0 ≤ p0.toInt ∧ p0.toInt ≤ 15)) ∨ (r = (-1) ∧ ¬ (0 ≤ p0.toInt ∧ p0.toInt ≤ 15)))) 0 0 (fun _ => False) := by
  refine Met.ofW (cc := cX9_holds) (maxL := 2) (ret := (some .int)) (by decide) rfl ?_
  intro p e s m args below meth c s₁ B hml hv
  obtain ⟨rfl, hP, hK⟩ := hv
  have hx := B.exec
  have hb := B.bytes
  have hr := B.returns
  have hts := atoms_spec (ws := wl yX9_holds cX9_holds 2 (some .int)) B.pre
  have htb : ∀ w ∈ tb, w.before _ s = true := fun w h => hts w (List.mem_cons_of_mem _ h)
  have hown : s.vm.findClass RX9 = some m.cls := findClass_of_methodNamed B.named
  have hlocks := B.notSynchronized
  have hP : va_P D vwCl [(k0, .inr (9, mF cm 0 0 0 0 0 0 0 0 0)), ((cm 3), .inl (E 0, 16, .inl (fun _ => -5)))] s.heap := hP
  have hl := lv_entry ([.ref k0, .int p0]) (n := 2) (Nat.le_of_ble_eq_true rfl)
  rw [lg_entry_eq]
  generalize (lg_sl ([.ref k0, .int p0]) ++ List.replicate (2 - (lg_sl ([.ref k0, .int p0])).length) Slot.unset).toArray = ls at hl ⊢
  have hl : lv_has ls 2 [(0, .ref k0), (1, .int p0)] := hl
  have lo_p0 := i_lo p0
  have hi_p0 := i_hi p0
  refine lv_iload_n hx hb dX9_holds_0 rfl (lv_at hl 1 rfl) ?_
  refine callRS (rest := []) (As := [.int p0]) hx hb hml hown htb hK (c_X9_isPlace l D E p0 ) ok_X9_isPlace k_1182 k_1183 k_9 k_1184 ⟨(Nat.le_of_ble_eq_true rfl), (Nat.le_of_ble_eq_true rfl)⟩ ⟨(Nat.le_of_ble_eq_true rfl), (Nat.le_of_ble_eq_true rfl)⟩ hl.1 (Nat.le_of_ble_eq_true rfl) rfl rfl dX9_holds_1 (hP.sub (ws' := ([] : va_W)) [] rfl) (fun r_2 hw_1 => ?_)
  rcases hw_1 with ⟨hr_2, hw_1⟩ | ⟨hr_2, hw_1⟩
  ·
    refine W_top (y := .int 1) (by rw [hr_2]) ?_
    refine lv_if_eq (tgt := 16) hx hb dX9_holds_4 (by decide) (fun c_3 => absurd c_3 (by decide)) (fun c_3 => ?_)
    refine lv_aload_n hx hb dX9_holds_7 rfl (lv_at hl 0 rfl) ?_
    refine va_get (D := D) (ci := 9) (v := .ref (cm 3)) (C := RX9) (T := TX9) (N := 68) hx hb htb iX9 hown hK.1 hP 0 rfl rfl 3 (by decide) (htb _ k_961) (fun _ h9 => h9) rfl dX9_holds_8 ?_
    refine lv_iload_n hx hb dX9_holds_11 rfl (lv_at hl 1 rfl) ?_
    refine va_iald hx hb hK.1 hP 1 0 rfl rfl (g_in rfl (by omega) (by omega)) dX9_holds_12 ?_
    refine W_top (y := .int (-5)) rfl ?_
    refine lv_goto (tgt := 17) hx hb dX9_holds_13 (by decide) ?_
    exact W.iret (v := (-5)) hx hb hr (fun t ht hW => ⟨(-5), rfl, by first | exact Or.inl ⟨rfl, by omega⟩ | (exfalso; omega), ht⟩) (fun q h => by cases h) dX9_holds_17
  ·
    refine W_top (y := .int 0) (by rw [hr_2]) ?_
    refine lv_if_eq (tgt := 16) hx hb dX9_holds_4 (by decide) (fun c_4 => ?_) (fun c_4 => absurd (by decide) c_4)
    refine lv_iconst (v := (-1)) hx hb dX9_holds_16 (by decide) ?_
    exact W.iret (v := (-1)) hx hb hr (fun t ht hW => ⟨(-1), rfl, by first | exact Or.inr ⟨rfl, by omega⟩ | (exfalso; omega), ht⟩) (fun q h => by cases h) dX9_holds_17
set_option maxHeartbeats 4000000 in
set_option maxRecDepth 100000 in
theorem c_X9_read (l : Launch) (D : va_G) (E : Nat → Nat) (k0 : Nat) (cm : Nat → Nat) (p0 : Int32)  : Met l yX9_read (wl yX9_read cX9_read 2 (some .int)) (RM 2 0 0) (rd_P D E [.ref k0, .int p0] [(k0, .inr (9, mF cm 0 0 0 0 0 0 0 0 0)), ((cm 3), .inl (E 0, 16, .inl (fun _ => -5)))]) (rd_Q (fun r => (r = (-2000000000) ∧ True))) 0 0 (fun _ => False) := by
  refine Met.ofW (cc := cX9_read) (maxL := 2) (ret := (some .int)) (by decide) rfl ?_
  intro p e s m args below meth c s₁ B hml hv
  obtain ⟨rfl, hP, hK⟩ := hv
  have hx := B.exec
  have hb := B.bytes
  have hr := B.returns
  have hts := atoms_spec (ws := wl yX9_read cX9_read 2 (some .int)) B.pre
  have htb : ∀ w ∈ tb, w.before _ s = true := fun w h => hts w (List.mem_cons_of_mem _ h)
  have hown : s.vm.findClass RX9 = some m.cls := findClass_of_methodNamed B.named
  have hlocks := B.notSynchronized
  have hP : va_P D vwCl [(k0, .inr (9, mF cm 0 0 0 0 0 0 0 0 0)), ((cm 3), .inl (E 0, 16, .inl (fun _ => -5)))] s.heap := hP
  have hl := lv_entry ([.ref k0, .int p0]) (n := 2) (Nat.le_of_ble_eq_true rfl)
  rw [lg_entry_eq]
  generalize (lg_sl ([.ref k0, .int p0]) ++ List.replicate (2 - (lg_sl ([.ref k0, .int p0])).length) Slot.unset).toArray = ls at hl ⊢
  have hl : lv_has ls 2 [(0, .ref k0), (1, .int p0)] := hl
  have lo_p0 := i_lo p0
  have hi_p0 := i_hi p0
  refine lv_iload_n hx hb dX9_read_0 rfl (lv_at hl 1 rfl) ?_
  refine callRS (rest := []) (As := [.int p0]) hx hb hml hown htb hK (c_X9_isPlace l D E p0 ) ok_X9_isPlace k_1182 k_1183 k_9 k_1184 ⟨(Nat.le_of_ble_eq_true rfl), (Nat.le_of_ble_eq_true rfl)⟩ ⟨(Nat.le_of_ble_eq_true rfl), (Nat.le_of_ble_eq_true rfl)⟩ hl.1 (Nat.le_of_ble_eq_true rfl) rfl rfl dX9_read_1 (hP.sub (ws' := ([] : va_W)) [] rfl) (fun r_2 hw_1 => ?_)
  rcases hw_1 with ⟨hr_2, hw_1⟩ | ⟨hr_2, hw_1⟩
  ·
    refine W_top (y := .int 1) (by rw [hr_2]) ?_
    refine lv_if_eq (tgt := 27) hx hb dX9_read_4 (by decide) (fun c_3 => absurd c_3 (by decide)) (fun c_3 => ?_)
    refine lv_aload_n hx hb dX9_read_7 rfl (lv_at hl 0 rfl) ?_
    refine va_get (D := D) (ci := 9) (v := .ref (cm 3)) (C := RX9) (T := TX9) (N := 68) hx hb htb iX9 hown hK.1 hP 0 rfl rfl 3 (by decide) (htb _ k_961) (fun _ h9 => h9) rfl dX9_read_8 ?_
    refine lv_iload_n hx hb dX9_read_11 rfl (lv_at hl 1 rfl) ?_
    refine va_iald hx hb hK.1 hP 1 0 rfl rfl (g_in rfl (by omega) (by omega)) dX9_read_12 ?_
    refine W_top (y := .int (-5)) rfl ?_
    refine lv_iconst (v := 1) hx hb dX9_read_13 (by decide) ?_
    refine lv_icmp_eq (tgt := 32) hx hb dX9_read_14 (by decide) (fun c_4 => absurd c_4 (by decide)) (fun c_4 => ?_)
    refine lv_aload_n hx hb dX9_read_17 rfl (lv_at hl 0 rfl) ?_
    refine va_get (D := D) (ci := 9) (v := .ref (cm 3)) (C := RX9) (T := TX9) (N := 68) hx hb htb iX9 hown hK.1 hP 0 rfl rfl 3 (by decide) (htb _ k_961) (fun _ h9 => h9) rfl dX9_read_18 ?_
    refine lv_iload_n hx hb dX9_read_21 rfl (lv_at hl 1 rfl) ?_
    refine va_iald hx hb hK.1 hP 1 0 rfl rfl (g_in rfl (by omega) (by omega)) dX9_read_22 ?_
    refine W_top (y := .int (-5)) rfl ?_
    refine lv_iconst (v := 2) hx hb dX9_read_23 (by decide) ?_
    refine lv_icmp_eq (tgt := 32) hx hb dX9_read_24 (by decide) (fun c_5 => absurd c_5 (by decide)) (fun c_5 => ?_)
    refine lv_ldc hx hb hown (htb _ k_1205) dX9_read_27 ?_
    refine lv_goto (tgt := 38) hx hb dX9_read_29 (by decide) ?_
    exact W.iret (v := (-2000000000)) hx hb hr (fun t ht hW => ⟨(-2000000000), rfl, ⟨rfl, trivial⟩, ht⟩) (fun q h => by cases h) dX9_read_38
  ·
    refine W_top (y := .int 0) (by rw [hr_2]) ?_
    refine lv_if_eq (tgt := 27) hx hb dX9_read_4 (by decide) (fun c_6 => ?_) (fun c_6 => absurd (by decide) c_6)
    refine lv_ldc hx hb hown (htb _ k_1205) dX9_read_27 ?_
    refine lv_goto (tgt := 38) hx hb dX9_read_29 (by decide) ?_
    exact W.iret (v := (-2000000000)) hx hb hr (fun t ht hW => ⟨(-2000000000), rfl, ⟨rfl, trivial⟩, ht⟩) (fun q h => by cases h) dX9_read_38
set_option maxHeartbeats 4000000 in
set_option maxRecDepth 100000 in
theorem c_X9_compare (l : Launch) (D : va_G) (E : Nat → Nat) (k0 : Nat) (cm : Nat → Nat) (p0 : Int32) (p1 : Int32) (p2 : Int32) (p3 : Int32)  : Met l yX9_compare (wl yX9_compare cX9_compare 7 (some .int)) (RM 3 0 0) (rd_P D E [.ref k0, .int p0, .int p1, .int p2, .int p3] [(k0, .inr (9, mF cm 0 0 0 0 0 0 0 0 0)), ((cm 3), .inl (E 0, 16, .inl (fun _ => -5)))]) (rd_Q (fun r => (r = (-2) ∧ ((0 ≤ p0.toInt ∧ p0.toInt ≤ 15) ∧ (0 ≤ p1.toInt ∧ p1.toInt ≤ 0) ∧ (-100000 ≤ p2.toInt ∧ p2.toInt ≤ 100000) ∧ (0 ≤ p3.toInt ∧ p3.toInt ≤ 5))) ∨ (r = (-1) ∧ ¬ ((0 ≤ p0.toInt ∧ p0.toInt ≤ 15) ∧ (0 ≤ p1.toInt ∧ p1.toInt ≤ 0) ∧ (-100000 ≤ p2.toInt ∧ p2.toInt ≤ 100000) ∧ (0 ≤ p3.toInt ∧ p3.toInt ≤ 5))))) 0 0 (fun _ => False) := by
  refine Met.ofW (cc := cX9_compare) (maxL := 7) (ret := (some .int)) (by decide) rfl ?_
  intro p e s m args below meth c s₁ B hml hv
  obtain ⟨rfl, hP, hK⟩ := hv
  have hx := B.exec
  have hb := B.bytes
  have hr := B.returns
  have hts := atoms_spec (ws := wl yX9_compare cX9_compare 7 (some .int)) B.pre
  have htb : ∀ w ∈ tb, w.before _ s = true := fun w h => hts w (List.mem_cons_of_mem _ h)
  have hown : s.vm.findClass RX9 = some m.cls := findClass_of_methodNamed B.named
  have hlocks := B.notSynchronized
  have hP : va_P D vwCl [(k0, .inr (9, mF cm 0 0 0 0 0 0 0 0 0)), ((cm 3), .inl (E 0, 16, .inl (fun _ => -5)))] s.heap := hP
  have hl := lv_entry ([.ref k0, .int p0, .int p1, .int p2, .int p3]) (n := 7) (Nat.le_of_ble_eq_true rfl)
  rw [lg_entry_eq]
  generalize (lg_sl ([.ref k0, .int p0, .int p1, .int p2, .int p3]) ++ List.replicate (7 - (lg_sl ([.ref k0, .int p0, .int p1, .int p2, .int p3])).length) Slot.unset).toArray = ls at hl ⊢
  have hl : lv_has ls 7 [(0, .ref k0), (1, .int p0), (2, .int p1), (3, .int p2), (4, .int p3)] := hl
  have lo_p0 := i_lo p0
  have hi_p0 := i_hi p0
  have lo_p1 := i_lo p1
  have hi_p1 := i_hi p1
  have lo_p2 := i_lo p2
  have hi_p2 := i_hi p2
  have lo_p3 := i_lo p3
  have hi_p3 := i_hi p3
  refine lv_iload_n hx hb dX9_compare_0 rfl (lv_at hl 1 rfl) ?_
  refine callRS (rest := []) (As := [.int p0]) hx hb hml hown htb hK (c_X9_isPlace l D E p0 ) ok_X9_isPlace k_1182 k_1183 k_9 k_1184 ⟨(Nat.le_of_ble_eq_true rfl), (Nat.le_of_ble_eq_true rfl)⟩ ⟨(Nat.le_of_ble_eq_true rfl), (Nat.le_of_ble_eq_true rfl)⟩ hl.1 (Nat.le_of_ble_eq_true rfl) rfl rfl dX9_compare_1 (hP.sub (ws' := ([] : va_W)) [] rfl) (fun r_2 hw_1 => ?_)
  rcases hw_1 with ⟨hr_2, hw_1⟩ | ⟨hr_2, hw_1⟩
  ·
    refine W_top (y := .int 1) (by rw [hr_2]) ?_
    refine lv_if_eq (tgt := 40) hx hb dX9_compare_4 (by decide) (fun c_3 => absurd c_3 (by decide)) (fun c_3 => ?_)
    refine lv_iload_n hx hb dX9_compare_7 rfl (lv_at hl 2 rfl) ?_
    refine lv_iconst (v := 0) hx hb dX9_compare_8 (by decide) ?_
    refine lv_aload_n hx hb dX9_compare_9 rfl (lv_at hl 0 rfl) ?_
    refine va_get (D := D) (ci := 9) (v := .int 0) (C := RX9) (T := TX9) (N := 68) hx hb htb iX9 hown hK.1 hP 0 rfl rfl 1 (by decide) (htb _ k_959) (fun _ h9 => h9) rfl dX9_compare_10 ?_
    refine callRS (rest := []) (As := [.int p1, .int 0, .int 0]) hx hb hml hown htb hK (c_X9_in l D E p1 0 0 ) ok_X9_in k_1168 k_1169 k_9 k_1170 ⟨(Nat.le_of_ble_eq_true rfl), (Nat.le_of_ble_eq_true rfl)⟩ ⟨(Nat.le_of_ble_eq_true rfl), (Nat.le_of_ble_eq_true rfl)⟩ hl.1 (Nat.le_of_ble_eq_true rfl) rfl rfl dX9_compare_13 (hP.sub (ws' := ([] : va_W)) [] rfl) (fun r_5 hw_4 => ?_)
    rcases hw_4 with ⟨hr_5, hw_4⟩ | ⟨hr_5, hw_4⟩
    ·
      try simp only [t_0] at hw_4
      refine W_top (y := .int 1) (by rw [hr_5]) ?_
      refine lv_if_eq (tgt := 40) hx hb dX9_compare_16 (by decide) (fun c_6 => absurd c_6 (by decide)) (fun c_6 => ?_)
      refine lv_iload_n hx hb dX9_compare_19 rfl (lv_at hl 3 rfl) ?_
      refine lv_ldc hx hb hown (htb _ k_1210) dX9_compare_20 ?_
      refine lv_ldc hx hb hown (htb _ k_1211) dX9_compare_22 ?_
      refine callRS (rest := []) (As := [.int p2, .int (-100000), .int 100000]) hx hb hml hown htb hK (c_X9_in l D E p2 (-100000) 100000 ) ok_X9_in k_1168 k_1169 k_9 k_1170 ⟨(Nat.le_of_ble_eq_true rfl), (Nat.le_of_ble_eq_true rfl)⟩ ⟨(Nat.le_of_ble_eq_true rfl), (Nat.le_of_ble_eq_true rfl)⟩ hl.1 (Nat.le_of_ble_eq_true rfl) rfl rfl dX9_compare_24 (hP.sub (ws' := ([] : va_W)) [] rfl) (fun r_8 hw_7 => ?_)
      rcases hw_7 with ⟨hr_8, hw_7⟩ | ⟨hr_8, hw_7⟩
      ·
        try simp only [t_m100000, t_100000] at hw_7
        refine W_top (y := .int 1) (by rw [hr_8]) ?_
        refine lv_if_eq (tgt := 40) hx hb dX9_compare_27 (by decide) (fun c_9 => absurd c_9 (by decide)) (fun c_9 => ?_)
        refine lv_iload hx hb dX9_compare_30 (lv_at hl 4 rfl) ?_
        refine lv_iconst (v := 0) hx hb dX9_compare_32 (by decide) ?_
        refine lv_iconst (v := 5) hx hb dX9_compare_33 (by decide) ?_
        refine callRS (rest := []) (As := [.int p3, .int 0, .int 5]) hx hb hml hown htb hK (c_X9_in l D E p3 0 5 ) ok_X9_in k_1168 k_1169 k_9 k_1170 ⟨(Nat.le_of_ble_eq_true rfl), (Nat.le_of_ble_eq_true rfl)⟩ ⟨(Nat.le_of_ble_eq_true rfl), (Nat.le_of_ble_eq_true rfl)⟩ hl.1 (Nat.le_of_ble_eq_true rfl) rfl rfl dX9_compare_34 (hP.sub (ws' := ([] : va_W)) [] rfl) (fun r_11 hw_10 => ?_)
        rcases hw_10 with ⟨hr_11, hw_10⟩ | ⟨hr_11, hw_10⟩
        ·
          try simp only [t_0, t_5] at hw_10
          refine W_top (y := .int 1) (by rw [hr_11]) ?_
          refine lv_if_ne (tgt := 42) hx hb dX9_compare_37 (by decide) (fun c_12 => ?_) (fun c_12 => absurd c_12 (by decide))
          refine lv_aload_n hx hb dX9_compare_42 rfl (lv_at hl 0 rfl) ?_
          refine lv_iload_n hx hb dX9_compare_43 rfl (lv_at hl 1 rfl) ?_
          refine callRV (rest := []) (As := [.int p0]) hx hb hml hown htb hK (c_X9_watchAt l D E k0 cm p0 ) ok_X9_watchAt k_1212 k_1214 ks_41 k_9 k_1215 ⟨(Nat.le_of_ble_eq_true rfl), (Nat.le_of_ble_eq_true rfl)⟩ ⟨(Nat.le_of_ble_eq_true rfl), (Nat.le_of_ble_eq_true rfl)⟩ hl.1 (Nat.le_of_ble_eq_true rfl) rfl rfl dX9_compare_44 (hP.sub (ws' := [(k0, .inr (9, mF cm 0 0 0 0 0 0 0 0 0)), ((cm 3), .inl (E 0, 16, .inl (fun _ => -5)))]) [0, 1] rfl) rfl rfl 0 rfl (fun r_14 hw_13 => ?_)
          rcases hw_13 with ⟨hr_14, hw_13⟩ | ⟨hr_14, hw_13⟩
          ·
            refine W_top (y := .int (-2)) (by rw [hr_14]) ?_
            refine lv_istore (lv' := [(5, .int (-2)), (0, .ref k0), (1, .int p0), (2, .int p1), (3, .int p2), (4, .int p3)]) hx hb dX9_compare_47 hl (by decide) rfl (fun ls hl => ?_)
            refine lv_iload hx hb dX9_compare_49 (lv_at hl 0 rfl) ?_
            refine lv_if_ge (tgt := 57) hx hb dX9_compare_51 (by decide) (fun c_15 => absurd c_15 (by decide)) (fun c_15 => ?_)
            refine lv_iload hx hb dX9_compare_54 (lv_at hl 0 rfl) ?_
            exact W.iret (v := (-2)) hx hb hr (fun t ht hW => ⟨(-2), rfl, by first | exact Or.inl ⟨rfl, by omega⟩ | (exfalso; omega), ht⟩) (fun q h => by cases h) dX9_compare_56
          ·
            refine W_top (y := .int (-1)) (by rw [hr_14]) ?_
            refine lv_istore (lv' := [(5, .int (-1)), (0, .ref k0), (1, .int p0), (2, .int p1), (3, .int p2), (4, .int p3)]) hx hb dX9_compare_47 hl (by decide) rfl (fun ls hl => ?_)
            refine lv_iload hx hb dX9_compare_49 (lv_at hl 0 rfl) ?_
            refine lv_if_ge (tgt := 57) hx hb dX9_compare_51 (by decide) (fun c_16 => absurd c_16 (by decide)) (fun c_16 => ?_)
            refine lv_iload hx hb dX9_compare_54 (lv_at hl 0 rfl) ?_
            exact W.iret (v := (-1)) hx hb hr (fun t ht hW => ⟨(-1), rfl, by first | exact Or.inr ⟨rfl, by omega⟩ | (exfalso; omega), ht⟩) (fun q h => by cases h) dX9_compare_56
        ·
          try simp only [t_0, t_5] at hw_10
          refine W_top (y := .int 0) (by rw [hr_11]) ?_
          refine lv_if_ne (tgt := 42) hx hb dX9_compare_37 (by decide) (fun c_17 => absurd (by decide) c_17) (fun c_17 => ?_)
          refine lv_iconst (v := (-1)) hx hb dX9_compare_40 (by decide) ?_
          exact W.iret (v := (-1)) hx hb hr (fun t ht hW => ⟨(-1), rfl, by first | exact Or.inr ⟨rfl, by omega⟩ | (exfalso; omega), ht⟩) (fun q h => by cases h) dX9_compare_41
      ·
        try simp only [t_m100000, t_100000] at hw_7
        refine W_top (y := .int 0) (by rw [hr_8]) ?_
        refine lv_if_eq (tgt := 40) hx hb dX9_compare_27 (by decide) (fun c_18 => ?_) (fun c_18 => absurd (by decide) c_18)
        refine lv_iconst (v := (-1)) hx hb dX9_compare_40 (by decide) ?_
        exact W.iret (v := (-1)) hx hb hr (fun t ht hW => ⟨(-1), rfl, by first | exact Or.inr ⟨rfl, by omega⟩ | (exfalso; omega), ht⟩) (fun q h => by cases h) dX9_compare_41
    ·
      try simp only [t_0] at hw_4
      refine W_top (y := .int 0) (by rw [hr_5]) ?_
      refine lv_if_eq (tgt := 40) hx hb dX9_compare_16 (by decide) (fun c_19 => ?_) (fun c_19 => absurd (by decide) c_19)
      refine lv_iconst (v := (-1)) hx hb dX9_compare_40 (by decide) ?_
      exact W.iret (v := (-1)) hx hb hr (fun t ht hW => ⟨(-1), rfl, by first | exact Or.inr ⟨rfl, by omega⟩ | (exfalso; omega), ht⟩) (fun q h => by cases h) dX9_compare_41
  ·
    refine W_top (y := .int 0) (by rw [hr_2]) ?_
    refine lv_if_eq (tgt := 40) hx hb dX9_compare_4 (by decide) (fun c_20 => ?_) (fun c_20 => absurd (by decide) c_20)
    refine lv_iconst (v := (-1)) hx hb dX9_compare_40 (by decide) ?_
    exact W.iret (v := (-1)) hx hb hr (fun t ht hW => ⟨(-1), rfl, by first | exact Or.inr ⟨rfl, by omega⟩ | (exfalso; omega), ht⟩) (fun q h => by cases h) dX9_compare_41
set_option maxHeartbeats 4000000 in
set_option maxRecDepth 100000 in
theorem c_X9_error (l : Launch) (D : va_G) (E : Nat → Nat) (k0 : Nat) (cm : Nat → Nat) (p0 : Int32) (p1 : Int32) (p2 : Int32)  : Met l yX9_error (wl yX9_error cX9_error 4 (some .int)) (RM 3 0 0) (rd_P D E [.ref k0, .int p0, .int p1, .int p2] [(k0, .inr (9, mF cm 0 0 0 0 0 0 0 0 0)), ((cm 3), .inl (E 0, 16, .inl (fun _ => -5)))]) (rd_Q (fun r => (r = (-2000000000) ∧ True))) 0 0 (fun _ => False) := by
  refine Met.ofW (cc := cX9_error) (maxL := 4) (ret := (some .int)) (by decide) rfl ?_
  intro p e s m args below meth c s₁ B hml hv
  obtain ⟨rfl, hP, hK⟩ := hv
  have hx := B.exec
  have hb := B.bytes
  have hr := B.returns
  have hts := atoms_spec (ws := wl yX9_error cX9_error 4 (some .int)) B.pre
  have htb : ∀ w ∈ tb, w.before _ s = true := fun w h => hts w (List.mem_cons_of_mem _ h)
  have hown : s.vm.findClass RX9 = some m.cls := findClass_of_methodNamed B.named
  have hlocks := B.notSynchronized
  have hP : va_P D vwCl [(k0, .inr (9, mF cm 0 0 0 0 0 0 0 0 0)), ((cm 3), .inl (E 0, 16, .inl (fun _ => -5)))] s.heap := hP
  have hl := lv_entry ([.ref k0, .int p0, .int p1, .int p2]) (n := 4) (Nat.le_of_ble_eq_true rfl)
  rw [lg_entry_eq]
  generalize (lg_sl ([.ref k0, .int p0, .int p1, .int p2]) ++ List.replicate (4 - (lg_sl ([.ref k0, .int p0, .int p1, .int p2])).length) Slot.unset).toArray = ls at hl ⊢
  have hl : lv_has ls 4 [(0, .ref k0), (1, .int p0), (2, .int p1), (3, .int p2)] := hl
  have lo_p0 := i_lo p0
  have hi_p0 := i_hi p0
  have lo_p1 := i_lo p1
  have hi_p1 := i_hi p1
  have lo_p2 := i_lo p2
  have hi_p2 := i_hi p2
  refine lv_aload_n hx hb dX9_error_0 rfl (lv_at hl 0 rfl) ?_
  refine lv_iload_n hx hb dX9_error_1 rfl (lv_at hl 1 rfl) ?_
  refine callRV (rest := []) (As := [.int p0]) hx hb hml hown htb hK (c_X9_watchAt l D E k0 cm p0 ) ok_X9_watchAt k_1212 k_1214 ks_41 k_9 k_1215 ⟨(Nat.le_of_ble_eq_true rfl), (Nat.le_of_ble_eq_true rfl)⟩ ⟨(Nat.le_of_ble_eq_true rfl), (Nat.le_of_ble_eq_true rfl)⟩ hl.1 (Nat.le_of_ble_eq_true rfl) rfl rfl dX9_error_2 (hP.sub (ws' := [(k0, .inr (9, mF cm 0 0 0 0 0 0 0 0 0)), ((cm 3), .inl (E 0, 16, .inl (fun _ => -5)))]) [0, 1] rfl) rfl rfl 0 rfl (fun r_2 hw_1 => ?_)
  rcases hw_1 with ⟨hr_2, hw_1⟩ | ⟨hr_2, hw_1⟩
  ·
    refine W_top (y := .int (-2)) (by rw [hr_2]) ?_
    refine lv_if_lt (tgt := 22) hx hb dX9_error_5 (by decide) (fun c_3 => ?_) (fun c_3 => absurd (by decide) c_3)
    refine lv_ldc hx hb hown (htb _ k_1205) dX9_error_22 ?_
    refine lv_goto (tgt := 34) hx hb dX9_error_24 (by decide) ?_
    exact W.iret (v := (-2000000000)) hx hb hr (fun t ht hW => ⟨(-2000000000), rfl, ⟨rfl, trivial⟩, ht⟩) (fun q h => by cases h) dX9_error_34
  ·
    refine W_top (y := .int (-1)) (by rw [hr_2]) ?_
    refine lv_if_lt (tgt := 22) hx hb dX9_error_5 (by decide) (fun c_4 => ?_) (fun c_4 => absurd (by decide) c_4)
    refine lv_ldc hx hb hown (htb _ k_1205) dX9_error_22 ?_
    refine lv_goto (tgt := 34) hx hb dX9_error_24 (by decide) ?_
    exact W.iret (v := (-2000000000)) hx hb hr (fun t ht hW => ⟨(-2000000000), rfl, ⟨rfl, trivial⟩, ht⟩) (fun q h => by cases h) dX9_error_34
set_option maxHeartbeats 4000000 in
set_option maxRecDepth 100000 in
theorem c_X9_rate (l : Launch) (D : va_G) (E : Nat → Nat) (k0 : Nat) (cm : Nat → Nat) (p0 : Int32) (p1 : Int32) (p2 : Int32)  : Met l yX9_rate (wl yX9_rate cX9_rate 4 (some .int)) (RM 3 0 0) (rd_P D E [.ref k0, .int p0, .int p1, .int p2] [(k0, .inr (9, mF cm 0 0 0 0 0 0 0 0 0)), ((cm 3), .inl (E 0, 16, .inl (fun _ => -5)))]) (rd_Q (fun r => (r = (-2000000000) ∧ True))) 0 0 (fun _ => False) := by
  refine Met.ofW (cc := cX9_rate) (maxL := 4) (ret := (some .int)) (by decide) rfl ?_
  intro p e s m args below meth c s₁ B hml hv
  obtain ⟨rfl, hP, hK⟩ := hv
  have hx := B.exec
  have hb := B.bytes
  have hr := B.returns
  have hts := atoms_spec (ws := wl yX9_rate cX9_rate 4 (some .int)) B.pre
  have htb : ∀ w ∈ tb, w.before _ s = true := fun w h => hts w (List.mem_cons_of_mem _ h)
  have hown : s.vm.findClass RX9 = some m.cls := findClass_of_methodNamed B.named
  have hlocks := B.notSynchronized
  have hP : va_P D vwCl [(k0, .inr (9, mF cm 0 0 0 0 0 0 0 0 0)), ((cm 3), .inl (E 0, 16, .inl (fun _ => -5)))] s.heap := hP
  have hl := lv_entry ([.ref k0, .int p0, .int p1, .int p2]) (n := 4) (Nat.le_of_ble_eq_true rfl)
  rw [lg_entry_eq]
  generalize (lg_sl ([.ref k0, .int p0, .int p1, .int p2]) ++ List.replicate (4 - (lg_sl ([.ref k0, .int p0, .int p1, .int p2])).length) Slot.unset).toArray = ls at hl ⊢
  have hl : lv_has ls 4 [(0, .ref k0), (1, .int p0), (2, .int p1), (3, .int p2)] := hl
  have lo_p0 := i_lo p0
  have hi_p0 := i_hi p0
  have lo_p1 := i_lo p1
  have hi_p1 := i_hi p1
  have lo_p2 := i_lo p2
  have hi_p2 := i_hi p2
  refine lv_aload_n hx hb dX9_rate_0 rfl (lv_at hl 0 rfl) ?_
  refine lv_iload_n hx hb dX9_rate_1 rfl (lv_at hl 1 rfl) ?_
  refine callRV (rest := []) (As := [.int p0]) hx hb hml hown htb hK (c_X9_watchAt l D E k0 cm p0 ) ok_X9_watchAt k_1212 k_1214 ks_41 k_9 k_1215 ⟨(Nat.le_of_ble_eq_true rfl), (Nat.le_of_ble_eq_true rfl)⟩ ⟨(Nat.le_of_ble_eq_true rfl), (Nat.le_of_ble_eq_true rfl)⟩ hl.1 (Nat.le_of_ble_eq_true rfl) rfl rfl dX9_rate_2 (hP.sub (ws' := [(k0, .inr (9, mF cm 0 0 0 0 0 0 0 0 0)), ((cm 3), .inl (E 0, 16, .inl (fun _ => -5)))]) [0, 1] rfl) rfl rfl 0 rfl (fun r_2 hw_1 => ?_)
  rcases hw_1 with ⟨hr_2, hw_1⟩ | ⟨hr_2, hw_1⟩
  ·
    refine W_top (y := .int (-2)) (by rw [hr_2]) ?_
    refine lv_if_lt (tgt := 26) hx hb dX9_rate_5 (by decide) (fun c_3 => ?_) (fun c_3 => absurd (by decide) c_3)
    refine lv_ldc hx hb hown (htb _ k_1205) dX9_rate_26 ?_
    refine lv_goto (tgt := 38) hx hb dX9_rate_28 (by decide) ?_
    exact W.iret (v := (-2000000000)) hx hb hr (fun t ht hW => ⟨(-2000000000), rfl, ⟨rfl, trivial⟩, ht⟩) (fun q h => by cases h) dX9_rate_38
  ·
    refine W_top (y := .int (-1)) (by rw [hr_2]) ?_
    refine lv_if_lt (tgt := 26) hx hb dX9_rate_5 (by decide) (fun c_4 => ?_) (fun c_4 => absurd (by decide) c_4)
    refine lv_ldc hx hb hown (htb _ k_1205) dX9_rate_26 ?_
    refine lv_goto (tgt := 38) hx hb dX9_rate_28 (by decide) ?_
    exact W.iret (v := (-2000000000)) hx hb hr (fun t ht hW => ⟨(-2000000000), rfl, ⟨rfl, trivial⟩, ht⟩) (fun q h => by cases h) dX9_rate_38
set_option maxHeartbeats 4000000 in
set_option maxRecDepth 100000 in
theorem c_X9_repair (l : Launch) (D : va_G) (E : Nat → Nat) (k0 : Nat) (cm : Nat → Nat) (p0 : Int32) (p1 : Int32)  : Met l yX9_repair (wl yX9_repair cX9_repair 5 (some .int)) (RM 3 0 0) (rd_P D E [.ref k0, .int p0, .int p1] [(k0, .inr (9, mF cm 0 0 0 0 0 0 0 0 0)), ((cm 3), .inl (E 0, 16, .inl (fun _ => -5)))]) (rd_Q (fun r => (r = (-2) ∧ ((0 ≤ p0.toInt ∧ p0.toInt ≤ 15) ∧ (0 ≤ p1.toInt ∧ p1.toInt ≤ 0))) ∨ (r = (-1) ∧ ¬ ((0 ≤ p0.toInt ∧ p0.toInt ≤ 15) ∧ (0 ≤ p1.toInt ∧ p1.toInt ≤ 0))))) 0 0 (fun _ => False) := by
  refine Met.ofW (cc := cX9_repair) (maxL := 5) (ret := (some .int)) (by decide) rfl ?_
  intro p e s m args below meth c s₁ B hml hv
  obtain ⟨rfl, hP, hK⟩ := hv
  have hx := B.exec
  have hb := B.bytes
  have hr := B.returns
  have hts := atoms_spec (ws := wl yX9_repair cX9_repair 5 (some .int)) B.pre
  have htb : ∀ w ∈ tb, w.before _ s = true := fun w h => hts w (List.mem_cons_of_mem _ h)
  have hown : s.vm.findClass RX9 = some m.cls := findClass_of_methodNamed B.named
  have hlocks := B.notSynchronized
  have hP : va_P D vwCl [(k0, .inr (9, mF cm 0 0 0 0 0 0 0 0 0)), ((cm 3), .inl (E 0, 16, .inl (fun _ => -5)))] s.heap := hP
  have hl := lv_entry ([.ref k0, .int p0, .int p1]) (n := 5) (Nat.le_of_ble_eq_true rfl)
  rw [lg_entry_eq]
  generalize (lg_sl ([.ref k0, .int p0, .int p1]) ++ List.replicate (5 - (lg_sl ([.ref k0, .int p0, .int p1])).length) Slot.unset).toArray = ls at hl ⊢
  have hl : lv_has ls 5 [(0, .ref k0), (1, .int p0), (2, .int p1)] := hl
  have lo_p0 := i_lo p0
  have hi_p0 := i_hi p0
  have lo_p1 := i_lo p1
  have hi_p1 := i_hi p1
  refine lv_iload_n hx hb dX9_repair_0 rfl (lv_at hl 1 rfl) ?_
  refine callRS (rest := []) (As := [.int p0]) hx hb hml hown htb hK (c_X9_isPlace l D E p0 ) ok_X9_isPlace k_1182 k_1183 k_9 k_1184 ⟨(Nat.le_of_ble_eq_true rfl), (Nat.le_of_ble_eq_true rfl)⟩ ⟨(Nat.le_of_ble_eq_true rfl), (Nat.le_of_ble_eq_true rfl)⟩ hl.1 (Nat.le_of_ble_eq_true rfl) rfl rfl dX9_repair_1 (hP.sub (ws' := ([] : va_W)) [] rfl) (fun r_2 hw_1 => ?_)
  rcases hw_1 with ⟨hr_2, hw_1⟩ | ⟨hr_2, hw_1⟩
  ·
    refine W_top (y := .int 1) (by rw [hr_2]) ?_
    refine lv_if_eq (tgt := 19) hx hb dX9_repair_4 (by decide) (fun c_3 => absurd c_3 (by decide)) (fun c_3 => ?_)
    refine lv_iload_n hx hb dX9_repair_7 rfl (lv_at hl 2 rfl) ?_
    refine lv_iconst (v := 0) hx hb dX9_repair_8 (by decide) ?_
    refine lv_aload_n hx hb dX9_repair_9 rfl (lv_at hl 0 rfl) ?_
    refine va_get (D := D) (ci := 9) (v := .int 0) (C := RX9) (T := TX9) (N := 68) hx hb htb iX9 hown hK.1 hP 0 rfl rfl 1 (by decide) (htb _ k_959) (fun _ h9 => h9) rfl dX9_repair_10 ?_
    refine callRS (rest := []) (As := [.int p1, .int 0, .int 0]) hx hb hml hown htb hK (c_X9_in l D E p1 0 0 ) ok_X9_in k_1168 k_1169 k_9 k_1170 ⟨(Nat.le_of_ble_eq_true rfl), (Nat.le_of_ble_eq_true rfl)⟩ ⟨(Nat.le_of_ble_eq_true rfl), (Nat.le_of_ble_eq_true rfl)⟩ hl.1 (Nat.le_of_ble_eq_true rfl) rfl rfl dX9_repair_13 (hP.sub (ws' := ([] : va_W)) [] rfl) (fun r_5 hw_4 => ?_)
    rcases hw_4 with ⟨hr_5, hw_4⟩ | ⟨hr_5, hw_4⟩
    ·
      try simp only [t_0] at hw_4
      refine W_top (y := .int 1) (by rw [hr_5]) ?_
      refine lv_if_ne (tgt := 21) hx hb dX9_repair_16 (by decide) (fun c_6 => ?_) (fun c_6 => absurd c_6 (by decide))
      refine lv_aload_n hx hb dX9_repair_21 rfl (lv_at hl 0 rfl) ?_
      refine lv_iload_n hx hb dX9_repair_22 rfl (lv_at hl 1 rfl) ?_
      refine callRV (rest := []) (As := [.int p0]) hx hb hml hown htb hK (c_X9_watchAt l D E k0 cm p0 ) ok_X9_watchAt k_1212 k_1214 ks_41 k_9 k_1215 ⟨(Nat.le_of_ble_eq_true rfl), (Nat.le_of_ble_eq_true rfl)⟩ ⟨(Nat.le_of_ble_eq_true rfl), (Nat.le_of_ble_eq_true rfl)⟩ hl.1 (Nat.le_of_ble_eq_true rfl) rfl rfl dX9_repair_23 (hP.sub (ws' := [(k0, .inr (9, mF cm 0 0 0 0 0 0 0 0 0)), ((cm 3), .inl (E 0, 16, .inl (fun _ => -5)))]) [0, 1] rfl) rfl rfl 0 rfl (fun r_8 hw_7 => ?_)
      rcases hw_7 with ⟨hr_8, hw_7⟩ | ⟨hr_8, hw_7⟩
      ·
        refine W_top (y := .int (-2)) (by rw [hr_8]) ?_
        refine lv_istore_n (lv' := [(3, .int (-2)), (0, .ref k0), (1, .int p0), (2, .int p1)]) hx hb dX9_repair_26 rfl hl (by decide) rfl (fun ls hl => ?_)
        refine lv_iload_n hx hb dX9_repair_27 rfl (lv_at hl 0 rfl) ?_
        refine lv_if_ge (tgt := 33) hx hb dX9_repair_28 (by decide) (fun c_9 => absurd c_9 (by decide)) (fun c_9 => ?_)
        refine lv_iload_n hx hb dX9_repair_31 rfl (lv_at hl 0 rfl) ?_
        exact W.iret (v := (-2)) hx hb hr (fun t ht hW => ⟨(-2), rfl, by first | exact Or.inl ⟨rfl, by omega⟩ | (exfalso; omega), ht⟩) (fun q h => by cases h) dX9_repair_32
      ·
        refine W_top (y := .int (-1)) (by rw [hr_8]) ?_
        refine lv_istore_n (lv' := [(3, .int (-1)), (0, .ref k0), (1, .int p0), (2, .int p1)]) hx hb dX9_repair_26 rfl hl (by decide) rfl (fun ls hl => ?_)
        refine lv_iload_n hx hb dX9_repair_27 rfl (lv_at hl 0 rfl) ?_
        refine lv_if_ge (tgt := 33) hx hb dX9_repair_28 (by decide) (fun c_10 => absurd c_10 (by decide)) (fun c_10 => ?_)
        refine lv_iload_n hx hb dX9_repair_31 rfl (lv_at hl 0 rfl) ?_
        exact W.iret (v := (-1)) hx hb hr (fun t ht hW => ⟨(-1), rfl, by first | exact Or.inr ⟨rfl, by omega⟩ | (exfalso; omega), ht⟩) (fun q h => by cases h) dX9_repair_32
    ·
      try simp only [t_0] at hw_4
      refine W_top (y := .int 0) (by rw [hr_5]) ?_
      refine lv_if_ne (tgt := 21) hx hb dX9_repair_16 (by decide) (fun c_11 => absurd (by decide) c_11) (fun c_11 => ?_)
      refine lv_iconst (v := (-1)) hx hb dX9_repair_19 (by decide) ?_
      exact W.iret (v := (-1)) hx hb hr (fun t ht hW => ⟨(-1), rfl, by first | exact Or.inr ⟨rfl, by omega⟩ | (exfalso; omega), ht⟩) (fun q h => by cases h) dX9_repair_20
  ·
    refine W_top (y := .int 0) (by rw [hr_2]) ?_
    refine lv_if_eq (tgt := 19) hx hb dX9_repair_4 (by decide) (fun c_12 => ?_) (fun c_12 => absurd (by decide) c_12)
    refine lv_iconst (v := (-1)) hx hb dX9_repair_19 (by decide) ?_
    exact W.iret (v := (-1)) hx hb hr (fun t ht hW => ⟨(-1), rfl, by first | exact Or.inr ⟨rfl, by omega⟩ | (exfalso; omega), ht⟩) (fun q h => by cases h) dX9_repair_20
set_option maxHeartbeats 4000000 in
set_option maxRecDepth 100000 in
theorem c_X9_late (l : Launch) (D : va_G) (E : Nat → Nat) (k0 : Nat) (cm : Nat → Nat) (p0 : Int32) (p1 : Int32)  : Met l yX9_late (wl yX9_late cX9_late 5 (some .int)) (RM 3 0 0) (rd_P D E [.ref k0, .int p0, .int p1] [(k0, .inr (9, mF cm 0 0 0 0 0 0 0 0 0)), ((cm 3), .inl (E 0, 16, .inl (fun _ => -5)))]) (rd_Q (fun r => (r = (-2) ∧ ((0 ≤ p0.toInt ∧ p0.toInt ≤ 15) ∧ (0 ≤ p1.toInt ∧ p1.toInt ≤ 0))) ∨ (r = (-1) ∧ ¬ ((0 ≤ p0.toInt ∧ p0.toInt ≤ 15) ∧ (0 ≤ p1.toInt ∧ p1.toInt ≤ 0))))) 0 0 (fun _ => False) := by
  refine Met.ofW (cc := cX9_late) (maxL := 5) (ret := (some .int)) (by decide) rfl ?_
  intro p e s m args below meth c s₁ B hml hv
  obtain ⟨rfl, hP, hK⟩ := hv
  have hx := B.exec
  have hb := B.bytes
  have hr := B.returns
  have hts := atoms_spec (ws := wl yX9_late cX9_late 5 (some .int)) B.pre
  have htb : ∀ w ∈ tb, w.before _ s = true := fun w h => hts w (List.mem_cons_of_mem _ h)
  have hown : s.vm.findClass RX9 = some m.cls := findClass_of_methodNamed B.named
  have hlocks := B.notSynchronized
  have hP : va_P D vwCl [(k0, .inr (9, mF cm 0 0 0 0 0 0 0 0 0)), ((cm 3), .inl (E 0, 16, .inl (fun _ => -5)))] s.heap := hP
  have hl := lv_entry ([.ref k0, .int p0, .int p1]) (n := 5) (Nat.le_of_ble_eq_true rfl)
  rw [lg_entry_eq]
  generalize (lg_sl ([.ref k0, .int p0, .int p1]) ++ List.replicate (5 - (lg_sl ([.ref k0, .int p0, .int p1])).length) Slot.unset).toArray = ls at hl ⊢
  have hl : lv_has ls 5 [(0, .ref k0), (1, .int p0), (2, .int p1)] := hl
  have lo_p0 := i_lo p0
  have hi_p0 := i_hi p0
  have lo_p1 := i_lo p1
  have hi_p1 := i_hi p1
  refine lv_iload_n hx hb dX9_late_0 rfl (lv_at hl 1 rfl) ?_
  refine callRS (rest := []) (As := [.int p0]) hx hb hml hown htb hK (c_X9_isPlace l D E p0 ) ok_X9_isPlace k_1182 k_1183 k_9 k_1184 ⟨(Nat.le_of_ble_eq_true rfl), (Nat.le_of_ble_eq_true rfl)⟩ ⟨(Nat.le_of_ble_eq_true rfl), (Nat.le_of_ble_eq_true rfl)⟩ hl.1 (Nat.le_of_ble_eq_true rfl) rfl rfl dX9_late_1 (hP.sub (ws' := ([] : va_W)) [] rfl) (fun r_2 hw_1 => ?_)
  rcases hw_1 with ⟨hr_2, hw_1⟩ | ⟨hr_2, hw_1⟩
  ·
    refine W_top (y := .int 1) (by rw [hr_2]) ?_
    refine lv_if_eq (tgt := 19) hx hb dX9_late_4 (by decide) (fun c_3 => absurd c_3 (by decide)) (fun c_3 => ?_)
    refine lv_iload_n hx hb dX9_late_7 rfl (lv_at hl 2 rfl) ?_
    refine lv_iconst (v := 0) hx hb dX9_late_8 (by decide) ?_
    refine lv_aload_n hx hb dX9_late_9 rfl (lv_at hl 0 rfl) ?_
    refine va_get (D := D) (ci := 9) (v := .int 0) (C := RX9) (T := TX9) (N := 68) hx hb htb iX9 hown hK.1 hP 0 rfl rfl 1 (by decide) (htb _ k_959) (fun _ h9 => h9) rfl dX9_late_10 ?_
    refine callRS (rest := []) (As := [.int p1, .int 0, .int 0]) hx hb hml hown htb hK (c_X9_in l D E p1 0 0 ) ok_X9_in k_1168 k_1169 k_9 k_1170 ⟨(Nat.le_of_ble_eq_true rfl), (Nat.le_of_ble_eq_true rfl)⟩ ⟨(Nat.le_of_ble_eq_true rfl), (Nat.le_of_ble_eq_true rfl)⟩ hl.1 (Nat.le_of_ble_eq_true rfl) rfl rfl dX9_late_13 (hP.sub (ws' := ([] : va_W)) [] rfl) (fun r_5 hw_4 => ?_)
    rcases hw_4 with ⟨hr_5, hw_4⟩ | ⟨hr_5, hw_4⟩
    ·
      try simp only [t_0] at hw_4
      refine W_top (y := .int 1) (by rw [hr_5]) ?_
      refine lv_if_ne (tgt := 21) hx hb dX9_late_16 (by decide) (fun c_6 => ?_) (fun c_6 => absurd c_6 (by decide))
      refine lv_aload_n hx hb dX9_late_21 rfl (lv_at hl 0 rfl) ?_
      refine lv_iload_n hx hb dX9_late_22 rfl (lv_at hl 1 rfl) ?_
      refine callRV (rest := []) (As := [.int p0]) hx hb hml hown htb hK (c_X9_watchAt l D E k0 cm p0 ) ok_X9_watchAt k_1212 k_1214 ks_41 k_9 k_1215 ⟨(Nat.le_of_ble_eq_true rfl), (Nat.le_of_ble_eq_true rfl)⟩ ⟨(Nat.le_of_ble_eq_true rfl), (Nat.le_of_ble_eq_true rfl)⟩ hl.1 (Nat.le_of_ble_eq_true rfl) rfl rfl dX9_late_23 (hP.sub (ws' := [(k0, .inr (9, mF cm 0 0 0 0 0 0 0 0 0)), ((cm 3), .inl (E 0, 16, .inl (fun _ => -5)))]) [0, 1] rfl) rfl rfl 0 rfl (fun r_8 hw_7 => ?_)
      rcases hw_7 with ⟨hr_8, hw_7⟩ | ⟨hr_8, hw_7⟩
      ·
        refine W_top (y := .int (-2)) (by rw [hr_8]) ?_
        refine lv_istore_n (lv' := [(3, .int (-2)), (0, .ref k0), (1, .int p0), (2, .int p1)]) hx hb dX9_late_26 rfl hl (by decide) rfl (fun ls hl => ?_)
        refine lv_iload_n hx hb dX9_late_27 rfl (lv_at hl 0 rfl) ?_
        refine lv_if_ge (tgt := 33) hx hb dX9_late_28 (by decide) (fun c_9 => absurd c_9 (by decide)) (fun c_9 => ?_)
        refine lv_iload_n hx hb dX9_late_31 rfl (lv_at hl 0 rfl) ?_
        exact W.iret (v := (-2)) hx hb hr (fun t ht hW => ⟨(-2), rfl, by first | exact Or.inl ⟨rfl, by omega⟩ | (exfalso; omega), ht⟩) (fun q h => by cases h) dX9_late_32
      ·
        refine W_top (y := .int (-1)) (by rw [hr_8]) ?_
        refine lv_istore_n (lv' := [(3, .int (-1)), (0, .ref k0), (1, .int p0), (2, .int p1)]) hx hb dX9_late_26 rfl hl (by decide) rfl (fun ls hl => ?_)
        refine lv_iload_n hx hb dX9_late_27 rfl (lv_at hl 0 rfl) ?_
        refine lv_if_ge (tgt := 33) hx hb dX9_late_28 (by decide) (fun c_10 => absurd c_10 (by decide)) (fun c_10 => ?_)
        refine lv_iload_n hx hb dX9_late_31 rfl (lv_at hl 0 rfl) ?_
        exact W.iret (v := (-1)) hx hb hr (fun t ht hW => ⟨(-1), rfl, by first | exact Or.inr ⟨rfl, by omega⟩ | (exfalso; omega), ht⟩) (fun q h => by cases h) dX9_late_32
    ·
      try simp only [t_0] at hw_4
      refine W_top (y := .int 0) (by rw [hr_5]) ?_
      refine lv_if_ne (tgt := 21) hx hb dX9_late_16 (by decide) (fun c_11 => absurd (by decide) c_11) (fun c_11 => ?_)
      refine lv_iconst (v := (-1)) hx hb dX9_late_19 (by decide) ?_
      exact W.iret (v := (-1)) hx hb hr (fun t ht hW => ⟨(-1), rfl, by first | exact Or.inr ⟨rfl, by omega⟩ | (exfalso; omega), ht⟩) (fun q h => by cases h) dX9_late_20
  ·
    refine W_top (y := .int 0) (by rw [hr_2]) ?_
    refine lv_if_eq (tgt := 19) hx hb dX9_late_4 (by decide) (fun c_12 => ?_) (fun c_12 => absurd (by decide) c_12)
    refine lv_iconst (v := (-1)) hx hb dX9_late_19 (by decide) ?_
    exact W.iret (v := (-1)) hx hb hr (fun t ht hW => ⟨(-1), rfl, by first | exact Or.inr ⟨rfl, by omega⟩ | (exfalso; omega), ht⟩) (fun q h => by cases h) dX9_late_20
set_option maxHeartbeats 4000000 in
set_option maxRecDepth 100000 in
theorem c_X9_age (l : Launch) (D : va_G) (E : Nat → Nat) (k0 : Nat) (cm : Nat → Nat) (p0 : Int32) (p1 : Int32)  : Met l yX9_age (wl yX9_age cX9_age 4 (some .int)) (RM 3 0 0) (rd_P D E [.ref k0, .int p0, .int p1] [(k0, .inr (9, mF cm 0 0 0 0 0 0 0 0 0)), ((cm 3), .inl (E 0, 16, .inl (fun _ => -5)))]) (rd_Q (fun r => (r = (-2) ∧ ((0 ≤ p0.toInt ∧ p0.toInt ≤ 15) ∧ (0 ≤ p1.toInt ∧ p1.toInt ≤ 399))) ∨ (r = (-1) ∧ ¬ ((0 ≤ p0.toInt ∧ p0.toInt ≤ 15) ∧ (0 ≤ p1.toInt ∧ p1.toInt ≤ 399))))) 0 0 (fun _ => False) := by
  refine Met.ofW (cc := cX9_age) (maxL := 4) (ret := (some .int)) (by decide) rfl ?_
  intro p e s m args below meth c s₁ B hml hv
  obtain ⟨rfl, hP, hK⟩ := hv
  have hx := B.exec
  have hb := B.bytes
  have hr := B.returns
  have hts := atoms_spec (ws := wl yX9_age cX9_age 4 (some .int)) B.pre
  have htb : ∀ w ∈ tb, w.before _ s = true := fun w h => hts w (List.mem_cons_of_mem _ h)
  have hown : s.vm.findClass RX9 = some m.cls := findClass_of_methodNamed B.named
  have hlocks := B.notSynchronized
  have hP : va_P D vwCl [(k0, .inr (9, mF cm 0 0 0 0 0 0 0 0 0)), ((cm 3), .inl (E 0, 16, .inl (fun _ => -5)))] s.heap := hP
  have hl := lv_entry ([.ref k0, .int p0, .int p1]) (n := 4) (Nat.le_of_ble_eq_true rfl)
  rw [lg_entry_eq]
  generalize (lg_sl ([.ref k0, .int p0, .int p1]) ++ List.replicate (4 - (lg_sl ([.ref k0, .int p0, .int p1])).length) Slot.unset).toArray = ls at hl ⊢
  have hl : lv_has ls 4 [(0, .ref k0), (1, .int p0), (2, .int p1)] := hl
  have lo_p0 := i_lo p0
  have hi_p0 := i_hi p0
  have lo_p1 := i_lo p1
  have hi_p1 := i_hi p1
  refine lv_iload_n hx hb dX9_age_0 rfl (lv_at hl 1 rfl) ?_
  refine callRS (rest := []) (As := [.int p0]) hx hb hml hown htb hK (c_X9_isPlace l D E p0 ) ok_X9_isPlace k_1182 k_1183 k_9 k_1184 ⟨(Nat.le_of_ble_eq_true rfl), (Nat.le_of_ble_eq_true rfl)⟩ ⟨(Nat.le_of_ble_eq_true rfl), (Nat.le_of_ble_eq_true rfl)⟩ hl.1 (Nat.le_of_ble_eq_true rfl) rfl rfl dX9_age_1 (hP.sub (ws' := ([] : va_W)) [] rfl) (fun r_2 hw_1 => ?_)
  rcases hw_1 with ⟨hr_2, hw_1⟩ | ⟨hr_2, hw_1⟩
  ·
    refine W_top (y := .int 1) (by rw [hr_2]) ?_
    refine lv_if_eq (tgt := 14) hx hb dX9_age_4 (by decide) (fun c_3 => absurd c_3 (by decide)) (fun c_3 => ?_)
    refine lv_iload_n hx hb dX9_age_7 rfl (lv_at hl 2 rfl) ?_
    refine callRS (rest := []) (As := [.int p1]) hx hb hml hown htb hK (c_X9_isDay l D E p1 ) ok_X9_isDay k_1175 k_1176 k_9 k_1177 ⟨(Nat.le_of_ble_eq_true rfl), (Nat.le_of_ble_eq_true rfl)⟩ ⟨(Nat.le_of_ble_eq_true rfl), (Nat.le_of_ble_eq_true rfl)⟩ hl.1 (Nat.le_of_ble_eq_true rfl) rfl rfl dX9_age_8 (hP.sub (ws' := ([] : va_W)) [] rfl) (fun r_5 hw_4 => ?_)
    rcases hw_4 with ⟨hr_5, hw_4⟩ | ⟨hr_5, hw_4⟩
    ·
      refine W_top (y := .int 1) (by rw [hr_5]) ?_
      refine lv_if_ne (tgt := 16) hx hb dX9_age_11 (by decide) (fun c_6 => ?_) (fun c_6 => absurd c_6 (by decide))
      refine lv_aload_n hx hb dX9_age_16 rfl (lv_at hl 0 rfl) ?_
      refine lv_iload_n hx hb dX9_age_17 rfl (lv_at hl 1 rfl) ?_
      refine callRV (rest := []) (As := [.int p0]) hx hb hml hown htb hK (c_X9_watchAt l D E k0 cm p0 ) ok_X9_watchAt k_1212 k_1214 ks_41 k_9 k_1215 ⟨(Nat.le_of_ble_eq_true rfl), (Nat.le_of_ble_eq_true rfl)⟩ ⟨(Nat.le_of_ble_eq_true rfl), (Nat.le_of_ble_eq_true rfl)⟩ hl.1 (Nat.le_of_ble_eq_true rfl) rfl rfl dX9_age_18 (hP.sub (ws' := [(k0, .inr (9, mF cm 0 0 0 0 0 0 0 0 0)), ((cm 3), .inl (E 0, 16, .inl (fun _ => -5)))]) [0, 1] rfl) rfl rfl 0 rfl (fun r_8 hw_7 => ?_)
      rcases hw_7 with ⟨hr_8, hw_7⟩ | ⟨hr_8, hw_7⟩
      ·
        refine W_top (y := .int (-2)) (by rw [hr_8]) ?_
        refine lv_istore_n (lv' := [(3, .int (-2)), (0, .ref k0), (1, .int p0), (2, .int p1)]) hx hb dX9_age_21 rfl hl (by decide) rfl (fun ls hl => ?_)
        refine lv_iload_n hx hb dX9_age_22 rfl (lv_at hl 0 rfl) ?_
        refine lv_if_ge (tgt := 30) hx hb dX9_age_23 (by decide) (fun c_9 => absurd c_9 (by decide)) (fun c_9 => ?_)
        refine lv_iload_n hx hb dX9_age_26 rfl (lv_at hl 0 rfl) ?_
        refine lv_goto (tgt := 36) hx hb dX9_age_27 (by decide) ?_
        exact W.iret (v := (-2)) hx hb hr (fun t ht hW => ⟨(-2), rfl, by first | exact Or.inl ⟨rfl, by omega⟩ | (exfalso; omega), ht⟩) (fun q h => by cases h) dX9_age_36
      ·
        refine W_top (y := .int (-1)) (by rw [hr_8]) ?_
        refine lv_istore_n (lv' := [(3, .int (-1)), (0, .ref k0), (1, .int p0), (2, .int p1)]) hx hb dX9_age_21 rfl hl (by decide) rfl (fun ls hl => ?_)
        refine lv_iload_n hx hb dX9_age_22 rfl (lv_at hl 0 rfl) ?_
        refine lv_if_ge (tgt := 30) hx hb dX9_age_23 (by decide) (fun c_10 => absurd c_10 (by decide)) (fun c_10 => ?_)
        refine lv_iload_n hx hb dX9_age_26 rfl (lv_at hl 0 rfl) ?_
        refine lv_goto (tgt := 36) hx hb dX9_age_27 (by decide) ?_
        exact W.iret (v := (-1)) hx hb hr (fun t ht hW => ⟨(-1), rfl, by first | exact Or.inr ⟨rfl, by omega⟩ | (exfalso; omega), ht⟩) (fun q h => by cases h) dX9_age_36
    ·
      refine W_top (y := .int 0) (by rw [hr_5]) ?_
      refine lv_if_ne (tgt := 16) hx hb dX9_age_11 (by decide) (fun c_11 => absurd (by decide) c_11) (fun c_11 => ?_)
      refine lv_iconst (v := (-1)) hx hb dX9_age_14 (by decide) ?_
      exact W.iret (v := (-1)) hx hb hr (fun t ht hW => ⟨(-1), rfl, by first | exact Or.inr ⟨rfl, by omega⟩ | (exfalso; omega), ht⟩) (fun q h => by cases h) dX9_age_15
  ·
    refine W_top (y := .int 0) (by rw [hr_2]) ?_
    refine lv_if_eq (tgt := 14) hx hb dX9_age_4 (by decide) (fun c_12 => ?_) (fun c_12 => absurd (by decide) c_12)
    refine lv_iconst (v := (-1)) hx hb dX9_age_14 (by decide) ?_
    exact W.iret (v := (-1)) hx hb hr (fun t ht hW => ⟨(-1), rfl, by first | exact Or.inr ⟨rfl, by omega⟩ | (exfalso; omega), ht⟩) (fun q h => by cases h) dX9_age_15
set_option maxHeartbeats 4000000 in
set_option maxRecDepth 100000 in
theorem c_X9_changed (l : Launch) (D : va_G) (E : Nat → Nat) (k0 : Nat) (cm : Nat → Nat) (p0 : Int32) (p1 : Int32) (p2 : Int32) (p3 : Int32)  : Met l yX9_changed (wl yX9_changed cX9_changed 8 (some .int)) (RM 3 0 0) (rd_P D E [.ref k0, .int p0, .int p1, .int p2, .int p3] [(k0, .inr (9, mF cm 0 0 0 0 0 0 0 0 0)), ((cm 3), .inl (E 0, 16, .inl (fun _ => -5)))]) (rd_Q (fun r => (r = (-2) ∧ ((0 ≤ p0.toInt ∧ p0.toInt ≤ 15) ∧ (0 ≤ p1.toInt ∧ p2.toInt ≤ 399 ∧ p1.toInt < p2.toInt ∧ p2.toInt - p1.toInt ≤ 60) ∧ (-1 ≤ p3.toInt ∧ p3.toInt ≤ 399))) ∨ (r = (-1) ∧ ¬ ((0 ≤ p0.toInt ∧ p0.toInt ≤ 15) ∧ (0 ≤ p1.toInt ∧ p2.toInt ≤ 399 ∧ p1.toInt < p2.toInt ∧ p2.toInt - p1.toInt ≤ 60) ∧ (-1 ≤ p3.toInt ∧ p3.toInt ≤ 399))))) 0 0 (fun _ => False) := by
  refine Met.ofW (cc := cX9_changed) (maxL := 8) (ret := (some .int)) (by decide) rfl ?_
  intro p e s m args below meth c s₁ B hml hv
  obtain ⟨rfl, hP, hK⟩ := hv
  have hx := B.exec
  have hb := B.bytes
  have hr := B.returns
  have hts := atoms_spec (ws := wl yX9_changed cX9_changed 8 (some .int)) B.pre
  have htb : ∀ w ∈ tb, w.before _ s = true := fun w h => hts w (List.mem_cons_of_mem _ h)
  have hown : s.vm.findClass RX9 = some m.cls := findClass_of_methodNamed B.named
  have hlocks := B.notSynchronized
  have hP : va_P D vwCl [(k0, .inr (9, mF cm 0 0 0 0 0 0 0 0 0)), ((cm 3), .inl (E 0, 16, .inl (fun _ => -5)))] s.heap := hP
  have hl := lv_entry ([.ref k0, .int p0, .int p1, .int p2, .int p3]) (n := 8) (Nat.le_of_ble_eq_true rfl)
  rw [lg_entry_eq]
  generalize (lg_sl ([.ref k0, .int p0, .int p1, .int p2, .int p3]) ++ List.replicate (8 - (lg_sl ([.ref k0, .int p0, .int p1, .int p2, .int p3])).length) Slot.unset).toArray = ls at hl ⊢
  have hl : lv_has ls 8 [(0, .ref k0), (1, .int p0), (2, .int p1), (3, .int p2), (4, .int p3)] := hl
  have lo_p0 := i_lo p0
  have hi_p0 := i_hi p0
  have lo_p1 := i_lo p1
  have hi_p1 := i_hi p1
  have lo_p2 := i_lo p2
  have hi_p2 := i_hi p2
  have lo_p3 := i_lo p3
  have hi_p3 := i_hi p3
  refine lv_iload_n hx hb dX9_changed_0 rfl (lv_at hl 1 rfl) ?_
  refine callRS (rest := []) (As := [.int p0]) hx hb hml hown htb hK (c_X9_isPlace l D E p0 ) ok_X9_isPlace k_1182 k_1183 k_9 k_1184 ⟨(Nat.le_of_ble_eq_true rfl), (Nat.le_of_ble_eq_true rfl)⟩ ⟨(Nat.le_of_ble_eq_true rfl), (Nat.le_of_ble_eq_true rfl)⟩ hl.1 (Nat.le_of_ble_eq_true rfl) rfl rfl dX9_changed_1 (hP.sub (ws' := ([] : va_W)) [] rfl) (fun r_2 hw_1 => ?_)
  rcases hw_1 with ⟨hr_2, hw_1⟩ | ⟨hr_2, hw_1⟩
  ·
    refine W_top (y := .int 1) (by rw [hr_2]) ?_
    refine lv_if_eq (tgt := 23) hx hb dX9_changed_4 (by decide) (fun c_3 => absurd c_3 (by decide)) (fun c_3 => ?_)
    refine lv_iload_n hx hb dX9_changed_7 rfl (lv_at hl 2 rfl) ?_
    refine lv_iload_n hx hb dX9_changed_8 rfl (lv_at hl 3 rfl) ?_
    refine callRS (rest := []) (As := [.int p1, .int p2]) hx hb hml hown htb hK (c_X9_areDays l D E p1 p2 ) ok_X9_areDays k_1262 k_1263 k_9 k_1264 ⟨(Nat.le_of_ble_eq_true rfl), (Nat.le_of_ble_eq_true rfl)⟩ ⟨(Nat.le_of_ble_eq_true rfl), (Nat.le_of_ble_eq_true rfl)⟩ hl.1 (Nat.le_of_ble_eq_true rfl) rfl rfl dX9_changed_9 (hP.sub (ws' := ([] : va_W)) [] rfl) (fun r_5 hw_4 => ?_)
    rcases hw_4 with ⟨hr_5, hw_4⟩ | ⟨hr_5, hw_4⟩
    ·
      refine W_top (y := .int 1) (by rw [hr_5]) ?_
      refine lv_if_eq (tgt := 23) hx hb dX9_changed_12 (by decide) (fun c_6 => absurd c_6 (by decide)) (fun c_6 => ?_)
      refine lv_iload hx hb dX9_changed_15 (lv_at hl 4 rfl) ?_
      refine callRS (rest := []) (As := [.int p3]) hx hb hml hown htb hK (c_X9_isKnown l D E p3 ) ok_X9_isKnown k_1220 k_1221 k_9 k_1222 ⟨(Nat.le_of_ble_eq_true rfl), (Nat.le_of_ble_eq_true rfl)⟩ ⟨(Nat.le_of_ble_eq_true rfl), (Nat.le_of_ble_eq_true rfl)⟩ hl.1 (Nat.le_of_ble_eq_true rfl) rfl rfl dX9_changed_17 (hP.sub (ws' := ([] : va_W)) [] rfl) (fun r_8 hw_7 => ?_)
      rcases hw_7 with ⟨hr_8, hw_7⟩ | ⟨hr_8, hw_7⟩
      ·
        refine W_top (y := .int 1) (by rw [hr_8]) ?_
        refine lv_if_ne (tgt := 25) hx hb dX9_changed_20 (by decide) (fun c_9 => ?_) (fun c_9 => absurd c_9 (by decide))
        refine lv_aload_n hx hb dX9_changed_25 rfl (lv_at hl 0 rfl) ?_
        refine lv_iload_n hx hb dX9_changed_26 rfl (lv_at hl 1 rfl) ?_
        refine callRV (rest := []) (As := [.int p0]) hx hb hml hown htb hK (c_X9_watchAt l D E k0 cm p0 ) ok_X9_watchAt k_1212 k_1214 ks_41 k_9 k_1215 ⟨(Nat.le_of_ble_eq_true rfl), (Nat.le_of_ble_eq_true rfl)⟩ ⟨(Nat.le_of_ble_eq_true rfl), (Nat.le_of_ble_eq_true rfl)⟩ hl.1 (Nat.le_of_ble_eq_true rfl) rfl rfl dX9_changed_27 (hP.sub (ws' := [(k0, .inr (9, mF cm 0 0 0 0 0 0 0 0 0)), ((cm 3), .inl (E 0, 16, .inl (fun _ => -5)))]) [0, 1] rfl) rfl rfl 0 rfl (fun r_11 hw_10 => ?_)
        rcases hw_10 with ⟨hr_11, hw_10⟩ | ⟨hr_11, hw_10⟩
        ·
          refine W_top (y := .int (-2)) (by rw [hr_11]) ?_
          refine lv_istore (lv' := [(5, .int (-2)), (0, .ref k0), (1, .int p0), (2, .int p1), (3, .int p2), (4, .int p3)]) hx hb dX9_changed_30 hl (by decide) rfl (fun ls hl => ?_)
          refine lv_iload hx hb dX9_changed_32 (lv_at hl 0 rfl) ?_
          refine lv_if_ge (tgt := 40) hx hb dX9_changed_34 (by decide) (fun c_12 => absurd c_12 (by decide)) (fun c_12 => ?_)
          refine lv_iload hx hb dX9_changed_37 (lv_at hl 0 rfl) ?_
          exact W.iret (v := (-2)) hx hb hr (fun t ht hW => ⟨(-2), rfl, by first | exact Or.inl ⟨rfl, by omega⟩ | (exfalso; omega), ht⟩) (fun q h => by cases h) dX9_changed_39
        ·
          refine W_top (y := .int (-1)) (by rw [hr_11]) ?_
          refine lv_istore (lv' := [(5, .int (-1)), (0, .ref k0), (1, .int p0), (2, .int p1), (3, .int p2), (4, .int p3)]) hx hb dX9_changed_30 hl (by decide) rfl (fun ls hl => ?_)
          refine lv_iload hx hb dX9_changed_32 (lv_at hl 0 rfl) ?_
          refine lv_if_ge (tgt := 40) hx hb dX9_changed_34 (by decide) (fun c_13 => absurd c_13 (by decide)) (fun c_13 => ?_)
          refine lv_iload hx hb dX9_changed_37 (lv_at hl 0 rfl) ?_
          exact W.iret (v := (-1)) hx hb hr (fun t ht hW => ⟨(-1), rfl, by first | exact Or.inr ⟨rfl, by omega⟩ | (exfalso; omega), ht⟩) (fun q h => by cases h) dX9_changed_39
      ·
        refine W_top (y := .int 0) (by rw [hr_8]) ?_
        refine lv_if_ne (tgt := 25) hx hb dX9_changed_20 (by decide) (fun c_14 => absurd (by decide) c_14) (fun c_14 => ?_)
        refine lv_iconst (v := (-1)) hx hb dX9_changed_23 (by decide) ?_
        exact W.iret (v := (-1)) hx hb hr (fun t ht hW => ⟨(-1), rfl, by first | exact Or.inr ⟨rfl, by omega⟩ | (exfalso; omega), ht⟩) (fun q h => by cases h) dX9_changed_24
    ·
      refine W_top (y := .int 0) (by rw [hr_5]) ?_
      refine lv_if_eq (tgt := 23) hx hb dX9_changed_12 (by decide) (fun c_15 => ?_) (fun c_15 => absurd (by decide) c_15)
      refine lv_iconst (v := (-1)) hx hb dX9_changed_23 (by decide) ?_
      exact W.iret (v := (-1)) hx hb hr (fun t ht hW => ⟨(-1), rfl, by first | exact Or.inr ⟨rfl, by omega⟩ | (exfalso; omega), ht⟩) (fun q h => by cases h) dX9_changed_24
  ·
    refine W_top (y := .int 0) (by rw [hr_2]) ?_
    refine lv_if_eq (tgt := 23) hx hb dX9_changed_4 (by decide) (fun c_16 => ?_) (fun c_16 => absurd (by decide) c_16)
    refine lv_iconst (v := (-1)) hx hb dX9_changed_23 (by decide) ?_
    exact W.iret (v := (-1)) hx hb hr (fun t ht hW => ⟨(-1), rfl, by first | exact Or.inr ⟨rfl, by omega⟩ | (exfalso; omega), ht⟩) (fun q h => by cases h) dX9_changed_24
set_option maxHeartbeats 4000000 in
set_option maxRecDepth 100000 in
theorem c_X9_law (l : Launch) (D : va_G) (E : Nat → Nat) (k0 : Nat) (cm : Nat → Nat) (p0 : Int32) (p1 : Int32) (p2 : Int32)  : Met l yX9_law (wl yX9_law cX9_law 5 (some .int)) (RM 4 0 0) (rd_P D E [.ref k0, .int p0, .int p1, .int p2] [(k0, .inr (9, mF cm 0 0 0 0 0 0 0 0 0)), ((cm 3), .inl (E 0, 16, .inl (fun _ => -5)))]) (rd_Q (fun r => (r = (-2) ∧ ((0 ≤ p0.toInt ∧ p0.toInt ≤ 15) ∧ (0 ≤ p1.toInt ∧ p2.toInt ≤ 399 ∧ p1.toInt < p2.toInt ∧ p2.toInt - p1.toInt ≤ 60))) ∨ (r = (-1) ∧ ¬ ((0 ≤ p0.toInt ∧ p0.toInt ≤ 15) ∧ (0 ≤ p1.toInt ∧ p2.toInt ≤ 399 ∧ p1.toInt < p2.toInt ∧ p2.toInt - p1.toInt ≤ 60))))) 0 0 (fun _ => False) := by
  refine Met.ofW (cc := cX9_law) (maxL := 5) (ret := (some .int)) (by decide) rfl ?_
  intro p e s m args below meth c s₁ B hml hv
  obtain ⟨rfl, hP, hK⟩ := hv
  have hx := B.exec
  have hb := B.bytes
  have hr := B.returns
  have hts := atoms_spec (ws := wl yX9_law cX9_law 5 (some .int)) B.pre
  have htb : ∀ w ∈ tb, w.before _ s = true := fun w h => hts w (List.mem_cons_of_mem _ h)
  have hown : s.vm.findClass RX9 = some m.cls := findClass_of_methodNamed B.named
  have hlocks := B.notSynchronized
  have hP : va_P D vwCl [(k0, .inr (9, mF cm 0 0 0 0 0 0 0 0 0)), ((cm 3), .inl (E 0, 16, .inl (fun _ => -5)))] s.heap := hP
  have hl := lv_entry ([.ref k0, .int p0, .int p1, .int p2]) (n := 5) (Nat.le_of_ble_eq_true rfl)
  rw [lg_entry_eq]
  generalize (lg_sl ([.ref k0, .int p0, .int p1, .int p2]) ++ List.replicate (5 - (lg_sl ([.ref k0, .int p0, .int p1, .int p2])).length) Slot.unset).toArray = ls at hl ⊢
  have hl : lv_has ls 5 [(0, .ref k0), (1, .int p0), (2, .int p1), (3, .int p2)] := hl
  have lo_p0 := i_lo p0
  have hi_p0 := i_hi p0
  have lo_p1 := i_lo p1
  have hi_p1 := i_hi p1
  have lo_p2 := i_lo p2
  have hi_p2 := i_hi p2
  refine lv_aload_n hx hb dX9_law_0 rfl (lv_at hl 0 rfl) ?_
  refine lv_iload_n hx hb dX9_law_1 rfl (lv_at hl 1 rfl) ?_
  refine lv_iload_n hx hb dX9_law_2 rfl (lv_at hl 2 rfl) ?_
  refine lv_iload_n hx hb dX9_law_3 rfl (lv_at hl 3 rfl) ?_
  refine callRV (rest := []) (As := [.int p0, .int p1, .int p2]) hx hb hml hown htb hK (c_X9_asked l D E k0 cm p0 p1 p2 ) ok_X9_asked k_1269 k_1271 ks_45 k_9 k_1272 ⟨(Nat.le_of_ble_eq_true rfl), (Nat.le_of_ble_eq_true rfl)⟩ ⟨(Nat.le_of_ble_eq_true rfl), (Nat.le_of_ble_eq_true rfl)⟩ hl.1 (Nat.le_of_ble_eq_true rfl) rfl rfl dX9_law_4 (hP.sub (ws' := [(k0, .inr (9, mF cm 0 0 0 0 0 0 0 0 0)), ((cm 3), .inl (E 0, 16, .inl (fun _ => -5)))]) [0, 1] rfl) rfl rfl 0 rfl (fun r_2 hw_1 => ?_)
  rcases hw_1 with ⟨hr_2, hw_1⟩ | ⟨hr_2, hw_1⟩
  ·
    refine W_top (y := .int (-2)) (by rw [hr_2]) ?_
    refine lv_istore (lv' := [(4, .int (-2)), (0, .ref k0), (1, .int p0), (2, .int p1), (3, .int p2)]) hx hb dX9_law_7 hl (by decide) rfl (fun ls hl => ?_)
    refine lv_iload hx hb dX9_law_9 (lv_at hl 0 rfl) ?_
    refine lv_if_ge (tgt := 17) hx hb dX9_law_11 (by decide) (fun c_3 => absurd c_3 (by decide)) (fun c_3 => ?_)
    refine lv_iload hx hb dX9_law_14 (lv_at hl 0 rfl) ?_
    exact W.iret (v := (-2)) hx hb hr (fun t ht hW => ⟨(-2), rfl, by first | exact Or.inl ⟨rfl, by omega⟩ | (exfalso; omega), ht⟩) (fun q h => by cases h) dX9_law_16
  ·
    refine W_top (y := .int (-1)) (by rw [hr_2]) ?_
    refine lv_istore (lv' := [(4, .int (-1)), (0, .ref k0), (1, .int p0), (2, .int p1), (3, .int p2)]) hx hb dX9_law_7 hl (by decide) rfl (fun ls hl => ?_)
    refine lv_iload hx hb dX9_law_9 (lv_at hl 0 rfl) ?_
    refine lv_if_ge (tgt := 17) hx hb dX9_law_11 (by decide) (fun c_4 => absurd c_4 (by decide)) (fun c_4 => ?_)
    refine lv_iload hx hb dX9_law_14 (lv_at hl 0 rfl) ?_
    exact W.iret (v := (-1)) hx hb hr (fun t ht hW => ⟨(-1), rfl, by first | exact Or.inr ⟨rfl, by omega⟩ | (exfalso; omega), ht⟩) (fun q h => by cases h) dX9_law_16
set_option maxHeartbeats 4000000 in
set_option maxRecDepth 100000 in
theorem c_X9_terms (l : Launch) (D : va_G) (E : Nat → Nat) (k0 : Nat) (cm : Nat → Nat) (p0 : Int32) (p1 : Int32) (p2 : Int32)  : Met l yX9_terms (wl yX9_terms cX9_terms 5 (some .int)) (RM 4 0 0) (rd_P D E [.ref k0, .int p0, .int p1, .int p2] [(k0, .inr (9, mF cm 0 0 0 0 0 0 0 0 0)), ((cm 3), .inl (E 0, 16, .inl (fun _ => -5)))]) (rd_Q (fun r => (r = (-2) ∧ ((0 ≤ p0.toInt ∧ p0.toInt ≤ 15) ∧ (0 ≤ p1.toInt ∧ p2.toInt ≤ 399 ∧ p1.toInt < p2.toInt ∧ p2.toInt - p1.toInt ≤ 60))) ∨ (r = (-1) ∧ ¬ ((0 ≤ p0.toInt ∧ p0.toInt ≤ 15) ∧ (0 ≤ p1.toInt ∧ p2.toInt ≤ 399 ∧ p1.toInt < p2.toInt ∧ p2.toInt - p1.toInt ≤ 60))))) 0 0 (fun _ => False) := by
  refine Met.ofW (cc := cX9_terms) (maxL := 5) (ret := (some .int)) (by decide) rfl ?_
  intro p e s m args below meth c s₁ B hml hv
  obtain ⟨rfl, hP, hK⟩ := hv
  have hx := B.exec
  have hb := B.bytes
  have hr := B.returns
  have hts := atoms_spec (ws := wl yX9_terms cX9_terms 5 (some .int)) B.pre
  have htb : ∀ w ∈ tb, w.before _ s = true := fun w h => hts w (List.mem_cons_of_mem _ h)
  have hown : s.vm.findClass RX9 = some m.cls := findClass_of_methodNamed B.named
  have hlocks := B.notSynchronized
  have hP : va_P D vwCl [(k0, .inr (9, mF cm 0 0 0 0 0 0 0 0 0)), ((cm 3), .inl (E 0, 16, .inl (fun _ => -5)))] s.heap := hP
  have hl := lv_entry ([.ref k0, .int p0, .int p1, .int p2]) (n := 5) (Nat.le_of_ble_eq_true rfl)
  rw [lg_entry_eq]
  generalize (lg_sl ([.ref k0, .int p0, .int p1, .int p2]) ++ List.replicate (5 - (lg_sl ([.ref k0, .int p0, .int p1, .int p2])).length) Slot.unset).toArray = ls at hl ⊢
  have hl : lv_has ls 5 [(0, .ref k0), (1, .int p0), (2, .int p1), (3, .int p2)] := hl
  have lo_p0 := i_lo p0
  have hi_p0 := i_hi p0
  have lo_p1 := i_lo p1
  have hi_p1 := i_hi p1
  have lo_p2 := i_lo p2
  have hi_p2 := i_hi p2
  refine lv_aload_n hx hb dX9_terms_0 rfl (lv_at hl 0 rfl) ?_
  refine lv_iload_n hx hb dX9_terms_1 rfl (lv_at hl 1 rfl) ?_
  refine lv_iload_n hx hb dX9_terms_2 rfl (lv_at hl 2 rfl) ?_
  refine lv_iload_n hx hb dX9_terms_3 rfl (lv_at hl 3 rfl) ?_
  refine callRV (rest := []) (As := [.int p0, .int p1, .int p2]) hx hb hml hown htb hK (c_X9_asked l D E k0 cm p0 p1 p2 ) ok_X9_asked k_1269 k_1271 ks_45 k_9 k_1272 ⟨(Nat.le_of_ble_eq_true rfl), (Nat.le_of_ble_eq_true rfl)⟩ ⟨(Nat.le_of_ble_eq_true rfl), (Nat.le_of_ble_eq_true rfl)⟩ hl.1 (Nat.le_of_ble_eq_true rfl) rfl rfl dX9_terms_4 (hP.sub (ws' := [(k0, .inr (9, mF cm 0 0 0 0 0 0 0 0 0)), ((cm 3), .inl (E 0, 16, .inl (fun _ => -5)))]) [0, 1] rfl) rfl rfl 0 rfl (fun r_2 hw_1 => ?_)
  rcases hw_1 with ⟨hr_2, hw_1⟩ | ⟨hr_2, hw_1⟩
  ·
    refine W_top (y := .int (-2)) (by rw [hr_2]) ?_
    refine lv_istore (lv' := [(4, .int (-2)), (0, .ref k0), (1, .int p0), (2, .int p1), (3, .int p2)]) hx hb dX9_terms_7 hl (by decide) rfl (fun ls hl => ?_)
    refine lv_iload hx hb dX9_terms_9 (lv_at hl 0 rfl) ?_
    refine lv_if_ge (tgt := 17) hx hb dX9_terms_11 (by decide) (fun c_3 => absurd c_3 (by decide)) (fun c_3 => ?_)
    refine lv_iload hx hb dX9_terms_14 (lv_at hl 0 rfl) ?_
    exact W.iret (v := (-2)) hx hb hr (fun t ht hW => ⟨(-2), rfl, by first | exact Or.inl ⟨rfl, by omega⟩ | (exfalso; omega), ht⟩) (fun q h => by cases h) dX9_terms_16
  ·
    refine W_top (y := .int (-1)) (by rw [hr_2]) ?_
    refine lv_istore (lv' := [(4, .int (-1)), (0, .ref k0), (1, .int p0), (2, .int p1), (3, .int p2)]) hx hb dX9_terms_7 hl (by decide) rfl (fun ls hl => ?_)
    refine lv_iload hx hb dX9_terms_9 (lv_at hl 0 rfl) ?_
    refine lv_if_ge (tgt := 17) hx hb dX9_terms_11 (by decide) (fun c_4 => absurd c_4 (by decide)) (fun c_4 => ?_)
    refine lv_iload hx hb dX9_terms_14 (lv_at hl 0 rfl) ?_
    exact W.iret (v := (-1)) hx hb hr (fun t ht hW => ⟨(-1), rfl, by first | exact Or.inr ⟨rfl, by omega⟩ | (exfalso; omega), ht⟩) (fun q h => by cases h) dX9_terms_16
set_option maxHeartbeats 4000000 in
set_option maxRecDepth 100000 in
theorem c_X9_order (l : Launch) (D : va_G) (E : Nat → Nat) (k0 : Nat) (cm : Nat → Nat) (p0 : Int32) (p1 : Int32) (p2 : Int32)  : Met l yX9_order (wl yX9_order cX9_order 8 (some .int)) (RM 4 0 0) (rd_P D E [.ref k0, .int p0, .int p1, .int p2] [(k0, .inr (9, mF cm 0 0 0 0 0 0 0 0 0)), ((cm 3), .inl (E 0, 16, .inl (fun _ => -5)))]) (rd_Q (fun r => (r = (-2) ∧ ((0 ≤ p0.toInt ∧ p0.toInt ≤ 15) ∧ (0 ≤ p1.toInt ∧ p2.toInt ≤ 399 ∧ p1.toInt < p2.toInt ∧ p2.toInt - p1.toInt ≤ 60))) ∨ (r = (-1) ∧ ¬ ((0 ≤ p0.toInt ∧ p0.toInt ≤ 15) ∧ (0 ≤ p1.toInt ∧ p2.toInt ≤ 399 ∧ p1.toInt < p2.toInt ∧ p2.toInt - p1.toInt ≤ 60))))) 0 0 (fun _ => False) := by
  refine Met.ofW (cc := cX9_order) (maxL := 8) (ret := (some .int)) (by decide) rfl ?_
  intro p e s m args below meth c s₁ B hml hv
  obtain ⟨rfl, hP, hK⟩ := hv
  have hx := B.exec
  have hb := B.bytes
  have hr := B.returns
  have hts := atoms_spec (ws := wl yX9_order cX9_order 8 (some .int)) B.pre
  have htb : ∀ w ∈ tb, w.before _ s = true := fun w h => hts w (List.mem_cons_of_mem _ h)
  have hown : s.vm.findClass RX9 = some m.cls := findClass_of_methodNamed B.named
  have hlocks := B.notSynchronized
  have hP : va_P D vwCl [(k0, .inr (9, mF cm 0 0 0 0 0 0 0 0 0)), ((cm 3), .inl (E 0, 16, .inl (fun _ => -5)))] s.heap := hP
  have hl := lv_entry ([.ref k0, .int p0, .int p1, .int p2]) (n := 8) (Nat.le_of_ble_eq_true rfl)
  rw [lg_entry_eq]
  generalize (lg_sl ([.ref k0, .int p0, .int p1, .int p2]) ++ List.replicate (8 - (lg_sl ([.ref k0, .int p0, .int p1, .int p2])).length) Slot.unset).toArray = ls at hl ⊢
  have hl : lv_has ls 8 [(0, .ref k0), (1, .int p0), (2, .int p1), (3, .int p2)] := hl
  have lo_p0 := i_lo p0
  have hi_p0 := i_hi p0
  have lo_p1 := i_lo p1
  have hi_p1 := i_hi p1
  have lo_p2 := i_lo p2
  have hi_p2 := i_hi p2
  refine lv_aload_n hx hb dX9_order_0 rfl (lv_at hl 0 rfl) ?_
  refine lv_iload_n hx hb dX9_order_1 rfl (lv_at hl 1 rfl) ?_
  refine lv_iload_n hx hb dX9_order_2 rfl (lv_at hl 2 rfl) ?_
  refine lv_iload_n hx hb dX9_order_3 rfl (lv_at hl 3 rfl) ?_
  refine callRV (rest := []) (As := [.int p0, .int p1, .int p2]) hx hb hml hown htb hK (c_X9_asked l D E k0 cm p0 p1 p2 ) ok_X9_asked k_1269 k_1271 ks_45 k_9 k_1272 ⟨(Nat.le_of_ble_eq_true rfl), (Nat.le_of_ble_eq_true rfl)⟩ ⟨(Nat.le_of_ble_eq_true rfl), (Nat.le_of_ble_eq_true rfl)⟩ hl.1 (Nat.le_of_ble_eq_true rfl) rfl rfl dX9_order_4 (hP.sub (ws' := [(k0, .inr (9, mF cm 0 0 0 0 0 0 0 0 0)), ((cm 3), .inl (E 0, 16, .inl (fun _ => -5)))]) [0, 1] rfl) rfl rfl 0 rfl (fun r_2 hw_1 => ?_)
  rcases hw_1 with ⟨hr_2, hw_1⟩ | ⟨hr_2, hw_1⟩
  ·
    refine W_top (y := .int (-2)) (by rw [hr_2]) ?_
    refine lv_istore (lv' := [(4, .int (-2)), (0, .ref k0), (1, .int p0), (2, .int p1), (3, .int p2)]) hx hb dX9_order_7 hl (by decide) rfl (fun ls hl => ?_)
    refine lv_iload hx hb dX9_order_9 (lv_at hl 0 rfl) ?_
    refine lv_if_ge (tgt := 17) hx hb dX9_order_11 (by decide) (fun c_3 => absurd c_3 (by decide)) (fun c_3 => ?_)
    refine lv_iload hx hb dX9_order_14 (lv_at hl 0 rfl) ?_
    exact W.iret (v := (-2)) hx hb hr (fun t ht hW => ⟨(-2), rfl, by first | exact Or.inl ⟨rfl, by omega⟩ | (exfalso; omega), ht⟩) (fun q h => by cases h) dX9_order_16
  ·
    refine W_top (y := .int (-1)) (by rw [hr_2]) ?_
    refine lv_istore (lv' := [(4, .int (-1)), (0, .ref k0), (1, .int p0), (2, .int p1), (3, .int p2)]) hx hb dX9_order_7 hl (by decide) rfl (fun ls hl => ?_)
    refine lv_iload hx hb dX9_order_9 (lv_at hl 0 rfl) ?_
    refine lv_if_ge (tgt := 17) hx hb dX9_order_11 (by decide) (fun c_4 => absurd c_4 (by decide)) (fun c_4 => ?_)
    refine lv_iload hx hb dX9_order_14 (lv_at hl 0 rfl) ?_
    exact W.iret (v := (-1)) hx hb hr (fun t ht hW => ⟨(-1), rfl, by first | exact Or.inr ⟨rfl, by omega⟩ | (exfalso; omega), ht⟩) (fun q h => by cases h) dX9_order_16
set_option maxHeartbeats 4000000 in
set_option maxRecDepth 100000 in
theorem c_X9_foretold (l : Launch) (D : va_G) (E : Nat → Nat) (k0 : Nat) (cm : Nat → Nat) (p0 : Int32) (p1 : Int32) (p2 : Int32) (p3 : Int32) (p4 : Int32)  : Met l yX9_foretold (wl yX9_foretold cX9_foretold 10 (some .int)) (RM 4 0 0) (rd_P D E [.ref k0, .int p0, .int p1, .int p2, .int p3, .int p4] [(k0, .inr (9, mF cm 0 0 0 0 0 0 0 0 0)), ((cm 3), .inl (E 0, 16, .inl (fun _ => -5)))]) (rd_Q (fun r => (r = (-2000000000) ∧ True))) 0 0 (fun _ => False) := by
  refine Met.ofW (cc := cX9_foretold) (maxL := 10) (ret := (some .int)) (by decide) rfl ?_
  intro p e s m args below meth c s₁ B hml hv
  obtain ⟨rfl, hP, hK⟩ := hv
  have hx := B.exec
  have hb := B.bytes
  have hr := B.returns
  have hts := atoms_spec (ws := wl yX9_foretold cX9_foretold 10 (some .int)) B.pre
  have htb : ∀ w ∈ tb, w.before _ s = true := fun w h => hts w (List.mem_cons_of_mem _ h)
  have hown : s.vm.findClass RX9 = some m.cls := findClass_of_methodNamed B.named
  have hlocks := B.notSynchronized
  have hP : va_P D vwCl [(k0, .inr (9, mF cm 0 0 0 0 0 0 0 0 0)), ((cm 3), .inl (E 0, 16, .inl (fun _ => -5)))] s.heap := hP
  have hl := lv_entry ([.ref k0, .int p0, .int p1, .int p2, .int p3, .int p4]) (n := 10) (Nat.le_of_ble_eq_true rfl)
  rw [lg_entry_eq]
  generalize (lg_sl ([.ref k0, .int p0, .int p1, .int p2, .int p3, .int p4]) ++ List.replicate (10 - (lg_sl ([.ref k0, .int p0, .int p1, .int p2, .int p3, .int p4])).length) Slot.unset).toArray = ls at hl ⊢
  have hl : lv_has ls 10 [(0, .ref k0), (1, .int p0), (2, .int p1), (3, .int p2), (4, .int p3), (5, .int p4)] := hl
  have lo_p0 := i_lo p0
  have hi_p0 := i_hi p0
  have lo_p1 := i_lo p1
  have hi_p1 := i_hi p1
  have lo_p2 := i_lo p2
  have hi_p2 := i_hi p2
  have lo_p3 := i_lo p3
  have hi_p3 := i_hi p3
  have lo_p4 := i_lo p4
  have hi_p4 := i_hi p4
  refine lv_aload_n hx hb dX9_foretold_0 rfl (lv_at hl 0 rfl) ?_
  refine lv_iload_n hx hb dX9_foretold_1 rfl (lv_at hl 1 rfl) ?_
  refine lv_iload_n hx hb dX9_foretold_2 rfl (lv_at hl 2 rfl) ?_
  refine lv_iload_n hx hb dX9_foretold_3 rfl (lv_at hl 3 rfl) ?_
  refine callRV (rest := []) (As := [.int p0, .int p1, .int p2]) hx hb hml hown htb hK (c_X9_asked l D E k0 cm p0 p1 p2 ) ok_X9_asked k_1269 k_1271 ks_45 k_9 k_1272 ⟨(Nat.le_of_ble_eq_true rfl), (Nat.le_of_ble_eq_true rfl)⟩ ⟨(Nat.le_of_ble_eq_true rfl), (Nat.le_of_ble_eq_true rfl)⟩ hl.1 (Nat.le_of_ble_eq_true rfl) rfl rfl dX9_foretold_4 (hP.sub (ws' := [(k0, .inr (9, mF cm 0 0 0 0 0 0 0 0 0)), ((cm 3), .inl (E 0, 16, .inl (fun _ => -5)))]) [0, 1] rfl) rfl rfl 0 rfl (fun r_2 hw_1 => ?_)
  rcases hw_1 with ⟨hr_2, hw_1⟩ | ⟨hr_2, hw_1⟩
  ·
    refine W_top (y := .int (-2)) (by rw [hr_2]) ?_
    refine lv_if_lt (tgt := 34) hx hb dX9_foretold_7 (by decide) (fun c_3 => ?_) (fun c_3 => absurd (by decide) c_3)
    refine lv_ldc hx hb hown (htb _ k_1205) dX9_foretold_34 ?_
    exact W.iret (v := (-2000000000)) hx hb hr (fun t ht hW => ⟨(-2000000000), rfl, ⟨rfl, trivial⟩, ht⟩) (fun q h => by cases h) dX9_foretold_36
  ·
    refine W_top (y := .int (-1)) (by rw [hr_2]) ?_
    refine lv_if_lt (tgt := 34) hx hb dX9_foretold_7 (by decide) (fun c_4 => ?_) (fun c_4 => absurd (by decide) c_4)
    refine lv_ldc hx hb hown (htb _ k_1205) dX9_foretold_34 ?_
    exact W.iret (v := (-2000000000)) hx hb hr (fun t ht hW => ⟨(-2000000000), rfl, ⟨rfl, trivial⟩, ht⟩) (fun q h => by cases h) dX9_foretold_36
set_option maxHeartbeats 4000000 in
set_option maxRecDepth 100000 in
theorem c_X9_trial (l : Launch) (D : va_G) (E : Nat → Nat) (k0 : Nat) (cm : Nat → Nat) (p0 : Int32) (p1 : Int32) (p2 : Int32)  : Met l yX9_trial (wl yX9_trial cX9_trial 4 (some .int)) (RM 4 0 0) (rd_P D E [.ref k0, .int p0, .int p1, .int p2] [(k0, .inr (9, mF cm 0 0 0 0 0 0 0 0 0)), ((cm 3), .inl (E 0, 16, .inl (fun _ => -5)))]) (rd_Q (fun r => (r = (-2000000000) ∧ True))) 0 0 (fun _ => False) := by
  refine Met.ofW (cc := cX9_trial) (maxL := 4) (ret := (some .int)) (by decide) rfl ?_
  intro p e s m args below meth c s₁ B hml hv
  obtain ⟨rfl, hP, hK⟩ := hv
  have hx := B.exec
  have hb := B.bytes
  have hr := B.returns
  have hts := atoms_spec (ws := wl yX9_trial cX9_trial 4 (some .int)) B.pre
  have htb : ∀ w ∈ tb, w.before _ s = true := fun w h => hts w (List.mem_cons_of_mem _ h)
  have hown : s.vm.findClass RX9 = some m.cls := findClass_of_methodNamed B.named
  have hlocks := B.notSynchronized
  have hP : va_P D vwCl [(k0, .inr (9, mF cm 0 0 0 0 0 0 0 0 0)), ((cm 3), .inl (E 0, 16, .inl (fun _ => -5)))] s.heap := hP
  have hl := lv_entry ([.ref k0, .int p0, .int p1, .int p2]) (n := 4) (Nat.le_of_ble_eq_true rfl)
  rw [lg_entry_eq]
  generalize (lg_sl ([.ref k0, .int p0, .int p1, .int p2]) ++ List.replicate (4 - (lg_sl ([.ref k0, .int p0, .int p1, .int p2])).length) Slot.unset).toArray = ls at hl ⊢
  have hl : lv_has ls 4 [(0, .ref k0), (1, .int p0), (2, .int p1), (3, .int p2)] := hl
  have lo_p0 := i_lo p0
  have hi_p0 := i_hi p0
  have lo_p1 := i_lo p1
  have hi_p1 := i_hi p1
  have lo_p2 := i_lo p2
  have hi_p2 := i_hi p2
  refine lv_aload_n hx hb dX9_trial_0 rfl (lv_at hl 0 rfl) ?_
  refine lv_iload_n hx hb dX9_trial_1 rfl (lv_at hl 1 rfl) ?_
  refine lv_iload_n hx hb dX9_trial_2 rfl (lv_at hl 2 rfl) ?_
  refine lv_iload_n hx hb dX9_trial_3 rfl (lv_at hl 3 rfl) ?_
  refine callRV (rest := []) (As := [.int p0, .int p1, .int p2]) hx hb hml hown htb hK (c_X9_asked l D E k0 cm p0 p1 p2 ) ok_X9_asked k_1269 k_1271 ks_45 k_9 k_1272 ⟨(Nat.le_of_ble_eq_true rfl), (Nat.le_of_ble_eq_true rfl)⟩ ⟨(Nat.le_of_ble_eq_true rfl), (Nat.le_of_ble_eq_true rfl)⟩ hl.1 (Nat.le_of_ble_eq_true rfl) rfl rfl dX9_trial_4 (hP.sub (ws' := [(k0, .inr (9, mF cm 0 0 0 0 0 0 0 0 0)), ((cm 3), .inl (E 0, 16, .inl (fun _ => -5)))]) [0, 1] rfl) rfl rfl 0 rfl (fun r_2 hw_1 => ?_)
  rcases hw_1 with ⟨hr_2, hw_1⟩ | ⟨hr_2, hw_1⟩
  ·
    refine W_top (y := .int (-2)) (by rw [hr_2]) ?_
    refine lv_if_ge (tgt := 15) hx hb dX9_trial_7 (by decide) (fun c_3 => absurd c_3 (by decide)) (fun c_3 => ?_)
    refine lv_ldc hx hb hown (htb _ k_1205) dX9_trial_10 ?_
    refine lv_goto (tgt := 22) hx hb dX9_trial_12 (by decide) ?_
    exact W.iret (v := (-2000000000)) hx hb hr (fun t ht hW => ⟨(-2000000000), rfl, ⟨rfl, trivial⟩, ht⟩) (fun q h => by cases h) dX9_trial_22
  ·
    refine W_top (y := .int (-1)) (by rw [hr_2]) ?_
    refine lv_if_ge (tgt := 15) hx hb dX9_trial_7 (by decide) (fun c_4 => absurd c_4 (by decide)) (fun c_4 => ?_)
    refine lv_ldc hx hb hown (htb _ k_1205) dX9_trial_10 ?_
    refine lv_goto (tgt := 22) hx hb dX9_trial_12 (by decide) ?_
    exact W.iret (v := (-2000000000)) hx hb hr (fun t ht hW => ⟨(-2000000000), rfl, ⟨rfl, trivial⟩, ht⟩) (fun q h => by cases h) dX9_trial_22
set_option maxHeartbeats 4000000 in
set_option maxRecDepth 100000 in
theorem c_X9_jump (l : Launch) (D : va_G) (E : Nat → Nat) (k0 : Nat) (cm : Nat → Nat) (p0 : Int32) (p1 : Int32) (p2 : Int32) (p3 : Int32)  : Met l yX9_jump (wl yX9_jump cX9_jump 10 (some .int)) (RM 4 0 0) (rd_P D E [.ref k0, .int p0, .int p1, .int p2, .int p3] [(k0, .inr (9, mF cm 0 0 0 0 0 0 0 0 0)), ((cm 3), .inl (E 0, 16, .inl (fun _ => -5)))]) (rd_Q (fun r => (r = (-2) ∧ ((0 ≤ p3.toInt ∧ p3.toInt ≤ 2000) ∧ (0 ≤ p0.toInt ∧ p0.toInt ≤ 15) ∧ (0 ≤ p1.toInt ∧ p2.toInt ≤ 399 ∧ p1.toInt < p2.toInt ∧ p2.toInt - p1.toInt ≤ 60))) ∨ (r = (-1) ∧ ¬ ((0 ≤ p3.toInt ∧ p3.toInt ≤ 2000) ∧ (0 ≤ p0.toInt ∧ p0.toInt ≤ 15) ∧ (0 ≤ p1.toInt ∧ p2.toInt ≤ 399 ∧ p1.toInt < p2.toInt ∧ p2.toInt - p1.toInt ≤ 60))))) 0 0 (fun _ => False) := by
  refine Met.ofW (cc := cX9_jump) (maxL := 10) (ret := (some .int)) (by decide) rfl ?_
  intro p e s m args below meth c s₁ B hml hv
  obtain ⟨rfl, hP, hK⟩ := hv
  have hx := B.exec
  have hb := B.bytes
  have hr := B.returns
  have hts := atoms_spec (ws := wl yX9_jump cX9_jump 10 (some .int)) B.pre
  have htb : ∀ w ∈ tb, w.before _ s = true := fun w h => hts w (List.mem_cons_of_mem _ h)
  have hown : s.vm.findClass RX9 = some m.cls := findClass_of_methodNamed B.named
  have hlocks := B.notSynchronized
  have hP : va_P D vwCl [(k0, .inr (9, mF cm 0 0 0 0 0 0 0 0 0)), ((cm 3), .inl (E 0, 16, .inl (fun _ => -5)))] s.heap := hP
  have hl := lv_entry ([.ref k0, .int p0, .int p1, .int p2, .int p3]) (n := 10) (Nat.le_of_ble_eq_true rfl)
  rw [lg_entry_eq]
  generalize (lg_sl ([.ref k0, .int p0, .int p1, .int p2, .int p3]) ++ List.replicate (10 - (lg_sl ([.ref k0, .int p0, .int p1, .int p2, .int p3])).length) Slot.unset).toArray = ls at hl ⊢
  have hl : lv_has ls 10 [(0, .ref k0), (1, .int p0), (2, .int p1), (3, .int p2), (4, .int p3)] := hl
  have lo_p0 := i_lo p0
  have hi_p0 := i_hi p0
  have lo_p1 := i_lo p1
  have hi_p1 := i_hi p1
  have lo_p2 := i_lo p2
  have hi_p2 := i_hi p2
  have lo_p3 := i_lo p3
  have hi_p3 := i_hi p3
  refine lv_iload hx hb dX9_jump_0 (lv_at hl 4 rfl) ?_
  refine lv_iconst (v := 0) hx hb dX9_jump_2 (by decide) ?_
  refine lv_sipush (v := 2000) hx hb dX9_jump_3 (by decide) ?_
  refine callRS (rest := []) (As := [.int p3, .int 0, .int 2000]) hx hb hml hown htb hK (c_X9_in l D E p3 0 2000 ) ok_X9_in k_1168 k_1169 k_9 k_1170 ⟨(Nat.le_of_ble_eq_true rfl), (Nat.le_of_ble_eq_true rfl)⟩ ⟨(Nat.le_of_ble_eq_true rfl), (Nat.le_of_ble_eq_true rfl)⟩ hl.1 (Nat.le_of_ble_eq_true rfl) rfl rfl dX9_jump_6 (hP.sub (ws' := ([] : va_W)) [] rfl) (fun r_2 hw_1 => ?_)
  rcases hw_1 with ⟨hr_2, hw_1⟩ | ⟨hr_2, hw_1⟩
  ·
    try simp only [t_0, t_2000] at hw_1
    refine W_top (y := .int 1) (by rw [hr_2]) ?_
    refine lv_if_ne (tgt := 14) hx hb dX9_jump_9 (by decide) (fun c_3 => ?_) (fun c_3 => absurd c_3 (by decide))
    refine lv_aload_n hx hb dX9_jump_14 rfl (lv_at hl 0 rfl) ?_
    refine lv_iload_n hx hb dX9_jump_15 rfl (lv_at hl 1 rfl) ?_
    refine lv_iload_n hx hb dX9_jump_16 rfl (lv_at hl 2 rfl) ?_
    refine lv_iload_n hx hb dX9_jump_17 rfl (lv_at hl 3 rfl) ?_
    refine callRV (rest := []) (As := [.int p0, .int p1, .int p2]) hx hb hml hown htb hK (c_X9_asked l D E k0 cm p0 p1 p2 ) ok_X9_asked k_1269 k_1271 ks_45 k_9 k_1272 ⟨(Nat.le_of_ble_eq_true rfl), (Nat.le_of_ble_eq_true rfl)⟩ ⟨(Nat.le_of_ble_eq_true rfl), (Nat.le_of_ble_eq_true rfl)⟩ hl.1 (Nat.le_of_ble_eq_true rfl) rfl rfl dX9_jump_18 (hP.sub (ws' := [(k0, .inr (9, mF cm 0 0 0 0 0 0 0 0 0)), ((cm 3), .inl (E 0, 16, .inl (fun _ => -5)))]) [0, 1] rfl) rfl rfl 0 rfl (fun r_5 hw_4 => ?_)
    rcases hw_4 with ⟨hr_5, hw_4⟩ | ⟨hr_5, hw_4⟩
    ·
      refine W_top (y := .int (-2)) (by rw [hr_5]) ?_
      refine lv_istore (lv' := [(5, .int (-2)), (0, .ref k0), (1, .int p0), (2, .int p1), (3, .int p2), (4, .int p3)]) hx hb dX9_jump_21 hl (by decide) rfl (fun ls hl => ?_)
      refine lv_iload hx hb dX9_jump_23 (lv_at hl 0 rfl) ?_
      refine lv_if_ge (tgt := 31) hx hb dX9_jump_25 (by decide) (fun c_6 => absurd c_6 (by decide)) (fun c_6 => ?_)
      refine lv_iload hx hb dX9_jump_28 (lv_at hl 0 rfl) ?_
      exact W.iret (v := (-2)) hx hb hr (fun t ht hW => ⟨(-2), rfl, by first | exact Or.inl ⟨rfl, by omega⟩ | (exfalso; omega), ht⟩) (fun q h => by cases h) dX9_jump_30
    ·
      refine W_top (y := .int (-1)) (by rw [hr_5]) ?_
      refine lv_istore (lv' := [(5, .int (-1)), (0, .ref k0), (1, .int p0), (2, .int p1), (3, .int p2), (4, .int p3)]) hx hb dX9_jump_21 hl (by decide) rfl (fun ls hl => ?_)
      refine lv_iload hx hb dX9_jump_23 (lv_at hl 0 rfl) ?_
      refine lv_if_ge (tgt := 31) hx hb dX9_jump_25 (by decide) (fun c_7 => absurd c_7 (by decide)) (fun c_7 => ?_)
      refine lv_iload hx hb dX9_jump_28 (lv_at hl 0 rfl) ?_
      exact W.iret (v := (-1)) hx hb hr (fun t ht hW => ⟨(-1), rfl, by first | exact Or.inr ⟨rfl, by omega⟩ | (exfalso; omega), ht⟩) (fun q h => by cases h) dX9_jump_30
  ·
    try simp only [t_0, t_2000] at hw_1
    refine W_top (y := .int 0) (by rw [hr_2]) ?_
    refine lv_if_ne (tgt := 14) hx hb dX9_jump_9 (by decide) (fun c_8 => absurd (by decide) c_8) (fun c_8 => ?_)
    refine lv_iconst (v := (-1)) hx hb dX9_jump_12 (by decide) ?_
    exact W.iret (v := (-1)) hx hb hr (fun t ht hW => ⟨(-1), rfl, by first | exact Or.inr ⟨rfl, by omega⟩ | (exfalso; omega), ht⟩) (fun q h => by cases h) dX9_jump_13
set_option maxHeartbeats 4000000 in
set_option maxRecDepth 100000 in
theorem c_X9_carried (l : Launch) (D : va_G) (E : Nat → Nat) (k0 : Nat) (cm : Nat → Nat) (p0 : Int32) (p1 : Int32) (p2 : Int32)  : Met l yX9_carried (wl yX9_carried cX9_carried 5 (some .int)) (RM 2 0 0) (rd_P D E [.ref k0, .int p0, .int p1, .int p2] [(k0, .inr (9, mF cm 0 0 0 0 0 0 0 0 0)), ((cm 47), .inl (E 0, 5, .inl (fun _ => 0)))]) (rd_Q (fun r => (r = (-2000000000) ∧ True))) 0 0 (fun _ => False) := by
  refine Met.ofW (cc := cX9_carried) (maxL := 5) (ret := (some .int)) (by decide) rfl ?_
  intro p e s m args below meth c s₁ B hml hv
  obtain ⟨rfl, hP, hK⟩ := hv
  have hx := B.exec
  have hb := B.bytes
  have hr := B.returns
  have hts := atoms_spec (ws := wl yX9_carried cX9_carried 5 (some .int)) B.pre
  have htb : ∀ w ∈ tb, w.before _ s = true := fun w h => hts w (List.mem_cons_of_mem _ h)
  have hown : s.vm.findClass RX9 = some m.cls := findClass_of_methodNamed B.named
  have hlocks := B.notSynchronized
  have hP : va_P D vwCl [(k0, .inr (9, mF cm 0 0 0 0 0 0 0 0 0)), ((cm 47), .inl (E 0, 5, .inl (fun _ => 0)))] s.heap := hP
  have hl := lv_entry ([.ref k0, .int p0, .int p1, .int p2]) (n := 5) (Nat.le_of_ble_eq_true rfl)
  rw [lg_entry_eq]
  generalize (lg_sl ([.ref k0, .int p0, .int p1, .int p2]) ++ List.replicate (5 - (lg_sl ([.ref k0, .int p0, .int p1, .int p2])).length) Slot.unset).toArray = ls at hl ⊢
  have hl : lv_has ls 5 [(0, .ref k0), (1, .int p0), (2, .int p1), (3, .int p2)] := hl
  have lo_p0 := i_lo p0
  have hi_p0 := i_hi p0
  have lo_p1 := i_lo p1
  have hi_p1 := i_hi p1
  have lo_p2 := i_lo p2
  have hi_p2 := i_hi p2
  refine lv_iload_n hx hb dX9_carried_0 rfl (lv_at hl 1 rfl) ?_
  refine callRS (rest := []) (As := [.int p0]) hx hb hml hown htb hK (c_X9_isShip l D E p0 ) ok_X9_isShip k_1414 k_1415 k_9 k_1416 ⟨(Nat.le_of_ble_eq_true rfl), (Nat.le_of_ble_eq_true rfl)⟩ ⟨(Nat.le_of_ble_eq_true rfl), (Nat.le_of_ble_eq_true rfl)⟩ hl.1 (Nat.le_of_ble_eq_true rfl) rfl rfl dX9_carried_1 (hP.sub (ws' := ([] : va_W)) [] rfl) (fun r_2 hw_1 => ?_)
  rcases hw_1 with ⟨hr_2, hw_1⟩ | ⟨hr_2, hw_1⟩
  ·
    refine W_top (y := .int 1) (by rw [hr_2]) ?_
    refine lv_if_eq (tgt := 25) hx hb dX9_carried_4 (by decide) (fun c_3 => absurd c_3 (by decide)) (fun c_3 => ?_)
    refine lv_iload_n hx hb dX9_carried_7 rfl (lv_at hl 2 rfl) ?_
    refine lv_iconst (v := 0) hx hb dX9_carried_8 (by decide) ?_
    refine lv_iconst (v := 2) hx hb dX9_carried_9 (by decide) ?_
    refine callRS (rest := []) (As := [.int p1, .int 0, .int 2]) hx hb hml hown htb hK (c_X9_in l D E p1 0 2 ) ok_X9_in k_1168 k_1169 k_9 k_1170 ⟨(Nat.le_of_ble_eq_true rfl), (Nat.le_of_ble_eq_true rfl)⟩ ⟨(Nat.le_of_ble_eq_true rfl), (Nat.le_of_ble_eq_true rfl)⟩ hl.1 (Nat.le_of_ble_eq_true rfl) rfl rfl dX9_carried_10 (hP.sub (ws' := ([] : va_W)) [] rfl) (fun r_5 hw_4 => ?_)
    rcases hw_4 with ⟨hr_5, hw_4⟩ | ⟨hr_5, hw_4⟩
    ·
      try simp only [t_0, t_2] at hw_4
      refine W_top (y := .int 1) (by rw [hr_5]) ?_
      refine lv_if_eq (tgt := 25) hx hb dX9_carried_13 (by decide) (fun c_6 => absurd c_6 (by decide)) (fun c_6 => ?_)
      refine lv_aload_n hx hb dX9_carried_16 rfl (lv_at hl 0 rfl) ?_
      refine va_get (D := D) (ci := 9) (v := .ref (cm 47)) (C := RX9) (T := TX9) (N := 68) hx hb htb iX9 hown hK.1 hP 0 rfl rfl 47 (by decide) (htb _ k_1005) (fun _ h9 => h9) rfl dX9_carried_17 ?_
      refine lv_iload_n hx hb dX9_carried_20 rfl (lv_at hl 1 rfl) ?_
      refine va_iald hx hb hK.1 hP 1 0 rfl rfl (g_in rfl (by omega) (by omega)) dX9_carried_21 ?_
      refine W_top (y := .int 0) rfl ?_
      refine lv_if_ne (tgt := 28) hx hb dX9_carried_22 (by decide) (fun c_7 => absurd (by decide) c_7) (fun c_7 => ?_)
      refine lv_ldc hx hb hown (htb _ k_1205) dX9_carried_25 ?_
      exact W.iret (v := (-2000000000)) hx hb hr (fun t ht hW => ⟨(-2000000000), rfl, ⟨rfl, trivial⟩, ht⟩) (fun q h => by cases h) dX9_carried_27
    ·
      try simp only [t_0, t_2] at hw_4
      refine W_top (y := .int 0) (by rw [hr_5]) ?_
      refine lv_if_eq (tgt := 25) hx hb dX9_carried_13 (by decide) (fun c_8 => ?_) (fun c_8 => absurd (by decide) c_8)
      refine lv_ldc hx hb hown (htb _ k_1205) dX9_carried_25 ?_
      exact W.iret (v := (-2000000000)) hx hb hr (fun t ht hW => ⟨(-2000000000), rfl, ⟨rfl, trivial⟩, ht⟩) (fun q h => by cases h) dX9_carried_27
  ·
    refine W_top (y := .int 0) (by rw [hr_2]) ?_
    refine lv_if_eq (tgt := 25) hx hb dX9_carried_4 (by decide) (fun c_9 => ?_) (fun c_9 => absurd (by decide) c_9)
    refine lv_ldc hx hb hown (htb _ k_1205) dX9_carried_25 ?_
    exact W.iret (v := (-2000000000)) hx hb hr (fun t ht hW => ⟨(-2000000000), rfl, ⟨rfl, trivial⟩, ht⟩) (fun q h => by cases h) dX9_carried_27
set_option maxHeartbeats 4000000 in
set_option maxRecDepth 100000 in
theorem c_X9_sight (l : Launch) (D : va_G) (E : Nat → Nat) (k0 : Nat) (cm : Nat → Nat) (p0 : Int32) (p1 : Int32) (p2 : Int32) (p3 : Int32) (p4 : Int32)  : Met l yX9_sight (wl yX9_sight cX9_sight 7 (some .int)) (RM 2 0 0) (rd_P D E [.ref k0, .int p0, .int p1, .int p2, .int p3, .int p4] [(k0, .inr (9, mF cm 0 0 0 0 0 0 0 0 0)), ((cm 47), .inl (E 0, 5, .inl (fun _ => 0)))]) (rd_Q (fun r => (r = (-4) ∧ ((0 ≤ p0.toInt ∧ p0.toInt ≤ 4) ∧ (0 ≤ p1.toInt ∧ p1.toInt ≤ 0) ∧ (-2000000 ≤ p2.toInt ∧ p2.toInt ≤ 2000000) ∧ (-2000000 ≤ p3.toInt ∧ p3.toInt ≤ 2000000) ∧ (-2000000 ≤ p4.toInt ∧ p4.toInt ≤ 2000000))) ∨ (r = (-1) ∧ ¬ ((0 ≤ p0.toInt ∧ p0.toInt ≤ 4) ∧ (0 ≤ p1.toInt ∧ p1.toInt ≤ 0) ∧ (-2000000 ≤ p2.toInt ∧ p2.toInt ≤ 2000000) ∧ (-2000000 ≤ p3.toInt ∧ p3.toInt ≤ 2000000) ∧ (-2000000 ≤ p4.toInt ∧ p4.toInt ≤ 2000000))))) 0 0 (fun _ => False) := by
  refine Met.ofW (cc := cX9_sight) (maxL := 7) (ret := (some .int)) (by decide) rfl ?_
  intro p e s m args below meth c s₁ B hml hv
  obtain ⟨rfl, hP, hK⟩ := hv
  have hx := B.exec
  have hb := B.bytes
  have hr := B.returns
  have hts := atoms_spec (ws := wl yX9_sight cX9_sight 7 (some .int)) B.pre
  have htb : ∀ w ∈ tb, w.before _ s = true := fun w h => hts w (List.mem_cons_of_mem _ h)
  have hown : s.vm.findClass RX9 = some m.cls := findClass_of_methodNamed B.named
  have hlocks := B.notSynchronized
  have hP : va_P D vwCl [(k0, .inr (9, mF cm 0 0 0 0 0 0 0 0 0)), ((cm 47), .inl (E 0, 5, .inl (fun _ => 0)))] s.heap := hP
  have hl := lv_entry ([.ref k0, .int p0, .int p1, .int p2, .int p3, .int p4]) (n := 7) (Nat.le_of_ble_eq_true rfl)
  rw [lg_entry_eq]
  generalize (lg_sl ([.ref k0, .int p0, .int p1, .int p2, .int p3, .int p4]) ++ List.replicate (7 - (lg_sl ([.ref k0, .int p0, .int p1, .int p2, .int p3, .int p4])).length) Slot.unset).toArray = ls at hl ⊢
  have hl : lv_has ls 7 [(0, .ref k0), (1, .int p0), (2, .int p1), (3, .int p2), (4, .int p3), (5, .int p4)] := hl
  have lo_p0 := i_lo p0
  have hi_p0 := i_hi p0
  have lo_p1 := i_lo p1
  have hi_p1 := i_hi p1
  have lo_p2 := i_lo p2
  have hi_p2 := i_hi p2
  have lo_p3 := i_lo p3
  have hi_p3 := i_hi p3
  have lo_p4 := i_lo p4
  have hi_p4 := i_hi p4
  refine lv_iload_n hx hb dX9_sight_0 rfl (lv_at hl 1 rfl) ?_
  refine callRS (rest := []) (As := [.int p0]) hx hb hml hown htb hK (c_X9_isShip l D E p0 ) ok_X9_isShip k_1414 k_1415 k_9 k_1416 ⟨(Nat.le_of_ble_eq_true rfl), (Nat.le_of_ble_eq_true rfl)⟩ ⟨(Nat.le_of_ble_eq_true rfl), (Nat.le_of_ble_eq_true rfl)⟩ hl.1 (Nat.le_of_ble_eq_true rfl) rfl rfl dX9_sight_1 (hP.sub (ws' := ([] : va_W)) [] rfl) (fun r_2 hw_1 => ?_)
  rcases hw_1 with ⟨hr_2, hw_1⟩ | ⟨hr_2, hw_1⟩
  ·
    refine W_top (y := .int 1) (by rw [hr_2]) ?_
    refine lv_if_eq (tgt := 42) hx hb dX9_sight_4 (by decide) (fun c_3 => absurd c_3 (by decide)) (fun c_3 => ?_)
    refine lv_iload_n hx hb dX9_sight_7 rfl (lv_at hl 2 rfl) ?_
    refine lv_iconst (v := 0) hx hb dX9_sight_8 (by decide) ?_
    refine lv_aload_n hx hb dX9_sight_9 rfl (lv_at hl 0 rfl) ?_
    refine va_get (D := D) (ci := 9) (v := .int 0) (C := RX9) (T := TX9) (N := 68) hx hb htb iX9 hown hK.1 hP 0 rfl rfl 1 (by decide) (htb _ k_959) (fun _ h9 => h9) rfl dX9_sight_10 ?_
    refine callRS (rest := []) (As := [.int p1, .int 0, .int 0]) hx hb hml hown htb hK (c_X9_in l D E p1 0 0 ) ok_X9_in k_1168 k_1169 k_9 k_1170 ⟨(Nat.le_of_ble_eq_true rfl), (Nat.le_of_ble_eq_true rfl)⟩ ⟨(Nat.le_of_ble_eq_true rfl), (Nat.le_of_ble_eq_true rfl)⟩ hl.1 (Nat.le_of_ble_eq_true rfl) rfl rfl dX9_sight_13 (hP.sub (ws' := ([] : va_W)) [] rfl) (fun r_5 hw_4 => ?_)
    rcases hw_4 with ⟨hr_5, hw_4⟩ | ⟨hr_5, hw_4⟩
    ·
      try simp only [t_0] at hw_4
      refine W_top (y := .int 1) (by rw [hr_5]) ?_
      refine lv_if_eq (tgt := 42) hx hb dX9_sight_16 (by decide) (fun c_6 => absurd c_6 (by decide)) (fun c_6 => ?_)
      refine lv_iload_n hx hb dX9_sight_19 rfl (lv_at hl 3 rfl) ?_
      refine callRS (rest := []) (As := [.int p2]) hx hb hml hown htb hK (c_X9_isShown l D E p2 ) ok_X9_isShown k_1433 k_1434 k_9 k_1435 ⟨(Nat.le_of_ble_eq_true rfl), (Nat.le_of_ble_eq_true rfl)⟩ ⟨(Nat.le_of_ble_eq_true rfl), (Nat.le_of_ble_eq_true rfl)⟩ hl.1 (Nat.le_of_ble_eq_true rfl) rfl rfl dX9_sight_20 (hP.sub (ws' := ([] : va_W)) [] rfl) (fun r_8 hw_7 => ?_)
      rcases hw_7 with ⟨hr_8, hw_7⟩ | ⟨hr_8, hw_7⟩
      ·
        refine W_top (y := .int 1) (by rw [hr_8]) ?_
        refine lv_if_eq (tgt := 42) hx hb dX9_sight_23 (by decide) (fun c_9 => absurd c_9 (by decide)) (fun c_9 => ?_)
        refine lv_iload hx hb dX9_sight_26 (lv_at hl 4 rfl) ?_
        refine callRS (rest := []) (As := [.int p3]) hx hb hml hown htb hK (c_X9_isShown l D E p3 ) ok_X9_isShown k_1433 k_1434 k_9 k_1435 ⟨(Nat.le_of_ble_eq_true rfl), (Nat.le_of_ble_eq_true rfl)⟩ ⟨(Nat.le_of_ble_eq_true rfl), (Nat.le_of_ble_eq_true rfl)⟩ hl.1 (Nat.le_of_ble_eq_true rfl) rfl rfl dX9_sight_28 (hP.sub (ws' := ([] : va_W)) [] rfl) (fun r_11 hw_10 => ?_)
        rcases hw_10 with ⟨hr_11, hw_10⟩ | ⟨hr_11, hw_10⟩
        ·
          refine W_top (y := .int 1) (by rw [hr_11]) ?_
          refine lv_if_eq (tgt := 42) hx hb dX9_sight_31 (by decide) (fun c_12 => absurd c_12 (by decide)) (fun c_12 => ?_)
          refine lv_iload hx hb dX9_sight_34 (lv_at hl 5 rfl) ?_
          refine callRS (rest := []) (As := [.int p4]) hx hb hml hown htb hK (c_X9_isShown l D E p4 ) ok_X9_isShown k_1433 k_1434 k_9 k_1435 ⟨(Nat.le_of_ble_eq_true rfl), (Nat.le_of_ble_eq_true rfl)⟩ ⟨(Nat.le_of_ble_eq_true rfl), (Nat.le_of_ble_eq_true rfl)⟩ hl.1 (Nat.le_of_ble_eq_true rfl) rfl rfl dX9_sight_36 (hP.sub (ws' := ([] : va_W)) [] rfl) (fun r_14 hw_13 => ?_)
          rcases hw_13 with ⟨hr_14, hw_13⟩ | ⟨hr_14, hw_13⟩
          ·
            refine W_top (y := .int 1) (by rw [hr_14]) ?_
            refine lv_if_ne (tgt := 44) hx hb dX9_sight_39 (by decide) (fun c_15 => ?_) (fun c_15 => absurd c_15 (by decide))
            refine lv_aload_n hx hb dX9_sight_44 rfl (lv_at hl 0 rfl) ?_
            refine va_get (D := D) (ci := 9) (v := .ref (cm 47)) (C := RX9) (T := TX9) (N := 68) hx hb htb iX9 hown hK.1 hP 0 rfl rfl 47 (by decide) (htb _ k_1005) (fun _ h9 => h9) rfl dX9_sight_45 ?_
            refine lv_iload_n hx hb dX9_sight_48 rfl (lv_at hl 1 rfl) ?_
            refine va_iald hx hb hK.1 hP 1 0 rfl rfl (g_in rfl (by omega) (by omega)) dX9_sight_49 ?_
            refine W_top (y := .int 0) rfl ?_
            refine lv_iconst (v := 1) hx hb dX9_sight_50 (by decide) ?_
            refine lv_icmp_eq (tgt := 57) hx hb dX9_sight_51 (by decide) (fun c_16 => absurd c_16 (by decide)) (fun c_16 => ?_)
            refine lv_bipush (v := (-4)) hx hb dX9_sight_54 (by decide) ?_
            exact W.iret (v := (-4)) hx hb hr (fun t ht hW => ⟨(-4), rfl, by first | exact Or.inl ⟨rfl, by omega⟩ | (exfalso; omega), ht⟩) (fun q h => by cases h) dX9_sight_56
          ·
            refine W_top (y := .int 0) (by rw [hr_14]) ?_
            refine lv_if_ne (tgt := 44) hx hb dX9_sight_39 (by decide) (fun c_17 => absurd (by decide) c_17) (fun c_17 => ?_)
            refine lv_iconst (v := (-1)) hx hb dX9_sight_42 (by decide) ?_
            exact W.iret (v := (-1)) hx hb hr (fun t ht hW => ⟨(-1), rfl, by first | exact Or.inr ⟨rfl, by omega⟩ | (exfalso; omega), ht⟩) (fun q h => by cases h) dX9_sight_43
        ·
          refine W_top (y := .int 0) (by rw [hr_11]) ?_
          refine lv_if_eq (tgt := 42) hx hb dX9_sight_31 (by decide) (fun c_18 => ?_) (fun c_18 => absurd (by decide) c_18)
          refine lv_iconst (v := (-1)) hx hb dX9_sight_42 (by decide) ?_
          exact W.iret (v := (-1)) hx hb hr (fun t ht hW => ⟨(-1), rfl, by first | exact Or.inr ⟨rfl, by omega⟩ | (exfalso; omega), ht⟩) (fun q h => by cases h) dX9_sight_43
      ·
        refine W_top (y := .int 0) (by rw [hr_8]) ?_
        refine lv_if_eq (tgt := 42) hx hb dX9_sight_23 (by decide) (fun c_19 => ?_) (fun c_19 => absurd (by decide) c_19)
        refine lv_iconst (v := (-1)) hx hb dX9_sight_42 (by decide) ?_
        exact W.iret (v := (-1)) hx hb hr (fun t ht hW => ⟨(-1), rfl, by first | exact Or.inr ⟨rfl, by omega⟩ | (exfalso; omega), ht⟩) (fun q h => by cases h) dX9_sight_43
    ·
      try simp only [t_0] at hw_4
      refine W_top (y := .int 0) (by rw [hr_5]) ?_
      refine lv_if_eq (tgt := 42) hx hb dX9_sight_16 (by decide) (fun c_20 => ?_) (fun c_20 => absurd (by decide) c_20)
      refine lv_iconst (v := (-1)) hx hb dX9_sight_42 (by decide) ?_
      exact W.iret (v := (-1)) hx hb hr (fun t ht hW => ⟨(-1), rfl, by first | exact Or.inr ⟨rfl, by omega⟩ | (exfalso; omega), ht⟩) (fun q h => by cases h) dX9_sight_43
  ·
    refine W_top (y := .int 0) (by rw [hr_2]) ?_
    refine lv_if_eq (tgt := 42) hx hb dX9_sight_4 (by decide) (fun c_21 => ?_) (fun c_21 => absurd (by decide) c_21)
    refine lv_iconst (v := (-1)) hx hb dX9_sight_42 (by decide) ?_
    exact W.iret (v := (-1)) hx hb hr (fun t ht hW => ⟨(-1), rfl, by first | exact Or.inr ⟨rfl, by omega⟩ | (exfalso; omega), ht⟩) (fun q h => by cases h) dX9_sight_43
set_option maxHeartbeats 4000000 in
set_option maxRecDepth 100000 in
theorem c_X9_told (l : Launch) (D : va_G) (E : Nat → Nat) (k0 : Nat) (cm : Nat → Nat) (p0 : Int32) (p1 : Int32) (p2 : Int32)  : Met l yX9_told (wl yX9_told cX9_told 8 (some .int)) (RM 2 0 0) (rd_P D E [.ref k0, .int p0, .int p1, .int p2] [(k0, .inr (9, mF cm 0 0 0 0 0 0 0 0 0)), ((cm 55), .inl (E 0, 5, .inl (fun _ => 0)))]) (rd_Q (fun r => (r = (-2000000000) ∧ True))) 0 0 (fun _ => False) := by
  refine Met.ofW (cc := cX9_told) (maxL := 8) (ret := (some .int)) (by decide) rfl ?_
  intro p e s m args below meth c s₁ B hml hv
  obtain ⟨rfl, hP, hK⟩ := hv
  have hx := B.exec
  have hb := B.bytes
  have hr := B.returns
  have hts := atoms_spec (ws := wl yX9_told cX9_told 8 (some .int)) B.pre
  have htb : ∀ w ∈ tb, w.before _ s = true := fun w h => hts w (List.mem_cons_of_mem _ h)
  have hown : s.vm.findClass RX9 = some m.cls := findClass_of_methodNamed B.named
  have hlocks := B.notSynchronized
  have hP : va_P D vwCl [(k0, .inr (9, mF cm 0 0 0 0 0 0 0 0 0)), ((cm 55), .inl (E 0, 5, .inl (fun _ => 0)))] s.heap := hP
  have hl := lv_entry ([.ref k0, .int p0, .int p1, .int p2]) (n := 8) (Nat.le_of_ble_eq_true rfl)
  rw [lg_entry_eq]
  generalize (lg_sl ([.ref k0, .int p0, .int p1, .int p2]) ++ List.replicate (8 - (lg_sl ([.ref k0, .int p0, .int p1, .int p2])).length) Slot.unset).toArray = ls at hl ⊢
  have hl : lv_has ls 8 [(0, .ref k0), (1, .int p0), (2, .int p1), (3, .int p2)] := hl
  have lo_p0 := i_lo p0
  have hi_p0 := i_hi p0
  have lo_p1 := i_lo p1
  have hi_p1 := i_hi p1
  have lo_p2 := i_lo p2
  have hi_p2 := i_hi p2
  refine lv_iload_n hx hb dX9_told_0 rfl (lv_at hl 1 rfl) ?_
  refine callRS (rest := []) (As := [.int p0]) hx hb hml hown htb hK (c_X9_isShip l D E p0 ) ok_X9_isShip k_1414 k_1415 k_9 k_1416 ⟨(Nat.le_of_ble_eq_true rfl), (Nat.le_of_ble_eq_true rfl)⟩ ⟨(Nat.le_of_ble_eq_true rfl), (Nat.le_of_ble_eq_true rfl)⟩ hl.1 (Nat.le_of_ble_eq_true rfl) rfl rfl dX9_told_1 (hP.sub (ws' := ([] : va_W)) [] rfl) (fun r_2 hw_1 => ?_)
  rcases hw_1 with ⟨hr_2, hw_1⟩ | ⟨hr_2, hw_1⟩
  ·
    refine W_top (y := .int 1) (by rw [hr_2]) ?_
    refine lv_if_eq (tgt := 33) hx hb dX9_told_4 (by decide) (fun c_3 => absurd c_3 (by decide)) (fun c_3 => ?_)
    refine lv_iload_n hx hb dX9_told_7 rfl (lv_at hl 2 rfl) ?_
    refine lv_iconst (v := 0) hx hb dX9_told_8 (by decide) ?_
    refine lv_aload_n hx hb dX9_told_9 rfl (lv_at hl 0 rfl) ?_
    refine va_get (D := D) (ci := 9) (v := .ref (cm 55)) (C := RX9) (T := TX9) (N := 68) hx hb htb iX9 hown hK.1 hP 0 rfl rfl 55 (by decide) (htb _ k_1013) (fun _ h9 => h9) rfl dX9_told_10 ?_
    refine lv_iload_n hx hb dX9_told_13 rfl (lv_at hl 1 rfl) ?_
    refine va_iald hx hb hK.1 hP 1 0 rfl rfl (g_in rfl (by omega) (by omega)) dX9_told_14 ?_
    refine W_top (y := .int 0) rfl ?_
    refine lv_iconst (v := 1) hx hb dX9_told_15 (by decide) ?_
    refine lv_isub hx hb dX9_told_16 ?_
    refine W_top (y := .int (-1)) (by decide) ?_
    refine callRS (rest := []) (As := [.int p1, .int 0, .int (-1)]) hx hb hml hown htb hK (c_X9_in l D E p1 0 (-1) ) ok_X9_in k_1168 k_1169 k_9 k_1170 ⟨(Nat.le_of_ble_eq_true rfl), (Nat.le_of_ble_eq_true rfl)⟩ ⟨(Nat.le_of_ble_eq_true rfl), (Nat.le_of_ble_eq_true rfl)⟩ hl.1 (Nat.le_of_ble_eq_true rfl) rfl rfl dX9_told_17 (hP.sub (ws' := ([] : va_W)) [] rfl) (fun r_5 hw_4 => ?_)
    rcases hw_4 with ⟨hr_5, hw_4⟩ | ⟨hr_5, hw_4⟩
    ·
      try simp only [t_m1, t_0] at hw_4
      refine W_top (y := .int 1) (by rw [hr_5]) ?_
      exfalso; omega
    ·
      try simp only [t_m1, t_0] at hw_4
      refine W_top (y := .int 0) (by rw [hr_5]) ?_
      refine lv_if_eq (tgt := 33) hx hb dX9_told_20 (by decide) (fun c_6 => ?_) (fun c_6 => absurd (by decide) c_6)
      refine lv_ldc hx hb hown (htb _ k_1205) dX9_told_33 ?_
      exact W.iret (v := (-2000000000)) hx hb hr (fun t ht hW => ⟨(-2000000000), rfl, ⟨rfl, trivial⟩, ht⟩) (fun q h => by cases h) dX9_told_35
  ·
    refine W_top (y := .int 0) (by rw [hr_2]) ?_
    refine lv_if_eq (tgt := 33) hx hb dX9_told_4 (by decide) (fun c_7 => ?_) (fun c_7 => absurd (by decide) c_7)
    refine lv_ldc hx hb hown (htb _ k_1205) dX9_told_33 ?_
    exact W.iret (v := (-2000000000)) hx hb hr (fun t ht hW => ⟨(-2000000000), rfl, ⟨rfl, trivial⟩, ht⟩) (fun q h => by cases h) dX9_told_35
set_option maxHeartbeats 4000000 in
set_option maxRecDepth 100000 in
theorem c_X9_back (l : Launch) (D : va_G) (E : Nat → Nat) (k0 : Nat) (cm : Nat → Nat) (p0 : Int32) (p1 : Int32) (p2 : Int32) (p3 : Int32)  : Met l yX9_back (wl yX9_back cX9_back 8 (some .int)) (RM 2 0 0) (rd_P D E [.ref k0, .int p0, .int p1, .int p2, .int p3] [(k0, .inr (9, mF cm 0 0 0 0 0 0 0 0 0)), ((cm 47), .inl (E 0, 5, .inl (fun _ => 0)))]) (rd_Q (fun r => (r = (-4) ∧ ((0 ≤ p0.toInt ∧ p0.toInt ≤ 4) ∧ (-100000 ≤ p1.toInt ∧ p1.toInt ≤ 100000) ∧ (-100000 ≤ p2.toInt ∧ p2.toInt ≤ 100000) ∧ (-100000 ≤ p3.toInt ∧ p3.toInt ≤ 100000))) ∨ (r = (-1) ∧ ¬ ((0 ≤ p0.toInt ∧ p0.toInt ≤ 4) ∧ (-100000 ≤ p1.toInt ∧ p1.toInt ≤ 100000) ∧ (-100000 ≤ p2.toInt ∧ p2.toInt ≤ 100000) ∧ (-100000 ≤ p3.toInt ∧ p3.toInt ≤ 100000))))) 0 0 (fun _ => False) := by
  refine Met.ofW (cc := cX9_back) (maxL := 8) (ret := (some .int)) (by decide) rfl ?_
  intro p e s m args below meth c s₁ B hml hv
  obtain ⟨rfl, hP, hK⟩ := hv
  have hx := B.exec
  have hb := B.bytes
  have hr := B.returns
  have hts := atoms_spec (ws := wl yX9_back cX9_back 8 (some .int)) B.pre
  have htb : ∀ w ∈ tb, w.before _ s = true := fun w h => hts w (List.mem_cons_of_mem _ h)
  have hown : s.vm.findClass RX9 = some m.cls := findClass_of_methodNamed B.named
  have hlocks := B.notSynchronized
  have hP : va_P D vwCl [(k0, .inr (9, mF cm 0 0 0 0 0 0 0 0 0)), ((cm 47), .inl (E 0, 5, .inl (fun _ => 0)))] s.heap := hP
  have hl := lv_entry ([.ref k0, .int p0, .int p1, .int p2, .int p3]) (n := 8) (Nat.le_of_ble_eq_true rfl)
  rw [lg_entry_eq]
  generalize (lg_sl ([.ref k0, .int p0, .int p1, .int p2, .int p3]) ++ List.replicate (8 - (lg_sl ([.ref k0, .int p0, .int p1, .int p2, .int p3])).length) Slot.unset).toArray = ls at hl ⊢
  have hl : lv_has ls 8 [(0, .ref k0), (1, .int p0), (2, .int p1), (3, .int p2), (4, .int p3)] := hl
  have lo_p0 := i_lo p0
  have hi_p0 := i_hi p0
  have lo_p1 := i_lo p1
  have hi_p1 := i_hi p1
  have lo_p2 := i_lo p2
  have hi_p2 := i_hi p2
  have lo_p3 := i_lo p3
  have hi_p3 := i_hi p3
  refine lv_iload_n hx hb dX9_back_0 rfl (lv_at hl 1 rfl) ?_
  refine callRS (rest := []) (As := [.int p0]) hx hb hml hown htb hK (c_X9_isShip l D E p0 ) ok_X9_isShip k_1414 k_1415 k_9 k_1416 ⟨(Nat.le_of_ble_eq_true rfl), (Nat.le_of_ble_eq_true rfl)⟩ ⟨(Nat.le_of_ble_eq_true rfl), (Nat.le_of_ble_eq_true rfl)⟩ hl.1 (Nat.le_of_ble_eq_true rfl) rfl rfl dX9_back_1 (hP.sub (ws' := ([] : va_W)) [] rfl) (fun r_2 hw_1 => ?_)
  rcases hw_1 with ⟨hr_2, hw_1⟩ | ⟨hr_2, hw_1⟩
  ·
    refine W_top (y := .int 1) (by rw [hr_2]) ?_
    refine lv_if_eq (tgt := 41) hx hb dX9_back_4 (by decide) (fun c_3 => absurd c_3 (by decide)) (fun c_3 => ?_)
    refine lv_iload_n hx hb dX9_back_7 rfl (lv_at hl 2 rfl) ?_
    refine lv_ldc hx hb hown (htb _ k_1210) dX9_back_8 ?_
    refine lv_ldc hx hb hown (htb _ k_1211) dX9_back_10 ?_
    refine callRS (rest := []) (As := [.int p1, .int (-100000), .int 100000]) hx hb hml hown htb hK (c_X9_in l D E p1 (-100000) 100000 ) ok_X9_in k_1168 k_1169 k_9 k_1170 ⟨(Nat.le_of_ble_eq_true rfl), (Nat.le_of_ble_eq_true rfl)⟩ ⟨(Nat.le_of_ble_eq_true rfl), (Nat.le_of_ble_eq_true rfl)⟩ hl.1 (Nat.le_of_ble_eq_true rfl) rfl rfl dX9_back_12 (hP.sub (ws' := ([] : va_W)) [] rfl) (fun r_5 hw_4 => ?_)
    rcases hw_4 with ⟨hr_5, hw_4⟩ | ⟨hr_5, hw_4⟩
    ·
      try simp only [t_m100000, t_100000] at hw_4
      refine W_top (y := .int 1) (by rw [hr_5]) ?_
      refine lv_if_eq (tgt := 41) hx hb dX9_back_15 (by decide) (fun c_6 => absurd c_6 (by decide)) (fun c_6 => ?_)
      refine lv_iload_n hx hb dX9_back_18 rfl (lv_at hl 3 rfl) ?_
      refine lv_ldc hx hb hown (htb _ k_1210) dX9_back_19 ?_
      refine lv_ldc hx hb hown (htb _ k_1211) dX9_back_21 ?_
      refine callRS (rest := []) (As := [.int p2, .int (-100000), .int 100000]) hx hb hml hown htb hK (c_X9_in l D E p2 (-100000) 100000 ) ok_X9_in k_1168 k_1169 k_9 k_1170 ⟨(Nat.le_of_ble_eq_true rfl), (Nat.le_of_ble_eq_true rfl)⟩ ⟨(Nat.le_of_ble_eq_true rfl), (Nat.le_of_ble_eq_true rfl)⟩ hl.1 (Nat.le_of_ble_eq_true rfl) rfl rfl dX9_back_23 (hP.sub (ws' := ([] : va_W)) [] rfl) (fun r_8 hw_7 => ?_)
      rcases hw_7 with ⟨hr_8, hw_7⟩ | ⟨hr_8, hw_7⟩
      ·
        try simp only [t_m100000, t_100000] at hw_7
        refine W_top (y := .int 1) (by rw [hr_8]) ?_
        refine lv_if_eq (tgt := 41) hx hb dX9_back_26 (by decide) (fun c_9 => absurd c_9 (by decide)) (fun c_9 => ?_)
        refine lv_iload hx hb dX9_back_29 (lv_at hl 4 rfl) ?_
        refine lv_ldc hx hb hown (htb _ k_1210) dX9_back_31 ?_
        refine lv_ldc hx hb hown (htb _ k_1211) dX9_back_33 ?_
        refine callRS (rest := []) (As := [.int p3, .int (-100000), .int 100000]) hx hb hml hown htb hK (c_X9_in l D E p3 (-100000) 100000 ) ok_X9_in k_1168 k_1169 k_9 k_1170 ⟨(Nat.le_of_ble_eq_true rfl), (Nat.le_of_ble_eq_true rfl)⟩ ⟨(Nat.le_of_ble_eq_true rfl), (Nat.le_of_ble_eq_true rfl)⟩ hl.1 (Nat.le_of_ble_eq_true rfl) rfl rfl dX9_back_35 (hP.sub (ws' := ([] : va_W)) [] rfl) (fun r_11 hw_10 => ?_)
        rcases hw_10 with ⟨hr_11, hw_10⟩ | ⟨hr_11, hw_10⟩
        ·
          try simp only [t_m100000, t_100000] at hw_10
          refine W_top (y := .int 1) (by rw [hr_11]) ?_
          refine lv_if_ne (tgt := 43) hx hb dX9_back_38 (by decide) (fun c_12 => ?_) (fun c_12 => absurd c_12 (by decide))
          refine lv_aload_n hx hb dX9_back_43 rfl (lv_at hl 0 rfl) ?_
          refine va_get (D := D) (ci := 9) (v := .ref (cm 47)) (C := RX9) (T := TX9) (N := 68) hx hb htb iX9 hown hK.1 hP 0 rfl rfl 47 (by decide) (htb _ k_1005) (fun _ h9 => h9) rfl dX9_back_44 ?_
          refine lv_iload_n hx hb dX9_back_47 rfl (lv_at hl 1 rfl) ?_
          refine va_iald hx hb hK.1 hP 1 0 rfl rfl (g_in rfl (by omega) (by omega)) dX9_back_48 ?_
          refine W_top (y := .int 0) rfl ?_
          refine lv_iconst (v := 1) hx hb dX9_back_49 (by decide) ?_
          refine lv_icmp_ne (tgt := 66) hx hb dX9_back_50 (by decide) (fun c_13 => ?_) (fun c_13 => absurd c_13 (by decide))
          refine lv_bipush (v := (-4)) hx hb dX9_back_66 (by decide) ?_
          exact W.iret (v := (-4)) hx hb hr (fun t ht hW => ⟨(-4), rfl, by first | exact Or.inl ⟨rfl, by omega⟩ | (exfalso; omega), ht⟩) (fun q h => by cases h) dX9_back_68
        ·
          try simp only [t_m100000, t_100000] at hw_10
          refine W_top (y := .int 0) (by rw [hr_11]) ?_
          refine lv_if_ne (tgt := 43) hx hb dX9_back_38 (by decide) (fun c_14 => absurd (by decide) c_14) (fun c_14 => ?_)
          refine lv_iconst (v := (-1)) hx hb dX9_back_41 (by decide) ?_
          exact W.iret (v := (-1)) hx hb hr (fun t ht hW => ⟨(-1), rfl, by first | exact Or.inr ⟨rfl, by omega⟩ | (exfalso; omega), ht⟩) (fun q h => by cases h) dX9_back_42
      ·
        try simp only [t_m100000, t_100000] at hw_7
        refine W_top (y := .int 0) (by rw [hr_8]) ?_
        refine lv_if_eq (tgt := 41) hx hb dX9_back_26 (by decide) (fun c_15 => ?_) (fun c_15 => absurd (by decide) c_15)
        refine lv_iconst (v := (-1)) hx hb dX9_back_41 (by decide) ?_
        exact W.iret (v := (-1)) hx hb hr (fun t ht hW => ⟨(-1), rfl, by first | exact Or.inr ⟨rfl, by omega⟩ | (exfalso; omega), ht⟩) (fun q h => by cases h) dX9_back_42
    ·
      try simp only [t_m100000, t_100000] at hw_4
      refine W_top (y := .int 0) (by rw [hr_5]) ?_
      refine lv_if_eq (tgt := 41) hx hb dX9_back_15 (by decide) (fun c_16 => ?_) (fun c_16 => absurd (by decide) c_16)
      refine lv_iconst (v := (-1)) hx hb dX9_back_41 (by decide) ?_
      exact W.iret (v := (-1)) hx hb hr (fun t ht hW => ⟨(-1), rfl, by first | exact Or.inr ⟨rfl, by omega⟩ | (exfalso; omega), ht⟩) (fun q h => by cases h) dX9_back_42
  ·
    refine W_top (y := .int 0) (by rw [hr_2]) ?_
    refine lv_if_eq (tgt := 41) hx hb dX9_back_4 (by decide) (fun c_17 => ?_) (fun c_17 => absurd (by decide) c_17)
    refine lv_iconst (v := (-1)) hx hb dX9_back_41 (by decide) ?_
    exact W.iret (v := (-1)) hx hb hr (fun t ht hW => ⟨(-1), rfl, by first | exact Or.inr ⟨rfl, by omega⟩ | (exfalso; omega), ht⟩) (fun q h => by cases h) dX9_back_42
set_option maxHeartbeats 4000000 in
set_option maxRecDepth 100000 in
theorem c_X9_state (l : Launch) (D : va_G) (E : Nat → Nat) (k0 : Nat) (cm : Nat → Nat) (p0 : Int32)  : Met l yX9_state (wl yX9_state cX9_state 2 (some .int)) (RM 2 0 0) (rd_P D E [.ref k0, .int p0] [(k0, .inr (9, mF cm 0 0 0 0 0 0 0 0 0)), ((cm 47), .inl (E 0, 5, .inl (fun _ => 0)))]) (rd_Q (fun r => (r = 0 ∧ (0 ≤ p0.toInt ∧ p0.toInt ≤ 4)) ∨ (r = (-1) ∧ ¬ (0 ≤ p0.toInt ∧ p0.toInt ≤ 4)))) 0 0 (fun _ => False) := by
  refine Met.ofW (cc := cX9_state) (maxL := 2) (ret := (some .int)) (by decide) rfl ?_
  intro p e s m args below meth c s₁ B hml hv
  obtain ⟨rfl, hP, hK⟩ := hv
  have hx := B.exec
  have hb := B.bytes
  have hr := B.returns
  have hts := atoms_spec (ws := wl yX9_state cX9_state 2 (some .int)) B.pre
  have htb : ∀ w ∈ tb, w.before _ s = true := fun w h => hts w (List.mem_cons_of_mem _ h)
  have hown : s.vm.findClass RX9 = some m.cls := findClass_of_methodNamed B.named
  have hlocks := B.notSynchronized
  have hP : va_P D vwCl [(k0, .inr (9, mF cm 0 0 0 0 0 0 0 0 0)), ((cm 47), .inl (E 0, 5, .inl (fun _ => 0)))] s.heap := hP
  have hl := lv_entry ([.ref k0, .int p0]) (n := 2) (Nat.le_of_ble_eq_true rfl)
  rw [lg_entry_eq]
  generalize (lg_sl ([.ref k0, .int p0]) ++ List.replicate (2 - (lg_sl ([.ref k0, .int p0])).length) Slot.unset).toArray = ls at hl ⊢
  have hl : lv_has ls 2 [(0, .ref k0), (1, .int p0)] := hl
  have lo_p0 := i_lo p0
  have hi_p0 := i_hi p0
  refine lv_iload_n hx hb dX9_state_0 rfl (lv_at hl 1 rfl) ?_
  refine callRS (rest := []) (As := [.int p0]) hx hb hml hown htb hK (c_X9_isShip l D E p0 ) ok_X9_isShip k_1414 k_1415 k_9 k_1416 ⟨(Nat.le_of_ble_eq_true rfl), (Nat.le_of_ble_eq_true rfl)⟩ ⟨(Nat.le_of_ble_eq_true rfl), (Nat.le_of_ble_eq_true rfl)⟩ hl.1 (Nat.le_of_ble_eq_true rfl) rfl rfl dX9_state_1 (hP.sub (ws' := ([] : va_W)) [] rfl) (fun r_2 hw_1 => ?_)
  rcases hw_1 with ⟨hr_2, hw_1⟩ | ⟨hr_2, hw_1⟩
  ·
    refine W_top (y := .int 1) (by rw [hr_2]) ?_
    refine lv_if_eq (tgt := 16) hx hb dX9_state_4 (by decide) (fun c_3 => absurd c_3 (by decide)) (fun c_3 => ?_)
    refine lv_aload_n hx hb dX9_state_7 rfl (lv_at hl 0 rfl) ?_
    refine va_get (D := D) (ci := 9) (v := .ref (cm 47)) (C := RX9) (T := TX9) (N := 68) hx hb htb iX9 hown hK.1 hP 0 rfl rfl 47 (by decide) (htb _ k_1005) (fun _ h9 => h9) rfl dX9_state_8 ?_
    refine lv_iload_n hx hb dX9_state_11 rfl (lv_at hl 1 rfl) ?_
    refine va_iald hx hb hK.1 hP 1 0 rfl rfl (g_in rfl (by omega) (by omega)) dX9_state_12 ?_
    refine W_top (y := .int 0) rfl ?_
    refine lv_goto (tgt := 17) hx hb dX9_state_13 (by decide) ?_
    exact W.iret (v := 0) hx hb hr (fun t ht hW => ⟨0, rfl, by first | exact Or.inl ⟨rfl, by omega⟩ | (exfalso; omega), ht⟩) (fun q h => by cases h) dX9_state_17
  ·
    refine W_top (y := .int 0) (by rw [hr_2]) ?_
    refine lv_if_eq (tgt := 16) hx hb dX9_state_4 (by decide) (fun c_4 => ?_) (fun c_4 => absurd (by decide) c_4)
    refine lv_iconst (v := (-1)) hx hb dX9_state_16 (by decide) ?_
    exact W.iret (v := (-1)) hx hb hr (fun t ht hW => ⟨(-1), rfl, by first | exact Or.inr ⟨rfl, by omega⟩ | (exfalso; omega), ht⟩) (fun q h => by cases h) dX9_state_17
set_option maxHeartbeats 4000000 in
set_option maxRecDepth 100000 in
theorem c_X9_deal (l : Launch) (D : va_G) (E : Nat → Nat) (k0 : Nat) (cm : Nat → Nat) (p0 : Int32) (p1 : Int32) (p2 : Int32)  : Met l yX9_deal (wl yX9_deal cX9_deal 9 (some .int)) (RM 1 0 0) (rd_P D E [.ref k0, .int p0, .int p1, .int p2] [(k0, .inr (9, mF cm 0 0 0 0 0 0 0 0 0))]) (rd_Q (fun r => (r = (-4) ∧ ((1 ≤ p0.toInt ∧ p0.toInt ≤ 400) ∧ (0 ≤ p1.toInt ∧ p1.toInt ≤ 400) ∧ (0 ≤ p2.toInt ∧ p2.toInt ≤ 400) ∧ ¬ (p1.toInt = 0 ∧ p2.toInt ≠ 0))) ∨ (r = (-1) ∧ ¬ ((1 ≤ p0.toInt ∧ p0.toInt ≤ 400) ∧ (0 ≤ p1.toInt ∧ p1.toInt ≤ 400) ∧ (0 ≤ p2.toInt ∧ p2.toInt ≤ 400) ∧ ¬ (p1.toInt = 0 ∧ p2.toInt ≠ 0))))) 0 0 (fun _ => False) := by
  refine Met.ofW (cc := cX9_deal) (maxL := 9) (ret := (some .int)) (by decide) rfl ?_
  intro p e s m args below meth c s₁ B hml hv
  obtain ⟨rfl, hP, hK⟩ := hv
  have hx := B.exec
  have hb := B.bytes
  have hr := B.returns
  have hts := atoms_spec (ws := wl yX9_deal cX9_deal 9 (some .int)) B.pre
  have htb : ∀ w ∈ tb, w.before _ s = true := fun w h => hts w (List.mem_cons_of_mem _ h)
  have hown : s.vm.findClass RX9 = some m.cls := findClass_of_methodNamed B.named
  have hlocks := B.notSynchronized
  have hP : va_P D vwCl [(k0, .inr (9, mF cm 0 0 0 0 0 0 0 0 0))] s.heap := hP
  have hl := lv_entry ([.ref k0, .int p0, .int p1, .int p2]) (n := 9) (Nat.le_of_ble_eq_true rfl)
  rw [lg_entry_eq]
  generalize (lg_sl ([.ref k0, .int p0, .int p1, .int p2]) ++ List.replicate (9 - (lg_sl ([.ref k0, .int p0, .int p1, .int p2])).length) Slot.unset).toArray = ls at hl ⊢
  have hl : lv_has ls 9 [(0, .ref k0), (1, .int p0), (2, .int p1), (3, .int p2)] := hl
  have lo_p0 := i_lo p0
  have hi_p0 := i_hi p0
  have lo_p1 := i_lo p1
  have hi_p1 := i_hi p1
  have lo_p2 := i_lo p2
  have hi_p2 := i_hi p2
  refine lv_iload_n hx hb dX9_deal_0 rfl (lv_at hl 1 rfl) ?_
  refine lv_iconst (v := 1) hx hb dX9_deal_1 (by decide) ?_
  refine lv_sipush (v := 400) hx hb dX9_deal_2 (by decide) ?_
  refine callRS (rest := []) (As := [.int p0, .int 1, .int 400]) hx hb hml hown htb hK (c_X9_in l D E p0 1 400 ) ok_X9_in k_1168 k_1169 k_9 k_1170 ⟨(Nat.le_of_ble_eq_true rfl), (Nat.le_of_ble_eq_true rfl)⟩ ⟨(Nat.le_of_ble_eq_true rfl), (Nat.le_of_ble_eq_true rfl)⟩ hl.1 (Nat.le_of_ble_eq_true rfl) rfl rfl dX9_deal_5 (hP.sub (ws' := ([] : va_W)) [] rfl) (fun r_2 hw_1 => ?_)
  rcases hw_1 with ⟨hr_2, hw_1⟩ | ⟨hr_2, hw_1⟩
  ·
    try simp only [t_1, t_400] at hw_1
    refine W_top (y := .int 1) (by rw [hr_2]) ?_
    refine lv_if_eq (tgt := 41) hx hb dX9_deal_8 (by decide) (fun c_3 => absurd c_3 (by decide)) (fun c_3 => ?_)
    refine lv_iload_n hx hb dX9_deal_11 rfl (lv_at hl 2 rfl) ?_
    refine lv_iconst (v := 0) hx hb dX9_deal_12 (by decide) ?_
    refine lv_sipush (v := 400) hx hb dX9_deal_13 (by decide) ?_
    refine callRS (rest := []) (As := [.int p1, .int 0, .int 400]) hx hb hml hown htb hK (c_X9_in l D E p1 0 400 ) ok_X9_in k_1168 k_1169 k_9 k_1170 ⟨(Nat.le_of_ble_eq_true rfl), (Nat.le_of_ble_eq_true rfl)⟩ ⟨(Nat.le_of_ble_eq_true rfl), (Nat.le_of_ble_eq_true rfl)⟩ hl.1 (Nat.le_of_ble_eq_true rfl) rfl rfl dX9_deal_16 (hP.sub (ws' := ([] : va_W)) [] rfl) (fun r_5 hw_4 => ?_)
    rcases hw_4 with ⟨hr_5, hw_4⟩ | ⟨hr_5, hw_4⟩
    ·
      try simp only [t_0, t_400] at hw_4
      refine W_top (y := .int 1) (by rw [hr_5]) ?_
      refine lv_if_eq (tgt := 41) hx hb dX9_deal_19 (by decide) (fun c_6 => absurd c_6 (by decide)) (fun c_6 => ?_)
      refine lv_iload_n hx hb dX9_deal_22 rfl (lv_at hl 3 rfl) ?_
      refine lv_iconst (v := 0) hx hb dX9_deal_23 (by decide) ?_
      refine lv_sipush (v := 400) hx hb dX9_deal_24 (by decide) ?_
      refine callRS (rest := []) (As := [.int p2, .int 0, .int 400]) hx hb hml hown htb hK (c_X9_in l D E p2 0 400 ) ok_X9_in k_1168 k_1169 k_9 k_1170 ⟨(Nat.le_of_ble_eq_true rfl), (Nat.le_of_ble_eq_true rfl)⟩ ⟨(Nat.le_of_ble_eq_true rfl), (Nat.le_of_ble_eq_true rfl)⟩ hl.1 (Nat.le_of_ble_eq_true rfl) rfl rfl dX9_deal_27 (hP.sub (ws' := ([] : va_W)) [] rfl) (fun r_8 hw_7 => ?_)
      rcases hw_7 with ⟨hr_8, hw_7⟩ | ⟨hr_8, hw_7⟩
      ·
        try simp only [t_0, t_400] at hw_7
        refine W_top (y := .int 1) (by rw [hr_8]) ?_
        refine lv_if_eq (tgt := 41) hx hb dX9_deal_30 (by decide) (fun c_9 => absurd c_9 (by decide)) (fun c_9 => ?_)
        refine lv_iload_n hx hb dX9_deal_33 rfl (lv_at hl 2 rfl) ?_
        refine lv_if_ne (tgt := 43) hx hb dX9_deal_34 (by decide) (fun c_10 => ?_) (fun c_10 => ?_)
        ·
          have ic_10 : p1.toInt ≠ 0 := mt (g_eq rfl t_0).mpr c_10
          refine lv_iload_n hx hb dX9_deal_43 rfl (lv_at hl 2 rfl) ?_
          refine lv_if_ne (tgt := 51) hx hb dX9_deal_44 (by decide) (fun c_11 => ?_) (fun c_11 => absurd c_11 (by rw [g_eq rfl t_0]; omega))
          refine lv_iload_n hx hb dX9_deal_51 rfl (lv_at hl 3 rfl) ?_
          refine lv_if_ne (tgt := 59) hx hb dX9_deal_52 (by decide) (fun c_12 => ?_) (fun c_12 => ?_)
          ·
            have ic_12 : p2.toInt ≠ 0 := mt (g_eq rfl t_0).mpr c_12
            refine lv_iconst (v := 3) hx hb dX9_deal_59 (by decide) ?_
            refine lv_istore (lv' := [(4, .int 3), (0, .ref k0), (1, .int p0), (2, .int p1), (3, .int p2)]) hx hb dX9_deal_60 hl (by decide) rfl (fun ls hl => ?_)
            refine lv_aload_n hx hb dX9_deal_62 rfl (lv_at hl 1 rfl) ?_
            refine va_get (D := D) (ci := 9) (v := .int 0) (C := RX9) (T := TX9) (N := 68) hx hb htb iX9 hown hK.1 hP 0 rfl rfl 61 (by decide) (htb _ k_1019) (fun _ h9 => h9) rfl dX9_deal_63 ?_
            refine lv_iconst (v := 3) hx hb dX9_deal_66 (by decide) ?_
            refine lv_iload hx hb dX9_deal_67 (lv_at hl 0 rfl) ?_
            refine lv_imul hx hb dX9_deal_69 ?_
            refine W_top (y := .int 9) (by decide) ?_
            refine lv_icmp_ge (tgt := 76) hx hb dX9_deal_70 (by decide) (fun c_13 => absurd c_13 (by decide)) (fun c_13 => ?_)
            refine lv_bipush (v := (-4)) hx hb dX9_deal_73 (by decide) ?_
            exact W.iret (v := (-4)) hx hb hr (fun t ht hW => ⟨(-4), rfl, by first | exact Or.inl ⟨rfl, by omega⟩ | (exfalso; omega), ht⟩) (fun q h => by cases h) dX9_deal_75
          ·
            have ic_12 : p2.toInt = 0 := (g_eq rfl t_0).mp c_12
            refine lv_iconst (v := 2) hx hb dX9_deal_55 (by decide) ?_
            refine lv_goto (tgt := 60) hx hb dX9_deal_56 (by decide) ?_
            refine lv_istore (lv' := [(4, .int 2), (0, .ref k0), (1, .int p0), (2, .int p1), (3, .int p2)]) hx hb dX9_deal_60 hl (by decide) rfl (fun ls hl => ?_)
            refine lv_aload_n hx hb dX9_deal_62 rfl (lv_at hl 1 rfl) ?_
            refine va_get (D := D) (ci := 9) (v := .int 0) (C := RX9) (T := TX9) (N := 68) hx hb htb iX9 hown hK.1 hP 0 rfl rfl 61 (by decide) (htb _ k_1019) (fun _ h9 => h9) rfl dX9_deal_63 ?_
            refine lv_iconst (v := 3) hx hb dX9_deal_66 (by decide) ?_
            refine lv_iload hx hb dX9_deal_67 (lv_at hl 0 rfl) ?_
            refine lv_imul hx hb dX9_deal_69 ?_
            refine W_top (y := .int 6) (by decide) ?_
            refine lv_icmp_ge (tgt := 76) hx hb dX9_deal_70 (by decide) (fun c_14 => absurd c_14 (by decide)) (fun c_14 => ?_)
            refine lv_bipush (v := (-4)) hx hb dX9_deal_73 (by decide) ?_
            exact W.iret (v := (-4)) hx hb hr (fun t ht hW => ⟨(-4), rfl, by first | exact Or.inl ⟨rfl, by omega⟩ | (exfalso; omega), ht⟩) (fun q h => by cases h) dX9_deal_75
        ·
          have ic_10 : p1.toInt = 0 := (g_eq rfl t_0).mp c_10
          refine lv_iload_n hx hb dX9_deal_37 rfl (lv_at hl 3 rfl) ?_
          refine lv_if_le (tgt := 43) hx hb dX9_deal_38 (by decide) (fun c_15 => ?_) (fun c_15 => ?_)
          ·
            have ic_15 : p2.toInt ≤ 0 := by first | exact (g_le rfl t_0).mp c_15 | (have h := mt (g_lt t_0 rfl).mpr c_15; omega)
            refine lv_iload_n hx hb dX9_deal_43 rfl (lv_at hl 2 rfl) ?_
            refine lv_if_ne (tgt := 51) hx hb dX9_deal_44 (by decide) (fun c_16 => absurd (by rw [g_eq rfl t_0]; omega) c_16) (fun c_16 => ?_)
            refine lv_iconst (v := 1) hx hb dX9_deal_47 (by decide) ?_
            refine lv_goto (tgt := 60) hx hb dX9_deal_48 (by decide) ?_
            refine lv_istore (lv' := [(4, .int 1), (0, .ref k0), (1, .int p0), (2, .int p1), (3, .int p2)]) hx hb dX9_deal_60 hl (by decide) rfl (fun ls hl => ?_)
            refine lv_aload_n hx hb dX9_deal_62 rfl (lv_at hl 1 rfl) ?_
            refine va_get (D := D) (ci := 9) (v := .int 0) (C := RX9) (T := TX9) (N := 68) hx hb htb iX9 hown hK.1 hP 0 rfl rfl 61 (by decide) (htb _ k_1019) (fun _ h9 => h9) rfl dX9_deal_63 ?_
            refine lv_iconst (v := 3) hx hb dX9_deal_66 (by decide) ?_
            refine lv_iload hx hb dX9_deal_67 (lv_at hl 0 rfl) ?_
            refine lv_imul hx hb dX9_deal_69 ?_
            refine W_top (y := .int 3) (by decide) ?_
            refine lv_icmp_ge (tgt := 76) hx hb dX9_deal_70 (by decide) (fun c_17 => absurd c_17 (by decide)) (fun c_17 => ?_)
            refine lv_bipush (v := (-4)) hx hb dX9_deal_73 (by decide) ?_
            exact W.iret (v := (-4)) hx hb hr (fun t ht hW => ⟨(-4), rfl, by first | exact Or.inl ⟨rfl, by omega⟩ | (exfalso; omega), ht⟩) (fun q h => by cases h) dX9_deal_75
          ·
            have ic_15 : 0 < p2.toInt := by first | exact (g_lt t_0 rfl).mp c_15 | (have h := mt (g_le rfl t_0).mpr c_15; omega)
            refine lv_iconst (v := (-1)) hx hb dX9_deal_41 (by decide) ?_
            exact W.iret (v := (-1)) hx hb hr (fun t ht hW => ⟨(-1), rfl, by first | exact Or.inr ⟨rfl, by omega⟩ | (exfalso; omega), ht⟩) (fun q h => by cases h) dX9_deal_42
      ·
        try simp only [t_0, t_400] at hw_7
        refine W_top (y := .int 0) (by rw [hr_8]) ?_
        refine lv_if_eq (tgt := 41) hx hb dX9_deal_30 (by decide) (fun c_18 => ?_) (fun c_18 => absurd (by decide) c_18)
        refine lv_iconst (v := (-1)) hx hb dX9_deal_41 (by decide) ?_
        exact W.iret (v := (-1)) hx hb hr (fun t ht hW => ⟨(-1), rfl, by first | exact Or.inr ⟨rfl, by omega⟩ | (exfalso; omega), ht⟩) (fun q h => by cases h) dX9_deal_42
    ·
      try simp only [t_0, t_400] at hw_4
      refine W_top (y := .int 0) (by rw [hr_5]) ?_
      refine lv_if_eq (tgt := 41) hx hb dX9_deal_19 (by decide) (fun c_19 => ?_) (fun c_19 => absurd (by decide) c_19)
      refine lv_iconst (v := (-1)) hx hb dX9_deal_41 (by decide) ?_
      exact W.iret (v := (-1)) hx hb hr (fun t ht hW => ⟨(-1), rfl, by first | exact Or.inr ⟨rfl, by omega⟩ | (exfalso; omega), ht⟩) (fun q h => by cases h) dX9_deal_42
  ·
    try simp only [t_1, t_400] at hw_1
    refine W_top (y := .int 0) (by rw [hr_2]) ?_
    refine lv_if_eq (tgt := 41) hx hb dX9_deal_8 (by decide) (fun c_20 => ?_) (fun c_20 => absurd (by decide) c_20)
    refine lv_iconst (v := (-1)) hx hb dX9_deal_41 (by decide) ?_
    exact W.iret (v := (-1)) hx hb hr (fun t ht hW => ⟨(-1), rfl, by first | exact Or.inr ⟨rfl, by omega⟩ | (exfalso; omega), ht⟩) (fun q h => by cases h) dX9_deal_42
set_option maxHeartbeats 4000000 in
set_option maxRecDepth 100000 in
theorem c_X9_dealt (l : Launch) (D : va_G) (E : Nat → Nat) (k0 : Nat) (cm : Nat → Nat) (p0 : Int32)  : Met l yX9_dealt (wl yX9_dealt cX9_dealt 2 (some .int)) (RM 1 0 0) (rd_P D E [.ref k0, .int p0] [(k0, .inr (9, mF cm 0 0 0 0 0 0 0 0 0))]) (rd_Q (fun r => (r = (-2000000000) ∧ True))) 0 0 (fun _ => False) := by
  refine Met.ofW (cc := cX9_dealt) (maxL := 2) (ret := (some .int)) (by decide) rfl ?_
  intro p e s m args below meth c s₁ B hml hv
  obtain ⟨rfl, hP, hK⟩ := hv
  have hx := B.exec
  have hb := B.bytes
  have hr := B.returns
  have hts := atoms_spec (ws := wl yX9_dealt cX9_dealt 2 (some .int)) B.pre
  have htb : ∀ w ∈ tb, w.before _ s = true := fun w h => hts w (List.mem_cons_of_mem _ h)
  have hown : s.vm.findClass RX9 = some m.cls := findClass_of_methodNamed B.named
  have hlocks := B.notSynchronized
  have hP : va_P D vwCl [(k0, .inr (9, mF cm 0 0 0 0 0 0 0 0 0))] s.heap := hP
  have hl := lv_entry ([.ref k0, .int p0]) (n := 2) (Nat.le_of_ble_eq_true rfl)
  rw [lg_entry_eq]
  generalize (lg_sl ([.ref k0, .int p0]) ++ List.replicate (2 - (lg_sl ([.ref k0, .int p0])).length) Slot.unset).toArray = ls at hl ⊢
  have hl : lv_has ls 2 [(0, .ref k0), (1, .int p0)] := hl
  have lo_p0 := i_lo p0
  have hi_p0 := i_hi p0
  refine lv_iload_n hx hb dX9_dealt_0 rfl (lv_at hl 1 rfl) ?_
  refine lv_iconst (v := 0) hx hb dX9_dealt_1 (by decide) ?_
  refine lv_aload_n hx hb dX9_dealt_2 rfl (lv_at hl 0 rfl) ?_
  refine va_get (D := D) (ci := 9) (v := .int 0) (C := RX9) (T := TX9) (N := 68) hx hb htb iX9 hown hK.1 hP 0 rfl rfl 64 (by decide) (htb _ k_1022) (fun _ h9 => h9) rfl dX9_dealt_3 ?_
  refine lv_iconst (v := 1) hx hb dX9_dealt_6 (by decide) ?_
  refine lv_isub hx hb dX9_dealt_7 ?_
  refine W_top (y := .int (-1)) (by decide) ?_
  refine callRS (rest := []) (As := [.int p0, .int 0, .int (-1)]) hx hb hml hown htb hK (c_X9_in l D E p0 0 (-1) ) ok_X9_in k_1168 k_1169 k_9 k_1170 ⟨(Nat.le_of_ble_eq_true rfl), (Nat.le_of_ble_eq_true rfl)⟩ ⟨(Nat.le_of_ble_eq_true rfl), (Nat.le_of_ble_eq_true rfl)⟩ hl.1 (Nat.le_of_ble_eq_true rfl) rfl rfl dX9_dealt_8 (hP.sub (ws' := ([] : va_W)) [] rfl) (fun r_2 hw_1 => ?_)
  rcases hw_1 with ⟨hr_2, hw_1⟩ | ⟨hr_2, hw_1⟩
  ·
    try simp only [t_m1, t_0] at hw_1
    refine W_top (y := .int 1) (by rw [hr_2]) ?_
    exfalso; omega
  ·
    try simp only [t_m1, t_0] at hw_1
    refine W_top (y := .int 0) (by rw [hr_2]) ?_
    refine lv_if_ne (tgt := 19) hx hb dX9_dealt_11 (by decide) (fun c_3 => absurd (by decide) c_3) (fun c_3 => ?_)
    refine lv_ldc hx hb hown (htb _ k_1205) dX9_dealt_14 ?_
    refine lv_goto (tgt := 39) hx hb dX9_dealt_16 (by decide) ?_
    exact W.iret (v := (-2000000000)) hx hb hr (fun t ht hW => ⟨(-2000000000), rfl, ⟨rfl, trivial⟩, ht⟩) (fun q h => by cases h) dX9_dealt_39
set_option maxHeartbeats 4000000 in
set_option maxRecDepth 100000 in
theorem c_X9_lend (l : Launch) (D : va_G) (E : Nat → Nat) (k0 : Nat) (cm : Nat → Nat) (p0 : Int32) (p1 : Int32)  : Met l yX9_lend (wl yX9_lend cX9_lend 4 (some .int)) (RM 3 0 0) (rd_P D E [.ref k0, .int p0, .int p1] [(k0, .inr (9, mF cm 0 0 0 0 0 0 0 0 0)), ((cm 3), .inl (E 0, 16, .inl (fun _ => -5)))]) (rd_Q (fun r => (r = (-2) ∧ ((0 ≤ p0.toInt ∧ p0.toInt ≤ 15) ∧ (0 ≤ p1.toInt ∧ p1.toInt ≤ 19))) ∨ (r = (-1) ∧ ¬ ((0 ≤ p0.toInt ∧ p0.toInt ≤ 15) ∧ (0 ≤ p1.toInt ∧ p1.toInt ≤ 19))))) 0 0 (fun _ => False) := by
  refine Met.ofW (cc := cX9_lend) (maxL := 4) (ret := (some .int)) (by decide) rfl ?_
  intro p e s m args below meth c s₁ B hml hv
  obtain ⟨rfl, hP, hK⟩ := hv
  have hx := B.exec
  have hb := B.bytes
  have hr := B.returns
  have hts := atoms_spec (ws := wl yX9_lend cX9_lend 4 (some .int)) B.pre
  have htb : ∀ w ∈ tb, w.before _ s = true := fun w h => hts w (List.mem_cons_of_mem _ h)
  have hown : s.vm.findClass RX9 = some m.cls := findClass_of_methodNamed B.named
  have hlocks := B.notSynchronized
  have hP : va_P D vwCl [(k0, .inr (9, mF cm 0 0 0 0 0 0 0 0 0)), ((cm 3), .inl (E 0, 16, .inl (fun _ => -5)))] s.heap := hP
  have hl := lv_entry ([.ref k0, .int p0, .int p1]) (n := 4) (Nat.le_of_ble_eq_true rfl)
  rw [lg_entry_eq]
  generalize (lg_sl ([.ref k0, .int p0, .int p1]) ++ List.replicate (4 - (lg_sl ([.ref k0, .int p0, .int p1])).length) Slot.unset).toArray = ls at hl ⊢
  have hl : lv_has ls 4 [(0, .ref k0), (1, .int p0), (2, .int p1)] := hl
  have lo_p0 := i_lo p0
  have hi_p0 := i_hi p0
  have lo_p1 := i_lo p1
  have hi_p1 := i_hi p1
  refine lv_iload_n hx hb dX9_lend_0 rfl (lv_at hl 1 rfl) ?_
  refine callRS (rest := []) (As := [.int p0]) hx hb hml hown htb hK (c_X9_isPlace l D E p0 ) ok_X9_isPlace k_1182 k_1183 k_9 k_1184 ⟨(Nat.le_of_ble_eq_true rfl), (Nat.le_of_ble_eq_true rfl)⟩ ⟨(Nat.le_of_ble_eq_true rfl), (Nat.le_of_ble_eq_true rfl)⟩ hl.1 (Nat.le_of_ble_eq_true rfl) rfl rfl dX9_lend_1 (hP.sub (ws' := ([] : va_W)) [] rfl) (fun r_2 hw_1 => ?_)
  rcases hw_1 with ⟨hr_2, hw_1⟩ | ⟨hr_2, hw_1⟩
  ·
    refine W_top (y := .int 1) (by rw [hr_2]) ?_
    refine lv_if_eq (tgt := 17) hx hb dX9_lend_4 (by decide) (fun c_3 => absurd c_3 (by decide)) (fun c_3 => ?_)
    refine lv_iload_n hx hb dX9_lend_7 rfl (lv_at hl 2 rfl) ?_
    refine lv_iconst (v := 0) hx hb dX9_lend_8 (by decide) ?_
    refine lv_bipush (v := 19) hx hb dX9_lend_9 (by decide) ?_
    refine callRS (rest := []) (As := [.int p1, .int 0, .int 19]) hx hb hml hown htb hK (c_X9_in l D E p1 0 19 ) ok_X9_in k_1168 k_1169 k_9 k_1170 ⟨(Nat.le_of_ble_eq_true rfl), (Nat.le_of_ble_eq_true rfl)⟩ ⟨(Nat.le_of_ble_eq_true rfl), (Nat.le_of_ble_eq_true rfl)⟩ hl.1 (Nat.le_of_ble_eq_true rfl) rfl rfl dX9_lend_11 (hP.sub (ws' := ([] : va_W)) [] rfl) (fun r_5 hw_4 => ?_)
    rcases hw_4 with ⟨hr_5, hw_4⟩ | ⟨hr_5, hw_4⟩
    ·
      try simp only [t_0, t_19] at hw_4
      refine W_top (y := .int 1) (by rw [hr_5]) ?_
      refine lv_if_ne (tgt := 19) hx hb dX9_lend_14 (by decide) (fun c_6 => ?_) (fun c_6 => absurd c_6 (by decide))
      refine lv_aload_n hx hb dX9_lend_19 rfl (lv_at hl 0 rfl) ?_
      refine lv_iload_n hx hb dX9_lend_20 rfl (lv_at hl 1 rfl) ?_
      refine callRV (rest := []) (As := [.int p0]) hx hb hml hown htb hK (c_X9_watchAt l D E k0 cm p0 ) ok_X9_watchAt k_1212 k_1214 ks_41 k_9 k_1215 ⟨(Nat.le_of_ble_eq_true rfl), (Nat.le_of_ble_eq_true rfl)⟩ ⟨(Nat.le_of_ble_eq_true rfl), (Nat.le_of_ble_eq_true rfl)⟩ hl.1 (Nat.le_of_ble_eq_true rfl) rfl rfl dX9_lend_21 (hP.sub (ws' := [(k0, .inr (9, mF cm 0 0 0 0 0 0 0 0 0)), ((cm 3), .inl (E 0, 16, .inl (fun _ => -5)))]) [0, 1] rfl) rfl rfl 0 rfl (fun r_8 hw_7 => ?_)
      rcases hw_7 with ⟨hr_8, hw_7⟩ | ⟨hr_8, hw_7⟩
      ·
        refine W_top (y := .int (-2)) (by rw [hr_8]) ?_
        refine lv_istore_n (lv' := [(3, .int (-2)), (0, .ref k0), (1, .int p0), (2, .int p1)]) hx hb dX9_lend_24 rfl hl (by decide) rfl (fun ls hl => ?_)
        refine lv_iload_n hx hb dX9_lend_25 rfl (lv_at hl 0 rfl) ?_
        refine lv_if_ge (tgt := 31) hx hb dX9_lend_26 (by decide) (fun c_9 => absurd c_9 (by decide)) (fun c_9 => ?_)
        refine lv_iload_n hx hb dX9_lend_29 rfl (lv_at hl 0 rfl) ?_
        exact W.iret (v := (-2)) hx hb hr (fun t ht hW => ⟨(-2), rfl, by first | exact Or.inl ⟨rfl, by omega⟩ | (exfalso; omega), ht⟩) (fun q h => by cases h) dX9_lend_30
      ·
        refine W_top (y := .int (-1)) (by rw [hr_8]) ?_
        refine lv_istore_n (lv' := [(3, .int (-1)), (0, .ref k0), (1, .int p0), (2, .int p1)]) hx hb dX9_lend_24 rfl hl (by decide) rfl (fun ls hl => ?_)
        refine lv_iload_n hx hb dX9_lend_25 rfl (lv_at hl 0 rfl) ?_
        refine lv_if_ge (tgt := 31) hx hb dX9_lend_26 (by decide) (fun c_10 => absurd c_10 (by decide)) (fun c_10 => ?_)
        refine lv_iload_n hx hb dX9_lend_29 rfl (lv_at hl 0 rfl) ?_
        exact W.iret (v := (-1)) hx hb hr (fun t ht hW => ⟨(-1), rfl, by first | exact Or.inr ⟨rfl, by omega⟩ | (exfalso; omega), ht⟩) (fun q h => by cases h) dX9_lend_30
    ·
      try simp only [t_0, t_19] at hw_4
      refine W_top (y := .int 0) (by rw [hr_5]) ?_
      refine lv_if_ne (tgt := 19) hx hb dX9_lend_14 (by decide) (fun c_11 => absurd (by decide) c_11) (fun c_11 => ?_)
      refine lv_iconst (v := (-1)) hx hb dX9_lend_17 (by decide) ?_
      exact W.iret (v := (-1)) hx hb hr (fun t ht hW => ⟨(-1), rfl, by first | exact Or.inr ⟨rfl, by omega⟩ | (exfalso; omega), ht⟩) (fun q h => by cases h) dX9_lend_18
  ·
    refine W_top (y := .int 0) (by rw [hr_2]) ?_
    refine lv_if_eq (tgt := 17) hx hb dX9_lend_4 (by decide) (fun c_12 => ?_) (fun c_12 => absurd (by decide) c_12)
    refine lv_iconst (v := (-1)) hx hb dX9_lend_17 (by decide) ?_
    exact W.iret (v := (-1)) hx hb hr (fun t ht hW => ⟨(-1), rfl, by first | exact Or.inr ⟨rfl, by omega⟩ | (exfalso; omega), ht⟩) (fun q h => by cases h) dX9_lend_18
set_option maxHeartbeats 4000000 in
set_option maxRecDepth 100000 in
theorem c_X9_home (l : Launch) (D : va_G) (E : Nat → Nat) (k0 : Nat) (cm : Nat → Nat) (p0 : Int32)  : Met l yX9_home (wl yX9_home cX9_home 3 (some .int)) (RM 3 0 0) (rd_P D E [.ref k0, .int p0] [(k0, .inr (9, mF cm 0 0 0 0 0 0 0 0 0)), ((cm 3), .inl (E 0, 16, .inl (fun _ => -5)))]) (rd_Q (fun r => (r = (-2) ∧ (0 ≤ p0.toInt ∧ p0.toInt ≤ 15)) ∨ (r = (-1) ∧ ¬ (0 ≤ p0.toInt ∧ p0.toInt ≤ 15)))) 0 0 (fun _ => False) := by
  refine Met.ofW (cc := cX9_home) (maxL := 3) (ret := (some .int)) (by decide) rfl ?_
  intro p e s m args below meth c s₁ B hml hv
  obtain ⟨rfl, hP, hK⟩ := hv
  have hx := B.exec
  have hb := B.bytes
  have hr := B.returns
  have hts := atoms_spec (ws := wl yX9_home cX9_home 3 (some .int)) B.pre
  have htb : ∀ w ∈ tb, w.before _ s = true := fun w h => hts w (List.mem_cons_of_mem _ h)
  have hown : s.vm.findClass RX9 = some m.cls := findClass_of_methodNamed B.named
  have hlocks := B.notSynchronized
  have hP : va_P D vwCl [(k0, .inr (9, mF cm 0 0 0 0 0 0 0 0 0)), ((cm 3), .inl (E 0, 16, .inl (fun _ => -5)))] s.heap := hP
  have hl := lv_entry ([.ref k0, .int p0]) (n := 3) (Nat.le_of_ble_eq_true rfl)
  rw [lg_entry_eq]
  generalize (lg_sl ([.ref k0, .int p0]) ++ List.replicate (3 - (lg_sl ([.ref k0, .int p0])).length) Slot.unset).toArray = ls at hl ⊢
  have hl : lv_has ls 3 [(0, .ref k0), (1, .int p0)] := hl
  have lo_p0 := i_lo p0
  have hi_p0 := i_hi p0
  refine lv_aload_n hx hb dX9_home_0 rfl (lv_at hl 0 rfl) ?_
  refine lv_iload_n hx hb dX9_home_1 rfl (lv_at hl 1 rfl) ?_
  refine callRV (rest := []) (As := [.int p0]) hx hb hml hown htb hK (c_X9_watchAt l D E k0 cm p0 ) ok_X9_watchAt k_1212 k_1214 ks_41 k_9 k_1215 ⟨(Nat.le_of_ble_eq_true rfl), (Nat.le_of_ble_eq_true rfl)⟩ ⟨(Nat.le_of_ble_eq_true rfl), (Nat.le_of_ble_eq_true rfl)⟩ hl.1 (Nat.le_of_ble_eq_true rfl) rfl rfl dX9_home_2 (hP.sub (ws' := [(k0, .inr (9, mF cm 0 0 0 0 0 0 0 0 0)), ((cm 3), .inl (E 0, 16, .inl (fun _ => -5)))]) [0, 1] rfl) rfl rfl 0 rfl (fun r_2 hw_1 => ?_)
  rcases hw_1 with ⟨hr_2, hw_1⟩ | ⟨hr_2, hw_1⟩
  ·
    refine W_top (y := .int (-2)) (by rw [hr_2]) ?_
    refine lv_istore_n (lv' := [(2, .int (-2)), (0, .ref k0), (1, .int p0)]) hx hb dX9_home_5 rfl hl (by decide) rfl (fun ls hl => ?_)
    refine lv_iload_n hx hb dX9_home_6 rfl (lv_at hl 0 rfl) ?_
    refine lv_if_ge (tgt := 12) hx hb dX9_home_7 (by decide) (fun c_3 => absurd c_3 (by decide)) (fun c_3 => ?_)
    refine lv_iload_n hx hb dX9_home_10 rfl (lv_at hl 0 rfl) ?_
    exact W.iret (v := (-2)) hx hb hr (fun t ht hW => ⟨(-2), rfl, by first | exact Or.inl ⟨rfl, by omega⟩ | (exfalso; omega), ht⟩) (fun q h => by cases h) dX9_home_11
  ·
    refine W_top (y := .int (-1)) (by rw [hr_2]) ?_
    refine lv_istore_n (lv' := [(2, .int (-1)), (0, .ref k0), (1, .int p0)]) hx hb dX9_home_5 rfl hl (by decide) rfl (fun ls hl => ?_)
    refine lv_iload_n hx hb dX9_home_6 rfl (lv_at hl 0 rfl) ?_
    refine lv_if_ge (tgt := 12) hx hb dX9_home_7 (by decide) (fun c_4 => absurd c_4 (by decide)) (fun c_4 => ?_)
    refine lv_iload_n hx hb dX9_home_10 rfl (lv_at hl 0 rfl) ?_
    exact W.iret (v := (-1)) hx hb hr (fun t ht hW => ⟨(-1), rfl, by first | exact Or.inr ⟨rfl, by omega⟩ | (exfalso; omega), ht⟩) (fun q h => by cases h) dX9_home_11
set_option maxHeartbeats 4000000 in
set_option maxRecDepth 100000 in
theorem c_X9_holder (l : Launch) (D : va_G) (E : Nat → Nat) (k0 : Nat) (cm : Nat → Nat) (p0 : Int32) (p1 : Int32)  : Met l yX9_holder (wl yX9_holder cX9_holder 3 (some .int)) (RM 3 0 0) (rd_P D E [.ref k0, .int p0, .int p1] [(k0, .inr (9, mF cm 0 0 0 0 0 0 0 0 0)), ((cm 3), .inl (E 0, 16, .inl (fun _ => -5)))]) (rd_Q (fun r => (r = (-2000000000) ∧ True))) 0 0 (fun _ => False) := by
  refine Met.ofW (cc := cX9_holder) (maxL := 3) (ret := (some .int)) (by decide) rfl ?_
  intro p e s m args below meth c s₁ B hml hv
  obtain ⟨rfl, hP, hK⟩ := hv
  have hx := B.exec
  have hb := B.bytes
  have hr := B.returns
  have hts := atoms_spec (ws := wl yX9_holder cX9_holder 3 (some .int)) B.pre
  have htb : ∀ w ∈ tb, w.before _ s = true := fun w h => hts w (List.mem_cons_of_mem _ h)
  have hown : s.vm.findClass RX9 = some m.cls := findClass_of_methodNamed B.named
  have hlocks := B.notSynchronized
  have hP : va_P D vwCl [(k0, .inr (9, mF cm 0 0 0 0 0 0 0 0 0)), ((cm 3), .inl (E 0, 16, .inl (fun _ => -5)))] s.heap := hP
  have hl := lv_entry ([.ref k0, .int p0, .int p1]) (n := 3) (Nat.le_of_ble_eq_true rfl)
  rw [lg_entry_eq]
  generalize (lg_sl ([.ref k0, .int p0, .int p1]) ++ List.replicate (3 - (lg_sl ([.ref k0, .int p0, .int p1])).length) Slot.unset).toArray = ls at hl ⊢
  have hl : lv_has ls 3 [(0, .ref k0), (1, .int p0), (2, .int p1)] := hl
  have lo_p0 := i_lo p0
  have hi_p0 := i_hi p0
  have lo_p1 := i_lo p1
  have hi_p1 := i_hi p1
  refine lv_aload_n hx hb dX9_holder_0 rfl (lv_at hl 0 rfl) ?_
  refine lv_iload_n hx hb dX9_holder_1 rfl (lv_at hl 1 rfl) ?_
  refine callRV (rest := []) (As := [.int p0]) hx hb hml hown htb hK (c_X9_watchAt l D E k0 cm p0 ) ok_X9_watchAt k_1212 k_1214 ks_41 k_9 k_1215 ⟨(Nat.le_of_ble_eq_true rfl), (Nat.le_of_ble_eq_true rfl)⟩ ⟨(Nat.le_of_ble_eq_true rfl), (Nat.le_of_ble_eq_true rfl)⟩ hl.1 (Nat.le_of_ble_eq_true rfl) rfl rfl dX9_holder_2 (hP.sub (ws' := [(k0, .inr (9, mF cm 0 0 0 0 0 0 0 0 0)), ((cm 3), .inl (E 0, 16, .inl (fun _ => -5)))]) [0, 1] rfl) rfl rfl 0 rfl (fun r_2 hw_1 => ?_)
  rcases hw_1 with ⟨hr_2, hw_1⟩ | ⟨hr_2, hw_1⟩
  ·
    refine W_top (y := .int (-2)) (by rw [hr_2]) ?_
    refine lv_if_lt (tgt := 20) hx hb dX9_holder_5 (by decide) (fun c_3 => ?_) (fun c_3 => absurd (by decide) c_3)
    refine lv_ldc hx hb hown (htb _ k_1205) dX9_holder_20 ?_
    refine lv_goto (tgt := 37) hx hb dX9_holder_22 (by decide) ?_
    exact W.iret (v := (-2000000000)) hx hb hr (fun t ht hW => ⟨(-2000000000), rfl, ⟨rfl, trivial⟩, ht⟩) (fun q h => by cases h) dX9_holder_37
  ·
    refine W_top (y := .int (-1)) (by rw [hr_2]) ?_
    refine lv_if_lt (tgt := 20) hx hb dX9_holder_5 (by decide) (fun c_4 => ?_) (fun c_4 => absurd (by decide) c_4)
    refine lv_ldc hx hb hown (htb _ k_1205) dX9_holder_20 ?_
    refine lv_goto (tgt := 37) hx hb dX9_holder_22 (by decide) ?_
    exact W.iret (v := (-2000000000)) hx hb hr (fun t ht hW => ⟨(-2000000000), rfl, ⟨rfl, trivial⟩, ht⟩) (fun q h => by cases h) dX9_holder_37
set_option maxHeartbeats 4000000 in
set_option maxRecDepth 100000 in
theorem c_X9_away (l : Launch) (D : va_G) (E : Nat → Nat) (k0 : Nat) (cm : Nat → Nat) (p0 : Int32)  : Met l yX9_away (wl yX9_away cX9_away 5 (some .int)) (RM 3 0 0) (rd_P D E [.ref k0, .int p0] [(k0, .inr (9, mF cm 0 0 0 0 0 0 0 0 0)), ((cm 3), .inl (E 0, 16, .inl (fun _ => -5)))]) (rd_Q (fun r => (r = (-2) ∧ (0 ≤ p0.toInt ∧ p0.toInt ≤ 15)) ∨ (r = (-1) ∧ ¬ (0 ≤ p0.toInt ∧ p0.toInt ≤ 15)))) 0 0 (fun _ => False) := by
  refine Met.ofW (cc := cX9_away) (maxL := 5) (ret := (some .int)) (by decide) rfl ?_
  intro p e s m args below meth c s₁ B hml hv
  obtain ⟨rfl, hP, hK⟩ := hv
  have hx := B.exec
  have hb := B.bytes
  have hr := B.returns
  have hts := atoms_spec (ws := wl yX9_away cX9_away 5 (some .int)) B.pre
  have htb : ∀ w ∈ tb, w.before _ s = true := fun w h => hts w (List.mem_cons_of_mem _ h)
  have hown : s.vm.findClass RX9 = some m.cls := findClass_of_methodNamed B.named
  have hlocks := B.notSynchronized
  have hP : va_P D vwCl [(k0, .inr (9, mF cm 0 0 0 0 0 0 0 0 0)), ((cm 3), .inl (E 0, 16, .inl (fun _ => -5)))] s.heap := hP
  have hl := lv_entry ([.ref k0, .int p0]) (n := 5) (Nat.le_of_ble_eq_true rfl)
  rw [lg_entry_eq]
  generalize (lg_sl ([.ref k0, .int p0]) ++ List.replicate (5 - (lg_sl ([.ref k0, .int p0])).length) Slot.unset).toArray = ls at hl ⊢
  have hl : lv_has ls 5 [(0, .ref k0), (1, .int p0)] := hl
  have lo_p0 := i_lo p0
  have hi_p0 := i_hi p0
  refine lv_aload_n hx hb dX9_away_0 rfl (lv_at hl 0 rfl) ?_
  refine lv_iload_n hx hb dX9_away_1 rfl (lv_at hl 1 rfl) ?_
  refine callRV (rest := []) (As := [.int p0]) hx hb hml hown htb hK (c_X9_watchAt l D E k0 cm p0 ) ok_X9_watchAt k_1212 k_1214 ks_41 k_9 k_1215 ⟨(Nat.le_of_ble_eq_true rfl), (Nat.le_of_ble_eq_true rfl)⟩ ⟨(Nat.le_of_ble_eq_true rfl), (Nat.le_of_ble_eq_true rfl)⟩ hl.1 (Nat.le_of_ble_eq_true rfl) rfl rfl dX9_away_2 (hP.sub (ws' := [(k0, .inr (9, mF cm 0 0 0 0 0 0 0 0 0)), ((cm 3), .inl (E 0, 16, .inl (fun _ => -5)))]) [0, 1] rfl) rfl rfl 0 rfl (fun r_2 hw_1 => ?_)
  rcases hw_1 with ⟨hr_2, hw_1⟩ | ⟨hr_2, hw_1⟩
  ·
    refine W_top (y := .int (-2)) (by rw [hr_2]) ?_
    refine lv_istore_n (lv' := [(2, .int (-2)), (0, .ref k0), (1, .int p0)]) hx hb dX9_away_5 rfl hl (by decide) rfl (fun ls hl => ?_)
    refine lv_iload_n hx hb dX9_away_6 rfl (lv_at hl 0 rfl) ?_
    refine lv_if_ge (tgt := 12) hx hb dX9_away_7 (by decide) (fun c_3 => absurd c_3 (by decide)) (fun c_3 => ?_)
    refine lv_iload_n hx hb dX9_away_10 rfl (lv_at hl 0 rfl) ?_
    exact W.iret (v := (-2)) hx hb hr (fun t ht hW => ⟨(-2), rfl, by first | exact Or.inl ⟨rfl, by omega⟩ | (exfalso; omega), ht⟩) (fun q h => by cases h) dX9_away_11
  ·
    refine W_top (y := .int (-1)) (by rw [hr_2]) ?_
    refine lv_istore_n (lv' := [(2, .int (-1)), (0, .ref k0), (1, .int p0)]) hx hb dX9_away_5 rfl hl (by decide) rfl (fun ls hl => ?_)
    refine lv_iload_n hx hb dX9_away_6 rfl (lv_at hl 0 rfl) ?_
    refine lv_if_ge (tgt := 12) hx hb dX9_away_7 (by decide) (fun c_4 => absurd c_4 (by decide)) (fun c_4 => ?_)
    refine lv_iload_n hx hb dX9_away_10 rfl (lv_at hl 0 rfl) ?_
    exact W.iret (v := (-1)) hx hb hr (fun t ht hW => ⟨(-1), rfl, by first | exact Or.inr ⟨rfl, by omega⟩ | (exfalso; omega), ht⟩) (fun q h => by cases h) dX9_away_11
