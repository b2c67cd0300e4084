set_option maxHeartbeats 4000000 in
set_option maxRecDepth 100000 in
theorem c_X9_watchAt (l : Launch) (D : va_G) (E : Nat → Nat) (k0 : Nat) (cm : Nat → Nat) (p0 : Int32)  : Met l yX9_watchAt (wl yX9_watchAt cX9_watchAt 2 (some .int)) (RM 2 0 0) (rd_P D E [.ref k0, .int p0] [(k0, .inr (9, mF cm 0 0 0 0 0 0 0 0 0)), ((cm 3), .inl (E 0, 16, .inl (fun _ => -5)))]) (rd_Q (fun r => (r = (-2) ∧ (0 ≤ p0.toInt ∧ p0.toInt ≤ 15)) ∨ (r = (-1) ∧ ¬ (0 ≤ p0.toInt ∧ p0.toInt ≤ 15)))) 0 0 (fun _ => False) := by
  refine Met.ofW (cc := cX9_watchAt) (maxL := 2) (ret := (some .int)) (by decide) rfl ?_
  intro p e s m args below meth c s₁ B hml hv
  obtain ⟨rfl, hP, hK⟩ := hv
  have hx := B.exec
  have hb := B.bytes
  have hr := B.returns
  have hts := atoms_spec (ws := wl yX9_watchAt cX9_watchAt 2 (some .int)) B.pre
  have htb : ∀ w ∈ tb, w.before _ s = true := fun w h => hts w (List.mem_cons_of_mem _ h)
  have hown : s.vm.findClass RX9 = some m.cls := findClass_of_methodNamed B.named
  have hlocks := B.notSynchronized
  have hP : va_P D vwCl [(k0, .inr (9, mF cm 0 0 0 0 0 0 0 0 0)), ((cm 3), .inl (E 0, 16, .inl (fun _ => -5)))] s.heap := hP
  have hl := lv_entry ([.ref k0, .int p0]) (n := 2) (Nat.le_of_ble_eq_true rfl)
  rw [lg_entry_eq]
  generalize (lg_sl ([.ref k0, .int p0]) ++ List.replicate (2 - (lg_sl ([.ref k0, .int p0])).length) Slot.unset).toArray = ls at hl ⊢
  have hl : lv_has ls 2 [(0, .ref k0), (1, .int p0)] := hl
  have lo_p0 := i_lo p0
  have hi_p0 := i_hi p0
  refine lv_iload_n hx hb dX9_watchAt_0 rfl (lv_at hl 1 rfl) ?_
  refine callRS (rest := []) (As := [.int p0]) hx hb hml hown htb hK (c_X9_isPlace l D E p0 ) ok_X9_isPlace k_1182 k_1183 k_9 k_1184 ⟨(Nat.le_of_ble_eq_true rfl), (Nat.le_of_ble_eq_true rfl)⟩ ⟨(Nat.le_of_ble_eq_true rfl), (Nat.le_of_ble_eq_true rfl)⟩ hl.1 (Nat.le_of_ble_eq_true rfl) rfl rfl dX9_watchAt_1 (hP.sub (ws' := ([] : va_W)) [] rfl) (fun r_2 hw_1 => ?_)
  rcases hw_1 with ⟨hr_2, hw_1⟩ | ⟨hr_2, hw_1⟩
  ·
    refine W_top (y := .int 1) (by rw [hr_2]) ?_
    refine lv_if_ne (tgt := 11) hx hb dX9_watchAt_4 (by decide) (fun c_3 => ?_) (fun c_3 => absurd c_3 (by decide))
    refine lv_aload_n hx hb dX9_watchAt_11 rfl (lv_at hl 0 rfl) ?_
    refine va_get (D := D) (ci := 9) (v := .ref (cm 3)) (C := RX9) (T := TX9) (N := 68) hx hb htb iX9 hown hK.1 hP 0 rfl rfl 3 (by decide) (htb _ k_961) (fun _ h9 => h9) rfl dX9_watchAt_12 ?_
    refine lv_iload_n hx hb dX9_watchAt_15 rfl (lv_at hl 1 rfl) ?_
    refine va_iald hx hb hK.1 hP 1 0 rfl rfl (g_in rfl (by omega) (by omega)) dX9_watchAt_16 ?_
    refine W_top (y := .int (-5)) rfl ?_
    refine lv_bipush (v := (-5)) hx hb dX9_watchAt_17 (by decide) ?_
    refine lv_icmp_ne (tgt := 27) hx hb dX9_watchAt_19 (by decide) (fun c_4 => absurd (by decide) c_4) (fun c_4 => ?_)
    refine lv_bipush (v := (-2)) hx hb dX9_watchAt_22 (by decide) ?_
    refine lv_goto (tgt := 43) hx hb dX9_watchAt_24 (by decide) ?_
    exact W.iret (v := (-2)) hx hb hr (fun t ht hW => ⟨(-2), rfl, by first | exact Or.inl ⟨rfl, by omega⟩ | (exfalso; omega), ht⟩) (fun q h => by cases h) dX9_watchAt_43
  ·
    refine W_top (y := .int 0) (by rw [hr_2]) ?_
    refine lv_if_ne (tgt := 11) hx hb dX9_watchAt_4 (by decide) (fun c_5 => absurd (by decide) c_5) (fun c_5 => ?_)
    refine lv_iconst (v := (-1)) hx hb dX9_watchAt_7 (by decide) ?_
    refine lv_goto (tgt := 43) hx hb dX9_watchAt_8 (by decide) ?_
    exact W.iret (v := (-1)) hx hb hr (fun t ht hW => ⟨(-1), rfl, by first | exact Or.inr ⟨rfl, by omega⟩ | (exfalso; omega), ht⟩) (fun q h => by cases h) dX9_watchAt_43
set_option maxHeartbeats 4000000 in
set_option maxRecDepth 100000 in
theorem c_X9_asked (l : Launch) (D : va_G) (E : Nat → Nat) (k0 : Nat) (cm : Nat → Nat) (p0 : Int32) (p1 : Int32) (p2 : Int32)  : Met l yX9_asked (wl yX9_asked cX9_asked 4 (some .int)) (RM 3 0 0) (rd_P D E [.ref k0, .int p0, .int p1, .int p2] [(k0, .inr (9, mF cm 0 0 0 0 0 0 0 0 0)), ((cm 3), .inl (E 0, 16, .inl (fun _ => -5)))]) (rd_Q (fun r => (r = (-2) ∧ ((0 ≤ p0.toInt ∧ p0.toInt ≤ 15) ∧ (0 ≤ p1.toInt ∧ p2.toInt ≤ 399 ∧ p1.toInt < p2.toInt ∧ p2.toInt - p1.toInt ≤ 60))) ∨ (r = (-1) ∧ ¬ ((0 ≤ p0.toInt ∧ p0.toInt ≤ 15) ∧ (0 ≤ p1.toInt ∧ p2.toInt ≤ 399 ∧ p1.toInt < p2.toInt ∧ p2.toInt - p1.toInt ≤ 60))))) 0 0 (fun _ => False) := by
  refine Met.ofW (cc := cX9_asked) (maxL := 4) (ret := (some .int)) (by decide) rfl ?_
  intro p e s m args below meth c s₁ B hml hv
  obtain ⟨rfl, hP, hK⟩ := hv
  have hx := B.exec
  have hb := B.bytes
  have hr := B.returns
  have hts := atoms_spec (ws := wl yX9_asked cX9_asked 4 (some .int)) B.pre
  have htb : ∀ w ∈ tb, w.before _ s = true := fun w h => hts w (List.mem_cons_of_mem _ h)
  have hown : s.vm.findClass RX9 = some m.cls := findClass_of_methodNamed B.named
  have hlocks := B.notSynchronized
  have hP : va_P D vwCl [(k0, .inr (9, mF cm 0 0 0 0 0 0 0 0 0)), ((cm 3), .inl (E 0, 16, .inl (fun _ => -5)))] s.heap := hP
  have hl := lv_entry ([.ref k0, .int p0, .int p1, .int p2]) (n := 4) (Nat.le_of_ble_eq_true rfl)
  rw [lg_entry_eq]
  generalize (lg_sl ([.ref k0, .int p0, .int p1, .int p2]) ++ List.replicate (4 - (lg_sl ([.ref k0, .int p0, .int p1, .int p2])).length) Slot.unset).toArray = ls at hl ⊢
  have hl : lv_has ls 4 [(0, .ref k0), (1, .int p0), (2, .int p1), (3, .int p2)] := hl
  have lo_p0 := i_lo p0
  have hi_p0 := i_hi p0
  have lo_p1 := i_lo p1
  have hi_p1 := i_hi p1
  have lo_p2 := i_lo p2
  have hi_p2 := i_hi p2
  refine lv_iload_n hx hb dX9_asked_0 rfl (lv_at hl 1 rfl) ?_
  refine callRS (rest := []) (As := [.int p0]) hx hb hml hown htb hK (c_X9_isPlace l D E p0 ) ok_X9_isPlace k_1182 k_1183 k_9 k_1184 ⟨(Nat.le_of_ble_eq_true rfl), (Nat.le_of_ble_eq_true rfl)⟩ ⟨(Nat.le_of_ble_eq_true rfl), (Nat.le_of_ble_eq_true rfl)⟩ hl.1 (Nat.le_of_ble_eq_true rfl) rfl rfl dX9_asked_1 (hP.sub (ws' := ([] : va_W)) [] rfl) (fun r_2 hw_1 => ?_)
  rcases hw_1 with ⟨hr_2, hw_1⟩ | ⟨hr_2, hw_1⟩
  ·
    refine W_top (y := .int 1) (by rw [hr_2]) ?_
    refine lv_if_eq (tgt := 15) hx hb dX9_asked_4 (by decide) (fun c_3 => absurd c_3 (by decide)) (fun c_3 => ?_)
    refine lv_iload_n hx hb dX9_asked_7 rfl (lv_at hl 2 rfl) ?_
    refine lv_iload_n hx hb dX9_asked_8 rfl (lv_at hl 3 rfl) ?_
    refine callRS (rest := []) (As := [.int p1, .int p2]) hx hb hml hown htb hK (c_X9_areDays l D E p1 p2 ) ok_X9_areDays k_1262 k_1263 k_9 k_1264 ⟨(Nat.le_of_ble_eq_true rfl), (Nat.le_of_ble_eq_true rfl)⟩ ⟨(Nat.le_of_ble_eq_true rfl), (Nat.le_of_ble_eq_true rfl)⟩ hl.1 (Nat.le_of_ble_eq_true rfl) rfl rfl dX9_asked_9 (hP.sub (ws' := ([] : va_W)) [] rfl) (fun r_5 hw_4 => ?_)
    rcases hw_4 with ⟨hr_5, hw_4⟩ | ⟨hr_5, hw_4⟩
    ·
      refine W_top (y := .int 1) (by rw [hr_5]) ?_
      refine lv_if_ne (tgt := 19) hx hb dX9_asked_12 (by decide) (fun c_6 => ?_) (fun c_6 => absurd c_6 (by decide))
      refine lv_aload_n hx hb dX9_asked_19 rfl (lv_at hl 0 rfl) ?_
      refine lv_iload_n hx hb dX9_asked_20 rfl (lv_at hl 1 rfl) ?_
      refine callRV (rest := []) (As := [.int p0]) hx hb hml hown htb hK (c_X9_watchAt l D E k0 cm p0 ) ok_X9_watchAt k_1212 k_1214 ks_41 k_9 k_1215 ⟨(Nat.le_of_ble_eq_true rfl), (Nat.le_of_ble_eq_true rfl)⟩ ⟨(Nat.le_of_ble_eq_true rfl), (Nat.le_of_ble_eq_true rfl)⟩ hl.1 (Nat.le_of_ble_eq_true rfl) rfl rfl dX9_asked_21 (hP.sub (ws' := [(k0, .inr (9, mF cm 0 0 0 0 0 0 0 0 0)), ((cm 3), .inl (E 0, 16, .inl (fun _ => -5)))]) [0, 1] rfl) rfl rfl 0 rfl (fun r_8 hw_7 => ?_)
      rcases hw_7 with ⟨hr_8, hw_7⟩ | ⟨hr_8, hw_7⟩
      ·
        refine W_top (y := .int (-2)) (by rw [hr_8]) ?_
        exact W.iret (v := (-2)) hx hb hr (fun t ht hW => ⟨(-2), rfl, by first | exact Or.inl ⟨rfl, by omega⟩ | (exfalso; omega), ht⟩) (fun q h => by cases h) dX9_asked_24
      ·
        refine W_top (y := .int (-1)) (by rw [hr_8]) ?_
        exact W.iret (v := (-1)) hx hb hr (fun t ht hW => ⟨(-1), rfl, by first | exact Or.inr ⟨rfl, by omega⟩ | (exfalso; omega), ht⟩) (fun q h => by cases h) dX9_asked_24
    ·
      refine W_top (y := .int 0) (by rw [hr_5]) ?_
      refine lv_if_ne (tgt := 19) hx hb dX9_asked_12 (by decide) (fun c_9 => absurd (by decide) c_9) (fun c_9 => ?_)
      refine lv_iconst (v := (-1)) hx hb dX9_asked_15 (by decide) ?_
      refine lv_goto (tgt := 24) hx hb dX9_asked_16 (by decide) ?_
      exact W.iret (v := (-1)) hx hb hr (fun t ht hW => ⟨(-1), rfl, by first | exact Or.inr ⟨rfl, by omega⟩ | (exfalso; omega), ht⟩) (fun q h => by cases h) dX9_asked_24
  ·
    refine W_top (y := .int 0) (by rw [hr_2]) ?_
    refine lv_if_eq (tgt := 15) hx hb dX9_asked_4 (by decide) (fun c_10 => ?_) (fun c_10 => absurd (by decide) c_10)
    refine lv_iconst (v := (-1)) hx hb dX9_asked_15 (by decide) ?_
    refine lv_goto (tgt := 24) hx hb dX9_asked_16 (by decide) ?_
    exact W.iret (v := (-1)) hx hb hr (fun t ht hW => ⟨(-1), rfl, by first | exact Or.inr ⟨rfl, by omega⟩ | (exfalso; omega), ht⟩) (fun q h => by cases h) dX9_asked_24
set_option maxHeartbeats 4000000 in
set_option maxRecDepth 100000 in
theorem c_X9_isWatch (l : Launch) (D : va_G) (E : Nat → Nat) (k0 : Nat) (cm : Nat → Nat) (p0 : Int32) (g0 : 0 ≤ p0.toInt ∧ p0.toInt ≤ 15) : Met l yX9_isWatch (wl yX9_isWatch cX9_isWatch 2 (some .boolean)) (RM 0 0 0) (rd_P D E [.ref k0, .int p0] [(k0, .inr (9, mF cm 0 0 0 0 0 0 0 0 0)), ((cm 3), .inl (E 0, 16, .inl (fun _ => -5)))]) (rd_Q (fun r => (r = 0 ∧ True))) 0 0 (fun _ => False) := by
  refine Met.ofW (cc := cX9_isWatch) (maxL := 2) (ret := (some .boolean)) (by decide) rfl ?_
  intro p e s m args below meth c s₁ B hml hv
  obtain ⟨rfl, hP, hK⟩ := hv
  have hx := B.exec
  have hb := B.bytes
  have hr := B.returns
  have hts := atoms_spec (ws := wl yX9_isWatch cX9_isWatch 2 (some .boolean)) B.pre
  have htb : ∀ w ∈ tb, w.before _ s = true := fun w h => hts w (List.mem_cons_of_mem _ h)
  have hown : s.vm.findClass RX9 = some m.cls := findClass_of_methodNamed B.named
  have hlocks := B.notSynchronized
  have hP : va_P D vwCl [(k0, .inr (9, mF cm 0 0 0 0 0 0 0 0 0)), ((cm 3), .inl (E 0, 16, .inl (fun _ => -5)))] s.heap := hP
  have hl := lv_entry ([.ref k0, .int p0]) (n := 2) (Nat.le_of_ble_eq_true rfl)
  rw [lg_entry_eq]
  generalize (lg_sl ([.ref k0, .int p0]) ++ List.replicate (2 - (lg_sl ([.ref k0, .int p0])).length) Slot.unset).toArray = ls at hl ⊢
  have hl : lv_has ls 2 [(0, .ref k0), (1, .int p0)] := hl
  have lo_p0 := i_lo p0
  have hi_p0 := i_hi p0
  refine lv_aload_n hx hb dX9_isWatch_0 rfl (lv_at hl 0 rfl) ?_
  refine va_get (D := D) (ci := 9) (v := .ref (cm 3)) (C := RX9) (T := TX9) (N := 68) hx hb htb iX9 hown hK.1 hP 0 rfl rfl 3 (by decide) (htb _ k_961) (fun _ h9 => h9) rfl dX9_isWatch_1 ?_
  refine lv_iload_n hx hb dX9_isWatch_4 rfl (lv_at hl 1 rfl) ?_
  refine va_iald hx hb hK.1 hP 1 0 rfl rfl (g_in rfl (by omega) (by omega)) dX9_isWatch_5 ?_
  refine W_top (y := .int (-5)) rfl ?_
  refine lv_if_eq (tgt := 19) hx hb dX9_isWatch_6 (by decide) (fun c_1 => absurd c_1 (by decide)) (fun c_1 => ?_)
  refine lv_aload_n hx hb dX9_isWatch_9 rfl (lv_at hl 0 rfl) ?_
  refine va_get (D := D) (ci := 9) (v := .ref (cm 3)) (C := RX9) (T := TX9) (N := 68) hx hb htb iX9 hown hK.1 hP 0 rfl rfl 3 (by decide) (htb _ k_961) (fun _ h9 => h9) rfl dX9_isWatch_10 ?_
  refine lv_iload_n hx hb dX9_isWatch_13 rfl (lv_at hl 1 rfl) ?_
  refine va_iald hx hb hK.1 hP 1 0 rfl rfl (g_in rfl (by omega) (by omega)) dX9_isWatch_14 ?_
  refine W_top (y := .int (-5)) rfl ?_
  refine lv_iconst (v := 1) hx hb dX9_isWatch_15 (by decide) ?_
  refine lv_icmp_ne (tgt := 23) hx hb dX9_isWatch_16 (by decide) (fun c_2 => ?_) (fun c_2 => absurd c_2 (by decide))
  refine lv_iconst (v := 0) hx hb dX9_isWatch_23 (by decide) ?_
  exact W.zret (v := 0) hx hb hr rfl (fun t ht hW => ⟨0, rfl, ⟨rfl, trivial⟩, ht⟩) (fun q h => by cases h) dX9_isWatch_24
