set_option maxHeartbeats 4000000 in
set_option maxRecDepth 100000 in
theorem c_X8_carried (l : Launch) (D : va_G) (E : Nat → Nat) (h0 : Nat) (a : Nat → Nat) (b : Nat → Nat → Nat) (p0 : Int32) (p1 : Int32) (p2 : Int32)  : Met l yX8_carried (wl yX8_carried cX8_carried 5 (some .int)) (RM 1 0 0) (rd_P D E [.ref h0, .int p0, .int p1, .int p2] [(h0, .inr (8, xF a 0)), ((a 4), .inl (E 4, 5, .inr (.inr (.inr (.inr (fun j => some (a (13 + j)))))))), ((a 13), .inr (5, sF (b 0))), ((a 14), .inr (5, sF (b 1))), ((a 15), .inr (5, sF (b 2))), ((a 16), .inr (5, sF (b 3))), ((a 17), .inr (5, sF (b 4)))]) (rd_Q (fun r => (r = (-2000000000) ∧ True))) 0 0 (fun _ => False) := by
  refine Met.ofW (cc := cX8_carried) (maxL := 5) (ret := (some .int)) (by decide) rfl ?_
  intro p e s m args below meth c s₁ B hml hv
  obtain ⟨rfl, hP, hK⟩ := hv
  have hx := B.exec
  have hb := B.bytes
  have hr := B.returns
  have hts := atoms_spec (ws := wl yX8_carried cX8_carried 5 (some .int)) B.pre
  have htb : ∀ w ∈ tb, w.before _ s = true := fun w h => hts w (List.mem_cons_of_mem _ h)
  have hown : s.vm.findClass RX8 = some m.cls := findClass_of_methodNamed B.named
  have hlocks := B.notSynchronized
  have hP : va_P D vwCl [(h0, .inr (8, xF a 0)), ((a 4), .inl (E 4, 5, .inr (.inr (.inr (.inr (fun j => some (a (13 + j)))))))), ((a 13), .inr (5, sF (b 0))), ((a 14), .inr (5, sF (b 1))), ((a 15), .inr (5, sF (b 2))), ((a 16), .inr (5, sF (b 3))), ((a 17), .inr (5, sF (b 4)))] s.heap := hP
  have hl := lv_entry ([.ref h0, .int p0, .int p1, .int p2]) (n := 5) (Nat.le_of_ble_eq_true rfl)
  rw [lg_entry_eq]
  generalize (lg_sl ([.ref h0, .int p0, .int p1, .int p2]) ++ List.replicate (5 - (lg_sl ([.ref h0, .int p0, .int p1, .int p2])).length) Slot.unset).toArray = ls at hl ⊢
  have hl : lv_has ls 5 [(0, .ref h0), (1, .int p0), (2, .int p1), (3, .int p2)] := hl
  have lo_p0 := i_lo p0
  have hi_p0 := i_hi p0
  have lo_p1 := i_lo p1
  have hi_p1 := i_hi p1
  have lo_p2 := i_lo p2
  have hi_p2 := i_hi p2
  refine lv_iload_n hx hb dX8_carried_0 rfl (lv_at hl 1 rfl) ?_
  refine callRS (rest := []) (As := [.int p0]) hx hb hml hown htb hK (c_X8_isShip l D E p0 ) ok_X8_isShip k_773 k_774 k_1 k_775 ⟨(Nat.le_of_ble_eq_true rfl), (Nat.le_of_ble_eq_true rfl)⟩ ⟨(Nat.le_of_ble_eq_true rfl), (Nat.le_of_ble_eq_true rfl)⟩ hl.1 (Nat.le_of_ble_eq_true rfl) rfl rfl dX8_carried_1 (hP.sub (ws' := ([] : va_W)) [] rfl) (fun r_2 hw_1 => ?_)
  rcases hw_1 with ⟨hr_2, hw_1⟩ | ⟨hr_2, hw_1⟩
  ·
    refine W_top (y := .int 1) (by rw [hr_2]) ?_
    refine lv_if_eq (tgt := 28) hx hb dX8_carried_4 (by decide) (fun c_3 => absurd c_3 (by decide)) (fun c_3 => ?_)
    refine lv_iload_n hx hb dX8_carried_7 rfl (lv_at hl 2 rfl) ?_
    refine lv_if_lt (tgt := 28) hx hb dX8_carried_8 (by decide) (fun c_4 => ?_) (fun c_4 => ?_)
    ·
      have ic_4 : p1.toInt < 0 := by first | exact (g_lt rfl t_0).mp c_4 | (have h := mt (g_le t_0 rfl).mpr c_4; omega)
      refine lv_ldc hx hb hown (htb _ k_386) dX8_carried_28 ?_
      exact W.iret (v := (-2000000000)) hx hb hr (fun t ht hW => ⟨(-2000000000), rfl, ⟨rfl, trivial⟩, ht⟩) (fun q h => by cases h) dX8_carried_30
    ·
      have ic_4 : 0 ≤ p1.toInt := by first | exact (g_le t_0 rfl).mp c_4 | (have h := mt (g_lt rfl t_0).mpr c_4; omega)
      refine lv_iload_n hx hb dX8_carried_11 rfl (lv_at hl 2 rfl) ?_
      refine lv_iconst (v := 3) hx hb dX8_carried_12 (by decide) ?_
      refine lv_icmp_ge (tgt := 28) hx hb dX8_carried_13 (by decide) (fun c_5 => ?_) (fun c_5 => ?_)
      ·
        have ic_5 : 3 ≤ p1.toInt := by first | exact (g_le t_3 rfl).mp c_5 | (have h := mt (g_lt rfl t_3).mpr c_5; omega)
        refine lv_ldc hx hb hown (htb _ k_386) dX8_carried_28 ?_
        exact W.iret (v := (-2000000000)) hx hb hr (fun t ht hW => ⟨(-2000000000), rfl, ⟨rfl, trivial⟩, ht⟩) (fun q h => by cases h) dX8_carried_30
      ·
        have ic_5 : p1.toInt < 3 := by first | exact (g_lt rfl t_3).mp c_5 | (have h := mt (g_le t_3 rfl).mpr c_5; omega)
        refine lv_aload_n hx hb dX8_carried_16 rfl (lv_at hl 0 rfl) ?_
        refine va_get (D := D) (ci := 8) (v := .ref (a 4)) (C := RX8) (T := TX8) (N := 14) hx hb htb iX8 hown hK.1 hP 0 rfl rfl 4 (by decide) (htb _ k_276) (fun _ h9 => h9) rfl dX8_carried_17 ?_
        refine lv_iload_n hx hb dX8_carried_20 rfl (lv_at hl 1 rfl) ?_
        refine va_aldq hx hb hK.1 hP 1 4 rfl rfl (g_in rfl (by omega) (by omega)) dX8_carried_21 ?_
        have h_6 : p0.toInt = 0 ∨ p0.toInt = 1 ∨ p0.toInt = 2 ∨ p0.toInt = 3 ∨ p0.toInt = 4 := by omega
        rcases h_6 with h_6 | h_6 | h_6 | h_6 | h_6
        ·
          have h_6e : p0 = 0 := (g_eq rfl t_0).mpr h_6
          refine W_top (y := .ref (a 13)) (by rw [h_6e]; exact congrArg (fun n => Value.ref (a n)) (by decide : 13 + (0 : Int32).toNatClampNeg = 13)) ?_
          refine va_getN (D := D) (ci := 5) (v := .int 0) (C := RX5) (T := TX5) (N := 11) hx hb htb iX5 hown hK.1 hP 2 rfl rfl 8 (by decide) (va_Nw.use rfl (hK.2.1 (Cond.fieldLinkNest RX8 208 "SeaWatches$Ship" "stage" "I" "SeaWatches") (by decide +kernel))) (fun _ h9 => h9) rfl dX8_carried_22 ?_
          refine lv_if_ne (tgt := 31) hx hb dX8_carried_25 (by decide) (fun c_7 => absurd (by decide) c_7) (fun c_7 => ?_)
          refine lv_ldc hx hb hown (htb _ k_386) dX8_carried_28 ?_
          exact W.iret (v := (-2000000000)) hx hb hr (fun t ht hW => ⟨(-2000000000), rfl, ⟨rfl, trivial⟩, ht⟩) (fun q h => by cases h) dX8_carried_30
        ·
          have h_6e : p0 = 1 := (g_eq rfl t_1).mpr h_6
          refine W_top (y := .ref (a 14)) (by rw [h_6e]; exact congrArg (fun n => Value.ref (a n)) (by decide : 13 + (1 : Int32).toNatClampNeg = 14)) ?_
          refine va_getN (D := D) (ci := 5) (v := .int 0) (C := RX5) (T := TX5) (N := 11) hx hb htb iX5 hown hK.1 hP 3 rfl rfl 8 (by decide) (va_Nw.use rfl (hK.2.1 (Cond.fieldLinkNest RX8 208 "SeaWatches$Ship" "stage" "I" "SeaWatches") (by decide +kernel))) (fun _ h9 => h9) rfl dX8_carried_22 ?_
          refine lv_if_ne (tgt := 31) hx hb dX8_carried_25 (by decide) (fun c_8 => absurd (by decide) c_8) (fun c_8 => ?_)
          refine lv_ldc hx hb hown (htb _ k_386) dX8_carried_28 ?_
          exact W.iret (v := (-2000000000)) hx hb hr (fun t ht hW => ⟨(-2000000000), rfl, ⟨rfl, trivial⟩, ht⟩) (fun q h => by cases h) dX8_carried_30
        ·
          have h_6e : p0 = 2 := (g_eq rfl t_2).mpr h_6
          refine W_top (y := .ref (a 15)) (by rw [h_6e]; exact congrArg (fun n => Value.ref (a n)) (by decide : 13 + (2 : Int32).toNatClampNeg = 15)) ?_
          refine va_getN (D := D) (ci := 5) (v := .int 0) (C := RX5) (T := TX5) (N := 11) hx hb htb iX5 hown hK.1 hP 4 rfl rfl 8 (by decide) (va_Nw.use rfl (hK.2.1 (Cond.fieldLinkNest RX8 208 "SeaWatches$Ship" "stage" "I" "SeaWatches") (by decide +kernel))) (fun _ h9 => h9) rfl dX8_carried_22 ?_
          refine lv_if_ne (tgt := 31) hx hb dX8_carried_25 (by decide) (fun c_9 => absurd (by decide) c_9) (fun c_9 => ?_)
          refine lv_ldc hx hb hown (htb _ k_386) dX8_carried_28 ?_
          exact W.iret (v := (-2000000000)) hx hb hr (fun t ht hW => ⟨(-2000000000), rfl, ⟨rfl, trivial⟩, ht⟩) (fun q h => by cases h) dX8_carried_30
        ·
          have h_6e : p0 = 3 := (g_eq rfl t_3).mpr h_6
          refine W_top (y := .ref (a 16)) (by rw [h_6e]; exact congrArg (fun n => Value.ref (a n)) (by decide : 13 + (3 : Int32).toNatClampNeg = 16)) ?_
          refine va_getN (D := D) (ci := 5) (v := .int 0) (C := RX5) (T := TX5) (N := 11) hx hb htb iX5 hown hK.1 hP 5 rfl rfl 8 (by decide) (va_Nw.use rfl (hK.2.1 (Cond.fieldLinkNest RX8 208 "SeaWatches$Ship" "stage" "I" "SeaWatches") (by decide +kernel))) (fun _ h9 => h9) rfl dX8_carried_22 ?_
          refine lv_if_ne (tgt := 31) hx hb dX8_carried_25 (by decide) (fun c_10 => absurd (by decide) c_10) (fun c_10 => ?_)
          refine lv_ldc hx hb hown (htb _ k_386) dX8_carried_28 ?_
          exact W.iret (v := (-2000000000)) hx hb hr (fun t ht hW => ⟨(-2000000000), rfl, ⟨rfl, trivial⟩, ht⟩) (fun q h => by cases h) dX8_carried_30
        ·
          have h_6e : p0 = 4 := (g_eq rfl t_4).mpr h_6
          refine W_top (y := .ref (a 17)) (by rw [h_6e]; exact congrArg (fun n => Value.ref (a n)) (by decide : 13 + (4 : Int32).toNatClampNeg = 17)) ?_
          refine va_getN (D := D) (ci := 5) (v := .int 0) (C := RX5) (T := TX5) (N := 11) hx hb htb iX5 hown hK.1 hP 6 rfl rfl 8 (by decide) (va_Nw.use rfl (hK.2.1 (Cond.fieldLinkNest RX8 208 "SeaWatches$Ship" "stage" "I" "SeaWatches") (by decide +kernel))) (fun _ h9 => h9) rfl dX8_carried_22 ?_
          refine lv_if_ne (tgt := 31) hx hb dX8_carried_25 (by decide) (fun c_11 => absurd (by decide) c_11) (fun c_11 => ?_)
          refine lv_ldc hx hb hown (htb _ k_386) dX8_carried_28 ?_
          exact W.iret (v := (-2000000000)) hx hb hr (fun t ht hW => ⟨(-2000000000), rfl, ⟨rfl, trivial⟩, ht⟩) (fun q h => by cases h) dX8_carried_30
  ·
    refine W_top (y := .int 0) (by rw [hr_2]) ?_
    refine lv_if_eq (tgt := 28) hx hb dX8_carried_4 (by decide) (fun c_12 => ?_) (fun c_12 => absurd (by decide) c_12)
    refine lv_ldc hx hb hown (htb _ k_386) dX8_carried_28 ?_
    exact W.iret (v := (-2000000000)) hx hb hr (fun t ht hW => ⟨(-2000000000), rfl, ⟨rfl, trivial⟩, ht⟩) (fun q h => by cases h) dX8_carried_30
set_option maxHeartbeats 4000000 in
set_option maxRecDepth 100000 in
theorem c_X8_sight (l : Launch) (D : va_G) (E : Nat → Nat) (h0 : Nat) (a : Nat → Nat) (b : Nat → Nat → Nat) (p0 : Int32) (p1 : Int32) (p2 : Int32) (p3 : Int32) (p4 : Int32)  : Met l yX8_sight (wl yX8_sight cX8_sight 7 (some .int)) (RM 1 0 0) (rd_P D E [.ref h0, .int p0, .int p1, .int p2, .int p3, .int p4] [(h0, .inr (8, xF a 0)), ((a 4), .inl (E 4, 5, .inr (.inr (.inr (.inr (fun j => some (a (13 + j)))))))), ((a 13), .inr (5, sF (b 0))), ((a 14), .inr (5, sF (b 1))), ((a 15), .inr (5, sF (b 2))), ((a 16), .inr (5, sF (b 3))), ((a 17), .inr (5, sF (b 4)))]) (rd_Q (fun r => (r = (-4) ∧ ((0 ≤ p0.toInt ∧ p0.toInt ≤ 4) ∧ (0 ≤ p1.toInt ∧ p1.toInt ≤ 0) ∧ (-2000000 ≤ p2.toInt ∧ p2.toInt ≤ 2000000) ∧ (-2000000 ≤ p3.toInt ∧ p3.toInt ≤ 2000000) ∧ (-2000000 ≤ p4.toInt ∧ p4.toInt ≤ 2000000))) ∨ (r = (-1) ∧ ¬ ((0 ≤ p0.toInt ∧ p0.toInt ≤ 4) ∧ (0 ≤ p1.toInt ∧ p1.toInt ≤ 0) ∧ (-2000000 ≤ p2.toInt ∧ p2.toInt ≤ 2000000) ∧ (-2000000 ≤ p3.toInt ∧ p3.toInt ≤ 2000000) ∧ (-2000000 ≤ p4.toInt ∧ p4.toInt ≤ 2000000))))) 0 0 (fun _ => False) := by
  refine Met.ofW (cc := cX8_sight) (maxL := 7) (ret := (some .int)) (by decide) rfl ?_
  intro p e s m args below meth c s₁ B hml hv
  obtain ⟨rfl, hP, hK⟩ := hv
  have hx := B.exec
  have hb := B.bytes
  have hr := B.returns
  have hts := atoms_spec (ws := wl yX8_sight cX8_sight 7 (some .int)) B.pre
  have htb : ∀ w ∈ tb, w.before _ s = true := fun w h => hts w (List.mem_cons_of_mem _ h)
  have hown : s.vm.findClass RX8 = some m.cls := findClass_of_methodNamed B.named
  have hlocks := B.notSynchronized
  have hP : va_P D vwCl [(h0, .inr (8, xF a 0)), ((a 4), .inl (E 4, 5, .inr (.inr (.inr (.inr (fun j => some (a (13 + j)))))))), ((a 13), .inr (5, sF (b 0))), ((a 14), .inr (5, sF (b 1))), ((a 15), .inr (5, sF (b 2))), ((a 16), .inr (5, sF (b 3))), ((a 17), .inr (5, sF (b 4)))] s.heap := hP
  have hl := lv_entry ([.ref h0, .int p0, .int p1, .int p2, .int p3, .int p4]) (n := 7) (Nat.le_of_ble_eq_true rfl)
  rw [lg_entry_eq]
  generalize (lg_sl ([.ref h0, .int p0, .int p1, .int p2, .int p3, .int p4]) ++ List.replicate (7 - (lg_sl ([.ref h0, .int p0, .int p1, .int p2, .int p3, .int p4])).length) Slot.unset).toArray = ls at hl ⊢
  have hl : lv_has ls 7 [(0, .ref h0), (1, .int p0), (2, .int p1), (3, .int p2), (4, .int p3), (5, .int p4)] := hl
  have lo_p0 := i_lo p0
  have hi_p0 := i_hi p0
  have lo_p1 := i_lo p1
  have hi_p1 := i_hi p1
  have lo_p2 := i_lo p2
  have hi_p2 := i_hi p2
  have lo_p3 := i_lo p3
  have hi_p3 := i_hi p3
  have lo_p4 := i_lo p4
  have hi_p4 := i_hi p4
  refine lv_iload_n hx hb dX8_sight_0 rfl (lv_at hl 1 rfl) ?_
  refine callRS (rest := []) (As := [.int p0]) hx hb hml hown htb hK (c_X8_isShip l D E p0 ) ok_X8_isShip k_773 k_774 k_1 k_775 ⟨(Nat.le_of_ble_eq_true rfl), (Nat.le_of_ble_eq_true rfl)⟩ ⟨(Nat.le_of_ble_eq_true rfl), (Nat.le_of_ble_eq_true rfl)⟩ hl.1 (Nat.le_of_ble_eq_true rfl) rfl rfl dX8_sight_1 (hP.sub (ws' := ([] : va_W)) [] rfl) (fun r_2 hw_1 => ?_)
  rcases hw_1 with ⟨hr_2, hw_1⟩ | ⟨hr_2, hw_1⟩
  ·
    refine W_top (y := .int 1) (by rw [hr_2]) ?_
    refine lv_if_eq (tgt := 44) hx hb dX8_sight_4 (by decide) (fun c_3 => absurd c_3 (by decide)) (fun c_3 => ?_)
    refine lv_aload_n hx hb dX8_sight_7 rfl (lv_at hl 0 rfl) ?_
    refine lv_iload_n hx hb dX8_sight_8 rfl (lv_at hl 2 rfl) ?_
    refine callRV (rest := []) (As := [.int p1]) hx hb hml hown htb hK (c_X8_isPast l D E h0 a p1 ) ok_X8_isPast k_391 k_393 ks_2 k_1 k_394 ⟨(Nat.le_of_ble_eq_true rfl), (Nat.le_of_ble_eq_true rfl)⟩ ⟨(Nat.le_of_ble_eq_true rfl), (Nat.le_of_ble_eq_true rfl)⟩ hl.1 (Nat.le_of_ble_eq_true rfl) rfl rfl dX8_sight_9 (hP.sub (ws' := [(h0, .inr (8, xF a 0))]) [0] rfl) rfl rfl 0 rfl (fun r_5 hw_4 => ?_)
    rcases hw_4 with ⟨hr_5, hw_4⟩ | ⟨hr_5, hw_4⟩
    ·
      refine W_top (y := .int 1) (by rw [hr_5]) ?_
      refine lv_if_eq (tgt := 44) hx hb dX8_sight_12 (by decide) (fun c_6 => absurd c_6 (by decide)) (fun c_6 => ?_)
      refine lv_iload_n hx hb dX8_sight_15 rfl (lv_at hl 3 rfl) ?_
      refine lv_ldc hx hb hown (htb _ k_816) dX8_sight_16 ?_
      refine callRS (rest := []) (As := [.int p2, .int 2000000]) hx hb hml hown htb hK (c_X8_isWithin l D E p2 2000000 (by decide)) ok_X8_isWithin k_326 k_327 k_1 k_328 ⟨(Nat.le_of_ble_eq_true rfl), (Nat.le_of_ble_eq_true rfl)⟩ ⟨(Nat.le_of_ble_eq_true rfl), (Nat.le_of_ble_eq_true rfl)⟩ hl.1 (Nat.le_of_ble_eq_true rfl) rfl rfl dX8_sight_18 (hP.sub (ws' := ([] : va_W)) [] rfl) (fun r_8 hw_7 => ?_)
      rcases hw_7 with ⟨hr_8, hw_7⟩ | ⟨hr_8, hw_7⟩
      ·
        try simp only [t_2000000] at hw_7
        refine W_top (y := .int 1) (by rw [hr_8]) ?_
        refine lv_if_eq (tgt := 44) hx hb dX8_sight_21 (by decide) (fun c_9 => absurd c_9 (by decide)) (fun c_9 => ?_)
        refine lv_iload hx hb dX8_sight_24 (lv_at hl 4 rfl) ?_
        refine lv_ldc hx hb hown (htb _ k_816) dX8_sight_26 ?_
        refine callRS (rest := []) (As := [.int p3, .int 2000000]) hx hb hml hown htb hK (c_X8_isWithin l D E p3 2000000 (by decide)) ok_X8_isWithin k_326 k_327 k_1 k_328 ⟨(Nat.le_of_ble_eq_true rfl), (Nat.le_of_ble_eq_true rfl)⟩ ⟨(Nat.le_of_ble_eq_true rfl), (Nat.le_of_ble_eq_true rfl)⟩ hl.1 (Nat.le_of_ble_eq_true rfl) rfl rfl dX8_sight_28 (hP.sub (ws' := ([] : va_W)) [] rfl) (fun r_11 hw_10 => ?_)
        rcases hw_10 with ⟨hr_11, hw_10⟩ | ⟨hr_11, hw_10⟩
        ·
          try simp only [t_2000000] at hw_10
          refine W_top (y := .int 1) (by rw [hr_11]) ?_
          refine lv_if_eq (tgt := 44) hx hb dX8_sight_31 (by decide) (fun c_12 => absurd c_12 (by decide)) (fun c_12 => ?_)
          refine lv_iload hx hb dX8_sight_34 (lv_at hl 5 rfl) ?_
          refine lv_ldc hx hb hown (htb _ k_816) dX8_sight_36 ?_
          refine callRS (rest := []) (As := [.int p4, .int 2000000]) hx hb hml hown htb hK (c_X8_isWithin l D E p4 2000000 (by decide)) ok_X8_isWithin k_326 k_327 k_1 k_328 ⟨(Nat.le_of_ble_eq_true rfl), (Nat.le_of_ble_eq_true rfl)⟩ ⟨(Nat.le_of_ble_eq_true rfl), (Nat.le_of_ble_eq_true rfl)⟩ hl.1 (Nat.le_of_ble_eq_true rfl) rfl rfl dX8_sight_38 (hP.sub (ws' := ([] : va_W)) [] rfl) (fun r_14 hw_13 => ?_)
          rcases hw_13 with ⟨hr_14, hw_13⟩ | ⟨hr_14, hw_13⟩
          ·
            try simp only [t_2000000] at hw_13
            refine W_top (y := .int 1) (by rw [hr_14]) ?_
            refine lv_if_ne (tgt := 46) hx hb dX8_sight_41 (by decide) (fun c_15 => ?_) (fun c_15 => absurd c_15 (by decide))
            refine lv_aload_n hx hb dX8_sight_46 rfl (lv_at hl 0 rfl) ?_
            refine va_get (D := D) (ci := 8) (v := .ref (a 4)) (C := RX8) (T := TX8) (N := 14) hx hb htb iX8 hown hK.1 hP 0 rfl rfl 4 (by decide) (htb _ k_276) (fun _ h9 => h9) rfl dX8_sight_47 ?_
            refine lv_iload_n hx hb dX8_sight_50 rfl (lv_at hl 1 rfl) ?_
            refine va_aldq hx hb hK.1 hP 1 4 rfl rfl (g_in rfl (by omega) (by omega)) dX8_sight_51 ?_
            have h_16 : p0.toInt = 0 ∨ p0.toInt = 1 ∨ p0.toInt = 2 ∨ p0.toInt = 3 ∨ p0.toInt = 4 := by omega
            rcases h_16 with h_16 | h_16 | h_16 | h_16 | h_16
            ·
              have h_16e : p0 = 0 := (g_eq rfl t_0).mpr h_16
              refine W_top (y := .ref (a 13)) (by rw [h_16e]; exact congrArg (fun n => Value.ref (a n)) (by decide : 13 + (0 : Int32).toNatClampNeg = 13)) ?_
              refine lv_astore (lv' := [(6, .ref (a 13)), (0, .ref h0), (1, .int p0), (2, .int p1), (3, .int p2), (4, .int p3), (5, .int p4)]) hx hb dX8_sight_52 hl (by decide) rfl (fun ls hl => ?_)
              refine lv_aload hx hb dX8_sight_54 (lv_at hl 0 rfl) ?_
              refine lv_iload_n hx hb dX8_sight_56 rfl (lv_at hl 3 rfl) ?_
              refine callRV (rest := []) (As := [.int p1]) hx hb hml hown htb hK (c_X5_mayBeSighted l D E (a 13) (b 0) p1 ) ok_X5_mayBeSighted k_817 k_818 k_819 k_8 k_820 ⟨(Nat.le_of_ble_eq_true rfl), (Nat.le_of_ble_eq_true rfl)⟩ ⟨(Nat.le_of_ble_eq_true rfl), (Nat.le_of_ble_eq_true rfl)⟩ hl.1 (Nat.le_of_ble_eq_true rfl) rfl rfl dX8_sight_57 (hP.sub (ws' := [((a 13), .inr (5, sF (b 0)))]) [2] rfl) rfl rfl 0 rfl (fun r_18 hw_17 => ?_)
              obtain ⟨hr_18, hw_17⟩ := hw_17
              refine W_top (y := .int 1) (by rw [hr_18]) ?_
              refine lv_if_ne (tgt := 65) hx hb dX8_sight_60 (by decide) (fun c_19 => ?_) (fun c_19 => absurd c_19 (by decide))
              refine lv_aload hx hb dX8_sight_65 (lv_at hl 0 rfl) ?_
              refine va_getN (D := D) (ci := 5) (v := .int 0) (C := RX5) (T := TX5) (N := 11) hx hb htb iX5 hown hK.1 hP 2 rfl rfl 8 (by decide) (va_Nw.use rfl (hK.2.1 (Cond.fieldLinkNest RX8 208 "SeaWatches$Ship" "stage" "I" "SeaWatches") (by decide +kernel))) (fun _ h9 => h9) rfl dX8_sight_67 ?_
              refine lv_iconst (v := 1) hx hb dX8_sight_70 (by decide) ?_
              refine lv_icmp_eq (tgt := 77) hx hb dX8_sight_71 (by decide) (fun c_20 => absurd c_20 (by decide)) (fun c_20 => ?_)
              refine lv_bipush (v := (-4)) hx hb dX8_sight_74 (by decide) ?_
              exact W.iret (v := (-4)) hx hb hr (fun t ht hW => ⟨(-4), rfl, by first | exact Or.inl ⟨rfl, by omega⟩ | (exfalso; omega), ht⟩) (fun q h => by cases h) dX8_sight_76
            ·
              have h_16e : p0 = 1 := (g_eq rfl t_1).mpr h_16
              refine W_top (y := .ref (a 14)) (by rw [h_16e]; exact congrArg (fun n => Value.ref (a n)) (by decide : 13 + (1 : Int32).toNatClampNeg = 14)) ?_
              refine lv_astore (lv' := [(6, .ref (a 14)), (0, .ref h0), (1, .int p0), (2, .int p1), (3, .int p2), (4, .int p3), (5, .int p4)]) hx hb dX8_sight_52 hl (by decide) rfl (fun ls hl => ?_)
              refine lv_aload hx hb dX8_sight_54 (lv_at hl 0 rfl) ?_
              refine lv_iload_n hx hb dX8_sight_56 rfl (lv_at hl 3 rfl) ?_
              refine callRV (rest := []) (As := [.int p1]) hx hb hml hown htb hK (c_X5_mayBeSighted l D E (a 14) (b 1) p1 ) ok_X5_mayBeSighted k_817 k_818 k_819 k_8 k_820 ⟨(Nat.le_of_ble_eq_true rfl), (Nat.le_of_ble_eq_true rfl)⟩ ⟨(Nat.le_of_ble_eq_true rfl), (Nat.le_of_ble_eq_true rfl)⟩ hl.1 (Nat.le_of_ble_eq_true rfl) rfl rfl dX8_sight_57 (hP.sub (ws' := [((a 14), .inr (5, sF (b 1)))]) [3] rfl) rfl rfl 0 rfl (fun r_22 hw_21 => ?_)
              obtain ⟨hr_22, hw_21⟩ := hw_21
              refine W_top (y := .int 1) (by rw [hr_22]) ?_
              refine lv_if_ne (tgt := 65) hx hb dX8_sight_60 (by decide) (fun c_23 => ?_) (fun c_23 => absurd c_23 (by decide))
              refine lv_aload hx hb dX8_sight_65 (lv_at hl 0 rfl) ?_
              refine va_getN (D := D) (ci := 5) (v := .int 0) (C := RX5) (T := TX5) (N := 11) hx hb htb iX5 hown hK.1 hP 3 rfl rfl 8 (by decide) (va_Nw.use rfl (hK.2.1 (Cond.fieldLinkNest RX8 208 "SeaWatches$Ship" "stage" "I" "SeaWatches") (by decide +kernel))) (fun _ h9 => h9) rfl dX8_sight_67 ?_
              refine lv_iconst (v := 1) hx hb dX8_sight_70 (by decide) ?_
              refine lv_icmp_eq (tgt := 77) hx hb dX8_sight_71 (by decide) (fun c_24 => absurd c_24 (by decide)) (fun c_24 => ?_)
              refine lv_bipush (v := (-4)) hx hb dX8_sight_74 (by decide) ?_
              exact W.iret (v := (-4)) hx hb hr (fun t ht hW => ⟨(-4), rfl, by first | exact Or.inl ⟨rfl, by omega⟩ | (exfalso; omega), ht⟩) (fun q h => by cases h) dX8_sight_76
            ·
              have h_16e : p0 = 2 := (g_eq rfl t_2).mpr h_16
              refine W_top (y := .ref (a 15)) (by rw [h_16e]; exact congrArg (fun n => Value.ref (a n)) (by decide : 13 + (2 : Int32).toNatClampNeg = 15)) ?_
              refine lv_astore (lv' := [(6, .ref (a 15)), (0, .ref h0), (1, .int p0), (2, .int p1), (3, .int p2), (4, .int p3), (5, .int p4)]) hx hb dX8_sight_52 hl (by decide) rfl (fun ls hl => ?_)
              refine lv_aload hx hb dX8_sight_54 (lv_at hl 0 rfl) ?_
              refine lv_iload_n hx hb dX8_sight_56 rfl (lv_at hl 3 rfl) ?_
              refine callRV (rest := []) (As := [.int p1]) hx hb hml hown htb hK (c_X5_mayBeSighted l D E (a 15) (b 2) p1 ) ok_X5_mayBeSighted k_817 k_818 k_819 k_8 k_820 ⟨(Nat.le_of_ble_eq_true rfl), (Nat.le_of_ble_eq_true rfl)⟩ ⟨(Nat.le_of_ble_eq_true rfl), (Nat.le_of_ble_eq_true rfl)⟩ hl.1 (Nat.le_of_ble_eq_true rfl) rfl rfl dX8_sight_57 (hP.sub (ws' := [((a 15), .inr (5, sF (b 2)))]) [4] rfl) rfl rfl 0 rfl (fun r_26 hw_25 => ?_)
              obtain ⟨hr_26, hw_25⟩ := hw_25
              refine W_top (y := .int 1) (by rw [hr_26]) ?_
              refine lv_if_ne (tgt := 65) hx hb dX8_sight_60 (by decide) (fun c_27 => ?_) (fun c_27 => absurd c_27 (by decide))
              refine lv_aload hx hb dX8_sight_65 (lv_at hl 0 rfl) ?_
              refine va_getN (D := D) (ci := 5) (v := .int 0) (C := RX5) (T := TX5) (N := 11) hx hb htb iX5 hown hK.1 hP 4 rfl rfl 8 (by decide) (va_Nw.use rfl (hK.2.1 (Cond.fieldLinkNest RX8 208 "SeaWatches$Ship" "stage" "I" "SeaWatches") (by decide +kernel))) (fun _ h9 => h9) rfl dX8_sight_67 ?_
              refine lv_iconst (v := 1) hx hb dX8_sight_70 (by decide) ?_
              refine lv_icmp_eq (tgt := 77) hx hb dX8_sight_71 (by decide) (fun c_28 => absurd c_28 (by decide)) (fun c_28 => ?_)
              refine lv_bipush (v := (-4)) hx hb dX8_sight_74 (by decide) ?_
              exact W.iret (v := (-4)) hx hb hr (fun t ht hW => ⟨(-4), rfl, by first | exact Or.inl ⟨rfl, by omega⟩ | (exfalso; omega), ht⟩) (fun q h => by cases h) dX8_sight_76
            ·
              have h_16e : p0 = 3 := (g_eq rfl t_3).mpr h_16
              refine W_top (y := .ref (a 16)) (by rw [h_16e]; exact congrArg (fun n => Value.ref (a n)) (by decide : 13 + (3 : Int32).toNatClampNeg = 16)) ?_
              refine lv_astore (lv' := [(6, .ref (a 16)), (0, .ref h0), (1, .int p0), (2, .int p1), (3, .int p2), (4, .int p3), (5, .int p4)]) hx hb dX8_sight_52 hl (by decide) rfl (fun ls hl => ?_)
              refine lv_aload hx hb dX8_sight_54 (lv_at hl 0 rfl) ?_
              refine lv_iload_n hx hb dX8_sight_56 rfl (lv_at hl 3 rfl) ?_
              refine callRV (rest := []) (As := [.int p1]) hx hb hml hown htb hK (c_X5_mayBeSighted l D E (a 16) (b 3) p1 ) ok_X5_mayBeSighted k_817 k_818 k_819 k_8 k_820 ⟨(Nat.le_of_ble_eq_true rfl), (Nat.le_of_ble_eq_true rfl)⟩ ⟨(Nat.le_of_ble_eq_true rfl), (Nat.le_of_ble_eq_true rfl)⟩ hl.1 (Nat.le_of_ble_eq_true rfl) rfl rfl dX8_sight_57 (hP.sub (ws' := [((a 16), .inr (5, sF (b 3)))]) [5] rfl) rfl rfl 0 rfl (fun r_30 hw_29 => ?_)
              obtain ⟨hr_30, hw_29⟩ := hw_29
              refine W_top (y := .int 1) (by rw [hr_30]) ?_
              refine lv_if_ne (tgt := 65) hx hb dX8_sight_60 (by decide) (fun c_31 => ?_) (fun c_31 => absurd c_31 (by decide))
              refine lv_aload hx hb dX8_sight_65 (lv_at hl 0 rfl) ?_
              refine va_getN (D := D) (ci := 5) (v := .int 0) (C := RX5) (T := TX5) (N := 11) hx hb htb iX5 hown hK.1 hP 5 rfl rfl 8 (by decide) (va_Nw.use rfl (hK.2.1 (Cond.fieldLinkNest RX8 208 "SeaWatches$Ship" "stage" "I" "SeaWatches") (by decide +kernel))) (fun _ h9 => h9) rfl dX8_sight_67 ?_
              refine lv_iconst (v := 1) hx hb dX8_sight_70 (by decide) ?_
              refine lv_icmp_eq (tgt := 77) hx hb dX8_sight_71 (by decide) (fun c_32 => absurd c_32 (by decide)) (fun c_32 => ?_)
              refine lv_bipush (v := (-4)) hx hb dX8_sight_74 (by decide) ?_
              exact W.iret (v := (-4)) hx hb hr (fun t ht hW => ⟨(-4), rfl, by first | exact Or.inl ⟨rfl, by omega⟩ | (exfalso; omega), ht⟩) (fun q h => by cases h) dX8_sight_76
            ·
              have h_16e : p0 = 4 := (g_eq rfl t_4).mpr h_16
              refine W_top (y := .ref (a 17)) (by rw [h_16e]; exact congrArg (fun n => Value.ref (a n)) (by decide : 13 + (4 : Int32).toNatClampNeg = 17)) ?_
              refine lv_astore (lv' := [(6, .ref (a 17)), (0, .ref h0), (1, .int p0), (2, .int p1), (3, .int p2), (4, .int p3), (5, .int p4)]) hx hb dX8_sight_52 hl (by decide) rfl (fun ls hl => ?_)
              refine lv_aload hx hb dX8_sight_54 (lv_at hl 0 rfl) ?_
              refine lv_iload_n hx hb dX8_sight_56 rfl (lv_at hl 3 rfl) ?_
              refine callRV (rest := []) (As := [.int p1]) hx hb hml hown htb hK (c_X5_mayBeSighted l D E (a 17) (b 4) p1 ) ok_X5_mayBeSighted k_817 k_818 k_819 k_8 k_820 ⟨(Nat.le_of_ble_eq_true rfl), (Nat.le_of_ble_eq_true rfl)⟩ ⟨(Nat.le_of_ble_eq_true rfl), (Nat.le_of_ble_eq_true rfl)⟩ hl.1 (Nat.le_of_ble_eq_true rfl) rfl rfl dX8_sight_57 (hP.sub (ws' := [((a 17), .inr (5, sF (b 4)))]) [6] rfl) rfl rfl 0 rfl (fun r_34 hw_33 => ?_)
              obtain ⟨hr_34, hw_33⟩ := hw_33
              refine W_top (y := .int 1) (by rw [hr_34]) ?_
              refine lv_if_ne (tgt := 65) hx hb dX8_sight_60 (by decide) (fun c_35 => ?_) (fun c_35 => absurd c_35 (by decide))
              refine lv_aload hx hb dX8_sight_65 (lv_at hl 0 rfl) ?_
              refine va_getN (D := D) (ci := 5) (v := .int 0) (C := RX5) (T := TX5) (N := 11) hx hb htb iX5 hown hK.1 hP 6 rfl rfl 8 (by decide) (va_Nw.use rfl (hK.2.1 (Cond.fieldLinkNest RX8 208 "SeaWatches$Ship" "stage" "I" "SeaWatches") (by decide +kernel))) (fun _ h9 => h9) rfl dX8_sight_67 ?_
              refine lv_iconst (v := 1) hx hb dX8_sight_70 (by decide) ?_
              refine lv_icmp_eq (tgt := 77) hx hb dX8_sight_71 (by decide) (fun c_36 => absurd c_36 (by decide)) (fun c_36 => ?_)
              refine lv_bipush (v := (-4)) hx hb dX8_sight_74 (by decide) ?_
              exact W.iret (v := (-4)) hx hb hr (fun t ht hW => ⟨(-4), rfl, by first | exact Or.inl ⟨rfl, by omega⟩ | (exfalso; omega), ht⟩) (fun q h => by cases h) dX8_sight_76
          ·
            try simp only [t_2000000] at hw_13
            refine W_top (y := .int 0) (by rw [hr_14]) ?_
            refine lv_if_ne (tgt := 46) hx hb dX8_sight_41 (by decide) (fun c_37 => absurd (by decide) c_37) (fun c_37 => ?_)
            refine lv_iconst (v := (-1)) hx hb dX8_sight_44 (by decide) ?_
            exact W.iret (v := (-1)) hx hb hr (fun t ht hW => ⟨(-1), rfl, by first | exact Or.inr ⟨rfl, by omega⟩ | (exfalso; omega), ht⟩) (fun q h => by cases h) dX8_sight_45
        ·
          try simp only [t_2000000] at hw_10
          refine W_top (y := .int 0) (by rw [hr_11]) ?_
          refine lv_if_eq (tgt := 44) hx hb dX8_sight_31 (by decide) (fun c_38 => ?_) (fun c_38 => absurd (by decide) c_38)
          refine lv_iconst (v := (-1)) hx hb dX8_sight_44 (by decide) ?_
          exact W.iret (v := (-1)) hx hb hr (fun t ht hW => ⟨(-1), rfl, by first | exact Or.inr ⟨rfl, by omega⟩ | (exfalso; omega), ht⟩) (fun q h => by cases h) dX8_sight_45
      ·
        try simp only [t_2000000] at hw_7
        refine W_top (y := .int 0) (by rw [hr_8]) ?_
        refine lv_if_eq (tgt := 44) hx hb dX8_sight_21 (by decide) (fun c_39 => ?_) (fun c_39 => absurd (by decide) c_39)
        refine lv_iconst (v := (-1)) hx hb dX8_sight_44 (by decide) ?_
        exact W.iret (v := (-1)) hx hb hr (fun t ht hW => ⟨(-1), rfl, by first | exact Or.inr ⟨rfl, by omega⟩ | (exfalso; omega), ht⟩) (fun q h => by cases h) dX8_sight_45
    ·
      refine W_top (y := .int 0) (by rw [hr_5]) ?_
      refine lv_if_eq (tgt := 44) hx hb dX8_sight_12 (by decide) (fun c_40 => ?_) (fun c_40 => absurd (by decide) c_40)
      refine lv_iconst (v := (-1)) hx hb dX8_sight_44 (by decide) ?_
      exact W.iret (v := (-1)) hx hb hr (fun t ht hW => ⟨(-1), rfl, by first | exact Or.inr ⟨rfl, by omega⟩ | (exfalso; omega), ht⟩) (fun q h => by cases h) dX8_sight_45
  ·
    refine W_top (y := .int 0) (by rw [hr_2]) ?_
    refine lv_if_eq (tgt := 44) hx hb dX8_sight_4 (by decide) (fun c_41 => ?_) (fun c_41 => absurd (by decide) c_41)
    refine lv_iconst (v := (-1)) hx hb dX8_sight_44 (by decide) ?_
    exact W.iret (v := (-1)) hx hb hr (fun t ht hW => ⟨(-1), rfl, by first | exact Or.inr ⟨rfl, by omega⟩ | (exfalso; omega), ht⟩) (fun q h => by cases h) dX8_sight_45
set_option maxHeartbeats 4000000 in
set_option maxRecDepth 100000 in
theorem c_X8_told (l : Launch) (D : va_G) (E : Nat → Nat) (h0 : Nat) (a : Nat → Nat) (b : Nat → Nat → Nat) (p0 : Int32) (p1 : Int32) (p2 : Int32)  : Met l yX8_told (wl yX8_told cX8_told 8 (some .int)) (RM 1 0 0) (rd_P D E [.ref h0, .int p0, .int p1, .int p2] [(h0, .inr (8, xF a 0)), ((a 4), .inl (E 4, 5, .inr (.inr (.inr (.inr (fun j => some (a (13 + j)))))))), ((a 13), .inr (5, sF (b 0))), ((a 14), .inr (5, sF (b 1))), ((a 15), .inr (5, sF (b 2))), ((a 16), .inr (5, sF (b 3))), ((a 17), .inr (5, sF (b 4)))]) (rd_Q (fun r => (r = (-2000000000) ∧ True))) 0 0 (fun _ => False) := by
  refine Met.ofW (cc := cX8_told) (maxL := 8) (ret := (some .int)) (by decide) rfl ?_
  intro p e s m args below meth c s₁ B hml hv
  obtain ⟨rfl, hP, hK⟩ := hv
  have hx := B.exec
  have hb := B.bytes
  have hr := B.returns
  have hts := atoms_spec (ws := wl yX8_told cX8_told 8 (some .int)) B.pre
  have htb : ∀ w ∈ tb, w.before _ s = true := fun w h => hts w (List.mem_cons_of_mem _ h)
  have hown : s.vm.findClass RX8 = some m.cls := findClass_of_methodNamed B.named
  have hlocks := B.notSynchronized
  have hP : va_P D vwCl [(h0, .inr (8, xF a 0)), ((a 4), .inl (E 4, 5, .inr (.inr (.inr (.inr (fun j => some (a (13 + j)))))))), ((a 13), .inr (5, sF (b 0))), ((a 14), .inr (5, sF (b 1))), ((a 15), .inr (5, sF (b 2))), ((a 16), .inr (5, sF (b 3))), ((a 17), .inr (5, sF (b 4)))] s.heap := hP
  have hl := lv_entry ([.ref h0, .int p0, .int p1, .int p2]) (n := 8) (Nat.le_of_ble_eq_true rfl)
  rw [lg_entry_eq]
  generalize (lg_sl ([.ref h0, .int p0, .int p1, .int p2]) ++ List.replicate (8 - (lg_sl ([.ref h0, .int p0, .int p1, .int p2])).length) Slot.unset).toArray = ls at hl ⊢
  have hl : lv_has ls 8 [(0, .ref h0), (1, .int p0), (2, .int p1), (3, .int p2)] := hl
  have lo_p0 := i_lo p0
  have hi_p0 := i_hi p0
  have lo_p1 := i_lo p1
  have hi_p1 := i_hi p1
  have lo_p2 := i_lo p2
  have hi_p2 := i_hi p2
  refine lv_iload_n hx hb dX8_told_0 rfl (lv_at hl 1 rfl) ?_
  refine callRS (rest := []) (As := [.int p0]) hx hb hml hown htb hK (c_X8_isShip l D E p0 ) ok_X8_isShip k_773 k_774 k_1 k_775 ⟨(Nat.le_of_ble_eq_true rfl), (Nat.le_of_ble_eq_true rfl)⟩ ⟨(Nat.le_of_ble_eq_true rfl), (Nat.le_of_ble_eq_true rfl)⟩ hl.1 (Nat.le_of_ble_eq_true rfl) rfl rfl dX8_told_1 (hP.sub (ws' := ([] : va_W)) [] rfl) (fun r_2 hw_1 => ?_)
  rcases hw_1 with ⟨hr_2, hw_1⟩ | ⟨hr_2, hw_1⟩
  ·
    refine W_top (y := .int 1) (by rw [hr_2]) ?_
    refine lv_if_eq (tgt := 34) hx hb dX8_told_4 (by decide) (fun c_3 => absurd c_3 (by decide)) (fun c_3 => ?_)
    refine lv_iload_n hx hb dX8_told_7 rfl (lv_at hl 2 rfl) ?_
    refine lv_if_lt (tgt := 34) hx hb dX8_told_8 (by decide) (fun c_4 => ?_) (fun c_4 => ?_)
    ·
      have ic_4 : p1.toInt < 0 := by first | exact (g_lt rfl t_0).mp c_4 | (have h := mt (g_le t_0 rfl).mpr c_4; omega)
      refine lv_ldc hx hb hown (htb _ k_386) dX8_told_34 ?_
      exact W.iret (v := (-2000000000)) hx hb hr (fun t ht hW => ⟨(-2000000000), rfl, ⟨rfl, trivial⟩, ht⟩) (fun q h => by cases h) dX8_told_36
    ·
      have ic_4 : 0 ≤ p1.toInt := by first | exact (g_le t_0 rfl).mp c_4 | (have h := mt (g_lt rfl t_0).mpr c_4; omega)
      refine lv_iload_n hx hb dX8_told_11 rfl (lv_at hl 2 rfl) ?_
      refine lv_aload_n hx hb dX8_told_12 rfl (lv_at hl 0 rfl) ?_
      refine va_get (D := D) (ci := 8) (v := .ref (a 4)) (C := RX8) (T := TX8) (N := 14) hx hb htb iX8 hown hK.1 hP 0 rfl rfl 4 (by decide) (htb _ k_276) (fun _ h9 => h9) rfl dX8_told_13 ?_
      refine lv_iload_n hx hb dX8_told_16 rfl (lv_at hl 1 rfl) ?_
      refine va_aldq hx hb hK.1 hP 1 4 rfl rfl (g_in rfl (by omega) (by omega)) dX8_told_17 ?_
      have h_5 : p0.toInt = 0 ∨ p0.toInt = 1 ∨ p0.toInt = 2 ∨ p0.toInt = 3 ∨ p0.toInt = 4 := by omega
      rcases h_5 with h_5 | h_5 | h_5 | h_5 | h_5
      ·
        have h_5e : p0 = 0 := (g_eq rfl t_0).mpr h_5
        refine W_top (y := .ref (a 13)) (by rw [h_5e]; exact congrArg (fun n => Value.ref (a n)) (by decide : 13 + (0 : Int32).toNatClampNeg = 13)) ?_
        refine va_getN (D := D) (ci := 5) (v := .int 0) (C := RX5) (T := TX5) (N := 11) hx hb htb iX5 hown hK.1 hP 2 rfl rfl 7 (by decide) (va_Nw.use rfl (hK.2.1 (Cond.fieldLinkNest RX8 236 "SeaWatches$Ship" "sights" "I" "SeaWatches") (by decide +kernel))) (fun _ h9 => h9) rfl dX8_told_18 ?_
        refine lv_icmp_ge (tgt := 34) hx hb dX8_told_21 (by decide) (fun c_6 => ?_) (fun c_6 => absurd (by rw [g_le t_0 rfl]; omega) c_6)
        refine lv_ldc hx hb hown (htb _ k_386) dX8_told_34 ?_
        exact W.iret (v := (-2000000000)) hx hb hr (fun t ht hW => ⟨(-2000000000), rfl, ⟨rfl, trivial⟩, ht⟩) (fun q h => by cases h) dX8_told_36
      ·
        have h_5e : p0 = 1 := (g_eq rfl t_1).mpr h_5
        refine W_top (y := .ref (a 14)) (by rw [h_5e]; exact congrArg (fun n => Value.ref (a n)) (by decide : 13 + (1 : Int32).toNatClampNeg = 14)) ?_
        refine va_getN (D := D) (ci := 5) (v := .int 0) (C := RX5) (T := TX5) (N := 11) hx hb htb iX5 hown hK.1 hP 3 rfl rfl 7 (by decide) (va_Nw.use rfl (hK.2.1 (Cond.fieldLinkNest RX8 236 "SeaWatches$Ship" "sights" "I" "SeaWatches") (by decide +kernel))) (fun _ h9 => h9) rfl dX8_told_18 ?_
        refine lv_icmp_ge (tgt := 34) hx hb dX8_told_21 (by decide) (fun c_7 => ?_) (fun c_7 => absurd (by rw [g_le t_0 rfl]; omega) c_7)
        refine lv_ldc hx hb hown (htb _ k_386) dX8_told_34 ?_
        exact W.iret (v := (-2000000000)) hx hb hr (fun t ht hW => ⟨(-2000000000), rfl, ⟨rfl, trivial⟩, ht⟩) (fun q h => by cases h) dX8_told_36
      ·
        have h_5e : p0 = 2 := (g_eq rfl t_2).mpr h_5
        refine W_top (y := .ref (a 15)) (by rw [h_5e]; exact congrArg (fun n => Value.ref (a n)) (by decide : 13 + (2 : Int32).toNatClampNeg = 15)) ?_
        refine va_getN (D := D) (ci := 5) (v := .int 0) (C := RX5) (T := TX5) (N := 11) hx hb htb iX5 hown hK.1 hP 4 rfl rfl 7 (by decide) (va_Nw.use rfl (hK.2.1 (Cond.fieldLinkNest RX8 236 "SeaWatches$Ship" "sights" "I" "SeaWatches") (by decide +kernel))) (fun _ h9 => h9) rfl dX8_told_18 ?_
        refine lv_icmp_ge (tgt := 34) hx hb dX8_told_21 (by decide) (fun c_8 => ?_) (fun c_8 => absurd (by rw [g_le t_0 rfl]; omega) c_8)
        refine lv_ldc hx hb hown (htb _ k_386) dX8_told_34 ?_
        exact W.iret (v := (-2000000000)) hx hb hr (fun t ht hW => ⟨(-2000000000), rfl, ⟨rfl, trivial⟩, ht⟩) (fun q h => by cases h) dX8_told_36
      ·
        have h_5e : p0 = 3 := (g_eq rfl t_3).mpr h_5
        refine W_top (y := .ref (a 16)) (by rw [h_5e]; exact congrArg (fun n => Value.ref (a n)) (by decide : 13 + (3 : Int32).toNatClampNeg = 16)) ?_
        refine va_getN (D := D) (ci := 5) (v := .int 0) (C := RX5) (T := TX5) (N := 11) hx hb htb iX5 hown hK.1 hP 5 rfl rfl 7 (by decide) (va_Nw.use rfl (hK.2.1 (Cond.fieldLinkNest RX8 236 "SeaWatches$Ship" "sights" "I" "SeaWatches") (by decide +kernel))) (fun _ h9 => h9) rfl dX8_told_18 ?_
        refine lv_icmp_ge (tgt := 34) hx hb dX8_told_21 (by decide) (fun c_9 => ?_) (fun c_9 => absurd (by rw [g_le t_0 rfl]; omega) c_9)
        refine lv_ldc hx hb hown (htb _ k_386) dX8_told_34 ?_
        exact W.iret (v := (-2000000000)) hx hb hr (fun t ht hW => ⟨(-2000000000), rfl, ⟨rfl, trivial⟩, ht⟩) (fun q h => by cases h) dX8_told_36
      ·
        have h_5e : p0 = 4 := (g_eq rfl t_4).mpr h_5
        refine W_top (y := .ref (a 17)) (by rw [h_5e]; exact congrArg (fun n => Value.ref (a n)) (by decide : 13 + (4 : Int32).toNatClampNeg = 17)) ?_
        refine va_getN (D := D) (ci := 5) (v := .int 0) (C := RX5) (T := TX5) (N := 11) hx hb htb iX5 hown hK.1 hP 6 rfl rfl 7 (by decide) (va_Nw.use rfl (hK.2.1 (Cond.fieldLinkNest RX8 236 "SeaWatches$Ship" "sights" "I" "SeaWatches") (by decide +kernel))) (fun _ h9 => h9) rfl dX8_told_18 ?_
        refine lv_icmp_ge (tgt := 34) hx hb dX8_told_21 (by decide) (fun c_10 => ?_) (fun c_10 => absurd (by rw [g_le t_0 rfl]; omega) c_10)
        refine lv_ldc hx hb hown (htb _ k_386) dX8_told_34 ?_
        exact W.iret (v := (-2000000000)) hx hb hr (fun t ht hW => ⟨(-2000000000), rfl, ⟨rfl, trivial⟩, ht⟩) (fun q h => by cases h) dX8_told_36
  ·
    refine W_top (y := .int 0) (by rw [hr_2]) ?_
    refine lv_if_eq (tgt := 34) hx hb dX8_told_4 (by decide) (fun c_11 => ?_) (fun c_11 => absurd (by decide) c_11)
    refine lv_ldc hx hb hown (htb _ k_386) dX8_told_34 ?_
    exact W.iret (v := (-2000000000)) hx hb hr (fun t ht hW => ⟨(-2000000000), rfl, ⟨rfl, trivial⟩, ht⟩) (fun q h => by cases h) dX8_told_36
set_option maxHeartbeats 4000000 in
set_option maxRecDepth 100000 in
theorem c_X8_back (l : Launch) (D : va_G) (E : Nat → Nat) (h0 : Nat) (a : Nat → Nat) (b : Nat → Nat → Nat) (p0 : Int32) (p1 : Int32) (p2 : Int32) (p3 : Int32)  : Met l yX8_back (wl yX8_back cX8_back 6 (some .int)) (RM 1 0 0) (rd_P D E [.ref h0, .int p0, .int p1, .int p2, .int p3] [(h0, .inr (8, xF a 0)), ((a 4), .inl (E 4, 5, .inr (.inr (.inr (.inr (fun j => some (a (13 + j)))))))), ((a 13), .inr (5, sF (b 0))), ((a 14), .inr (5, sF (b 1))), ((a 15), .inr (5, sF (b 2))), ((a 16), .inr (5, sF (b 3))), ((a 17), .inr (5, sF (b 4)))]) (rd_Q (fun r => (r = (-4) ∧ ((0 ≤ p0.toInt ∧ p0.toInt ≤ 4) ∧ (-100000 ≤ p1.toInt ∧ p1.toInt ≤ 100000) ∧ (-100000 ≤ p2.toInt ∧ p2.toInt ≤ 100000) ∧ (-100000 ≤ p3.toInt ∧ p3.toInt ≤ 100000))) ∨ (r = (-1) ∧ ¬ ((0 ≤ p0.toInt ∧ p0.toInt ≤ 4) ∧ (-100000 ≤ p1.toInt ∧ p1.toInt ≤ 100000) ∧ (-100000 ≤ p2.toInt ∧ p2.toInt ≤ 100000) ∧ (-100000 ≤ p3.toInt ∧ p3.toInt ≤ 100000))))) 0 0 (fun _ => False) := by
  refine Met.ofW (cc := cX8_back) (maxL := 6) (ret := (some .int)) (by decide) rfl ?_
  intro p e s m args below meth c s₁ B hml hv
  obtain ⟨rfl, hP, hK⟩ := hv
  have hx := B.exec
  have hb := B.bytes
  have hr := B.returns
  have hts := atoms_spec (ws := wl yX8_back cX8_back 6 (some .int)) B.pre
  have htb : ∀ w ∈ tb, w.before _ s = true := fun w h => hts w (List.mem_cons_of_mem _ h)
  have hown : s.vm.findClass RX8 = some m.cls := findClass_of_methodNamed B.named
  have hlocks := B.notSynchronized
  have hP : va_P D vwCl [(h0, .inr (8, xF a 0)), ((a 4), .inl (E 4, 5, .inr (.inr (.inr (.inr (fun j => some (a (13 + j)))))))), ((a 13), .inr (5, sF (b 0))), ((a 14), .inr (5, sF (b 1))), ((a 15), .inr (5, sF (b 2))), ((a 16), .inr (5, sF (b 3))), ((a 17), .inr (5, sF (b 4)))] s.heap := hP
  have hl := lv_entry ([.ref h0, .int p0, .int p1, .int p2, .int p3]) (n := 6) (Nat.le_of_ble_eq_true rfl)
  rw [lg_entry_eq]
  generalize (lg_sl ([.ref h0, .int p0, .int p1, .int p2, .int p3]) ++ List.replicate (6 - (lg_sl ([.ref h0, .int p0, .int p1, .int p2, .int p3])).length) Slot.unset).toArray = ls at hl ⊢
  have hl : lv_has ls 6 [(0, .ref h0), (1, .int p0), (2, .int p1), (3, .int p2), (4, .int p3)] := hl
  have lo_p0 := i_lo p0
  have hi_p0 := i_hi p0
  have lo_p1 := i_lo p1
  have hi_p1 := i_hi p1
  have lo_p2 := i_lo p2
  have hi_p2 := i_hi p2
  have lo_p3 := i_lo p3
  have hi_p3 := i_hi p3
  refine lv_iload_n hx hb dX8_back_0 rfl (lv_at hl 1 rfl) ?_
  refine callRS (rest := []) (As := [.int p0]) hx hb hml hown htb hK (c_X8_isShip l D E p0 ) ok_X8_isShip k_773 k_774 k_1 k_775 ⟨(Nat.le_of_ble_eq_true rfl), (Nat.le_of_ble_eq_true rfl)⟩ ⟨(Nat.le_of_ble_eq_true rfl), (Nat.le_of_ble_eq_true rfl)⟩ hl.1 (Nat.le_of_ble_eq_true rfl) rfl rfl dX8_back_1 (hP.sub (ws' := ([] : va_W)) [] rfl) (fun r_2 hw_1 => ?_)
  rcases hw_1 with ⟨hr_2, hw_1⟩ | ⟨hr_2, hw_1⟩
  ·
    refine W_top (y := .int 1) (by rw [hr_2]) ?_
    refine lv_if_eq (tgt := 35) hx hb dX8_back_4 (by decide) (fun c_3 => absurd c_3 (by decide)) (fun c_3 => ?_)
    refine lv_iload_n hx hb dX8_back_7 rfl (lv_at hl 2 rfl) ?_
    refine lv_ldc hx hb hown (htb _ k_395) dX8_back_8 ?_
    refine callRS (rest := []) (As := [.int p1, .int 100000]) hx hb hml hown htb hK (c_X8_isWithin l D E p1 100000 (by decide)) ok_X8_isWithin k_326 k_327 k_1 k_328 ⟨(Nat.le_of_ble_eq_true rfl), (Nat.le_of_ble_eq_true rfl)⟩ ⟨(Nat.le_of_ble_eq_true rfl), (Nat.le_of_ble_eq_true rfl)⟩ hl.1 (Nat.le_of_ble_eq_true rfl) rfl rfl dX8_back_10 (hP.sub (ws' := ([] : va_W)) [] rfl) (fun r_5 hw_4 => ?_)
    rcases hw_4 with ⟨hr_5, hw_4⟩ | ⟨hr_5, hw_4⟩
    ·
      try simp only [t_100000] at hw_4
      refine W_top (y := .int 1) (by rw [hr_5]) ?_
      refine lv_if_eq (tgt := 35) hx hb dX8_back_13 (by decide) (fun c_6 => absurd c_6 (by decide)) (fun c_6 => ?_)
      refine lv_iload_n hx hb dX8_back_16 rfl (lv_at hl 3 rfl) ?_
      refine lv_ldc hx hb hown (htb _ k_395) dX8_back_17 ?_
      refine callRS (rest := []) (As := [.int p2, .int 100000]) hx hb hml hown htb hK (c_X8_isWithin l D E p2 100000 (by decide)) ok_X8_isWithin k_326 k_327 k_1 k_328 ⟨(Nat.le_of_ble_eq_true rfl), (Nat.le_of_ble_eq_true rfl)⟩ ⟨(Nat.le_of_ble_eq_true rfl), (Nat.le_of_ble_eq_true rfl)⟩ hl.1 (Nat.le_of_ble_eq_true rfl) rfl rfl dX8_back_19 (hP.sub (ws' := ([] : va_W)) [] rfl) (fun r_8 hw_7 => ?_)
      rcases hw_7 with ⟨hr_8, hw_7⟩ | ⟨hr_8, hw_7⟩
      ·
        try simp only [t_100000] at hw_7
        refine W_top (y := .int 1) (by rw [hr_8]) ?_
        refine lv_if_eq (tgt := 35) hx hb dX8_back_22 (by decide) (fun c_9 => absurd c_9 (by decide)) (fun c_9 => ?_)
        refine lv_iload hx hb dX8_back_25 (lv_at hl 4 rfl) ?_
        refine lv_ldc hx hb hown (htb _ k_395) dX8_back_27 ?_
        refine callRS (rest := []) (As := [.int p3, .int 100000]) hx hb hml hown htb hK (c_X8_isWithin l D E p3 100000 (by decide)) ok_X8_isWithin k_326 k_327 k_1 k_328 ⟨(Nat.le_of_ble_eq_true rfl), (Nat.le_of_ble_eq_true rfl)⟩ ⟨(Nat.le_of_ble_eq_true rfl), (Nat.le_of_ble_eq_true rfl)⟩ hl.1 (Nat.le_of_ble_eq_true rfl) rfl rfl dX8_back_29 (hP.sub (ws' := ([] : va_W)) [] rfl) (fun r_11 hw_10 => ?_)
        rcases hw_10 with ⟨hr_11, hw_10⟩ | ⟨hr_11, hw_10⟩
        ·
          try simp only [t_100000] at hw_10
          refine W_top (y := .int 1) (by rw [hr_11]) ?_
          refine lv_if_ne (tgt := 37) hx hb dX8_back_32 (by decide) (fun c_12 => ?_) (fun c_12 => absurd c_12 (by decide))
          refine lv_aload_n hx hb dX8_back_37 rfl (lv_at hl 0 rfl) ?_
          refine va_get (D := D) (ci := 8) (v := .ref (a 4)) (C := RX8) (T := TX8) (N := 14) hx hb htb iX8 hown hK.1 hP 0 rfl rfl 4 (by decide) (htb _ k_276) (fun _ h9 => h9) rfl dX8_back_38 ?_
          refine lv_iload_n hx hb dX8_back_41 rfl (lv_at hl 1 rfl) ?_
          refine va_aldq hx hb hK.1 hP 1 4 rfl rfl (g_in rfl (by omega) (by omega)) dX8_back_42 ?_
          have h_13 : p0.toInt = 0 ∨ p0.toInt = 1 ∨ p0.toInt = 2 ∨ p0.toInt = 3 ∨ p0.toInt = 4 := by omega
          rcases h_13 with h_13 | h_13 | h_13 | h_13 | h_13
          ·
            have h_13e : p0 = 0 := (g_eq rfl t_0).mpr h_13
            refine W_top (y := .ref (a 13)) (by rw [h_13e]; exact congrArg (fun n => Value.ref (a n)) (by decide : 13 + (0 : Int32).toNatClampNeg = 13)) ?_
            refine lv_astore (lv' := [(5, .ref (a 13)), (0, .ref h0), (1, .int p0), (2, .int p1), (3, .int p2), (4, .int p3)]) hx hb dX8_back_43 hl (by decide) rfl (fun ls hl => ?_)
            refine lv_aload hx hb dX8_back_45 (lv_at hl 0 rfl) ?_
            refine va_getN (D := D) (ci := 5) (v := .int 0) (C := RX5) (T := TX5) (N := 11) hx hb htb iX5 hown hK.1 hP 2 rfl rfl 8 (by decide) (va_Nw.use rfl (hK.2.1 (Cond.fieldLinkNest RX8 208 "SeaWatches$Ship" "stage" "I" "SeaWatches") (by decide +kernel))) (fun _ h9 => h9) rfl dX8_back_47 ?_
            refine lv_iconst (v := 1) hx hb dX8_back_50 (by decide) ?_
            refine lv_icmp_ne (tgt := 66) hx hb dX8_back_51 (by decide) (fun c_14 => ?_) (fun c_14 => absurd c_14 (by decide))
            refine lv_bipush (v := (-4)) hx hb dX8_back_66 (by decide) ?_
            exact W.iret (v := (-4)) hx hb hr (fun t ht hW => ⟨(-4), rfl, by first | exact Or.inl ⟨rfl, by omega⟩ | (exfalso; omega), ht⟩) (fun q h => by cases h) dX8_back_68
          ·
            have h_13e : p0 = 1 := (g_eq rfl t_1).mpr h_13
            refine W_top (y := .ref (a 14)) (by rw [h_13e]; exact congrArg (fun n => Value.ref (a n)) (by decide : 13 + (1 : Int32).toNatClampNeg = 14)) ?_
            refine lv_astore (lv' := [(5, .ref (a 14)), (0, .ref h0), (1, .int p0), (2, .int p1), (3, .int p2), (4, .int p3)]) hx hb dX8_back_43 hl (by decide) rfl (fun ls hl => ?_)
            refine lv_aload hx hb dX8_back_45 (lv_at hl 0 rfl) ?_
            refine va_getN (D := D) (ci := 5) (v := .int 0) (C := RX5) (T := TX5) (N := 11) hx hb htb iX5 hown hK.1 hP 3 rfl rfl 8 (by decide) (va_Nw.use rfl (hK.2.1 (Cond.fieldLinkNest RX8 208 "SeaWatches$Ship" "stage" "I" "SeaWatches") (by decide +kernel))) (fun _ h9 => h9) rfl dX8_back_47 ?_
            refine lv_iconst (v := 1) hx hb dX8_back_50 (by decide) ?_
            refine lv_icmp_ne (tgt := 66) hx hb dX8_back_51 (by decide) (fun c_15 => ?_) (fun c_15 => absurd c_15 (by decide))
            refine lv_bipush (v := (-4)) hx hb dX8_back_66 (by decide) ?_
            exact W.iret (v := (-4)) hx hb hr (fun t ht hW => ⟨(-4), rfl, by first | exact Or.inl ⟨rfl, by omega⟩ | (exfalso; omega), ht⟩) (fun q h => by cases h) dX8_back_68
          ·
            have h_13e : p0 = 2 := (g_eq rfl t_2).mpr h_13
            refine W_top (y := .ref (a 15)) (by rw [h_13e]; exact congrArg (fun n => Value.ref (a n)) (by decide : 13 + (2 : Int32).toNatClampNeg = 15)) ?_
            refine lv_astore (lv' := [(5, .ref (a 15)), (0, .ref h0), (1, .int p0), (2, .int p1), (3, .int p2), (4, .int p3)]) hx hb dX8_back_43 hl (by decide) rfl (fun ls hl => ?_)
            refine lv_aload hx hb dX8_back_45 (lv_at hl 0 rfl) ?_
            refine va_getN (D := D) (ci := 5) (v := .int 0) (C := RX5) (T := TX5) (N := 11) hx hb htb iX5 hown hK.1 hP 4 rfl rfl 8 (by decide) (va_Nw.use rfl (hK.2.1 (Cond.fieldLinkNest RX8 208 "SeaWatches$Ship" "stage" "I" "SeaWatches") (by decide +kernel))) (fun _ h9 => h9) rfl dX8_back_47 ?_
            refine lv_iconst (v := 1) hx hb dX8_back_50 (by decide) ?_
            refine lv_icmp_ne (tgt := 66) hx hb dX8_back_51 (by decide) (fun c_16 => ?_) (fun c_16 => absurd c_16 (by decide))
            refine lv_bipush (v := (-4)) hx hb dX8_back_66 (by decide) ?_
            exact W.iret (v := (-4)) hx hb hr (fun t ht hW => ⟨(-4), rfl, by first | exact Or.inl ⟨rfl, by omega⟩ | (exfalso; omega), ht⟩) (fun q h => by cases h) dX8_back_68
          ·
            have h_13e : p0 = 3 := (g_eq rfl t_3).mpr h_13
            refine W_top (y := .ref (a 16)) (by rw [h_13e]; exact congrArg (fun n => Value.ref (a n)) (by decide : 13 + (3 : Int32).toNatClampNeg = 16)) ?_
            refine lv_astore (lv' := [(5, .ref (a 16)), (0, .ref h0), (1, .int p0), (2, .int p1), (3, .int p2), (4, .int p3)]) hx hb dX8_back_43 hl (by decide) rfl (fun ls hl => ?_)
            refine lv_aload hx hb dX8_back_45 (lv_at hl 0 rfl) ?_
            refine va_getN (D := D) (ci := 5) (v := .int 0) (C := RX5) (T := TX5) (N := 11) hx hb htb iX5 hown hK.1 hP 5 rfl rfl 8 (by decide) (va_Nw.use rfl (hK.2.1 (Cond.fieldLinkNest RX8 208 "SeaWatches$Ship" "stage" "I" "SeaWatches") (by decide +kernel))) (fun _ h9 => h9) rfl dX8_back_47 ?_
            refine lv_iconst (v := 1) hx hb dX8_back_50 (by decide) ?_
            refine lv_icmp_ne (tgt := 66) hx hb dX8_back_51 (by decide) (fun c_17 => ?_) (fun c_17 => absurd c_17 (by decide))
            refine lv_bipush (v := (-4)) hx hb dX8_back_66 (by decide) ?_
            exact W.iret (v := (-4)) hx hb hr (fun t ht hW => ⟨(-4), rfl, by first | exact Or.inl ⟨rfl, by omega⟩ | (exfalso; omega), ht⟩) (fun q h => by cases h) dX8_back_68
          ·
            have h_13e : p0 = 4 := (g_eq rfl t_4).mpr h_13
            refine W_top (y := .ref (a 17)) (by rw [h_13e]; exact congrArg (fun n => Value.ref (a n)) (by decide : 13 + (4 : Int32).toNatClampNeg = 17)) ?_
            refine lv_astore (lv' := [(5, .ref (a 17)), (0, .ref h0), (1, .int p0), (2, .int p1), (3, .int p2), (4, .int p3)]) hx hb dX8_back_43 hl (by decide) rfl (fun ls hl => ?_)
            refine lv_aload hx hb dX8_back_45 (lv_at hl 0 rfl) ?_
            refine va_getN (D := D) (ci := 5) (v := .int 0) (C := RX5) (T := TX5) (N := 11) hx hb htb iX5 hown hK.1 hP 6 rfl rfl 8 (by decide) (va_Nw.use rfl (hK.2.1 (Cond.fieldLinkNest RX8 208 "SeaWatches$Ship" "stage" "I" "SeaWatches") (by decide +kernel))) (fun _ h9 => h9) rfl dX8_back_47 ?_
            refine lv_iconst (v := 1) hx hb dX8_back_50 (by decide) ?_
            refine lv_icmp_ne (tgt := 66) hx hb dX8_back_51 (by decide) (fun c_18 => ?_) (fun c_18 => absurd c_18 (by decide))
            refine lv_bipush (v := (-4)) hx hb dX8_back_66 (by decide) ?_
            exact W.iret (v := (-4)) hx hb hr (fun t ht hW => ⟨(-4), rfl, by first | exact Or.inl ⟨rfl, by omega⟩ | (exfalso; omega), ht⟩) (fun q h => by cases h) dX8_back_68
        ·
          try simp only [t_100000] at hw_10
          refine W_top (y := .int 0) (by rw [hr_11]) ?_
          refine lv_if_ne (tgt := 37) hx hb dX8_back_32 (by decide) (fun c_19 => absurd (by decide) c_19) (fun c_19 => ?_)
          refine lv_iconst (v := (-1)) hx hb dX8_back_35 (by decide) ?_
          exact W.iret (v := (-1)) hx hb hr (fun t ht hW => ⟨(-1), rfl, by first | exact Or.inr ⟨rfl, by omega⟩ | (exfalso; omega), ht⟩) (fun q h => by cases h) dX8_back_36
      ·
        try simp only [t_100000] at hw_7
        refine W_top (y := .int 0) (by rw [hr_8]) ?_
        refine lv_if_eq (tgt := 35) hx hb dX8_back_22 (by decide) (fun c_20 => ?_) (fun c_20 => absurd (by decide) c_20)
        refine lv_iconst (v := (-1)) hx hb dX8_back_35 (by decide) ?_
        exact W.iret (v := (-1)) hx hb hr (fun t ht hW => ⟨(-1), rfl, by first | exact Or.inr ⟨rfl, by omega⟩ | (exfalso; omega), ht⟩) (fun q h => by cases h) dX8_back_36
    ·
      try simp only [t_100000] at hw_4
      refine W_top (y := .int 0) (by rw [hr_5]) ?_
      refine lv_if_eq (tgt := 35) hx hb dX8_back_13 (by decide) (fun c_21 => ?_) (fun c_21 => absurd (by decide) c_21)
      refine lv_iconst (v := (-1)) hx hb dX8_back_35 (by decide) ?_
      exact W.iret (v := (-1)) hx hb hr (fun t ht hW => ⟨(-1), rfl, by first | exact Or.inr ⟨rfl, by omega⟩ | (exfalso; omega), ht⟩) (fun q h => by cases h) dX8_back_36
  ·
    refine W_top (y := .int 0) (by rw [hr_2]) ?_
    refine lv_if_eq (tgt := 35) hx hb dX8_back_4 (by decide) (fun c_22 => ?_) (fun c_22 => absurd (by decide) c_22)
    refine lv_iconst (v := (-1)) hx hb dX8_back_35 (by decide) ?_
    exact W.iret (v := (-1)) hx hb hr (fun t ht hW => ⟨(-1), rfl, by first | exact Or.inr ⟨rfl, by omega⟩ | (exfalso; omega), ht⟩) (fun q h => by cases h) dX8_back_36
set_option maxHeartbeats 4000000 in
set_option maxRecDepth 100000 in
theorem c_X8_state (l : Launch) (D : va_G) (E : Nat → Nat) (h0 : Nat) (a : Nat → Nat) (b : Nat → Nat → Nat) (p0 : Int32)  : Met l yX8_state (wl yX8_state cX8_state 2 (some .int)) (RM 1 0 0) (rd_P D E [.ref h0, .int p0] [(h0, .inr (8, xF a 0)), ((a 4), .inl (E 4, 5, .inr (.inr (.inr (.inr (fun j => some (a (13 + j)))))))), ((a 13), .inr (5, sF (b 0))), ((a 14), .inr (5, sF (b 1))), ((a 15), .inr (5, sF (b 2))), ((a 16), .inr (5, sF (b 3))), ((a 17), .inr (5, sF (b 4)))]) (rd_Q (fun r => (r = 0 ∧ (0 ≤ p0.toInt ∧ p0.toInt ≤ 4)) ∨ (r = (-1) ∧ ¬ (0 ≤ p0.toInt ∧ p0.toInt ≤ 4)))) 0 0 (fun _ => False) := by
  refine Met.ofW (cc := cX8_state) (maxL := 2) (ret := (some .int)) (by decide) rfl ?_
  intro p e s m args below meth c s₁ B hml hv
  obtain ⟨rfl, hP, hK⟩ := hv
  have hx := B.exec
  have hb := B.bytes
  have hr := B.returns
  have hts := atoms_spec (ws := wl yX8_state cX8_state 2 (some .int)) B.pre
  have htb : ∀ w ∈ tb, w.before _ s = true := fun w h => hts w (List.mem_cons_of_mem _ h)
  have hown : s.vm.findClass RX8 = some m.cls := findClass_of_methodNamed B.named
  have hlocks := B.notSynchronized
  have hP : va_P D vwCl [(h0, .inr (8, xF a 0)), ((a 4), .inl (E 4, 5, .inr (.inr (.inr (.inr (fun j => some (a (13 + j)))))))), ((a 13), .inr (5, sF (b 0))), ((a 14), .inr (5, sF (b 1))), ((a 15), .inr (5, sF (b 2))), ((a 16), .inr (5, sF (b 3))), ((a 17), .inr (5, sF (b 4)))] s.heap := hP
  have hl := lv_entry ([.ref h0, .int p0]) (n := 2) (Nat.le_of_ble_eq_true rfl)
  rw [lg_entry_eq]
  generalize (lg_sl ([.ref h0, .int p0]) ++ List.replicate (2 - (lg_sl ([.ref h0, .int p0])).length) Slot.unset).toArray = ls at hl ⊢
  have hl : lv_has ls 2 [(0, .ref h0), (1, .int p0)] := hl
  have lo_p0 := i_lo p0
  have hi_p0 := i_hi p0
  refine lv_iload_n hx hb dX8_state_0 rfl (lv_at hl 1 rfl) ?_
  refine callRS (rest := []) (As := [.int p0]) hx hb hml hown htb hK (c_X8_isShip l D E p0 ) ok_X8_isShip k_773 k_774 k_1 k_775 ⟨(Nat.le_of_ble_eq_true rfl), (Nat.le_of_ble_eq_true rfl)⟩ ⟨(Nat.le_of_ble_eq_true rfl), (Nat.le_of_ble_eq_true rfl)⟩ hl.1 (Nat.le_of_ble_eq_true rfl) rfl rfl dX8_state_1 (hP.sub (ws' := ([] : va_W)) [] rfl) (fun r_2 hw_1 => ?_)
  rcases hw_1 with ⟨hr_2, hw_1⟩ | ⟨hr_2, hw_1⟩
  ·
    refine W_top (y := .int 1) (by rw [hr_2]) ?_
    refine lv_if_eq (tgt := 19) hx hb dX8_state_4 (by decide) (fun c_3 => absurd c_3 (by decide)) (fun c_3 => ?_)
    refine lv_aload_n hx hb dX8_state_7 rfl (lv_at hl 0 rfl) ?_
    refine va_get (D := D) (ci := 8) (v := .ref (a 4)) (C := RX8) (T := TX8) (N := 14) hx hb htb iX8 hown hK.1 hP 0 rfl rfl 4 (by decide) (htb _ k_276) (fun _ h9 => h9) rfl dX8_state_8 ?_
    refine lv_iload_n hx hb dX8_state_11 rfl (lv_at hl 1 rfl) ?_
    refine va_aldq hx hb hK.1 hP 1 4 rfl rfl (g_in rfl (by omega) (by omega)) dX8_state_12 ?_
    have h_4 : p0.toInt = 0 ∨ p0.toInt = 1 ∨ p0.toInt = 2 ∨ p0.toInt = 3 ∨ p0.toInt = 4 := by omega
    rcases h_4 with h_4 | h_4 | h_4 | h_4 | h_4
    ·
      have h_4e : p0 = 0 := (g_eq rfl t_0).mpr h_4
      refine W_top (y := .ref (a 13)) (by rw [h_4e]; exact congrArg (fun n => Value.ref (a n)) (by decide : 13 + (0 : Int32).toNatClampNeg = 13)) ?_
      refine va_getN (D := D) (ci := 5) (v := .int 0) (C := RX5) (T := TX5) (N := 11) hx hb htb iX5 hown hK.1 hP 2 rfl rfl 8 (by decide) (va_Nw.use rfl (hK.2.1 (Cond.fieldLinkNest RX8 208 "SeaWatches$Ship" "stage" "I" "SeaWatches") (by decide +kernel))) (fun _ h9 => h9) rfl dX8_state_13 ?_
      refine lv_goto (tgt := 20) hx hb dX8_state_16 (by decide) ?_
      exact W.iret (v := 0) hx hb hr (fun t ht hW => ⟨0, rfl, by first | exact Or.inl ⟨rfl, by omega⟩ | (exfalso; omega), ht⟩) (fun q h => by cases h) dX8_state_20
    ·
      have h_4e : p0 = 1 := (g_eq rfl t_1).mpr h_4
      refine W_top (y := .ref (a 14)) (by rw [h_4e]; exact congrArg (fun n => Value.ref (a n)) (by decide : 13 + (1 : Int32).toNatClampNeg = 14)) ?_
      refine va_getN (D := D) (ci := 5) (v := .int 0) (C := RX5) (T := TX5) (N := 11) hx hb htb iX5 hown hK.1 hP 3 rfl rfl 8 (by decide) (va_Nw.use rfl (hK.2.1 (Cond.fieldLinkNest RX8 208 "SeaWatches$Ship" "stage" "I" "SeaWatches") (by decide +kernel))) (fun _ h9 => h9) rfl dX8_state_13 ?_
      refine lv_goto (tgt := 20) hx hb dX8_state_16 (by decide) ?_
      exact W.iret (v := 0) hx hb hr (fun t ht hW => ⟨0, rfl, by first | exact Or.inl ⟨rfl, by omega⟩ | (exfalso; omega), ht⟩) (fun q h => by cases h) dX8_state_20
    ·
      have h_4e : p0 = 2 := (g_eq rfl t_2).mpr h_4
      refine W_top (y := .ref (a 15)) (by rw [h_4e]; exact congrArg (fun n => Value.ref (a n)) (by decide : 13 + (2 : Int32).toNatClampNeg = 15)) ?_
      refine va_getN (D := D) (ci := 5) (v := .int 0) (C := RX5) (T := TX5) (N := 11) hx hb htb iX5 hown hK.1 hP 4 rfl rfl 8 (by decide) (va_Nw.use rfl (hK.2.1 (Cond.fieldLinkNest RX8 208 "SeaWatches$Ship" "stage" "I" "SeaWatches") (by decide +kernel))) (fun _ h9 => h9) rfl dX8_state_13 ?_
      refine lv_goto (tgt := 20) hx hb dX8_state_16 (by decide) ?_
      exact W.iret (v := 0) hx hb hr (fun t ht hW => ⟨0, rfl, by first | exact Or.inl ⟨rfl, by omega⟩ | (exfalso; omega), ht⟩) (fun q h => by cases h) dX8_state_20
    ·
      have h_4e : p0 = 3 := (g_eq rfl t_3).mpr h_4
      refine W_top (y := .ref (a 16)) (by rw [h_4e]; exact congrArg (fun n => Value.ref (a n)) (by decide : 13 + (3 : Int32).toNatClampNeg = 16)) ?_
      refine va_getN (D := D) (ci := 5) (v := .int 0) (C := RX5) (T := TX5) (N := 11) hx hb htb iX5 hown hK.1 hP 5 rfl rfl 8 (by decide) (va_Nw.use rfl (hK.2.1 (Cond.fieldLinkNest RX8 208 "SeaWatches$Ship" "stage" "I" "SeaWatches") (by decide +kernel))) (fun _ h9 => h9) rfl dX8_state_13 ?_
      refine lv_goto (tgt := 20) hx hb dX8_state_16 (by decide) ?_
      exact W.iret (v := 0) hx hb hr (fun t ht hW => ⟨0, rfl, by first | exact Or.inl ⟨rfl, by omega⟩ | (exfalso; omega), ht⟩) (fun q h => by cases h) dX8_state_20
    ·
      have h_4e : p0 = 4 := (g_eq rfl t_4).mpr h_4
      refine W_top (y := .ref (a 17)) (by rw [h_4e]; exact congrArg (fun n => Value.ref (a n)) (by decide : 13 + (4 : Int32).toNatClampNeg = 17)) ?_
      refine va_getN (D := D) (ci := 5) (v := .int 0) (C := RX5) (T := TX5) (N := 11) hx hb htb iX5 hown hK.1 hP 6 rfl rfl 8 (by decide) (va_Nw.use rfl (hK.2.1 (Cond.fieldLinkNest RX8 208 "SeaWatches$Ship" "stage" "I" "SeaWatches") (by decide +kernel))) (fun _ h9 => h9) rfl dX8_state_13 ?_
      refine lv_goto (tgt := 20) hx hb dX8_state_16 (by decide) ?_
      exact W.iret (v := 0) hx hb hr (fun t ht hW => ⟨0, rfl, by first | exact Or.inl ⟨rfl, by omega⟩ | (exfalso; omega), ht⟩) (fun q h => by cases h) dX8_state_20
  ·
    refine W_top (y := .int 0) (by rw [hr_2]) ?_
    refine lv_if_eq (tgt := 19) hx hb dX8_state_4 (by decide) (fun c_5 => ?_) (fun c_5 => absurd (by decide) c_5)
    refine lv_iconst (v := (-1)) hx hb dX8_state_19 (by decide) ?_
    exact W.iret (v := (-1)) hx hb hr (fun t ht hW => ⟨(-1), rfl, by first | exact Or.inr ⟨rfl, by omega⟩ | (exfalso; omega), ht⟩) (fun q h => by cases h) dX8_state_20
set_option maxHeartbeats 4000000 in
set_option maxRecDepth 100000 in
theorem c_X8_deal (l : Launch) (D : va_G) (E : Nat → Nat) (h0 : Nat) (a : Nat → Nat) (p0 : Int32) (p1 : Int32) (p2 : Int32)  : Met l yX8_deal (wl yX8_deal cX8_deal 5 (some .int)) (RM 0 0 0) (rd_P D E [.ref h0, .int p0, .int p1, .int p2] [(h0, .inr (8, xF a 0)), ((a 10), .inr (0, [.ref (a 28), .ref (a 29), .ref (a 30), .ref (a 31), .ref (a 32), .int 0, .int 0, .int 0, .int 0]))]) (rd_Q (fun r => (r = (-4) ∧ ((1 ≤ p0.toInt ∧ p0.toInt ≤ 400) ∧ (0 ≤ p1.toInt ∧ p1.toInt ≤ 400) ∧ (0 ≤ p2.toInt ∧ p2.toInt ≤ 400) ∧ ¬ (p1.toInt = 0 ∧ p2.toInt ≠ 0))) ∨ (r = (-1) ∧ ¬ ((1 ≤ p0.toInt ∧ p0.toInt ≤ 400) ∧ (0 ≤ p1.toInt ∧ p1.toInt ≤ 400) ∧ (0 ≤ p2.toInt ∧ p2.toInt ≤ 400) ∧ ¬ (p1.toInt = 0 ∧ p2.toInt ≠ 0))))) 0 0 (fun _ => False) := by
  refine Met.ofW (cc := cX8_deal) (maxL := 5) (ret := (some .int)) (by decide) rfl ?_
  intro p e s m args below meth c s₁ B hml hv
  obtain ⟨rfl, hP, hK⟩ := hv
  have hx := B.exec
  have hb := B.bytes
  have hr := B.returns
  have hts := atoms_spec (ws := wl yX8_deal cX8_deal 5 (some .int)) B.pre
  have htb : ∀ w ∈ tb, w.before _ s = true := fun w h => hts w (List.mem_cons_of_mem _ h)
  have hown : s.vm.findClass RX8 = some m.cls := findClass_of_methodNamed B.named
  have hlocks := B.notSynchronized
  have hP : va_P D vwCl [(h0, .inr (8, xF a 0)), ((a 10), .inr (0, [.ref (a 28), .ref (a 29), .ref (a 30), .ref (a 31), .ref (a 32), .int 0, .int 0, .int 0, .int 0]))] s.heap := hP
  have hl := lv_entry ([.ref h0, .int p0, .int p1, .int p2]) (n := 5) (Nat.le_of_ble_eq_true rfl)
  rw [lg_entry_eq]
  generalize (lg_sl ([.ref h0, .int p0, .int p1, .int p2]) ++ List.replicate (5 - (lg_sl ([.ref h0, .int p0, .int p1, .int p2])).length) Slot.unset).toArray = ls at hl ⊢
  have hl : lv_has ls 5 [(0, .ref h0), (1, .int p0), (2, .int p1), (3, .int p2)] := hl
  have lo_p0 := i_lo p0
  have hi_p0 := i_hi p0
  have lo_p1 := i_lo p1
  have hi_p1 := i_hi p1
  have lo_p2 := i_lo p2
  have hi_p2 := i_hi p2
  refine lv_iload_n hx hb dX8_deal_0 rfl (lv_at hl 1 rfl) ?_
  refine lv_iconst (v := 1) hx hb dX8_deal_1 (by decide) ?_
  refine lv_icmp_lt (tgt := 42) hx hb dX8_deal_2 (by decide) (fun c_1 => ?_) (fun c_1 => ?_)
  ·
    have ic_1 : p0.toInt < 1 := by first | exact (g_lt rfl t_1).mp c_1 | (have h := mt (g_le t_1 rfl).mpr c_1; omega)
    refine lv_iconst (v := (-1)) hx hb dX8_deal_42 (by decide) ?_
    exact W.iret (v := (-1)) hx hb hr (fun t ht hW => ⟨(-1), rfl, by first | exact Or.inr ⟨rfl, by omega⟩ | (exfalso; omega), ht⟩) (fun q h => by cases h) dX8_deal_43
  ·
    have ic_1 : 1 ≤ p0.toInt := by first | exact (g_le t_1 rfl).mp c_1 | (have h := mt (g_lt rfl t_1).mpr c_1; omega)
    refine lv_iload_n hx hb dX8_deal_5 rfl (lv_at hl 1 rfl) ?_
    refine lv_sipush (v := 400) hx hb dX8_deal_6 (by decide) ?_
    refine lv_icmp_gt (tgt := 42) hx hb dX8_deal_9 (by decide) (fun c_2 => ?_) (fun c_2 => ?_)
    ·
      have ic_2 : 400 < p0.toInt := by first | exact (g_lt t_400 rfl).mp c_2 | (have h := mt (g_le rfl t_400).mpr c_2; omega)
      refine lv_iconst (v := (-1)) hx hb dX8_deal_42 (by decide) ?_
      exact W.iret (v := (-1)) hx hb hr (fun t ht hW => ⟨(-1), rfl, by first | exact Or.inr ⟨rfl, by omega⟩ | (exfalso; omega), ht⟩) (fun q h => by cases h) dX8_deal_43
    ·
      have ic_2 : p0.toInt ≤ 400 := by first | exact (g_le rfl t_400).mp c_2 | (have h := mt (g_lt t_400 rfl).mpr c_2; omega)
      refine lv_iload_n hx hb dX8_deal_12 rfl (lv_at hl 2 rfl) ?_
      refine lv_if_lt (tgt := 42) hx hb dX8_deal_13 (by decide) (fun c_3 => ?_) (fun c_3 => ?_)
      ·
        have ic_3 : p1.toInt < 0 := by first | exact (g_lt rfl t_0).mp c_3 | (have h := mt (g_le t_0 rfl).mpr c_3; omega)
        refine lv_iconst (v := (-1)) hx hb dX8_deal_42 (by decide) ?_
        exact W.iret (v := (-1)) hx hb hr (fun t ht hW => ⟨(-1), rfl, by first | exact Or.inr ⟨rfl, by omega⟩ | (exfalso; omega), ht⟩) (fun q h => by cases h) dX8_deal_43
      ·
        have ic_3 : 0 ≤ p1.toInt := by first | exact (g_le t_0 rfl).mp c_3 | (have h := mt (g_lt rfl t_0).mpr c_3; omega)
        refine lv_iload_n hx hb dX8_deal_16 rfl (lv_at hl 2 rfl) ?_
        refine lv_sipush (v := 400) hx hb dX8_deal_17 (by decide) ?_
        refine lv_icmp_gt (tgt := 42) hx hb dX8_deal_20 (by decide) (fun c_4 => ?_) (fun c_4 => ?_)
        ·
          have ic_4 : 400 < p1.toInt := by first | exact (g_lt t_400 rfl).mp c_4 | (have h := mt (g_le rfl t_400).mpr c_4; omega)
          refine lv_iconst (v := (-1)) hx hb dX8_deal_42 (by decide) ?_
          exact W.iret (v := (-1)) hx hb hr (fun t ht hW => ⟨(-1), rfl, by first | exact Or.inr ⟨rfl, by omega⟩ | (exfalso; omega), ht⟩) (fun q h => by cases h) dX8_deal_43
        ·
          have ic_4 : p1.toInt ≤ 400 := by first | exact (g_le rfl t_400).mp c_4 | (have h := mt (g_lt t_400 rfl).mpr c_4; omega)
          refine lv_iload_n hx hb dX8_deal_23 rfl (lv_at hl 3 rfl) ?_
          refine lv_if_lt (tgt := 42) hx hb dX8_deal_24 (by decide) (fun c_5 => ?_) (fun c_5 => ?_)
          ·
            have ic_5 : p2.toInt < 0 := by first | exact (g_lt rfl t_0).mp c_5 | (have h := mt (g_le t_0 rfl).mpr c_5; omega)
            refine lv_iconst (v := (-1)) hx hb dX8_deal_42 (by decide) ?_
            exact W.iret (v := (-1)) hx hb hr (fun t ht hW => ⟨(-1), rfl, by first | exact Or.inr ⟨rfl, by omega⟩ | (exfalso; omega), ht⟩) (fun q h => by cases h) dX8_deal_43
          ·
            have ic_5 : 0 ≤ p2.toInt := by first | exact (g_le t_0 rfl).mp c_5 | (have h := mt (g_lt rfl t_0).mpr c_5; omega)
            refine lv_iload_n hx hb dX8_deal_27 rfl (lv_at hl 3 rfl) ?_
            refine lv_sipush (v := 400) hx hb dX8_deal_28 (by decide) ?_
            refine lv_icmp_gt (tgt := 42) hx hb dX8_deal_31 (by decide) (fun c_6 => ?_) (fun c_6 => ?_)
            ·
              have ic_6 : 400 < p2.toInt := by first | exact (g_lt t_400 rfl).mp c_6 | (have h := mt (g_le rfl t_400).mpr c_6; omega)
              refine lv_iconst (v := (-1)) hx hb dX8_deal_42 (by decide) ?_
              exact W.iret (v := (-1)) hx hb hr (fun t ht hW => ⟨(-1), rfl, by first | exact Or.inr ⟨rfl, by omega⟩ | (exfalso; omega), ht⟩) (fun q h => by cases h) dX8_deal_43
            ·
              have ic_6 : p2.toInt ≤ 400 := by first | exact (g_le rfl t_400).mp c_6 | (have h := mt (g_lt t_400 rfl).mpr c_6; omega)
              refine lv_iload_n hx hb dX8_deal_34 rfl (lv_at hl 2 rfl) ?_
              refine lv_if_ne (tgt := 44) hx hb dX8_deal_35 (by decide) (fun c_7 => ?_) (fun c_7 => ?_)
              ·
                have ic_7 : p1.toInt ≠ 0 := mt (g_eq rfl t_0).mpr c_7
                refine lv_iload_n hx hb dX8_deal_44 rfl (lv_at hl 2 rfl) ?_
                refine lv_if_ne (tgt := 52) hx hb dX8_deal_45 (by decide) (fun c_8 => ?_) (fun c_8 => absurd c_8 (by rw [g_eq rfl t_0]; omega))
                refine lv_iload_n hx hb dX8_deal_52 rfl (lv_at hl 3 rfl) ?_
                refine lv_if_ne (tgt := 60) hx hb dX8_deal_53 (by decide) (fun c_9 => ?_) (fun c_9 => ?_)
                ·
                  have ic_9 : p2.toInt ≠ 0 := mt (g_eq rfl t_0).mpr c_9
                  refine lv_iconst (v := 3) hx hb dX8_deal_60 (by decide) ?_
                  refine lv_istore (lv' := [(4, .int 3), (0, .ref h0), (1, .int p0), (2, .int p1), (3, .int p2)]) hx hb dX8_deal_61 hl (by decide) rfl (fun ls hl => ?_)
                  refine lv_aload_n hx hb dX8_deal_63 rfl (lv_at hl 1 rfl) ?_
                  refine va_get (D := D) (ci := 8) (v := .ref (a 10)) (C := RX8) (T := TX8) (N := 14) hx hb htb iX8 hown hK.1 hP 0 rfl rfl 10 (by decide) (htb _ k_282) (fun _ h9 => h9) rfl dX8_deal_64 ?_
                  refine va_getN (D := D) (ci := 0) (v := .int 0) (C := RX0) (T := TX0) (N := 9) hx hb htb iX0 hown hK.1 hP 1 rfl rfl 5 (by decide) (va_Nw.use rfl (hK.2.1 (Cond.fieldLinkNest RX8 275 "SeaWatches$Dealing" "listed" "I" "SeaWatches") (by decide +kernel))) (fun _ h9 => h9) rfl dX8_deal_67 ?_
                  refine lv_iconst (v := 3) hx hb dX8_deal_70 (by decide) ?_
                  refine lv_iload hx hb dX8_deal_71 (lv_at hl 0 rfl) ?_
                  refine lv_imul hx hb dX8_deal_73 ?_
                  refine W_top (y := .int 9) (by decide) ?_
                  refine lv_icmp_ge (tgt := 80) hx hb dX8_deal_74 (by decide) (fun c_10 => absurd c_10 (by decide)) (fun c_10 => ?_)
                  refine lv_bipush (v := (-4)) hx hb dX8_deal_77 (by decide) ?_
                  exact W.iret (v := (-4)) hx hb hr (fun t ht hW => ⟨(-4), rfl, by first | exact Or.inl ⟨rfl, by omega⟩ | (exfalso; omega), ht⟩) (fun q h => by cases h) dX8_deal_79
                ·
                  have ic_9 : p2.toInt = 0 := (g_eq rfl t_0).mp c_9
                  refine lv_iconst (v := 2) hx hb dX8_deal_56 (by decide) ?_
                  refine lv_goto (tgt := 61) hx hb dX8_deal_57 (by decide) ?_
                  refine lv_istore (lv' := [(4, .int 2), (0, .ref h0), (1, .int p0), (2, .int p1), (3, .int p2)]) hx hb dX8_deal_61 hl (by decide) rfl (fun ls hl => ?_)
                  refine lv_aload_n hx hb dX8_deal_63 rfl (lv_at hl 1 rfl) ?_
                  refine va_get (D := D) (ci := 8) (v := .ref (a 10)) (C := RX8) (T := TX8) (N := 14) hx hb htb iX8 hown hK.1 hP 0 rfl rfl 10 (by decide) (htb _ k_282) (fun _ h9 => h9) rfl dX8_deal_64 ?_
                  refine va_getN (D := D) (ci := 0) (v := .int 0) (C := RX0) (T := TX0) (N := 9) hx hb htb iX0 hown hK.1 hP 1 rfl rfl 5 (by decide) (va_Nw.use rfl (hK.2.1 (Cond.fieldLinkNest RX8 275 "SeaWatches$Dealing" "listed" "I" "SeaWatches") (by decide +kernel))) (fun _ h9 => h9) rfl dX8_deal_67 ?_
                  refine lv_iconst (v := 3) hx hb dX8_deal_70 (by decide) ?_
                  refine lv_iload hx hb dX8_deal_71 (lv_at hl 0 rfl) ?_
                  refine lv_imul hx hb dX8_deal_73 ?_
                  refine W_top (y := .int 6) (by decide) ?_
                  refine lv_icmp_ge (tgt := 80) hx hb dX8_deal_74 (by decide) (fun c_11 => absurd c_11 (by decide)) (fun c_11 => ?_)
                  refine lv_bipush (v := (-4)) hx hb dX8_deal_77 (by decide) ?_
                  exact W.iret (v := (-4)) hx hb hr (fun t ht hW => ⟨(-4), rfl, by first | exact Or.inl ⟨rfl, by omega⟩ | (exfalso; omega), ht⟩) (fun q h => by cases h) dX8_deal_79
              ·
                have ic_7 : p1.toInt = 0 := (g_eq rfl t_0).mp c_7
                refine lv_iload_n hx hb dX8_deal_38 rfl (lv_at hl 3 rfl) ?_
                refine lv_if_eq (tgt := 44) hx hb dX8_deal_39 (by decide) (fun c_12 => ?_) (fun c_12 => ?_)
                ·
                  have ic_12 : p2.toInt = 0 := (g_eq rfl t_0).mp c_12
                  refine lv_iload_n hx hb dX8_deal_44 rfl (lv_at hl 2 rfl) ?_
                  refine lv_if_ne (tgt := 52) hx hb dX8_deal_45 (by decide) (fun c_13 => absurd (by rw [g_eq rfl t_0]; omega) c_13) (fun c_13 => ?_)
                  refine lv_iconst (v := 1) hx hb dX8_deal_48 (by decide) ?_
                  refine lv_goto (tgt := 61) hx hb dX8_deal_49 (by decide) ?_
                  refine lv_istore (lv' := [(4, .int 1), (0, .ref h0), (1, .int p0), (2, .int p1), (3, .int p2)]) hx hb dX8_deal_61 hl (by decide) rfl (fun ls hl => ?_)
                  refine lv_aload_n hx hb dX8_deal_63 rfl (lv_at hl 1 rfl) ?_
                  refine va_get (D := D) (ci := 8) (v := .ref (a 10)) (C := RX8) (T := TX8) (N := 14) hx hb htb iX8 hown hK.1 hP 0 rfl rfl 10 (by decide) (htb _ k_282) (fun _ h9 => h9) rfl dX8_deal_64 ?_
                  refine va_getN (D := D) (ci := 0) (v := .int 0) (C := RX0) (T := TX0) (N := 9) hx hb htb iX0 hown hK.1 hP 1 rfl rfl 5 (by decide) (va_Nw.use rfl (hK.2.1 (Cond.fieldLinkNest RX8 275 "SeaWatches$Dealing" "listed" "I" "SeaWatches") (by decide +kernel))) (fun _ h9 => h9) rfl dX8_deal_67 ?_
                  refine lv_iconst (v := 3) hx hb dX8_deal_70 (by decide) ?_
                  refine lv_iload hx hb dX8_deal_71 (lv_at hl 0 rfl) ?_
                  refine lv_imul hx hb dX8_deal_73 ?_
                  refine W_top (y := .int 3) (by decide) ?_
                  refine lv_icmp_ge (tgt := 80) hx hb dX8_deal_74 (by decide) (fun c_14 => absurd c_14 (by decide)) (fun c_14 => ?_)
                  refine lv_bipush (v := (-4)) hx hb dX8_deal_77 (by decide) ?_
                  exact W.iret (v := (-4)) hx hb hr (fun t ht hW => ⟨(-4), rfl, by first | exact Or.inl ⟨rfl, by omega⟩ | (exfalso; omega), ht⟩) (fun q h => by cases h) dX8_deal_79
                ·
                  have ic_12 : p2.toInt ≠ 0 := mt (g_eq rfl t_0).mpr c_12
                  refine lv_iconst (v := (-1)) hx hb dX8_deal_42 (by decide) ?_
                  exact W.iret (v := (-1)) hx hb hr (fun t ht hW => ⟨(-1), rfl, by first | exact Or.inr ⟨rfl, by omega⟩ | (exfalso; omega), ht⟩) (fun q h => by cases h) dX8_deal_43
set_option maxHeartbeats 4000000 in
set_option maxRecDepth 100000 in
theorem c_X8_dealt (l : Launch) (D : va_G) (E : Nat → Nat) (h0 : Nat) (a : Nat → Nat) (p0 : Int32)  : Met l yX8_dealt (wl yX8_dealt cX8_dealt 2 (some .int)) (RM 0 0 0) (rd_P D E [.ref h0, .int p0] [(h0, .inr (8, xF a 0)), ((a 10), .inr (0, [.ref (a 28), .ref (a 29), .ref (a 30), .ref (a 31), .ref (a 32), .int 0, .int 0, .int 0, .int 0]))]) (rd_Q (fun r => (r = (-2000000000) ∧ True))) 0 0 (fun _ => False) := by
  refine Met.ofW (cc := cX8_dealt) (maxL := 2) (ret := (some .int)) (by decide) rfl ?_
  intro p e s m args below meth c s₁ B hml hv
  obtain ⟨rfl, hP, hK⟩ := hv
  have hx := B.exec
  have hb := B.bytes
  have hr := B.returns
  have hts := atoms_spec (ws := wl yX8_dealt cX8_dealt 2 (some .int)) B.pre
  have htb : ∀ w ∈ tb, w.before _ s = true := fun w h => hts w (List.mem_cons_of_mem _ h)
  have hown : s.vm.findClass RX8 = some m.cls := findClass_of_methodNamed B.named
  have hlocks := B.notSynchronized
  have hP : va_P D vwCl [(h0, .inr (8, xF a 0)), ((a 10), .inr (0, [.ref (a 28), .ref (a 29), .ref (a 30), .ref (a 31), .ref (a 32), .int 0, .int 0, .int 0, .int 0]))] s.heap := hP
  have hl := lv_entry ([.ref h0, .int p0]) (n := 2) (Nat.le_of_ble_eq_true rfl)
  rw [lg_entry_eq]
  generalize (lg_sl ([.ref h0, .int p0]) ++ List.replicate (2 - (lg_sl ([.ref h0, .int p0])).length) Slot.unset).toArray = ls at hl ⊢
  have hl : lv_has ls 2 [(0, .ref h0), (1, .int p0)] := hl
  have lo_p0 := i_lo p0
  have hi_p0 := i_hi p0
  refine lv_iload_n hx hb dX8_dealt_0 rfl (lv_at hl 1 rfl) ?_
  refine lv_if_lt (tgt := 15) hx hb dX8_dealt_1 (by decide) (fun c_1 => ?_) (fun c_1 => ?_)
  ·
    have ic_1 : p0.toInt < 0 := by first | exact (g_lt rfl t_0).mp c_1 | (have h := mt (g_le t_0 rfl).mpr c_1; omega)
    refine lv_ldc hx hb hown (htb _ k_386) dX8_dealt_15 ?_
    refine lv_goto (tgt := 29) hx hb dX8_dealt_17 (by decide) ?_
    exact W.iret (v := (-2000000000)) hx hb hr (fun t ht hW => ⟨(-2000000000), rfl, ⟨rfl, trivial⟩, ht⟩) (fun q h => by cases h) dX8_dealt_29
  ·
    have ic_1 : 0 ≤ p0.toInt := by first | exact (g_le t_0 rfl).mp c_1 | (have h := mt (g_lt rfl t_0).mpr c_1; omega)
    refine lv_iload_n hx hb dX8_dealt_4 rfl (lv_at hl 1 rfl) ?_
    refine lv_aload_n hx hb dX8_dealt_5 rfl (lv_at hl 0 rfl) ?_
    refine va_get (D := D) (ci := 8) (v := .ref (a 10)) (C := RX8) (T := TX8) (N := 14) hx hb htb iX8 hown hK.1 hP 0 rfl rfl 10 (by decide) (htb _ k_282) (fun _ h9 => h9) rfl dX8_dealt_6 ?_
    refine va_getN (D := D) (ci := 0) (v := .int 0) (C := RX0) (T := TX0) (N := 9) hx hb htb iX0 hown hK.1 hP 1 rfl rfl 6 (by decide) (va_Nw.use rfl (hK.2.1 (Cond.fieldLinkNest RX8 282 "SeaWatches$Dealing" "shared" "I" "SeaWatches") (by decide +kernel))) (fun _ h9 => h9) rfl dX8_dealt_9 ?_
    refine lv_icmp_lt (tgt := 20) hx hb dX8_dealt_12 (by decide) (fun c_2 => absurd c_2 (by rw [g_lt rfl t_0]; omega)) (fun c_2 => ?_)
    refine lv_ldc hx hb hown (htb _ k_386) dX8_dealt_15 ?_
    refine lv_goto (tgt := 29) hx hb dX8_dealt_17 (by decide) ?_
    exact W.iret (v := (-2000000000)) hx hb hr (fun t ht hW => ⟨(-2000000000), rfl, ⟨rfl, trivial⟩, ht⟩) (fun q h => by cases h) dX8_dealt_29
set_option maxHeartbeats 4000000 in
set_option maxRecDepth 100000 in
theorem c_X8_count (l : Launch) (D : va_G) (E : Nat → Nat) (h0 : Nat) (a : Nat → Nat) (b : Nat → Nat → Nat) (p0 : Int32)  : Met l yX8_count (wl yX8_count cX8_count 2 (some .int)) (RM 1 0 0) (rd_P D E [.ref h0, .int p0] [(h0, .inr (8, xF a 0)), ((a 1), .inl (E 0, 16, .inl (fun _ => -5))), ((a 4), .inl (E 4, 5, .inr (.inr (.inr (.inr (fun j => some (a (13 + j)))))))), ((a 13), .inr (5, sF (b 0))), ((a 14), .inr (5, sF (b 1))), ((a 15), .inr (5, sF (b 2))), ((a 16), .inr (5, sF (b 3))), ((a 17), .inr (5, sF (b 4))), ((a 6), .inr (2, [.ref (a 18), .ref (a 19), .ref (a 20), .ref (a 21), .ref (a 22), .int 0])), ((a 9), .inr (6, [.ref (a 23), .int 0, .ref (a 24), .ref (E 5), .int 0, .int 0, .int 0, .int 0])), ((a 10), .inr (0, [.ref (a 28), .ref (a 29), .ref (a 30), .ref (a 31), .ref (a 32), .int 0, .int 0, .int 0, .int 0]))]) (rd_Q (fun r => (r = 0 ∧ (0 ≤ p0.toInt ∧ p0.toInt ≤ 6)) ∨ (r = (-1) ∧ ¬ (0 ≤ p0.toInt ∧ p0.toInt ≤ 6)))) 0 0 (fun _ => False) := by
  refine Met.ofW (cc := cX8_count) (maxL := 2) (ret := (some .int)) (by decide) rfl ?_
  intro p e s m args below meth c s₁ B hml hv
  obtain ⟨rfl, hP, hK⟩ := hv
  have hx := B.exec
  have hb := B.bytes
  have hr := B.returns
  have hts := atoms_spec (ws := wl yX8_count cX8_count 2 (some .int)) B.pre
  have htb : ∀ w ∈ tb, w.before _ s = true := fun w h => hts w (List.mem_cons_of_mem _ h)
  have hown : s.vm.findClass RX8 = some m.cls := findClass_of_methodNamed B.named
  have hlocks := B.notSynchronized
  have hP : va_P D vwCl [(h0, .inr (8, xF a 0)), ((a 1), .inl (E 0, 16, .inl (fun _ => -5))), ((a 4), .inl (E 4, 5, .inr (.inr (.inr (.inr (fun j => some (a (13 + j)))))))), ((a 13), .inr (5, sF (b 0))), ((a 14), .inr (5, sF (b 1))), ((a 15), .inr (5, sF (b 2))), ((a 16), .inr (5, sF (b 3))), ((a 17), .inr (5, sF (b 4))), ((a 6), .inr (2, [.ref (a 18), .ref (a 19), .ref (a 20), .ref (a 21), .ref (a 22), .int 0])), ((a 9), .inr (6, [.ref (a 23), .int 0, .ref (a 24), .ref (E 5), .int 0, .int 0, .int 0, .int 0])), ((a 10), .inr (0, [.ref (a 28), .ref (a 29), .ref (a 30), .ref (a 31), .ref (a 32), .int 0, .int 0, .int 0, .int 0]))] s.heap := hP
  have hl := lv_entry ([.ref h0, .int p0]) (n := 2) (Nat.le_of_ble_eq_true rfl)
  rw [lg_entry_eq]
  generalize (lg_sl ([.ref h0, .int p0]) ++ List.replicate (2 - (lg_sl ([.ref h0, .int p0])).length) Slot.unset).toArray = ls at hl ⊢
  have hl : lv_has ls 2 [(0, .ref h0), (1, .int p0)] := hl
  have lo_p0 := i_lo p0
  have hi_p0 := i_hi p0
  refine lv_iload_n hx hb dX8_count_0 rfl (lv_at hl 1 rfl) ?_
  by_cases h_1 : p0.toInt < 0 ∨ 6 < p0.toInt
  ·
    refine lv_tableOut (tgt := 96) hx hb dX8_count_1 h_1 (by decide) ?_
    refine lv_iconst (v := (-1)) hx hb dX8_count_96 (by decide) ?_
    exact W.iret (v := (-1)) hx hb hr (fun t ht hW => ⟨(-1), rfl, by first | exact Or.inr ⟨rfl, by omega⟩ | (exfalso; omega), ht⟩) (fun q h => by cases h) dX8_count_97
  ·
    have h_2 : p0.toInt = 0 ∨ p0.toInt = 1 ∨ p0.toInt = 2 ∨ p0.toInt = 3 ∨ p0.toInt = 4 ∨ p0.toInt = 5 ∨ p0.toInt = 6 := by omega
    rcases h_2 with h_2 | h_2 | h_2 | h_2 | h_2 | h_2 | h_2
    ·
      refine lv_tableIn (off := 43) (tgt := 44) hx hb dX8_count_1 (by omega) (by omega) (by rw [h_2]; decide) (by decide) ?_
      refine lv_aload_n hx hb dX8_count_44 rfl (lv_at hl 0 rfl) ?_
      refine lv_iconst (v := 0) hx hb dX8_count_45 (by decide) ?_
      refine callRV (rest := []) (As := [.int 0]) hx hb hml hown htb hK (c_X8_placesWith l D E h0 a 0 (by decide)) ok_X8_placesWith k_945 k_947 ks_37 k_1 k_948 ⟨(Nat.le_of_ble_eq_true rfl), (Nat.le_of_ble_eq_true rfl)⟩ ⟨(Nat.le_of_ble_eq_true rfl), (Nat.le_of_ble_eq_true rfl)⟩ hl.1 (Nat.le_of_ble_eq_true rfl) rfl rfl dX8_count_46 (hP.sub (ws' := [(h0, .inr (8, xF a 0)), ((a 1), .inl (E 0, 16, .inl (fun _ => -5)))]) [0, 1] rfl) rfl rfl 0 rfl (fun r_4 hw_3 => ?_)
      obtain ⟨hr_4, hw_3⟩ := hw_3
      refine W_top (y := .int 0) (by rw [hr_4]) ?_
      refine lv_aload_n hx hb dX8_count_49 rfl (lv_at hl 0 rfl) ?_
      refine lv_iconst (v := 1) hx hb dX8_count_50 (by decide) ?_
      refine callRV (rest := [.int 0]) (As := [.int 1]) hx hb hml hown htb hK (c_X8_placesWith l D E h0 a 1 (by decide)) ok_X8_placesWith k_945 k_947 ks_37 k_1 k_948 ⟨(Nat.le_of_ble_eq_true rfl), (Nat.le_of_ble_eq_true rfl)⟩ ⟨(Nat.le_of_ble_eq_true rfl), (Nat.le_of_ble_eq_true rfl)⟩ hl.1 (Nat.le_of_ble_eq_true rfl) rfl rfl dX8_count_51 (hP.sub (ws' := [(h0, .inr (8, xF a 0)), ((a 1), .inl (E 0, 16, .inl (fun _ => -5)))]) [0, 1] rfl) rfl rfl 0 rfl (fun r_6 hw_5 => ?_)
      obtain ⟨hr_6, hw_5⟩ := hw_5
      refine W_top (y := .int 0) (by rw [hr_6]) ?_
      refine lv_iadd hx hb dX8_count_54 ?_
      refine W_top (y := .int 0) (by decide) ?_
      exact W.iret (v := 0) hx hb hr (fun t ht hW => ⟨0, rfl, by first | exact Or.inl ⟨rfl, by omega⟩ | (exfalso; omega), ht⟩) (fun q h => by cases h) dX8_count_55
    ·
      refine lv_tableIn (off := 55) (tgt := 56) hx hb dX8_count_1 (by omega) (by omega) (by rw [h_2]; decide) (by decide) ?_
      refine lv_aload_n hx hb dX8_count_56 rfl (lv_at hl 0 rfl) ?_
      refine va_get (D := D) (ci := 8) (v := .int 0) (C := RX8) (T := TX8) (N := 14) hx hb htb iX8 hown hK.1 hP 0 rfl rfl 13 (by decide) (htb _ k_285) (fun _ h9 => h9) rfl dX8_count_57 ?_
      exact W.iret (v := 0) hx hb hr (fun t ht hW => ⟨0, rfl, by first | exact Or.inl ⟨rfl, by omega⟩ | (exfalso; omega), ht⟩) (fun q h => by cases h) dX8_count_60
    ·
      refine lv_tableIn (off := 60) (tgt := 61) hx hb dX8_count_1 (by omega) (by omega) (by rw [h_2]; decide) (by decide) ?_
      refine lv_aload_n hx hb dX8_count_61 rfl (lv_at hl 0 rfl) ?_
      refine va_get (D := D) (ci := 8) (v := .ref (a 6)) (C := RX8) (T := TX8) (N := 14) hx hb htb iX8 hown hK.1 hP 0 rfl rfl 6 (by decide) (htb _ k_278) (fun _ h9 => h9) rfl dX8_count_62 ?_
      refine va_getN (D := D) (ci := 2) (v := .int 0) (C := RX2) (T := TX2) (N := 6) hx hb htb iX2 hown hK.1 hP 8 rfl rfl 5 (by decide) (va_Nw.use rfl (hK.2.1 (Cond.fieldLinkNest RX8 142 "SeaWatches$Offs" "size" "I" "SeaWatches") (by decide +kernel))) (fun _ h9 => h9) rfl dX8_count_65 ?_
      exact W.iret (v := 0) hx hb hr (fun t ht hW => ⟨0, rfl, by first | exact Or.inl ⟨rfl, by omega⟩ | (exfalso; omega), ht⟩) (fun q h => by cases h) dX8_count_68
    ·
      refine lv_tableIn (off := 68) (tgt := 69) hx hb dX8_count_1 (by omega) (by omega) (by rw [h_2]; decide) (by decide) ?_
      refine lv_aload_n hx hb dX8_count_69 rfl (lv_at hl 0 rfl) ?_
      refine callRV (rest := []) (As := []) hx hb hml hown htb hK (c_X8_shipsAtSea l D E h0 a b ) ok_X8_shipsAtSea k_949 k_951 ks_38 k_1 k_952 ⟨(Nat.le_of_ble_eq_true rfl), (Nat.le_of_ble_eq_true rfl)⟩ ⟨(Nat.le_of_ble_eq_true rfl), (Nat.le_of_ble_eq_true rfl)⟩ hl.1 (Nat.le_of_ble_eq_true rfl) rfl rfl dX8_count_70 (hP.sub (ws' := [(h0, .inr (8, xF a 0)), ((a 4), .inl (E 4, 5, .inr (.inr (.inr (.inr (fun j => some (a (13 + j)))))))), ((a 13), .inr (5, sF (b 0))), ((a 14), .inr (5, sF (b 1))), ((a 15), .inr (5, sF (b 2))), ((a 16), .inr (5, sF (b 3))), ((a 17), .inr (5, sF (b 4)))]) [0, 2, 3, 4, 5, 6, 7] rfl) rfl rfl 0 rfl (fun r_8 hw_7 => ?_)
      obtain ⟨hr_8, hw_7⟩ := hw_7
      refine W_top (y := .int 0) (by rw [hr_8]) ?_
      exact W.iret (v := 0) hx hb hr (fun t ht hW => ⟨0, rfl, by first | exact Or.inl ⟨rfl, by omega⟩ | (exfalso; omega), ht⟩) (fun q h => by cases h) dX8_count_73
    ·
      refine lv_tableIn (off := 73) (tgt := 74) hx hb dX8_count_1 (by omega) (by omega) (by rw [h_2]; decide) (by decide) ?_
      refine lv_aload_n hx hb dX8_count_74 rfl (lv_at hl 0 rfl) ?_
      refine va_get (D := D) (ci := 8) (v := .ref (a 9)) (C := RX8) (T := TX8) (N := 14) hx hb htb iX8 hown hK.1 hP 0 rfl rfl 9 (by decide) (htb _ k_281) (fun _ h9 => h9) rfl dX8_count_75 ?_
      refine va_getN (D := D) (ci := 6) (v := .int 0) (C := RX6) (T := TX6) (N := 8) hx hb htb iX6 hown hK.1 hP 9 rfl rfl 1 (by decide) (va_Nw.use rfl (hK.2.1 (Cond.fieldLinkNest RX8 179 "SeaWatches$Tape" "size" "I" "SeaWatches") (by decide +kernel))) (fun _ h9 => h9) rfl dX8_count_78 ?_
      exact W.iret (v := 0) hx hb hr (fun t ht hW => ⟨0, rfl, by first | exact Or.inl ⟨rfl, by omega⟩ | (exfalso; omega), ht⟩) (fun q h => by cases h) dX8_count_81
    ·
      refine lv_tableIn (off := 81) (tgt := 82) hx hb dX8_count_1 (by omega) (by omega) (by rw [h_2]; decide) (by decide) ?_
      refine lv_aload_n hx hb dX8_count_82 rfl (lv_at hl 0 rfl) ?_
      refine lv_iconst (v := 2) hx hb dX8_count_83 (by decide) ?_
      refine callRV (rest := []) (As := [.int 2]) hx hb hml hown htb hK (c_X8_placesWith l D E h0 a 2 (by decide)) ok_X8_placesWith k_945 k_947 ks_37 k_1 k_948 ⟨(Nat.le_of_ble_eq_true rfl), (Nat.le_of_ble_eq_true rfl)⟩ ⟨(Nat.le_of_ble_eq_true rfl), (Nat.le_of_ble_eq_true rfl)⟩ hl.1 (Nat.le_of_ble_eq_true rfl) rfl rfl dX8_count_84 (hP.sub (ws' := [(h0, .inr (8, xF a 0)), ((a 1), .inl (E 0, 16, .inl (fun _ => -5)))]) [0, 1] rfl) rfl rfl 0 rfl (fun r_10 hw_9 => ?_)
      obtain ⟨hr_10, hw_9⟩ := hw_9
      refine W_top (y := .int 0) (by rw [hr_10]) ?_
      exact W.iret (v := 0) hx hb hr (fun t ht hW => ⟨0, rfl, by first | exact Or.inl ⟨rfl, by omega⟩ | (exfalso; omega), ht⟩) (fun q h => by cases h) dX8_count_87
    ·
      refine lv_tableIn (off := 87) (tgt := 88) hx hb dX8_count_1 (by omega) (by omega) (by rw [h_2]; decide) (by decide) ?_
      refine lv_aload_n hx hb dX8_count_88 rfl (lv_at hl 0 rfl) ?_
      refine va_get (D := D) (ci := 8) (v := .ref (a 10)) (C := RX8) (T := TX8) (N := 14) hx hb htb iX8 hown hK.1 hP 0 rfl rfl 10 (by decide) (htb _ k_282) (fun _ h9 => h9) rfl dX8_count_89 ?_
      refine va_getN (D := D) (ci := 0) (v := .int 0) (C := RX0) (T := TX0) (N := 9) hx hb htb iX0 hown hK.1 hP 10 rfl rfl 5 (by decide) (va_Nw.use rfl (hK.2.1 (Cond.fieldLinkNest RX8 275 "SeaWatches$Dealing" "listed" "I" "SeaWatches") (by decide +kernel))) (fun _ h9 => h9) rfl dX8_count_92 ?_
      exact W.iret (v := 0) hx hb hr (fun t ht hW => ⟨0, rfl, by first | exact Or.inl ⟨rfl, by omega⟩ | (exfalso; omega), ht⟩) (fun q h => by cases h) dX8_count_95
