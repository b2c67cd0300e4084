set_option maxHeartbeats 4000000 in
set_option maxRecDepth 100000 in
theorem g_X8_isPast (l : Launch) (D : va_G) (E : Nat → Nat) (xh : Nat) (xa : Nat → Nat) (xtrialRule : Nat) (xdropRule : Nat) (xtoday : Int32) (p0 : Int32) (hi_x : (0 ≤ xtoday.toInt ∧ xtoday.toInt ≤ 399)) : Met l yX8_isPast (wl yX8_isPast cX8_isPast 2 (some .boolean)) (RM 0 0 0) (rd_P D E [.ref xh, .int p0] [(xh, .inr (8, G8 xa xtrialRule xdropRule xtoday))]) (rd_Q (fun r => ((r = 1 ∧ (0 ≤ p0.toInt ∧ p0.toInt ≤ xtoday.toInt)) ∨ (r = 0 ∧ ¬ (0 ≤ p0.toInt ∧ p0.toInt ≤ xtoday.toInt))))) 0 0 (fun _ => False) := by
  refine Met.ofW (cc := cX8_isPast) (maxL := 2) (ret := (some .boolean)) (by decide) rfl ?_
  intro p e s m args below meth c s₁ B hml hv
  obtain ⟨rfl, hP, hK⟩ := hv
  have hx := B.exec; have hb := B.bytes; have hr := B.returns
  have hts := atoms_spec (ws := wl yX8_isPast cX8_isPast 2 (some .boolean)) B.pre
  have htb : ∀ w ∈ tb, w.before _ s = true := fun w h => hts w (List.mem_cons_of_mem _ h)
  have hown : s.vm.findClass RX8 = some m.cls := findClass_of_methodNamed B.named
  have hlocks := B.notSynchronized
  have hP : va_P D vwCl [(xh, .inr (8, G8 xa xtrialRule xdropRule xtoday))] s.heap := hP
  have hl := lv_entry ([.ref xh, .int p0]) (n := 2) (Nat.le_of_ble_eq_true rfl)
  rw [lg_entry_eq]
  generalize (lg_sl ([.ref xh, .int p0]) ++ List.replicate (2 - (lg_sl ([.ref xh, .int p0])).length) Slot.unset).toArray = ls at hl ⊢
  have hl : lv_has ls 2 [(0, .ref xh), (1, .int p0)] := hl
  have lo_p0 := i_lo p0; have hi_p0 := i_hi p0
  refine lv_iload_n hx hb dX8_isPast_0 rfl (lv_at hl 1 rfl) ?_
  refine lv_if_lt (tgt := 16) hx hb dX8_isPast_1 (by decide) (fun c_1 => ?_) (fun c_1 => ?_)
  ·
    have ic_1 : p0.toInt < 0 := by first | exact (g_lt rfl t_0).mp c_1 | (have h := mt (g_le t_0 rfl).mpr c_1; omega)
    clear c_1
    refine lv_iconst (v := 0) hx hb dX8_isPast_16 (by decide) ?_
    exact W.zret (v := 0) hx hb hr rfl (fun t ht hW => ⟨0, rfl, by first | exact Or.inr ⟨rfl, by omega⟩ | (exfalso; omega), ht⟩) (fun q h => by cases h) dX8_isPast_17
  ·
    have ic_1 : 0 ≤ p0.toInt := by first | exact (g_le t_0 rfl).mp c_1 | (have h := mt (g_lt rfl t_0).mpr c_1; omega)
    clear c_1
    refine lv_iload_n hx hb dX8_isPast_4 rfl (lv_at hl 1 rfl) ?_
    refine lv_aload_n hx hb dX8_isPast_5 rfl (lv_at hl 0 rfl) ?_
    refine va_get (D := D) (ci := 8) (v := .int xtoday) (C := RX8) (T := TX8) (N := 14) hx hb htb iX8 hown hK.1 hP 0 rfl rfl 13 (by decide) (htb _ k_285) (fun _ h9 => h9) rfl dX8_isPast_6 ?_
    refine lv_icmp_gt (tgt := 16) hx hb dX8_isPast_9 (by decide) (fun c_2 => ?_) (fun c_2 => ?_)
    ·
      have ic_2 : xtoday.toInt < p0.toInt := by first | exact (g_lt rfl rfl).mp c_2 | (have h := mt (g_le rfl rfl).mpr c_2; omega)
      clear c_2
      refine lv_iconst (v := 0) hx hb dX8_isPast_16 (by decide) ?_
      exact W.zret (v := 0) hx hb hr rfl (fun t ht hW => ⟨0, rfl, by first | exact Or.inr ⟨rfl, by omega⟩ | (exfalso; omega), ht⟩) (fun q h => by cases h) dX8_isPast_17
    ·
      have ic_2 : p0.toInt ≤ xtoday.toInt := by first | exact (g_le rfl rfl).mp c_2 | (have h := mt (g_lt rfl rfl).mpr c_2; omega)
      clear c_2
      refine lv_iconst (v := 1) hx hb dX8_isPast_12 (by decide) ?_
      refine lv_goto (tgt := 17) hx hb dX8_isPast_13 (by decide) ?_
      exact W.zret (v := 1) hx hb hr rfl (fun t ht hW => ⟨1, rfl, by first | exact Or.inl ⟨rfl, by omega⟩ | (exfalso; omega), ht⟩) (fun q h => by cases h) dX8_isPast_17
set_option maxHeartbeats 4000000 in
set_option maxRecDepth 100000 in
theorem g_X8_watchAt_N (l : Launch) (D : va_G) (E : Nat → Nat) (xh : Nat) (xa : Nat → Nat) (xtrialRule : Nat) (xdropRule : Nat) (xtoday : Int32) (xf1 : Nat → Int32) (xf3 : Nat → Option Nat) (p0 : Int32) (hi_x : (0 ≤ xtoday.toInt ∧ xtoday.toInt ≤ 399)) (hn0 : ¬ (0 ≤ p0.toInt ∧ p0.toInt ≤ 15 ∧ ((xf1 (p0).toNatClampNeg).toInt = 0 ∨ (xf1 (p0).toNatClampNeg).toInt = 1))) : Met l yX8_watchAt (wl yX8_watchAt cX8_watchAt 2 (some (.object "SeaWatches$Watch"))) (RM 1 0 0) (rd_P D E [.ref xh, .int p0] [(xh, .inr (8, G8 xa xtrialRule xdropRule xtoday)), ((xa 1), .inl (E 0, 16, .inl xf1)), ((xa 3), .inl (E 3, 16, .inr (.inr (.inr (.inr xf3)))))]) rn_Q 0 0 (fun _ => False) := by
  refine Met.ofW (cc := cX8_watchAt) (maxL := 2) (ret := (some (.object "SeaWatches$Watch"))) (by decide) rfl ?_
  intro p e s m args below meth c s₁ B hml hv
  obtain ⟨rfl, hP, hK⟩ := hv
  have hx := B.exec; have hb := B.bytes; have hr := B.returns
  have hts := atoms_spec (ws := wl yX8_watchAt cX8_watchAt 2 (some (.object "SeaWatches$Watch"))) B.pre
  have htb : ∀ w ∈ tb, w.before _ s = true := fun w h => hts w (List.mem_cons_of_mem _ h)
  have hown : s.vm.findClass RX8 = some m.cls := findClass_of_methodNamed B.named
  have hlocks := B.notSynchronized
  have hP : va_P D vwCl [(xh, .inr (8, G8 xa xtrialRule xdropRule xtoday)), ((xa 1), .inl (E 0, 16, .inl xf1)), ((xa 3), .inl (E 3, 16, .inr (.inr (.inr (.inr xf3)))))] s.heap := hP
  have hl := lv_entry ([.ref xh, .int p0]) (n := 2) (Nat.le_of_ble_eq_true rfl)
  rw [lg_entry_eq]
  generalize (lg_sl ([.ref xh, .int p0]) ++ List.replicate (2 - (lg_sl ([.ref xh, .int p0])).length) Slot.unset).toArray = ls at hl ⊢
  have hl : lv_has ls 2 [(0, .ref xh), (1, .int p0)] := hl
  have lo_p0 := i_lo p0; have hi_p0 := i_hi p0
  refine lv_iload_n hx hb dX8_watchAt_0 rfl (lv_at hl 1 rfl) ?_
  refine callRS (rest := []) (As := [.int p0]) hx hb hml hown htb hK (g_X8_isPlace l D E p0 ) ok_X8_isPlace k_333 k_334 k_1 k_335 ⟨(Nat.le_of_ble_eq_true rfl), (Nat.le_of_ble_eq_true rfl)⟩ ⟨(Nat.le_of_ble_eq_true rfl), (Nat.le_of_ble_eq_true rfl)⟩ hl.1 (Nat.le_of_ble_eq_true rfl) rfl rfl dX8_watchAt_1 (hP.sub (ws' := ([] : va_W)) [] rfl) (fun r_1 hw_2 => ?_)
  rcases hw_2 with ⟨hr_1, hw_2⟩ | ⟨hr_1, hw_2⟩
  ·
    refine W_top (y := .int 1) (by rw [hr_1]) ?_
    refine lv_if_eq (tgt := 26) hx hb dX8_watchAt_4 (by decide) (fun c_4 => absurd c_4 (by decide)) (fun c_4 => ?_)
    refine lv_aload_n hx hb dX8_watchAt_7 rfl (lv_at hl 0 rfl) ?_
    refine va_get (D := D) (ci := 8) (v := .ref (xa 1)) (C := RX8) (T := TX8) (N := 14) hx hb htb iX8 hown hK.1 hP 0 rfl rfl 1 (by decide) (htb _ k_273) (fun _ h9 => h9) rfl dX8_watchAt_8 ?_
    refine lv_iload_n hx hb dX8_watchAt_11 rfl (lv_at hl 1 rfl) ?_
    refine va_iald hx hb hK.1 hP 1 0 rfl rfl (g_in rfl (by omega) (by omega)) dX8_watchAt_12 ?_
    refine lv_topi (fun z_5 ez_5 => ?_)
    have kz_5 := congrArg Int32.toInt ez_5
    refine lv_if_eq (tgt := 28) hx hb dX8_watchAt_13 (by decide) (fun c_6 => ?_) (fun c_6 => ?_)
    ·
      have ic_6 : z_5.toInt = 0 := (g_eq rfl t_0).mp c_6
      clear c_6
      refine lv_aload_n hx hb dX8_watchAt_28 rfl (lv_at hl 0 rfl) ?_
      refine va_get (D := D) (ci := 8) (v := .ref (xa 3)) (C := RX8) (T := TX8) (N := 14) hx hb htb iX8 hown hK.1 hP 0 rfl rfl 3 (by decide) (htb _ k_275) (fun _ h9 => h9) rfl dX8_watchAt_29 ?_
      refine lv_iload_n hx hb dX8_watchAt_32 rfl (lv_at hl 1 rfl) ?_
      refine va_aldq hx hb hK.1 hP 2 3 rfl rfl (g_in rfl (by omega) (by omega)) dX8_watchAt_33 ?_
      exfalso; omega
    ·
      have ic_6 : z_5.toInt ≠ 0 := mt (g_eq rfl t_0).mpr c_6
      clear c_6
      refine lv_aload_n hx hb dX8_watchAt_16 rfl (lv_at hl 0 rfl) ?_
      refine va_get (D := D) (ci := 8) (v := .ref (xa 1)) (C := RX8) (T := TX8) (N := 14) hx hb htb iX8 hown hK.1 hP 0 rfl rfl 1 (by decide) (htb _ k_273) (fun _ h9 => h9) rfl dX8_watchAt_17 ?_
      refine lv_iload_n hx hb dX8_watchAt_20 rfl (lv_at hl 1 rfl) ?_
      refine va_iald hx hb hK.1 hP 1 0 rfl rfl (g_in rfl (by omega) (by omega)) dX8_watchAt_21 ?_
      refine lv_topi (fun z_7 ez_7 => ?_)
      have kz_7 := congrArg Int32.toInt ez_7
      refine lv_iconst (v := 1) hx hb dX8_watchAt_22 (by decide) ?_
      refine lv_icmp_eq (tgt := 28) hx hb dX8_watchAt_23 (by decide) (fun c_8 => ?_) (fun c_8 => ?_)
      ·
        have ic_8 : z_7.toInt = 1 := (g_eq rfl t_1).mp c_8
        clear c_8
        refine lv_aload_n hx hb dX8_watchAt_28 rfl (lv_at hl 0 rfl) ?_
        refine va_get (D := D) (ci := 8) (v := .ref (xa 3)) (C := RX8) (T := TX8) (N := 14) hx hb htb iX8 hown hK.1 hP 0 rfl rfl 3 (by decide) (htb _ k_275) (fun _ h9 => h9) rfl dX8_watchAt_29 ?_
        refine lv_iload_n hx hb dX8_watchAt_32 rfl (lv_at hl 1 rfl) ?_
        refine va_aldq hx hb hK.1 hP 2 3 rfl rfl (g_in rfl (by omega) (by omega)) dX8_watchAt_33 ?_
        exfalso; omega
      ·
        have ic_8 : z_7.toInt ≠ 1 := mt (g_eq rfl t_1).mpr c_8
        clear c_8
        refine lv_null hx hb dX8_watchAt_26 ?_
        exact W.aret hx hb hr (Or.inl ⟨_, rfl⟩) (Or.inl rfl) (fun t ht hW => ⟨rfl, ht⟩) (fun q h => by cases h) dX8_watchAt_27
  ·
    refine W_top (y := .int 0) (by rw [hr_1]) ?_
    refine lv_if_eq (tgt := 26) hx hb dX8_watchAt_4 (by decide) (fun c_9 => ?_) (fun c_9 => absurd (by decide) c_9)
    refine lv_null hx hb dX8_watchAt_26 ?_
    exact W.aret hx hb hr (Or.inl ⟨_, rfl⟩) (Or.inl rfl) (fun t ht hW => ⟨rfl, ht⟩) (fun q h => by cases h) dX8_watchAt_27
set_option maxHeartbeats 4000000 in
set_option maxRecDepth 100000 in
theorem g_X8_watchAt_W (l : Launch) (D : va_G) (E : Nat → Nat) (xh : Nat) (xa : Nat → Nat) (xtrialRule : Nat) (xdropRule : Nat) (xtoday : Int32) (xf1 : Nat → Int32) (xf3 : Nat → Option Nat) (wh : Nat) (wa : Nat → Nat) (p0 : Int32) (hi_x : (0 ≤ xtoday.toInt ∧ xtoday.toInt ≤ 399)) (hk0 : (0 ≤ p0.toInt ∧ p0.toInt ≤ 15 ∧ ((xf1 (p0).toNatClampNeg).toInt = 0 ∨ (xf1 (p0).toNatClampNeg).toInt = 1))) (hw0 : xf3 (p0).toNatClampNeg = some wh) : Met l yX8_watchAt (wl yX8_watchAt cX8_watchAt 2 (some (.object "SeaWatches$Watch"))) (RM 1 0 0) (rd_P D E [.ref xh, .int p0] [(xh, .inr (8, G8 xa xtrialRule xdropRule xtoday)), ((xa 1), .inl (E 0, 16, .inl xf1)), ((xa 3), .inl (E 3, 16, .inr (.inr (.inr (.inr xf3))))), (wh, .inr (7, G7 wa))]) (rr_Q wh) 0 0 (fun _ => False) := by
  refine Met.ofW (cc := cX8_watchAt) (maxL := 2) (ret := (some (.object "SeaWatches$Watch"))) (by decide) rfl ?_
  intro p e s m args below meth c s₁ B hml hv
  obtain ⟨rfl, hP, hK⟩ := hv
  have hx := B.exec; have hb := B.bytes; have hr := B.returns
  have hts := atoms_spec (ws := wl yX8_watchAt cX8_watchAt 2 (some (.object "SeaWatches$Watch"))) B.pre
  have htb : ∀ w ∈ tb, w.before _ s = true := fun w h => hts w (List.mem_cons_of_mem _ h)
  have hown : s.vm.findClass RX8 = some m.cls := findClass_of_methodNamed B.named
  have hlocks := B.notSynchronized
  have hP : va_P D vwCl [(xh, .inr (8, G8 xa xtrialRule xdropRule xtoday)), ((xa 1), .inl (E 0, 16, .inl xf1)), ((xa 3), .inl (E 3, 16, .inr (.inr (.inr (.inr xf3))))), (wh, .inr (7, G7 wa))] s.heap := hP
  have hl := lv_entry ([.ref xh, .int p0]) (n := 2) (Nat.le_of_ble_eq_true rfl)
  rw [lg_entry_eq]
  generalize (lg_sl ([.ref xh, .int p0]) ++ List.replicate (2 - (lg_sl ([.ref xh, .int p0])).length) Slot.unset).toArray = ls at hl ⊢
  have hl : lv_has ls 2 [(0, .ref xh), (1, .int p0)] := hl
  have lo_p0 := i_lo p0; have hi_p0 := i_hi p0
  refine lv_iload_n hx hb dX8_watchAt_0 rfl (lv_at hl 1 rfl) ?_
  refine callRS (rest := []) (As := [.int p0]) hx hb hml hown htb hK (g_X8_isPlace l D E p0 ) ok_X8_isPlace k_333 k_334 k_1 k_335 ⟨(Nat.le_of_ble_eq_true rfl), (Nat.le_of_ble_eq_true rfl)⟩ ⟨(Nat.le_of_ble_eq_true rfl), (Nat.le_of_ble_eq_true rfl)⟩ hl.1 (Nat.le_of_ble_eq_true rfl) rfl rfl dX8_watchAt_1 (hP.sub (ws' := ([] : va_W)) [] rfl) (fun r_1 hw_2 => ?_)
  rcases hw_2 with ⟨hr_1, hw_2⟩ | ⟨hr_1, hw_2⟩
  ·
    refine W_top (y := .int 1) (by rw [hr_1]) ?_
    refine lv_if_eq (tgt := 26) hx hb dX8_watchAt_4 (by decide) (fun c_4 => absurd c_4 (by decide)) (fun c_4 => ?_)
    refine lv_aload_n hx hb dX8_watchAt_7 rfl (lv_at hl 0 rfl) ?_
    refine va_get (D := D) (ci := 8) (v := .ref (xa 1)) (C := RX8) (T := TX8) (N := 14) hx hb htb iX8 hown hK.1 hP 0 rfl rfl 1 (by decide) (htb _ k_273) (fun _ h9 => h9) rfl dX8_watchAt_8 ?_
    refine lv_iload_n hx hb dX8_watchAt_11 rfl (lv_at hl 1 rfl) ?_
    refine va_iald hx hb hK.1 hP 1 0 rfl rfl (g_in rfl (by omega) (by omega)) dX8_watchAt_12 ?_
    refine lv_topi (fun z_5 ez_5 => ?_)
    have kz_5 := congrArg Int32.toInt ez_5
    refine lv_if_eq (tgt := 28) hx hb dX8_watchAt_13 (by decide) (fun c_6 => ?_) (fun c_6 => ?_)
    ·
      have ic_6 : z_5.toInt = 0 := (g_eq rfl t_0).mp c_6
      clear c_6
      refine lv_aload_n hx hb dX8_watchAt_28 rfl (lv_at hl 0 rfl) ?_
      refine va_get (D := D) (ci := 8) (v := .ref (xa 3)) (C := RX8) (T := TX8) (N := 14) hx hb htb iX8 hown hK.1 hP 0 rfl rfl 3 (by decide) (htb _ k_275) (fun _ h9 => h9) rfl dX8_watchAt_29 ?_
      refine lv_iload_n hx hb dX8_watchAt_32 rfl (lv_at hl 1 rfl) ?_
      refine va_aldq hx hb hK.1 hP 2 3 rfl rfl (g_in rfl (by omega) (by omega)) dX8_watchAt_33 ?_
      refine W_top (y := .ref wh) (congrArg va_rf hw0) ?_
      exact W.aret hx hb hr (Or.inl ⟨_, rfl⟩) (Or.inr ⟨_, rfl⟩) (fun t ht hW => ⟨rfl, ht⟩) (fun q h => by cases h) dX8_watchAt_34
    ·
      have ic_6 : z_5.toInt ≠ 0 := mt (g_eq rfl t_0).mpr c_6
      clear c_6
      refine lv_aload_n hx hb dX8_watchAt_16 rfl (lv_at hl 0 rfl) ?_
      refine va_get (D := D) (ci := 8) (v := .ref (xa 1)) (C := RX8) (T := TX8) (N := 14) hx hb htb iX8 hown hK.1 hP 0 rfl rfl 1 (by decide) (htb _ k_273) (fun _ h9 => h9) rfl dX8_watchAt_17 ?_
      refine lv_iload_n hx hb dX8_watchAt_20 rfl (lv_at hl 1 rfl) ?_
      refine va_iald hx hb hK.1 hP 1 0 rfl rfl (g_in rfl (by omega) (by omega)) dX8_watchAt_21 ?_
      refine lv_topi (fun z_7 ez_7 => ?_)
      have kz_7 := congrArg Int32.toInt ez_7
      refine lv_iconst (v := 1) hx hb dX8_watchAt_22 (by decide) ?_
      refine lv_icmp_eq (tgt := 28) hx hb dX8_watchAt_23 (by decide) (fun c_8 => ?_) (fun c_8 => ?_)
      ·
        have ic_8 : z_7.toInt = 1 := (g_eq rfl t_1).mp c_8
        clear c_8
        refine lv_aload_n hx hb dX8_watchAt_28 rfl (lv_at hl 0 rfl) ?_
        refine va_get (D := D) (ci := 8) (v := .ref (xa 3)) (C := RX8) (T := TX8) (N := 14) hx hb htb iX8 hown hK.1 hP 0 rfl rfl 3 (by decide) (htb _ k_275) (fun _ h9 => h9) rfl dX8_watchAt_29 ?_
        refine lv_iload_n hx hb dX8_watchAt_32 rfl (lv_at hl 1 rfl) ?_
        refine va_aldq hx hb hK.1 hP 2 3 rfl rfl (g_in rfl (by omega) (by omega)) dX8_watchAt_33 ?_
        refine W_top (y := .ref wh) (congrArg va_rf hw0) ?_
        exact W.aret hx hb hr (Or.inl ⟨_, rfl⟩) (Or.inr ⟨_, rfl⟩) (fun t ht hW => ⟨rfl, ht⟩) (fun q h => by cases h) dX8_watchAt_34
      ·
        have ic_8 : z_7.toInt ≠ 1 := mt (g_eq rfl t_1).mpr c_8
        clear c_8
        refine lv_null hx hb dX8_watchAt_26 ?_
        exfalso; omega
  ·
    refine W_top (y := .int 0) (by rw [hr_1]) ?_
    refine lv_if_eq (tgt := 26) hx hb dX8_watchAt_4 (by decide) (fun c_9 => ?_) (fun c_9 => absurd (by decide) c_9)
    refine lv_null hx hb dX8_watchAt_26 ?_
    exfalso; omega
set_option maxHeartbeats 4000000 in
set_option maxRecDepth 100000 in
theorem g_X8_lackAt (l : Launch) (D : va_G) (E : Nat → Nat) (xh : Nat) (xa : Nat → Nat) (xtrialRule : Nat) (xdropRule : Nat) (xtoday : Int32) (xf1 : Nat → Int32) (p0 : Int32) (hi_x : (0 ≤ xtoday.toInt ∧ xtoday.toInt ≤ 399)) : Met l yX8_lackAt (wl yX8_lackAt cX8_lackAt 2 (some .int)) (RM 1 0 0) (rd_P D E [.ref xh, .int p0] [(xh, .inr (8, G8 xa xtrialRule xdropRule xtoday)), ((xa 1), .inl (E 0, 16, .inl xf1))]) (rd_Q (fun r => ((r.toInt = -1 ∧ ¬ (0 ≤ p0.toInt ∧ p0.toInt ≤ 15)) ∨ (r.toInt = -2 ∧ (0 ≤ p0.toInt ∧ p0.toInt ≤ 15) ∧ (xf1 (p0).toNatClampNeg).toInt = -5) ∨ (r.toInt = -3 ∧ (0 ≤ p0.toInt ∧ p0.toInt ≤ 15) ∧ (xf1 (p0).toNatClampNeg).toInt ≠ -5)))) 0 0 (fun _ => False) := by
  refine Met.ofW (cc := cX8_lackAt) (maxL := 2) (ret := (some .int)) (by decide) rfl ?_
  intro p e s m args below meth c s₁ B hml hv
  obtain ⟨rfl, hP, hK⟩ := hv
  have hx := B.exec; have hb := B.bytes; have hr := B.returns
  have hts := atoms_spec (ws := wl yX8_lackAt cX8_lackAt 2 (some .int)) B.pre
  have htb : ∀ w ∈ tb, w.before _ s = true := fun w h => hts w (List.mem_cons_of_mem _ h)
  have hown : s.vm.findClass RX8 = some m.cls := findClass_of_methodNamed B.named
  have hlocks := B.notSynchronized
  have hP : va_P D vwCl [(xh, .inr (8, G8 xa xtrialRule xdropRule xtoday)), ((xa 1), .inl (E 0, 16, .inl xf1))] s.heap := hP
  have hl := lv_entry ([.ref xh, .int p0]) (n := 2) (Nat.le_of_ble_eq_true rfl)
  rw [lg_entry_eq]
  generalize (lg_sl ([.ref xh, .int p0]) ++ List.replicate (2 - (lg_sl ([.ref xh, .int p0])).length) Slot.unset).toArray = ls at hl ⊢
  have hl : lv_has ls 2 [(0, .ref xh), (1, .int p0)] := hl
  have lo_p0 := i_lo p0; have hi_p0 := i_hi p0
  refine lv_iload_n hx hb dX8_lackAt_0 rfl (lv_at hl 1 rfl) ?_
  refine callRS (rest := []) (As := [.int p0]) hx hb hml hown htb hK (g_X8_isPlace l D E p0 ) ok_X8_isPlace k_333 k_334 k_1 k_335 ⟨(Nat.le_of_ble_eq_true rfl), (Nat.le_of_ble_eq_true rfl)⟩ ⟨(Nat.le_of_ble_eq_true rfl), (Nat.le_of_ble_eq_true rfl)⟩ hl.1 (Nat.le_of_ble_eq_true rfl) rfl rfl dX8_lackAt_1 (hP.sub (ws' := ([] : va_W)) [] rfl) (fun r_1 hw_2 => ?_)
  rcases hw_2 with ⟨hr_1, hw_2⟩ | ⟨hr_1, hw_2⟩
  ·
    refine W_top (y := .int 1) (by rw [hr_1]) ?_
    refine lv_if_ne (tgt := 9) hx hb dX8_lackAt_4 (by decide) (fun c_4 => ?_) (fun c_4 => absurd c_4 (by decide))
    refine lv_aload_n hx hb dX8_lackAt_9 rfl (lv_at hl 0 rfl) ?_
    refine va_get (D := D) (ci := 8) (v := .ref (xa 1)) (C := RX8) (T := TX8) (N := 14) hx hb htb iX8 hown hK.1 hP 0 rfl rfl 1 (by decide) (htb _ k_273) (fun _ h9 => h9) rfl dX8_lackAt_10 ?_
    refine lv_iload_n hx hb dX8_lackAt_13 rfl (lv_at hl 1 rfl) ?_
    refine va_iald hx hb hK.1 hP 1 0 rfl rfl (g_in rfl (by omega) (by omega)) dX8_lackAt_14 ?_
    refine lv_topi (fun z_5 ez_5 => ?_)
    have kz_5 := congrArg Int32.toInt ez_5
    refine lv_bipush (v := (-5)) hx hb dX8_lackAt_15 (by decide) ?_
    refine lv_icmp_ne (tgt := 25) hx hb dX8_lackAt_17 (by decide) (fun c_6 => ?_) (fun c_6 => ?_)
    ·
      have ic_6 : z_5.toInt ≠ -5 := mt (g_eq rfl t_m5).mpr c_6
      clear c_6
      refine lv_bipush (v := (-3)) hx hb dX8_lackAt_25 (by decide) ?_
      exact W.iret (v := (-3)) hx hb hr (fun t ht hW => ⟨(-3), rfl, (by have h0 := t_m3; (try dsimp only); omega), ht⟩) (fun q h => by cases h) dX8_lackAt_27
    ·
      have ic_6 : z_5.toInt = -5 := (g_eq rfl t_m5).mp c_6
      clear c_6
      refine lv_bipush (v := (-2)) hx hb dX8_lackAt_20 (by decide) ?_
      refine lv_goto (tgt := 27) hx hb dX8_lackAt_22 (by decide) ?_
      exact W.iret (v := (-2)) hx hb hr (fun t ht hW => ⟨(-2), rfl, (by have h0 := t_m2; (try dsimp only); omega), ht⟩) (fun q h => by cases h) dX8_lackAt_27
  ·
    refine W_top (y := .int 0) (by rw [hr_1]) ?_
    refine lv_if_ne (tgt := 9) hx hb dX8_lackAt_4 (by decide) (fun c_7 => absurd (by decide) c_7) (fun c_7 => ?_)
    refine lv_iconst (v := (-1)) hx hb dX8_lackAt_7 (by decide) ?_
    exact W.iret (v := (-1)) hx hb hr (fun t ht hW => ⟨(-1), rfl, (by have h0 := t_m1; (try dsimp only); omega), ht⟩) (fun q h => by cases h) dX8_lackAt_8
set_option maxHeartbeats 4000000 in
set_option maxRecDepth 100000 in
theorem g_X8_refusalOfStretch_N (l : Launch) (D : va_G) (E : Nat → Nat) (xh : Nat) (xa : Nat → Nat) (xtrialRule : Nat) (xdropRule : Nat) (xtoday : Int32) (xf1 : Nat → Int32) (xf3 : Nat → Option Nat) (p0 : Int32) (p1 : Int32) (p2 : Int32) (hi_x : (0 ≤ xtoday.toInt ∧ xtoday.toInt ≤ 399)) (hn0 : ¬ (0 ≤ p0.toInt ∧ p0.toInt ≤ 15 ∧ ((xf1 (p0).toNatClampNeg).toInt = 0 ∨ (xf1 (p0).toNatClampNeg).toInt = 1))) : Met l yX8_refusalOfStretch (wl yX8_refusalOfStretch cX8_refusalOfStretch 4 (some .int)) (RM 2 0 0) (rd_P D E [.ref xh, .int p0, .int p1, .int p2] [(xh, .inr (8, G8 xa xtrialRule xdropRule xtoday)), ((xa 1), .inl (E 0, 16, .inl xf1)), ((xa 3), .inl (E 3, 16, .inr (.inr (.inr (.inr xf3)))))]) (rd_Q (fun r => ((r.toInt = -1 ∧ ¬ ((0 ≤ p0.toInt ∧ p0.toInt ≤ 15) ∧ (0 ≤ p1.toInt ∧ p2.toInt ≤ 399 ∧ p1.toInt < p2.toInt ∧ p2.toInt - p1.toInt ≤ 60))) ∨ (((0 ≤ p0.toInt ∧ p0.toInt ≤ 15) ∧ (0 ≤ p1.toInt ∧ p2.toInt ≤ 399 ∧ p1.toInt < p2.toInt ∧ p2.toInt - p1.toInt ≤ 60)) ∧ (((xf1 (p0).toNatClampNeg).toInt = -5 ∧ r.toInt = -2) ∨ ((xf1 (p0).toNatClampNeg).toInt ≠ -5 ∧ r.toInt = -3)))))) 0 0 (fun _ => False) := by
  refine Met.ofW (cc := cX8_refusalOfStretch) (maxL := 4) (ret := (some .int)) (by decide) rfl ?_
  intro p e s m args below meth c s₁ B hml hv
  obtain ⟨rfl, hP, hK⟩ := hv
  have hx := B.exec; have hb := B.bytes; have hr := B.returns
  have hts := atoms_spec (ws := wl yX8_refusalOfStretch cX8_refusalOfStretch 4 (some .int)) B.pre
  have htb : ∀ w ∈ tb, w.before _ s = true := fun w h => hts w (List.mem_cons_of_mem _ h)
  have hown : s.vm.findClass RX8 = some m.cls := findClass_of_methodNamed B.named
  have hlocks := B.notSynchronized
  have hP : va_P D vwCl [(xh, .inr (8, G8 xa xtrialRule xdropRule xtoday)), ((xa 1), .inl (E 0, 16, .inl xf1)), ((xa 3), .inl (E 3, 16, .inr (.inr (.inr (.inr xf3)))))] s.heap := hP
  have hl := lv_entry ([.ref xh, .int p0, .int p1, .int p2]) (n := 4) (Nat.le_of_ble_eq_true rfl)
  rw [lg_entry_eq]
  generalize (lg_sl ([.ref xh, .int p0, .int p1, .int p2]) ++ List.replicate (4 - (lg_sl ([.ref xh, .int p0, .int p1, .int p2])).length) Slot.unset).toArray = ls at hl ⊢
  have hl : lv_has ls 4 [(0, .ref xh), (1, .int p0), (2, .int p1), (3, .int p2)] := hl
  have lo_p0 := i_lo p0; have hi_p0 := i_hi p0
  have lo_p1 := i_lo p1; have hi_p1 := i_hi p1
  have lo_p2 := i_lo p2; have hi_p2 := i_hi p2
  refine lv_iload_n hx hb dX8_refusalOfStretch_0 rfl (lv_at hl 1 rfl) ?_
  refine callRS (rest := []) (As := [.int p0]) hx hb hml hown htb hK (g_X8_isPlace l D E p0 ) ok_X8_isPlace k_333 k_334 k_1 k_335 ⟨(Nat.le_of_ble_eq_true rfl), (Nat.le_of_ble_eq_true rfl)⟩ ⟨(Nat.le_of_ble_eq_true rfl), (Nat.le_of_ble_eq_true rfl)⟩ hl.1 (Nat.le_of_ble_eq_true rfl) rfl rfl dX8_refusalOfStretch_1 (hP.sub (ws' := ([] : va_W)) [] rfl) (fun r_1 hw_2 => ?_)
  rcases hw_2 with ⟨hr_1, hw_2⟩ | ⟨hr_1, hw_2⟩
  ·
    refine W_top (y := .int 1) (by rw [hr_1]) ?_
    refine lv_if_eq (tgt := 15) hx hb dX8_refusalOfStretch_4 (by decide) (fun c_4 => absurd c_4 (by decide)) (fun c_4 => ?_)
    refine lv_iload_n hx hb dX8_refusalOfStretch_7 rfl (lv_at hl 2 rfl) ?_
    refine lv_iload_n hx hb dX8_refusalOfStretch_8 rfl (lv_at hl 3 rfl) ?_
    refine callRS (rest := []) (As := [.int p1, .int p2]) hx hb hml hown htb hK (g_X8_isStretch l D E p1 p2 ) ok_X8_isStretch k_479 k_480 k_1 k_481 ⟨(Nat.le_of_ble_eq_true rfl), (Nat.le_of_ble_eq_true rfl)⟩ ⟨(Nat.le_of_ble_eq_true rfl), (Nat.le_of_ble_eq_true rfl)⟩ hl.1 (Nat.le_of_ble_eq_true rfl) rfl rfl dX8_refusalOfStretch_9 (hP.sub (ws' := ([] : va_W)) [] rfl) (fun r_5 hw_6 => ?_)
    rcases hw_6 with ⟨hr_5, hw_6⟩ | ⟨hr_5, hw_6⟩
    ·
      refine W_top (y := .int 1) (by rw [hr_5]) ?_
      refine lv_if_ne (tgt := 17) hx hb dX8_refusalOfStretch_12 (by decide) (fun c_8 => ?_) (fun c_8 => absurd c_8 (by decide))
      refine lv_aload_n hx hb dX8_refusalOfStretch_17 rfl (lv_at hl 0 rfl) ?_
      refine lv_iload_n hx hb dX8_refusalOfStretch_18 rfl (lv_at hl 1 rfl) ?_
      refine rn_call (runRV (rest := []) (As := [.int p0]) hx hb hml hown htb (g_X8_watchAt_N l D E xh xa xtrialRule xdropRule xtoday xf1 xf3 p0 (by (try dsimp only); omega) hn0) ok_X8_watchAt k_369 k_371 ks_1 k_1 k_372 ⟨(Nat.le_of_ble_eq_true rfl), (Nat.le_of_ble_eq_true rfl)⟩ ⟨(Nat.le_of_ble_eq_true rfl), (Nat.le_of_ble_eq_true rfl)⟩ hl.1 (Nat.le_of_ble_eq_true rfl) rfl rfl dX8_refusalOfStretch_19 (prV (hP.sub (ws' := [(xh, .inr (8, G8 xa xtrialRule xdropRule xtoday)), ((xa 1), .inl (E 0, 16, .inl xf1)), ((xa 3), .inl (E 3, 16, .inr (.inr (.inr (.inr xf3)))))]) [0, 1, 2] rfl) hK rfl rfl 0 rfl)) ?_
      refine lv_ifnonnullN hx hb dX8_refusalOfStretch_22 ?_
      refine lv_aload_n hx hb dX8_refusalOfStretch_25 rfl (lv_at hl 0 rfl) ?_
      refine lv_iload_n hx hb dX8_refusalOfStretch_26 rfl (lv_at hl 1 rfl) ?_
      refine callRV (rest := []) (As := [.int p0]) hx hb hml hown htb hK (g_X8_lackAt l D E xh xa xtrialRule xdropRule xtoday xf1 p0 (by (try dsimp only); omega)) ok_X8_lackAt k_396 k_398 ks_3 k_1 k_399 ⟨(Nat.le_of_ble_eq_true rfl), (Nat.le_of_ble_eq_true rfl)⟩ ⟨(Nat.le_of_ble_eq_true rfl), (Nat.le_of_ble_eq_true rfl)⟩ hl.1 (Nat.le_of_ble_eq_true rfl) rfl rfl dX8_refusalOfStretch_27 (hP.sub (ws' := [(xh, .inr (8, G8 xa xtrialRule xdropRule xtoday)), ((xa 1), .inl (E 0, 16, .inl xf1))]) [0, 1] rfl) rfl rfl 0 rfl (fun r_12 hw_13 => ?_)
      refine lv_goto (tgt := 34) hx hb dX8_refusalOfStretch_30 (by decide) ?_
      exact W.iret (v := r_12) hx hb hr (fun t ht hW => ⟨r_12, rfl, (by rcases hw_13 with h9 | h9 | h9 <;> first | (exfalso; omega) | exact Or.inl ⟨by omega, by omega⟩ | exact Or.inr ⟨by omega, by omega⟩), ht⟩) (fun q h => by cases h) dX8_refusalOfStretch_34
    ·
      refine W_top (y := .int 0) (by rw [hr_5]) ?_
      refine lv_if_ne (tgt := 17) hx hb dX8_refusalOfStretch_12 (by decide) (fun c_15 => absurd (by decide) c_15) (fun c_15 => ?_)
      refine lv_iconst (v := (-1)) hx hb dX8_refusalOfStretch_15 (by decide) ?_
      exact W.iret (v := (-1)) hx hb hr (fun t ht hW => ⟨(-1), rfl, (Or.inl ⟨by have hl0 := t_m1; omega, by omega⟩), ht⟩) (fun q h => by cases h) dX8_refusalOfStretch_16
  ·
    refine W_top (y := .int 0) (by rw [hr_1]) ?_
    refine lv_if_eq (tgt := 15) hx hb dX8_refusalOfStretch_4 (by decide) (fun c_16 => ?_) (fun c_16 => absurd (by decide) c_16)
    refine lv_iconst (v := (-1)) hx hb dX8_refusalOfStretch_15 (by decide) ?_
    exact W.iret (v := (-1)) hx hb hr (fun t ht hW => ⟨(-1), rfl, (Or.inl ⟨by have hl0 := t_m1; omega, by omega⟩), ht⟩) (fun q h => by cases h) dX8_refusalOfStretch_16
set_option maxHeartbeats 4000000 in
set_option maxRecDepth 100000 in
theorem g_X8_refusalOfStretch_W (l : Launch) (D : va_G) (E : Nat → Nat) (xh : Nat) (xa : Nat → Nat) (xtrialRule : Nat) (xdropRule : Nat) (xtoday : Int32) (xf1 : Nat → Int32) (xf3 : Nat → Option Nat) (wh : Nat) (wa : Nat → Nat) (p0 : Int32) (p1 : Int32) (p2 : Int32) (hi_x : (0 ≤ xtoday.toInt ∧ xtoday.toInt ≤ 399)) (hk0 : (0 ≤ p0.toInt ∧ p0.toInt ≤ 15 ∧ ((xf1 (p0).toNatClampNeg).toInt = 0 ∨ (xf1 (p0).toNatClampNeg).toInt = 1))) (hw0 : xf3 (p0).toNatClampNeg = some wh) : Met l yX8_refusalOfStretch (wl yX8_refusalOfStretch cX8_refusalOfStretch 4 (some .int)) (RM 2 0 0) (rd_P D E [.ref xh, .int p0, .int p1, .int p2] [(xh, .inr (8, G8 xa xtrialRule xdropRule xtoday)), ((xa 1), .inl (E 0, 16, .inl xf1)), ((xa 3), .inl (E 3, 16, .inr (.inr (.inr (.inr xf3))))), (wh, .inr (7, G7 wa))]) (rd_Q (fun r => ((r.toInt = 0 ∧ (0 ≤ p1.toInt ∧ p2.toInt ≤ 399 ∧ p1.toInt < p2.toInt ∧ p2.toInt - p1.toInt ≤ 60)) ∨ (r.toInt = -1 ∧ ¬ (0 ≤ p1.toInt ∧ p2.toInt ≤ 399 ∧ p1.toInt < p2.toInt ∧ p2.toInt - p1.toInt ≤ 60))))) 0 0 (fun _ => False) := by
  refine Met.ofW (cc := cX8_refusalOfStretch) (maxL := 4) (ret := (some .int)) (by decide) rfl ?_
  intro p e s m args below meth c s₁ B hml hv
  obtain ⟨rfl, hP, hK⟩ := hv
  have hx := B.exec; have hb := B.bytes; have hr := B.returns
  have hts := atoms_spec (ws := wl yX8_refusalOfStretch cX8_refusalOfStretch 4 (some .int)) B.pre
  have htb : ∀ w ∈ tb, w.before _ s = true := fun w h => hts w (List.mem_cons_of_mem _ h)
  have hown : s.vm.findClass RX8 = some m.cls := findClass_of_methodNamed B.named
  have hlocks := B.notSynchronized
  have hP : va_P D vwCl [(xh, .inr (8, G8 xa xtrialRule xdropRule xtoday)), ((xa 1), .inl (E 0, 16, .inl xf1)), ((xa 3), .inl (E 3, 16, .inr (.inr (.inr (.inr xf3))))), (wh, .inr (7, G7 wa))] s.heap := hP
  have hl := lv_entry ([.ref xh, .int p0, .int p1, .int p2]) (n := 4) (Nat.le_of_ble_eq_true rfl)
  rw [lg_entry_eq]
  generalize (lg_sl ([.ref xh, .int p0, .int p1, .int p2]) ++ List.replicate (4 - (lg_sl ([.ref xh, .int p0, .int p1, .int p2])).length) Slot.unset).toArray = ls at hl ⊢
  have hl : lv_has ls 4 [(0, .ref xh), (1, .int p0), (2, .int p1), (3, .int p2)] := hl
  have lo_p0 := i_lo p0; have hi_p0 := i_hi p0
  have lo_p1 := i_lo p1; have hi_p1 := i_hi p1
  have lo_p2 := i_lo p2; have hi_p2 := i_hi p2
  refine lv_iload_n hx hb dX8_refusalOfStretch_0 rfl (lv_at hl 1 rfl) ?_
  refine callRS (rest := []) (As := [.int p0]) hx hb hml hown htb hK (g_X8_isPlace l D E p0 ) ok_X8_isPlace k_333 k_334 k_1 k_335 ⟨(Nat.le_of_ble_eq_true rfl), (Nat.le_of_ble_eq_true rfl)⟩ ⟨(Nat.le_of_ble_eq_true rfl), (Nat.le_of_ble_eq_true rfl)⟩ hl.1 (Nat.le_of_ble_eq_true rfl) rfl rfl dX8_refusalOfStretch_1 (hP.sub (ws' := ([] : va_W)) [] rfl) (fun r_1 hw_2 => ?_)
  rcases hw_2 with ⟨hr_1, hw_2⟩ | ⟨hr_1, hw_2⟩
  ·
    refine W_top (y := .int 1) (by rw [hr_1]) ?_
    refine lv_if_eq (tgt := 15) hx hb dX8_refusalOfStretch_4 (by decide) (fun c_4 => absurd c_4 (by decide)) (fun c_4 => ?_)
    refine lv_iload_n hx hb dX8_refusalOfStretch_7 rfl (lv_at hl 2 rfl) ?_
    refine lv_iload_n hx hb dX8_refusalOfStretch_8 rfl (lv_at hl 3 rfl) ?_
    refine callRS (rest := []) (As := [.int p1, .int p2]) hx hb hml hown htb hK (g_X8_isStretch l D E p1 p2 ) ok_X8_isStretch k_479 k_480 k_1 k_481 ⟨(Nat.le_of_ble_eq_true rfl), (Nat.le_of_ble_eq_true rfl)⟩ ⟨(Nat.le_of_ble_eq_true rfl), (Nat.le_of_ble_eq_true rfl)⟩ hl.1 (Nat.le_of_ble_eq_true rfl) rfl rfl dX8_refusalOfStretch_9 (hP.sub (ws' := ([] : va_W)) [] rfl) (fun r_5 hw_6 => ?_)
    rcases hw_6 with ⟨hr_5, hw_6⟩ | ⟨hr_5, hw_6⟩
    ·
      refine W_top (y := .int 1) (by rw [hr_5]) ?_
      refine lv_if_ne (tgt := 17) hx hb dX8_refusalOfStretch_12 (by decide) (fun c_8 => ?_) (fun c_8 => absurd c_8 (by decide))
      refine lv_aload_n hx hb dX8_refusalOfStretch_17 rfl (lv_at hl 0 rfl) ?_
      refine lv_iload_n hx hb dX8_refusalOfStretch_18 rfl (lv_at hl 1 rfl) ?_
      refine rr_call (runRV (rest := []) (As := [.int p0]) hx hb hml hown htb (g_X8_watchAt_W l D E xh xa xtrialRule xdropRule xtoday xf1 xf3 wh wa p0 (by (try dsimp only); omega) hk0 hw0) ok_X8_watchAt k_369 k_371 ks_1 k_1 k_372 ⟨(Nat.le_of_ble_eq_true rfl), (Nat.le_of_ble_eq_true rfl)⟩ ⟨(Nat.le_of_ble_eq_true rfl), (Nat.le_of_ble_eq_true rfl)⟩ hl.1 (Nat.le_of_ble_eq_true rfl) rfl rfl dX8_refusalOfStretch_19 (prV (hP.sub (ws' := [(xh, .inr (8, G8 xa xtrialRule xdropRule xtoday)), ((xa 1), .inl (E 0, 16, .inl xf1)), ((xa 3), .inl (E 3, 16, .inr (.inr (.inr (.inr xf3))))), (wh, .inr (7, G7 wa))]) [0, 1, 2, 3] rfl) hK rfl rfl 0 rfl)) ?_
      refine lv_ifnonnull (tgt := 33) hx hb dX8_refusalOfStretch_22 (by decide) ?_
      refine lv_iconst (v := 0) hx hb dX8_refusalOfStretch_33 (by decide) ?_
      exact W.iret (v := 0) hx hb hr (fun t ht hW => ⟨0, rfl, (by have h0 := t_0; (try dsimp only); omega), ht⟩) (fun q h => by cases h) dX8_refusalOfStretch_34
    ·
      refine W_top (y := .int 0) (by rw [hr_5]) ?_
      refine lv_if_ne (tgt := 17) hx hb dX8_refusalOfStretch_12 (by decide) (fun c_12 => absurd (by decide) c_12) (fun c_12 => ?_)
      refine lv_iconst (v := (-1)) hx hb dX8_refusalOfStretch_15 (by decide) ?_
      exact W.iret (v := (-1)) hx hb hr (fun t ht hW => ⟨(-1), rfl, (by have h0 := t_m1; (try dsimp only); omega), ht⟩) (fun q h => by cases h) dX8_refusalOfStretch_16
  ·
    refine W_top (y := .int 0) (by rw [hr_1]) ?_
    refine lv_if_eq (tgt := 15) hx hb dX8_refusalOfStretch_4 (by decide) (fun c_13 => ?_) (fun c_13 => absurd (by decide) c_13)
    refine lv_iconst (v := (-1)) hx hb dX8_refusalOfStretch_15 (by decide) ?_
    exact W.iret (v := (-1)) hx hb hr (fun t ht hW => ⟨(-1), rfl, (by have h0 := t_m1; (try dsimp only); omega), ht⟩) (fun q h => by cases h) dX8_refusalOfStretch_16
set_option maxHeartbeats 4000000 in
set_option maxRecDepth 100000 in
theorem g_X8_warmthFor (l : Launch) (D : va_G) (E : Nat → Nat) (xh : Nat) (xa : Nat → Nat) (xtrialRule : Nat) (xdropRule : Nat) (xtoday : Int32) (xf0 : Nat → Int32) (xf1 : Nat → Int32) (xf2 : Nat → Int32) (p0 : Int32) (p1 : Int32) (hi_x : (0 ≤ xtoday.toInt ∧ xtoday.toInt ≤ 399)) : Met l yX8_warmthFor (wl yX8_warmthFor cX8_warmthFor 3 (some .int)) (RM 1 0 0) (rd_P D E [.ref xh, .int p0, .int p1] [(xh, .inr (8, G8 xa xtrialRule xdropRule xtoday)), ((xa 0), .inl (E 0, 400, .inl xf0)), ((xa 1), .inl (E 0, 16, .inl xf1)), ((xa 2), .inl (E 0, 16, .inl xf2))]) (rd_Q (fun r => ((¬ ((0 ≤ p0.toInt ∧ p0.toInt ≤ 15) ∧ (0 ≤ p1.toInt ∧ p1.toInt ≤ 399)) ∧ r.toInt = -100) ∨ (((0 ≤ p0.toInt ∧ p0.toInt ≤ 15) ∧ (0 ≤ p1.toInt ∧ p1.toInt ≤ 399)) ∧ r = wmF xf1 xf2 xf0 p0 p1)))) 0 0 (fun _ => False) := by
  refine Met.ofW (cc := cX8_warmthFor) (maxL := 3) (ret := (some .int)) (by decide) rfl ?_
  intro p e s m args below meth c s₁ B hml hv
  obtain ⟨rfl, hP, hK⟩ := hv
  have hx := B.exec; have hb := B.bytes; have hr := B.returns
  have hts := atoms_spec (ws := wl yX8_warmthFor cX8_warmthFor 3 (some .int)) B.pre
  have htb : ∀ w ∈ tb, w.before _ s = true := fun w h => hts w (List.mem_cons_of_mem _ h)
  have hown : s.vm.findClass RX8 = some m.cls := findClass_of_methodNamed B.named
  have hlocks := B.notSynchronized
  have hP : va_P D vwCl [(xh, .inr (8, G8 xa xtrialRule xdropRule xtoday)), ((xa 0), .inl (E 0, 400, .inl xf0)), ((xa 1), .inl (E 0, 16, .inl xf1)), ((xa 2), .inl (E 0, 16, .inl xf2))] s.heap := hP
  have hl := lv_entry ([.ref xh, .int p0, .int p1]) (n := 3) (Nat.le_of_ble_eq_true rfl)
  rw [lg_entry_eq]
  generalize (lg_sl ([.ref xh, .int p0, .int p1]) ++ List.replicate (3 - (lg_sl ([.ref xh, .int p0, .int p1])).length) Slot.unset).toArray = ls at hl ⊢
  have hl : lv_has ls 3 [(0, .ref xh), (1, .int p0), (2, .int p1)] := hl
  have lo_p0 := i_lo p0; have hi_p0 := i_hi p0
  have lo_p1 := i_lo p1; have hi_p1 := i_hi p1
  refine lv_iload_n hx hb dX8_warmthFor_0 rfl (lv_at hl 1 rfl) ?_
  refine callRS (rest := []) (As := [.int p0]) hx hb hml hown htb hK (g_X8_isPlace l D E p0 ) ok_X8_isPlace k_333 k_334 k_1 k_335 ⟨(Nat.le_of_ble_eq_true rfl), (Nat.le_of_ble_eq_true rfl)⟩ ⟨(Nat.le_of_ble_eq_true rfl), (Nat.le_of_ble_eq_true rfl)⟩ hl.1 (Nat.le_of_ble_eq_true rfl) rfl rfl dX8_warmthFor_1 (hP.sub (ws' := ([] : va_W)) [] rfl) (fun r_1 hw_2 => ?_)
  rcases hw_2 with ⟨hr_1, hw_2⟩ | ⟨hr_1, hw_2⟩
  ·
    refine W_top (y := .int 1) (by rw [hr_1]) ?_
    refine lv_if_eq (tgt := 14) hx hb dX8_warmthFor_4 (by decide) (fun c_4 => absurd c_4 (by decide)) (fun c_4 => ?_)
    refine lv_iload_n hx hb dX8_warmthFor_7 rfl (lv_at hl 2 rfl) ?_
    refine callRS (rest := []) (As := [.int p1]) hx hb hml hown htb hK (g_X8_isDay l D E p1 ) ok_X8_isDay k_323 k_324 k_1 k_325 ⟨(Nat.le_of_ble_eq_true rfl), (Nat.le_of_ble_eq_true rfl)⟩ ⟨(Nat.le_of_ble_eq_true rfl), (Nat.le_of_ble_eq_true rfl)⟩ hl.1 (Nat.le_of_ble_eq_true rfl) rfl rfl dX8_warmthFor_8 (hP.sub (ws' := ([] : va_W)) [] rfl) (fun r_5 hw_6 => ?_)
    rcases hw_6 with ⟨hr_5, hw_6⟩ | ⟨hr_5, hw_6⟩
    ·
      refine W_top (y := .int 1) (by rw [hr_5]) ?_
      refine lv_if_ne (tgt := 17) hx hb dX8_warmthFor_11 (by decide) (fun c_8 => ?_) (fun c_8 => absurd c_8 (by decide))
      refine lv_aload_n hx hb dX8_warmthFor_17 rfl (lv_at hl 0 rfl) ?_
      refine va_get (D := D) (ci := 8) (v := .ref (xa 1)) (C := RX8) (T := TX8) (N := 14) hx hb htb iX8 hown hK.1 hP 0 rfl rfl 1 (by decide) (htb _ k_273) (fun _ h9 => h9) rfl dX8_warmthFor_18 ?_
      refine lv_iload_n hx hb dX8_warmthFor_21 rfl (lv_at hl 1 rfl) ?_
      refine va_iald hx hb hK.1 hP 2 0 rfl rfl (g_in rfl (by omega) (by omega)) dX8_warmthFor_22 ?_
      refine lv_topi (fun z_9 ez_9 => ?_)
      have kz_9 := congrArg Int32.toInt ez_9
      refine lv_iconst (v := 1) hx hb dX8_warmthFor_23 (by decide) ?_
      refine lv_icmp_ne (tgt := 36) hx hb dX8_warmthFor_24 (by decide) (fun c_10 => ?_) (fun c_10 => ?_)
      ·
        have ic_10 : z_9.toInt ≠ 1 := mt (g_eq rfl t_1).mpr c_10
        clear c_10
        refine lv_aload_n hx hb dX8_warmthFor_36 rfl (lv_at hl 0 rfl) ?_
        refine va_get (D := D) (ci := 8) (v := .ref (xa 0)) (C := RX8) (T := TX8) (N := 14) hx hb htb iX8 hown hK.1 hP 0 rfl rfl 0 (by decide) (htb _ k_272) (fun _ h9 => h9) rfl dX8_warmthFor_37 ?_
        refine lv_iload_n hx hb dX8_warmthFor_40 rfl (lv_at hl 2 rfl) ?_
        refine va_iald hx hb hK.1 hP 1 0 rfl rfl (g_in rfl (by omega) (by omega)) dX8_warmthFor_41 ?_
        refine lv_topi (fun z_11 ez_11 => ?_)
        have kz_11 := congrArg Int32.toInt ez_11
        exact W.iret (v := z_11) hx hb hr (fun t ht hW => ⟨z_11, rfl, (Or.inr ⟨by omega, by unfold wmF; first | (rw [if_pos (by omega)]; assumption) | (rw [if_neg (by omega)]; assumption)⟩), ht⟩) (fun q h => by cases h) dX8_warmthFor_42
      ·
        have ic_10 : z_9.toInt = 1 := (g_eq rfl t_1).mp c_10
        clear c_10
        refine lv_aload_n hx hb dX8_warmthFor_27 rfl (lv_at hl 0 rfl) ?_
        refine va_get (D := D) (ci := 8) (v := .ref (xa 2)) (C := RX8) (T := TX8) (N := 14) hx hb htb iX8 hown hK.1 hP 0 rfl rfl 2 (by decide) (htb _ k_274) (fun _ h9 => h9) rfl dX8_warmthFor_28 ?_
        refine lv_iload_n hx hb dX8_warmthFor_31 rfl (lv_at hl 1 rfl) ?_
        refine va_iald hx hb hK.1 hP 3 0 rfl rfl (g_in rfl (by omega) (by omega)) dX8_warmthFor_32 ?_
        refine lv_topi (fun z_12 ez_12 => ?_)
        have kz_12 := congrArg Int32.toInt ez_12
        refine lv_goto (tgt := 42) hx hb dX8_warmthFor_33 (by decide) ?_
        exact W.iret (v := z_12) hx hb hr (fun t ht hW => ⟨z_12, rfl, (Or.inr ⟨by omega, by unfold wmF; first | (rw [if_pos (by omega)]; assumption) | (rw [if_neg (by omega)]; assumption)⟩), ht⟩) (fun q h => by cases h) dX8_warmthFor_42
    ·
      refine W_top (y := .int 0) (by rw [hr_5]) ?_
      refine lv_if_ne (tgt := 17) hx hb dX8_warmthFor_11 (by decide) (fun c_13 => absurd (by decide) c_13) (fun c_13 => ?_)
      refine lv_bipush (v := (-100)) hx hb dX8_warmthFor_14 (by decide) ?_
      exact W.iret (v := (-100)) hx hb hr (fun t ht hW => ⟨(-100), rfl, (Or.inl ⟨by omega, by have hl0 := t_m100; omega⟩), ht⟩) (fun q h => by cases h) dX8_warmthFor_16
  ·
    refine W_top (y := .int 0) (by rw [hr_1]) ?_
    refine lv_if_eq (tgt := 14) hx hb dX8_warmthFor_4 (by decide) (fun c_14 => ?_) (fun c_14 => absurd (by decide) c_14)
    refine lv_bipush (v := (-100)) hx hb dX8_warmthFor_14 (by decide) ?_
    exact W.iret (v := (-100)) hx hb hr (fun t ht hW => ⟨(-100), rfl, (Or.inl ⟨by omega, by have hl0 := t_m100; omega⟩), ht⟩) (fun q h => by cases h) dX8_warmthFor_16
set_option maxHeartbeats 4000000 in
set_option maxRecDepth 100000 in
theorem g_X8_placesWith (l : Launch) (D : va_G) (E : Nat → Nat) (xh : Nat) (xa : Nat → Nat) (xtrialRule : Nat) (xdropRule : Nat) (xtoday : Int32) (xf1 : Nat → Int32) (p0 : Int32) (hi_x : (0 ≤ xtoday.toInt ∧ xtoday.toInt ≤ 399)) : Met l yX8_placesWith (wl yX8_placesWith cX8_placesWith 4 (some .int)) (RM 0 0 0) (rd_P D E [.ref xh, .int p0] [(xh, .inr (8, G8 xa xtrialRule xdropRule xtoday)), ((xa 1), .inl (E 0, 16, .inl xf1))]) (rd_Q (fun r => (0 ≤ r.toInt ∧ r.toInt ≤ 16 ∧ r.toInt = cnK xf1 p0.toInt 16))) 0 0 (fun _ => False) := by
  refine Met.ofW (cc := cX8_placesWith) (maxL := 4) (ret := (some .int)) (by decide) rfl ?_
  intro p e s m args below meth c s₁ B hml hv
  obtain ⟨rfl, hP, hK⟩ := hv
  have hx := B.exec; have hb := B.bytes; have hr := B.returns
  have hts := atoms_spec (ws := wl yX8_placesWith cX8_placesWith 4 (some .int)) B.pre
  have htb : ∀ w ∈ tb, w.before _ s = true := fun w h => hts w (List.mem_cons_of_mem _ h)
  have hown : s.vm.findClass RX8 = some m.cls := findClass_of_methodNamed B.named
  have hlocks := B.notSynchronized
  have hP : va_P D vwCl [(xh, .inr (8, G8 xa xtrialRule xdropRule xtoday)), ((xa 1), .inl (E 0, 16, .inl xf1))] s.heap := hP
  have hl := lv_entry ([.ref xh, .int p0]) (n := 4) (Nat.le_of_ble_eq_true rfl)
  rw [lg_entry_eq]
  generalize (lg_sl ([.ref xh, .int p0]) ++ List.replicate (4 - (lg_sl ([.ref xh, .int p0])).length) Slot.unset).toArray = ls at hl ⊢
  have hl : lv_has ls 4 [(0, .ref xh), (1, .int p0)] := hl
  have lo_p0 := i_lo p0; have hi_p0 := i_hi p0
  refine lv_iconst (v := 0) hx hb dX8_placesWith_0 (by decide) ?_
  refine lv_istore_n (lv' := [(2, .int 0), (0, .ref xh), (1, .int p0)]) hx hb dX8_placesWith_1 rfl hl (by decide) rfl (fun ls hl => ?_)
  refine lv_iconst (v := 0) hx hb dX8_placesWith_2 (by decide) ?_
  refine lv_istore_n (lv' := [(3, .int 0), (2, .int 0), (0, .ref xh), (1, .int p0)]) hx hb dX8_placesWith_3 rfl hl (by decide) rfl (fun ls hl => ?_)
  have loop_1 : ∀ (N_3 : Nat) (L3_4 : Int32) (L2_4 : Int32)  (ls : Array Slot), 16 - L3_4.toInt < (N_3 : Int) → (0 ≤ L3_4.toInt ∧ L3_4.toInt ≤ 16 ∧ 0 ≤ L2_4.toInt ∧ L2_4.toInt ≤ L3_4.toInt) → (L2_4.toInt = cnK xf1 p0.toInt (L3_4).toNatClampNeg) → lv_has ls 4 [(3, .int L3_4), (2, .int L2_4), (0, .ref xh), (1, .int p0)] → W p l e (headSpec (wl yX8_placesWith cX8_placesWith 4 (some .int)) (RM 0 0 0)).room s m [Value.ref xh, .int p0].toArray below meth c s.heap [] 0 0 (MQ below (rd_Q (fun r => (0 ≤ r.toInt ∧ r.toInt ≤ 16 ∧ r.toInt = cnK xf1 p0.toInt 16))) [Value.ref xh, .int p0].toArray s 0 0 (fun _ => False)) (F0 m 4 ls []) := by
    intro N_3
    induction N_3 with
    | zero => intro L3_4 L2_4  ls hm v0_4 v1_4 _; exfalso; omega
    | succ N_3 ih_2 =>
      intro L3_4 L2_4 ls hm v0_4 v1_4 hl
      have lo_L3_4 := i_lo L3_4; have hi_L3_4 := i_hi L3_4
      have lo_L2_4 := i_lo L2_4; have hi_L2_4 := i_hi L2_4
      refine lv_iload_n hx hb dX8_placesWith_4 rfl (lv_at hl 0 rfl) ?_
      refine lv_bipush (v := 16) hx hb dX8_placesWith_5 (by decide) ?_
      refine lv_icmp_ge (tgt := 29) hx hb dX8_placesWith_7 (by decide) (fun c_4 => ?_) (fun c_4 => ?_)
      ·
        have ic_4 : 16 ≤ L3_4.toInt := by first | exact (g_le t_16 rfl).mp c_4 | (have h := mt (g_lt rfl t_16).mpr c_4; omega)
        clear c_4
        refine lv_iload_n hx hb dX8_placesWith_29 rfl (lv_at hl 1 rfl) ?_
        exact W.iret (v := L2_4) hx hb hr (fun t ht hW => ⟨L2_4, rfl, (by have c9 := i_clamp0 (x := L3_4) (by omega); refine ⟨by omega, by omega, ?_⟩; rw [show (16 : Nat) = (L3_4).toNatClampNeg by omega]; assumption), ht⟩) (fun q h => by cases h) dX8_placesWith_30
      ·
        have ic_4 : L3_4.toInt < 16 := by first | exact (g_lt rfl t_16).mp c_4 | (have h := mt (g_le t_16 rfl).mpr c_4; omega)
        clear c_4
        refine lv_aload_n hx hb dX8_placesWith_10 rfl (lv_at hl 2 rfl) ?_
        refine va_get (D := D) (ci := 8) (v := .ref (xa 1)) (C := RX8) (T := TX8) (N := 14) hx hb htb iX8 hown hK.1 hP 0 rfl rfl 1 (by decide) (htb _ k_273) (fun _ h9 => h9) rfl dX8_placesWith_11 ?_
        refine lv_iload_n hx hb dX8_placesWith_14 rfl (lv_at hl 0 rfl) ?_
        refine va_iald hx hb hK.1 hP 1 0 rfl rfl (g_in rfl (by omega) (by omega)) dX8_placesWith_15 ?_
        refine lv_topi (fun z_5 ez_5 => ?_)
        have kz_5 := congrArg Int32.toInt ez_5
        refine lv_iload_n hx hb dX8_placesWith_16 rfl (lv_at hl 3 rfl) ?_
        refine lv_icmp_ne (tgt := 23) hx hb dX8_placesWith_17 (by decide) (fun c_6 => ?_) (fun c_6 => ?_)
        ·
          have ic_6 : z_5.toInt ≠ p0.toInt := mt (g_eq rfl rfl).mpr c_6
          clear c_6
          obtain ⟨z_7, ez_7⟩ : ∃ y : Int32, y = L3_4 + 1 := ⟨_, rfl⟩
          have jz_7 : z_7.toInt = L3_4.toInt + 1 := by rw [ez_7]; exact g_add rfl t_1 (by omega) (by omega)
          refine lv_iinc (v := z_7) (lv' := [(3, .int z_7), (2, .int L2_4), (0, .ref xh), (1, .int p0)]) hx hb dX8_placesWith_23 hl (k := 0) rfl (by rw [ez_7]; rfl) (by decide) rfl (fun ls hl => ?_)
          refine lv_goto (tgt := 4) hx hb dX8_placesWith_26 (by decide) ?_
          exact ih_2 z_7 L2_4 _ (by (try dsimp only); omega) (by (try dsimp only); omega) (by have hcl := clampS (by omega) jz_7; rw [hcl, cnK_succ]; split <;> omega) (lv_sub hl [0, 1, 2, 3] rfl)
        ·
          have ic_6 : z_5.toInt = p0.toInt := (g_eq rfl rfl).mp c_6
          clear c_6
          obtain ⟨z_8, ez_8⟩ : ∃ y : Int32, y = L2_4 + 1 := ⟨_, rfl⟩
          have jz_8 : z_8.toInt = L2_4.toInt + 1 := by rw [ez_8]; exact g_add rfl t_1 (by omega) (by omega)
          refine lv_iinc (v := z_8) (lv' := [(2, .int z_8), (3, .int L3_4), (0, .ref xh), (1, .int p0)]) hx hb dX8_placesWith_20 hl (k := 1) rfl (by rw [ez_8]; rfl) (by decide) rfl (fun ls hl => ?_)
          obtain ⟨z_9, ez_9⟩ : ∃ y : Int32, y = L3_4 + 1 := ⟨_, rfl⟩
          have jz_9 : z_9.toInt = L3_4.toInt + 1 := by rw [ez_9]; exact g_add rfl t_1 (by omega) (by omega)
          refine lv_iinc (v := z_9) (lv' := [(3, .int z_9), (2, .int z_8), (0, .ref xh), (1, .int p0)]) hx hb dX8_placesWith_23 hl (k := 1) rfl (by rw [ez_9]; rfl) (by decide) rfl (fun ls hl => ?_)
          refine lv_goto (tgt := 4) hx hb dX8_placesWith_26 (by decide) ?_
          exact ih_2 z_9 z_8 _ (by (try dsimp only); omega) (by (try dsimp only); omega) (by have hcl := clampS (by omega) jz_9; rw [hcl, cnK_succ]; split <;> omega) (lv_sub hl [0, 1, 2, 3] rfl)
  exact loop_1 17 0 0 _ (by have h0 := t_0; (try dsimp only); omega) (by have h0 := t_0; (try dsimp only); omega) (by rfl)  (lv_sub hl [0, 1, 2, 3] rfl)
set_option maxHeartbeats 4000000 in
set_option maxRecDepth 100000 in
theorem g_X8_shipsAtSea (l : Launch) (D : va_G) (E : Nat → Nat) (xh : Nat) (xa : Nat → Nat) (xtrialRule : Nat) (xdropRule : Nat) (xtoday : Int32) (xf4 : Nat → Option Nat) (y0h : Nat) (y0a : Nat → Nat) (y0sights : Int32) (y0stage : Int32) (y0sailed : Int32) (y0voyage : Int32) (y1h : Nat) (y1a : Nat → Nat) (y1sights : Int32) (y1stage : Int32) (y1sailed : Int32) (y1voyage : Int32) (y2h : Nat) (y2a : Nat → Nat) (y2sights : Int32) (y2stage : Int32) (y2sailed : Int32) (y2voyage : Int32) (y3h : Nat) (y3a : Nat → Nat) (y3sights : Int32) (y3stage : Int32) (y3sailed : Int32) (y3voyage : Int32) (y4h : Nat) (y4a : Nat → Nat) (y4sights : Int32) (y4stage : Int32) (y4sailed : Int32) (y4voyage : Int32) (hi_x : (0 ≤ xtoday.toInt ∧ xtoday.toInt ≤ 399)) (hi_y0 : (0 ≤ y0sights.toInt ∧ y0sights.toInt ≤ 40)) (hi_y1 : (0 ≤ y1sights.toInt ∧ y1sights.toInt ≤ 40)) (hi_y2 : (0 ≤ y2sights.toInt ∧ y2sights.toInt ≤ 40)) (hi_y3 : (0 ≤ y3sights.toInt ∧ y3sights.toInt ≤ 40)) (hi_y4 : (0 ≤ y4sights.toInt ∧ y4sights.toInt ≤ 40)) (hq0 : xf4 (0 : Int32).toNatClampNeg = some y0h) (hq1 : xf4 (1 : Int32).toNatClampNeg = some y1h) (hq2 : xf4 (2 : Int32).toNatClampNeg = some y2h) (hq3 : xf4 (3 : Int32).toNatClampNeg = some y3h) (hq4 : xf4 (4 : Int32).toNatClampNeg = some y4h) : Met l yX8_shipsAtSea (wl yX8_shipsAtSea cX8_shipsAtSea 3 (some .int)) (RM 0 0 0) (rd_P D E [.ref xh] [(xh, .inr (8, G8 xa xtrialRule xdropRule xtoday)), ((xa 4), .inl (E 4, 5, .inr (.inr (.inr (.inr xf4))))), (y0h, .inr (5, G5 y0a y0sights y0stage y0sailed y0voyage)), (y1h, .inr (5, G5 y1a y1sights y1stage y1sailed y1voyage)), (y2h, .inr (5, G5 y2a y2sights y2stage y2sailed y2voyage)), (y3h, .inr (5, G5 y3a y3sights y3stage y3sailed y3voyage)), (y4h, .inr (5, G5 y4a y4sights y4stage y4sailed y4voyage))]) (rd_Q (fun r => (r.toInt = (if y0stage.toInt = 1 then 1 else 0) + (if y1stage.toInt = 1 then 1 else 0) + (if y2stage.toInt = 1 then 1 else 0) + (if y3stage.toInt = 1 then 1 else 0) + (if y4stage.toInt = 1 then 1 else 0)))) 0 0 (fun _ => False) := by
  refine Met.ofW (cc := cX8_shipsAtSea) (maxL := 3) (ret := (some .int)) (by decide) rfl ?_
  intro p e s m args below meth c s₁ B hml hv
  obtain ⟨rfl, hP, hK⟩ := hv
  have hx := B.exec; have hb := B.bytes; have hr := B.returns
  have hts := atoms_spec (ws := wl yX8_shipsAtSea cX8_shipsAtSea 3 (some .int)) B.pre
  have htb : ∀ w ∈ tb, w.before _ s = true := fun w h => hts w (List.mem_cons_of_mem _ h)
  have hown : s.vm.findClass RX8 = some m.cls := findClass_of_methodNamed B.named
  have hlocks := B.notSynchronized
  have hP : va_P D vwCl [(xh, .inr (8, G8 xa xtrialRule xdropRule xtoday)), ((xa 4), .inl (E 4, 5, .inr (.inr (.inr (.inr xf4))))), (y0h, .inr (5, G5 y0a y0sights y0stage y0sailed y0voyage)), (y1h, .inr (5, G5 y1a y1sights y1stage y1sailed y1voyage)), (y2h, .inr (5, G5 y2a y2sights y2stage y2sailed y2voyage)), (y3h, .inr (5, G5 y3a y3sights y3stage y3sailed y3voyage)), (y4h, .inr (5, G5 y4a y4sights y4stage y4sailed y4voyage))] s.heap := hP
  have hl := lv_entry ([.ref xh]) (n := 3) (Nat.le_of_ble_eq_true rfl)
  rw [lg_entry_eq]
  generalize (lg_sl ([.ref xh]) ++ List.replicate (3 - (lg_sl ([.ref xh])).length) Slot.unset).toArray = ls at hl ⊢
  have hl : lv_has ls 3 [(0, .ref xh)] := hl
  refine lv_iconst (v := 0) hx hb dX8_shipsAtSea_0 (by decide) ?_
  refine lv_istore_n (lv' := [(1, .int 0), (0, .ref xh)]) hx hb dX8_shipsAtSea_1 rfl hl (by decide) rfl (fun ls hl => ?_)
  refine lv_iconst (v := 0) hx hb dX8_shipsAtSea_2 (by decide) ?_
  refine lv_istore_n (lv' := [(2, .int 0), (1, .int 0), (0, .ref xh)]) hx hb dX8_shipsAtSea_3 rfl hl (by decide) rfl (fun ls hl => ?_)
  refine lv_iload_n hx hb dX8_shipsAtSea_4 rfl (lv_at hl 0 rfl) ?_
  refine lv_iconst (v := 5) hx hb dX8_shipsAtSea_5 (by decide) ?_
  refine lv_icmp_ge (tgt := 31) hx hb dX8_shipsAtSea_6 (by decide) (fun c_1 => absurd c_1 (by decide)) (fun c_1 => ?_)
  refine lv_aload_n hx hb dX8_shipsAtSea_9 rfl (lv_at hl 2 rfl) ?_
  refine va_get (D := D) (ci := 8) (v := .ref (xa 4)) (C := RX8) (T := TX8) (N := 14) hx hb htb iX8 hown hK.1 hP 0 rfl rfl 4 (by decide) (htb _ k_276) (fun _ h9 => h9) rfl dX8_shipsAtSea_10 ?_
  refine lv_iload_n hx hb dX8_shipsAtSea_13 rfl (lv_at hl 0 rfl) ?_
  refine va_aldq hx hb hK.1 hP 1 4 rfl rfl (g_in t_0 (by decide) (by decide)) dX8_shipsAtSea_14 ?_
  refine W_top (y := .ref y0h) (congrArg va_rf hq0) ?_
  refine va_getN (D := D) (ci := 5) (v := .int y0stage) (C := RX5) (T := TX5) (N := 11) hx hb htb iX5 hown hK.1 hP 2 rfl rfl 8 (by decide) (va_Nw.use rfl (hK.2.1 (Cond.fieldLinkNest RX8 208 "SeaWatches$Ship" "stage" "I" "SeaWatches") (by decide +kernel))) (fun _ h9 => h9) rfl dX8_shipsAtSea_15 ?_
  refine lv_iconst (v := 1) hx hb dX8_shipsAtSea_18 (by decide) ?_
  refine lv_icmp_ne (tgt := 25) hx hb dX8_shipsAtSea_19 (by decide) (fun c_2 => ?_) (fun c_2 => ?_)
  ·
    have ic_2 : y0stage.toInt ≠ 1 := mt (g_eq rfl t_1).mpr c_2
    clear c_2
    refine lv_iinc (v := 1) (lv' := [(2, .int 1), (1, .int 0), (0, .ref xh)]) hx hb dX8_shipsAtSea_25 hl (k := 0) rfl (by decide) (by decide) rfl (fun ls hl => ?_)
    refine lv_goto (tgt := 4) hx hb dX8_shipsAtSea_28 (by decide) ?_
    refine lv_iload_n hx hb dX8_shipsAtSea_4 rfl (lv_at hl 0 rfl) ?_
    refine lv_iconst (v := 5) hx hb dX8_shipsAtSea_5 (by decide) ?_
    refine lv_icmp_ge (tgt := 31) hx hb dX8_shipsAtSea_6 (by decide) (fun c_3 => absurd c_3 (by decide)) (fun c_3 => ?_)
    refine lv_aload_n hx hb dX8_shipsAtSea_9 rfl (lv_at hl 2 rfl) ?_
    refine va_get (D := D) (ci := 8) (v := .ref (xa 4)) (C := RX8) (T := TX8) (N := 14) hx hb htb iX8 hown hK.1 hP 0 rfl rfl 4 (by decide) (htb _ k_276) (fun _ h9 => h9) rfl dX8_shipsAtSea_10 ?_
    refine lv_iload_n hx hb dX8_shipsAtSea_13 rfl (lv_at hl 0 rfl) ?_
    refine va_aldq hx hb hK.1 hP 1 4 rfl rfl (g_in t_1 (by decide) (by decide)) dX8_shipsAtSea_14 ?_
    refine W_top (y := .ref y1h) (congrArg va_rf hq1) ?_
    refine va_getN (D := D) (ci := 5) (v := .int y1stage) (C := RX5) (T := TX5) (N := 11) hx hb htb iX5 hown hK.1 hP 3 rfl rfl 8 (by decide) (va_Nw.use rfl (hK.2.1 (Cond.fieldLinkNest RX8 208 "SeaWatches$Ship" "stage" "I" "SeaWatches") (by decide +kernel))) (fun _ h9 => h9) rfl dX8_shipsAtSea_15 ?_
    refine lv_iconst (v := 1) hx hb dX8_shipsAtSea_18 (by decide) ?_
    refine lv_icmp_ne (tgt := 25) hx hb dX8_shipsAtSea_19 (by decide) (fun c_4 => ?_) (fun c_4 => ?_)
    ·
      have ic_4 : y1stage.toInt ≠ 1 := mt (g_eq rfl t_1).mpr c_4
      clear c_4
      refine lv_iinc (v := 2) (lv' := [(2, .int 2), (1, .int 0), (0, .ref xh)]) hx hb dX8_shipsAtSea_25 hl (k := 0) rfl (by decide) (by decide) rfl (fun ls hl => ?_)
      refine lv_goto (tgt := 4) hx hb dX8_shipsAtSea_28 (by decide) ?_
      refine lv_iload_n hx hb dX8_shipsAtSea_4 rfl (lv_at hl 0 rfl) ?_
      refine lv_iconst (v := 5) hx hb dX8_shipsAtSea_5 (by decide) ?_
      refine lv_icmp_ge (tgt := 31) hx hb dX8_shipsAtSea_6 (by decide) (fun c_5 => absurd c_5 (by decide)) (fun c_5 => ?_)
      refine lv_aload_n hx hb dX8_shipsAtSea_9 rfl (lv_at hl 2 rfl) ?_
      refine va_get (D := D) (ci := 8) (v := .ref (xa 4)) (C := RX8) (T := TX8) (N := 14) hx hb htb iX8 hown hK.1 hP 0 rfl rfl 4 (by decide) (htb _ k_276) (fun _ h9 => h9) rfl dX8_shipsAtSea_10 ?_
      refine lv_iload_n hx hb dX8_shipsAtSea_13 rfl (lv_at hl 0 rfl) ?_
      refine va_aldq hx hb hK.1 hP 1 4 rfl rfl (g_in t_2 (by decide) (by decide)) dX8_shipsAtSea_14 ?_
      refine W_top (y := .ref y2h) (congrArg va_rf hq2) ?_
      refine va_getN (D := D) (ci := 5) (v := .int y2stage) (C := RX5) (T := TX5) (N := 11) hx hb htb iX5 hown hK.1 hP 4 rfl rfl 8 (by decide) (va_Nw.use rfl (hK.2.1 (Cond.fieldLinkNest RX8 208 "SeaWatches$Ship" "stage" "I" "SeaWatches") (by decide +kernel))) (fun _ h9 => h9) rfl dX8_shipsAtSea_15 ?_
      refine lv_iconst (v := 1) hx hb dX8_shipsAtSea_18 (by decide) ?_
      refine lv_icmp_ne (tgt := 25) hx hb dX8_shipsAtSea_19 (by decide) (fun c_6 => ?_) (fun c_6 => ?_)
      ·
        have ic_6 : y2stage.toInt ≠ 1 := mt (g_eq rfl t_1).mpr c_6
        clear c_6
        refine lv_iinc (v := 3) (lv' := [(2, .int 3), (1, .int 0), (0, .ref xh)]) hx hb dX8_shipsAtSea_25 hl (k := 0) rfl (by decide) (by decide) rfl (fun ls hl => ?_)
        refine lv_goto (tgt := 4) hx hb dX8_shipsAtSea_28 (by decide) ?_
        refine lv_iload_n hx hb dX8_shipsAtSea_4 rfl (lv_at hl 0 rfl) ?_
        refine lv_iconst (v := 5) hx hb dX8_shipsAtSea_5 (by decide) ?_
        refine lv_icmp_ge (tgt := 31) hx hb dX8_shipsAtSea_6 (by decide) (fun c_7 => absurd c_7 (by decide)) (fun c_7 => ?_)
        refine lv_aload_n hx hb dX8_shipsAtSea_9 rfl (lv_at hl 2 rfl) ?_
        refine va_get (D := D) (ci := 8) (v := .ref (xa 4)) (C := RX8) (T := TX8) (N := 14) hx hb htb iX8 hown hK.1 hP 0 rfl rfl 4 (by decide) (htb _ k_276) (fun _ h9 => h9) rfl dX8_shipsAtSea_10 ?_
        refine lv_iload_n hx hb dX8_shipsAtSea_13 rfl (lv_at hl 0 rfl) ?_
        refine va_aldq hx hb hK.1 hP 1 4 rfl rfl (g_in t_3 (by decide) (by decide)) dX8_shipsAtSea_14 ?_
        refine W_top (y := .ref y3h) (congrArg va_rf hq3) ?_
        refine va_getN (D := D) (ci := 5) (v := .int y3stage) (C := RX5) (T := TX5) (N := 11) hx hb htb iX5 hown hK.1 hP 5 rfl rfl 8 (by decide) (va_Nw.use rfl (hK.2.1 (Cond.fieldLinkNest RX8 208 "SeaWatches$Ship" "stage" "I" "SeaWatches") (by decide +kernel))) (fun _ h9 => h9) rfl dX8_shipsAtSea_15 ?_
        refine lv_iconst (v := 1) hx hb dX8_shipsAtSea_18 (by decide) ?_
        refine lv_icmp_ne (tgt := 25) hx hb dX8_shipsAtSea_19 (by decide) (fun c_8 => ?_) (fun c_8 => ?_)
        ·
          have ic_8 : y3stage.toInt ≠ 1 := mt (g_eq rfl t_1).mpr c_8
          clear c_8
          refine lv_iinc (v := 4) (lv' := [(2, .int 4), (1, .int 0), (0, .ref xh)]) hx hb dX8_shipsAtSea_25 hl (k := 0) rfl (by decide) (by decide) rfl (fun ls hl => ?_)
          refine lv_goto (tgt := 4) hx hb dX8_shipsAtSea_28 (by decide) ?_
          refine lv_iload_n hx hb dX8_shipsAtSea_4 rfl (lv_at hl 0 rfl) ?_
          refine lv_iconst (v := 5) hx hb dX8_shipsAtSea_5 (by decide) ?_
          refine lv_icmp_ge (tgt := 31) hx hb dX8_shipsAtSea_6 (by decide) (fun c_9 => absurd c_9 (by decide)) (fun c_9 => ?_)
          refine lv_aload_n hx hb dX8_shipsAtSea_9 rfl (lv_at hl 2 rfl) ?_
          refine va_get (D := D) (ci := 8) (v := .ref (xa 4)) (C := RX8) (T := TX8) (N := 14) hx hb htb iX8 hown hK.1 hP 0 rfl rfl 4 (by decide) (htb _ k_276) (fun _ h9 => h9) rfl dX8_shipsAtSea_10 ?_
          refine lv_iload_n hx hb dX8_shipsAtSea_13 rfl (lv_at hl 0 rfl) ?_
          refine va_aldq hx hb hK.1 hP 1 4 rfl rfl (g_in t_4 (by decide) (by decide)) dX8_shipsAtSea_14 ?_
          refine W_top (y := .ref y4h) (congrArg va_rf hq4) ?_
          refine va_getN (D := D) (ci := 5) (v := .int y4stage) (C := RX5) (T := TX5) (N := 11) hx hb htb iX5 hown hK.1 hP 6 rfl rfl 8 (by decide) (va_Nw.use rfl (hK.2.1 (Cond.fieldLinkNest RX8 208 "SeaWatches$Ship" "stage" "I" "SeaWatches") (by decide +kernel))) (fun _ h9 => h9) rfl dX8_shipsAtSea_15 ?_
          refine lv_iconst (v := 1) hx hb dX8_shipsAtSea_18 (by decide) ?_
          refine lv_icmp_ne (tgt := 25) hx hb dX8_shipsAtSea_19 (by decide) (fun c_10 => ?_) (fun c_10 => ?_)
          ·
            have ic_10 : y4stage.toInt ≠ 1 := mt (g_eq rfl t_1).mpr c_10
            clear c_10
            refine lv_iinc (v := 5) (lv' := [(2, .int 5), (1, .int 0), (0, .ref xh)]) hx hb dX8_shipsAtSea_25 hl (k := 0) rfl (by decide) (by decide) rfl (fun ls hl => ?_)
            refine lv_goto (tgt := 4) hx hb dX8_shipsAtSea_28 (by decide) ?_
            refine lv_iload_n hx hb dX8_shipsAtSea_4 rfl (lv_at hl 0 rfl) ?_
            refine lv_iconst (v := 5) hx hb dX8_shipsAtSea_5 (by decide) ?_
            refine lv_icmp_ge (tgt := 31) hx hb dX8_shipsAtSea_6 (by decide) (fun c_11 => ?_) (fun c_11 => absurd (by decide) c_11)
            refine lv_iload_n hx hb dX8_shipsAtSea_31 rfl (lv_at hl 1 rfl) ?_
            exact W.iret (v := 0) hx hb hr (fun t ht hW => ⟨0, rfl, (by have hl := t_0; (repeat' split) <;> omega), ht⟩) (fun q h => by cases h) dX8_shipsAtSea_32
          ·
            have ic_10 : y4stage.toInt = 1 := (g_eq rfl t_1).mp c_10
            clear c_10
            refine lv_iinc (v := 1) (lv' := [(1, .int 1), (2, .int 4), (0, .ref xh)]) hx hb dX8_shipsAtSea_22 hl (k := 1) rfl (by decide) (by decide) rfl (fun ls hl => ?_)
            refine lv_iinc (v := 5) (lv' := [(2, .int 5), (1, .int 1), (0, .ref xh)]) hx hb dX8_shipsAtSea_25 hl (k := 1) rfl (by decide) (by decide) rfl (fun ls hl => ?_)
            refine lv_goto (tgt := 4) hx hb dX8_shipsAtSea_28 (by decide) ?_
            refine lv_iload_n hx hb dX8_shipsAtSea_4 rfl (lv_at hl 0 rfl) ?_
            refine lv_iconst (v := 5) hx hb dX8_shipsAtSea_5 (by decide) ?_
            refine lv_icmp_ge (tgt := 31) hx hb dX8_shipsAtSea_6 (by decide) (fun c_12 => ?_) (fun c_12 => absurd (by decide) c_12)
            refine lv_iload_n hx hb dX8_shipsAtSea_31 rfl (lv_at hl 1 rfl) ?_
            exact W.iret (v := 1) hx hb hr (fun t ht hW => ⟨1, rfl, (by have hl := t_1; (repeat' split) <;> omega), ht⟩) (fun q h => by cases h) dX8_shipsAtSea_32
        ·
          have ic_8 : y3stage.toInt = 1 := (g_eq rfl t_1).mp c_8
          clear c_8
          refine lv_iinc (v := 1) (lv' := [(1, .int 1), (2, .int 3), (0, .ref xh)]) hx hb dX8_shipsAtSea_22 hl (k := 1) rfl (by decide) (by decide) rfl (fun ls hl => ?_)
          refine lv_iinc (v := 4) (lv' := [(2, .int 4), (1, .int 1), (0, .ref xh)]) hx hb dX8_shipsAtSea_25 hl (k := 1) rfl (by decide) (by decide) rfl (fun ls hl => ?_)
          refine lv_goto (tgt := 4) hx hb dX8_shipsAtSea_28 (by decide) ?_
          refine lv_iload_n hx hb dX8_shipsAtSea_4 rfl (lv_at hl 0 rfl) ?_
          refine lv_iconst (v := 5) hx hb dX8_shipsAtSea_5 (by decide) ?_
          refine lv_icmp_ge (tgt := 31) hx hb dX8_shipsAtSea_6 (by decide) (fun c_13 => absurd c_13 (by decide)) (fun c_13 => ?_)
          refine lv_aload_n hx hb dX8_shipsAtSea_9 rfl (lv_at hl 2 rfl) ?_
          refine va_get (D := D) (ci := 8) (v := .ref (xa 4)) (C := RX8) (T := TX8) (N := 14) hx hb htb iX8 hown hK.1 hP 0 rfl rfl 4 (by decide) (htb _ k_276) (fun _ h9 => h9) rfl dX8_shipsAtSea_10 ?_
          refine lv_iload_n hx hb dX8_shipsAtSea_13 rfl (lv_at hl 0 rfl) ?_
          refine va_aldq hx hb hK.1 hP 1 4 rfl rfl (g_in t_4 (by decide) (by decide)) dX8_shipsAtSea_14 ?_
          refine W_top (y := .ref y4h) (congrArg va_rf hq4) ?_
          refine va_getN (D := D) (ci := 5) (v := .int y4stage) (C := RX5) (T := TX5) (N := 11) hx hb htb iX5 hown hK.1 hP 6 rfl rfl 8 (by decide) (va_Nw.use rfl (hK.2.1 (Cond.fieldLinkNest RX8 208 "SeaWatches$Ship" "stage" "I" "SeaWatches") (by decide +kernel))) (fun _ h9 => h9) rfl dX8_shipsAtSea_15 ?_
          refine lv_iconst (v := 1) hx hb dX8_shipsAtSea_18 (by decide) ?_
          refine lv_icmp_ne (tgt := 25) hx hb dX8_shipsAtSea_19 (by decide) (fun c_14 => ?_) (fun c_14 => ?_)
          ·
            have ic_14 : y4stage.toInt ≠ 1 := mt (g_eq rfl t_1).mpr c_14
            clear c_14
            refine lv_iinc (v := 5) (lv' := [(2, .int 5), (1, .int 1), (0, .ref xh)]) hx hb dX8_shipsAtSea_25 hl (k := 0) rfl (by decide) (by decide) rfl (fun ls hl => ?_)
            refine lv_goto (tgt := 4) hx hb dX8_shipsAtSea_28 (by decide) ?_
            refine lv_iload_n hx hb dX8_shipsAtSea_4 rfl (lv_at hl 0 rfl) ?_
            refine lv_iconst (v := 5) hx hb dX8_shipsAtSea_5 (by decide) ?_
            refine lv_icmp_ge (tgt := 31) hx hb dX8_shipsAtSea_6 (by decide) (fun c_15 => ?_) (fun c_15 => absurd (by decide) c_15)
            refine lv_iload_n hx hb dX8_shipsAtSea_31 rfl (lv_at hl 1 rfl) ?_
            exact W.iret (v := 1) hx hb hr (fun t ht hW => ⟨1, rfl, (by have hl := t_1; (repeat' split) <;> omega), ht⟩) (fun q h => by cases h) dX8_shipsAtSea_32
          ·
            have ic_14 : y4stage.toInt = 1 := (g_eq rfl t_1).mp c_14
            clear c_14
            refine lv_iinc (v := 2) (lv' := [(1, .int 2), (2, .int 4), (0, .ref xh)]) hx hb dX8_shipsAtSea_22 hl (k := 1) rfl (by decide) (by decide) rfl (fun ls hl => ?_)
            refine lv_iinc (v := 5) (lv' := [(2, .int 5), (1, .int 2), (0, .ref xh)]) hx hb dX8_shipsAtSea_25 hl (k := 1) rfl (by decide) (by decide) rfl (fun ls hl => ?_)
            refine lv_goto (tgt := 4) hx hb dX8_shipsAtSea_28 (by decide) ?_
            refine lv_iload_n hx hb dX8_shipsAtSea_4 rfl (lv_at hl 0 rfl) ?_
            refine lv_iconst (v := 5) hx hb dX8_shipsAtSea_5 (by decide) ?_
            refine lv_icmp_ge (tgt := 31) hx hb dX8_shipsAtSea_6 (by decide) (fun c_16 => ?_) (fun c_16 => absurd (by decide) c_16)
            refine lv_iload_n hx hb dX8_shipsAtSea_31 rfl (lv_at hl 1 rfl) ?_
            exact W.iret (v := 2) hx hb hr (fun t ht hW => ⟨2, rfl, (by have hl := t_2; (repeat' split) <;> omega), ht⟩) (fun q h => by cases h) dX8_shipsAtSea_32
      ·
        have ic_6 : y2stage.toInt = 1 := (g_eq rfl t_1).mp c_6
        clear c_6
        refine lv_iinc (v := 1) (lv' := [(1, .int 1), (2, .int 2), (0, .ref xh)]) hx hb dX8_shipsAtSea_22 hl (k := 1) rfl (by decide) (by decide) rfl (fun ls hl => ?_)
        refine lv_iinc (v := 3) (lv' := [(2, .int 3), (1, .int 1), (0, .ref xh)]) hx hb dX8_shipsAtSea_25 hl (k := 1) rfl (by decide) (by decide) rfl (fun ls hl => ?_)
        refine lv_goto (tgt := 4) hx hb dX8_shipsAtSea_28 (by decide) ?_
        refine lv_iload_n hx hb dX8_shipsAtSea_4 rfl (lv_at hl 0 rfl) ?_
        refine lv_iconst (v := 5) hx hb dX8_shipsAtSea_5 (by decide) ?_
        refine lv_icmp_ge (tgt := 31) hx hb dX8_shipsAtSea_6 (by decide) (fun c_17 => absurd c_17 (by decide)) (fun c_17 => ?_)
        refine lv_aload_n hx hb dX8_shipsAtSea_9 rfl (lv_at hl 2 rfl) ?_
        refine va_get (D := D) (ci := 8) (v := .ref (xa 4)) (C := RX8) (T := TX8) (N := 14) hx hb htb iX8 hown hK.1 hP 0 rfl rfl 4 (by decide) (htb _ k_276) (fun _ h9 => h9) rfl dX8_shipsAtSea_10 ?_
        refine lv_iload_n hx hb dX8_shipsAtSea_13 rfl (lv_at hl 0 rfl) ?_
        refine va_aldq hx hb hK.1 hP 1 4 rfl rfl (g_in t_3 (by decide) (by decide)) dX8_shipsAtSea_14 ?_
        refine W_top (y := .ref y3h) (congrArg va_rf hq3) ?_
        refine va_getN (D := D) (ci := 5) (v := .int y3stage) (C := RX5) (T := TX5) (N := 11) hx hb htb iX5 hown hK.1 hP 5 rfl rfl 8 (by decide) (va_Nw.use rfl (hK.2.1 (Cond.fieldLinkNest RX8 208 "SeaWatches$Ship" "stage" "I" "SeaWatches") (by decide +kernel))) (fun _ h9 => h9) rfl dX8_shipsAtSea_15 ?_
        refine lv_iconst (v := 1) hx hb dX8_shipsAtSea_18 (by decide) ?_
        refine lv_icmp_ne (tgt := 25) hx hb dX8_shipsAtSea_19 (by decide) (fun c_18 => ?_) (fun c_18 => ?_)
        ·
          have ic_18 : y3stage.toInt ≠ 1 := mt (g_eq rfl t_1).mpr c_18
          clear c_18
          refine lv_iinc (v := 4) (lv' := [(2, .int 4), (1, .int 1), (0, .ref xh)]) hx hb dX8_shipsAtSea_25 hl (k := 0) rfl (by decide) (by decide) rfl (fun ls hl => ?_)
          refine lv_goto (tgt := 4) hx hb dX8_shipsAtSea_28 (by decide) ?_
          refine lv_iload_n hx hb dX8_shipsAtSea_4 rfl (lv_at hl 0 rfl) ?_
          refine lv_iconst (v := 5) hx hb dX8_shipsAtSea_5 (by decide) ?_
          refine lv_icmp_ge (tgt := 31) hx hb dX8_shipsAtSea_6 (by decide) (fun c_19 => absurd c_19 (by decide)) (fun c_19 => ?_)
          refine lv_aload_n hx hb dX8_shipsAtSea_9 rfl (lv_at hl 2 rfl) ?_
          refine va_get (D := D) (ci := 8) (v := .ref (xa 4)) (C := RX8) (T := TX8) (N := 14) hx hb htb iX8 hown hK.1 hP 0 rfl rfl 4 (by decide) (htb _ k_276) (fun _ h9 => h9) rfl dX8_shipsAtSea_10 ?_
          refine lv_iload_n hx hb dX8_shipsAtSea_13 rfl (lv_at hl 0 rfl) ?_
          refine va_aldq hx hb hK.1 hP 1 4 rfl rfl (g_in t_4 (by decide) (by decide)) dX8_shipsAtSea_14 ?_
          refine W_top (y := .ref y4h) (congrArg va_rf hq4) ?_
          refine va_getN (D := D) (ci := 5) (v := .int y4stage) (C := RX5) (T := TX5) (N := 11) hx hb htb iX5 hown hK.1 hP 6 rfl rfl 8 (by decide) (va_Nw.use rfl (hK.2.1 (Cond.fieldLinkNest RX8 208 "SeaWatches$Ship" "stage" "I" "SeaWatches") (by decide +kernel))) (fun _ h9 => h9) rfl dX8_shipsAtSea_15 ?_
          refine lv_iconst (v := 1) hx hb dX8_shipsAtSea_18 (by decide) ?_
          refine lv_icmp_ne (tgt := 25) hx hb dX8_shipsAtSea_19 (by decide) (fun c_20 => ?_) (fun c_20 => ?_)
          ·
            have ic_20 : y4stage.toInt ≠ 1 := mt (g_eq rfl t_1).mpr c_20
            clear c_20
            refine lv_iinc (v := 5) (lv' := [(2, .int 5), (1, .int 1), (0, .ref xh)]) hx hb dX8_shipsAtSea_25 hl (k := 0) rfl (by decide) (by decide) rfl (fun ls hl => ?_)
            refine lv_goto (tgt := 4) hx hb dX8_shipsAtSea_28 (by decide) ?_
            refine lv_iload_n hx hb dX8_shipsAtSea_4 rfl (lv_at hl 0 rfl) ?_
            refine lv_iconst (v := 5) hx hb dX8_shipsAtSea_5 (by decide) ?_
            refine lv_icmp_ge (tgt := 31) hx hb dX8_shipsAtSea_6 (by decide) (fun c_21 => ?_) (fun c_21 => absurd (by decide) c_21)
            refine lv_iload_n hx hb dX8_shipsAtSea_31 rfl (lv_at hl 1 rfl) ?_
            exact W.iret (v := 1) hx hb hr (fun t ht hW => ⟨1, rfl, (by have hl := t_1; (repeat' split) <;> omega), ht⟩) (fun q h => by cases h) dX8_shipsAtSea_32
          ·
            have ic_20 : y4stage.toInt = 1 := (g_eq rfl t_1).mp c_20
            clear c_20
            refine lv_iinc (v := 2) (lv' := [(1, .int 2), (2, .int 4), (0, .ref xh)]) hx hb dX8_shipsAtSea_22 hl (k := 1) rfl (by decide) (by decide) rfl (fun ls hl => ?_)
            refine lv_iinc (v := 5) (lv' := [(2, .int 5), (1, .int 2), (0, .ref xh)]) hx hb dX8_shipsAtSea_25 hl (k := 1) rfl (by decide) (by decide) rfl (fun ls hl => ?_)
            refine lv_goto (tgt := 4) hx hb dX8_shipsAtSea_28 (by decide) ?_
            refine lv_iload_n hx hb dX8_shipsAtSea_4 rfl (lv_at hl 0 rfl) ?_
            refine lv_iconst (v := 5) hx hb dX8_shipsAtSea_5 (by decide) ?_
            refine lv_icmp_ge (tgt := 31) hx hb dX8_shipsAtSea_6 (by decide) (fun c_22 => ?_) (fun c_22 => absurd (by decide) c_22)
            refine lv_iload_n hx hb dX8_shipsAtSea_31 rfl (lv_at hl 1 rfl) ?_
            exact W.iret (v := 2) hx hb hr (fun t ht hW => ⟨2, rfl, (by have hl := t_2; (repeat' split) <;> omega), ht⟩) (fun q h => by cases h) dX8_shipsAtSea_32
        ·
          have ic_18 : y3stage.toInt = 1 := (g_eq rfl t_1).mp c_18
          clear c_18
          refine lv_iinc (v := 2) (lv' := [(1, .int 2), (2, .int 3), (0, .ref xh)]) hx hb dX8_shipsAtSea_22 hl (k := 1) rfl (by decide) (by decide) rfl (fun ls hl => ?_)
          refine lv_iinc (v := 4) (lv' := [(2, .int 4), (1, .int 2), (0, .ref xh)]) hx hb dX8_shipsAtSea_25 hl (k := 1) rfl (by decide) (by decide) rfl (fun ls hl => ?_)
          refine lv_goto (tgt := 4) hx hb dX8_shipsAtSea_28 (by decide) ?_
          refine lv_iload_n hx hb dX8_shipsAtSea_4 rfl (lv_at hl 0 rfl) ?_
          refine lv_iconst (v := 5) hx hb dX8_shipsAtSea_5 (by decide) ?_
          refine lv_icmp_ge (tgt := 31) hx hb dX8_shipsAtSea_6 (by decide) (fun c_23 => absurd c_23 (by decide)) (fun c_23 => ?_)
          refine lv_aload_n hx hb dX8_shipsAtSea_9 rfl (lv_at hl 2 rfl) ?_
          refine va_get (D := D) (ci := 8) (v := .ref (xa 4)) (C := RX8) (T := TX8) (N := 14) hx hb htb iX8 hown hK.1 hP 0 rfl rfl 4 (by decide) (htb _ k_276) (fun _ h9 => h9) rfl dX8_shipsAtSea_10 ?_
          refine lv_iload_n hx hb dX8_shipsAtSea_13 rfl (lv_at hl 0 rfl) ?_
          refine va_aldq hx hb hK.1 hP 1 4 rfl rfl (g_in t_4 (by decide) (by decide)) dX8_shipsAtSea_14 ?_
          refine W_top (y := .ref y4h) (congrArg va_rf hq4) ?_
          refine va_getN (D := D) (ci := 5) (v := .int y4stage) (C := RX5) (T := TX5) (N := 11) hx hb htb iX5 hown hK.1 hP 6 rfl rfl 8 (by decide) (va_Nw.use rfl (hK.2.1 (Cond.fieldLinkNest RX8 208 "SeaWatches$Ship" "stage" "I" "SeaWatches") (by decide +kernel))) (fun _ h9 => h9) rfl dX8_shipsAtSea_15 ?_
          refine lv_iconst (v := 1) hx hb dX8_shipsAtSea_18 (by decide) ?_
          refine lv_icmp_ne (tgt := 25) hx hb dX8_shipsAtSea_19 (by decide) (fun c_24 => ?_) (fun c_24 => ?_)
          ·
            have ic_24 : y4stage.toInt ≠ 1 := mt (g_eq rfl t_1).mpr c_24
            clear c_24
            refine lv_iinc (v := 5) (lv' := [(2, .int 5), (1, .int 2), (0, .ref xh)]) hx hb dX8_shipsAtSea_25 hl (k := 0) rfl (by decide) (by decide) rfl (fun ls hl => ?_)
            refine lv_goto (tgt := 4) hx hb dX8_shipsAtSea_28 (by decide) ?_
            refine lv_iload_n hx hb dX8_shipsAtSea_4 rfl (lv_at hl 0 rfl) ?_
            refine lv_iconst (v := 5) hx hb dX8_shipsAtSea_5 (by decide) ?_
            refine lv_icmp_ge (tgt := 31) hx hb dX8_shipsAtSea_6 (by decide) (fun c_25 => ?_) (fun c_25 => absurd (by decide) c_25)
            refine lv_iload_n hx hb dX8_shipsAtSea_31 rfl (lv_at hl 1 rfl) ?_
            exact W.iret (v := 2) hx hb hr (fun t ht hW => ⟨2, rfl, (by have hl := t_2; (repeat' split) <;> omega), ht⟩) (fun q h => by cases h) dX8_shipsAtSea_32
          ·
            have ic_24 : y4stage.toInt = 1 := (g_eq rfl t_1).mp c_24
            clear c_24
            refine lv_iinc (v := 3) (lv' := [(1, .int 3), (2, .int 4), (0, .ref xh)]) hx hb dX8_shipsAtSea_22 hl (k := 1) rfl (by decide) (by decide) rfl (fun ls hl => ?_)
            refine lv_iinc (v := 5) (lv' := [(2, .int 5), (1, .int 3), (0, .ref xh)]) hx hb dX8_shipsAtSea_25 hl (k := 1) rfl (by decide) (by decide) rfl (fun ls hl => ?_)
            refine lv_goto (tgt := 4) hx hb dX8_shipsAtSea_28 (by decide) ?_
            refine lv_iload_n hx hb dX8_shipsAtSea_4 rfl (lv_at hl 0 rfl) ?_
            refine lv_iconst (v := 5) hx hb dX8_shipsAtSea_5 (by decide) ?_
            refine lv_icmp_ge (tgt := 31) hx hb dX8_shipsAtSea_6 (by decide) (fun c_26 => ?_) (fun c_26 => absurd (by decide) c_26)
            refine lv_iload_n hx hb dX8_shipsAtSea_31 rfl (lv_at hl 1 rfl) ?_
            exact W.iret (v := 3) hx hb hr (fun t ht hW => ⟨3, rfl, (by have hl := t_3; (repeat' split) <;> omega), ht⟩) (fun q h => by cases h) dX8_shipsAtSea_32
    ·
      have ic_4 : y1stage.toInt = 1 := (g_eq rfl t_1).mp c_4
      clear c_4
      refine lv_iinc (v := 1) (lv' := [(1, .int 1), (2, .int 1), (0, .ref xh)]) hx hb dX8_shipsAtSea_22 hl (k := 1) rfl (by decide) (by decide) rfl (fun ls hl => ?_)
      refine lv_iinc (v := 2) (lv' := [(2, .int 2), (1, .int 1), (0, .ref xh)]) hx hb dX8_shipsAtSea_25 hl (k := 1) rfl (by decide) (by decide) rfl (fun ls hl => ?_)
      refine lv_goto (tgt := 4) hx hb dX8_shipsAtSea_28 (by decide) ?_
      refine lv_iload_n hx hb dX8_shipsAtSea_4 rfl (lv_at hl 0 rfl) ?_
      refine lv_iconst (v := 5) hx hb dX8_shipsAtSea_5 (by decide) ?_
      refine lv_icmp_ge (tgt := 31) hx hb dX8_shipsAtSea_6 (by decide) (fun c_27 => absurd c_27 (by decide)) (fun c_27 => ?_)
      refine lv_aload_n hx hb dX8_shipsAtSea_9 rfl (lv_at hl 2 rfl) ?_
      refine va_get (D := D) (ci := 8) (v := .ref (xa 4)) (C := RX8) (T := TX8) (N := 14) hx hb htb iX8 hown hK.1 hP 0 rfl rfl 4 (by decide) (htb _ k_276) (fun _ h9 => h9) rfl dX8_shipsAtSea_10 ?_
      refine lv_iload_n hx hb dX8_shipsAtSea_13 rfl (lv_at hl 0 rfl) ?_
      refine va_aldq hx hb hK.1 hP 1 4 rfl rfl (g_in t_2 (by decide) (by decide)) dX8_shipsAtSea_14 ?_
      refine W_top (y := .ref y2h) (congrArg va_rf hq2) ?_
      refine va_getN (D := D) (ci := 5) (v := .int y2stage) (C := RX5) (T := TX5) (N := 11) hx hb htb iX5 hown hK.1 hP 4 rfl rfl 8 (by decide) (va_Nw.use rfl (hK.2.1 (Cond.fieldLinkNest RX8 208 "SeaWatches$Ship" "stage" "I" "SeaWatches") (by decide +kernel))) (fun _ h9 => h9) rfl dX8_shipsAtSea_15 ?_
      refine lv_iconst (v := 1) hx hb dX8_shipsAtSea_18 (by decide) ?_
      refine lv_icmp_ne (tgt := 25) hx hb dX8_shipsAtSea_19 (by decide) (fun c_28 => ?_) (fun c_28 => ?_)
      ·
        have ic_28 : y2stage.toInt ≠ 1 := mt (g_eq rfl t_1).mpr c_28
        clear c_28
        refine lv_iinc (v := 3) (lv' := [(2, .int 3), (1, .int 1), (0, .ref xh)]) hx hb dX8_shipsAtSea_25 hl (k := 0) rfl (by decide) (by decide) rfl (fun ls hl => ?_)
        refine lv_goto (tgt := 4) hx hb dX8_shipsAtSea_28 (by decide) ?_
        refine lv_iload_n hx hb dX8_shipsAtSea_4 rfl (lv_at hl 0 rfl) ?_
        refine lv_iconst (v := 5) hx hb dX8_shipsAtSea_5 (by decide) ?_
        refine lv_icmp_ge (tgt := 31) hx hb dX8_shipsAtSea_6 (by decide) (fun c_29 => absurd c_29 (by decide)) (fun c_29 => ?_)
        refine lv_aload_n hx hb dX8_shipsAtSea_9 rfl (lv_at hl 2 rfl) ?_
        refine va_get (D := D) (ci := 8) (v := .ref (xa 4)) (C := RX8) (T := TX8) (N := 14) hx hb htb iX8 hown hK.1 hP 0 rfl rfl 4 (by decide) (htb _ k_276) (fun _ h9 => h9) rfl dX8_shipsAtSea_10 ?_
        refine lv_iload_n hx hb dX8_shipsAtSea_13 rfl (lv_at hl 0 rfl) ?_
        refine va_aldq hx hb hK.1 hP 1 4 rfl rfl (g_in t_3 (by decide) (by decide)) dX8_shipsAtSea_14 ?_
        refine W_top (y := .ref y3h) (congrArg va_rf hq3) ?_
        refine va_getN (D := D) (ci := 5) (v := .int y3stage) (C := RX5) (T := TX5) (N := 11) hx hb htb iX5 hown hK.1 hP 5 rfl rfl 8 (by decide) (va_Nw.use rfl (hK.2.1 (Cond.fieldLinkNest RX8 208 "SeaWatches$Ship" "stage" "I" "SeaWatches") (by decide +kernel))) (fun _ h9 => h9) rfl dX8_shipsAtSea_15 ?_
        refine lv_iconst (v := 1) hx hb dX8_shipsAtSea_18 (by decide) ?_
        refine lv_icmp_ne (tgt := 25) hx hb dX8_shipsAtSea_19 (by decide) (fun c_30 => ?_) (fun c_30 => ?_)
        ·
          have ic_30 : y3stage.toInt ≠ 1 := mt (g_eq rfl t_1).mpr c_30
          clear c_30
          refine lv_iinc (v := 4) (lv' := [(2, .int 4), (1, .int 1), (0, .ref xh)]) hx hb dX8_shipsAtSea_25 hl (k := 0) rfl (by decide) (by decide) rfl (fun ls hl => ?_)
          refine lv_goto (tgt := 4) hx hb dX8_shipsAtSea_28 (by decide) ?_
          refine lv_iload_n hx hb dX8_shipsAtSea_4 rfl (lv_at hl 0 rfl) ?_
          refine lv_iconst (v := 5) hx hb dX8_shipsAtSea_5 (by decide) ?_
          refine lv_icmp_ge (tgt := 31) hx hb dX8_shipsAtSea_6 (by decide) (fun c_31 => absurd c_31 (by decide)) (fun c_31 => ?_)
          refine lv_aload_n hx hb dX8_shipsAtSea_9 rfl (lv_at hl 2 rfl) ?_
          refine va_get (D := D) (ci := 8) (v := .ref (xa 4)) (C := RX8) (T := TX8) (N := 14) hx hb htb iX8 hown hK.1 hP 0 rfl rfl 4 (by decide) (htb _ k_276) (fun _ h9 => h9) rfl dX8_shipsAtSea_10 ?_
          refine lv_iload_n hx hb dX8_shipsAtSea_13 rfl (lv_at hl 0 rfl) ?_
          refine va_aldq hx hb hK.1 hP 1 4 rfl rfl (g_in t_4 (by decide) (by decide)) dX8_shipsAtSea_14 ?_
          refine W_top (y := .ref y4h) (congrArg va_rf hq4) ?_
          refine va_getN (D := D) (ci := 5) (v := .int y4stage) (C := RX5) (T := TX5) (N := 11) hx hb htb iX5 hown hK.1 hP 6 rfl rfl 8 (by decide) (va_Nw.use rfl (hK.2.1 (Cond.fieldLinkNest RX8 208 "SeaWatches$Ship" "stage" "I" "SeaWatches") (by decide +kernel))) (fun _ h9 => h9) rfl dX8_shipsAtSea_15 ?_
          refine lv_iconst (v := 1) hx hb dX8_shipsAtSea_18 (by decide) ?_
          refine lv_icmp_ne (tgt := 25) hx hb dX8_shipsAtSea_19 (by decide) (fun c_32 => ?_) (fun c_32 => ?_)
          ·
            have ic_32 : y4stage.toInt ≠ 1 := mt (g_eq rfl t_1).mpr c_32
            clear c_32
            refine lv_iinc (v := 5) (lv' := [(2, .int 5), (1, .int 1), (0, .ref xh)]) hx hb dX8_shipsAtSea_25 hl (k := 0) rfl (by decide) (by decide) rfl (fun ls hl => ?_)
            refine lv_goto (tgt := 4) hx hb dX8_shipsAtSea_28 (by decide) ?_
            refine lv_iload_n hx hb dX8_shipsAtSea_4 rfl (lv_at hl 0 rfl) ?_
            refine lv_iconst (v := 5) hx hb dX8_shipsAtSea_5 (by decide) ?_
            refine lv_icmp_ge (tgt := 31) hx hb dX8_shipsAtSea_6 (by decide) (fun c_33 => ?_) (fun c_33 => absurd (by decide) c_33)
            refine lv_iload_n hx hb dX8_shipsAtSea_31 rfl (lv_at hl 1 rfl) ?_
            exact W.iret (v := 1) hx hb hr (fun t ht hW => ⟨1, rfl, (by have hl := t_1; (repeat' split) <;> omega), ht⟩) (fun q h => by cases h) dX8_shipsAtSea_32
          ·
            have ic_32 : y4stage.toInt = 1 := (g_eq rfl t_1).mp c_32
            clear c_32
            refine lv_iinc (v := 2) (lv' := [(1, .int 2), (2, .int 4), (0, .ref xh)]) hx hb dX8_shipsAtSea_22 hl (k := 1) rfl (by decide) (by decide) rfl (fun ls hl => ?_)
            refine lv_iinc (v := 5) (lv' := [(2, .int 5), (1, .int 2), (0, .ref xh)]) hx hb dX8_shipsAtSea_25 hl (k := 1) rfl (by decide) (by decide) rfl (fun ls hl => ?_)
            refine lv_goto (tgt := 4) hx hb dX8_shipsAtSea_28 (by decide) ?_
            refine lv_iload_n hx hb dX8_shipsAtSea_4 rfl (lv_at hl 0 rfl) ?_
            refine lv_iconst (v := 5) hx hb dX8_shipsAtSea_5 (by decide) ?_
            refine lv_icmp_ge (tgt := 31) hx hb dX8_shipsAtSea_6 (by decide) (fun c_34 => ?_) (fun c_34 => absurd (by decide) c_34)
            refine lv_iload_n hx hb dX8_shipsAtSea_31 rfl (lv_at hl 1 rfl) ?_
            exact W.iret (v := 2) hx hb hr (fun t ht hW => ⟨2, rfl, (by have hl := t_2; (repeat' split) <;> omega), ht⟩) (fun q h => by cases h) dX8_shipsAtSea_32
        ·
          have ic_30 : y3stage.toInt = 1 := (g_eq rfl t_1).mp c_30
          clear c_30
          refine lv_iinc (v := 2) (lv' := [(1, .int 2), (2, .int 3), (0, .ref xh)]) hx hb dX8_shipsAtSea_22 hl (k := 1) rfl (by decide) (by decide) rfl (fun ls hl => ?_)
          refine lv_iinc (v := 4) (lv' := [(2, .int 4), (1, .int 2), (0, .ref xh)]) hx hb dX8_shipsAtSea_25 hl (k := 1) rfl (by decide) (by decide) rfl (fun ls hl => ?_)
          refine lv_goto (tgt := 4) hx hb dX8_shipsAtSea_28 (by decide) ?_
          refine lv_iload_n hx hb dX8_shipsAtSea_4 rfl (lv_at hl 0 rfl) ?_
          refine lv_iconst (v := 5) hx hb dX8_shipsAtSea_5 (by decide) ?_
          refine lv_icmp_ge (tgt := 31) hx hb dX8_shipsAtSea_6 (by decide) (fun c_35 => absurd c_35 (by decide)) (fun c_35 => ?_)
          refine lv_aload_n hx hb dX8_shipsAtSea_9 rfl (lv_at hl 2 rfl) ?_
          refine va_get (D := D) (ci := 8) (v := .ref (xa 4)) (C := RX8) (T := TX8) (N := 14) hx hb htb iX8 hown hK.1 hP 0 rfl rfl 4 (by decide) (htb _ k_276) (fun _ h9 => h9) rfl dX8_shipsAtSea_10 ?_
          refine lv_iload_n hx hb dX8_shipsAtSea_13 rfl (lv_at hl 0 rfl) ?_
          refine va_aldq hx hb hK.1 hP 1 4 rfl rfl (g_in t_4 (by decide) (by decide)) dX8_shipsAtSea_14 ?_
          refine W_top (y := .ref y4h) (congrArg va_rf hq4) ?_
          refine va_getN (D := D) (ci := 5) (v := .int y4stage) (C := RX5) (T := TX5) (N := 11) hx hb htb iX5 hown hK.1 hP 6 rfl rfl 8 (by decide) (va_Nw.use rfl (hK.2.1 (Cond.fieldLinkNest RX8 208 "SeaWatches$Ship" "stage" "I" "SeaWatches") (by decide +kernel))) (fun _ h9 => h9) rfl dX8_shipsAtSea_15 ?_
          refine lv_iconst (v := 1) hx hb dX8_shipsAtSea_18 (by decide) ?_
          refine lv_icmp_ne (tgt := 25) hx hb dX8_shipsAtSea_19 (by decide) (fun c_36 => ?_) (fun c_36 => ?_)
          ·
            have ic_36 : y4stage.toInt ≠ 1 := mt (g_eq rfl t_1).mpr c_36
            clear c_36
            refine lv_iinc (v := 5) (lv' := [(2, .int 5), (1, .int 2), (0, .ref xh)]) hx hb dX8_shipsAtSea_25 hl (k := 0) rfl (by decide) (by decide) rfl (fun ls hl => ?_)
            refine lv_goto (tgt := 4) hx hb dX8_shipsAtSea_28 (by decide) ?_
            refine lv_iload_n hx hb dX8_shipsAtSea_4 rfl (lv_at hl 0 rfl) ?_
            refine lv_iconst (v := 5) hx hb dX8_shipsAtSea_5 (by decide) ?_
            refine lv_icmp_ge (tgt := 31) hx hb dX8_shipsAtSea_6 (by decide) (fun c_37 => ?_) (fun c_37 => absurd (by decide) c_37)
            refine lv_iload_n hx hb dX8_shipsAtSea_31 rfl (lv_at hl 1 rfl) ?_
            exact W.iret (v := 2) hx hb hr (fun t ht hW => ⟨2, rfl, (by have hl := t_2; (repeat' split) <;> omega), ht⟩) (fun q h => by cases h) dX8_shipsAtSea_32
          ·
            have ic_36 : y4stage.toInt = 1 := (g_eq rfl t_1).mp c_36
            clear c_36
            refine lv_iinc (v := 3) (lv' := [(1, .int 3), (2, .int 4), (0, .ref xh)]) hx hb dX8_shipsAtSea_22 hl (k := 1) rfl (by decide) (by decide) rfl (fun ls hl => ?_)
            refine lv_iinc (v := 5) (lv' := [(2, .int 5), (1, .int 3), (0, .ref xh)]) hx hb dX8_shipsAtSea_25 hl (k := 1) rfl (by decide) (by decide) rfl (fun ls hl => ?_)
            refine lv_goto (tgt := 4) hx hb dX8_shipsAtSea_28 (by decide) ?_
            refine lv_iload_n hx hb dX8_shipsAtSea_4 rfl (lv_at hl 0 rfl) ?_
            refine lv_iconst (v := 5) hx hb dX8_shipsAtSea_5 (by decide) ?_
            refine lv_icmp_ge (tgt := 31) hx hb dX8_shipsAtSea_6 (by decide) (fun c_38 => ?_) (fun c_38 => absurd (by decide) c_38)
            refine lv_iload_n hx hb dX8_shipsAtSea_31 rfl (lv_at hl 1 rfl) ?_
            exact W.iret (v := 3) hx hb hr (fun t ht hW => ⟨3, rfl, (by have hl := t_3; (repeat' split) <;> omega), ht⟩) (fun q h => by cases h) dX8_shipsAtSea_32
      ·
        have ic_28 : y2stage.toInt = 1 := (g_eq rfl t_1).mp c_28
        clear c_28
        refine lv_iinc (v := 2) (lv' := [(1, .int 2), (2, .int 2), (0, .ref xh)]) hx hb dX8_shipsAtSea_22 hl (k := 1) rfl (by decide) (by decide) rfl (fun ls hl => ?_)
        refine lv_iinc (v := 3) (lv' := [(2, .int 3), (1, .int 2), (0, .ref xh)]) hx hb dX8_shipsAtSea_25 hl (k := 1) rfl (by decide) (by decide) rfl (fun ls hl => ?_)
        refine lv_goto (tgt := 4) hx hb dX8_shipsAtSea_28 (by decide) ?_
        refine lv_iload_n hx hb dX8_shipsAtSea_4 rfl (lv_at hl 0 rfl) ?_
        refine lv_iconst (v := 5) hx hb dX8_shipsAtSea_5 (by decide) ?_
        refine lv_icmp_ge (tgt := 31) hx hb dX8_shipsAtSea_6 (by decide) (fun c_39 => absurd c_39 (by decide)) (fun c_39 => ?_)
        refine lv_aload_n hx hb dX8_shipsAtSea_9 rfl (lv_at hl 2 rfl) ?_
        refine va_get (D := D) (ci := 8) (v := .ref (xa 4)) (C := RX8) (T := TX8) (N := 14) hx hb htb iX8 hown hK.1 hP 0 rfl rfl 4 (by decide) (htb _ k_276) (fun _ h9 => h9) rfl dX8_shipsAtSea_10 ?_
        refine lv_iload_n hx hb dX8_shipsAtSea_13 rfl (lv_at hl 0 rfl) ?_
        refine va_aldq hx hb hK.1 hP 1 4 rfl rfl (g_in t_3 (by decide) (by decide)) dX8_shipsAtSea_14 ?_
        refine W_top (y := .ref y3h) (congrArg va_rf hq3) ?_
        refine va_getN (D := D) (ci := 5) (v := .int y3stage) (C := RX5) (T := TX5) (N := 11) hx hb htb iX5 hown hK.1 hP 5 rfl rfl 8 (by decide) (va_Nw.use rfl (hK.2.1 (Cond.fieldLinkNest RX8 208 "SeaWatches$Ship" "stage" "I" "SeaWatches") (by decide +kernel))) (fun _ h9 => h9) rfl dX8_shipsAtSea_15 ?_
        refine lv_iconst (v := 1) hx hb dX8_shipsAtSea_18 (by decide) ?_
        refine lv_icmp_ne (tgt := 25) hx hb dX8_shipsAtSea_19 (by decide) (fun c_40 => ?_) (fun c_40 => ?_)
        ·
          have ic_40 : y3stage.toInt ≠ 1 := mt (g_eq rfl t_1).mpr c_40
          clear c_40
          refine lv_iinc (v := 4) (lv' := [(2, .int 4), (1, .int 2), (0, .ref xh)]) hx hb dX8_shipsAtSea_25 hl (k := 0) rfl (by decide) (by decide) rfl (fun ls hl => ?_)
          refine lv_goto (tgt := 4) hx hb dX8_shipsAtSea_28 (by decide) ?_
          refine lv_iload_n hx hb dX8_shipsAtSea_4 rfl (lv_at hl 0 rfl) ?_
          refine lv_iconst (v := 5) hx hb dX8_shipsAtSea_5 (by decide) ?_
          refine lv_icmp_ge (tgt := 31) hx hb dX8_shipsAtSea_6 (by decide) (fun c_41 => absurd c_41 (by decide)) (fun c_41 => ?_)
          refine lv_aload_n hx hb dX8_shipsAtSea_9 rfl (lv_at hl 2 rfl) ?_
          refine va_get (D := D) (ci := 8) (v := .ref (xa 4)) (C := RX8) (T := TX8) (N := 14) hx hb htb iX8 hown hK.1 hP 0 rfl rfl 4 (by decide) (htb _ k_276) (fun _ h9 => h9) rfl dX8_shipsAtSea_10 ?_
          refine lv_iload_n hx hb dX8_shipsAtSea_13 rfl (lv_at hl 0 rfl) ?_
          refine va_aldq hx hb hK.1 hP 1 4 rfl rfl (g_in t_4 (by decide) (by decide)) dX8_shipsAtSea_14 ?_
          refine W_top (y := .ref y4h) (congrArg va_rf hq4) ?_
          refine va_getN (D := D) (ci := 5) (v := .int y4stage) (C := RX5) (T := TX5) (N := 11) hx hb htb iX5 hown hK.1 hP 6 rfl rfl 8 (by decide) (va_Nw.use rfl (hK.2.1 (Cond.fieldLinkNest RX8 208 "SeaWatches$Ship" "stage" "I" "SeaWatches") (by decide +kernel))) (fun _ h9 => h9) rfl dX8_shipsAtSea_15 ?_
          refine lv_iconst (v := 1) hx hb dX8_shipsAtSea_18 (by decide) ?_
          refine lv_icmp_ne (tgt := 25) hx hb dX8_shipsAtSea_19 (by decide) (fun c_42 => ?_) (fun c_42 => ?_)
          ·
            have ic_42 : y4stage.toInt ≠ 1 := mt (g_eq rfl t_1).mpr c_42
            clear c_42
            refine lv_iinc (v := 5) (lv' := [(2, .int 5), (1, .int 2), (0, .ref xh)]) hx hb dX8_shipsAtSea_25 hl (k := 0) rfl (by decide) (by decide) rfl (fun ls hl => ?_)
            refine lv_goto (tgt := 4) hx hb dX8_shipsAtSea_28 (by decide) ?_
            refine lv_iload_n hx hb dX8_shipsAtSea_4 rfl (lv_at hl 0 rfl) ?_
            refine lv_iconst (v := 5) hx hb dX8_shipsAtSea_5 (by decide) ?_
            refine lv_icmp_ge (tgt := 31) hx hb dX8_shipsAtSea_6 (by decide) (fun c_43 => ?_) (fun c_43 => absurd (by decide) c_43)
            refine lv_iload_n hx hb dX8_shipsAtSea_31 rfl (lv_at hl 1 rfl) ?_
            exact W.iret (v := 2) hx hb hr (fun t ht hW => ⟨2, rfl, (by have hl := t_2; (repeat' split) <;> omega), ht⟩) (fun q h => by cases h) dX8_shipsAtSea_32
          ·
            have ic_42 : y4stage.toInt = 1 := (g_eq rfl t_1).mp c_42
            clear c_42
            refine lv_iinc (v := 3) (lv' := [(1, .int 3), (2, .int 4), (0, .ref xh)]) hx hb dX8_shipsAtSea_22 hl (k := 1) rfl (by decide) (by decide) rfl (fun ls hl => ?_)
            refine lv_iinc (v := 5) (lv' := [(2, .int 5), (1, .int 3), (0, .ref xh)]) hx hb dX8_shipsAtSea_25 hl (k := 1) rfl (by decide) (by decide) rfl (fun ls hl => ?_)
            refine lv_goto (tgt := 4) hx hb dX8_shipsAtSea_28 (by decide) ?_
            refine lv_iload_n hx hb dX8_shipsAtSea_4 rfl (lv_at hl 0 rfl) ?_
            refine lv_iconst (v := 5) hx hb dX8_shipsAtSea_5 (by decide) ?_
            refine lv_icmp_ge (tgt := 31) hx hb dX8_shipsAtSea_6 (by decide) (fun c_44 => ?_) (fun c_44 => absurd (by decide) c_44)
            refine lv_iload_n hx hb dX8_shipsAtSea_31 rfl (lv_at hl 1 rfl) ?_
            exact W.iret (v := 3) hx hb hr (fun t ht hW => ⟨3, rfl, (by have hl := t_3; (repeat' split) <;> omega), ht⟩) (fun q h => by cases h) dX8_shipsAtSea_32
        ·
          have ic_40 : y3stage.toInt = 1 := (g_eq rfl t_1).mp c_40
          clear c_40
          refine lv_iinc (v := 3) (lv' := [(1, .int 3), (2, .int 3), (0, .ref xh)]) hx hb dX8_shipsAtSea_22 hl (k := 1) rfl (by decide) (by decide) rfl (fun ls hl => ?_)
          refine lv_iinc (v := 4) (lv' := [(2, .int 4), (1, .int 3), (0, .ref xh)]) hx hb dX8_shipsAtSea_25 hl (k := 1) rfl (by decide) (by decide) rfl (fun ls hl => ?_)
          refine lv_goto (tgt := 4) hx hb dX8_shipsAtSea_28 (by decide) ?_
          refine lv_iload_n hx hb dX8_shipsAtSea_4 rfl (lv_at hl 0 rfl) ?_
          refine lv_iconst (v := 5) hx hb dX8_shipsAtSea_5 (by decide) ?_
          refine lv_icmp_ge (tgt := 31) hx hb dX8_shipsAtSea_6 (by decide) (fun c_45 => absurd c_45 (by decide)) (fun c_45 => ?_)
          refine lv_aload_n hx hb dX8_shipsAtSea_9 rfl (lv_at hl 2 rfl) ?_
          refine va_get (D := D) (ci := 8) (v := .ref (xa 4)) (C := RX8) (T := TX8) (N := 14) hx hb htb iX8 hown hK.1 hP 0 rfl rfl 4 (by decide) (htb _ k_276) (fun _ h9 => h9) rfl dX8_shipsAtSea_10 ?_
          refine lv_iload_n hx hb dX8_shipsAtSea_13 rfl (lv_at hl 0 rfl) ?_
          refine va_aldq hx hb hK.1 hP 1 4 rfl rfl (g_in t_4 (by decide) (by decide)) dX8_shipsAtSea_14 ?_
          refine W_top (y := .ref y4h) (congrArg va_rf hq4) ?_
          refine va_getN (D := D) (ci := 5) (v := .int y4stage) (C := RX5) (T := TX5) (N := 11) hx hb htb iX5 hown hK.1 hP 6 rfl rfl 8 (by decide) (va_Nw.use rfl (hK.2.1 (Cond.fieldLinkNest RX8 208 "SeaWatches$Ship" "stage" "I" "SeaWatches") (by decide +kernel))) (fun _ h9 => h9) rfl dX8_shipsAtSea_15 ?_
          refine lv_iconst (v := 1) hx hb dX8_shipsAtSea_18 (by decide) ?_
          refine lv_icmp_ne (tgt := 25) hx hb dX8_shipsAtSea_19 (by decide) (fun c_46 => ?_) (fun c_46 => ?_)
          ·
            have ic_46 : y4stage.toInt ≠ 1 := mt (g_eq rfl t_1).mpr c_46
            clear c_46
            refine lv_iinc (v := 5) (lv' := [(2, .int 5), (1, .int 3), (0, .ref xh)]) hx hb dX8_shipsAtSea_25 hl (k := 0) rfl (by decide) (by decide) rfl (fun ls hl => ?_)
            refine lv_goto (tgt := 4) hx hb dX8_shipsAtSea_28 (by decide) ?_
            refine lv_iload_n hx hb dX8_shipsAtSea_4 rfl (lv_at hl 0 rfl) ?_
            refine lv_iconst (v := 5) hx hb dX8_shipsAtSea_5 (by decide) ?_
            refine lv_icmp_ge (tgt := 31) hx hb dX8_shipsAtSea_6 (by decide) (fun c_47 => ?_) (fun c_47 => absurd (by decide) c_47)
            refine lv_iload_n hx hb dX8_shipsAtSea_31 rfl (lv_at hl 1 rfl) ?_
            exact W.iret (v := 3) hx hb hr (fun t ht hW => ⟨3, rfl, (by have hl := t_3; (repeat' split) <;> omega), ht⟩) (fun q h => by cases h) dX8_shipsAtSea_32
          ·
            have ic_46 : y4stage.toInt = 1 := (g_eq rfl t_1).mp c_46
            clear c_46
            refine lv_iinc (v := 4) (lv' := [(1, .int 4), (2, .int 4), (0, .ref xh)]) hx hb dX8_shipsAtSea_22 hl (k := 1) rfl (by decide) (by decide) rfl (fun ls hl => ?_)
            refine lv_iinc (v := 5) (lv' := [(2, .int 5), (1, .int 4), (0, .ref xh)]) hx hb dX8_shipsAtSea_25 hl (k := 1) rfl (by decide) (by decide) rfl (fun ls hl => ?_)
            refine lv_goto (tgt := 4) hx hb dX8_shipsAtSea_28 (by decide) ?_
            refine lv_iload_n hx hb dX8_shipsAtSea_4 rfl (lv_at hl 0 rfl) ?_
            refine lv_iconst (v := 5) hx hb dX8_shipsAtSea_5 (by decide) ?_
            refine lv_icmp_ge (tgt := 31) hx hb dX8_shipsAtSea_6 (by decide) (fun c_48 => ?_) (fun c_48 => absurd (by decide) c_48)
            refine lv_iload_n hx hb dX8_shipsAtSea_31 rfl (lv_at hl 1 rfl) ?_
            exact W.iret (v := 4) hx hb hr (fun t ht hW => ⟨4, rfl, (by have hl := t_4; (repeat' split) <;> omega), ht⟩) (fun q h => by cases h) dX8_shipsAtSea_32
  ·
    have ic_2 : y0stage.toInt = 1 := (g_eq rfl t_1).mp c_2
    clear c_2
    refine lv_iinc (v := 1) (lv' := [(1, .int 1), (2, .int 0), (0, .ref xh)]) hx hb dX8_shipsAtSea_22 hl (k := 1) rfl (by decide) (by decide) rfl (fun ls hl => ?_)
    refine lv_iinc (v := 1) (lv' := [(2, .int 1), (1, .int 1), (0, .ref xh)]) hx hb dX8_shipsAtSea_25 hl (k := 1) rfl (by decide) (by decide) rfl (fun ls hl => ?_)
    refine lv_goto (tgt := 4) hx hb dX8_shipsAtSea_28 (by decide) ?_
    refine lv_iload_n hx hb dX8_shipsAtSea_4 rfl (lv_at hl 0 rfl) ?_
    refine lv_iconst (v := 5) hx hb dX8_shipsAtSea_5 (by decide) ?_
    refine lv_icmp_ge (tgt := 31) hx hb dX8_shipsAtSea_6 (by decide) (fun c_49 => absurd c_49 (by decide)) (fun c_49 => ?_)
    refine lv_aload_n hx hb dX8_shipsAtSea_9 rfl (lv_at hl 2 rfl) ?_
    refine va_get (D := D) (ci := 8) (v := .ref (xa 4)) (C := RX8) (T := TX8) (N := 14) hx hb htb iX8 hown hK.1 hP 0 rfl rfl 4 (by decide) (htb _ k_276) (fun _ h9 => h9) rfl dX8_shipsAtSea_10 ?_
    refine lv_iload_n hx hb dX8_shipsAtSea_13 rfl (lv_at hl 0 rfl) ?_
    refine va_aldq hx hb hK.1 hP 1 4 rfl rfl (g_in t_1 (by decide) (by decide)) dX8_shipsAtSea_14 ?_
    refine W_top (y := .ref y1h) (congrArg va_rf hq1) ?_
    refine va_getN (D := D) (ci := 5) (v := .int y1stage) (C := RX5) (T := TX5) (N := 11) hx hb htb iX5 hown hK.1 hP 3 rfl rfl 8 (by decide) (va_Nw.use rfl (hK.2.1 (Cond.fieldLinkNest RX8 208 "SeaWatches$Ship" "stage" "I" "SeaWatches") (by decide +kernel))) (fun _ h9 => h9) rfl dX8_shipsAtSea_15 ?_
    refine lv_iconst (v := 1) hx hb dX8_shipsAtSea_18 (by decide) ?_
    refine lv_icmp_ne (tgt := 25) hx hb dX8_shipsAtSea_19 (by decide) (fun c_50 => ?_) (fun c_50 => ?_)
    ·
      have ic_50 : y1stage.toInt ≠ 1 := mt (g_eq rfl t_1).mpr c_50
      clear c_50
      refine lv_iinc (v := 2) (lv' := [(2, .int 2), (1, .int 1), (0, .ref xh)]) hx hb dX8_shipsAtSea_25 hl (k := 0) rfl (by decide) (by decide) rfl (fun ls hl => ?_)
      refine lv_goto (tgt := 4) hx hb dX8_shipsAtSea_28 (by decide) ?_
      refine lv_iload_n hx hb dX8_shipsAtSea_4 rfl (lv_at hl 0 rfl) ?_
      refine lv_iconst (v := 5) hx hb dX8_shipsAtSea_5 (by decide) ?_
      refine lv_icmp_ge (tgt := 31) hx hb dX8_shipsAtSea_6 (by decide) (fun c_51 => absurd c_51 (by decide)) (fun c_51 => ?_)
      refine lv_aload_n hx hb dX8_shipsAtSea_9 rfl (lv_at hl 2 rfl) ?_
      refine va_get (D := D) (ci := 8) (v := .ref (xa 4)) (C := RX8) (T := TX8) (N := 14) hx hb htb iX8 hown hK.1 hP 0 rfl rfl 4 (by decide) (htb _ k_276) (fun _ h9 => h9) rfl dX8_shipsAtSea_10 ?_
      refine lv_iload_n hx hb dX8_shipsAtSea_13 rfl (lv_at hl 0 rfl) ?_
      refine va_aldq hx hb hK.1 hP 1 4 rfl rfl (g_in t_2 (by decide) (by decide)) dX8_shipsAtSea_14 ?_
      refine W_top (y := .ref y2h) (congrArg va_rf hq2) ?_
      refine va_getN (D := D) (ci := 5) (v := .int y2stage) (C := RX5) (T := TX5) (N := 11) hx hb htb iX5 hown hK.1 hP 4 rfl rfl 8 (by decide) (va_Nw.use rfl (hK.2.1 (Cond.fieldLinkNest RX8 208 "SeaWatches$Ship" "stage" "I" "SeaWatches") (by decide +kernel))) (fun _ h9 => h9) rfl dX8_shipsAtSea_15 ?_
      refine lv_iconst (v := 1) hx hb dX8_shipsAtSea_18 (by decide) ?_
      refine lv_icmp_ne (tgt := 25) hx hb dX8_shipsAtSea_19 (by decide) (fun c_52 => ?_) (fun c_52 => ?_)
      ·
        have ic_52 : y2stage.toInt ≠ 1 := mt (g_eq rfl t_1).mpr c_52
        clear c_52
        refine lv_iinc (v := 3) (lv' := [(2, .int 3), (1, .int 1), (0, .ref xh)]) hx hb dX8_shipsAtSea_25 hl (k := 0) rfl (by decide) (by decide) rfl (fun ls hl => ?_)
        refine lv_goto (tgt := 4) hx hb dX8_shipsAtSea_28 (by decide) ?_
        refine lv_iload_n hx hb dX8_shipsAtSea_4 rfl (lv_at hl 0 rfl) ?_
        refine lv_iconst (v := 5) hx hb dX8_shipsAtSea_5 (by decide) ?_
        refine lv_icmp_ge (tgt := 31) hx hb dX8_shipsAtSea_6 (by decide) (fun c_53 => absurd c_53 (by decide)) (fun c_53 => ?_)
        refine lv_aload_n hx hb dX8_shipsAtSea_9 rfl (lv_at hl 2 rfl) ?_
        refine va_get (D := D) (ci := 8) (v := .ref (xa 4)) (C := RX8) (T := TX8) (N := 14) hx hb htb iX8 hown hK.1 hP 0 rfl rfl 4 (by decide) (htb _ k_276) (fun _ h9 => h9) rfl dX8_shipsAtSea_10 ?_
        refine lv_iload_n hx hb dX8_shipsAtSea_13 rfl (lv_at hl 0 rfl) ?_
        refine va_aldq hx hb hK.1 hP 1 4 rfl rfl (g_in t_3 (by decide) (by decide)) dX8_shipsAtSea_14 ?_
        refine W_top (y := .ref y3h) (congrArg va_rf hq3) ?_
        refine va_getN (D := D) (ci := 5) (v := .int y3stage) (C := RX5) (T := TX5) (N := 11) hx hb htb iX5 hown hK.1 hP 5 rfl rfl 8 (by decide) (va_Nw.use rfl (hK.2.1 (Cond.fieldLinkNest RX8 208 "SeaWatches$Ship" "stage" "I" "SeaWatches") (by decide +kernel))) (fun _ h9 => h9) rfl dX8_shipsAtSea_15 ?_
        refine lv_iconst (v := 1) hx hb dX8_shipsAtSea_18 (by decide) ?_
        refine lv_icmp_ne (tgt := 25) hx hb dX8_shipsAtSea_19 (by decide) (fun c_54 => ?_) (fun c_54 => ?_)
        ·
          have ic_54 : y3stage.toInt ≠ 1 := mt (g_eq rfl t_1).mpr c_54
          clear c_54
          refine lv_iinc (v := 4) (lv' := [(2, .int 4), (1, .int 1), (0, .ref xh)]) hx hb dX8_shipsAtSea_25 hl (k := 0) rfl (by decide) (by decide) rfl (fun ls hl => ?_)
          refine lv_goto (tgt := 4) hx hb dX8_shipsAtSea_28 (by decide) ?_
          refine lv_iload_n hx hb dX8_shipsAtSea_4 rfl (lv_at hl 0 rfl) ?_
          refine lv_iconst (v := 5) hx hb dX8_shipsAtSea_5 (by decide) ?_
          refine lv_icmp_ge (tgt := 31) hx hb dX8_shipsAtSea_6 (by decide) (fun c_55 => absurd c_55 (by decide)) (fun c_55 => ?_)
          refine lv_aload_n hx hb dX8_shipsAtSea_9 rfl (lv_at hl 2 rfl) ?_
          refine va_get (D := D) (ci := 8) (v := .ref (xa 4)) (C := RX8) (T := TX8) (N := 14) hx hb htb iX8 hown hK.1 hP 0 rfl rfl 4 (by decide) (htb _ k_276) (fun _ h9 => h9) rfl dX8_shipsAtSea_10 ?_
          refine lv_iload_n hx hb dX8_shipsAtSea_13 rfl (lv_at hl 0 rfl) ?_
          refine va_aldq hx hb hK.1 hP 1 4 rfl rfl (g_in t_4 (by decide) (by decide)) dX8_shipsAtSea_14 ?_
          refine W_top (y := .ref y4h) (congrArg va_rf hq4) ?_
          refine va_getN (D := D) (ci := 5) (v := .int y4stage) (C := RX5) (T := TX5) (N := 11) hx hb htb iX5 hown hK.1 hP 6 rfl rfl 8 (by decide) (va_Nw.use rfl (hK.2.1 (Cond.fieldLinkNest RX8 208 "SeaWatches$Ship" "stage" "I" "SeaWatches") (by decide +kernel))) (fun _ h9 => h9) rfl dX8_shipsAtSea_15 ?_
          refine lv_iconst (v := 1) hx hb dX8_shipsAtSea_18 (by decide) ?_
          refine lv_icmp_ne (tgt := 25) hx hb dX8_shipsAtSea_19 (by decide) (fun c_56 => ?_) (fun c_56 => ?_)
          ·
            have ic_56 : y4stage.toInt ≠ 1 := mt (g_eq rfl t_1).mpr c_56
            clear c_56
            refine lv_iinc (v := 5) (lv' := [(2, .int 5), (1, .int 1), (0, .ref xh)]) hx hb dX8_shipsAtSea_25 hl (k := 0) rfl (by decide) (by decide) rfl (fun ls hl => ?_)
            refine lv_goto (tgt := 4) hx hb dX8_shipsAtSea_28 (by decide) ?_
            refine lv_iload_n hx hb dX8_shipsAtSea_4 rfl (lv_at hl 0 rfl) ?_
            refine lv_iconst (v := 5) hx hb dX8_shipsAtSea_5 (by decide) ?_
            refine lv_icmp_ge (tgt := 31) hx hb dX8_shipsAtSea_6 (by decide) (fun c_57 => ?_) (fun c_57 => absurd (by decide) c_57)
            refine lv_iload_n hx hb dX8_shipsAtSea_31 rfl (lv_at hl 1 rfl) ?_
            exact W.iret (v := 1) hx hb hr (fun t ht hW => ⟨1, rfl, (by have hl := t_1; (repeat' split) <;> omega), ht⟩) (fun q h => by cases h) dX8_shipsAtSea_32
          ·
            have ic_56 : y4stage.toInt = 1 := (g_eq rfl t_1).mp c_56
            clear c_56
            refine lv_iinc (v := 2) (lv' := [(1, .int 2), (2, .int 4), (0, .ref xh)]) hx hb dX8_shipsAtSea_22 hl (k := 1) rfl (by decide) (by decide) rfl (fun ls hl => ?_)
            refine lv_iinc (v := 5) (lv' := [(2, .int 5), (1, .int 2), (0, .ref xh)]) hx hb dX8_shipsAtSea_25 hl (k := 1) rfl (by decide) (by decide) rfl (fun ls hl => ?_)
            refine lv_goto (tgt := 4) hx hb dX8_shipsAtSea_28 (by decide) ?_
            refine lv_iload_n hx hb dX8_shipsAtSea_4 rfl (lv_at hl 0 rfl) ?_
            refine lv_iconst (v := 5) hx hb dX8_shipsAtSea_5 (by decide) ?_
            refine lv_icmp_ge (tgt := 31) hx hb dX8_shipsAtSea_6 (by decide) (fun c_58 => ?_) (fun c_58 => absurd (by decide) c_58)
            refine lv_iload_n hx hb dX8_shipsAtSea_31 rfl (lv_at hl 1 rfl) ?_
            exact W.iret (v := 2) hx hb hr (fun t ht hW => ⟨2, rfl, (by have hl := t_2; (repeat' split) <;> omega), ht⟩) (fun q h => by cases h) dX8_shipsAtSea_32
        ·
          have ic_54 : y3stage.toInt = 1 := (g_eq rfl t_1).mp c_54
          clear c_54
          refine lv_iinc (v := 2) (lv' := [(1, .int 2), (2, .int 3), (0, .ref xh)]) hx hb dX8_shipsAtSea_22 hl (k := 1) rfl (by decide) (by decide) rfl (fun ls hl => ?_)
          refine lv_iinc (v := 4) (lv' := [(2, .int 4), (1, .int 2), (0, .ref xh)]) hx hb dX8_shipsAtSea_25 hl (k := 1) rfl (by decide) (by decide) rfl (fun ls hl => ?_)
          refine lv_goto (tgt := 4) hx hb dX8_shipsAtSea_28 (by decide) ?_
          refine lv_iload_n hx hb dX8_shipsAtSea_4 rfl (lv_at hl 0 rfl) ?_
          refine lv_iconst (v := 5) hx hb dX8_shipsAtSea_5 (by decide) ?_
          refine lv_icmp_ge (tgt := 31) hx hb dX8_shipsAtSea_6 (by decide) (fun c_59 => absurd c_59 (by decide)) (fun c_59 => ?_)
          refine lv_aload_n hx hb dX8_shipsAtSea_9 rfl (lv_at hl 2 rfl) ?_
          refine va_get (D := D) (ci := 8) (v := .ref (xa 4)) (C := RX8) (T := TX8) (N := 14) hx hb htb iX8 hown hK.1 hP 0 rfl rfl 4 (by decide) (htb _ k_276) (fun _ h9 => h9) rfl dX8_shipsAtSea_10 ?_
          refine lv_iload_n hx hb dX8_shipsAtSea_13 rfl (lv_at hl 0 rfl) ?_
          refine va_aldq hx hb hK.1 hP 1 4 rfl rfl (g_in t_4 (by decide) (by decide)) dX8_shipsAtSea_14 ?_
          refine W_top (y := .ref y4h) (congrArg va_rf hq4) ?_
          refine va_getN (D := D) (ci := 5) (v := .int y4stage) (C := RX5) (T := TX5) (N := 11) hx hb htb iX5 hown hK.1 hP 6 rfl rfl 8 (by decide) (va_Nw.use rfl (hK.2.1 (Cond.fieldLinkNest RX8 208 "SeaWatches$Ship" "stage" "I" "SeaWatches") (by decide +kernel))) (fun _ h9 => h9) rfl dX8_shipsAtSea_15 ?_
          refine lv_iconst (v := 1) hx hb dX8_shipsAtSea_18 (by decide) ?_
          refine lv_icmp_ne (tgt := 25) hx hb dX8_shipsAtSea_19 (by decide) (fun c_60 => ?_) (fun c_60 => ?_)
          ·
            have ic_60 : y4stage.toInt ≠ 1 := mt (g_eq rfl t_1).mpr c_60
            clear c_60
            refine lv_iinc (v := 5) (lv' := [(2, .int 5), (1, .int 2), (0, .ref xh)]) hx hb dX8_shipsAtSea_25 hl (k := 0) rfl (by decide) (by decide) rfl (fun ls hl => ?_)
            refine lv_goto (tgt := 4) hx hb dX8_shipsAtSea_28 (by decide) ?_
            refine lv_iload_n hx hb dX8_shipsAtSea_4 rfl (lv_at hl 0 rfl) ?_
            refine lv_iconst (v := 5) hx hb dX8_shipsAtSea_5 (by decide) ?_
            refine lv_icmp_ge (tgt := 31) hx hb dX8_shipsAtSea_6 (by decide) (fun c_61 => ?_) (fun c_61 => absurd (by decide) c_61)
            refine lv_iload_n hx hb dX8_shipsAtSea_31 rfl (lv_at hl 1 rfl) ?_
            exact W.iret (v := 2) hx hb hr (fun t ht hW => ⟨2, rfl, (by have hl := t_2; (repeat' split) <;> omega), ht⟩) (fun q h => by cases h) dX8_shipsAtSea_32
          ·
            have ic_60 : y4stage.toInt = 1 := (g_eq rfl t_1).mp c_60
            clear c_60
            refine lv_iinc (v := 3) (lv' := [(1, .int 3), (2, .int 4), (0, .ref xh)]) hx hb dX8_shipsAtSea_22 hl (k := 1) rfl (by decide) (by decide) rfl (fun ls hl => ?_)
            refine lv_iinc (v := 5) (lv' := [(2, .int 5), (1, .int 3), (0, .ref xh)]) hx hb dX8_shipsAtSea_25 hl (k := 1) rfl (by decide) (by decide) rfl (fun ls hl => ?_)
            refine lv_goto (tgt := 4) hx hb dX8_shipsAtSea_28 (by decide) ?_
            refine lv_iload_n hx hb dX8_shipsAtSea_4 rfl (lv_at hl 0 rfl) ?_
            refine lv_iconst (v := 5) hx hb dX8_shipsAtSea_5 (by decide) ?_
            refine lv_icmp_ge (tgt := 31) hx hb dX8_shipsAtSea_6 (by decide) (fun c_62 => ?_) (fun c_62 => absurd (by decide) c_62)
            refine lv_iload_n hx hb dX8_shipsAtSea_31 rfl (lv_at hl 1 rfl) ?_
            exact W.iret (v := 3) hx hb hr (fun t ht hW => ⟨3, rfl, (by have hl := t_3; (repeat' split) <;> omega), ht⟩) (fun q h => by cases h) dX8_shipsAtSea_32
      ·
        have ic_52 : y2stage.toInt = 1 := (g_eq rfl t_1).mp c_52
        clear c_52
        refine lv_iinc (v := 2) (lv' := [(1, .int 2), (2, .int 2), (0, .ref xh)]) hx hb dX8_shipsAtSea_22 hl (k := 1) rfl (by decide) (by decide) rfl (fun ls hl => ?_)
        refine lv_iinc (v := 3) (lv' := [(2, .int 3), (1, .int 2), (0, .ref xh)]) hx hb dX8_shipsAtSea_25 hl (k := 1) rfl (by decide) (by decide) rfl (fun ls hl => ?_)
        refine lv_goto (tgt := 4) hx hb dX8_shipsAtSea_28 (by decide) ?_
        refine lv_iload_n hx hb dX8_shipsAtSea_4 rfl (lv_at hl 0 rfl) ?_
        refine lv_iconst (v := 5) hx hb dX8_shipsAtSea_5 (by decide) ?_
        refine lv_icmp_ge (tgt := 31) hx hb dX8_shipsAtSea_6 (by decide) (fun c_63 => absurd c_63 (by decide)) (fun c_63 => ?_)
        refine lv_aload_n hx hb dX8_shipsAtSea_9 rfl (lv_at hl 2 rfl) ?_
        refine va_get (D := D) (ci := 8) (v := .ref (xa 4)) (C := RX8) (T := TX8) (N := 14) hx hb htb iX8 hown hK.1 hP 0 rfl rfl 4 (by decide) (htb _ k_276) (fun _ h9 => h9) rfl dX8_shipsAtSea_10 ?_
        refine lv_iload_n hx hb dX8_shipsAtSea_13 rfl (lv_at hl 0 rfl) ?_
        refine va_aldq hx hb hK.1 hP 1 4 rfl rfl (g_in t_3 (by decide) (by decide)) dX8_shipsAtSea_14 ?_
        refine W_top (y := .ref y3h) (congrArg va_rf hq3) ?_
        refine va_getN (D := D) (ci := 5) (v := .int y3stage) (C := RX5) (T := TX5) (N := 11) hx hb htb iX5 hown hK.1 hP 5 rfl rfl 8 (by decide) (va_Nw.use rfl (hK.2.1 (Cond.fieldLinkNest RX8 208 "SeaWatches$Ship" "stage" "I" "SeaWatches") (by decide +kernel))) (fun _ h9 => h9) rfl dX8_shipsAtSea_15 ?_
        refine lv_iconst (v := 1) hx hb dX8_shipsAtSea_18 (by decide) ?_
        refine lv_icmp_ne (tgt := 25) hx hb dX8_shipsAtSea_19 (by decide) (fun c_64 => ?_) (fun c_64 => ?_)
        ·
          have ic_64 : y3stage.toInt ≠ 1 := mt (g_eq rfl t_1).mpr c_64
          clear c_64
          refine lv_iinc (v := 4) (lv' := [(2, .int 4), (1, .int 2), (0, .ref xh)]) hx hb dX8_shipsAtSea_25 hl (k := 0) rfl (by decide) (by decide) rfl (fun ls hl => ?_)
          refine lv_goto (tgt := 4) hx hb dX8_shipsAtSea_28 (by decide) ?_
          refine lv_iload_n hx hb dX8_shipsAtSea_4 rfl (lv_at hl 0 rfl) ?_
          refine lv_iconst (v := 5) hx hb dX8_shipsAtSea_5 (by decide) ?_
          refine lv_icmp_ge (tgt := 31) hx hb dX8_shipsAtSea_6 (by decide) (fun c_65 => absurd c_65 (by decide)) (fun c_65 => ?_)
          refine lv_aload_n hx hb dX8_shipsAtSea_9 rfl (lv_at hl 2 rfl) ?_
          refine va_get (D := D) (ci := 8) (v := .ref (xa 4)) (C := RX8) (T := TX8) (N := 14) hx hb htb iX8 hown hK.1 hP 0 rfl rfl 4 (by decide) (htb _ k_276) (fun _ h9 => h9) rfl dX8_shipsAtSea_10 ?_
          refine lv_iload_n hx hb dX8_shipsAtSea_13 rfl (lv_at hl 0 rfl) ?_
          refine va_aldq hx hb hK.1 hP 1 4 rfl rfl (g_in t_4 (by decide) (by decide)) dX8_shipsAtSea_14 ?_
          refine W_top (y := .ref y4h) (congrArg va_rf hq4) ?_
          refine va_getN (D := D) (ci := 5) (v := .int y4stage) (C := RX5) (T := TX5) (N := 11) hx hb htb iX5 hown hK.1 hP 6 rfl rfl 8 (by decide) (va_Nw.use rfl (hK.2.1 (Cond.fieldLinkNest RX8 208 "SeaWatches$Ship" "stage" "I" "SeaWatches") (by decide +kernel))) (fun _ h9 => h9) rfl dX8_shipsAtSea_15 ?_
          refine lv_iconst (v := 1) hx hb dX8_shipsAtSea_18 (by decide) ?_
          refine lv_icmp_ne (tgt := 25) hx hb dX8_shipsAtSea_19 (by decide) (fun c_66 => ?_) (fun c_66 => ?_)
          ·
            have ic_66 : y4stage.toInt ≠ 1 := mt (g_eq rfl t_1).mpr c_66
            clear c_66
            refine lv_iinc (v := 5) (lv' := [(2, .int 5), (1, .int 2), (0, .ref xh)]) hx hb dX8_shipsAtSea_25 hl (k := 0) rfl (by decide) (by decide) rfl (fun ls hl => ?_)
            refine lv_goto (tgt := 4) hx hb dX8_shipsAtSea_28 (by decide) ?_
            refine lv_iload_n hx hb dX8_shipsAtSea_4 rfl (lv_at hl 0 rfl) ?_
            refine lv_iconst (v := 5) hx hb dX8_shipsAtSea_5 (by decide) ?_
            refine lv_icmp_ge (tgt := 31) hx hb dX8_shipsAtSea_6 (by decide) (fun c_67 => ?_) (fun c_67 => absurd (by decide) c_67)
            refine lv_iload_n hx hb dX8_shipsAtSea_31 rfl (lv_at hl 1 rfl) ?_
            exact W.iret (v := 2) hx hb hr (fun t ht hW => ⟨2, rfl, (by have hl := t_2; (repeat' split) <;> omega), ht⟩) (fun q h => by cases h) dX8_shipsAtSea_32
          ·
            have ic_66 : y4stage.toInt = 1 := (g_eq rfl t_1).mp c_66
            clear c_66
            refine lv_iinc (v := 3) (lv' := [(1, .int 3), (2, .int 4), (0, .ref xh)]) hx hb dX8_shipsAtSea_22 hl (k := 1) rfl (by decide) (by decide) rfl (fun ls hl => ?_)
            refine lv_iinc (v := 5) (lv' := [(2, .int 5), (1, .int 3), (0, .ref xh)]) hx hb dX8_shipsAtSea_25 hl (k := 1) rfl (by decide) (by decide) rfl (fun ls hl => ?_)
            refine lv_goto (tgt := 4) hx hb dX8_shipsAtSea_28 (by decide) ?_
            refine lv_iload_n hx hb dX8_shipsAtSea_4 rfl (lv_at hl 0 rfl) ?_
            refine lv_iconst (v := 5) hx hb dX8_shipsAtSea_5 (by decide) ?_
            refine lv_icmp_ge (tgt := 31) hx hb dX8_shipsAtSea_6 (by decide) (fun c_68 => ?_) (fun c_68 => absurd (by decide) c_68)
            refine lv_iload_n hx hb dX8_shipsAtSea_31 rfl (lv_at hl 1 rfl) ?_
            exact W.iret (v := 3) hx hb hr (fun t ht hW => ⟨3, rfl, (by have hl := t_3; (repeat' split) <;> omega), ht⟩) (fun q h => by cases h) dX8_shipsAtSea_32
        ·
          have ic_64 : y3stage.toInt = 1 := (g_eq rfl t_1).mp c_64
          clear c_64
          refine lv_iinc (v := 3) (lv' := [(1, .int 3), (2, .int 3), (0, .ref xh)]) hx hb dX8_shipsAtSea_22 hl (k := 1) rfl (by decide) (by decide) rfl (fun ls hl => ?_)
          refine lv_iinc (v := 4) (lv' := [(2, .int 4), (1, .int 3), (0, .ref xh)]) hx hb dX8_shipsAtSea_25 hl (k := 1) rfl (by decide) (by decide) rfl (fun ls hl => ?_)
          refine lv_goto (tgt := 4) hx hb dX8_shipsAtSea_28 (by decide) ?_
          refine lv_iload_n hx hb dX8_shipsAtSea_4 rfl (lv_at hl 0 rfl) ?_
          refine lv_iconst (v := 5) hx hb dX8_shipsAtSea_5 (by decide) ?_
          refine lv_icmp_ge (tgt := 31) hx hb dX8_shipsAtSea_6 (by decide) (fun c_69 => absurd c_69 (by decide)) (fun c_69 => ?_)
          refine lv_aload_n hx hb dX8_shipsAtSea_9 rfl (lv_at hl 2 rfl) ?_
          refine va_get (D := D) (ci := 8) (v := .ref (xa 4)) (C := RX8) (T := TX8) (N := 14) hx hb htb iX8 hown hK.1 hP 0 rfl rfl 4 (by decide) (htb _ k_276) (fun _ h9 => h9) rfl dX8_shipsAtSea_10 ?_
          refine lv_iload_n hx hb dX8_shipsAtSea_13 rfl (lv_at hl 0 rfl) ?_
          refine va_aldq hx hb hK.1 hP 1 4 rfl rfl (g_in t_4 (by decide) (by decide)) dX8_shipsAtSea_14 ?_
          refine W_top (y := .ref y4h) (congrArg va_rf hq4) ?_
          refine va_getN (D := D) (ci := 5) (v := .int y4stage) (C := RX5) (T := TX5) (N := 11) hx hb htb iX5 hown hK.1 hP 6 rfl rfl 8 (by decide) (va_Nw.use rfl (hK.2.1 (Cond.fieldLinkNest RX8 208 "SeaWatches$Ship" "stage" "I" "SeaWatches") (by decide +kernel))) (fun _ h9 => h9) rfl dX8_shipsAtSea_15 ?_
          refine lv_iconst (v := 1) hx hb dX8_shipsAtSea_18 (by decide) ?_
          refine lv_icmp_ne (tgt := 25) hx hb dX8_shipsAtSea_19 (by decide) (fun c_70 => ?_) (fun c_70 => ?_)
          ·
            have ic_70 : y4stage.toInt ≠ 1 := mt (g_eq rfl t_1).mpr c_70
            clear c_70
            refine lv_iinc (v := 5) (lv' := [(2, .int 5), (1, .int 3), (0, .ref xh)]) hx hb dX8_shipsAtSea_25 hl (k := 0) rfl (by decide) (by decide) rfl (fun ls hl => ?_)
            refine lv_goto (tgt := 4) hx hb dX8_shipsAtSea_28 (by decide) ?_
            refine lv_iload_n hx hb dX8_shipsAtSea_4 rfl (lv_at hl 0 rfl) ?_
            refine lv_iconst (v := 5) hx hb dX8_shipsAtSea_5 (by decide) ?_
            refine lv_icmp_ge (tgt := 31) hx hb dX8_shipsAtSea_6 (by decide) (fun c_71 => ?_) (fun c_71 => absurd (by decide) c_71)
            refine lv_iload_n hx hb dX8_shipsAtSea_31 rfl (lv_at hl 1 rfl) ?_
            exact W.iret (v := 3) hx hb hr (fun t ht hW => ⟨3, rfl, (by have hl := t_3; (repeat' split) <;> omega), ht⟩) (fun q h => by cases h) dX8_shipsAtSea_32
          ·
            have ic_70 : y4stage.toInt = 1 := (g_eq rfl t_1).mp c_70
            clear c_70
            refine lv_iinc (v := 4) (lv' := [(1, .int 4), (2, .int 4), (0, .ref xh)]) hx hb dX8_shipsAtSea_22 hl (k := 1) rfl (by decide) (by decide) rfl (fun ls hl => ?_)
            refine lv_iinc (v := 5) (lv' := [(2, .int 5), (1, .int 4), (0, .ref xh)]) hx hb dX8_shipsAtSea_25 hl (k := 1) rfl (by decide) (by decide) rfl (fun ls hl => ?_)
            refine lv_goto (tgt := 4) hx hb dX8_shipsAtSea_28 (by decide) ?_
            refine lv_iload_n hx hb dX8_shipsAtSea_4 rfl (lv_at hl 0 rfl) ?_
            refine lv_iconst (v := 5) hx hb dX8_shipsAtSea_5 (by decide) ?_
            refine lv_icmp_ge (tgt := 31) hx hb dX8_shipsAtSea_6 (by decide) (fun c_72 => ?_) (fun c_72 => absurd (by decide) c_72)
            refine lv_iload_n hx hb dX8_shipsAtSea_31 rfl (lv_at hl 1 rfl) ?_
            exact W.iret (v := 4) hx hb hr (fun t ht hW => ⟨4, rfl, (by have hl := t_4; (repeat' split) <;> omega), ht⟩) (fun q h => by cases h) dX8_shipsAtSea_32
    ·
      have ic_50 : y1stage.toInt = 1 := (g_eq rfl t_1).mp c_50
      clear c_50
      refine lv_iinc (v := 2) (lv' := [(1, .int 2), (2, .int 1), (0, .ref xh)]) hx hb dX8_shipsAtSea_22 hl (k := 1) rfl (by decide) (by decide) rfl (fun ls hl => ?_)
      refine lv_iinc (v := 2) (lv' := [(2, .int 2), (1, .int 2), (0, .ref xh)]) hx hb dX8_shipsAtSea_25 hl (k := 1) rfl (by decide) (by decide) rfl (fun ls hl => ?_)
      refine lv_goto (tgt := 4) hx hb dX8_shipsAtSea_28 (by decide) ?_
      refine lv_iload_n hx hb dX8_shipsAtSea_4 rfl (lv_at hl 0 rfl) ?_
      refine lv_iconst (v := 5) hx hb dX8_shipsAtSea_5 (by decide) ?_
      refine lv_icmp_ge (tgt := 31) hx hb dX8_shipsAtSea_6 (by decide) (fun c_73 => absurd c_73 (by decide)) (fun c_73 => ?_)
      refine lv_aload_n hx hb dX8_shipsAtSea_9 rfl (lv_at hl 2 rfl) ?_
      refine va_get (D := D) (ci := 8) (v := .ref (xa 4)) (C := RX8) (T := TX8) (N := 14) hx hb htb iX8 hown hK.1 hP 0 rfl rfl 4 (by decide) (htb _ k_276) (fun _ h9 => h9) rfl dX8_shipsAtSea_10 ?_
      refine lv_iload_n hx hb dX8_shipsAtSea_13 rfl (lv_at hl 0 rfl) ?_
      refine va_aldq hx hb hK.1 hP 1 4 rfl rfl (g_in t_2 (by decide) (by decide)) dX8_shipsAtSea_14 ?_
      refine W_top (y := .ref y2h) (congrArg va_rf hq2) ?_
      refine va_getN (D := D) (ci := 5) (v := .int y2stage) (C := RX5) (T := TX5) (N := 11) hx hb htb iX5 hown hK.1 hP 4 rfl rfl 8 (by decide) (va_Nw.use rfl (hK.2.1 (Cond.fieldLinkNest RX8 208 "SeaWatches$Ship" "stage" "I" "SeaWatches") (by decide +kernel))) (fun _ h9 => h9) rfl dX8_shipsAtSea_15 ?_
      refine lv_iconst (v := 1) hx hb dX8_shipsAtSea_18 (by decide) ?_
      refine lv_icmp_ne (tgt := 25) hx hb dX8_shipsAtSea_19 (by decide) (fun c_74 => ?_) (fun c_74 => ?_)
      ·
        have ic_74 : y2stage.toInt ≠ 1 := mt (g_eq rfl t_1).mpr c_74
        clear c_74
        refine lv_iinc (v := 3) (lv' := [(2, .int 3), (1, .int 2), (0, .ref xh)]) hx hb dX8_shipsAtSea_25 hl (k := 0) rfl (by decide) (by decide) rfl (fun ls hl => ?_)
        refine lv_goto (tgt := 4) hx hb dX8_shipsAtSea_28 (by decide) ?_
        refine lv_iload_n hx hb dX8_shipsAtSea_4 rfl (lv_at hl 0 rfl) ?_
        refine lv_iconst (v := 5) hx hb dX8_shipsAtSea_5 (by decide) ?_
        refine lv_icmp_ge (tgt := 31) hx hb dX8_shipsAtSea_6 (by decide) (fun c_75 => absurd c_75 (by decide)) (fun c_75 => ?_)
        refine lv_aload_n hx hb dX8_shipsAtSea_9 rfl (lv_at hl 2 rfl) ?_
        refine va_get (D := D) (ci := 8) (v := .ref (xa 4)) (C := RX8) (T := TX8) (N := 14) hx hb htb iX8 hown hK.1 hP 0 rfl rfl 4 (by decide) (htb _ k_276) (fun _ h9 => h9) rfl dX8_shipsAtSea_10 ?_
        refine lv_iload_n hx hb dX8_shipsAtSea_13 rfl (lv_at hl 0 rfl) ?_
        refine va_aldq hx hb hK.1 hP 1 4 rfl rfl (g_in t_3 (by decide) (by decide)) dX8_shipsAtSea_14 ?_
        refine W_top (y := .ref y3h) (congrArg va_rf hq3) ?_
        refine va_getN (D := D) (ci := 5) (v := .int y3stage) (C := RX5) (T := TX5) (N := 11) hx hb htb iX5 hown hK.1 hP 5 rfl rfl 8 (by decide) (va_Nw.use rfl (hK.2.1 (Cond.fieldLinkNest RX8 208 "SeaWatches$Ship" "stage" "I" "SeaWatches") (by decide +kernel))) (fun _ h9 => h9) rfl dX8_shipsAtSea_15 ?_
        refine lv_iconst (v := 1) hx hb dX8_shipsAtSea_18 (by decide) ?_
        refine lv_icmp_ne (tgt := 25) hx hb dX8_shipsAtSea_19 (by decide) (fun c_76 => ?_) (fun c_76 => ?_)
        ·
          have ic_76 : y3stage.toInt ≠ 1 := mt (g_eq rfl t_1).mpr c_76
          clear c_76
          refine lv_iinc (v := 4) (lv' := [(2, .int 4), (1, .int 2), (0, .ref xh)]) hx hb dX8_shipsAtSea_25 hl (k := 0) rfl (by decide) (by decide) rfl (fun ls hl => ?_)
          refine lv_goto (tgt := 4) hx hb dX8_shipsAtSea_28 (by decide) ?_
          refine lv_iload_n hx hb dX8_shipsAtSea_4 rfl (lv_at hl 0 rfl) ?_
          refine lv_iconst (v := 5) hx hb dX8_shipsAtSea_5 (by decide) ?_
          refine lv_icmp_ge (tgt := 31) hx hb dX8_shipsAtSea_6 (by decide) (fun c_77 => absurd c_77 (by decide)) (fun c_77 => ?_)
          refine lv_aload_n hx hb dX8_shipsAtSea_9 rfl (lv_at hl 2 rfl) ?_
          refine va_get (D := D) (ci := 8) (v := .ref (xa 4)) (C := RX8) (T := TX8) (N := 14) hx hb htb iX8 hown hK.1 hP 0 rfl rfl 4 (by decide) (htb _ k_276) (fun _ h9 => h9) rfl dX8_shipsAtSea_10 ?_
          refine lv_iload_n hx hb dX8_shipsAtSea_13 rfl (lv_at hl 0 rfl) ?_
          refine va_aldq hx hb hK.1 hP 1 4 rfl rfl (g_in t_4 (by decide) (by decide)) dX8_shipsAtSea_14 ?_
          refine W_top (y := .ref y4h) (congrArg va_rf hq4) ?_
          refine va_getN (D := D) (ci := 5) (v := .int y4stage) (C := RX5) (T := TX5) (N := 11) hx hb htb iX5 hown hK.1 hP 6 rfl rfl 8 (by decide) (va_Nw.use rfl (hK.2.1 (Cond.fieldLinkNest RX8 208 "SeaWatches$Ship" "stage" "I" "SeaWatches") (by decide +kernel))) (fun _ h9 => h9) rfl dX8_shipsAtSea_15 ?_
          refine lv_iconst (v := 1) hx hb dX8_shipsAtSea_18 (by decide) ?_
          refine lv_icmp_ne (tgt := 25) hx hb dX8_shipsAtSea_19 (by decide) (fun c_78 => ?_) (fun c_78 => ?_)
          ·
            have ic_78 : y4stage.toInt ≠ 1 := mt (g_eq rfl t_1).mpr c_78
            clear c_78
            refine lv_iinc (v := 5) (lv' := [(2, .int 5), (1, .int 2), (0, .ref xh)]) hx hb dX8_shipsAtSea_25 hl (k := 0) rfl (by decide) (by decide) rfl (fun ls hl => ?_)
            refine lv_goto (tgt := 4) hx hb dX8_shipsAtSea_28 (by decide) ?_
            refine lv_iload_n hx hb dX8_shipsAtSea_4 rfl (lv_at hl 0 rfl) ?_
            refine lv_iconst (v := 5) hx hb dX8_shipsAtSea_5 (by decide) ?_
            refine lv_icmp_ge (tgt := 31) hx hb dX8_shipsAtSea_6 (by decide) (fun c_79 => ?_) (fun c_79 => absurd (by decide) c_79)
            refine lv_iload_n hx hb dX8_shipsAtSea_31 rfl (lv_at hl 1 rfl) ?_
            exact W.iret (v := 2) hx hb hr (fun t ht hW => ⟨2, rfl, (by have hl := t_2; (repeat' split) <;> omega), ht⟩) (fun q h => by cases h) dX8_shipsAtSea_32
          ·
            have ic_78 : y4stage.toInt = 1 := (g_eq rfl t_1).mp c_78
            clear c_78
            refine lv_iinc (v := 3) (lv' := [(1, .int 3), (2, .int 4), (0, .ref xh)]) hx hb dX8_shipsAtSea_22 hl (k := 1) rfl (by decide) (by decide) rfl (fun ls hl => ?_)
            refine lv_iinc (v := 5) (lv' := [(2, .int 5), (1, .int 3), (0, .ref xh)]) hx hb dX8_shipsAtSea_25 hl (k := 1) rfl (by decide) (by decide) rfl (fun ls hl => ?_)
            refine lv_goto (tgt := 4) hx hb dX8_shipsAtSea_28 (by decide) ?_
            refine lv_iload_n hx hb dX8_shipsAtSea_4 rfl (lv_at hl 0 rfl) ?_
            refine lv_iconst (v := 5) hx hb dX8_shipsAtSea_5 (by decide) ?_
            refine lv_icmp_ge (tgt := 31) hx hb dX8_shipsAtSea_6 (by decide) (fun c_80 => ?_) (fun c_80 => absurd (by decide) c_80)
            refine lv_iload_n hx hb dX8_shipsAtSea_31 rfl (lv_at hl 1 rfl) ?_
            exact W.iret (v := 3) hx hb hr (fun t ht hW => ⟨3, rfl, (by have hl := t_3; (repeat' split) <;> omega), ht⟩) (fun q h => by cases h) dX8_shipsAtSea_32
        ·
          have ic_76 : y3stage.toInt = 1 := (g_eq rfl t_1).mp c_76
          clear c_76
          refine lv_iinc (v := 3) (lv' := [(1, .int 3), (2, .int 3), (0, .ref xh)]) hx hb dX8_shipsAtSea_22 hl (k := 1) rfl (by decide) (by decide) rfl (fun ls hl => ?_)
          refine lv_iinc (v := 4) (lv' := [(2, .int 4), (1, .int 3), (0, .ref xh)]) hx hb dX8_shipsAtSea_25 hl (k := 1) rfl (by decide) (by decide) rfl (fun ls hl => ?_)
          refine lv_goto (tgt := 4) hx hb dX8_shipsAtSea_28 (by decide) ?_
          refine lv_iload_n hx hb dX8_shipsAtSea_4 rfl (lv_at hl 0 rfl) ?_
          refine lv_iconst (v := 5) hx hb dX8_shipsAtSea_5 (by decide) ?_
          refine lv_icmp_ge (tgt := 31) hx hb dX8_shipsAtSea_6 (by decide) (fun c_81 => absurd c_81 (by decide)) (fun c_81 => ?_)
          refine lv_aload_n hx hb dX8_shipsAtSea_9 rfl (lv_at hl 2 rfl) ?_
          refine va_get (D := D) (ci := 8) (v := .ref (xa 4)) (C := RX8) (T := TX8) (N := 14) hx hb htb iX8 hown hK.1 hP 0 rfl rfl 4 (by decide) (htb _ k_276) (fun _ h9 => h9) rfl dX8_shipsAtSea_10 ?_
          refine lv_iload_n hx hb dX8_shipsAtSea_13 rfl (lv_at hl 0 rfl) ?_
          refine va_aldq hx hb hK.1 hP 1 4 rfl rfl (g_in t_4 (by decide) (by decide)) dX8_shipsAtSea_14 ?_
          refine W_top (y := .ref y4h) (congrArg va_rf hq4) ?_
          refine va_getN (D := D) (ci := 5) (v := .int y4stage) (C := RX5) (T := TX5) (N := 11) hx hb htb iX5 hown hK.1 hP 6 rfl rfl 8 (by decide) (va_Nw.use rfl (hK.2.1 (Cond.fieldLinkNest RX8 208 "SeaWatches$Ship" "stage" "I" "SeaWatches") (by decide +kernel))) (fun _ h9 => h9) rfl dX8_shipsAtSea_15 ?_
          refine lv_iconst (v := 1) hx hb dX8_shipsAtSea_18 (by decide) ?_
          refine lv_icmp_ne (tgt := 25) hx hb dX8_shipsAtSea_19 (by decide) (fun c_82 => ?_) (fun c_82 => ?_)
          ·
            have ic_82 : y4stage.toInt ≠ 1 := mt (g_eq rfl t_1).mpr c_82
            clear c_82
            refine lv_iinc (v := 5) (lv' := [(2, .int 5), (1, .int 3), (0, .ref xh)]) hx hb dX8_shipsAtSea_25 hl (k := 0) rfl (by decide) (by decide) rfl (fun ls hl => ?_)
            refine lv_goto (tgt := 4) hx hb dX8_shipsAtSea_28 (by decide) ?_
            refine lv_iload_n hx hb dX8_shipsAtSea_4 rfl (lv_at hl 0 rfl) ?_
            refine lv_iconst (v := 5) hx hb dX8_shipsAtSea_5 (by decide) ?_
            refine lv_icmp_ge (tgt := 31) hx hb dX8_shipsAtSea_6 (by decide) (fun c_83 => ?_) (fun c_83 => absurd (by decide) c_83)
            refine lv_iload_n hx hb dX8_shipsAtSea_31 rfl (lv_at hl 1 rfl) ?_
            exact W.iret (v := 3) hx hb hr (fun t ht hW => ⟨3, rfl, (by have hl := t_3; (repeat' split) <;> omega), ht⟩) (fun q h => by cases h) dX8_shipsAtSea_32
          ·
            have ic_82 : y4stage.toInt = 1 := (g_eq rfl t_1).mp c_82
            clear c_82
            refine lv_iinc (v := 4) (lv' := [(1, .int 4), (2, .int 4), (0, .ref xh)]) hx hb dX8_shipsAtSea_22 hl (k := 1) rfl (by decide) (by decide) rfl (fun ls hl => ?_)
            refine lv_iinc (v := 5) (lv' := [(2, .int 5), (1, .int 4), (0, .ref xh)]) hx hb dX8_shipsAtSea_25 hl (k := 1) rfl (by decide) (by decide) rfl (fun ls hl => ?_)
            refine lv_goto (tgt := 4) hx hb dX8_shipsAtSea_28 (by decide) ?_
            refine lv_iload_n hx hb dX8_shipsAtSea_4 rfl (lv_at hl 0 rfl) ?_
            refine lv_iconst (v := 5) hx hb dX8_shipsAtSea_5 (by decide) ?_
            refine lv_icmp_ge (tgt := 31) hx hb dX8_shipsAtSea_6 (by decide) (fun c_84 => ?_) (fun c_84 => absurd (by decide) c_84)
            refine lv_iload_n hx hb dX8_shipsAtSea_31 rfl (lv_at hl 1 rfl) ?_
            exact W.iret (v := 4) hx hb hr (fun t ht hW => ⟨4, rfl, (by have hl := t_4; (repeat' split) <;> omega), ht⟩) (fun q h => by cases h) dX8_shipsAtSea_32
      ·
        have ic_74 : y2stage.toInt = 1 := (g_eq rfl t_1).mp c_74
        clear c_74
        refine lv_iinc (v := 3) (lv' := [(1, .int 3), (2, .int 2), (0, .ref xh)]) hx hb dX8_shipsAtSea_22 hl (k := 1) rfl (by decide) (by decide) rfl (fun ls hl => ?_)
        refine lv_iinc (v := 3) (lv' := [(2, .int 3), (1, .int 3), (0, .ref xh)]) hx hb dX8_shipsAtSea_25 hl (k := 1) rfl (by decide) (by decide) rfl (fun ls hl => ?_)
        refine lv_goto (tgt := 4) hx hb dX8_shipsAtSea_28 (by decide) ?_
        refine lv_iload_n hx hb dX8_shipsAtSea_4 rfl (lv_at hl 0 rfl) ?_
        refine lv_iconst (v := 5) hx hb dX8_shipsAtSea_5 (by decide) ?_
        refine lv_icmp_ge (tgt := 31) hx hb dX8_shipsAtSea_6 (by decide) (fun c_85 => absurd c_85 (by decide)) (fun c_85 => ?_)
        refine lv_aload_n hx hb dX8_shipsAtSea_9 rfl (lv_at hl 2 rfl) ?_
        refine va_get (D := D) (ci := 8) (v := .ref (xa 4)) (C := RX8) (T := TX8) (N := 14) hx hb htb iX8 hown hK.1 hP 0 rfl rfl 4 (by decide) (htb _ k_276) (fun _ h9 => h9) rfl dX8_shipsAtSea_10 ?_
        refine lv_iload_n hx hb dX8_shipsAtSea_13 rfl (lv_at hl 0 rfl) ?_
        refine va_aldq hx hb hK.1 hP 1 4 rfl rfl (g_in t_3 (by decide) (by decide)) dX8_shipsAtSea_14 ?_
        refine W_top (y := .ref y3h) (congrArg va_rf hq3) ?_
        refine va_getN (D := D) (ci := 5) (v := .int y3stage) (C := RX5) (T := TX5) (N := 11) hx hb htb iX5 hown hK.1 hP 5 rfl rfl 8 (by decide) (va_Nw.use rfl (hK.2.1 (Cond.fieldLinkNest RX8 208 "SeaWatches$Ship" "stage" "I" "SeaWatches") (by decide +kernel))) (fun _ h9 => h9) rfl dX8_shipsAtSea_15 ?_
        refine lv_iconst (v := 1) hx hb dX8_shipsAtSea_18 (by decide) ?_
        refine lv_icmp_ne (tgt := 25) hx hb dX8_shipsAtSea_19 (by decide) (fun c_86 => ?_) (fun c_86 => ?_)
        ·
          have ic_86 : y3stage.toInt ≠ 1 := mt (g_eq rfl t_1).mpr c_86
          clear c_86
          refine lv_iinc (v := 4) (lv' := [(2, .int 4), (1, .int 3), (0, .ref xh)]) hx hb dX8_shipsAtSea_25 hl (k := 0) rfl (by decide) (by decide) rfl (fun ls hl => ?_)
          refine lv_goto (tgt := 4) hx hb dX8_shipsAtSea_28 (by decide) ?_
          refine lv_iload_n hx hb dX8_shipsAtSea_4 rfl (lv_at hl 0 rfl) ?_
          refine lv_iconst (v := 5) hx hb dX8_shipsAtSea_5 (by decide) ?_
          refine lv_icmp_ge (tgt := 31) hx hb dX8_shipsAtSea_6 (by decide) (fun c_87 => absurd c_87 (by decide)) (fun c_87 => ?_)
          refine lv_aload_n hx hb dX8_shipsAtSea_9 rfl (lv_at hl 2 rfl) ?_
          refine va_get (D := D) (ci := 8) (v := .ref (xa 4)) (C := RX8) (T := TX8) (N := 14) hx hb htb iX8 hown hK.1 hP 0 rfl rfl 4 (by decide) (htb _ k_276) (fun _ h9 => h9) rfl dX8_shipsAtSea_10 ?_
          refine lv_iload_n hx hb dX8_shipsAtSea_13 rfl (lv_at hl 0 rfl) ?_
          refine va_aldq hx hb hK.1 hP 1 4 rfl rfl (g_in t_4 (by decide) (by decide)) dX8_shipsAtSea_14 ?_
          refine W_top (y := .ref y4h) (congrArg va_rf hq4) ?_
          refine va_getN (D := D) (ci := 5) (v := .int y4stage) (C := RX5) (T := TX5) (N := 11) hx hb htb iX5 hown hK.1 hP 6 rfl rfl 8 (by decide) (va_Nw.use rfl (hK.2.1 (Cond.fieldLinkNest RX8 208 "SeaWatches$Ship" "stage" "I" "SeaWatches") (by decide +kernel))) (fun _ h9 => h9) rfl dX8_shipsAtSea_15 ?_
          refine lv_iconst (v := 1) hx hb dX8_shipsAtSea_18 (by decide) ?_
          refine lv_icmp_ne (tgt := 25) hx hb dX8_shipsAtSea_19 (by decide) (fun c_88 => ?_) (fun c_88 => ?_)
          ·
            have ic_88 : y4stage.toInt ≠ 1 := mt (g_eq rfl t_1).mpr c_88
            clear c_88
            refine lv_iinc (v := 5) (lv' := [(2, .int 5), (1, .int 3), (0, .ref xh)]) hx hb dX8_shipsAtSea_25 hl (k := 0) rfl (by decide) (by decide) rfl (fun ls hl => ?_)
            refine lv_goto (tgt := 4) hx hb dX8_shipsAtSea_28 (by decide) ?_
            refine lv_iload_n hx hb dX8_shipsAtSea_4 rfl (lv_at hl 0 rfl) ?_
            refine lv_iconst (v := 5) hx hb dX8_shipsAtSea_5 (by decide) ?_
            refine lv_icmp_ge (tgt := 31) hx hb dX8_shipsAtSea_6 (by decide) (fun c_89 => ?_) (fun c_89 => absurd (by decide) c_89)
            refine lv_iload_n hx hb dX8_shipsAtSea_31 rfl (lv_at hl 1 rfl) ?_
            exact W.iret (v := 3) hx hb hr (fun t ht hW => ⟨3, rfl, (by have hl := t_3; (repeat' split) <;> omega), ht⟩) (fun q h => by cases h) dX8_shipsAtSea_32
          ·
            have ic_88 : y4stage.toInt = 1 := (g_eq rfl t_1).mp c_88
            clear c_88
            refine lv_iinc (v := 4) (lv' := [(1, .int 4), (2, .int 4), (0, .ref xh)]) hx hb dX8_shipsAtSea_22 hl (k := 1) rfl (by decide) (by decide) rfl (fun ls hl => ?_)
            refine lv_iinc (v := 5) (lv' := [(2, .int 5), (1, .int 4), (0, .ref xh)]) hx hb dX8_shipsAtSea_25 hl (k := 1) rfl (by decide) (by decide) rfl (fun ls hl => ?_)
            refine lv_goto (tgt := 4) hx hb dX8_shipsAtSea_28 (by decide) ?_
            refine lv_iload_n hx hb dX8_shipsAtSea_4 rfl (lv_at hl 0 rfl) ?_
            refine lv_iconst (v := 5) hx hb dX8_shipsAtSea_5 (by decide) ?_
            refine lv_icmp_ge (tgt := 31) hx hb dX8_shipsAtSea_6 (by decide) (fun c_90 => ?_) (fun c_90 => absurd (by decide) c_90)
            refine lv_iload_n hx hb dX8_shipsAtSea_31 rfl (lv_at hl 1 rfl) ?_
            exact W.iret (v := 4) hx hb hr (fun t ht hW => ⟨4, rfl, (by have hl := t_4; (repeat' split) <;> omega), ht⟩) (fun q h => by cases h) dX8_shipsAtSea_32
        ·
          have ic_86 : y3stage.toInt = 1 := (g_eq rfl t_1).mp c_86
          clear c_86
          refine lv_iinc (v := 4) (lv' := [(1, .int 4), (2, .int 3), (0, .ref xh)]) hx hb dX8_shipsAtSea_22 hl (k := 1) rfl (by decide) (by decide) rfl (fun ls hl => ?_)
          refine lv_iinc (v := 4) (lv' := [(2, .int 4), (1, .int 4), (0, .ref xh)]) hx hb dX8_shipsAtSea_25 hl (k := 1) rfl (by decide) (by decide) rfl (fun ls hl => ?_)
          refine lv_goto (tgt := 4) hx hb dX8_shipsAtSea_28 (by decide) ?_
          refine lv_iload_n hx hb dX8_shipsAtSea_4 rfl (lv_at hl 0 rfl) ?_
          refine lv_iconst (v := 5) hx hb dX8_shipsAtSea_5 (by decide) ?_
          refine lv_icmp_ge (tgt := 31) hx hb dX8_shipsAtSea_6 (by decide) (fun c_91 => absurd c_91 (by decide)) (fun c_91 => ?_)
          refine lv_aload_n hx hb dX8_shipsAtSea_9 rfl (lv_at hl 2 rfl) ?_
          refine va_get (D := D) (ci := 8) (v := .ref (xa 4)) (C := RX8) (T := TX8) (N := 14) hx hb htb iX8 hown hK.1 hP 0 rfl rfl 4 (by decide) (htb _ k_276) (fun _ h9 => h9) rfl dX8_shipsAtSea_10 ?_
          refine lv_iload_n hx hb dX8_shipsAtSea_13 rfl (lv_at hl 0 rfl) ?_
          refine va_aldq hx hb hK.1 hP 1 4 rfl rfl (g_in t_4 (by decide) (by decide)) dX8_shipsAtSea_14 ?_
          refine W_top (y := .ref y4h) (congrArg va_rf hq4) ?_
          refine va_getN (D := D) (ci := 5) (v := .int y4stage) (C := RX5) (T := TX5) (N := 11) hx hb htb iX5 hown hK.1 hP 6 rfl rfl 8 (by decide) (va_Nw.use rfl (hK.2.1 (Cond.fieldLinkNest RX8 208 "SeaWatches$Ship" "stage" "I" "SeaWatches") (by decide +kernel))) (fun _ h9 => h9) rfl dX8_shipsAtSea_15 ?_
          refine lv_iconst (v := 1) hx hb dX8_shipsAtSea_18 (by decide) ?_
          refine lv_icmp_ne (tgt := 25) hx hb dX8_shipsAtSea_19 (by decide) (fun c_92 => ?_) (fun c_92 => ?_)
          ·
            have ic_92 : y4stage.toInt ≠ 1 := mt (g_eq rfl t_1).mpr c_92
            clear c_92
            refine lv_iinc (v := 5) (lv' := [(2, .int 5), (1, .int 4), (0, .ref xh)]) hx hb dX8_shipsAtSea_25 hl (k := 0) rfl (by decide) (by decide) rfl (fun ls hl => ?_)
            refine lv_goto (tgt := 4) hx hb dX8_shipsAtSea_28 (by decide) ?_
            refine lv_iload_n hx hb dX8_shipsAtSea_4 rfl (lv_at hl 0 rfl) ?_
            refine lv_iconst (v := 5) hx hb dX8_shipsAtSea_5 (by decide) ?_
            refine lv_icmp_ge (tgt := 31) hx hb dX8_shipsAtSea_6 (by decide) (fun c_93 => ?_) (fun c_93 => absurd (by decide) c_93)
            refine lv_iload_n hx hb dX8_shipsAtSea_31 rfl (lv_at hl 1 rfl) ?_
            exact W.iret (v := 4) hx hb hr (fun t ht hW => ⟨4, rfl, (by have hl := t_4; (repeat' split) <;> omega), ht⟩) (fun q h => by cases h) dX8_shipsAtSea_32
          ·
            have ic_92 : y4stage.toInt = 1 := (g_eq rfl t_1).mp c_92
            clear c_92
            refine lv_iinc (v := 5) (lv' := [(1, .int 5), (2, .int 4), (0, .ref xh)]) hx hb dX8_shipsAtSea_22 hl (k := 1) rfl (by decide) (by decide) rfl (fun ls hl => ?_)
            refine lv_iinc (v := 5) (lv' := [(2, .int 5), (1, .int 5), (0, .ref xh)]) hx hb dX8_shipsAtSea_25 hl (k := 1) rfl (by decide) (by decide) rfl (fun ls hl => ?_)
            refine lv_goto (tgt := 4) hx hb dX8_shipsAtSea_28 (by decide) ?_
            refine lv_iload_n hx hb dX8_shipsAtSea_4 rfl (lv_at hl 0 rfl) ?_
            refine lv_iconst (v := 5) hx hb dX8_shipsAtSea_5 (by decide) ?_
            refine lv_icmp_ge (tgt := 31) hx hb dX8_shipsAtSea_6 (by decide) (fun c_94 => ?_) (fun c_94 => absurd (by decide) c_94)
            refine lv_iload_n hx hb dX8_shipsAtSea_31 rfl (lv_at hl 1 rfl) ?_
            exact W.iret (v := 5) hx hb hr (fun t ht hW => ⟨5, rfl, (by have hl := t_5; (repeat' split) <;> omega), ht⟩) (fun q h => by cases h) dX8_shipsAtSea_32
