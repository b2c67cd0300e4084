set_option maxHeartbeats 4000000 in
set_option maxRecDepth 100000 in
theorem g_X8_isDay (l : Launch) (D : va_G) (E : Nat → Nat) (p0 : Int32)  : Met l yX8_isDay (wl yX8_isDay cX8_isDay 1 (some .boolean)) (RM 0 0 0) (rd_P D E [.int p0] ([] : va_W)) (rd_Q (fun r => ((r = 1 ∧ (0 ≤ p0.toInt ∧ p0.toInt ≤ 399)) ∨ (r = 0 ∧ ¬ (0 ≤ p0.toInt ∧ p0.toInt ≤ 399))))) 0 0 (fun _ => False) := by
  refine Met.ofW (cc := cX8_isDay) (maxL := 1) (ret := (some .boolean)) (by decide) rfl ?_
  intro p e s m args below meth c s₁ B hml hv
  obtain ⟨rfl, hP, hK⟩ := hv
  have hx := B.exec; have hb := B.bytes; have hr := B.returns
  have hts := atoms_spec (ws := wl yX8_isDay cX8_isDay 1 (some .boolean)) B.pre
  have htb : ∀ w ∈ tb, w.before _ s = true := fun w h => hts w (List.mem_cons_of_mem _ h)
  have hown : s.vm.findClass RX8 = some m.cls := findClass_of_methodNamed B.named
  have hlocks := B.notSynchronized
  have hP : va_P D vwCl ([] : va_W) s.heap := hP
  have hl := lv_entry ([.int p0]) (n := 1) (Nat.le_of_ble_eq_true rfl)
  rw [lg_entry_eq]
  generalize (lg_sl ([.int p0]) ++ List.replicate (1 - (lg_sl ([.int p0])).length) Slot.unset).toArray = ls at hl ⊢
  have hl : lv_has ls 1 [(0, .int p0)] := hl
  have lo_p0 := i_lo p0; have hi_p0 := i_hi p0
  refine lv_iload_n hx hb dX8_isDay_0 rfl (lv_at hl 0 rfl) ?_
  refine lv_if_lt (tgt := 15) hx hb dX8_isDay_1 (by decide) (fun c_1 => ?_) (fun c_1 => ?_)
  ·
    have ic_1 : p0.toInt < 0 := by first | exact (g_lt rfl t_0).mp c_1 | (have h := mt (g_le t_0 rfl).mpr c_1; omega)
    clear c_1
    refine lv_iconst (v := 0) hx hb dX8_isDay_15 (by decide) ?_
    exact W.zret (v := 0) hx hb hr rfl (fun t ht hW => ⟨0, rfl, by first | exact Or.inr ⟨rfl, by omega⟩ | (exfalso; omega), ht⟩) (fun q h => by cases h) dX8_isDay_16
  ·
    have ic_1 : 0 ≤ p0.toInt := by first | exact (g_le t_0 rfl).mp c_1 | (have h := mt (g_lt rfl t_0).mpr c_1; omega)
    clear c_1
    refine lv_iload_n hx hb dX8_isDay_4 rfl (lv_at hl 0 rfl) ?_
    refine lv_sipush (v := 400) hx hb dX8_isDay_5 (by decide) ?_
    refine lv_icmp_ge (tgt := 15) hx hb dX8_isDay_8 (by decide) (fun c_2 => ?_) (fun c_2 => ?_)
    ·
      have ic_2 : 400 ≤ p0.toInt := by first | exact (g_le t_400 rfl).mp c_2 | (have h := mt (g_lt rfl t_400).mpr c_2; omega)
      clear c_2
      refine lv_iconst (v := 0) hx hb dX8_isDay_15 (by decide) ?_
      exact W.zret (v := 0) hx hb hr rfl (fun t ht hW => ⟨0, rfl, by first | exact Or.inr ⟨rfl, by omega⟩ | (exfalso; omega), ht⟩) (fun q h => by cases h) dX8_isDay_16
    ·
      have ic_2 : p0.toInt < 400 := by first | exact (g_lt rfl t_400).mp c_2 | (have h := mt (g_le t_400 rfl).mpr c_2; omega)
      clear c_2
      refine lv_iconst (v := 1) hx hb dX8_isDay_11 (by decide) ?_
      refine lv_goto (tgt := 16) hx hb dX8_isDay_12 (by decide) ?_
      exact W.zret (v := 1) hx hb hr rfl (fun t ht hW => ⟨1, rfl, by first | exact Or.inl ⟨rfl, by omega⟩ | (exfalso; omega), ht⟩) (fun q h => by cases h) dX8_isDay_16
set_option maxHeartbeats 4000000 in
set_option maxRecDepth 100000 in
theorem g_X8_isPlace (l : Launch) (D : va_G) (E : Nat → Nat) (p0 : Int32)  : Met l yX8_isPlace (wl yX8_isPlace cX8_isPlace 1 (some .boolean)) (RM 0 0 0) (rd_P D E [.int p0] ([] : va_W)) (rd_Q (fun r => ((r = 1 ∧ (0 ≤ p0.toInt ∧ p0.toInt ≤ 15)) ∨ (r = 0 ∧ ¬ (0 ≤ p0.toInt ∧ p0.toInt ≤ 15))))) 0 0 (fun _ => False) := by
  refine Met.ofW (cc := cX8_isPlace) (maxL := 1) (ret := (some .boolean)) (by decide) rfl ?_
  intro p e s m args below meth c s₁ B hml hv
  obtain ⟨rfl, hP, hK⟩ := hv
  have hx := B.exec; have hb := B.bytes; have hr := B.returns
  have hts := atoms_spec (ws := wl yX8_isPlace cX8_isPlace 1 (some .boolean)) B.pre
  have htb : ∀ w ∈ tb, w.before _ s = true := fun w h => hts w (List.mem_cons_of_mem _ h)
  have hown : s.vm.findClass RX8 = some m.cls := findClass_of_methodNamed B.named
  have hlocks := B.notSynchronized
  have hP : va_P D vwCl ([] : va_W) s.heap := hP
  have hl := lv_entry ([.int p0]) (n := 1) (Nat.le_of_ble_eq_true rfl)
  rw [lg_entry_eq]
  generalize (lg_sl ([.int p0]) ++ List.replicate (1 - (lg_sl ([.int p0])).length) Slot.unset).toArray = ls at hl ⊢
  have hl : lv_has ls 1 [(0, .int p0)] := hl
  have lo_p0 := i_lo p0; have hi_p0 := i_hi p0
  refine lv_iload_n hx hb dX8_isPlace_0 rfl (lv_at hl 0 rfl) ?_
  refine lv_if_lt (tgt := 14) hx hb dX8_isPlace_1 (by decide) (fun c_1 => ?_) (fun c_1 => ?_)
  ·
    have ic_1 : p0.toInt < 0 := by first | exact (g_lt rfl t_0).mp c_1 | (have h := mt (g_le t_0 rfl).mpr c_1; omega)
    clear c_1
    refine lv_iconst (v := 0) hx hb dX8_isPlace_14 (by decide) ?_
    exact W.zret (v := 0) hx hb hr rfl (fun t ht hW => ⟨0, rfl, by first | exact Or.inr ⟨rfl, by omega⟩ | (exfalso; omega), ht⟩) (fun q h => by cases h) dX8_isPlace_15
  ·
    have ic_1 : 0 ≤ p0.toInt := by first | exact (g_le t_0 rfl).mp c_1 | (have h := mt (g_lt rfl t_0).mpr c_1; omega)
    clear c_1
    refine lv_iload_n hx hb dX8_isPlace_4 rfl (lv_at hl 0 rfl) ?_
    refine lv_bipush (v := 16) hx hb dX8_isPlace_5 (by decide) ?_
    refine lv_icmp_ge (tgt := 14) hx hb dX8_isPlace_7 (by decide) (fun c_2 => ?_) (fun c_2 => ?_)
    ·
      have ic_2 : 16 ≤ p0.toInt := by first | exact (g_le t_16 rfl).mp c_2 | (have h := mt (g_lt rfl t_16).mpr c_2; omega)
      clear c_2
      refine lv_iconst (v := 0) hx hb dX8_isPlace_14 (by decide) ?_
      exact W.zret (v := 0) hx hb hr rfl (fun t ht hW => ⟨0, rfl, by first | exact Or.inr ⟨rfl, by omega⟩ | (exfalso; omega), ht⟩) (fun q h => by cases h) dX8_isPlace_15
    ·
      have ic_2 : p0.toInt < 16 := by first | exact (g_lt rfl t_16).mp c_2 | (have h := mt (g_le t_16 rfl).mpr c_2; omega)
      clear c_2
      refine lv_iconst (v := 1) hx hb dX8_isPlace_10 (by decide) ?_
      refine lv_goto (tgt := 15) hx hb dX8_isPlace_11 (by decide) ?_
      exact W.zret (v := 1) hx hb hr rfl (fun t ht hW => ⟨1, rfl, by first | exact Or.inl ⟨rfl, by omega⟩ | (exfalso; omega), ht⟩) (fun q h => by cases h) dX8_isPlace_15
set_option maxHeartbeats 4000000 in
set_option maxRecDepth 100000 in
theorem g_X8_isShip (l : Launch) (D : va_G) (E : Nat → Nat) (p0 : Int32)  : Met l yX8_isShip (wl yX8_isShip cX8_isShip 1 (some .boolean)) (RM 0 0 0) (rd_P D E [.int p0] ([] : va_W)) (rd_Q (fun r => ((r = 1 ∧ (0 ≤ p0.toInt ∧ p0.toInt ≤ 4)) ∨ (r = 0 ∧ ¬ (0 ≤ p0.toInt ∧ p0.toInt ≤ 4))))) 0 0 (fun _ => False) := by
  refine Met.ofW (cc := cX8_isShip) (maxL := 1) (ret := (some .boolean)) (by decide) rfl ?_
  intro p e s m args below meth c s₁ B hml hv
  obtain ⟨rfl, hP, hK⟩ := hv
  have hx := B.exec; have hb := B.bytes; have hr := B.returns
  have hts := atoms_spec (ws := wl yX8_isShip cX8_isShip 1 (some .boolean)) B.pre
  have htb : ∀ w ∈ tb, w.before _ s = true := fun w h => hts w (List.mem_cons_of_mem _ h)
  have hown : s.vm.findClass RX8 = some m.cls := findClass_of_methodNamed B.named
  have hlocks := B.notSynchronized
  have hP : va_P D vwCl ([] : va_W) s.heap := hP
  have hl := lv_entry ([.int p0]) (n := 1) (Nat.le_of_ble_eq_true rfl)
  rw [lg_entry_eq]
  generalize (lg_sl ([.int p0]) ++ List.replicate (1 - (lg_sl ([.int p0])).length) Slot.unset).toArray = ls at hl ⊢
  have hl : lv_has ls 1 [(0, .int p0)] := hl
  have lo_p0 := i_lo p0; have hi_p0 := i_hi p0
  refine lv_iload_n hx hb dX8_isShip_0 rfl (lv_at hl 0 rfl) ?_
  refine lv_if_lt (tgt := 13) hx hb dX8_isShip_1 (by decide) (fun c_1 => ?_) (fun c_1 => ?_)
  ·
    have ic_1 : p0.toInt < 0 := by first | exact (g_lt rfl t_0).mp c_1 | (have h := mt (g_le t_0 rfl).mpr c_1; omega)
    clear c_1
    refine lv_iconst (v := 0) hx hb dX8_isShip_13 (by decide) ?_
    exact W.zret (v := 0) hx hb hr rfl (fun t ht hW => ⟨0, rfl, by first | exact Or.inr ⟨rfl, by omega⟩ | (exfalso; omega), ht⟩) (fun q h => by cases h) dX8_isShip_14
  ·
    have ic_1 : 0 ≤ p0.toInt := by first | exact (g_le t_0 rfl).mp c_1 | (have h := mt (g_lt rfl t_0).mpr c_1; omega)
    clear c_1
    refine lv_iload_n hx hb dX8_isShip_4 rfl (lv_at hl 0 rfl) ?_
    refine lv_iconst (v := 5) hx hb dX8_isShip_5 (by decide) ?_
    refine lv_icmp_ge (tgt := 13) hx hb dX8_isShip_6 (by decide) (fun c_2 => ?_) (fun c_2 => ?_)
    ·
      have ic_2 : 5 ≤ p0.toInt := by first | exact (g_le t_5 rfl).mp c_2 | (have h := mt (g_lt rfl t_5).mpr c_2; omega)
      clear c_2
      refine lv_iconst (v := 0) hx hb dX8_isShip_13 (by decide) ?_
      exact W.zret (v := 0) hx hb hr rfl (fun t ht hW => ⟨0, rfl, by first | exact Or.inr ⟨rfl, by omega⟩ | (exfalso; omega), ht⟩) (fun q h => by cases h) dX8_isShip_14
    ·
      have ic_2 : p0.toInt < 5 := by first | exact (g_lt rfl t_5).mp c_2 | (have h := mt (g_le t_5 rfl).mpr c_2; omega)
      clear c_2
      refine lv_iconst (v := 1) hx hb dX8_isShip_9 (by decide) ?_
      refine lv_goto (tgt := 14) hx hb dX8_isShip_10 (by decide) ?_
      exact W.zret (v := 1) hx hb hr rfl (fun t ht hW => ⟨1, rfl, by first | exact Or.inl ⟨rfl, by omega⟩ | (exfalso; omega), ht⟩) (fun q h => by cases h) dX8_isShip_14
set_option maxHeartbeats 4000000 in
set_option maxRecDepth 100000 in
theorem g_X8_isKnowledge (l : Launch) (D : va_G) (E : Nat → Nat) (p0 : Int32)  : Met l yX8_isKnowledge (wl yX8_isKnowledge cX8_isKnowledge 1 (some .boolean)) (RM 1 0 0) (rd_P D E [.int p0] ([] : va_W)) (rd_Q (fun r => ((r = 1 ∧ (-1 ≤ p0.toInt ∧ p0.toInt ≤ 399)) ∨ (r = 0 ∧ ¬ (-1 ≤ p0.toInt ∧ p0.toInt ≤ 399))))) 0 0 (fun _ => False) := by
  refine Met.ofW (cc := cX8_isKnowledge) (maxL := 1) (ret := (some .boolean)) (by decide) rfl ?_
  intro p e s m args below meth c s₁ B hml hv
  obtain ⟨rfl, hP, hK⟩ := hv
  have hx := B.exec; have hb := B.bytes; have hr := B.returns
  have hts := atoms_spec (ws := wl yX8_isKnowledge cX8_isKnowledge 1 (some .boolean)) B.pre
  have htb : ∀ w ∈ tb, w.before _ s = true := fun w h => hts w (List.mem_cons_of_mem _ h)
  have hown : s.vm.findClass RX8 = some m.cls := findClass_of_methodNamed B.named
  have hlocks := B.notSynchronized
  have hP : va_P D vwCl ([] : va_W) s.heap := hP
  have hl := lv_entry ([.int p0]) (n := 1) (Nat.le_of_ble_eq_true rfl)
  rw [lg_entry_eq]
  generalize (lg_sl ([.int p0]) ++ List.replicate (1 - (lg_sl ([.int p0])).length) Slot.unset).toArray = ls at hl ⊢
  have hl : lv_has ls 1 [(0, .int p0)] := hl
  have lo_p0 := i_lo p0; have hi_p0 := i_hi p0
  refine lv_iload_n hx hb dX8_isKnowledge_0 rfl (lv_at hl 0 rfl) ?_
  refine lv_iconst (v := (-1)) hx hb dX8_isKnowledge_1 (by decide) ?_
  refine lv_icmp_eq (tgt := 12) hx hb dX8_isKnowledge_2 (by decide) (fun c_1 => ?_) (fun c_1 => ?_)
  ·
    have ic_1 : p0.toInt = -1 := (g_eq rfl t_m1).mp c_1
    clear c_1
    refine lv_iconst (v := 1) hx hb dX8_isKnowledge_12 (by decide) ?_
    refine lv_goto (tgt := 17) hx hb dX8_isKnowledge_13 (by decide) ?_
    exact W.zret (v := 1) hx hb hr rfl (fun t ht hW => ⟨1, rfl, by first | exact Or.inl ⟨rfl, by omega⟩ | (exfalso; omega), ht⟩) (fun q h => by cases h) dX8_isKnowledge_17
  ·
    have ic_1 : p0.toInt ≠ -1 := mt (g_eq rfl t_m1).mpr c_1
    clear c_1
    refine lv_iload_n hx hb dX8_isKnowledge_5 rfl (lv_at hl 0 rfl) ?_
    refine callRS (rest := []) (As := [.int p0]) hx hb hml hown htb hK (g_X8_isDay l D E p0 ) ok_X8_isDay k_323 k_324 k_1 k_325 ⟨(Nat.le_of_ble_eq_true rfl), (Nat.le_of_ble_eq_true rfl)⟩ ⟨(Nat.le_of_ble_eq_true rfl), (Nat.le_of_ble_eq_true rfl)⟩ hl.1 (Nat.le_of_ble_eq_true rfl) rfl rfl dX8_isKnowledge_6 (hP.sub (ws' := ([] : va_W)) [] rfl) (fun r_2 hw_3 => ?_)
    rcases hw_3 with ⟨hr_2, hw_3⟩ | ⟨hr_2, hw_3⟩
    ·
      refine W_top (y := .int 1) (by rw [hr_2]) ?_
      refine lv_if_eq (tgt := 16) hx hb dX8_isKnowledge_9 (by decide) (fun c_5 => absurd c_5 (by decide)) (fun c_5 => ?_)
      refine lv_iconst (v := 1) hx hb dX8_isKnowledge_12 (by decide) ?_
      refine lv_goto (tgt := 17) hx hb dX8_isKnowledge_13 (by decide) ?_
      exact W.zret (v := 1) hx hb hr rfl (fun t ht hW => ⟨1, rfl, by first | exact Or.inl ⟨rfl, by omega⟩ | (exfalso; omega), ht⟩) (fun q h => by cases h) dX8_isKnowledge_17
    ·
      refine W_top (y := .int 0) (by rw [hr_2]) ?_
      refine lv_if_eq (tgt := 16) hx hb dX8_isKnowledge_9 (by decide) (fun c_6 => ?_) (fun c_6 => absurd (by decide) c_6)
      refine lv_iconst (v := 0) hx hb dX8_isKnowledge_16 (by decide) ?_
      exact W.zret (v := 0) hx hb hr rfl (fun t ht hW => ⟨0, rfl, by first | exact Or.inr ⟨rfl, by omega⟩ | (exfalso; omega), ht⟩) (fun q h => by cases h) dX8_isKnowledge_17
set_option maxHeartbeats 4000000 in
set_option maxRecDepth 100000 in
theorem g_X8_isWithin (l : Launch) (D : va_G) (E : Nat → Nat) (p0 : Int32) (p1 : Int32) (g0 : 0 ≤ p1.toInt) : Met l yX8_isWithin (wl yX8_isWithin cX8_isWithin 2 (some .boolean)) (RM 0 0 0) (rd_P D E [.int p0, .int p1] ([] : va_W)) (rd_Q (fun r => ((r = 1 ∧ (-p1.toInt ≤ p0.toInt ∧ p0.toInt ≤ p1.toInt)) ∨ (r = 0 ∧ ¬ (-p1.toInt ≤ p0.toInt ∧ p0.toInt ≤ p1.toInt))))) 0 0 (fun _ => False) := by
  refine Met.ofW (cc := cX8_isWithin) (maxL := 2) (ret := (some .boolean)) (by decide) rfl ?_
  intro p e s m args below meth c s₁ B hml hv
  obtain ⟨rfl, hP, hK⟩ := hv
  have hx := B.exec; have hb := B.bytes; have hr := B.returns
  have hts := atoms_spec (ws := wl yX8_isWithin cX8_isWithin 2 (some .boolean)) B.pre
  have htb : ∀ w ∈ tb, w.before _ s = true := fun w h => hts w (List.mem_cons_of_mem _ h)
  have hown : s.vm.findClass RX8 = some m.cls := findClass_of_methodNamed B.named
  have hlocks := B.notSynchronized
  have hP : va_P D vwCl ([] : va_W) s.heap := hP
  have hl := lv_entry ([.int p0, .int p1]) (n := 2) (Nat.le_of_ble_eq_true rfl)
  rw [lg_entry_eq]
  generalize (lg_sl ([.int p0, .int p1]) ++ List.replicate (2 - (lg_sl ([.int p0, .int p1])).length) Slot.unset).toArray = ls at hl ⊢
  have hl : lv_has ls 2 [(0, .int p0), (1, .int p1)] := hl
  have lo_p0 := i_lo p0; have hi_p0 := i_hi p0
  have lo_p1 := i_lo p1; have hi_p1 := i_hi p1
  refine lv_iload_n hx hb dX8_isWithin_0 rfl (lv_at hl 0 rfl) ?_
  refine lv_iload_n hx hb dX8_isWithin_1 rfl (lv_at hl 1 rfl) ?_
  refine lv_ineg hx hb dX8_isWithin_2 ?_
  refine lv_topi (fun z_1 ez_1 => ?_)
  have jz_1 : z_1.toInt = -p1.toInt := by rw [ez_1]; exact i_neg (by omega)
  refine lv_icmp_lt (tgt := 15) hx hb dX8_isWithin_3 (by decide) (fun c_2 => ?_) (fun c_2 => ?_)
  ·
    have ic_2 : p0.toInt < z_1.toInt := by first | exact (g_lt rfl rfl).mp c_2 | (have h := mt (g_le rfl rfl).mpr c_2; omega)
    clear c_2
    refine lv_iconst (v := 0) hx hb dX8_isWithin_15 (by decide) ?_
    exact W.zret (v := 0) hx hb hr rfl (fun t ht hW => ⟨0, rfl, by first | exact Or.inr ⟨rfl, by omega⟩ | (exfalso; omega), ht⟩) (fun q h => by cases h) dX8_isWithin_16
  ·
    have ic_2 : z_1.toInt ≤ p0.toInt := by first | exact (g_le rfl rfl).mp c_2 | (have h := mt (g_lt rfl rfl).mpr c_2; omega)
    clear c_2
    refine lv_iload_n hx hb dX8_isWithin_6 rfl (lv_at hl 0 rfl) ?_
    refine lv_iload_n hx hb dX8_isWithin_7 rfl (lv_at hl 1 rfl) ?_
    refine lv_icmp_gt (tgt := 15) hx hb dX8_isWithin_8 (by decide) (fun c_3 => ?_) (fun c_3 => ?_)
    ·
      have ic_3 : p1.toInt < p0.toInt := by first | exact (g_lt rfl rfl).mp c_3 | (have h := mt (g_le rfl rfl).mpr c_3; omega)
      clear c_3
      refine lv_iconst (v := 0) hx hb dX8_isWithin_15 (by decide) ?_
      exact W.zret (v := 0) hx hb hr rfl (fun t ht hW => ⟨0, rfl, by first | exact Or.inr ⟨rfl, by omega⟩ | (exfalso; omega), ht⟩) (fun q h => by cases h) dX8_isWithin_16
    ·
      have ic_3 : p0.toInt ≤ p1.toInt := by first | exact (g_le rfl rfl).mp c_3 | (have h := mt (g_lt rfl rfl).mpr c_3; omega)
      clear c_3
      refine lv_iconst (v := 1) hx hb dX8_isWithin_11 (by decide) ?_
      refine lv_goto (tgt := 16) hx hb dX8_isWithin_12 (by decide) ?_
      exact W.zret (v := 1) hx hb hr rfl (fun t ht hW => ⟨1, rfl, by first | exact Or.inl ⟨rfl, by omega⟩ | (exfalso; omega), ht⟩) (fun q h => by cases h) dX8_isWithin_16
set_option maxHeartbeats 4000000 in
set_option maxRecDepth 100000 in
theorem g_X8_isStretch (l : Launch) (D : va_G) (E : Nat → Nat) (p0 : Int32) (p1 : Int32)  : Met l yX8_isStretch (wl yX8_isStretch cX8_isStretch 2 (some .boolean)) (RM 1 0 0) (rd_P D E [.int p0, .int p1] ([] : va_W)) (rd_Q (fun r => ((r = 1 ∧ (0 ≤ p0.toInt ∧ p1.toInt ≤ 399 ∧ p0.toInt < p1.toInt ∧ p1.toInt - p0.toInt ≤ 60)) ∨ (r = 0 ∧ ¬ (0 ≤ p0.toInt ∧ p1.toInt ≤ 399 ∧ p0.toInt < p1.toInt ∧ p1.toInt - p0.toInt ≤ 60))))) 0 0 (fun _ => False) := by
  refine Met.ofW (cc := cX8_isStretch) (maxL := 2) (ret := (some .boolean)) (by decide) rfl ?_
  intro p e s m args below meth c s₁ B hml hv
  obtain ⟨rfl, hP, hK⟩ := hv
  have hx := B.exec; have hb := B.bytes; have hr := B.returns
  have hts := atoms_spec (ws := wl yX8_isStretch cX8_isStretch 2 (some .boolean)) B.pre
  have htb : ∀ w ∈ tb, w.before _ s = true := fun w h => hts w (List.mem_cons_of_mem _ h)
  have hown : s.vm.findClass RX8 = some m.cls := findClass_of_methodNamed B.named
  have hlocks := B.notSynchronized
  have hP : va_P D vwCl ([] : va_W) s.heap := hP
  have hl := lv_entry ([.int p0, .int p1]) (n := 2) (Nat.le_of_ble_eq_true rfl)
  rw [lg_entry_eq]
  generalize (lg_sl ([.int p0, .int p1]) ++ List.replicate (2 - (lg_sl ([.int p0, .int p1])).length) Slot.unset).toArray = ls at hl ⊢
  have hl : lv_has ls 2 [(0, .int p0), (1, .int p1)] := hl
  have lo_p0 := i_lo p0; have hi_p0 := i_hi p0
  have lo_p1 := i_lo p1; have hi_p1 := i_hi p1
  refine lv_iload_n hx hb dX8_isStretch_0 rfl (lv_at hl 0 rfl) ?_
  refine callRS (rest := []) (As := [.int p0]) hx hb hml hown htb hK (g_X8_isDay l D E p0 ) ok_X8_isDay k_323 k_324 k_1 k_325 ⟨(Nat.le_of_ble_eq_true rfl), (Nat.le_of_ble_eq_true rfl)⟩ ⟨(Nat.le_of_ble_eq_true rfl), (Nat.le_of_ble_eq_true rfl)⟩ hl.1 (Nat.le_of_ble_eq_true rfl) rfl rfl dX8_isStretch_1 (hP.sub (ws' := ([] : va_W)) [] rfl) (fun r_1 hw_2 => ?_)
  rcases hw_2 with ⟨hr_1, hw_2⟩ | ⟨hr_1, hw_2⟩
  ·
    refine W_top (y := .int 1) (by rw [hr_1]) ?_
    refine lv_if_eq (tgt := 31) hx hb dX8_isStretch_4 (by decide) (fun c_4 => absurd c_4 (by decide)) (fun c_4 => ?_)
    refine lv_iload_n hx hb dX8_isStretch_7 rfl (lv_at hl 1 rfl) ?_
    refine callRS (rest := []) (As := [.int p1]) hx hb hml hown htb hK (g_X8_isDay l D E p1 ) ok_X8_isDay k_323 k_324 k_1 k_325 ⟨(Nat.le_of_ble_eq_true rfl), (Nat.le_of_ble_eq_true rfl)⟩ ⟨(Nat.le_of_ble_eq_true rfl), (Nat.le_of_ble_eq_true rfl)⟩ hl.1 (Nat.le_of_ble_eq_true rfl) rfl rfl dX8_isStretch_8 (hP.sub (ws' := ([] : va_W)) [] rfl) (fun r_5 hw_6 => ?_)
    rcases hw_6 with ⟨hr_5, hw_6⟩ | ⟨hr_5, hw_6⟩
    ·
      refine W_top (y := .int 1) (by rw [hr_5]) ?_
      refine lv_if_eq (tgt := 31) hx hb dX8_isStretch_11 (by decide) (fun c_8 => absurd c_8 (by decide)) (fun c_8 => ?_)
      refine lv_iload_n hx hb dX8_isStretch_14 rfl (lv_at hl 0 rfl) ?_
      refine lv_iload_n hx hb dX8_isStretch_15 rfl (lv_at hl 1 rfl) ?_
      refine lv_icmp_ge (tgt := 31) hx hb dX8_isStretch_16 (by decide) (fun c_9 => ?_) (fun c_9 => ?_)
      ·
        have ic_9 : p1.toInt ≤ p0.toInt := by first | exact (g_le rfl rfl).mp c_9 | (have h := mt (g_lt rfl rfl).mpr c_9; omega)
        clear c_9
        refine lv_iconst (v := 0) hx hb dX8_isStretch_31 (by decide) ?_
        exact W.zret (v := 0) hx hb hr rfl (fun t ht hW => ⟨0, rfl, by first | exact Or.inr ⟨rfl, by omega⟩ | (exfalso; omega), ht⟩) (fun q h => by cases h) dX8_isStretch_32
      ·
        have ic_9 : p0.toInt < p1.toInt := by first | exact (g_lt rfl rfl).mp c_9 | (have h := mt (g_le rfl rfl).mpr c_9; omega)
        clear c_9
        refine lv_iload_n hx hb dX8_isStretch_19 rfl (lv_at hl 1 rfl) ?_
        refine lv_iload_n hx hb dX8_isStretch_20 rfl (lv_at hl 0 rfl) ?_
        refine lv_isub hx hb dX8_isStretch_21 ?_
        refine lv_topi (fun z_10 ez_10 => ?_)
        have jz_10 : z_10.toInt = p1.toInt - p0.toInt := by rw [ez_10]; exact g_sub rfl rfl (by omega) (by omega)
        refine lv_bipush (v := 60) hx hb dX8_isStretch_22 (by decide) ?_
        refine lv_icmp_gt (tgt := 31) hx hb dX8_isStretch_24 (by decide) (fun c_11 => ?_) (fun c_11 => ?_)
        ·
          have ic_11 : 60 < z_10.toInt := by first | exact (g_lt t_60 rfl).mp c_11 | (have h := mt (g_le rfl t_60).mpr c_11; omega)
          clear c_11
          refine lv_iconst (v := 0) hx hb dX8_isStretch_31 (by decide) ?_
          exact W.zret (v := 0) hx hb hr rfl (fun t ht hW => ⟨0, rfl, by first | exact Or.inr ⟨rfl, by omega⟩ | (exfalso; omega), ht⟩) (fun q h => by cases h) dX8_isStretch_32
        ·
          have ic_11 : z_10.toInt ≤ 60 := by first | exact (g_le rfl t_60).mp c_11 | (have h := mt (g_lt t_60 rfl).mpr c_11; omega)
          clear c_11
          refine lv_iconst (v := 1) hx hb dX8_isStretch_27 (by decide) ?_
          refine lv_goto (tgt := 32) hx hb dX8_isStretch_28 (by decide) ?_
          exact W.zret (v := 1) hx hb hr rfl (fun t ht hW => ⟨1, rfl, by first | exact Or.inl ⟨rfl, by omega⟩ | (exfalso; omega), ht⟩) (fun q h => by cases h) dX8_isStretch_32
    ·
      refine W_top (y := .int 0) (by rw [hr_5]) ?_
      refine lv_if_eq (tgt := 31) hx hb dX8_isStretch_11 (by decide) (fun c_12 => ?_) (fun c_12 => absurd (by decide) c_12)
      refine lv_iconst (v := 0) hx hb dX8_isStretch_31 (by decide) ?_
      exact W.zret (v := 0) hx hb hr rfl (fun t ht hW => ⟨0, rfl, by first | exact Or.inr ⟨rfl, by omega⟩ | (exfalso; omega), ht⟩) (fun q h => by cases h) dX8_isStretch_32
  ·
    refine W_top (y := .int 0) (by rw [hr_1]) ?_
    refine lv_if_eq (tgt := 31) hx hb dX8_isStretch_4 (by decide) (fun c_13 => ?_) (fun c_13 => absurd (by decide) c_13)
    refine lv_iconst (v := 0) hx hb dX8_isStretch_31 (by decide) ?_
    exact W.zret (v := 0) hx hb hr rfl (fun t ht hW => ⟨0, rfl, by first | exact Or.inr ⟨rfl, by omega⟩ | (exfalso; omega), ht⟩) (fun q h => by cases h) dX8_isStretch_32
set_option maxHeartbeats 4000000 in
set_option maxRecDepth 100000 in
theorem g_X8_fitsKind (l : Launch) (D : va_G) (E : Nat → Nat) (p0 : Int32) (p1 : Int32)  : Met l yX8_fitsKind (wl yX8_fitsKind cX8_fitsKind 2 (some .boolean)) (RM 1 0 0) (rd_P D E [.int p0, .int p1] ([] : va_W)) (rd_Q (fun r => ((r = 1 ∧ ((p0.toInt = 0 ∧ p1.toInt = 0) ∨ (p0.toInt = 1 ∧ -50 ≤ p1.toInt ∧ p1.toInt ≤ 50) ∨ p0.toInt = 2)) ∨ (r = 0 ∧ ¬ ((p0.toInt = 0 ∧ p1.toInt = 0) ∨ (p0.toInt = 1 ∧ -50 ≤ p1.toInt ∧ p1.toInt ≤ 50) ∨ p0.toInt = 2))))) 0 0 (fun _ => False) := by
  refine Met.ofW (cc := cX8_fitsKind) (maxL := 2) (ret := (some .boolean)) (by decide) rfl ?_
  intro p e s m args below meth c s₁ B hml hv
  obtain ⟨rfl, hP, hK⟩ := hv
  have hx := B.exec; have hb := B.bytes; have hr := B.returns
  have hts := atoms_spec (ws := wl yX8_fitsKind cX8_fitsKind 2 (some .boolean)) B.pre
  have htb : ∀ w ∈ tb, w.before _ s = true := fun w h => hts w (List.mem_cons_of_mem _ h)
  have hown : s.vm.findClass RX8 = some m.cls := findClass_of_methodNamed B.named
  have hlocks := B.notSynchronized
  have hP : va_P D vwCl ([] : va_W) s.heap := hP
  have hl := lv_entry ([.int p0, .int p1]) (n := 2) (Nat.le_of_ble_eq_true rfl)
  rw [lg_entry_eq]
  generalize (lg_sl ([.int p0, .int p1]) ++ List.replicate (2 - (lg_sl ([.int p0, .int p1])).length) Slot.unset).toArray = ls at hl ⊢
  have hl : lv_has ls 2 [(0, .int p0), (1, .int p1)] := hl
  have lo_p0 := i_lo p0; have hi_p0 := i_hi p0
  have lo_p1 := i_lo p1; have hi_p1 := i_hi p1
  refine lv_iload_n hx hb dX8_fitsKind_0 rfl (lv_at hl 0 rfl) ?_
  refine lv_if_ne (tgt := 8) hx hb dX8_fitsKind_1 (by decide) (fun c_1 => ?_) (fun c_1 => ?_)
  ·
    have ic_1 : p0.toInt ≠ 0 := mt (g_eq rfl t_0).mpr c_1
    clear c_1
    refine lv_iload_n hx hb dX8_fitsKind_8 rfl (lv_at hl 0 rfl) ?_
    refine lv_iconst (v := 1) hx hb dX8_fitsKind_9 (by decide) ?_
    refine lv_icmp_ne (tgt := 22) hx hb dX8_fitsKind_10 (by decide) (fun c_2 => ?_) (fun c_2 => ?_)
    ·
      have ic_2 : p0.toInt ≠ 1 := mt (g_eq rfl t_1).mpr c_2
      clear c_2
      refine lv_iload_n hx hb dX8_fitsKind_22 rfl (lv_at hl 0 rfl) ?_
      refine lv_iconst (v := 2) hx hb dX8_fitsKind_23 (by decide) ?_
      refine lv_icmp_ne (tgt := 31) hx hb dX8_fitsKind_24 (by decide) (fun c_3 => ?_) (fun c_3 => ?_)
      ·
        have ic_3 : p0.toInt ≠ 2 := mt (g_eq rfl t_2).mpr c_3
        clear c_3
        refine lv_iconst (v := 0) hx hb dX8_fitsKind_31 (by decide) ?_
        exact W.zret (v := 0) hx hb hr rfl (fun t ht hW => ⟨0, rfl, by first | exact Or.inr ⟨rfl, by omega⟩ | (exfalso; omega), ht⟩) (fun q h => by cases h) dX8_fitsKind_32
      ·
        have ic_3 : p0.toInt = 2 := (g_eq rfl t_2).mp c_3
        clear c_3
        refine lv_iconst (v := 1) hx hb dX8_fitsKind_27 (by decide) ?_
        refine lv_goto (tgt := 32) hx hb dX8_fitsKind_28 (by decide) ?_
        exact W.zret (v := 1) hx hb hr rfl (fun t ht hW => ⟨1, rfl, by first | exact Or.inl ⟨rfl, by omega⟩ | (exfalso; omega), ht⟩) (fun q h => by cases h) dX8_fitsKind_32
    ·
      have ic_2 : p0.toInt = 1 := (g_eq rfl t_1).mp c_2
      clear c_2
      refine lv_iload_n hx hb dX8_fitsKind_13 rfl (lv_at hl 1 rfl) ?_
      refine lv_bipush (v := 50) hx hb dX8_fitsKind_14 (by decide) ?_
      refine callRS (rest := []) (As := [.int p1, .int 50]) hx hb hml hown htb hK (g_X8_isWithin l D E p1 50 (by decide)) ok_X8_isWithin k_326 k_327 k_1 k_328 ⟨(Nat.le_of_ble_eq_true rfl), (Nat.le_of_ble_eq_true rfl)⟩ ⟨(Nat.le_of_ble_eq_true rfl), (Nat.le_of_ble_eq_true rfl)⟩ hl.1 (Nat.le_of_ble_eq_true rfl) rfl rfl dX8_fitsKind_16 (hP.sub (ws' := ([] : va_W)) [] rfl) (fun r_4 hw_5 => ?_)
      try simp only [t_50] at hw_5
      rcases hw_5 with ⟨hr_4, hw_5⟩ | ⟨hr_4, hw_5⟩
      ·
        try simp only [t_50] at hw_5
        refine W_top (y := .int 1) (by rw [hr_4]) ?_
        refine lv_if_ne (tgt := 27) hx hb dX8_fitsKind_19 (by decide) (fun c_7 => ?_) (fun c_7 => absurd c_7 (by decide))
        refine lv_iconst (v := 1) hx hb dX8_fitsKind_27 (by decide) ?_
        refine lv_goto (tgt := 32) hx hb dX8_fitsKind_28 (by decide) ?_
        exact W.zret (v := 1) hx hb hr rfl (fun t ht hW => ⟨1, rfl, by first | exact Or.inl ⟨rfl, by omega⟩ | (exfalso; omega), ht⟩) (fun q h => by cases h) dX8_fitsKind_32
      ·
        try simp only [t_50] at hw_5
        refine W_top (y := .int 0) (by rw [hr_4]) ?_
        refine lv_if_ne (tgt := 27) hx hb dX8_fitsKind_19 (by decide) (fun c_8 => absurd (by decide) c_8) (fun c_8 => ?_)
        refine lv_iload_n hx hb dX8_fitsKind_22 rfl (lv_at hl 0 rfl) ?_
        refine lv_iconst (v := 2) hx hb dX8_fitsKind_23 (by decide) ?_
        refine lv_icmp_ne (tgt := 31) hx hb dX8_fitsKind_24 (by decide) (fun c_9 => ?_) (fun c_9 => absurd c_9 (by rw [g_eq rfl t_2]; omega))
        refine lv_iconst (v := 0) hx hb dX8_fitsKind_31 (by decide) ?_
        exact W.zret (v := 0) hx hb hr rfl (fun t ht hW => ⟨0, rfl, by first | exact Or.inr ⟨rfl, by omega⟩ | (exfalso; omega), ht⟩) (fun q h => by cases h) dX8_fitsKind_32
  ·
    have ic_1 : p0.toInt = 0 := (g_eq rfl t_0).mp c_1
    clear c_1
    refine lv_iload_n hx hb dX8_fitsKind_4 rfl (lv_at hl 1 rfl) ?_
    refine lv_if_eq (tgt := 27) hx hb dX8_fitsKind_5 (by decide) (fun c_10 => ?_) (fun c_10 => ?_)
    ·
      have ic_10 : p1.toInt = 0 := (g_eq rfl t_0).mp c_10
      clear c_10
      refine lv_iconst (v := 1) hx hb dX8_fitsKind_27 (by decide) ?_
      refine lv_goto (tgt := 32) hx hb dX8_fitsKind_28 (by decide) ?_
      exact W.zret (v := 1) hx hb hr rfl (fun t ht hW => ⟨1, rfl, by first | exact Or.inl ⟨rfl, by omega⟩ | (exfalso; omega), ht⟩) (fun q h => by cases h) dX8_fitsKind_32
    ·
      have ic_10 : p1.toInt ≠ 0 := mt (g_eq rfl t_0).mpr c_10
      clear c_10
      refine lv_iload_n hx hb dX8_fitsKind_8 rfl (lv_at hl 0 rfl) ?_
      refine lv_iconst (v := 1) hx hb dX8_fitsKind_9 (by decide) ?_
      refine lv_icmp_ne (tgt := 22) hx hb dX8_fitsKind_10 (by decide) (fun c_11 => ?_) (fun c_11 => absurd c_11 (by rw [g_eq rfl t_1]; omega))
      refine lv_iload_n hx hb dX8_fitsKind_22 rfl (lv_at hl 0 rfl) ?_
      refine lv_iconst (v := 2) hx hb dX8_fitsKind_23 (by decide) ?_
      refine lv_icmp_ne (tgt := 31) hx hb dX8_fitsKind_24 (by decide) (fun c_12 => ?_) (fun c_12 => absurd c_12 (by rw [g_eq rfl t_2]; omega))
      refine lv_iconst (v := 0) hx hb dX8_fitsKind_31 (by decide) ?_
      exact W.zret (v := 0) hx hb hr rfl (fun t ht hW => ⟨0, rfl, by first | exact Or.inr ⟨rfl, by omega⟩ | (exfalso; omega), ht⟩) (fun q h => by cases h) dX8_fitsKind_32
