set_option maxHeartbeats 4000000 in
set_option maxRecDepth 100000 in
theorem g_X6_isLetter (l : Launch) (D : va_G) (E : Nat → Nat) (p0 : Int32)  : Met l yX6_isLetter (wl yX6_isLetter cX6_isLetter 1 (some .boolean)) (RM 0 0 0) (rd_P D E [.int p0] ([] : va_W)) (rd_Q (fun r => ((r = 1 ∧ (97 ≤ p0.toInt ∧ p0.toInt ≤ 122)) ∨ (r = 0 ∧ ¬ (97 ≤ p0.toInt ∧ p0.toInt ≤ 122))))) 0 0 (fun _ => False) := by
  refine Met.ofW (cc := cX6_isLetter) (maxL := 1) (ret := (some .boolean)) (by decide) rfl ?_
  intro p e s m args below meth c s₁ B hml hv
  obtain ⟨rfl, hP, hK⟩ := hv
  have hx := B.exec; have hb := B.bytes; have hr := B.returns
  have hts := atoms_spec (ws := wl yX6_isLetter cX6_isLetter 1 (some .boolean)) B.pre
  have htb : ∀ w ∈ tb, w.before _ s = true := fun w h => hts w (List.mem_cons_of_mem _ h)
  have hown : s.vm.findClass RX6 = some m.cls := findClass_of_methodNamed B.named
  have hlocks := B.notSynchronized
  have hP : va_P D vwCl ([] : va_W) s.heap := hP
  have hl := lv_entry ([.int p0]) (n := 1) (Nat.le_of_ble_eq_true rfl)
  rw [lg_entry_eq]
  generalize (lg_sl ([.int p0]) ++ List.replicate (1 - (lg_sl ([.int p0])).length) Slot.unset).toArray = ls at hl ⊢
  have hl : lv_has ls 1 [(0, .int p0)] := hl
  have lo_p0 := i_lo p0; have hi_p0 := i_hi p0
  refine lv_iload_n hx hb dX6_isLetter_0 rfl (lv_at hl 0 rfl) ?_
  refine lv_bipush (v := 97) hx hb dX6_isLetter_1 (by decide) ?_
  refine lv_icmp_lt (tgt := 16) hx hb dX6_isLetter_3 (by decide) (fun c_1 => ?_) (fun c_1 => ?_)
  ·
    have ic_1 : p0.toInt < 97 := by first | exact (g_lt rfl t_97).mp c_1 | (have h := mt (g_le t_97 rfl).mpr c_1; omega)
    clear c_1
    refine lv_iconst (v := 0) hx hb dX6_isLetter_16 (by decide) ?_
    exact W.zret (v := 0) hx hb hr rfl (fun t ht hW => ⟨0, rfl, by first | exact Or.inr ⟨rfl, by omega⟩ | (exfalso; omega), ht⟩) (fun q h => by cases h) dX6_isLetter_17
  ·
    have ic_1 : 97 ≤ p0.toInt := by first | exact (g_le t_97 rfl).mp c_1 | (have h := mt (g_lt rfl t_97).mpr c_1; omega)
    clear c_1
    refine lv_iload_n hx hb dX6_isLetter_6 rfl (lv_at hl 0 rfl) ?_
    refine lv_bipush (v := 122) hx hb dX6_isLetter_7 (by decide) ?_
    refine lv_icmp_gt (tgt := 16) hx hb dX6_isLetter_9 (by decide) (fun c_2 => ?_) (fun c_2 => ?_)
    ·
      have ic_2 : 122 < p0.toInt := by first | exact (g_lt t_122 rfl).mp c_2 | (have h := mt (g_le rfl t_122).mpr c_2; omega)
      clear c_2
      refine lv_iconst (v := 0) hx hb dX6_isLetter_16 (by decide) ?_
      exact W.zret (v := 0) hx hb hr rfl (fun t ht hW => ⟨0, rfl, by first | exact Or.inr ⟨rfl, by omega⟩ | (exfalso; omega), ht⟩) (fun q h => by cases h) dX6_isLetter_17
    ·
      have ic_2 : p0.toInt ≤ 122 := by first | exact (g_le rfl t_122).mp c_2 | (have h := mt (g_lt t_122 rfl).mpr c_2; omega)
      clear c_2
      refine lv_iconst (v := 1) hx hb dX6_isLetter_12 (by decide) ?_
      refine lv_goto (tgt := 17) hx hb dX6_isLetter_13 (by decide) ?_
      exact W.zret (v := 1) hx hb hr rfl (fun t ht hW => ⟨1, rfl, by first | exact Or.inl ⟨rfl, by omega⟩ | (exfalso; omega), ht⟩) (fun q h => by cases h) dX6_isLetter_17
set_option maxHeartbeats 4000000 in
set_option maxRecDepth 100000 in
theorem g_X6_isDigit (l : Launch) (D : va_G) (E : Nat → Nat) (p0 : Int32)  : Met l yX6_isDigit (wl yX6_isDigit cX6_isDigit 1 (some .boolean)) (RM 0 0 0) (rd_P D E [.int p0] ([] : va_W)) (rd_Q (fun r => ((r = 1 ∧ (48 ≤ p0.toInt ∧ p0.toInt ≤ 57)) ∨ (r = 0 ∧ ¬ (48 ≤ p0.toInt ∧ p0.toInt ≤ 57))))) 0 0 (fun _ => False) := by
  refine Met.ofW (cc := cX6_isDigit) (maxL := 1) (ret := (some .boolean)) (by decide) rfl ?_
  intro p e s m args below meth c s₁ B hml hv
  obtain ⟨rfl, hP, hK⟩ := hv
  have hx := B.exec; have hb := B.bytes; have hr := B.returns
  have hts := atoms_spec (ws := wl yX6_isDigit cX6_isDigit 1 (some .boolean)) B.pre
  have htb : ∀ w ∈ tb, w.before _ s = true := fun w h => hts w (List.mem_cons_of_mem _ h)
  have hown : s.vm.findClass RX6 = some m.cls := findClass_of_methodNamed B.named
  have hlocks := B.notSynchronized
  have hP : va_P D vwCl ([] : va_W) s.heap := hP
  have hl := lv_entry ([.int p0]) (n := 1) (Nat.le_of_ble_eq_true rfl)
  rw [lg_entry_eq]
  generalize (lg_sl ([.int p0]) ++ List.replicate (1 - (lg_sl ([.int p0])).length) Slot.unset).toArray = ls at hl ⊢
  have hl : lv_has ls 1 [(0, .int p0)] := hl
  have lo_p0 := i_lo p0; have hi_p0 := i_hi p0
  refine lv_iload_n hx hb dX6_isDigit_0 rfl (lv_at hl 0 rfl) ?_
  refine lv_bipush (v := 48) hx hb dX6_isDigit_1 (by decide) ?_
  refine lv_icmp_lt (tgt := 16) hx hb dX6_isDigit_3 (by decide) (fun c_1 => ?_) (fun c_1 => ?_)
  ·
    have ic_1 : p0.toInt < 48 := by first | exact (g_lt rfl t_48).mp c_1 | (have h := mt (g_le t_48 rfl).mpr c_1; omega)
    clear c_1
    refine lv_iconst (v := 0) hx hb dX6_isDigit_16 (by decide) ?_
    exact W.zret (v := 0) hx hb hr rfl (fun t ht hW => ⟨0, rfl, by first | exact Or.inr ⟨rfl, by omega⟩ | (exfalso; omega), ht⟩) (fun q h => by cases h) dX6_isDigit_17
  ·
    have ic_1 : 48 ≤ p0.toInt := by first | exact (g_le t_48 rfl).mp c_1 | (have h := mt (g_lt rfl t_48).mpr c_1; omega)
    clear c_1
    refine lv_iload_n hx hb dX6_isDigit_6 rfl (lv_at hl 0 rfl) ?_
    refine lv_bipush (v := 57) hx hb dX6_isDigit_7 (by decide) ?_
    refine lv_icmp_gt (tgt := 16) hx hb dX6_isDigit_9 (by decide) (fun c_2 => ?_) (fun c_2 => ?_)
    ·
      have ic_2 : 57 < p0.toInt := by first | exact (g_lt t_57 rfl).mp c_2 | (have h := mt (g_le rfl t_57).mpr c_2; omega)
      clear c_2
      refine lv_iconst (v := 0) hx hb dX6_isDigit_16 (by decide) ?_
      exact W.zret (v := 0) hx hb hr rfl (fun t ht hW => ⟨0, rfl, by first | exact Or.inr ⟨rfl, by omega⟩ | (exfalso; omega), ht⟩) (fun q h => by cases h) dX6_isDigit_17
    ·
      have ic_2 : p0.toInt ≤ 57 := by first | exact (g_le rfl t_57).mp c_2 | (have h := mt (g_lt t_57 rfl).mpr c_2; omega)
      clear c_2
      refine lv_iconst (v := 1) hx hb dX6_isDigit_12 (by decide) ?_
      refine lv_goto (tgt := 17) hx hb dX6_isDigit_13 (by decide) ?_
      exact W.zret (v := 1) hx hb hr rfl (fun t ht hW => ⟨1, rfl, by first | exact Or.inl ⟨rfl, by omega⟩ | (exfalso; omega), ht⟩) (fun q h => by cases h) dX6_isDigit_17
set_option maxHeartbeats 4000000 in
set_option maxRecDepth 100000 in
theorem g_X6_isSign (l : Launch) (D : va_G) (E : Nat → Nat) (p0 : Int32)  : Met l yX6_isSign (wl yX6_isSign cX6_isSign 1 (some .boolean)) (RM 0 0 0) (rd_P D E [.int p0] ([] : va_W)) (rd_Q (fun r => ((r.toInt = 1 ∧ sgK p0.toInt ≠ 2) ∨ (r.toInt = 0 ∧ sgK p0.toInt = 2)))) 0 0 (fun _ => False) := by
  refine Met.ofW (cc := cX6_isSign) (maxL := 1) (ret := (some .boolean)) (by decide) rfl ?_
  intro p e s m args below meth c s₁ B hml hv
  obtain ⟨rfl, hP, hK⟩ := hv
  have hx := B.exec; have hb := B.bytes; have hr := B.returns
  have hts := atoms_spec (ws := wl yX6_isSign cX6_isSign 1 (some .boolean)) B.pre
  have htb : ∀ w ∈ tb, w.before _ s = true := fun w h => hts w (List.mem_cons_of_mem _ h)
  have hown : s.vm.findClass RX6 = some m.cls := findClass_of_methodNamed B.named
  have hlocks := B.notSynchronized
  have hP : va_P D vwCl ([] : va_W) s.heap := hP
  have hl := lv_entry ([.int p0]) (n := 1) (Nat.le_of_ble_eq_true rfl)
  rw [lg_entry_eq]
  generalize (lg_sl ([.int p0]) ++ List.replicate (1 - (lg_sl ([.int p0])).length) Slot.unset).toArray = ls at hl ⊢
  have hl : lv_has ls 1 [(0, .int p0)] := hl
  have lo_p0 := i_lo p0; have hi_p0 := i_hi p0
  refine lv_iload_n hx hb dX6_isSign_0 rfl (lv_at hl 0 rfl) ?_
  by_cases h_1 : p0.toInt < 40 ∨ 62 < p0.toInt
  ·
    refine lv_tableOut (tgt := 110) hx hb dX6_isSign_1 h_1 (by decide) ?_
    refine lv_iconst (v := 0) hx hb dX6_isSign_110 (by decide) ?_
    exact W.zret (v := 0) hx hb hr rfl (fun t ht hW => ⟨0, rfl, (by have hl := t_0; unfold sgK; omega), ht⟩) (fun q h => by cases h) dX6_isSign_111
  ·
    have h_2 : p0.toInt = 40 ∨ p0.toInt = 41 ∨ p0.toInt = 42 ∨ p0.toInt = 43 ∨ p0.toInt = 44 ∨ p0.toInt = 45 ∨ p0.toInt = 46 ∨ p0.toInt = 47 ∨ p0.toInt = 48 ∨ p0.toInt = 49 ∨ p0.toInt = 50 ∨ p0.toInt = 51 ∨ p0.toInt = 52 ∨ p0.toInt = 53 ∨ p0.toInt = 54 ∨ p0.toInt = 55 ∨ p0.toInt = 56 ∨ p0.toInt = 57 ∨ p0.toInt = 58 ∨ p0.toInt = 59 ∨ p0.toInt = 60 ∨ p0.toInt = 61 ∨ p0.toInt = 62 := by omega
    rcases h_2 with h_2 | h_2 | h_2 | h_2 | h_2 | h_2 | h_2 | h_2 | h_2 | h_2 | h_2 | h_2 | h_2 | h_2 | h_2 | h_2 | h_2 | h_2 | h_2 | h_2 | h_2 | h_2 | h_2
    ·
      refine lv_tableIn (off := 107) (tgt := 108) hx hb dX6_isSign_1 (by omega) (by omega) (by rw [h_2]; decide) (by decide) ?_
      refine lv_iconst (v := 1) hx hb dX6_isSign_108 (by decide) ?_
      exact W.zret (v := 1) hx hb hr rfl (fun t ht hW => ⟨1, rfl, (by have hl := t_1; unfold sgK; omega), ht⟩) (fun q h => by cases h) dX6_isSign_109
    ·
      refine lv_tableIn (off := 107) (tgt := 108) hx hb dX6_isSign_1 (by omega) (by omega) (by rw [h_2]; decide) (by decide) ?_
      refine lv_iconst (v := 1) hx hb dX6_isSign_108 (by decide) ?_
      exact W.zret (v := 1) hx hb hr rfl (fun t ht hW => ⟨1, rfl, (by have hl := t_1; unfold sgK; omega), ht⟩) (fun q h => by cases h) dX6_isSign_109
    ·
      refine lv_tableIn (off := 107) (tgt := 108) hx hb dX6_isSign_1 (by omega) (by omega) (by rw [h_2]; decide) (by decide) ?_
      refine lv_iconst (v := 1) hx hb dX6_isSign_108 (by decide) ?_
      exact W.zret (v := 1) hx hb hr rfl (fun t ht hW => ⟨1, rfl, (by have hl := t_1; unfold sgK; omega), ht⟩) (fun q h => by cases h) dX6_isSign_109
    ·
      refine lv_tableIn (off := 107) (tgt := 108) hx hb dX6_isSign_1 (by omega) (by omega) (by rw [h_2]; decide) (by decide) ?_
      refine lv_iconst (v := 1) hx hb dX6_isSign_108 (by decide) ?_
      exact W.zret (v := 1) hx hb hr rfl (fun t ht hW => ⟨1, rfl, (by have hl := t_1; unfold sgK; omega), ht⟩) (fun q h => by cases h) dX6_isSign_109
    ·
      refine lv_tableIn (off := 109) (tgt := 110) hx hb dX6_isSign_1 (by omega) (by omega) (by rw [h_2]; decide) (by decide) ?_
      refine lv_iconst (v := 0) hx hb dX6_isSign_110 (by decide) ?_
      exact W.zret (v := 0) hx hb hr rfl (fun t ht hW => ⟨0, rfl, (by have hl := t_0; unfold sgK; omega), ht⟩) (fun q h => by cases h) dX6_isSign_111
    ·
      refine lv_tableIn (off := 107) (tgt := 108) hx hb dX6_isSign_1 (by omega) (by omega) (by rw [h_2]; decide) (by decide) ?_
      refine lv_iconst (v := 1) hx hb dX6_isSign_108 (by decide) ?_
      exact W.zret (v := 1) hx hb hr rfl (fun t ht hW => ⟨1, rfl, (by have hl := t_1; unfold sgK; omega), ht⟩) (fun q h => by cases h) dX6_isSign_109
    ·
      refine lv_tableIn (off := 109) (tgt := 110) hx hb dX6_isSign_1 (by omega) (by omega) (by rw [h_2]; decide) (by decide) ?_
      refine lv_iconst (v := 0) hx hb dX6_isSign_110 (by decide) ?_
      exact W.zret (v := 0) hx hb hr rfl (fun t ht hW => ⟨0, rfl, (by have hl := t_0; unfold sgK; omega), ht⟩) (fun q h => by cases h) dX6_isSign_111
    ·
      refine lv_tableIn (off := 107) (tgt := 108) hx hb dX6_isSign_1 (by omega) (by omega) (by rw [h_2]; decide) (by decide) ?_
      refine lv_iconst (v := 1) hx hb dX6_isSign_108 (by decide) ?_
      exact W.zret (v := 1) hx hb hr rfl (fun t ht hW => ⟨1, rfl, (by have hl := t_1; unfold sgK; omega), ht⟩) (fun q h => by cases h) dX6_isSign_109
    ·
      refine lv_tableIn (off := 109) (tgt := 110) hx hb dX6_isSign_1 (by omega) (by omega) (by rw [h_2]; decide) (by decide) ?_
      refine lv_iconst (v := 0) hx hb dX6_isSign_110 (by decide) ?_
      exact W.zret (v := 0) hx hb hr rfl (fun t ht hW => ⟨0, rfl, (by have hl := t_0; unfold sgK; omega), ht⟩) (fun q h => by cases h) dX6_isSign_111
    ·
      refine lv_tableIn (off := 109) (tgt := 110) hx hb dX6_isSign_1 (by omega) (by omega) (by rw [h_2]; decide) (by decide) ?_
      refine lv_iconst (v := 0) hx hb dX6_isSign_110 (by decide) ?_
      exact W.zret (v := 0) hx hb hr rfl (fun t ht hW => ⟨0, rfl, (by have hl := t_0; unfold sgK; omega), ht⟩) (fun q h => by cases h) dX6_isSign_111
    ·
      refine lv_tableIn (off := 109) (tgt := 110) hx hb dX6_isSign_1 (by omega) (by omega) (by rw [h_2]; decide) (by decide) ?_
      refine lv_iconst (v := 0) hx hb dX6_isSign_110 (by decide) ?_
      exact W.zret (v := 0) hx hb hr rfl (fun t ht hW => ⟨0, rfl, (by have hl := t_0; unfold sgK; omega), ht⟩) (fun q h => by cases h) dX6_isSign_111
    ·
      refine lv_tableIn (off := 109) (tgt := 110) hx hb dX6_isSign_1 (by omega) (by omega) (by rw [h_2]; decide) (by decide) ?_
      refine lv_iconst (v := 0) hx hb dX6_isSign_110 (by decide) ?_
      exact W.zret (v := 0) hx hb hr rfl (fun t ht hW => ⟨0, rfl, (by have hl := t_0; unfold sgK; omega), ht⟩) (fun q h => by cases h) dX6_isSign_111
    ·
      refine lv_tableIn (off := 109) (tgt := 110) hx hb dX6_isSign_1 (by omega) (by omega) (by rw [h_2]; decide) (by decide) ?_
      refine lv_iconst (v := 0) hx hb dX6_isSign_110 (by decide) ?_
      exact W.zret (v := 0) hx hb hr rfl (fun t ht hW => ⟨0, rfl, (by have hl := t_0; unfold sgK; omega), ht⟩) (fun q h => by cases h) dX6_isSign_111
    ·
      refine lv_tableIn (off := 109) (tgt := 110) hx hb dX6_isSign_1 (by omega) (by omega) (by rw [h_2]; decide) (by decide) ?_
      refine lv_iconst (v := 0) hx hb dX6_isSign_110 (by decide) ?_
      exact W.zret (v := 0) hx hb hr rfl (fun t ht hW => ⟨0, rfl, (by have hl := t_0; unfold sgK; omega), ht⟩) (fun q h => by cases h) dX6_isSign_111
    ·
      refine lv_tableIn (off := 109) (tgt := 110) hx hb dX6_isSign_1 (by omega) (by omega) (by rw [h_2]; decide) (by decide) ?_
      refine lv_iconst (v := 0) hx hb dX6_isSign_110 (by decide) ?_
      exact W.zret (v := 0) hx hb hr rfl (fun t ht hW => ⟨0, rfl, (by have hl := t_0; unfold sgK; omega), ht⟩) (fun q h => by cases h) dX6_isSign_111
    ·
      refine lv_tableIn (off := 109) (tgt := 110) hx hb dX6_isSign_1 (by omega) (by omega) (by rw [h_2]; decide) (by decide) ?_
      refine lv_iconst (v := 0) hx hb dX6_isSign_110 (by decide) ?_
      exact W.zret (v := 0) hx hb hr rfl (fun t ht hW => ⟨0, rfl, (by have hl := t_0; unfold sgK; omega), ht⟩) (fun q h => by cases h) dX6_isSign_111
    ·
      refine lv_tableIn (off := 109) (tgt := 110) hx hb dX6_isSign_1 (by omega) (by omega) (by rw [h_2]; decide) (by decide) ?_
      refine lv_iconst (v := 0) hx hb dX6_isSign_110 (by decide) ?_
      exact W.zret (v := 0) hx hb hr rfl (fun t ht hW => ⟨0, rfl, (by have hl := t_0; unfold sgK; omega), ht⟩) (fun q h => by cases h) dX6_isSign_111
    ·
      refine lv_tableIn (off := 109) (tgt := 110) hx hb dX6_isSign_1 (by omega) (by omega) (by rw [h_2]; decide) (by decide) ?_
      refine lv_iconst (v := 0) hx hb dX6_isSign_110 (by decide) ?_
      exact W.zret (v := 0) hx hb hr rfl (fun t ht hW => ⟨0, rfl, (by have hl := t_0; unfold sgK; omega), ht⟩) (fun q h => by cases h) dX6_isSign_111
    ·
      refine lv_tableIn (off := 109) (tgt := 110) hx hb dX6_isSign_1 (by omega) (by omega) (by rw [h_2]; decide) (by decide) ?_
      refine lv_iconst (v := 0) hx hb dX6_isSign_110 (by decide) ?_
      exact W.zret (v := 0) hx hb hr rfl (fun t ht hW => ⟨0, rfl, (by have hl := t_0; unfold sgK; omega), ht⟩) (fun q h => by cases h) dX6_isSign_111
    ·
      refine lv_tableIn (off := 109) (tgt := 110) hx hb dX6_isSign_1 (by omega) (by omega) (by rw [h_2]; decide) (by decide) ?_
      refine lv_iconst (v := 0) hx hb dX6_isSign_110 (by decide) ?_
      exact W.zret (v := 0) hx hb hr rfl (fun t ht hW => ⟨0, rfl, (by have hl := t_0; unfold sgK; omega), ht⟩) (fun q h => by cases h) dX6_isSign_111
    ·
      refine lv_tableIn (off := 107) (tgt := 108) hx hb dX6_isSign_1 (by omega) (by omega) (by rw [h_2]; decide) (by decide) ?_
      refine lv_iconst (v := 1) hx hb dX6_isSign_108 (by decide) ?_
      exact W.zret (v := 1) hx hb hr rfl (fun t ht hW => ⟨1, rfl, (by have hl := t_1; unfold sgK; omega), ht⟩) (fun q h => by cases h) dX6_isSign_109
    ·
      refine lv_tableIn (off := 107) (tgt := 108) hx hb dX6_isSign_1 (by omega) (by omega) (by rw [h_2]; decide) (by decide) ?_
      refine lv_iconst (v := 1) hx hb dX6_isSign_108 (by decide) ?_
      exact W.zret (v := 1) hx hb hr rfl (fun t ht hW => ⟨1, rfl, (by have hl := t_1; unfold sgK; omega), ht⟩) (fun q h => by cases h) dX6_isSign_109
    ·
      refine lv_tableIn (off := 107) (tgt := 108) hx hb dX6_isSign_1 (by omega) (by omega) (by rw [h_2]; decide) (by decide) ?_
      refine lv_iconst (v := 1) hx hb dX6_isSign_108 (by decide) ?_
      exact W.zret (v := 1) hx hb hr rfl (fun t ht hW => ⟨1, rfl, (by have hl := t_1; unfold sgK; omega), ht⟩) (fun q h => by cases h) dX6_isSign_109
set_option maxHeartbeats 4000000 in
set_option maxRecDepth 100000 in
theorem g_X6_add (l : Launch) (D : va_G) (E : Nat → Nat) (th : Nat) (ta : Nat → Nat) (tsize : Int32) (trule : Nat) (twords : Nat) (tat : Int32) (tword : Int32) (twordAt : Int32) (tvalue : Int32) (tf0 : Nat → Int32) (p0 : Int32) (sz : Nat) (hi_t : (0 ≤ tsize.toInt ∧ tsize.toInt ≤ 120)) : Met l yX6_add (wl yX6_add cX6_add 2 none) (RM 0 0 0) (mu_P D E [.ref th, .int p0] [(th, .inr (6, G6 ta tsize trule twords tat tword twordAt tvalue)), ((ta 0), .inl (E 0, 120, .inl tf0))] sz) (va_Qv (fun (u : (Nat → Int32) × (Int32)) => (0 ≤ u.2.toInt ∧ u.2.toInt ≤ 120) ∧ ((tsize.toInt < 120 ∧ u.2.toInt = tsize.toInt + 1 ∧ u.1 = upd tf0 (tsize).toNatClampNeg p0) ∨ (tsize.toInt = 120 ∧ u.2.toInt = 120))) (mu_B D (va_A [(th, .inr (6, G6 ta tsize trule twords tat tword twordAt tvalue)), ((ta 0), .inl (E 0, 120, .inl tf0))] sz) (fun (u : (Nat → Int32) × (Int32)) => [(th, .inr (6, G6 ta u.2 trule twords tat tword twordAt tvalue)), ((ta 0), .inl (E 0, 120, .inl u.1))])) (va_A [(th, .inr (6, G6 ta tsize trule twords tat tword twordAt tvalue)), ((ta 0), .inl (E 0, 120, .inl tf0))] sz)) 0 0 (va_A [(th, .inr (6, G6 ta tsize trule twords tat tword twordAt tvalue)), ((ta 0), .inl (E 0, 120, .inl tf0))] sz) := by
  refine Met.ofW (cc := cX6_add) (maxL := 2) (ret := none) (by decide) rfl ?_
  intro p e s m args below meth c s₁ B hml hv
  obtain ⟨rfl, hsz, hP, hK, hD0⟩ := hv
  have hx := B.exec; have hb := B.bytes; have hr := B.returns
  have hts := atoms_spec (ws := wl yX6_add cX6_add 2 none) B.pre
  have htb : ∀ w ∈ tb, w.before _ s = true := fun w h => hts w (List.mem_cons_of_mem _ h)
  have hown : s.vm.findClass RX6 = some m.cls := findClass_of_methodNamed B.named
  have hlocks := B.notSynchronized
  subst hsz
  have hD := hD0.self (sz := s.heap.size)
  generalize hAe : va_A [(th, .inr (6, G6 ta tsize trule twords tat tword twordAt tvalue)), ((ta 0), .inl (E 0, 120, .inl tf0))] s.heap.size = A at hD ⊢
  have hA : ∀ q : Nat, s.heap.size ≤ q → A q := fun q h => by rw [← hAe]; exact Or.inr h
  have hS : va_S A s.heap s.heap [] := va_S.rf
  have hP : va_P D vwCl [(th, .inr (6, G6 ta tsize trule twords tat tword twordAt tvalue)), ((ta 0), .inl (E 0, 120, .inl tf0))] s.heap := hP
  have hl := lv_entry ([.ref th, .int p0]) (n := 2) (Nat.le_of_ble_eq_true rfl)
  rw [lg_entry_eq]
  generalize (lg_sl ([.ref th, .int p0]) ++ List.replicate (2 - (lg_sl ([.ref th, .int p0])).length) Slot.unset).toArray = ls at hl ⊢
  have hl : lv_has ls 2 [(0, .ref th), (1, .int p0)] := hl
  have lo_p0 := i_lo p0; have hi_p0 := i_hi p0
  refine lv_aload_n hx hb dX6_add_0 rfl (lv_at hl 0 rfl) ?_
  refine va_get (D := D) (ci := 6) (v := .int tsize) (C := RX6) (T := TX6) (N := 8) hx hb htb iX6 hown hK.1 hP 0 rfl rfl 1 (by decide) (htb _ k_158) (fun _ h9 => h9) rfl dX6_add_1 ?_
  refine lv_bipush (v := 120) hx hb dX6_add_4 (by decide) ?_
  refine lv_icmp_ge (tgt := 29) hx hb dX6_add_6 (by decide) (fun c_1 => ?_) (fun c_1 => ?_)
  ·
    have ic_1 : 120 ≤ tsize.toInt := by first | exact (g_le t_120 rfl).mp c_1 | (have h := mt (g_lt rfl t_120).mpr c_1; omega)
    clear c_1
    have hP9 := hP.sub (ws' := [(th, .inr (6, G6 ta tsize trule twords tat tword twordAt tvalue)), ((ta 0), .inl (E 0, 120, .inl tf0))]) [0, 1] rfl
    have hD9 := hD.sub (ws' := [(th, .inr (6, G6 ta tsize trule twords tat tword twordAt tvalue)), ((ta 0), .inl (E 0, 120, .inl tf0))]) [0, 1] (by decide) rfl
    exact W.vret hx hb hr (fun t ht hW => ⟨⟨(tf0, tsize), rfl, ⟨(by (try dsimp only); omega), (by (try dsimp only); first | exact Or.inl ⟨by omega, by omega, rfl⟩ | exact Or.inr ⟨by omega, by omega⟩)⟩, by rw [ht]; exact hP9, hD9⟩, hS.F ht⟩) hS.2.2 dX6_add_29
  ·
    have ic_1 : tsize.toInt < 120 := by first | exact (g_lt rfl t_120).mp c_1 | (have h := mt (g_le t_120 rfl).mpr c_1; omega)
    clear c_1
    refine lv_aload_n hx hb dX6_add_9 rfl (lv_at hl 0 rfl) ?_
    refine va_get (D := D) (ci := 6) (v := .ref (ta 0)) (C := RX6) (T := TX6) (N := 8) hx hb htb iX6 hown hK.1 hP 0 rfl rfl 0 (by decide) (htb _ k_157) (fun _ h9 => h9) rfl dX6_add_10 ?_
    refine lv_aload_n hx hb dX6_add_13 rfl (lv_at hl 0 rfl) ?_
    refine va_get (D := D) (ci := 6) (v := .int tsize) (C := RX6) (T := TX6) (N := 8) hx hb htb iX6 hown hK.1 hP 0 rfl rfl 1 (by decide) (htb _ k_158) (fun _ h9 => h9) rfl dX6_add_14 ?_
    refine lv_iload_n hx hb dX6_add_17 rfl (lv_at hl 1 rfl) ?_
    refine va_iast hx hb hK.1 hP hD hS 1 0 rfl rfl (g_in rfl (by omega) (by omega)) dX6_add_18 (fun H locs hP hD hS => ?_)
    have hP : va_P D vwCl [(th, .inr (6, G6 ta tsize trule twords tat tword twordAt tvalue)), ((ta 0), .inl (E 0, 120, .inl (upd tf0 (tsize : Int32).toNatClampNeg p0)))] H := hP
    have hD := toW hP hD rfl
    refine lv_aload_n hx hb dX6_add_19 rfl (lv_at hl 0 rfl) ?_
    refine lv_dup hx hb dX6_add_20 rfl ?_
    refine va_get (D := D) (ci := 6) (v := .int tsize) (C := RX6) (T := TX6) (N := 8) hx hb htb iX6 hown hK.1 hP 0 rfl rfl 1 (by decide) (htb _ k_158) (fun _ h9 => h9) rfl dX6_add_21 ?_
    refine lv_iconst (v := 1) hx hb dX6_add_24 (by decide) ?_
    refine lv_iadd hx hb dX6_add_25 ?_
    refine lv_topi (fun z_2 ez_2 => ?_)
    have jz_2 : z_2.toInt = tsize.toInt + 1 := by rw [ez_2]; exact g_add rfl t_1 (by omega) (by omega)
    refine va_put (D := D) (ci := 6) (v := .int z_2) (ty := .int) (C := RX6) (T := TX6) (N := 8) hx hb htb iX6 tyX6 tyX6_ok nmX6 hown hK.1 hP hD hS 0 rfl rfl 1 (by decide) (htb _ k_158) (fun _ h9 => h9) rfl (by decide +kernel) rfl rfl (Nat.le_of_ble_eq_true rfl) dX6_add_26 (fun H locs hP hD hS => ?_)
    have hP : va_P D vwCl [(th, .inr (6, G6 ta z_2 trule twords tat tword twordAt tvalue)), ((ta 0), .inl (E 0, 120, .inl (upd tf0 (tsize : Int32).toNatClampNeg p0)))] H := hP
    have hD := toW hP hD rfl
    have hP9 := hP.sub (ws' := [(th, .inr (6, G6 ta z_2 trule twords tat tword twordAt tvalue)), ((ta 0), .inl (E 0, 120, .inl (upd tf0 (tsize : Int32).toNatClampNeg p0)))]) [0, 1] rfl
    have hD9 := hD.sub (ws' := [(th, .inr (6, G6 ta z_2 trule twords tat tword twordAt tvalue)), ((ta 0), .inl (E 0, 120, .inl (upd tf0 (tsize : Int32).toNatClampNeg p0)))]) [0, 1] (by decide) rfl
    exact W.vret hx hb hr (fun t ht hW => ⟨⟨((upd tf0 (tsize : Int32).toNatClampNeg p0), z_2), rfl, ⟨(by (try dsimp only); omega), (by (try dsimp only); first | exact Or.inl ⟨by omega, by omega, rfl⟩ | exact Or.inr ⟨by omega, by omega⟩)⟩, by rw [ht]; exact hP9, hD9⟩, hS.F ht⟩) hS.2.2 dX6_add_29
set_option maxHeartbeats 4000000 in
set_option maxRecDepth 100000 in
theorem g_X6_takeDigits (l : Launch) (D : va_G) (E : Nat → Nat) (th : Nat) (ta : Nat → Nat) (tsize : Int32) (trule : Nat) (twords : Nat) (tat : Int32) (tword : Int32) (twordAt : Int32) (tvalue : Int32) (tf0 : Nat → Int32) (sz : Nat) (hi_t : (0 ≤ tsize.toInt ∧ tsize.toInt ≤ 120)) (g0 : 0 ≤ tat.toInt ∧ tat.toInt ≤ tsize.toInt ∧ 0 ≤ twordAt.toInt ∧ twordAt.toInt ≤ tat.toInt) (g2 : tat.toInt = twordAt.toInt ∧ tat.toInt < tsize.toInt ∧ 48 ≤ (tf0 (tat).toNatClampNeg).toInt ∧ (tf0 (tat).toNatClampNeg).toInt ≤ 57) : Met l yX6_takeDigits (wl yX6_takeDigits cX6_takeDigits 1 none) (RM 1 0 0) (mu_P D E [.ref th] [(th, .inr (6, G6 ta tsize trule twords tat tword twordAt tvalue)), ((ta 0), .inl (E 0, 120, .inl tf0))] sz) (va_Qv (fun (u : (Int32) × (Int32) × (Int32)) => (tat.toInt ≤ u.1.toInt ∧ u.1.toInt ≤ tsize.toInt) ∧ (u.1.toInt = (teE tf0 (tsize).toNatClampNeg (twordAt).toNatClampNeg : Nat) ∧ ((5 < u.1.toInt - twordAt.toInt ∧ u.2.2.toInt = 1) ∨ (u.1.toInt - twordAt.toInt ≤ 5 ∧ u.2.2.toInt = 2 ∧ u.2.1 = numV tf0 (twordAt).toNatClampNeg (u.1.toInt - twordAt.toInt).toNat)))) (mu_B D (va_A [(th, .inr (6, G6 ta tsize trule twords tat tword twordAt tvalue)), ((ta 0), .inl (E 0, 120, .inl tf0))] sz) (fun (u : (Int32) × (Int32) × (Int32)) => [(th, .inr (6, G6 ta tsize trule twords u.1 u.2.2 twordAt u.2.1)), ((ta 0), .inl (E 0, 120, .inl tf0))])) (va_A [(th, .inr (6, G6 ta tsize trule twords tat tword twordAt tvalue)), ((ta 0), .inl (E 0, 120, .inl tf0))] sz)) 0 0 (va_A [(th, .inr (6, G6 ta tsize trule twords tat tword twordAt tvalue)), ((ta 0), .inl (E 0, 120, .inl tf0))] sz) := by
  refine Met.ofW (cc := cX6_takeDigits) (maxL := 1) (ret := none) (by decide) rfl ?_
  intro p e s m args below meth c s₁ B hml hv
  obtain ⟨rfl, hsz, hP, hK, hD0⟩ := hv
  have hx := B.exec; have hb := B.bytes; have hr := B.returns
  have hts := atoms_spec (ws := wl yX6_takeDigits cX6_takeDigits 1 none) B.pre
  have htb : ∀ w ∈ tb, w.before _ s = true := fun w h => hts w (List.mem_cons_of_mem _ h)
  have hown : s.vm.findClass RX6 = some m.cls := findClass_of_methodNamed B.named
  have hlocks := B.notSynchronized
  subst hsz
  have hD := hD0.self (sz := s.heap.size)
  generalize hAe : va_A [(th, .inr (6, G6 ta tsize trule twords tat tword twordAt tvalue)), ((ta 0), .inl (E 0, 120, .inl tf0))] s.heap.size = A at hD ⊢
  have hA : ∀ q : Nat, s.heap.size ≤ q → A q := fun q h => by rw [← hAe]; exact Or.inr h
  have hS : va_S A s.heap s.heap [] := va_S.rf
  have hP : va_P D vwCl [(th, .inr (6, G6 ta tsize trule twords tat tword twordAt tvalue)), ((ta 0), .inl (E 0, 120, .inl tf0))] s.heap := hP
  have hl := lv_entry ([.ref th]) (n := 1) (Nat.le_of_ble_eq_true rfl)
  rw [lg_entry_eq]
  generalize (lg_sl ([.ref th]) ++ List.replicate (1 - (lg_sl ([.ref th])).length) Slot.unset).toArray = ls at hl ⊢
  have hl : lv_has ls 1 [(0, .ref th)] := hl
  refine lv_aload_n hx hb dX6_takeDigits_0 rfl (lv_at hl 0 rfl) ?_
  refine lv_iconst (v := 0) hx hb dX6_takeDigits_1 (by decide) ?_
  refine va_put (D := D) (ci := 6) (v := .int 0) (ty := .int) (C := RX6) (T := TX6) (N := 8) hx hb htb iX6 tyX6 tyX6_ok nmX6 hown hK.1 hP hD hS 0 rfl rfl 7 (by decide) (htb _ k_165) (fun _ h9 => h9) rfl (by decide +kernel) rfl rfl (Nat.le_of_ble_eq_true rfl) dX6_takeDigits_2 (fun H locs hP hD hS => ?_)
  have hP : va_P D vwCl [(th, .inr (6, G6 ta tsize trule twords tat tword twordAt 0)), ((ta 0), .inl (E 0, 120, .inl tf0))] H := hP
  have hD := toW hP hD rfl
  have loop_1 : ∀ (N_3 : Nat) (tat_5 : Int32) (tvalue_5 : Int32) (H : Heap) (locs : List Loc) (ls : Array Slot), tsize.toInt - tat_5.toInt < (N_3 : Int) → (tat.toInt ≤ tat_5.toInt ∧ tat_5.toInt ≤ tsize.toInt) → (skp 48 57 tf0 ((tsize).toNatClampNeg - (tat_5).toNatClampNeg) (tat_5).toNatClampNeg = teE tf0 (tsize).toNatClampNeg (twordAt).toNatClampNeg) → (tvalue_5 = numV tf0 (twordAt).toNatClampNeg ((tat_5).toNatClampNeg - (twordAt).toNatClampNeg)) → va_P D vwCl [(th, .inr (6, G6 ta tsize trule twords tat_5 tword twordAt tvalue_5)), ((ta 0), .inl (E 0, 120, .inl tf0))] H → va_D A [(th, .inr (6, G6 ta tsize trule twords tat_5 tword twordAt tvalue_5)), ((ta 0), .inl (E 0, 120, .inl tf0))] → va_S A s.heap H locs → lv_has ls 1 [(0, .ref th)] → W p l e (headSpec (wl yX6_takeDigits cX6_takeDigits 1 none) (RM 1 0 0)).room s m [Value.ref th].toArray below meth c H locs 0 0 (MQ below (va_Qv (fun (u : (Int32) × (Int32) × (Int32)) => (tat.toInt ≤ u.1.toInt ∧ u.1.toInt ≤ tsize.toInt) ∧ (u.1.toInt = (teE tf0 (tsize).toNatClampNeg (twordAt).toNatClampNeg : Nat) ∧ ((5 < u.1.toInt - twordAt.toInt ∧ u.2.2.toInt = 1) ∨ (u.1.toInt - twordAt.toInt ≤ 5 ∧ u.2.2.toInt = 2 ∧ u.2.1 = numV tf0 (twordAt).toNatClampNeg (u.1.toInt - twordAt.toInt).toNat)))) (mu_B D A (fun (u : (Int32) × (Int32) × (Int32)) => [(th, .inr (6, G6 ta tsize trule twords u.1 u.2.2 twordAt u.2.1)), ((ta 0), .inl (E 0, 120, .inl tf0))])) A) [Value.ref th].toArray s 0 0 A) (F0 m 5 ls []) := by
    intro N_3
    induction N_3 with
    | zero => intro tat_5 tvalue_5 H locs ls hm v0_5 v1_5 v2_5 _ _ _ _; exfalso; omega
    | succ N_3 ih_2 =>
      intro tat_5 tvalue_5 H locs ls hm v0_5 v1_5 v2_5 hP hD hS hl
      have lo_tat_5 := i_lo tat_5; have hi_tat_5 := i_hi tat_5
      have lo_tvalue_5 := i_lo tvalue_5; have hi_tvalue_5 := i_hi tvalue_5
      refine lv_aload_n hx hb dX6_takeDigits_5 rfl (lv_at hl 0 rfl) ?_
      refine va_get (D := D) (ci := 6) (v := .int tat_5) (C := RX6) (T := TX6) (N := 8) hx hb htb iX6 hown hK.1 hP 0 rfl rfl 4 (by decide) (htb _ k_162) (fun _ h9 => h9) rfl dX6_takeDigits_6 ?_
      refine lv_aload_n hx hb dX6_takeDigits_9 rfl (lv_at hl 0 rfl) ?_
      refine va_get (D := D) (ci := 6) (v := .int tsize) (C := RX6) (T := TX6) (N := 8) hx hb htb iX6 hown hK.1 hP 0 rfl rfl 1 (by decide) (htb _ k_158) (fun _ h9 => h9) rfl dX6_takeDigits_10 ?_
      refine lv_icmp_ge (tgt := 68) hx hb dX6_takeDigits_13 (by decide) (fun c_4 => ?_) (fun c_4 => ?_)
      ·
        have ic_4 : tsize.toInt ≤ tat_5.toInt := by first | exact (g_le rfl rfl).mp c_4 | (have h := mt (g_lt rfl rfl).mpr c_4; omega)
        clear c_4
        refine lv_aload_n hx hb dX6_takeDigits_68 rfl (lv_at hl 0 rfl) ?_
        refine lv_aload_n hx hb dX6_takeDigits_69 rfl (lv_at hl 0 rfl) ?_
        refine va_get (D := D) (ci := 6) (v := .int tat_5) (C := RX6) (T := TX6) (N := 8) hx hb htb iX6 hown hK.1 hP 0 rfl rfl 4 (by decide) (htb _ k_162) (fun _ h9 => h9) rfl dX6_takeDigits_70 ?_
        refine lv_aload_n hx hb dX6_takeDigits_73 rfl (lv_at hl 0 rfl) ?_
        refine va_get (D := D) (ci := 6) (v := .int twordAt) (C := RX6) (T := TX6) (N := 8) hx hb htb iX6 hown hK.1 hP 0 rfl rfl 6 (by decide) (htb _ k_164) (fun _ h9 => h9) rfl dX6_takeDigits_74 ?_
        refine lv_isub hx hb dX6_takeDigits_77 ?_
        refine lv_topi (fun z_5 ez_5 => ?_)
        have jz_5 : z_5.toInt = tat_5.toInt - twordAt.toInt := by rw [ez_5]; exact g_sub rfl rfl (by omega) (by omega)
        refine lv_iconst (v := 5) hx hb dX6_takeDigits_78 (by decide) ?_
        refine lv_icmp_gt (tgt := 86) hx hb dX6_takeDigits_79 (by decide) (fun c_6 => ?_) (fun c_6 => ?_)
        ·
          have ic_6 : 5 < z_5.toInt := by first | exact (g_lt t_5 rfl).mp c_6 | (have h := mt (g_le rfl t_5).mpr c_6; omega)
          clear c_6
          refine lv_iconst (v := 1) hx hb dX6_takeDigits_86 (by decide) ?_
          refine va_put (D := D) (ci := 6) (v := .int 1) (ty := .int) (C := RX6) (T := TX6) (N := 8) hx hb htb iX6 tyX6 tyX6_ok nmX6 hown hK.1 hP hD hS 0 rfl rfl 5 (by decide) (htb _ k_163) (fun _ h9 => h9) rfl (by decide +kernel) rfl rfl (Nat.le_of_ble_eq_true rfl) dX6_takeDigits_87 (fun H locs hP hD hS => ?_)
          have hP : va_P D vwCl [(th, .inr (6, G6 ta tsize trule twords tat_5 1 twordAt tvalue_5)), ((ta 0), .inl (E 0, 120, .inl tf0))] H := hP
          have hD := toW hP hD rfl
          have hP9 := hP.sub (ws' := [(th, .inr (6, G6 ta tsize trule twords tat_5 1 twordAt tvalue_5)), ((ta 0), .inl (E 0, 120, .inl tf0))]) [0, 1] rfl
          have hD9 := hD.sub (ws' := [(th, .inr (6, G6 ta tsize trule twords tat_5 1 twordAt tvalue_5)), ((ta 0), .inl (E 0, 120, .inl tf0))]) [0, 1] (by decide) rfl
          exact W.vret hx hb hr (fun t ht hW => ⟨⟨(tat_5, tvalue_5, (1 : Int32)), rfl, ⟨(by have h0 := t_1; (try dsimp only); omega), (by (try dsimp only); have hl1 := t_1; have hl2 := t_2; have c0 := i_clamp0 (x := tat_5) (by omega); have c1 := i_clamp0 (x := tsize) (by omega); have c2 := i_clamp0 (x := twordAt) (by omega); have he9 : tat_5.toInt = (teE tf0 (tsize).toNatClampNeg (twordAt).toNatClampNeg : Nat) := (by rw [← v1_5]; first | (rw [skp_z (by omega)]; omega) | (rw [skp_no (by omega)]; omega)); refine ⟨he9, ?_⟩; first | exact Or.inl ⟨by omega, by omega⟩ | exact Or.inr ⟨by omega, by omega, by rw [show (tat_5.toInt - twordAt.toInt).toNat = (tat_5).toNatClampNeg - (twordAt).toNatClampNeg by omega]; exact v2_5⟩)⟩, by rw [ht]; exact hP9, hD9⟩, hS.F ht⟩) hS.2.2 dX6_takeDigits_90
        ·
          have ic_6 : z_5.toInt ≤ 5 := by first | exact (g_le rfl t_5).mp c_6 | (have h := mt (g_lt t_5 rfl).mpr c_6; omega)
          clear c_6
          refine lv_iconst (v := 2) hx hb dX6_takeDigits_82 (by decide) ?_
          refine lv_goto (tgt := 87) hx hb dX6_takeDigits_83 (by decide) ?_
          refine va_put (D := D) (ci := 6) (v := .int 2) (ty := .int) (C := RX6) (T := TX6) (N := 8) hx hb htb iX6 tyX6 tyX6_ok nmX6 hown hK.1 hP hD hS 0 rfl rfl 5 (by decide) (htb _ k_163) (fun _ h9 => h9) rfl (by decide +kernel) rfl rfl (Nat.le_of_ble_eq_true rfl) dX6_takeDigits_87 (fun H locs hP hD hS => ?_)
          have hP : va_P D vwCl [(th, .inr (6, G6 ta tsize trule twords tat_5 2 twordAt tvalue_5)), ((ta 0), .inl (E 0, 120, .inl tf0))] H := hP
          have hD := toW hP hD rfl
          have hP9 := hP.sub (ws' := [(th, .inr (6, G6 ta tsize trule twords tat_5 2 twordAt tvalue_5)), ((ta 0), .inl (E 0, 120, .inl tf0))]) [0, 1] rfl
          have hD9 := hD.sub (ws' := [(th, .inr (6, G6 ta tsize trule twords tat_5 2 twordAt tvalue_5)), ((ta 0), .inl (E 0, 120, .inl tf0))]) [0, 1] (by decide) rfl
          exact W.vret hx hb hr (fun t ht hW => ⟨⟨(tat_5, tvalue_5, (2 : Int32)), rfl, ⟨(by have h0 := t_2; (try dsimp only); omega), (by (try dsimp only); have hl1 := t_1; have hl2 := t_2; have c0 := i_clamp0 (x := tat_5) (by omega); have c1 := i_clamp0 (x := tsize) (by omega); have c2 := i_clamp0 (x := twordAt) (by omega); have he9 : tat_5.toInt = (teE tf0 (tsize).toNatClampNeg (twordAt).toNatClampNeg : Nat) := (by rw [← v1_5]; first | (rw [skp_z (by omega)]; omega) | (rw [skp_no (by omega)]; omega)); refine ⟨he9, ?_⟩; first | exact Or.inl ⟨by omega, by omega⟩ | exact Or.inr ⟨by omega, by omega, by rw [show (tat_5.toInt - twordAt.toInt).toNat = (tat_5).toNatClampNeg - (twordAt).toNatClampNeg by omega]; exact v2_5⟩)⟩, by rw [ht]; exact hP9, hD9⟩, hS.F ht⟩) hS.2.2 dX6_takeDigits_90
      ·
        have ic_4 : tat_5.toInt < tsize.toInt := by first | exact (g_lt rfl rfl).mp c_4 | (have h := mt (g_le rfl rfl).mpr c_4; omega)
        clear c_4
        refine lv_aload_n hx hb dX6_takeDigits_16 rfl (lv_at hl 0 rfl) ?_
        refine va_get (D := D) (ci := 6) (v := .ref (ta 0)) (C := RX6) (T := TX6) (N := 8) hx hb htb iX6 hown hK.1 hP 0 rfl rfl 0 (by decide) (htb _ k_157) (fun _ h9 => h9) rfl dX6_takeDigits_17 ?_
        refine lv_aload_n hx hb dX6_takeDigits_20 rfl (lv_at hl 0 rfl) ?_
        refine va_get (D := D) (ci := 6) (v := .int tat_5) (C := RX6) (T := TX6) (N := 8) hx hb htb iX6 hown hK.1 hP 0 rfl rfl 4 (by decide) (htb _ k_162) (fun _ h9 => h9) rfl dX6_takeDigits_21 ?_
        refine va_iald hx hb hK.1 hP 1 0 rfl rfl (g_in rfl (by omega) (by omega)) dX6_takeDigits_24 ?_
        refine lv_topi (fun z_7 ez_7 => ?_)
        have kz_7 := congrArg Int32.toInt ez_7
        refine callRS (rest := []) (As := [.int z_7]) hx hb hml hown htb hK (g_X6_isDigit l D E z_7 ) ok_X6_isDigit k_658 k_659 k_5 k_660 ⟨(Nat.le_of_ble_eq_true rfl), (Nat.le_of_ble_eq_true rfl)⟩ ⟨(Nat.le_of_ble_eq_true rfl), (Nat.le_of_ble_eq_true rfl)⟩ hl.1 (Nat.le_of_ble_eq_true rfl) rfl rfl dX6_takeDigits_25 (hP.sub (ws' := ([] : va_W)) [] rfl) (fun r_8 hw_9 => ?_)
        rcases hw_9 with ⟨hr_8, hw_9⟩ | ⟨hr_8, hw_9⟩
        ·
          refine W_top (y := .int 1) (by rw [hr_8]) ?_
          refine lv_if_eq (tgt := 68) hx hb dX6_takeDigits_28 (by decide) (fun c_11 => absurd c_11 (by decide)) (fun c_11 => ?_)
          refine lv_aload_n hx hb dX6_takeDigits_31 rfl (lv_at hl 0 rfl) ?_
          refine lv_bipush (v := 10) hx hb dX6_takeDigits_32 (by decide) ?_
          refine lv_aload_n hx hb dX6_takeDigits_34 rfl (lv_at hl 0 rfl) ?_
          refine va_get (D := D) (ci := 6) (v := .int tvalue_5) (C := RX6) (T := TX6) (N := 8) hx hb htb iX6 hown hK.1 hP 0 rfl rfl 7 (by decide) (htb _ k_165) (fun _ h9 => h9) rfl dX6_takeDigits_35 ?_
          refine lv_imul hx hb dX6_takeDigits_38 ?_
          refine lv_topi (fun z_12 ez_12 => ?_)
          refine lv_aload_n hx hb dX6_takeDigits_39 rfl (lv_at hl 0 rfl) ?_
          refine va_get (D := D) (ci := 6) (v := .ref (ta 0)) (C := RX6) (T := TX6) (N := 8) hx hb htb iX6 hown hK.1 hP 0 rfl rfl 0 (by decide) (htb _ k_157) (fun _ h9 => h9) rfl dX6_takeDigits_40 ?_
          refine lv_aload_n hx hb dX6_takeDigits_43 rfl (lv_at hl 0 rfl) ?_
          refine va_get (D := D) (ci := 6) (v := .int tat_5) (C := RX6) (T := TX6) (N := 8) hx hb htb iX6 hown hK.1 hP 0 rfl rfl 4 (by decide) (htb _ k_162) (fun _ h9 => h9) rfl dX6_takeDigits_44 ?_
          refine va_iald hx hb hK.1 hP 1 0 rfl rfl (g_in rfl (by omega) (by omega)) dX6_takeDigits_47 ?_
          refine lv_topi (fun z_13 ez_13 => ?_)
          have kz_13 := congrArg Int32.toInt ez_13
          refine lv_iadd hx hb dX6_takeDigits_48 ?_
          refine lv_topi (fun z_14 ez_14 => ?_)
          refine lv_bipush (v := 48) hx hb dX6_takeDigits_49 (by decide) ?_
          refine lv_isub hx hb dX6_takeDigits_51 ?_
          refine lv_topi (fun z_15 ez_15 => ?_)
          refine va_put (D := D) (ci := 6) (v := .int z_15) (ty := .int) (C := RX6) (T := TX6) (N := 8) hx hb htb iX6 tyX6 tyX6_ok nmX6 hown hK.1 hP hD hS 0 rfl rfl 7 (by decide) (htb _ k_165) (fun _ h9 => h9) rfl (by decide +kernel) rfl rfl (Nat.le_of_ble_eq_true rfl) dX6_takeDigits_52 (fun H locs hP hD hS => ?_)
          have hP : va_P D vwCl [(th, .inr (6, G6 ta tsize trule twords tat_5 tword twordAt z_15)), ((ta 0), .inl (E 0, 120, .inl tf0))] H := hP
          have hD := toW hP hD rfl
          refine lv_aload_n hx hb dX6_takeDigits_55 rfl (lv_at hl 0 rfl) ?_
          refine lv_dup hx hb dX6_takeDigits_56 rfl ?_
          refine va_get (D := D) (ci := 6) (v := .int tat_5) (C := RX6) (T := TX6) (N := 8) hx hb htb iX6 hown hK.1 hP 0 rfl rfl 4 (by decide) (htb _ k_162) (fun _ h9 => h9) rfl dX6_takeDigits_57 ?_
          refine lv_iconst (v := 1) hx hb dX6_takeDigits_60 (by decide) ?_
          refine lv_iadd hx hb dX6_takeDigits_61 ?_
          refine lv_topi (fun z_16 ez_16 => ?_)
          have jz_16 : z_16.toInt = tat_5.toInt + 1 := by rw [ez_16]; exact g_add rfl t_1 (by omega) (by omega)
          refine va_put (D := D) (ci := 6) (v := .int z_16) (ty := .int) (C := RX6) (T := TX6) (N := 8) hx hb htb iX6 tyX6 tyX6_ok nmX6 hown hK.1 hP hD hS 0 rfl rfl 4 (by decide) (htb _ k_162) (fun _ h9 => h9) rfl (by decide +kernel) rfl rfl (Nat.le_of_ble_eq_true rfl) dX6_takeDigits_62 (fun H locs hP hD hS => ?_)
          have hP : va_P D vwCl [(th, .inr (6, G6 ta tsize trule twords z_16 tword twordAt z_15)), ((ta 0), .inl (E 0, 120, .inl tf0))] H := hP
          have hD := toW hP hD rfl
          refine lv_goto (tgt := 5) hx hb dX6_takeDigits_65 (by decide) ?_
          exact ih_2 z_16 z_15 _ _ _ (by (try dsimp only); omega) (by (try dsimp only); omega) (by rw [clampS (by omega) jz_16, ← skp_yes (lo := 48) (hi := 57) (f := tf0) (n := (tsize).toNatClampNeg) (a := (tat_5).toNatClampNeg) (by have c0 := i_clamp0 (x := tat_5) (by omega); have c1 := i_clamp0 (x := tsize) (by omega); omega) (by omega)]; exact v1_5) (by rw [clampS (by omega) jz_16, show (tat_5).toNatClampNeg + 1 - (twordAt).toNatClampNeg = ((tat_5).toNatClampNeg - (twordAt).toNatClampNeg) + 1 by have c0 := i_clamp0 (x := tat_5) (by omega); have c1 := i_clamp0 (x := twordAt) (by omega); omega]; exact num_fin (b := z_13) v2_5 (by rw [show (twordAt).toNatClampNeg + ((tat_5).toNatClampNeg - (twordAt).toNatClampNeg) = (tat_5).toNatClampNeg by have c0 := i_clamp0 (x := tat_5) (by omega); have c1 := i_clamp0 (x := twordAt) (by omega); omega]; exact ez_13.symm) (by first | (subst_vars; rfl) | subst_vars)) hP hD hS (lv_sub hl [0] rfl)
        ·
          refine W_top (y := .int 0) (by rw [hr_8]) ?_
          refine lv_if_eq (tgt := 68) hx hb dX6_takeDigits_28 (by decide) (fun c_17 => ?_) (fun c_17 => absurd (by decide) c_17)
          refine lv_aload_n hx hb dX6_takeDigits_68 rfl (lv_at hl 0 rfl) ?_
          refine lv_aload_n hx hb dX6_takeDigits_69 rfl (lv_at hl 0 rfl) ?_
          refine va_get (D := D) (ci := 6) (v := .int tat_5) (C := RX6) (T := TX6) (N := 8) hx hb htb iX6 hown hK.1 hP 0 rfl rfl 4 (by decide) (htb _ k_162) (fun _ h9 => h9) rfl dX6_takeDigits_70 ?_
          refine lv_aload_n hx hb dX6_takeDigits_73 rfl (lv_at hl 0 rfl) ?_
          refine va_get (D := D) (ci := 6) (v := .int twordAt) (C := RX6) (T := TX6) (N := 8) hx hb htb iX6 hown hK.1 hP 0 rfl rfl 6 (by decide) (htb _ k_164) (fun _ h9 => h9) rfl dX6_takeDigits_74 ?_
          refine lv_isub hx hb dX6_takeDigits_77 ?_
          refine lv_topi (fun z_18 ez_18 => ?_)
          have jz_18 : z_18.toInt = tat_5.toInt - twordAt.toInt := by rw [ez_18]; exact g_sub rfl rfl (by omega) (by omega)
          refine lv_iconst (v := 5) hx hb dX6_takeDigits_78 (by decide) ?_
          refine lv_icmp_gt (tgt := 86) hx hb dX6_takeDigits_79 (by decide) (fun c_19 => ?_) (fun c_19 => ?_)
          ·
            have ic_19 : 5 < z_18.toInt := by first | exact (g_lt t_5 rfl).mp c_19 | (have h := mt (g_le rfl t_5).mpr c_19; omega)
            clear c_19
            refine lv_iconst (v := 1) hx hb dX6_takeDigits_86 (by decide) ?_
            refine va_put (D := D) (ci := 6) (v := .int 1) (ty := .int) (C := RX6) (T := TX6) (N := 8) hx hb htb iX6 tyX6 tyX6_ok nmX6 hown hK.1 hP hD hS 0 rfl rfl 5 (by decide) (htb _ k_163) (fun _ h9 => h9) rfl (by decide +kernel) rfl rfl (Nat.le_of_ble_eq_true rfl) dX6_takeDigits_87 (fun H locs hP hD hS => ?_)
            have hP : va_P D vwCl [(th, .inr (6, G6 ta tsize trule twords tat_5 1 twordAt tvalue_5)), ((ta 0), .inl (E 0, 120, .inl tf0))] H := hP
            have hD := toW hP hD rfl
            have hP9 := hP.sub (ws' := [(th, .inr (6, G6 ta tsize trule twords tat_5 1 twordAt tvalue_5)), ((ta 0), .inl (E 0, 120, .inl tf0))]) [0, 1] rfl
            have hD9 := hD.sub (ws' := [(th, .inr (6, G6 ta tsize trule twords tat_5 1 twordAt tvalue_5)), ((ta 0), .inl (E 0, 120, .inl tf0))]) [0, 1] (by decide) rfl
            exact W.vret hx hb hr (fun t ht hW => ⟨⟨(tat_5, tvalue_5, (1 : Int32)), rfl, ⟨(by have h0 := t_1; (try dsimp only); omega), (by (try dsimp only); have hl1 := t_1; have hl2 := t_2; have c0 := i_clamp0 (x := tat_5) (by omega); have c1 := i_clamp0 (x := tsize) (by omega); have c2 := i_clamp0 (x := twordAt) (by omega); have he9 : tat_5.toInt = (teE tf0 (tsize).toNatClampNeg (twordAt).toNatClampNeg : Nat) := (by rw [← v1_5]; first | (rw [skp_z (by omega)]; omega) | (rw [skp_no (by omega)]; omega)); refine ⟨he9, ?_⟩; first | exact Or.inl ⟨by omega, by omega⟩ | exact Or.inr ⟨by omega, by omega, by rw [show (tat_5.toInt - twordAt.toInt).toNat = (tat_5).toNatClampNeg - (twordAt).toNatClampNeg by omega]; exact v2_5⟩)⟩, by rw [ht]; exact hP9, hD9⟩, hS.F ht⟩) hS.2.2 dX6_takeDigits_90
          ·
            have ic_19 : z_18.toInt ≤ 5 := by first | exact (g_le rfl t_5).mp c_19 | (have h := mt (g_lt t_5 rfl).mpr c_19; omega)
            clear c_19
            refine lv_iconst (v := 2) hx hb dX6_takeDigits_82 (by decide) ?_
            refine lv_goto (tgt := 87) hx hb dX6_takeDigits_83 (by decide) ?_
            refine va_put (D := D) (ci := 6) (v := .int 2) (ty := .int) (C := RX6) (T := TX6) (N := 8) hx hb htb iX6 tyX6 tyX6_ok nmX6 hown hK.1 hP hD hS 0 rfl rfl 5 (by decide) (htb _ k_163) (fun _ h9 => h9) rfl (by decide +kernel) rfl rfl (Nat.le_of_ble_eq_true rfl) dX6_takeDigits_87 (fun H locs hP hD hS => ?_)
            have hP : va_P D vwCl [(th, .inr (6, G6 ta tsize trule twords tat_5 2 twordAt tvalue_5)), ((ta 0), .inl (E 0, 120, .inl tf0))] H := hP
            have hD := toW hP hD rfl
            have hP9 := hP.sub (ws' := [(th, .inr (6, G6 ta tsize trule twords tat_5 2 twordAt tvalue_5)), ((ta 0), .inl (E 0, 120, .inl tf0))]) [0, 1] rfl
            have hD9 := hD.sub (ws' := [(th, .inr (6, G6 ta tsize trule twords tat_5 2 twordAt tvalue_5)), ((ta 0), .inl (E 0, 120, .inl tf0))]) [0, 1] (by decide) rfl
            exact W.vret hx hb hr (fun t ht hW => ⟨⟨(tat_5, tvalue_5, (2 : Int32)), rfl, ⟨(by have h0 := t_2; (try dsimp only); omega), (by (try dsimp only); have hl1 := t_1; have hl2 := t_2; have c0 := i_clamp0 (x := tat_5) (by omega); have c1 := i_clamp0 (x := tsize) (by omega); have c2 := i_clamp0 (x := twordAt) (by omega); have he9 : tat_5.toInt = (teE tf0 (tsize).toNatClampNeg (twordAt).toNatClampNeg : Nat) := (by rw [← v1_5]; first | (rw [skp_z (by omega)]; omega) | (rw [skp_no (by omega)]; omega)); refine ⟨he9, ?_⟩; first | exact Or.inl ⟨by omega, by omega⟩ | exact Or.inr ⟨by omega, by omega, by rw [show (tat_5.toInt - twordAt.toInt).toNat = (tat_5).toNatClampNeg - (twordAt).toNatClampNeg by omega]; exact v2_5⟩)⟩, by rw [ht]; exact hP9, hD9⟩, hS.F ht⟩) hS.2.2 dX6_takeDigits_90
  exact loop_1 121 tat 0 _ _ _ (by have h0 := t_0; (try dsimp only); omega) (by have h0 := t_0; (try dsimp only); omega) (by have c0 := i_clamp0 (x := tat) (by omega); have c1 := i_clamp0 (x := tsize) (by omega); have c2 := i_clamp0 (x := twordAt) (by omega); rw [show (tat).toNatClampNeg = (twordAt).toNatClampNeg by omega]; exact (teE_d (f := tf0) (n := (tsize).toNatClampNeg) (s := (twordAt).toNatClampNeg) (by omega) (by rw [show (twordAt).toNatClampNeg = (tat).toNatClampNeg by omega]; omega)).symm) (by rw [show (tat).toNatClampNeg - (twordAt).toNatClampNeg = 0 by have c0 := i_clamp0 (x := tat) (by omega); have c1 := i_clamp0 (x := twordAt) (by omega); omega]; rfl) hP hD hS (lv_sub hl [0] rfl)
