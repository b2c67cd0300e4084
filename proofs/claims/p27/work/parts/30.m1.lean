set_option maxHeartbeats 4000000 in
set_option maxRecDepth 100000 in
theorem g_X9_in (l : Launch) (D : va_G) (E : Nat → Nat) (p0 : Int32) (p1 : Int32) (p2 : Int32)  : Met l yX9_in (wl yX9_in cX9_in 3 (some .boolean)) (RM 0 0 0) (rd_P D E [.int p0, .int p1, .int p2] ([] : va_W)) (rd_Q (fun r => ((r = 1 ∧ (p1.toInt ≤ p0.toInt ∧ p0.toInt ≤ p2.toInt)) ∨ (r = 0 ∧ ¬ (p1.toInt ≤ p0.toInt ∧ p0.toInt ≤ p2.toInt))))) 0 0 (fun _ => False) := by
  refine Met.ofW (cc := cX9_in) (maxL := 3) (ret := (some .boolean)) (by decide) rfl ?_
  intro p e s m args below meth c s₁ B hml hv
  obtain ⟨rfl, hP, hK⟩ := hv
  have hx := B.exec; have hb := B.bytes; have hr := B.returns
  have hts := atoms_spec (ws := wl yX9_in cX9_in 3 (some .boolean)) B.pre
  have htb : ∀ w ∈ tb, w.before _ s = true := fun w h => hts w (List.mem_cons_of_mem _ h)
  have hown : s.vm.findClass RX9 = some m.cls := findClass_of_methodNamed B.named
  have hlocks := B.notSynchronized
  have hP : va_P D vwCl ([] : va_W) s.heap := hP
  have hl := lv_entry ([.int p0, .int p1, .int p2]) (n := 3) (Nat.le_of_ble_eq_true rfl)
  rw [lg_entry_eq]
  generalize (lg_sl ([.int p0, .int p1, .int p2]) ++ List.replicate (3 - (lg_sl ([.int p0, .int p1, .int p2])).length) Slot.unset).toArray = ls at hl ⊢
  have hl : lv_has ls 3 [(0, .int p0), (1, .int p1), (2, .int p2)] := hl
  have lo_p0 := i_lo p0; have hi_p0 := i_hi p0
  have lo_p1 := i_lo p1; have hi_p1 := i_hi p1
  have lo_p2 := i_lo p2; have hi_p2 := i_hi p2
  refine lv_iload_n hx hb dX9_in_0 rfl (lv_at hl 0 rfl) ?_
  refine lv_iload_n hx hb dX9_in_1 rfl (lv_at hl 1 rfl) ?_
  refine lv_icmp_lt (tgt := 14) hx hb dX9_in_2 (by decide) (fun c_1 => ?_) (fun c_1 => ?_)
  ·
    have ic_1 : p0.toInt < p1.toInt := by first | exact (g_lt rfl rfl).mp c_1 | (have h := mt (g_le rfl rfl).mpr c_1; omega)
    clear c_1
    refine lv_iconst (v := 0) hx hb dX9_in_14 (by decide) ?_
    exact W.zret (v := 0) hx hb hr rfl (fun t ht hW => ⟨0, rfl, by first | exact Or.inr ⟨rfl, by omega⟩ | (exfalso; omega), ht⟩) (fun q h => by cases h) dX9_in_15
  ·
    have ic_1 : p1.toInt ≤ p0.toInt := by first | exact (g_le rfl rfl).mp c_1 | (have h := mt (g_lt rfl rfl).mpr c_1; omega)
    clear c_1
    refine lv_iload_n hx hb dX9_in_5 rfl (lv_at hl 0 rfl) ?_
    refine lv_iload_n hx hb dX9_in_6 rfl (lv_at hl 2 rfl) ?_
    refine lv_icmp_gt (tgt := 14) hx hb dX9_in_7 (by decide) (fun c_2 => ?_) (fun c_2 => ?_)
    ·
      have ic_2 : p2.toInt < p0.toInt := by first | exact (g_lt rfl rfl).mp c_2 | (have h := mt (g_le rfl rfl).mpr c_2; omega)
      clear c_2
      refine lv_iconst (v := 0) hx hb dX9_in_14 (by decide) ?_
      exact W.zret (v := 0) hx hb hr rfl (fun t ht hW => ⟨0, rfl, by first | exact Or.inr ⟨rfl, by omega⟩ | (exfalso; omega), ht⟩) (fun q h => by cases h) dX9_in_15
    ·
      have ic_2 : p0.toInt ≤ p2.toInt := by first | exact (g_le rfl rfl).mp c_2 | (have h := mt (g_lt rfl rfl).mpr c_2; omega)
      clear c_2
      refine lv_iconst (v := 1) hx hb dX9_in_10 (by decide) ?_
      refine lv_goto (tgt := 15) hx hb dX9_in_11 (by decide) ?_
      exact W.zret (v := 1) hx hb hr rfl (fun t ht hW => ⟨1, rfl, by first | exact Or.inl ⟨rfl, by omega⟩ | (exfalso; omega), ht⟩) (fun q h => by cases h) dX9_in_15
set_option maxHeartbeats 4000000 in
set_option maxRecDepth 100000 in
theorem g_X9_isPlace (l : Launch) (D : va_G) (E : Nat → Nat) (p0 : Int32)  : Met l yX9_isPlace (wl yX9_isPlace cX9_isPlace 1 (some .boolean)) (RM 1 0 0) (rd_P D E [.int p0] ([] : va_W)) (rd_Q (fun r => ((r = 1 ∧ (0 ≤ p0.toInt ∧ p0.toInt ≤ 15)) ∨ (r = 0 ∧ ¬ (0 ≤ p0.toInt ∧ p0.toInt ≤ 15))))) 0 0 (fun _ => False) := by
  refine Met.ofW (cc := cX9_isPlace) (maxL := 1) (ret := (some .boolean)) (by decide) rfl ?_
  intro p e s m args below meth c s₁ B hml hv
  obtain ⟨rfl, hP, hK⟩ := hv
  have hx := B.exec; have hb := B.bytes; have hr := B.returns
  have hts := atoms_spec (ws := wl yX9_isPlace cX9_isPlace 1 (some .boolean)) B.pre
  have htb : ∀ w ∈ tb, w.before _ s = true := fun w h => hts w (List.mem_cons_of_mem _ h)
  have hown : s.vm.findClass RX9 = some m.cls := findClass_of_methodNamed B.named
  have hlocks := B.notSynchronized
  have hP : va_P D vwCl ([] : va_W) s.heap := hP
  have hl := lv_entry ([.int p0]) (n := 1) (Nat.le_of_ble_eq_true rfl)
  rw [lg_entry_eq]
  generalize (lg_sl ([.int p0]) ++ List.replicate (1 - (lg_sl ([.int p0])).length) Slot.unset).toArray = ls at hl ⊢
  have hl : lv_has ls 1 [(0, .int p0)] := hl
  have lo_p0 := i_lo p0; have hi_p0 := i_hi p0
  refine lv_iload_n hx hb dX9_isPlace_0 rfl (lv_at hl 0 rfl) ?_
  refine lv_iconst (v := 0) hx hb dX9_isPlace_1 (by decide) ?_
  refine lv_bipush (v := 15) hx hb dX9_isPlace_2 (by decide) ?_
  refine callRS (rest := []) (As := [.int p0, .int 0, .int 15]) hx hb hml hown htb hK (g_X9_in l D E p0 0 15 ) ok_X9_in k_1168 k_1169 k_9 k_1170 ⟨(Nat.le_of_ble_eq_true rfl), (Nat.le_of_ble_eq_true rfl)⟩ ⟨(Nat.le_of_ble_eq_true rfl), (Nat.le_of_ble_eq_true rfl)⟩ hl.1 (Nat.le_of_ble_eq_true rfl) rfl rfl dX9_isPlace_4 (hP.sub (ws' := ([] : va_W)) [] rfl) (fun r_1 hw_2 => ?_)
  try simp only [t_0, t_15] at hw_2
  rcases hw_2 with ⟨hr_1, hw_2⟩ | ⟨hr_1, hw_2⟩
  ·
    try simp only [t_0, t_15] at hw_2
    refine W_top (y := .int 1) (by rw [hr_1]) ?_
    exact W.zret (v := 1) hx hb hr rfl (fun t ht hW => ⟨1, rfl, by first | exact Or.inl ⟨rfl, by omega⟩ | (exfalso; omega), ht⟩) (fun q h => by cases h) dX9_isPlace_7
  ·
    try simp only [t_0, t_15] at hw_2
    refine W_top (y := .int 0) (by rw [hr_1]) ?_
    exact W.zret (v := 0) hx hb hr rfl (fun t ht hW => ⟨0, rfl, by first | exact Or.inr ⟨rfl, by omega⟩ | (exfalso; omega), ht⟩) (fun q h => by cases h) dX9_isPlace_7
set_option maxHeartbeats 4000000 in
set_option maxRecDepth 100000 in
theorem g_X9_isDay (l : Launch) (D : va_G) (E : Nat → Nat) (p0 : Int32)  : Met l yX9_isDay (wl yX9_isDay cX9_isDay 1 (some .boolean)) (RM 1 0 0) (rd_P D E [.int p0] ([] : va_W)) (rd_Q (fun r => ((r = 1 ∧ (0 ≤ p0.toInt ∧ p0.toInt ≤ 399)) ∨ (r = 0 ∧ ¬ (0 ≤ p0.toInt ∧ p0.toInt ≤ 399))))) 0 0 (fun _ => False) := by
  refine Met.ofW (cc := cX9_isDay) (maxL := 1) (ret := (some .boolean)) (by decide) rfl ?_
  intro p e s m args below meth c s₁ B hml hv
  obtain ⟨rfl, hP, hK⟩ := hv
  have hx := B.exec; have hb := B.bytes; have hr := B.returns
  have hts := atoms_spec (ws := wl yX9_isDay cX9_isDay 1 (some .boolean)) B.pre
  have htb : ∀ w ∈ tb, w.before _ s = true := fun w h => hts w (List.mem_cons_of_mem _ h)
  have hown : s.vm.findClass RX9 = some m.cls := findClass_of_methodNamed B.named
  have hlocks := B.notSynchronized
  have hP : va_P D vwCl ([] : va_W) s.heap := hP
  have hl := lv_entry ([.int p0]) (n := 1) (Nat.le_of_ble_eq_true rfl)
  rw [lg_entry_eq]
  generalize (lg_sl ([.int p0]) ++ List.replicate (1 - (lg_sl ([.int p0])).length) Slot.unset).toArray = ls at hl ⊢
  have hl : lv_has ls 1 [(0, .int p0)] := hl
  have lo_p0 := i_lo p0; have hi_p0 := i_hi p0
  refine lv_iload_n hx hb dX9_isDay_0 rfl (lv_at hl 0 rfl) ?_
  refine lv_iconst (v := 0) hx hb dX9_isDay_1 (by decide) ?_
  refine lv_sipush (v := 399) hx hb dX9_isDay_2 (by decide) ?_
  refine callRS (rest := []) (As := [.int p0, .int 0, .int 399]) hx hb hml hown htb hK (g_X9_in l D E p0 0 399 ) ok_X9_in k_1168 k_1169 k_9 k_1170 ⟨(Nat.le_of_ble_eq_true rfl), (Nat.le_of_ble_eq_true rfl)⟩ ⟨(Nat.le_of_ble_eq_true rfl), (Nat.le_of_ble_eq_true rfl)⟩ hl.1 (Nat.le_of_ble_eq_true rfl) rfl rfl dX9_isDay_5 (hP.sub (ws' := ([] : va_W)) [] rfl) (fun r_1 hw_2 => ?_)
  try simp only [t_0, t_399] at hw_2
  rcases hw_2 with ⟨hr_1, hw_2⟩ | ⟨hr_1, hw_2⟩
  ·
    try simp only [t_0, t_399] at hw_2
    refine W_top (y := .int 1) (by rw [hr_1]) ?_
    exact W.zret (v := 1) hx hb hr rfl (fun t ht hW => ⟨1, rfl, by first | exact Or.inl ⟨rfl, by omega⟩ | (exfalso; omega), ht⟩) (fun q h => by cases h) dX9_isDay_8
  ·
    try simp only [t_0, t_399] at hw_2
    refine W_top (y := .int 0) (by rw [hr_1]) ?_
    exact W.zret (v := 0) hx hb hr rfl (fun t ht hW => ⟨0, rfl, by first | exact Or.inr ⟨rfl, by omega⟩ | (exfalso; omega), ht⟩) (fun q h => by cases h) dX9_isDay_8
set_option maxHeartbeats 4000000 in
set_option maxRecDepth 100000 in
theorem g_X9_isShip (l : Launch) (D : va_G) (E : Nat → Nat) (p0 : Int32)  : Met l yX9_isShip (wl yX9_isShip cX9_isShip 1 (some .boolean)) (RM 1 0 0) (rd_P D E [.int p0] ([] : va_W)) (rd_Q (fun r => ((r = 1 ∧ (0 ≤ p0.toInt ∧ p0.toInt ≤ 4)) ∨ (r = 0 ∧ ¬ (0 ≤ p0.toInt ∧ p0.toInt ≤ 4))))) 0 0 (fun _ => False) := by
  refine Met.ofW (cc := cX9_isShip) (maxL := 1) (ret := (some .boolean)) (by decide) rfl ?_
  intro p e s m args below meth c s₁ B hml hv
  obtain ⟨rfl, hP, hK⟩ := hv
  have hx := B.exec; have hb := B.bytes; have hr := B.returns
  have hts := atoms_spec (ws := wl yX9_isShip cX9_isShip 1 (some .boolean)) B.pre
  have htb : ∀ w ∈ tb, w.before _ s = true := fun w h => hts w (List.mem_cons_of_mem _ h)
  have hown : s.vm.findClass RX9 = some m.cls := findClass_of_methodNamed B.named
  have hlocks := B.notSynchronized
  have hP : va_P D vwCl ([] : va_W) s.heap := hP
  have hl := lv_entry ([.int p0]) (n := 1) (Nat.le_of_ble_eq_true rfl)
  rw [lg_entry_eq]
  generalize (lg_sl ([.int p0]) ++ List.replicate (1 - (lg_sl ([.int p0])).length) Slot.unset).toArray = ls at hl ⊢
  have hl : lv_has ls 1 [(0, .int p0)] := hl
  have lo_p0 := i_lo p0; have hi_p0 := i_hi p0
  refine lv_iload_n hx hb dX9_isShip_0 rfl (lv_at hl 0 rfl) ?_
  refine lv_iconst (v := 0) hx hb dX9_isShip_1 (by decide) ?_
  refine lv_iconst (v := 4) hx hb dX9_isShip_2 (by decide) ?_
  refine callRS (rest := []) (As := [.int p0, .int 0, .int 4]) hx hb hml hown htb hK (g_X9_in l D E p0 0 4 ) ok_X9_in k_1168 k_1169 k_9 k_1170 ⟨(Nat.le_of_ble_eq_true rfl), (Nat.le_of_ble_eq_true rfl)⟩ ⟨(Nat.le_of_ble_eq_true rfl), (Nat.le_of_ble_eq_true rfl)⟩ hl.1 (Nat.le_of_ble_eq_true rfl) rfl rfl dX9_isShip_3 (hP.sub (ws' := ([] : va_W)) [] rfl) (fun r_1 hw_2 => ?_)
  try simp only [t_0, t_4] at hw_2
  rcases hw_2 with ⟨hr_1, hw_2⟩ | ⟨hr_1, hw_2⟩
  ·
    try simp only [t_0, t_4] at hw_2
    refine W_top (y := .int 1) (by rw [hr_1]) ?_
    exact W.zret (v := 1) hx hb hr rfl (fun t ht hW => ⟨1, rfl, by first | exact Or.inl ⟨rfl, by omega⟩ | (exfalso; omega), ht⟩) (fun q h => by cases h) dX9_isShip_6
  ·
    try simp only [t_0, t_4] at hw_2
    refine W_top (y := .int 0) (by rw [hr_1]) ?_
    exact W.zret (v := 0) hx hb hr rfl (fun t ht hW => ⟨0, rfl, by first | exact Or.inr ⟨rfl, by omega⟩ | (exfalso; omega), ht⟩) (fun q h => by cases h) dX9_isShip_6
set_option maxHeartbeats 4000000 in
set_option maxRecDepth 100000 in
theorem g_X9_isShown (l : Launch) (D : va_G) (E : Nat → Nat) (p0 : Int32)  : Met l yX9_isShown (wl yX9_isShown cX9_isShown 1 (some .boolean)) (RM 1 0 0) (rd_P D E [.int p0] ([] : va_W)) (rd_Q (fun r => ((r = 1 ∧ (-2000000 ≤ p0.toInt ∧ p0.toInt ≤ 2000000)) ∨ (r = 0 ∧ ¬ (-2000000 ≤ p0.toInt ∧ p0.toInt ≤ 2000000))))) 0 0 (fun _ => False) := by
  refine Met.ofW (cc := cX9_isShown) (maxL := 1) (ret := (some .boolean)) (by decide) rfl ?_
  intro p e s m args below meth c s₁ B hml hv
  obtain ⟨rfl, hP, hK⟩ := hv
  have hx := B.exec; have hb := B.bytes; have hr := B.returns
  have hts := atoms_spec (ws := wl yX9_isShown cX9_isShown 1 (some .boolean)) B.pre
  have htb : ∀ w ∈ tb, w.before _ s = true := fun w h => hts w (List.mem_cons_of_mem _ h)
  have hown : s.vm.findClass RX9 = some m.cls := findClass_of_methodNamed B.named
  have hlocks := B.notSynchronized
  have hP : va_P D vwCl ([] : va_W) s.heap := hP
  have hl := lv_entry ([.int p0]) (n := 1) (Nat.le_of_ble_eq_true rfl)
  rw [lg_entry_eq]
  generalize (lg_sl ([.int p0]) ++ List.replicate (1 - (lg_sl ([.int p0])).length) Slot.unset).toArray = ls at hl ⊢
  have hl : lv_has ls 1 [(0, .int p0)] := hl
  have lo_p0 := i_lo p0; have hi_p0 := i_hi p0
  refine lv_iload_n hx hb dX9_isShown_0 rfl (lv_at hl 0 rfl) ?_
  refine lv_ldcw hx hb hown (htb _ k_1436) dX9_isShown_1 ?_
  refine lv_ldcw hx hb hown (htb _ k_1437) dX9_isShown_4 ?_
  refine callRS (rest := []) (As := [.int p0, .int (-2000000), .int 2000000]) hx hb hml hown htb hK (g_X9_in l D E p0 (-2000000) 2000000 ) ok_X9_in k_1168 k_1169 k_9 k_1170 ⟨(Nat.le_of_ble_eq_true rfl), (Nat.le_of_ble_eq_true rfl)⟩ ⟨(Nat.le_of_ble_eq_true rfl), (Nat.le_of_ble_eq_true rfl)⟩ hl.1 (Nat.le_of_ble_eq_true rfl) rfl rfl dX9_isShown_7 (hP.sub (ws' := ([] : va_W)) [] rfl) (fun r_1 hw_2 => ?_)
  try simp only [t_m2000000, t_2000000] at hw_2
  rcases hw_2 with ⟨hr_1, hw_2⟩ | ⟨hr_1, hw_2⟩
  ·
    try simp only [t_m2000000, t_2000000] at hw_2
    refine W_top (y := .int 1) (by rw [hr_1]) ?_
    exact W.zret (v := 1) hx hb hr rfl (fun t ht hW => ⟨1, rfl, by first | exact Or.inl ⟨rfl, by omega⟩ | (exfalso; omega), ht⟩) (fun q h => by cases h) dX9_isShown_10
  ·
    try simp only [t_m2000000, t_2000000] at hw_2
    refine W_top (y := .int 0) (by rw [hr_1]) ?_
    exact W.zret (v := 0) hx hb hr rfl (fun t ht hW => ⟨0, rfl, by first | exact Or.inr ⟨rfl, by omega⟩ | (exfalso; omega), ht⟩) (fun q h => by cases h) dX9_isShown_10
set_option maxHeartbeats 4000000 in
set_option maxRecDepth 100000 in
theorem g_X9_isKnown (l : Launch) (D : va_G) (E : Nat → Nat) (p0 : Int32)  : Met l yX9_isKnown (wl yX9_isKnown cX9_isKnown 1 (some .boolean)) (RM 1 0 0) (rd_P D E [.int p0] ([] : va_W)) (rd_Q (fun r => ((r = 1 ∧ (-1 ≤ p0.toInt ∧ p0.toInt ≤ 399)) ∨ (r = 0 ∧ ¬ (-1 ≤ p0.toInt ∧ p0.toInt ≤ 399))))) 0 0 (fun _ => False) := by
  refine Met.ofW (cc := cX9_isKnown) (maxL := 1) (ret := (some .boolean)) (by decide) rfl ?_
  intro p e s m args below meth c s₁ B hml hv
  obtain ⟨rfl, hP, hK⟩ := hv
  have hx := B.exec; have hb := B.bytes; have hr := B.returns
  have hts := atoms_spec (ws := wl yX9_isKnown cX9_isKnown 1 (some .boolean)) B.pre
  have htb : ∀ w ∈ tb, w.before _ s = true := fun w h => hts w (List.mem_cons_of_mem _ h)
  have hown : s.vm.findClass RX9 = some m.cls := findClass_of_methodNamed B.named
  have hlocks := B.notSynchronized
  have hP : va_P D vwCl ([] : va_W) s.heap := hP
  have hl := lv_entry ([.int p0]) (n := 1) (Nat.le_of_ble_eq_true rfl)
  rw [lg_entry_eq]
  generalize (lg_sl ([.int p0]) ++ List.replicate (1 - (lg_sl ([.int p0])).length) Slot.unset).toArray = ls at hl ⊢
  have hl : lv_has ls 1 [(0, .int p0)] := hl
  have lo_p0 := i_lo p0; have hi_p0 := i_hi p0
  refine lv_iload_n hx hb dX9_isKnown_0 rfl (lv_at hl 0 rfl) ?_
  refine lv_iconst (v := (-1)) hx hb dX9_isKnown_1 (by decide) ?_
  refine lv_sipush (v := 399) hx hb dX9_isKnown_2 (by decide) ?_
  refine callRS (rest := []) (As := [.int p0, .int (-1), .int 399]) hx hb hml hown htb hK (g_X9_in l D E p0 (-1) 399 ) ok_X9_in k_1168 k_1169 k_9 k_1170 ⟨(Nat.le_of_ble_eq_true rfl), (Nat.le_of_ble_eq_true rfl)⟩ ⟨(Nat.le_of_ble_eq_true rfl), (Nat.le_of_ble_eq_true rfl)⟩ hl.1 (Nat.le_of_ble_eq_true rfl) rfl rfl dX9_isKnown_5 (hP.sub (ws' := ([] : va_W)) [] rfl) (fun r_1 hw_2 => ?_)
  try simp only [t_m1, t_399] at hw_2
  rcases hw_2 with ⟨hr_1, hw_2⟩ | ⟨hr_1, hw_2⟩
  ·
    try simp only [t_m1, t_399] at hw_2
    refine W_top (y := .int 1) (by rw [hr_1]) ?_
    exact W.zret (v := 1) hx hb hr rfl (fun t ht hW => ⟨1, rfl, by first | exact Or.inl ⟨rfl, by omega⟩ | (exfalso; omega), ht⟩) (fun q h => by cases h) dX9_isKnown_8
  ·
    try simp only [t_m1, t_399] at hw_2
    refine W_top (y := .int 0) (by rw [hr_1]) ?_
    exact W.zret (v := 0) hx hb hr rfl (fun t ht hW => ⟨0, rfl, by first | exact Or.inr ⟨rfl, by omega⟩ | (exfalso; omega), ht⟩) (fun q h => by cases h) dX9_isKnown_8
set_option maxHeartbeats 4000000 in
set_option maxRecDepth 100000 in
theorem g_X9_areDays (l : Launch) (D : va_G) (E : Nat → Nat) (p0 : Int32) (p1 : Int32)  : Met l yX9_areDays (wl yX9_areDays cX9_areDays 2 (some .boolean)) (RM 0 0 0) (rd_P D E [.int p0, .int p1] ([] : va_W)) (rd_Q (fun r => ((r = 1 ∧ (0 ≤ p0.toInt ∧ p1.toInt ≤ 399 ∧ p0.toInt < p1.toInt ∧ p1.toInt - p0.toInt ≤ 60)) ∨ (r = 0 ∧ ¬ (0 ≤ p0.toInt ∧ p1.toInt ≤ 399 ∧ p0.toInt < p1.toInt ∧ p1.toInt - p0.toInt ≤ 60))))) 0 0 (fun _ => False) := by
  refine Met.ofW (cc := cX9_areDays) (maxL := 2) (ret := (some .boolean)) (by decide) rfl ?_
  intro p e s m args below meth c s₁ B hml hv
  obtain ⟨rfl, hP, hK⟩ := hv
  have hx := B.exec; have hb := B.bytes; have hr := B.returns
  have hts := atoms_spec (ws := wl yX9_areDays cX9_areDays 2 (some .boolean)) B.pre
  have htb : ∀ w ∈ tb, w.before _ s = true := fun w h => hts w (List.mem_cons_of_mem _ h)
  have hown : s.vm.findClass RX9 = some m.cls := findClass_of_methodNamed B.named
  have hlocks := B.notSynchronized
  have hP : va_P D vwCl ([] : va_W) s.heap := hP
  have hl := lv_entry ([.int p0, .int p1]) (n := 2) (Nat.le_of_ble_eq_true rfl)
  rw [lg_entry_eq]
  generalize (lg_sl ([.int p0, .int p1]) ++ List.replicate (2 - (lg_sl ([.int p0, .int p1])).length) Slot.unset).toArray = ls at hl ⊢
  have hl : lv_has ls 2 [(0, .int p0), (1, .int p1)] := hl
  have lo_p0 := i_lo p0; have hi_p0 := i_hi p0
  have lo_p1 := i_lo p1; have hi_p1 := i_hi p1
  refine lv_iload_n hx hb dX9_areDays_0 rfl (lv_at hl 0 rfl) ?_
  refine lv_if_lt (tgt := 28) hx hb dX9_areDays_1 (by decide) (fun c_1 => ?_) (fun c_1 => ?_)
  ·
    have ic_1 : p0.toInt < 0 := by first | exact (g_lt rfl t_0).mp c_1 | (have h := mt (g_le t_0 rfl).mpr c_1; omega)
    clear c_1
    refine lv_iconst (v := 0) hx hb dX9_areDays_28 (by decide) ?_
    exact W.zret (v := 0) hx hb hr rfl (fun t ht hW => ⟨0, rfl, by first | exact Or.inr ⟨rfl, by omega⟩ | (exfalso; omega), ht⟩) (fun q h => by cases h) dX9_areDays_29
  ·
    have ic_1 : 0 ≤ p0.toInt := by first | exact (g_le t_0 rfl).mp c_1 | (have h := mt (g_lt rfl t_0).mpr c_1; omega)
    clear c_1
    refine lv_iload_n hx hb dX9_areDays_4 rfl (lv_at hl 1 rfl) ?_
    refine lv_sipush (v := 399) hx hb dX9_areDays_5 (by decide) ?_
    refine lv_icmp_gt (tgt := 28) hx hb dX9_areDays_8 (by decide) (fun c_2 => ?_) (fun c_2 => ?_)
    ·
      have ic_2 : 399 < p1.toInt := by first | exact (g_lt t_399 rfl).mp c_2 | (have h := mt (g_le rfl t_399).mpr c_2; omega)
      clear c_2
      refine lv_iconst (v := 0) hx hb dX9_areDays_28 (by decide) ?_
      exact W.zret (v := 0) hx hb hr rfl (fun t ht hW => ⟨0, rfl, by first | exact Or.inr ⟨rfl, by omega⟩ | (exfalso; omega), ht⟩) (fun q h => by cases h) dX9_areDays_29
    ·
      have ic_2 : p1.toInt ≤ 399 := by first | exact (g_le rfl t_399).mp c_2 | (have h := mt (g_lt t_399 rfl).mpr c_2; omega)
      clear c_2
      refine lv_iload_n hx hb dX9_areDays_11 rfl (lv_at hl 1 rfl) ?_
      refine lv_iload_n hx hb dX9_areDays_12 rfl (lv_at hl 0 rfl) ?_
      refine lv_icmp_le (tgt := 28) hx hb dX9_areDays_13 (by decide) (fun c_3 => ?_) (fun c_3 => ?_)
      ·
        have ic_3 : p1.toInt ≤ p0.toInt := by first | exact (g_le rfl rfl).mp c_3 | (have h := mt (g_lt rfl rfl).mpr c_3; omega)
        clear c_3
        refine lv_iconst (v := 0) hx hb dX9_areDays_28 (by decide) ?_
        exact W.zret (v := 0) hx hb hr rfl (fun t ht hW => ⟨0, rfl, by first | exact Or.inr ⟨rfl, by omega⟩ | (exfalso; omega), ht⟩) (fun q h => by cases h) dX9_areDays_29
      ·
        have ic_3 : p0.toInt < p1.toInt := by first | exact (g_lt rfl rfl).mp c_3 | (have h := mt (g_le rfl rfl).mpr c_3; omega)
        clear c_3
        refine lv_iload_n hx hb dX9_areDays_16 rfl (lv_at hl 1 rfl) ?_
        refine lv_iload_n hx hb dX9_areDays_17 rfl (lv_at hl 0 rfl) ?_
        refine lv_isub hx hb dX9_areDays_18 ?_
        refine lv_topi (fun z_4 ez_4 => ?_)
        have jz_4 : z_4.toInt = p1.toInt - p0.toInt := by rw [ez_4]; exact g_sub rfl rfl (by omega) (by omega)
        refine lv_bipush (v := 60) hx hb dX9_areDays_19 (by decide) ?_
        refine lv_icmp_gt (tgt := 28) hx hb dX9_areDays_21 (by decide) (fun c_5 => ?_) (fun c_5 => ?_)
        ·
          have ic_5 : 60 < z_4.toInt := by first | exact (g_lt t_60 rfl).mp c_5 | (have h := mt (g_le rfl t_60).mpr c_5; omega)
          clear c_5
          refine lv_iconst (v := 0) hx hb dX9_areDays_28 (by decide) ?_
          exact W.zret (v := 0) hx hb hr rfl (fun t ht hW => ⟨0, rfl, by first | exact Or.inr ⟨rfl, by omega⟩ | (exfalso; omega), ht⟩) (fun q h => by cases h) dX9_areDays_29
        ·
          have ic_5 : z_4.toInt ≤ 60 := by first | exact (g_le rfl t_60).mp c_5 | (have h := mt (g_lt t_60 rfl).mpr c_5; omega)
          clear c_5
          refine lv_iconst (v := 1) hx hb dX9_areDays_24 (by decide) ?_
          refine lv_goto (tgt := 29) hx hb dX9_areDays_25 (by decide) ?_
          exact W.zret (v := 1) hx hb hr rfl (fun t ht hW => ⟨1, rfl, by first | exact Or.inl ⟨rfl, by omega⟩ | (exfalso; omega), ht⟩) (fun q h => by cases h) dX9_areDays_29
set_option maxHeartbeats 4000000 in
set_option maxRecDepth 100000 in
theorem g_X9_size (l : Launch) (D : va_G) (E : Nat → Nat) (p0 : Int32)  : Met l yX9_size (wl yX9_size cX9_size 1 (some .int)) (RM 0 0 0) (rd_P D E [.int p0] ([] : va_W)) (rd_Q (fun r => (r = szF p0))) 0 0 (fun _ => False) := by
  refine Met.ofW (cc := cX9_size) (maxL := 1) (ret := (some .int)) (by decide) rfl ?_
  intro p e s m args below meth c s₁ B hml hv
  obtain ⟨rfl, hP, hK⟩ := hv
  have hx := B.exec; have hb := B.bytes; have hr := B.returns
  have hts := atoms_spec (ws := wl yX9_size cX9_size 1 (some .int)) B.pre
  have htb : ∀ w ∈ tb, w.before _ s = true := fun w h => hts w (List.mem_cons_of_mem _ h)
  have hown : s.vm.findClass RX9 = some m.cls := findClass_of_methodNamed B.named
  have hlocks := B.notSynchronized
  have hP : va_P D vwCl ([] : va_W) s.heap := hP
  have hl := lv_entry ([.int p0]) (n := 1) (Nat.le_of_ble_eq_true rfl)
  rw [lg_entry_eq]
  generalize (lg_sl ([.int p0]) ++ List.replicate (1 - (lg_sl ([.int p0])).length) Slot.unset).toArray = ls at hl ⊢
  have hl : lv_has ls 1 [(0, .int p0)] := hl
  have lo_p0 := i_lo p0; have hi_p0 := i_hi p0
  refine lv_iload_n hx hb dX9_size_0 rfl (lv_at hl 0 rfl) ?_
  refine lv_if_ge (tgt := 9) hx hb dX9_size_1 (by decide) (fun c_1 => ?_) (fun c_1 => ?_)
  ·
    have ic_1 : 0 ≤ p0.toInt := by first | exact (g_le t_0 rfl).mp c_1 | (have h := mt (g_lt rfl t_0).mpr c_1; omega)
    clear c_1
    refine lv_iload_n hx hb dX9_size_9 rfl (lv_at hl 0 rfl) ?_
    exact W.iret (v := p0) hx hb hr (fun t ht hW => ⟨p0, rfl, (by unfold szF; first | (rw [if_pos (by omega)]; try assumption) | (rw [if_neg (by omega)])), ht⟩) (fun q h => by cases h) dX9_size_10
  ·
    have ic_1 : p0.toInt < 0 := by first | exact (g_lt rfl t_0).mp c_1 | (have h := mt (g_le t_0 rfl).mpr c_1; omega)
    clear c_1
    refine lv_iload_n hx hb dX9_size_4 rfl (lv_at hl 0 rfl) ?_
    refine lv_ineg hx hb dX9_size_5 ?_
    refine lv_topi (fun z_2 ez_2 => ?_)
    refine lv_goto (tgt := 10) hx hb dX9_size_6 (by decide) ?_
    exact W.iret (v := z_2) hx hb hr (fun t ht hW => ⟨z_2, rfl, (by unfold szF; first | (rw [if_pos (by omega)]; try assumption) | (rw [if_neg (by omega)])), ht⟩) (fun q h => by cases h) dX9_size_10
set_option maxHeartbeats 4000000 in
set_option maxRecDepth 100000 in
theorem g_X9_floor (l : Launch) (D : va_G) (E : Nat → Nat) (p0 : Int64) (p1 : Int64) (n0 : ¬ p1 = 0) : Met l yX9_floor (wl yX9_floor cX9_floor 4 (some .long)) (RM 0 0 0) (rd_P D E [.long p0, .long p1] ([] : va_W)) (rl_Q (fun r => (0 < (p1 : Int64).toInt → r.toInt = (p0 : Int64).toInt / (p1 : Int64).toInt))) 0 0 (fun _ => False) := by
  refine Met.ofW (cc := cX9_floor) (maxL := 4) (ret := (some .long)) (by decide) rfl ?_
  intro p e s m args below meth c s₁ B hml hv
  obtain ⟨rfl, hP, hK⟩ := hv
  have hx := B.exec; have hb := B.bytes; have hr := B.returns
  have hts := atoms_spec (ws := wl yX9_floor cX9_floor 4 (some .long)) B.pre
  have htb : ∀ w ∈ tb, w.before _ s = true := fun w h => hts w (List.mem_cons_of_mem _ h)
  have hown : s.vm.findClass RX9 = some m.cls := findClass_of_methodNamed B.named
  have hlocks := B.notSynchronized
  have hP : va_P D vwCl ([] : va_W) s.heap := hP
  have hl := lv_entry ([.long p0, .long p1]) (n := 4) (Nat.le_of_ble_eq_true rfl)
  rw [lg_entry_eq]
  generalize (lg_sl ([.long p0, .long p1]) ++ List.replicate (4 - (lg_sl ([.long p0, .long p1])).length) Slot.unset).toArray = ls at hl ⊢
  have hl : lv_has ls 4 [(0, .long p0), (2, .long p1)] := hl
  refine lv_lload_n hx hb dX9_floor_0 rfl (lv_at hl 0 rfl) ?_
  refine lv_lload_n hx hb dX9_floor_1 rfl (lv_at hl 1 rfl) ?_
  refine lv_ldiv hx hb dX9_floor_2 (by assumption) ?_
  refine lv_topl (fun z_1 ez_1 => ?_)
  refine lv_lload_n hx hb dX9_floor_3 rfl (lv_at hl 0 rfl) ?_
  refine lv_lload_n hx hb dX9_floor_4 rfl (lv_at hl 1 rfl) ?_
  refine lv_lrem hx hb dX9_floor_5 (by assumption) ?_
  refine lv_topl (fun z_2 ez_2 => ?_)
  refine lv_lconst (v := 0) hx hb dX9_floor_6 (by decide) ?_
  refine W.lcmp hx hb dX9_floor_7 ?_
  refine lv_topi (fun z_3 ez_3 => ?_)
  refine lv_if_eq (tgt := 40) hx hb dX9_floor_8 (by decide) (fun c_4 => ?_) (fun c_4 => ?_)
  ·
    have lc_5 : (z_2 : Int64) = (0 : Int64) := lc_eq (by rw [← ez_3]; exact c_4)
    refine lv_lconst (v := 0) hx hb dX9_floor_40 (by decide) ?_
    refine lv_lsub hx hb dX9_floor_41 ?_
    refine lv_topl (fun z_6 ez_6 => ?_)
    exact W.lret (v := z_6) hx hb hr (fun t ht hW => ⟨z_6, rfl, (fun hy => by rw [ez_6, ez_1]; exact lfl_1 hy (by rw [← ez_2]; exact lc_5)), ht⟩) (fun q h => by cases h) dX9_floor_42
  ·
    have lc_7 : ¬ (z_2 : Int64) = (0 : Int64) := lc_ne (by rw [← ez_3]; exact c_4)
    refine lv_lload_n hx hb dX9_floor_11 rfl (lv_at hl 0 rfl) ?_
    refine lv_lconst (v := 0) hx hb dX9_floor_12 (by decide) ?_
    refine W.lcmp hx hb dX9_floor_13 ?_
    refine lv_topi (fun z_8 ez_8 => ?_)
    refine lv_if_ge (tgt := 21) hx hb dX9_floor_14 (by decide) (fun c_9 => ?_) (fun c_9 => ?_)
    ·
      have lc_10 : (0 : Int64).toInt ≤ (p0 : Int64).toInt := lc_geI (by rw [← ez_8]; first | exact Or.inl c_9 | exact Or.inr c_9)
      refine lv_iconst (v := 0) hx hb dX9_floor_21 (by decide) ?_
      refine lv_lload_n hx hb dX9_floor_22 rfl (lv_at hl 1 rfl) ?_
      refine lv_lconst (v := 0) hx hb dX9_floor_23 (by decide) ?_
      refine W.lcmp hx hb dX9_floor_24 ?_
      refine lv_topi (fun z_11 ez_11 => ?_)
      refine lv_if_ge (tgt := 32) hx hb dX9_floor_25 (by decide) (fun c_12 => ?_) (fun c_12 => ?_)
      ·
        have lc_13 : (0 : Int64).toInt ≤ (p1 : Int64).toInt := lc_geI (by rw [← ez_11]; first | exact Or.inl c_12 | exact Or.inr c_12)
        refine lv_iconst (v := 0) hx hb dX9_floor_32 (by decide) ?_
        refine lv_icmp_eq (tgt := 40) hx hb dX9_floor_33 (by decide) (fun c_14 => ?_) (fun c_14 => absurd (by decide) c_14)
        refine lv_lconst (v := 0) hx hb dX9_floor_40 (by decide) ?_
        refine lv_lsub hx hb dX9_floor_41 ?_
        refine lv_topl (fun z_15 ez_15 => ?_)
        exact W.lret (v := z_15) hx hb hr (fun t ht hW => ⟨z_15, rfl, (fun hy => by have h0 : (0 : Int64).toInt = 0 := (by decide); rw [ez_15, ez_1]; exact lfl_3 hy (by have h9 := lc_10; omega)), ht⟩) (fun q h => by cases h) dX9_floor_42
      ·
        have lc_16 : (p1 : Int64).toInt < (0 : Int64).toInt := lc_ltI (by rw [← ez_11]; first | exact Or.inl c_12 | exact Or.inr c_12)
        refine lv_iconst (v := 1) hx hb dX9_floor_28 (by decide) ?_
        refine lv_goto (tgt := 33) hx hb dX9_floor_29 (by decide) ?_
        refine lv_icmp_eq (tgt := 40) hx hb dX9_floor_33 (by decide) (fun c_17 => absurd c_17 (by decide)) (fun c_17 => ?_)
        refine lv_lconst (v := 1) hx hb dX9_floor_36 (by decide) ?_
        refine lv_goto (tgt := 41) hx hb dX9_floor_37 (by decide) ?_
        refine lv_lsub hx hb dX9_floor_41 ?_
        refine lv_topl (fun z_18 ez_18 => ?_)
        exact W.lret (v := z_18) hx hb hr (fun t ht hW => ⟨z_18, rfl, (fun hy => by have h0 : (0 : Int64).toInt = 0 := (by decide); have h9 := lc_16; exfalso; omega), ht⟩) (fun q h => by cases h) dX9_floor_42
    ·
      have lc_19 : (p0 : Int64).toInt < (0 : Int64).toInt := lc_ltI (by rw [← ez_8]; first | exact Or.inl c_9 | exact Or.inr c_9)
      refine lv_iconst (v := 1) hx hb dX9_floor_17 (by decide) ?_
      refine lv_goto (tgt := 22) hx hb dX9_floor_18 (by decide) ?_
      refine lv_lload_n hx hb dX9_floor_22 rfl (lv_at hl 1 rfl) ?_
      refine lv_lconst (v := 0) hx hb dX9_floor_23 (by decide) ?_
      refine W.lcmp hx hb dX9_floor_24 ?_
      refine lv_topi (fun z_20 ez_20 => ?_)
      refine lv_if_ge (tgt := 32) hx hb dX9_floor_25 (by decide) (fun c_21 => ?_) (fun c_21 => ?_)
      ·
        have lc_22 : (0 : Int64).toInt ≤ (p1 : Int64).toInt := lc_geI (by rw [← ez_20]; first | exact Or.inl c_21 | exact Or.inr c_21)
        refine lv_iconst (v := 0) hx hb dX9_floor_32 (by decide) ?_
        refine lv_icmp_eq (tgt := 40) hx hb dX9_floor_33 (by decide) (fun c_23 => absurd c_23 (by decide)) (fun c_23 => ?_)
        refine lv_lconst (v := 1) hx hb dX9_floor_36 (by decide) ?_
        refine lv_goto (tgt := 41) hx hb dX9_floor_37 (by decide) ?_
        refine lv_lsub hx hb dX9_floor_41 ?_
        refine lv_topl (fun z_24 ez_24 => ?_)
        exact W.lret (v := z_24) hx hb hr (fun t ht hW => ⟨z_24, rfl, (fun hy => by have h0 : (0 : Int64).toInt = 0 := (by decide); rw [ez_24, ez_1]; exact lfl_2 hy (by have h9 := lc_19; omega) (fun h9 => lc_7 (ez_2.trans h9))), ht⟩) (fun q h => by cases h) dX9_floor_42
      ·
        have lc_25 : (p1 : Int64).toInt < (0 : Int64).toInt := lc_ltI (by rw [← ez_20]; first | exact Or.inl c_21 | exact Or.inr c_21)
        refine lv_iconst (v := 1) hx hb dX9_floor_28 (by decide) ?_
        refine lv_goto (tgt := 33) hx hb dX9_floor_29 (by decide) ?_
        refine lv_icmp_eq (tgt := 40) hx hb dX9_floor_33 (by decide) (fun c_26 => ?_) (fun c_26 => absurd (by decide) c_26)
        refine lv_lconst (v := 0) hx hb dX9_floor_40 (by decide) ?_
        refine lv_lsub hx hb dX9_floor_41 ?_
        refine lv_topl (fun z_27 ez_27 => ?_)
        exact W.lret (v := z_27) hx hb hr (fun t ht hW => ⟨z_27, rfl, (fun hy => by have h0 : (0 : Int64).toInt = 0 := (by decide); have h9 := lc_25; exfalso; omega), ht⟩) (fun q h => by cases h) dX9_floor_42
set_option maxHeartbeats 4000000 in
set_option maxRecDepth 100000 in
theorem g_X9_isLetter (l : Launch) (D : va_G) (E : Nat → Nat) (p0 : Int32)  : Met l yX9_isLetter (wl yX9_isLetter cX9_isLetter 1 (some .boolean)) (RM 0 0 0) (rd_P D E [.int p0] ([] : va_W)) (rd_Q (fun r => ((r = 1 ∧ (97 ≤ p0.toInt ∧ p0.toInt ≤ 122)) ∨ (r = 0 ∧ ¬ (97 ≤ p0.toInt ∧ p0.toInt ≤ 122))))) 0 0 (fun _ => False) := by
  refine Met.ofW (cc := cX9_isLetter) (maxL := 1) (ret := (some .boolean)) (by decide) rfl ?_
  intro p e s m args below meth c s₁ B hml hv
  obtain ⟨rfl, hP, hK⟩ := hv
  have hx := B.exec; have hb := B.bytes; have hr := B.returns
  have hts := atoms_spec (ws := wl yX9_isLetter cX9_isLetter 1 (some .boolean)) B.pre
  have htb : ∀ w ∈ tb, w.before _ s = true := fun w h => hts w (List.mem_cons_of_mem _ h)
  have hown : s.vm.findClass RX9 = some m.cls := findClass_of_methodNamed B.named
  have hlocks := B.notSynchronized
  have hP : va_P D vwCl ([] : va_W) s.heap := hP
  have hl := lv_entry ([.int p0]) (n := 1) (Nat.le_of_ble_eq_true rfl)
  rw [lg_entry_eq]
  generalize (lg_sl ([.int p0]) ++ List.replicate (1 - (lg_sl ([.int p0])).length) Slot.unset).toArray = ls at hl ⊢
  have hl : lv_has ls 1 [(0, .int p0)] := hl
  have lo_p0 := i_lo p0; have hi_p0 := i_hi p0
  refine lv_iload_n hx hb dX9_isLetter_0 rfl (lv_at hl 0 rfl) ?_
  refine lv_bipush (v := 97) hx hb dX9_isLetter_1 (by decide) ?_
  refine lv_icmp_lt (tgt := 16) hx hb dX9_isLetter_3 (by decide) (fun c_1 => ?_) (fun c_1 => ?_)
  ·
    have ic_1 : p0.toInt < 97 := by first | exact (g_lt rfl t_97).mp c_1 | (have h := mt (g_le t_97 rfl).mpr c_1; omega)
    clear c_1
    refine lv_iconst (v := 0) hx hb dX9_isLetter_16 (by decide) ?_
    exact W.zret (v := 0) hx hb hr rfl (fun t ht hW => ⟨0, rfl, by first | exact Or.inr ⟨rfl, by omega⟩ | (exfalso; omega), ht⟩) (fun q h => by cases h) dX9_isLetter_17
  ·
    have ic_1 : 97 ≤ p0.toInt := by first | exact (g_le t_97 rfl).mp c_1 | (have h := mt (g_lt rfl t_97).mpr c_1; omega)
    clear c_1
    refine lv_iload_n hx hb dX9_isLetter_6 rfl (lv_at hl 0 rfl) ?_
    refine lv_bipush (v := 122) hx hb dX9_isLetter_7 (by decide) ?_
    refine lv_icmp_gt (tgt := 16) hx hb dX9_isLetter_9 (by decide) (fun c_2 => ?_) (fun c_2 => ?_)
    ·
      have ic_2 : 122 < p0.toInt := by first | exact (g_lt t_122 rfl).mp c_2 | (have h := mt (g_le rfl t_122).mpr c_2; omega)
      clear c_2
      refine lv_iconst (v := 0) hx hb dX9_isLetter_16 (by decide) ?_
      exact W.zret (v := 0) hx hb hr rfl (fun t ht hW => ⟨0, rfl, by first | exact Or.inr ⟨rfl, by omega⟩ | (exfalso; omega), ht⟩) (fun q h => by cases h) dX9_isLetter_17
    ·
      have ic_2 : p0.toInt ≤ 122 := by first | exact (g_le rfl t_122).mp c_2 | (have h := mt (g_lt t_122 rfl).mpr c_2; omega)
      clear c_2
      refine lv_iconst (v := 1) hx hb dX9_isLetter_12 (by decide) ?_
      refine lv_goto (tgt := 17) hx hb dX9_isLetter_13 (by decide) ?_
      exact W.zret (v := 1) hx hb hr rfl (fun t ht hW => ⟨1, rfl, by first | exact Or.inl ⟨rfl, by omega⟩ | (exfalso; omega), ht⟩) (fun q h => by cases h) dX9_isLetter_17
set_option maxHeartbeats 4000000 in
set_option maxRecDepth 100000 in
theorem g_X9_isDigit (l : Launch) (D : va_G) (E : Nat → Nat) (p0 : Int32)  : Met l yX9_isDigit (wl yX9_isDigit cX9_isDigit 1 (some .boolean)) (RM 0 0 0) (rd_P D E [.int p0] ([] : va_W)) (rd_Q (fun r => ((r = 1 ∧ (48 ≤ p0.toInt ∧ p0.toInt ≤ 57)) ∨ (r = 0 ∧ ¬ (48 ≤ p0.toInt ∧ p0.toInt ≤ 57))))) 0 0 (fun _ => False) := by
  refine Met.ofW (cc := cX9_isDigit) (maxL := 1) (ret := (some .boolean)) (by decide) rfl ?_
  intro p e s m args below meth c s₁ B hml hv
  obtain ⟨rfl, hP, hK⟩ := hv
  have hx := B.exec; have hb := B.bytes; have hr := B.returns
  have hts := atoms_spec (ws := wl yX9_isDigit cX9_isDigit 1 (some .boolean)) B.pre
  have htb : ∀ w ∈ tb, w.before _ s = true := fun w h => hts w (List.mem_cons_of_mem _ h)
  have hown : s.vm.findClass RX9 = some m.cls := findClass_of_methodNamed B.named
  have hlocks := B.notSynchronized
  have hP : va_P D vwCl ([] : va_W) s.heap := hP
  have hl := lv_entry ([.int p0]) (n := 1) (Nat.le_of_ble_eq_true rfl)
  rw [lg_entry_eq]
  generalize (lg_sl ([.int p0]) ++ List.replicate (1 - (lg_sl ([.int p0])).length) Slot.unset).toArray = ls at hl ⊢
  have hl : lv_has ls 1 [(0, .int p0)] := hl
  have lo_p0 := i_lo p0; have hi_p0 := i_hi p0
  refine lv_iload_n hx hb dX9_isDigit_0 rfl (lv_at hl 0 rfl) ?_
  refine lv_bipush (v := 48) hx hb dX9_isDigit_1 (by decide) ?_
  refine lv_icmp_lt (tgt := 16) hx hb dX9_isDigit_3 (by decide) (fun c_1 => ?_) (fun c_1 => ?_)
  ·
    have ic_1 : p0.toInt < 48 := by first | exact (g_lt rfl t_48).mp c_1 | (have h := mt (g_le t_48 rfl).mpr c_1; omega)
    clear c_1
    refine lv_iconst (v := 0) hx hb dX9_isDigit_16 (by decide) ?_
    exact W.zret (v := 0) hx hb hr rfl (fun t ht hW => ⟨0, rfl, by first | exact Or.inr ⟨rfl, by omega⟩ | (exfalso; omega), ht⟩) (fun q h => by cases h) dX9_isDigit_17
  ·
    have ic_1 : 48 ≤ p0.toInt := by first | exact (g_le t_48 rfl).mp c_1 | (have h := mt (g_lt rfl t_48).mpr c_1; omega)
    clear c_1
    refine lv_iload_n hx hb dX9_isDigit_6 rfl (lv_at hl 0 rfl) ?_
    refine lv_bipush (v := 57) hx hb dX9_isDigit_7 (by decide) ?_
    refine lv_icmp_gt (tgt := 16) hx hb dX9_isDigit_9 (by decide) (fun c_2 => ?_) (fun c_2 => ?_)
    ·
      have ic_2 : 57 < p0.toInt := by first | exact (g_lt t_57 rfl).mp c_2 | (have h := mt (g_le rfl t_57).mpr c_2; omega)
      clear c_2
      refine lv_iconst (v := 0) hx hb dX9_isDigit_16 (by decide) ?_
      exact W.zret (v := 0) hx hb hr rfl (fun t ht hW => ⟨0, rfl, by first | exact Or.inr ⟨rfl, by omega⟩ | (exfalso; omega), ht⟩) (fun q h => by cases h) dX9_isDigit_17
    ·
      have ic_2 : p0.toInt ≤ 57 := by first | exact (g_le rfl t_57).mp c_2 | (have h := mt (g_lt t_57 rfl).mpr c_2; omega)
      clear c_2
      refine lv_iconst (v := 1) hx hb dX9_isDigit_12 (by decide) ?_
      refine lv_goto (tgt := 17) hx hb dX9_isDigit_13 (by decide) ?_
      exact W.zret (v := 1) hx hb hr rfl (fun t ht hW => ⟨1, rfl, by first | exact Or.inl ⟨rfl, by omega⟩ | (exfalso; omega), ht⟩) (fun q h => by cases h) dX9_isDigit_17
