set_option maxHeartbeats 4000000 in
set_option maxRecDepth 100000 in
theorem g_X9_asked (l : Launch) (D : va_G) (E : Nat → Nat) (mh : Nat) (ma : Nat → Nat) (mcode : Int32) (mtoday : Int32) (moffs : Int32) (mmany : Int64) (msumW : Int64) (msumA : Int64) (msumR : Int64) (msumWW : Int64) (msumWA : Int64) (msumAA : Int64) (msumWR : Int64) (msumAR : Int64) (mupper : Int64) (mlower : Int64) (mrates : Int32) (mtaped : Int32) (mlaid : Int32) (mat : Int32) (mtk : Int32) (mtkAt : Int32) (mtkNumber : Int32) (mwaits : Int32) (mlisted : Int32) (mdealtMany : Int32) (mf3 : Nat → Int32) (p0 : Int32) (p1 : Int32) (p2 : Int32) (hi_m : (0 ≤ mtoday.toInt ∧ mtoday.toInt ≤ 399) ∧ (0 ≤ moffs.toInt ∧ moffs.toInt ≤ 60) ∧ (0 ≤ mrates.toInt ∧ mrates.toInt ≤ 60) ∧ (0 ≤ mtaped.toInt ∧ mtaped.toInt ≤ 120) ∧ (0 ≤ mlisted.toInt ∧ mlisted.toInt ≤ 9) ∧ (0 ≤ mdealtMany.toInt ∧ mdealtMany.toInt ≤ 9)) : Met l yX9_asked (wl yX9_asked cX9_asked 4 (some .int)) (RM 3 0 0) (rd_P D E [.ref mh, .int p0, .int p1, .int p2] [(mh, .inr (9, G9 ma mcode mtoday moffs mmany msumW msumA msumR msumWW msumWA msumAA msumWR msumAR mupper mlower mrates mtaped mlaid mat mtk mtkAt mtkNumber mwaits mlisted mdealtMany)), ((ma 3), .inl (E 0, 16, .inl mf3))]) (rd_Q (fun r => ((r.toInt = -1 ∧ ¬ ((0 ≤ p0.toInt ∧ p0.toInt ≤ 15) ∧ (0 ≤ p1.toInt ∧ p2.toInt ≤ 399 ∧ p1.toInt < p2.toInt ∧ p2.toInt - p1.toInt ≤ 60))) ∨ (((0 ≤ p0.toInt ∧ p0.toInt ≤ 15) ∧ (0 ≤ p1.toInt ∧ p2.toInt ≤ 399 ∧ p1.toInt < p2.toInt ∧ p2.toInt - p1.toInt ≤ 60)) ∧ (((mf3 (p0).toNatClampNeg).toInt = -5 ∧ r.toInt = -2) ∨ ((mf3 (p0).toNatClampNeg).toInt = 2 ∧ r.toInt = -3))) ∨ (((0 ≤ p0.toInt ∧ p0.toInt ≤ 15) ∧ (0 ≤ p1.toInt ∧ p2.toInt ≤ 399 ∧ p1.toInt < p2.toInt ∧ p2.toInt - p1.toInt ≤ 60)) ∧ ((mf3 (p0).toNatClampNeg).toInt ≠ -5 ∧ (mf3 (p0).toNatClampNeg).toInt ≠ 2) ∧ r.toInt = 0)))) 0 0 (fun _ => False) := by
  refine Met.ofW (cc := cX9_asked) (maxL := 4) (ret := (some .int)) (by decide) rfl ?_
  intro p e s m args below meth c s₁ B hml hv
  obtain ⟨rfl, hP, hK⟩ := hv
  have hx := B.exec; have hb := B.bytes; have hr := B.returns
  have hts := atoms_spec (ws := wl yX9_asked cX9_asked 4 (some .int)) B.pre
  have htb : ∀ w ∈ tb, w.before _ s = true := fun w h => hts w (List.mem_cons_of_mem _ h)
  have hown : s.vm.findClass RX9 = some m.cls := findClass_of_methodNamed B.named
  have hlocks := B.notSynchronized
  have hP : va_P D vwCl [(mh, .inr (9, G9 ma mcode mtoday moffs mmany msumW msumA msumR msumWW msumWA msumAA msumWR msumAR mupper mlower mrates mtaped mlaid mat mtk mtkAt mtkNumber mwaits mlisted mdealtMany)), ((ma 3), .inl (E 0, 16, .inl mf3))] s.heap := hP
  have hl := lv_entry ([.ref mh, .int p0, .int p1, .int p2]) (n := 4) (Nat.le_of_ble_eq_true rfl)
  rw [lg_entry_eq]
  generalize (lg_sl ([.ref mh, .int p0, .int p1, .int p2]) ++ List.replicate (4 - (lg_sl ([.ref mh, .int p0, .int p1, .int p2])).length) Slot.unset).toArray = ls at hl ⊢
  have hl : lv_has ls 4 [(0, .ref mh), (1, .int p0), (2, .int p1), (3, .int p2)] := hl
  have lo_p0 := i_lo p0; have hi_p0 := i_hi p0
  have lo_p1 := i_lo p1; have hi_p1 := i_hi p1
  have lo_p2 := i_lo p2; have hi_p2 := i_hi p2
  refine lv_iload_n hx hb dX9_asked_0 rfl (lv_at hl 1 rfl) ?_
  refine callRS (rest := []) (As := [.int p0]) hx hb hml hown htb hK (g_X9_isPlace l D E p0 ) ok_X9_isPlace k_1182 k_1183 k_9 k_1184 ⟨(Nat.le_of_ble_eq_true rfl), (Nat.le_of_ble_eq_true rfl)⟩ ⟨(Nat.le_of_ble_eq_true rfl), (Nat.le_of_ble_eq_true rfl)⟩ hl.1 (Nat.le_of_ble_eq_true rfl) rfl rfl dX9_asked_1 (hP.sub (ws' := ([] : va_W)) [] rfl) (fun r_1 hw_2 => ?_)
  rcases hw_2 with ⟨hr_1, hw_2⟩ | ⟨hr_1, hw_2⟩
  ·
    refine W_top (y := .int 1) (by rw [hr_1]) ?_
    refine lv_if_eq (tgt := 15) hx hb dX9_asked_4 (by decide) (fun c_4 => absurd c_4 (by decide)) (fun c_4 => ?_)
    refine lv_iload_n hx hb dX9_asked_7 rfl (lv_at hl 2 rfl) ?_
    refine lv_iload_n hx hb dX9_asked_8 rfl (lv_at hl 3 rfl) ?_
    refine callRS (rest := []) (As := [.int p1, .int p2]) hx hb hml hown htb hK (g_X9_areDays l D E p1 p2 ) ok_X9_areDays k_1262 k_1263 k_9 k_1264 ⟨(Nat.le_of_ble_eq_true rfl), (Nat.le_of_ble_eq_true rfl)⟩ ⟨(Nat.le_of_ble_eq_true rfl), (Nat.le_of_ble_eq_true rfl)⟩ hl.1 (Nat.le_of_ble_eq_true rfl) rfl rfl dX9_asked_9 (hP.sub (ws' := ([] : va_W)) [] rfl) (fun r_5 hw_6 => ?_)
    rcases hw_6 with ⟨hr_5, hw_6⟩ | ⟨hr_5, hw_6⟩
    ·
      refine W_top (y := .int 1) (by rw [hr_5]) ?_
      refine lv_if_ne (tgt := 19) hx hb dX9_asked_12 (by decide) (fun c_8 => ?_) (fun c_8 => absurd c_8 (by decide))
      refine lv_aload_n hx hb dX9_asked_19 rfl (lv_at hl 0 rfl) ?_
      refine lv_iload_n hx hb dX9_asked_20 rfl (lv_at hl 1 rfl) ?_
      refine callRV (rest := []) (As := [.int p0]) hx hb hml hown htb hK (g_X9_watchAt l D E mh ma mcode mtoday moffs mmany msumW msumA msumR msumWW msumWA msumAA msumWR msumAR mupper mlower mrates mtaped mlaid mat mtk mtkAt mtkNumber mwaits mlisted mdealtMany mf3 p0 (by (try dsimp only); omega)) ok_X9_watchAt k_1212 k_1214 ks_41 k_9 k_1215 ⟨(Nat.le_of_ble_eq_true rfl), (Nat.le_of_ble_eq_true rfl)⟩ ⟨(Nat.le_of_ble_eq_true rfl), (Nat.le_of_ble_eq_true rfl)⟩ hl.1 (Nat.le_of_ble_eq_true rfl) rfl rfl dX9_asked_21 (hP.sub (ws' := [(mh, .inr (9, G9 ma mcode mtoday moffs mmany msumW msumA msumR msumWW msumWA msumAA msumWR msumAR mupper mlower mrates mtaped mlaid mat mtk mtkAt mtkNumber mwaits mlisted mdealtMany)), ((ma 3), .inl (E 0, 16, .inl mf3))]) [0, 1] rfl) rfl rfl 0 rfl (fun r_9 hw_10 => ?_)
      exact W.iret (v := r_9) hx hb hr (fun t ht hW => ⟨r_9, rfl, (by rcases hw_10 with h9 | h9 | h9 | h9 <;> first | (exfalso; omega) | exact Or.inr (Or.inl ⟨by omega, by omega⟩) | exact Or.inr (Or.inr ⟨by omega, by omega, by omega⟩)), ht⟩) (fun q h => by cases h) dX9_asked_24
    ·
      refine W_top (y := .int 0) (by rw [hr_5]) ?_
      refine lv_if_ne (tgt := 19) hx hb dX9_asked_12 (by decide) (fun c_12 => absurd (by decide) c_12) (fun c_12 => ?_)
      refine lv_iconst (v := (-1)) hx hb dX9_asked_15 (by decide) ?_
      refine lv_goto (tgt := 24) hx hb dX9_asked_16 (by decide) ?_
      exact W.iret (v := (-1)) hx hb hr (fun t ht hW => ⟨(-1), rfl, (Or.inl ⟨by have hl0 := t_m1; omega, by omega⟩), ht⟩) (fun q h => by cases h) dX9_asked_24
  ·
    refine W_top (y := .int 0) (by rw [hr_1]) ?_
    refine lv_if_eq (tgt := 15) hx hb dX9_asked_4 (by decide) (fun c_13 => ?_) (fun c_13 => absurd (by decide) c_13)
    refine lv_iconst (v := (-1)) hx hb dX9_asked_15 (by decide) ?_
    refine lv_goto (tgt := 24) hx hb dX9_asked_16 (by decide) ?_
    exact W.iret (v := (-1)) hx hb hr (fun t ht hW => ⟨(-1), rfl, (Or.inl ⟨by have hl0 := t_m1; omega, by omega⟩), ht⟩) (fun q h => by cases h) dX9_asked_24
set_option maxHeartbeats 4000000 in
set_option maxRecDepth 100000 in
theorem g_X9_sumUp (l : Launch) (D : va_G) (E : Nat → Nat) (mh : Nat) (ma : Nat → Nat) (mcode : Int32) (mtoday : Int32) (moffs : Int32) (mmany : Int64) (msumW : Int64) (msumA : Int64) (msumR : Int64) (msumWW : Int64) (msumWA : Int64) (msumAA : Int64) (msumWR : Int64) (msumAR : Int64) (mupper : Int64) (mlower : Int64) (mrates : Int32) (mtaped : Int32) (mlaid : Int32) (mat : Int32) (mtk : Int32) (mtkAt : Int32) (mtkNumber : Int32) (mwaits : Int32) (mlisted : Int32) (mdealtMany : Int32) (mf2 : Nat → Int32) (mf3 : Nat → Int32) (mf4 : Nat → Int32) (mf5 : Nat → Int32) (mf6 : Nat → Int32) (mf7 : Nat → Int32) (mf8 : Nat → Int32) (mf9 : Nat → Int32) (mf12 : Nat → Int32) (mf13 : Nat → Int32) (mf14 : Nat → Int32) (mf15 : Nat → Int32) (mf16 : Nat → Int32) (p0 : Int32) (p1 : Int32) (p2 : Int32) (sz : Nat) (hi_m : (0 ≤ mtoday.toInt ∧ mtoday.toInt ≤ 399) ∧ (0 ≤ moffs.toInt ∧ moffs.toInt ≤ 60) ∧ (0 ≤ mrates.toInt ∧ mrates.toInt ≤ 60) ∧ (0 ≤ mtaped.toInt ∧ mtaped.toInt ≤ 120) ∧ (0 ≤ mlisted.toInt ∧ mlisted.toInt ≤ 9) ∧ (0 ≤ mdealtMany.toInt ∧ mdealtMany.toInt ≤ 9)) (g0 : 0 ≤ p0.toInt ∧ p0.toInt ≤ 15) (g1 : 0 ≤ p1.toInt ∧ p1.toInt ≤ p2.toInt ∧ p2.toInt ≤ 399 ∧ p2.toInt - p1.toInt ≤ 60) : Met l yX9_sumUp (wl yX9_sumUp cX9_sumUp 11 none) (RM 3 0 0) (mu_P D E [.ref mh, .int p0, .int p1, .int p2] [(mh, .inr (9, G9 ma mcode mtoday moffs mmany msumW msumA msumR msumWW msumWA msumAA msumWR msumAR mupper mlower mrates mtaped mlaid mat mtk mtkAt mtkNumber mwaits mlisted mdealtMany)), ((ma 2), .inl (E 0, 400, .inl mf2)), ((ma 3), .inl (E 0, 16, .inl mf3)), ((ma 4), .inl (E 0, 16, .inl mf4)), ((ma 5), .inl (E 1, 6400, .inl mf5)), ((ma 6), .inl (E 0, 6400, .inl mf6)), ((ma 7), .inl (E 0, 6400, .inl mf7)), ((ma 8), .inl (E 1, 6400, .inl mf8)), ((ma 9), .inl (E 1, 6400, .inl mf9)), ((ma 12), .inl (E 0, 60, .inl mf12)), ((ma 13), .inl (E 0, 60, .inl mf13)), ((ma 14), .inl (E 0, 60, .inl mf14)), ((ma 15), .inl (E 0, 60, .inl mf15)), ((ma 16), .inl (E 0, 60, .inl mf16))] sz) (va_Qv (fun (u : (Int64) × (Int64) × (Int64) × (Int64) × (Int64) × (Int64) × (Int64) × (Int64) × (Int64)) => ((u.1, u.2.2.2.2.1, u.2.2.2.2.2.1, u.2.1, u.2.2.2.2.2.2.2.2, u.2.2.1, u.2.2.2.2.2.2.1, u.2.2.2.2.2.2.2.1, u.2.2.2.1) = fold9 (fun d => wmF mf3 mf4 mf2 p0 d) (fun d => agI mf8 (400 * p0.toInt).toNat d) (-1000) (rateL (fun d => ratF mf5 mf6 mf7 mf8 mf9 mf12 mf13 mf14 mf15 mf16 moffs p0 d (-1)) p1 (p2.toInt - p1.toInt).toNat))) (mu_B D (va_A [(mh, .inr (9, G9 ma mcode mtoday moffs mmany msumW msumA msumR msumWW msumWA msumAA msumWR msumAR mupper mlower mrates mtaped mlaid mat mtk mtkAt mtkNumber mwaits mlisted mdealtMany)), ((ma 2), .inl (E 0, 400, .inl mf2)), ((ma 3), .inl (E 0, 16, .inl mf3)), ((ma 4), .inl (E 0, 16, .inl mf4)), ((ma 5), .inl (E 1, 6400, .inl mf5)), ((ma 6), .inl (E 0, 6400, .inl mf6)), ((ma 7), .inl (E 0, 6400, .inl mf7)), ((ma 8), .inl (E 1, 6400, .inl mf8)), ((ma 9), .inl (E 1, 6400, .inl mf9)), ((ma 12), .inl (E 0, 60, .inl mf12)), ((ma 13), .inl (E 0, 60, .inl mf13)), ((ma 14), .inl (E 0, 60, .inl mf14)), ((ma 15), .inl (E 0, 60, .inl mf15)), ((ma 16), .inl (E 0, 60, .inl mf16))] sz) (fun (u : (Int64) × (Int64) × (Int64) × (Int64) × (Int64) × (Int64) × (Int64) × (Int64) × (Int64)) => [(mh, .inr (9, G9 ma mcode mtoday moffs u.1 u.2.2.2.2.2.1 u.2.1 u.2.2.2.2.1 u.2.2.2.2.2.2.2.2 u.2.2.2.2.2.2.1 u.2.2.1 u.2.2.2.2.2.2.2.1 u.2.2.2.1 mupper mlower mrates mtaped mlaid mat mtk mtkAt mtkNumber mwaits mlisted mdealtMany)), ((ma 2), .inl (E 0, 400, .inl mf2)), ((ma 3), .inl (E 0, 16, .inl mf3)), ((ma 4), .inl (E 0, 16, .inl mf4)), ((ma 5), .inl (E 1, 6400, .inl mf5)), ((ma 6), .inl (E 0, 6400, .inl mf6)), ((ma 7), .inl (E 0, 6400, .inl mf7)), ((ma 8), .inl (E 1, 6400, .inl mf8)), ((ma 9), .inl (E 1, 6400, .inl mf9)), ((ma 12), .inl (E 0, 60, .inl mf12)), ((ma 13), .inl (E 0, 60, .inl mf13)), ((ma 14), .inl (E 0, 60, .inl mf14)), ((ma 15), .inl (E 0, 60, .inl mf15)), ((ma 16), .inl (E 0, 60, .inl mf16))])) (va_A [(mh, .inr (9, G9 ma mcode mtoday moffs mmany msumW msumA msumR msumWW msumWA msumAA msumWR msumAR mupper mlower mrates mtaped mlaid mat mtk mtkAt mtkNumber mwaits mlisted mdealtMany)), ((ma 2), .inl (E 0, 400, .inl mf2)), ((ma 3), .inl (E 0, 16, .inl mf3)), ((ma 4), .inl (E 0, 16, .inl mf4)), ((ma 5), .inl (E 1, 6400, .inl mf5)), ((ma 6), .inl (E 0, 6400, .inl mf6)), ((ma 7), .inl (E 0, 6400, .inl mf7)), ((ma 8), .inl (E 1, 6400, .inl mf8)), ((ma 9), .inl (E 1, 6400, .inl mf9)), ((ma 12), .inl (E 0, 60, .inl mf12)), ((ma 13), .inl (E 0, 60, .inl mf13)), ((ma 14), .inl (E 0, 60, .inl mf14)), ((ma 15), .inl (E 0, 60, .inl mf15)), ((ma 16), .inl (E 0, 60, .inl mf16))] sz)) 0 0 (va_A [(mh, .inr (9, G9 ma mcode mtoday moffs mmany msumW msumA msumR msumWW msumWA msumAA msumWR msumAR mupper mlower mrates mtaped mlaid mat mtk mtkAt mtkNumber mwaits mlisted mdealtMany)), ((ma 2), .inl (E 0, 400, .inl mf2)), ((ma 3), .inl (E 0, 16, .inl mf3)), ((ma 4), .inl (E 0, 16, .inl mf4)), ((ma 5), .inl (E 1, 6400, .inl mf5)), ((ma 6), .inl (E 0, 6400, .inl mf6)), ((ma 7), .inl (E 0, 6400, .inl mf7)), ((ma 8), .inl (E 1, 6400, .inl mf8)), ((ma 9), .inl (E 1, 6400, .inl mf9)), ((ma 12), .inl (E 0, 60, .inl mf12)), ((ma 13), .inl (E 0, 60, .inl mf13)), ((ma 14), .inl (E 0, 60, .inl mf14)), ((ma 15), .inl (E 0, 60, .inl mf15)), ((ma 16), .inl (E 0, 60, .inl mf16))] sz) := by
  refine Met.ofW (cc := cX9_sumUp) (maxL := 11) (ret := none) (by decide) rfl ?_
  intro p e s m args below meth c s₁ B hml hv
  obtain ⟨rfl, hsz, hP, hK, hD0⟩ := hv
  have hx := B.exec; have hb := B.bytes; have hr := B.returns
  have hts := atoms_spec (ws := wl yX9_sumUp cX9_sumUp 11 none) B.pre
  have htb : ∀ w ∈ tb, w.before _ s = true := fun w h => hts w (List.mem_cons_of_mem _ h)
  have hown : s.vm.findClass RX9 = some m.cls := findClass_of_methodNamed B.named
  have hlocks := B.notSynchronized
  subst hsz
  have hD := hD0.self (sz := s.heap.size)
  generalize hAe : va_A [(mh, .inr (9, G9 ma mcode mtoday moffs mmany msumW msumA msumR msumWW msumWA msumAA msumWR msumAR mupper mlower mrates mtaped mlaid mat mtk mtkAt mtkNumber mwaits mlisted mdealtMany)), ((ma 2), .inl (E 0, 400, .inl mf2)), ((ma 3), .inl (E 0, 16, .inl mf3)), ((ma 4), .inl (E 0, 16, .inl mf4)), ((ma 5), .inl (E 1, 6400, .inl mf5)), ((ma 6), .inl (E 0, 6400, .inl mf6)), ((ma 7), .inl (E 0, 6400, .inl mf7)), ((ma 8), .inl (E 1, 6400, .inl mf8)), ((ma 9), .inl (E 1, 6400, .inl mf9)), ((ma 12), .inl (E 0, 60, .inl mf12)), ((ma 13), .inl (E 0, 60, .inl mf13)), ((ma 14), .inl (E 0, 60, .inl mf14)), ((ma 15), .inl (E 0, 60, .inl mf15)), ((ma 16), .inl (E 0, 60, .inl mf16))] s.heap.size = A at hD ⊢
  have hA : ∀ q : Nat, s.heap.size ≤ q → A q := fun q h => by rw [← hAe]; exact Or.inr h
  have hS : va_S A s.heap s.heap [] := va_S.rf
  have hP : va_P D vwCl [(mh, .inr (9, G9 ma mcode mtoday moffs mmany msumW msumA msumR msumWW msumWA msumAA msumWR msumAR mupper mlower mrates mtaped mlaid mat mtk mtkAt mtkNumber mwaits mlisted mdealtMany)), ((ma 2), .inl (E 0, 400, .inl mf2)), ((ma 3), .inl (E 0, 16, .inl mf3)), ((ma 4), .inl (E 0, 16, .inl mf4)), ((ma 5), .inl (E 1, 6400, .inl mf5)), ((ma 6), .inl (E 0, 6400, .inl mf6)), ((ma 7), .inl (E 0, 6400, .inl mf7)), ((ma 8), .inl (E 1, 6400, .inl mf8)), ((ma 9), .inl (E 1, 6400, .inl mf9)), ((ma 12), .inl (E 0, 60, .inl mf12)), ((ma 13), .inl (E 0, 60, .inl mf13)), ((ma 14), .inl (E 0, 60, .inl mf14)), ((ma 15), .inl (E 0, 60, .inl mf15)), ((ma 16), .inl (E 0, 60, .inl mf16))] s.heap := hP
  have hl := lv_entry ([.ref mh, .int p0, .int p1, .int p2]) (n := 11) (Nat.le_of_ble_eq_true rfl)
  rw [lg_entry_eq]
  generalize (lg_sl ([.ref mh, .int p0, .int p1, .int p2]) ++ List.replicate (11 - (lg_sl ([.ref mh, .int p0, .int p1, .int p2])).length) Slot.unset).toArray = ls at hl ⊢
  have hl : lv_has ls 11 [(0, .ref mh), (1, .int p0), (2, .int p1), (3, .int p2)] := hl
  have lo_p0 := i_lo p0; have hi_p0 := i_hi p0
  have lo_p1 := i_lo p1; have hi_p1 := i_hi p1
  have lo_p2 := i_lo p2; have hi_p2 := i_hi p2
  refine lv_aload_n hx hb dX9_sumUp_0 rfl (lv_at hl 0 rfl) ?_
  refine lv_lconst (v := 0) hx hb dX9_sumUp_1 (by decide) ?_
  refine va_put (D := D) (ci := 9) (v := .long 0) (ty := .long) (C := RX9) (T := TX9) (N := 68) hx hb htb iX9 tyX9 tyX9_ok nmX9 hown hK.1 hP hD hS 0 rfl rfl 17 (by decide) (htb _ k_975) (fun _ h9 => h9) rfl (by decide +kernel) rfl rfl (Nat.le_of_ble_eq_true rfl) dX9_sumUp_2 (fun H locs hP hD hS => ?_)
  have hP : va_P D vwCl [(mh, .inr (9, G9 ma mcode mtoday moffs 0 msumW msumA msumR msumWW msumWA msumAA msumWR msumAR mupper mlower mrates mtaped mlaid mat mtk mtkAt mtkNumber mwaits mlisted mdealtMany)), ((ma 2), .inl (E 0, 400, .inl mf2)), ((ma 3), .inl (E 0, 16, .inl mf3)), ((ma 4), .inl (E 0, 16, .inl mf4)), ((ma 5), .inl (E 1, 6400, .inl mf5)), ((ma 6), .inl (E 0, 6400, .inl mf6)), ((ma 7), .inl (E 0, 6400, .inl mf7)), ((ma 8), .inl (E 1, 6400, .inl mf8)), ((ma 9), .inl (E 1, 6400, .inl mf9)), ((ma 12), .inl (E 0, 60, .inl mf12)), ((ma 13), .inl (E 0, 60, .inl mf13)), ((ma 14), .inl (E 0, 60, .inl mf14)), ((ma 15), .inl (E 0, 60, .inl mf15)), ((ma 16), .inl (E 0, 60, .inl mf16))] H := hP
  have hD := toW hP hD rfl
  refine lv_aload_n hx hb dX9_sumUp_5 rfl (lv_at hl 0 rfl) ?_
  refine lv_lconst (v := 0) hx hb dX9_sumUp_6 (by decide) ?_
  refine va_put (D := D) (ci := 9) (v := .long 0) (ty := .long) (C := RX9) (T := TX9) (N := 68) hx hb htb iX9 tyX9 tyX9_ok nmX9 hown hK.1 hP hD hS 0 rfl rfl 18 (by decide) (htb _ k_976) (fun _ h9 => h9) rfl (by decide +kernel) rfl rfl (Nat.le_of_ble_eq_true rfl) dX9_sumUp_7 (fun H locs hP hD hS => ?_)
  have hP : va_P D vwCl [(mh, .inr (9, G9 ma mcode mtoday moffs 0 0 msumA msumR msumWW msumWA msumAA msumWR msumAR mupper mlower mrates mtaped mlaid mat mtk mtkAt mtkNumber mwaits mlisted mdealtMany)), ((ma 2), .inl (E 0, 400, .inl mf2)), ((ma 3), .inl (E 0, 16, .inl mf3)), ((ma 4), .inl (E 0, 16, .inl mf4)), ((ma 5), .inl (E 1, 6400, .inl mf5)), ((ma 6), .inl (E 0, 6400, .inl mf6)), ((ma 7), .inl (E 0, 6400, .inl mf7)), ((ma 8), .inl (E 1, 6400, .inl mf8)), ((ma 9), .inl (E 1, 6400, .inl mf9)), ((ma 12), .inl (E 0, 60, .inl mf12)), ((ma 13), .inl (E 0, 60, .inl mf13)), ((ma 14), .inl (E 0, 60, .inl mf14)), ((ma 15), .inl (E 0, 60, .inl mf15)), ((ma 16), .inl (E 0, 60, .inl mf16))] H := hP
  have hD := toW hP hD rfl
  refine lv_aload_n hx hb dX9_sumUp_10 rfl (lv_at hl 0 rfl) ?_
  refine lv_lconst (v := 0) hx hb dX9_sumUp_11 (by decide) ?_
  refine va_put (D := D) (ci := 9) (v := .long 0) (ty := .long) (C := RX9) (T := TX9) (N := 68) hx hb htb iX9 tyX9 tyX9_ok nmX9 hown hK.1 hP hD hS 0 rfl rfl 19 (by decide) (htb _ k_977) (fun _ h9 => h9) rfl (by decide +kernel) rfl rfl (Nat.le_of_ble_eq_true rfl) dX9_sumUp_12 (fun H locs hP hD hS => ?_)
  have hP : va_P D vwCl [(mh, .inr (9, G9 ma mcode mtoday moffs 0 0 0 msumR msumWW msumWA msumAA msumWR msumAR mupper mlower mrates mtaped mlaid mat mtk mtkAt mtkNumber mwaits mlisted mdealtMany)), ((ma 2), .inl (E 0, 400, .inl mf2)), ((ma 3), .inl (E 0, 16, .inl mf3)), ((ma 4), .inl (E 0, 16, .inl mf4)), ((ma 5), .inl (E 1, 6400, .inl mf5)), ((ma 6), .inl (E 0, 6400, .inl mf6)), ((ma 7), .inl (E 0, 6400, .inl mf7)), ((ma 8), .inl (E 1, 6400, .inl mf8)), ((ma 9), .inl (E 1, 6400, .inl mf9)), ((ma 12), .inl (E 0, 60, .inl mf12)), ((ma 13), .inl (E 0, 60, .inl mf13)), ((ma 14), .inl (E 0, 60, .inl mf14)), ((ma 15), .inl (E 0, 60, .inl mf15)), ((ma 16), .inl (E 0, 60, .inl mf16))] H := hP
  have hD := toW hP hD rfl
  refine lv_aload_n hx hb dX9_sumUp_15 rfl (lv_at hl 0 rfl) ?_
  refine lv_lconst (v := 0) hx hb dX9_sumUp_16 (by decide) ?_
  refine va_put (D := D) (ci := 9) (v := .long 0) (ty := .long) (C := RX9) (T := TX9) (N := 68) hx hb htb iX9 tyX9 tyX9_ok nmX9 hown hK.1 hP hD hS 0 rfl rfl 20 (by decide) (htb _ k_978) (fun _ h9 => h9) rfl (by decide +kernel) rfl rfl (Nat.le_of_ble_eq_true rfl) dX9_sumUp_17 (fun H locs hP hD hS => ?_)
  have hP : va_P D vwCl [(mh, .inr (9, G9 ma mcode mtoday moffs 0 0 0 0 msumWW msumWA msumAA msumWR msumAR mupper mlower mrates mtaped mlaid mat mtk mtkAt mtkNumber mwaits mlisted mdealtMany)), ((ma 2), .inl (E 0, 400, .inl mf2)), ((ma 3), .inl (E 0, 16, .inl mf3)), ((ma 4), .inl (E 0, 16, .inl mf4)), ((ma 5), .inl (E 1, 6400, .inl mf5)), ((ma 6), .inl (E 0, 6400, .inl mf6)), ((ma 7), .inl (E 0, 6400, .inl mf7)), ((ma 8), .inl (E 1, 6400, .inl mf8)), ((ma 9), .inl (E 1, 6400, .inl mf9)), ((ma 12), .inl (E 0, 60, .inl mf12)), ((ma 13), .inl (E 0, 60, .inl mf13)), ((ma 14), .inl (E 0, 60, .inl mf14)), ((ma 15), .inl (E 0, 60, .inl mf15)), ((ma 16), .inl (E 0, 60, .inl mf16))] H := hP
  have hD := toW hP hD rfl
  refine lv_aload_n hx hb dX9_sumUp_20 rfl (lv_at hl 0 rfl) ?_
  refine lv_lconst (v := 0) hx hb dX9_sumUp_21 (by decide) ?_
  refine va_put (D := D) (ci := 9) (v := .long 0) (ty := .long) (C := RX9) (T := TX9) (N := 68) hx hb htb iX9 tyX9 tyX9_ok nmX9 hown hK.1 hP hD hS 0 rfl rfl 21 (by decide) (htb _ k_979) (fun _ h9 => h9) rfl (by decide +kernel) rfl rfl (Nat.le_of_ble_eq_true rfl) dX9_sumUp_22 (fun H locs hP hD hS => ?_)
  have hP : va_P D vwCl [(mh, .inr (9, G9 ma mcode mtoday moffs 0 0 0 0 0 msumWA msumAA msumWR msumAR mupper mlower mrates mtaped mlaid mat mtk mtkAt mtkNumber mwaits mlisted mdealtMany)), ((ma 2), .inl (E 0, 400, .inl mf2)), ((ma 3), .inl (E 0, 16, .inl mf3)), ((ma 4), .inl (E 0, 16, .inl mf4)), ((ma 5), .inl (E 1, 6400, .inl mf5)), ((ma 6), .inl (E 0, 6400, .inl mf6)), ((ma 7), .inl (E 0, 6400, .inl mf7)), ((ma 8), .inl (E 1, 6400, .inl mf8)), ((ma 9), .inl (E 1, 6400, .inl mf9)), ((ma 12), .inl (E 0, 60, .inl mf12)), ((ma 13), .inl (E 0, 60, .inl mf13)), ((ma 14), .inl (E 0, 60, .inl mf14)), ((ma 15), .inl (E 0, 60, .inl mf15)), ((ma 16), .inl (E 0, 60, .inl mf16))] H := hP
  have hD := toW hP hD rfl
  refine lv_aload_n hx hb dX9_sumUp_25 rfl (lv_at hl 0 rfl) ?_
  refine lv_lconst (v := 0) hx hb dX9_sumUp_26 (by decide) ?_
  refine va_put (D := D) (ci := 9) (v := .long 0) (ty := .long) (C := RX9) (T := TX9) (N := 68) hx hb htb iX9 tyX9 tyX9_ok nmX9 hown hK.1 hP hD hS 0 rfl rfl 22 (by decide) (htb _ k_980) (fun _ h9 => h9) rfl (by decide +kernel) rfl rfl (Nat.le_of_ble_eq_true rfl) dX9_sumUp_27 (fun H locs hP hD hS => ?_)
  have hP : va_P D vwCl [(mh, .inr (9, G9 ma mcode mtoday moffs 0 0 0 0 0 0 msumAA msumWR msumAR mupper mlower mrates mtaped mlaid mat mtk mtkAt mtkNumber mwaits mlisted mdealtMany)), ((ma 2), .inl (E 0, 400, .inl mf2)), ((ma 3), .inl (E 0, 16, .inl mf3)), ((ma 4), .inl (E 0, 16, .inl mf4)), ((ma 5), .inl (E 1, 6400, .inl mf5)), ((ma 6), .inl (E 0, 6400, .inl mf6)), ((ma 7), .inl (E 0, 6400, .inl mf7)), ((ma 8), .inl (E 1, 6400, .inl mf8)), ((ma 9), .inl (E 1, 6400, .inl mf9)), ((ma 12), .inl (E 0, 60, .inl mf12)), ((ma 13), .inl (E 0, 60, .inl mf13)), ((ma 14), .inl (E 0, 60, .inl mf14)), ((ma 15), .inl (E 0, 60, .inl mf15)), ((ma 16), .inl (E 0, 60, .inl mf16))] H := hP
  have hD := toW hP hD rfl
  refine lv_aload_n hx hb dX9_sumUp_30 rfl (lv_at hl 0 rfl) ?_
  refine lv_lconst (v := 0) hx hb dX9_sumUp_31 (by decide) ?_
  refine va_put (D := D) (ci := 9) (v := .long 0) (ty := .long) (C := RX9) (T := TX9) (N := 68) hx hb htb iX9 tyX9 tyX9_ok nmX9 hown hK.1 hP hD hS 0 rfl rfl 23 (by decide) (htb _ k_981) (fun _ h9 => h9) rfl (by decide +kernel) rfl rfl (Nat.le_of_ble_eq_true rfl) dX9_sumUp_32 (fun H locs hP hD hS => ?_)
  have hP : va_P D vwCl [(mh, .inr (9, G9 ma mcode mtoday moffs 0 0 0 0 0 0 0 msumWR msumAR mupper mlower mrates mtaped mlaid mat mtk mtkAt mtkNumber mwaits mlisted mdealtMany)), ((ma 2), .inl (E 0, 400, .inl mf2)), ((ma 3), .inl (E 0, 16, .inl mf3)), ((ma 4), .inl (E 0, 16, .inl mf4)), ((ma 5), .inl (E 1, 6400, .inl mf5)), ((ma 6), .inl (E 0, 6400, .inl mf6)), ((ma 7), .inl (E 0, 6400, .inl mf7)), ((ma 8), .inl (E 1, 6400, .inl mf8)), ((ma 9), .inl (E 1, 6400, .inl mf9)), ((ma 12), .inl (E 0, 60, .inl mf12)), ((ma 13), .inl (E 0, 60, .inl mf13)), ((ma 14), .inl (E 0, 60, .inl mf14)), ((ma 15), .inl (E 0, 60, .inl mf15)), ((ma 16), .inl (E 0, 60, .inl mf16))] H := hP
  have hD := toW hP hD rfl
  refine lv_aload_n hx hb dX9_sumUp_35 rfl (lv_at hl 0 rfl) ?_
  refine lv_lconst (v := 0) hx hb dX9_sumUp_36 (by decide) ?_
  refine va_put (D := D) (ci := 9) (v := .long 0) (ty := .long) (C := RX9) (T := TX9) (N := 68) hx hb htb iX9 tyX9 tyX9_ok nmX9 hown hK.1 hP hD hS 0 rfl rfl 24 (by decide) (htb _ k_982) (fun _ h9 => h9) rfl (by decide +kernel) rfl rfl (Nat.le_of_ble_eq_true rfl) dX9_sumUp_37 (fun H locs hP hD hS => ?_)
  have hP : va_P D vwCl [(mh, .inr (9, G9 ma mcode mtoday moffs 0 0 0 0 0 0 0 0 msumAR mupper mlower mrates mtaped mlaid mat mtk mtkAt mtkNumber mwaits mlisted mdealtMany)), ((ma 2), .inl (E 0, 400, .inl mf2)), ((ma 3), .inl (E 0, 16, .inl mf3)), ((ma 4), .inl (E 0, 16, .inl mf4)), ((ma 5), .inl (E 1, 6400, .inl mf5)), ((ma 6), .inl (E 0, 6400, .inl mf6)), ((ma 7), .inl (E 0, 6400, .inl mf7)), ((ma 8), .inl (E 1, 6400, .inl mf8)), ((ma 9), .inl (E 1, 6400, .inl mf9)), ((ma 12), .inl (E 0, 60, .inl mf12)), ((ma 13), .inl (E 0, 60, .inl mf13)), ((ma 14), .inl (E 0, 60, .inl mf14)), ((ma 15), .inl (E 0, 60, .inl mf15)), ((ma 16), .inl (E 0, 60, .inl mf16))] H := hP
  have hD := toW hP hD rfl
  refine lv_aload_n hx hb dX9_sumUp_40 rfl (lv_at hl 0 rfl) ?_
  refine lv_lconst (v := 0) hx hb dX9_sumUp_41 (by decide) ?_
  refine va_put (D := D) (ci := 9) (v := .long 0) (ty := .long) (C := RX9) (T := TX9) (N := 68) hx hb htb iX9 tyX9 tyX9_ok nmX9 hown hK.1 hP hD hS 0 rfl rfl 25 (by decide) (htb _ k_983) (fun _ h9 => h9) rfl (by decide +kernel) rfl rfl (Nat.le_of_ble_eq_true rfl) dX9_sumUp_42 (fun H locs hP hD hS => ?_)
  have hP : va_P D vwCl [(mh, .inr (9, G9 ma mcode mtoday moffs 0 0 0 0 0 0 0 0 0 mupper mlower mrates mtaped mlaid mat mtk mtkAt mtkNumber mwaits mlisted mdealtMany)), ((ma 2), .inl (E 0, 400, .inl mf2)), ((ma 3), .inl (E 0, 16, .inl mf3)), ((ma 4), .inl (E 0, 16, .inl mf4)), ((ma 5), .inl (E 1, 6400, .inl mf5)), ((ma 6), .inl (E 0, 6400, .inl mf6)), ((ma 7), .inl (E 0, 6400, .inl mf7)), ((ma 8), .inl (E 1, 6400, .inl mf8)), ((ma 9), .inl (E 1, 6400, .inl mf9)), ((ma 12), .inl (E 0, 60, .inl mf12)), ((ma 13), .inl (E 0, 60, .inl mf13)), ((ma 14), .inl (E 0, 60, .inl mf14)), ((ma 15), .inl (E 0, 60, .inl mf15)), ((ma 16), .inl (E 0, 60, .inl mf16))] H := hP
  have hD := toW hP hD rfl
  refine lv_iload_n hx hb dX9_sumUp_45 rfl (lv_at hl 2 rfl) ?_
  refine lv_istore (lv' := [(4, .int p1), (0, .ref mh), (1, .int p0), (2, .int p1), (3, .int p2)]) hx hb dX9_sumUp_46 hl (by decide) rfl (fun ls hl => ?_)
  have loop_1 : ∀ (N_3 : Nat) (L4_48 : Int32) (mmany_48 : Int64) (msumW_48 : Int64) (msumA_48 : Int64) (msumR_48 : Int64) (msumWW_48 : Int64) (msumWA_48 : Int64) (msumAA_48 : Int64) (msumWR_48 : Int64) (msumAR_48 : Int64) (H : Heap) (locs : List Loc) (ls : Array Slot), p2.toInt - L4_48.toInt < (N_3 : Int) → (p1.toInt ≤ L4_48.toInt ∧ L4_48.toInt ≤ p2.toInt) → (((mmany_48, msumR_48, msumW_48, msumA_48, msumWW_48, msumAA_48, msumWA_48, msumWR_48, msumAR_48) : S9) = fold9 (fun d => wmF mf3 mf4 mf2 p0 d) (fun d => agI mf8 (400 * p0.toInt).toNat d) (-1000) (rateL (fun d => ratF mf5 mf6 mf7 mf8 mf9 mf12 mf13 mf14 mf15 mf16 moffs p0 d (-1)) p1 (L4_48.toInt - p1.toInt).toNat)) → va_P D vwCl [(mh, .inr (9, G9 ma mcode mtoday moffs mmany_48 msumW_48 msumA_48 msumR_48 msumWW_48 msumWA_48 msumAA_48 msumWR_48 msumAR_48 mupper mlower mrates mtaped mlaid mat mtk mtkAt mtkNumber mwaits mlisted mdealtMany)), ((ma 2), .inl (E 0, 400, .inl mf2)), ((ma 3), .inl (E 0, 16, .inl mf3)), ((ma 4), .inl (E 0, 16, .inl mf4)), ((ma 5), .inl (E 1, 6400, .inl mf5)), ((ma 6), .inl (E 0, 6400, .inl mf6)), ((ma 7), .inl (E 0, 6400, .inl mf7)), ((ma 8), .inl (E 1, 6400, .inl mf8)), ((ma 9), .inl (E 1, 6400, .inl mf9)), ((ma 12), .inl (E 0, 60, .inl mf12)), ((ma 13), .inl (E 0, 60, .inl mf13)), ((ma 14), .inl (E 0, 60, .inl mf14)), ((ma 15), .inl (E 0, 60, .inl mf15)), ((ma 16), .inl (E 0, 60, .inl mf16))] H → va_D A [(mh, .inr (9, G9 ma mcode mtoday moffs mmany_48 msumW_48 msumA_48 msumR_48 msumWW_48 msumWA_48 msumAA_48 msumWR_48 msumAR_48 mupper mlower mrates mtaped mlaid mat mtk mtkAt mtkNumber mwaits mlisted mdealtMany)), ((ma 2), .inl (E 0, 400, .inl mf2)), ((ma 3), .inl (E 0, 16, .inl mf3)), ((ma 4), .inl (E 0, 16, .inl mf4)), ((ma 5), .inl (E 1, 6400, .inl mf5)), ((ma 6), .inl (E 0, 6400, .inl mf6)), ((ma 7), .inl (E 0, 6400, .inl mf7)), ((ma 8), .inl (E 1, 6400, .inl mf8)), ((ma 9), .inl (E 1, 6400, .inl mf9)), ((ma 12), .inl (E 0, 60, .inl mf12)), ((ma 13), .inl (E 0, 60, .inl mf13)), ((ma 14), .inl (E 0, 60, .inl mf14)), ((ma 15), .inl (E 0, 60, .inl mf15)), ((ma 16), .inl (E 0, 60, .inl mf16))] → va_S A s.heap H locs → lv_has ls 11 [(4, .int L4_48), (0, .ref mh), (1, .int p0), (2, .int p1), (3, .int p2)] → W p l e (headSpec (wl yX9_sumUp cX9_sumUp 11 none) (RM 3 0 0)).room s m [Value.ref mh, .int p0, .int p1, .int p2].toArray below meth c H locs 0 0 (MQ below (va_Qv (fun (u : (Int64) × (Int64) × (Int64) × (Int64) × (Int64) × (Int64) × (Int64) × (Int64) × (Int64)) => ((u.1, u.2.2.2.2.1, u.2.2.2.2.2.1, u.2.1, u.2.2.2.2.2.2.2.2, u.2.2.1, u.2.2.2.2.2.2.1, u.2.2.2.2.2.2.2.1, u.2.2.2.1) = fold9 (fun d => wmF mf3 mf4 mf2 p0 d) (fun d => agI mf8 (400 * p0.toInt).toNat d) (-1000) (rateL (fun d => ratF mf5 mf6 mf7 mf8 mf9 mf12 mf13 mf14 mf15 mf16 moffs p0 d (-1)) p1 (p2.toInt - p1.toInt).toNat))) (mu_B D A (fun (u : (Int64) × (Int64) × (Int64) × (Int64) × (Int64) × (Int64) × (Int64) × (Int64) × (Int64)) => [(mh, .inr (9, G9 ma mcode mtoday moffs u.1 u.2.2.2.2.2.1 u.2.1 u.2.2.2.2.1 u.2.2.2.2.2.2.2.2 u.2.2.2.2.2.2.1 u.2.2.1 u.2.2.2.2.2.2.2.1 u.2.2.2.1 mupper mlower mrates mtaped mlaid mat mtk mtkAt mtkNumber mwaits mlisted mdealtMany)), ((ma 2), .inl (E 0, 400, .inl mf2)), ((ma 3), .inl (E 0, 16, .inl mf3)), ((ma 4), .inl (E 0, 16, .inl mf4)), ((ma 5), .inl (E 1, 6400, .inl mf5)), ((ma 6), .inl (E 0, 6400, .inl mf6)), ((ma 7), .inl (E 0, 6400, .inl mf7)), ((ma 8), .inl (E 1, 6400, .inl mf8)), ((ma 9), .inl (E 1, 6400, .inl mf9)), ((ma 12), .inl (E 0, 60, .inl mf12)), ((ma 13), .inl (E 0, 60, .inl mf13)), ((ma 14), .inl (E 0, 60, .inl mf14)), ((ma 15), .inl (E 0, 60, .inl mf15)), ((ma 16), .inl (E 0, 60, .inl mf16))])) A) [Value.ref mh, .int p0, .int p1, .int p2].toArray s 0 0 A) (F0 m 48 ls []) := by
    intro N_3
    induction N_3 with
    | zero => intro L4_48 mmany_48 msumW_48 msumA_48 msumR_48 msumWW_48 msumWA_48 msumAA_48 msumWR_48 msumAR_48 H locs ls hm v0_48 v1_48 _ _ _ _; exfalso; omega
    | succ N_3 ih_2 =>
      intro L4_48 mmany_48 msumW_48 msumA_48 msumR_48 msumWW_48 msumWA_48 msumAA_48 msumWR_48 msumAR_48 H locs ls hm v0_48 v1_48 hP hD hS hl
      have lo_L4_48 := i_lo L4_48; have hi_L4_48 := i_hi L4_48
      refine lv_iload hx hb dX9_sumUp_48 (lv_at hl 0 rfl) ?_
      refine lv_iload_n hx hb dX9_sumUp_50 rfl (lv_at hl 4 rfl) ?_
      refine lv_icmp_ge (tgt := 225) hx hb dX9_sumUp_51 (by decide) (fun c_4 => ?_) (fun c_4 => ?_)
      ·
        have ic_4 : p2.toInt ≤ L4_48.toInt := by first | exact (g_le rfl rfl).mp c_4 | (have h := mt (g_lt rfl rfl).mpr c_4; omega)
        clear c_4
        have hP9 := hP.sub (ws' := [(mh, .inr (9, G9 ma mcode mtoday moffs mmany_48 msumW_48 msumA_48 msumR_48 msumWW_48 msumWA_48 msumAA_48 msumWR_48 msumAR_48 mupper mlower mrates mtaped mlaid mat mtk mtkAt mtkNumber mwaits mlisted mdealtMany)), ((ma 2), .inl (E 0, 400, .inl mf2)), ((ma 3), .inl (E 0, 16, .inl mf3)), ((ma 4), .inl (E 0, 16, .inl mf4)), ((ma 5), .inl (E 1, 6400, .inl mf5)), ((ma 6), .inl (E 0, 6400, .inl mf6)), ((ma 7), .inl (E 0, 6400, .inl mf7)), ((ma 8), .inl (E 1, 6400, .inl mf8)), ((ma 9), .inl (E 1, 6400, .inl mf9)), ((ma 12), .inl (E 0, 60, .inl mf12)), ((ma 13), .inl (E 0, 60, .inl mf13)), ((ma 14), .inl (E 0, 60, .inl mf14)), ((ma 15), .inl (E 0, 60, .inl mf15)), ((ma 16), .inl (E 0, 60, .inl mf16))]) [0, 1, 2, 3, 4, 5, 6, 7, 8, 9, 10, 11, 12, 13] rfl
        have hD9 := hD.sub (ws' := [(mh, .inr (9, G9 ma mcode mtoday moffs mmany_48 msumW_48 msumA_48 msumR_48 msumWW_48 msumWA_48 msumAA_48 msumWR_48 msumAR_48 mupper mlower mrates mtaped mlaid mat mtk mtkAt mtkNumber mwaits mlisted mdealtMany)), ((ma 2), .inl (E 0, 400, .inl mf2)), ((ma 3), .inl (E 0, 16, .inl mf3)), ((ma 4), .inl (E 0, 16, .inl mf4)), ((ma 5), .inl (E 1, 6400, .inl mf5)), ((ma 6), .inl (E 0, 6400, .inl mf6)), ((ma 7), .inl (E 0, 6400, .inl mf7)), ((ma 8), .inl (E 1, 6400, .inl mf8)), ((ma 9), .inl (E 1, 6400, .inl mf9)), ((ma 12), .inl (E 0, 60, .inl mf12)), ((ma 13), .inl (E 0, 60, .inl mf13)), ((ma 14), .inl (E 0, 60, .inl mf14)), ((ma 15), .inl (E 0, 60, .inl mf15)), ((ma 16), .inl (E 0, 60, .inl mf16))]) [0, 1, 2, 3, 4, 5, 6, 7, 8, 9, 10, 11, 12, 13] (by decide) rfl
        exact W.vret hx hb hr (fun t ht hW => ⟨⟨(mmany_48, msumA_48, msumAA_48, msumAR_48, msumR_48, msumW_48, msumWA_48, msumWR_48, msumWW_48), rfl, (by (try dsimp only); rw [show p2.toInt - p1.toInt = L4_48.toInt - p1.toInt by omega]; exact v1_48), by rw [ht]; exact hP9, hD9⟩, hS.F ht⟩) hS.2.2 dX9_sumUp_225
      ·
        have ic_4 : L4_48.toInt < p2.toInt := by first | exact (g_lt rfl rfl).mp c_4 | (have h := mt (g_le rfl rfl).mpr c_4; omega)
        clear c_4
        refine lv_aload_n hx hb dX9_sumUp_54 rfl (lv_at hl 1 rfl) ?_
        refine lv_iload_n hx hb dX9_sumUp_55 rfl (lv_at hl 2 rfl) ?_
        refine lv_iload hx hb dX9_sumUp_56 (lv_at hl 0 rfl) ?_
        refine lv_iconst (v := (-1)) hx hb dX9_sumUp_58 (by decide) ?_
        refine callRV (rest := []) (As := [.int p0, .int L4_48, .int (-1)]) hx hb hml hown htb hK (g_X9_rateOf l D E mh ma mcode mtoday moffs mmany_48 msumW_48 msumA_48 msumR_48 msumWW_48 msumWA_48 msumAA_48 msumWR_48 msumAR_48 mupper mlower mrates mtaped mlaid mat mtk mtkAt mtkNumber mwaits mlisted mdealtMany mf5 mf6 mf7 mf8 mf9 mf12 mf13 mf14 mf15 mf16 p0 L4_48 (-1) (by (try dsimp only); omega) (by have h0 := t_m1; (try dsimp only); omega) (by have h0 := t_m1; (try dsimp only); omega)) ok_X9_rateOf k_1231 k_1233 ks_43 k_9 k_1234 ⟨(Nat.le_of_ble_eq_true rfl), (Nat.le_of_ble_eq_true rfl)⟩ ⟨(Nat.le_of_ble_eq_true rfl), (Nat.le_of_ble_eq_true rfl)⟩ hl.1 (Nat.le_of_ble_eq_true rfl) rfl rfl dX9_sumUp_59 (hP.sub (ws' := [(mh, .inr (9, G9 ma mcode mtoday moffs mmany_48 msumW_48 msumA_48 msumR_48 msumWW_48 msumWA_48 msumAA_48 msumWR_48 msumAR_48 mupper mlower mrates mtaped mlaid mat mtk mtkAt mtkNumber mwaits mlisted mdealtMany)), ((ma 5), .inl (E 1, 6400, .inl mf5)), ((ma 6), .inl (E 0, 6400, .inl mf6)), ((ma 7), .inl (E 0, 6400, .inl mf7)), ((ma 8), .inl (E 1, 6400, .inl mf8)), ((ma 9), .inl (E 1, 6400, .inl mf9)), ((ma 12), .inl (E 0, 60, .inl mf12)), ((ma 13), .inl (E 0, 60, .inl mf13)), ((ma 14), .inl (E 0, 60, .inl mf14)), ((ma 15), .inl (E 0, 60, .inl mf15)), ((ma 16), .inl (E 0, 60, .inl mf16))]) [0, 4, 5, 6, 7, 8, 9, 10, 11, 12, 13] rfl) rfl rfl 0 rfl (fun r_5 hw_6 => ?_)
        try simp only [t_m1] at hw_6
        obtain ⟨z_8, ez_8⟩ : ∃ y : Int64, (r_5 : Int32).toInt64 = y := ⟨_, rfl⟩
        refine lv_i2l hx hb dX9_sumUp_62 ez_8 ?_
        refine lv_lstore (lv' := [(5, .long z_8), (4, .int L4_48), (0, .ref mh), (1, .int p0), (2, .int p1), (3, .int p2)]) hx hb dX9_sumUp_63 hl (by decide) rfl (fun ls hl => ?_)
        refine lv_aload_n hx hb dX9_sumUp_65 rfl (lv_at hl 2 rfl) ?_
        refine lv_iload_n hx hb dX9_sumUp_66 rfl (lv_at hl 3 rfl) ?_
        refine lv_iload hx hb dX9_sumUp_67 (lv_at hl 1 rfl) ?_
        refine callRV (rest := []) (As := [.int p0, .int L4_48]) hx hb hml hown htb hK (g_X9_warmthOf l D E mh ma mcode mtoday moffs mmany_48 msumW_48 msumA_48 msumR_48 msumWW_48 msumWA_48 msumAA_48 msumWR_48 msumAR_48 mupper mlower mrates mtaped mlaid mat mtk mtkAt mtkNumber mwaits mlisted mdealtMany mf2 mf3 mf4 p0 L4_48 (by (try dsimp only); omega) (by (try dsimp only); omega) (by (try dsimp only); omega)) ok_X9_warmthOf k_1277 k_1279 ks_47 k_9 k_1280 ⟨(Nat.le_of_ble_eq_true rfl), (Nat.le_of_ble_eq_true rfl)⟩ ⟨(Nat.le_of_ble_eq_true rfl), (Nat.le_of_ble_eq_true rfl)⟩ hl.1 (Nat.le_of_ble_eq_true rfl) rfl rfl dX9_sumUp_69 (hP.sub (ws' := [(mh, .inr (9, G9 ma mcode mtoday moffs mmany_48 msumW_48 msumA_48 msumR_48 msumWW_48 msumWA_48 msumAA_48 msumWR_48 msumAR_48 mupper mlower mrates mtaped mlaid mat mtk mtkAt mtkNumber mwaits mlisted mdealtMany)), ((ma 2), .inl (E 0, 400, .inl mf2)), ((ma 3), .inl (E 0, 16, .inl mf3)), ((ma 4), .inl (E 0, 16, .inl mf4))]) [0, 1, 2, 3] rfl) rfl rfl 0 rfl (fun r_9 hw_10 => ?_)
        obtain ⟨z_12, ez_12⟩ : ∃ y : Int64, (r_9 : Int32).toInt64 = y := ⟨_, rfl⟩
        refine lv_i2l hx hb dX9_sumUp_72 ez_12 ?_
        refine lv_lstore (lv' := [(7, .long z_12), (5, .long z_8), (4, .int L4_48), (0, .ref mh), (1, .int p0), (2, .int p1), (3, .int p2)]) hx hb dX9_sumUp_73 hl (by decide) rfl (fun ls hl => ?_)
        refine lv_lload hx hb dX9_sumUp_75 (lv_at hl 1 rfl) ?_
        refine lv_ldc2 hx hb hown (htb _ k_1281) dX9_sumUp_77 ?_
        refine W.lcmp hx hb dX9_sumUp_80 ?_
        refine lv_topi (fun z_13 ez_13 => ?_)
        refine lv_if_eq (tgt := 219) hx hb dX9_sumUp_81 (by decide) (fun c_14 => ?_) (fun c_14 => ?_)
        ·
          have lc_15 : (z_8 : Int64) = ((-2000000000) : Int64) := lc_eq (by rw [← ez_13]; exact c_14)
          obtain ⟨z_16, ez_16⟩ : ∃ y : Int32, y = L4_48 + 1 := ⟨_, rfl⟩
          have jz_16 : z_16.toInt = L4_48.toInt + 1 := by rw [ez_16]; exact g_add rfl t_1 (by omega) (by omega)
          refine lv_iinc (v := z_16) (lv' := [(4, .int z_16), (7, .long z_12), (5, .long z_8), (0, .ref mh), (1, .int p0), (2, .int p1), (3, .int p2)]) hx hb dX9_sumUp_219 hl (k := 2) rfl (by rw [ez_16]; rfl) (by decide) rfl (fun ls hl => ?_)
          refine lv_goto (tgt := 48) hx hb dX9_sumUp_222 (by decide) ?_
          exact ih_2 z_16 mmany_48 msumW_48 msumA_48 msumR_48 msumWW_48 msumWA_48 msumAA_48 msumWR_48 msumAR_48 _ _ _ (by (try dsimp only); omega) (by (try dsimp only); omega) (by rw [fold9_step (R := (fun d => ratF mf5 mf6 mf7 mf8 mf9 mf12 mf13 mf14 mf15 mf16 moffs p0 d (-1))) (p := p1) (L := L4_48) (z := z_16) (by omega) (by omega) jz_16]; (try dsimp only); rw [← hw_6]; rw [if_pos ((l_eqc ez_8 (show ((-2000000000) : Int64).toInt = (-2000000000) by decide)).mp lc_15)]; exact v1_48) hP hD hS (lv_sub hl [0, 3, 4, 5, 6] rfl)
        ·
          have lc_17 : ¬ (z_8 : Int64) = ((-2000000000) : Int64) := lc_ne (by rw [← ez_13]; exact c_14)
          refine lv_lload hx hb dX9_sumUp_84 (lv_at hl 0 rfl) ?_
          refine lv_ldc2 hx hb hown (htb _ k_1282) dX9_sumUp_86 ?_
          refine W.lcmp hx hb dX9_sumUp_89 ?_
          refine lv_topi (fun z_18 ez_18 => ?_)
          refine lv_if_ne (tgt := 96) hx hb dX9_sumUp_90 (by decide) (fun c_19 => ?_) (fun c_19 => ?_)
          ·
            have lc_20 : ¬ (z_12 : Int64) = ((-1000) : Int64) := lc_ne (by rw [← ez_18]; exact c_19)
            refine lv_aload_n hx hb dX9_sumUp_96 rfl (lv_at hl 3 rfl) ?_
            refine lv_iload_n hx hb dX9_sumUp_97 rfl (lv_at hl 4 rfl) ?_
            refine lv_iload hx hb dX9_sumUp_98 (lv_at hl 2 rfl) ?_
            refine callRV (rest := []) (As := [.int p0, .int L4_48]) hx hb hml hown htb hK (g_X9_ageOf l D E mh ma mcode mtoday moffs mmany_48 msumW_48 msumA_48 msumR_48 msumWW_48 msumWA_48 msumAA_48 msumWR_48 msumAR_48 mupper mlower mrates mtaped mlaid mat mtk mtkAt mtkNumber mwaits mlisted mdealtMany mf8 p0 L4_48 (by (try dsimp only); omega) (by (try dsimp only); omega) (by (try dsimp only); omega)) ok_X9_ageOf k_1250 k_1252 ks_44 k_9 k_1253 ⟨(Nat.le_of_ble_eq_true rfl), (Nat.le_of_ble_eq_true rfl)⟩ ⟨(Nat.le_of_ble_eq_true rfl), (Nat.le_of_ble_eq_true rfl)⟩ hl.1 (Nat.le_of_ble_eq_true rfl) rfl rfl dX9_sumUp_100 (hP.sub (ws' := [(mh, .inr (9, G9 ma mcode mtoday moffs mmany_48 msumW_48 msumA_48 msumR_48 msumWW_48 msumWA_48 msumAA_48 msumWR_48 msumAR_48 mupper mlower mrates mtaped mlaid mat mtk mtkAt mtkNumber mwaits mlisted mdealtMany)), ((ma 8), .inl (E 1, 6400, .inl mf8))]) [0, 7] rfl) rfl rfl 0 rfl (fun r_21 hw_22 => ?_)
            obtain ⟨z_24, ez_24⟩ : ∃ y : Int64, (r_21 : Int32).toInt64 = y := ⟨_, rfl⟩
            refine lv_i2l hx hb dX9_sumUp_103 ez_24 ?_
            refine lv_lstore (lv' := [(9, .long z_24), (7, .long z_12), (5, .long z_8), (4, .int L4_48), (0, .ref mh), (1, .int p0), (2, .int p1), (3, .int p2)]) hx hb dX9_sumUp_104 hl (by decide) rfl (fun ls hl => ?_)
            refine lv_aload_n hx hb dX9_sumUp_106 rfl (lv_at hl 4 rfl) ?_
            refine lv_dup hx hb dX9_sumUp_107 rfl ?_
            refine va_get (D := D) (ci := 9) (v := .long mmany_48) (C := RX9) (T := TX9) (N := 68) hx hb htb iX9 hown hK.1 hP 0 rfl rfl 17 (by decide) (htb _ k_975) (fun _ h9 => h9) rfl dX9_sumUp_108 ?_
            refine lv_lconst (v := 1) hx hb dX9_sumUp_111 (by decide) ?_
            refine lv_ladd hx hb dX9_sumUp_112 ?_
            refine lv_topl (fun z_25 ez_25 => ?_)
            refine va_put (D := D) (ci := 9) (v := .long z_25) (ty := .long) (C := RX9) (T := TX9) (N := 68) hx hb htb iX9 tyX9 tyX9_ok nmX9 hown hK.1 hP hD hS 0 rfl rfl 17 (by decide) (htb _ k_975) (fun _ h9 => h9) rfl (by decide +kernel) rfl rfl (Nat.le_of_ble_eq_true rfl) dX9_sumUp_113 (fun H locs hP hD hS => ?_)
            have hP : va_P D vwCl [(mh, .inr (9, G9 ma mcode mtoday moffs z_25 msumW_48 msumA_48 msumR_48 msumWW_48 msumWA_48 msumAA_48 msumWR_48 msumAR_48 mupper mlower mrates mtaped mlaid mat mtk mtkAt mtkNumber mwaits mlisted mdealtMany)), ((ma 2), .inl (E 0, 400, .inl mf2)), ((ma 3), .inl (E 0, 16, .inl mf3)), ((ma 4), .inl (E 0, 16, .inl mf4)), ((ma 5), .inl (E 1, 6400, .inl mf5)), ((ma 6), .inl (E 0, 6400, .inl mf6)), ((ma 7), .inl (E 0, 6400, .inl mf7)), ((ma 8), .inl (E 1, 6400, .inl mf8)), ((ma 9), .inl (E 1, 6400, .inl mf9)), ((ma 12), .inl (E 0, 60, .inl mf12)), ((ma 13), .inl (E 0, 60, .inl mf13)), ((ma 14), .inl (E 0, 60, .inl mf14)), ((ma 15), .inl (E 0, 60, .inl mf15)), ((ma 16), .inl (E 0, 60, .inl mf16))] H := hP
            have hD := toW hP hD rfl
            refine lv_aload_n hx hb dX9_sumUp_116 rfl (lv_at hl 4 rfl) ?_
            refine lv_dup hx hb dX9_sumUp_117 rfl ?_
            refine va_get (D := D) (ci := 9) (v := .long msumW_48) (C := RX9) (T := TX9) (N := 68) hx hb htb iX9 hown hK.1 hP 0 rfl rfl 18 (by decide) (htb _ k_976) (fun _ h9 => h9) rfl dX9_sumUp_118 ?_
            refine lv_lload hx hb dX9_sumUp_121 (lv_at hl 1 rfl) ?_
            refine lv_ladd hx hb dX9_sumUp_123 ?_
            refine lv_topl (fun z_26 ez_26 => ?_)
            refine va_put (D := D) (ci := 9) (v := .long z_26) (ty := .long) (C := RX9) (T := TX9) (N := 68) hx hb htb iX9 tyX9 tyX9_ok nmX9 hown hK.1 hP hD hS 0 rfl rfl 18 (by decide) (htb _ k_976) (fun _ h9 => h9) rfl (by decide +kernel) rfl rfl (Nat.le_of_ble_eq_true rfl) dX9_sumUp_124 (fun H locs hP hD hS => ?_)
            have hP : va_P D vwCl [(mh, .inr (9, G9 ma mcode mtoday moffs z_25 z_26 msumA_48 msumR_48 msumWW_48 msumWA_48 msumAA_48 msumWR_48 msumAR_48 mupper mlower mrates mtaped mlaid mat mtk mtkAt mtkNumber mwaits mlisted mdealtMany)), ((ma 2), .inl (E 0, 400, .inl mf2)), ((ma 3), .inl (E 0, 16, .inl mf3)), ((ma 4), .inl (E 0, 16, .inl mf4)), ((ma 5), .inl (E 1, 6400, .inl mf5)), ((ma 6), .inl (E 0, 6400, .inl mf6)), ((ma 7), .inl (E 0, 6400, .inl mf7)), ((ma 8), .inl (E 1, 6400, .inl mf8)), ((ma 9), .inl (E 1, 6400, .inl mf9)), ((ma 12), .inl (E 0, 60, .inl mf12)), ((ma 13), .inl (E 0, 60, .inl mf13)), ((ma 14), .inl (E 0, 60, .inl mf14)), ((ma 15), .inl (E 0, 60, .inl mf15)), ((ma 16), .inl (E 0, 60, .inl mf16))] H := hP
            have hD := toW hP hD rfl
            refine lv_aload_n hx hb dX9_sumUp_127 rfl (lv_at hl 4 rfl) ?_
            refine lv_dup hx hb dX9_sumUp_128 rfl ?_
            refine va_get (D := D) (ci := 9) (v := .long msumA_48) (C := RX9) (T := TX9) (N := 68) hx hb htb iX9 hown hK.1 hP 0 rfl rfl 19 (by decide) (htb _ k_977) (fun _ h9 => h9) rfl dX9_sumUp_129 ?_
            refine lv_lload hx hb dX9_sumUp_132 (lv_at hl 0 rfl) ?_
            refine lv_ladd hx hb dX9_sumUp_134 ?_
            refine lv_topl (fun z_27 ez_27 => ?_)
            refine va_put (D := D) (ci := 9) (v := .long z_27) (ty := .long) (C := RX9) (T := TX9) (N := 68) hx hb htb iX9 tyX9 tyX9_ok nmX9 hown hK.1 hP hD hS 0 rfl rfl 19 (by decide) (htb _ k_977) (fun _ h9 => h9) rfl (by decide +kernel) rfl rfl (Nat.le_of_ble_eq_true rfl) dX9_sumUp_135 (fun H locs hP hD hS => ?_)
            have hP : va_P D vwCl [(mh, .inr (9, G9 ma mcode mtoday moffs z_25 z_26 z_27 msumR_48 msumWW_48 msumWA_48 msumAA_48 msumWR_48 msumAR_48 mupper mlower mrates mtaped mlaid mat mtk mtkAt mtkNumber mwaits mlisted mdealtMany)), ((ma 2), .inl (E 0, 400, .inl mf2)), ((ma 3), .inl (E 0, 16, .inl mf3)), ((ma 4), .inl (E 0, 16, .inl mf4)), ((ma 5), .inl (E 1, 6400, .inl mf5)), ((ma 6), .inl (E 0, 6400, .inl mf6)), ((ma 7), .inl (E 0, 6400, .inl mf7)), ((ma 8), .inl (E 1, 6400, .inl mf8)), ((ma 9), .inl (E 1, 6400, .inl mf9)), ((ma 12), .inl (E 0, 60, .inl mf12)), ((ma 13), .inl (E 0, 60, .inl mf13)), ((ma 14), .inl (E 0, 60, .inl mf14)), ((ma 15), .inl (E 0, 60, .inl mf15)), ((ma 16), .inl (E 0, 60, .inl mf16))] H := hP
            have hD := toW hP hD rfl
            refine lv_aload_n hx hb dX9_sumUp_138 rfl (lv_at hl 4 rfl) ?_
            refine lv_dup hx hb dX9_sumUp_139 rfl ?_
            refine va_get (D := D) (ci := 9) (v := .long msumR_48) (C := RX9) (T := TX9) (N := 68) hx hb htb iX9 hown hK.1 hP 0 rfl rfl 20 (by decide) (htb _ k_978) (fun _ h9 => h9) rfl dX9_sumUp_140 ?_
            refine lv_lload hx hb dX9_sumUp_143 (lv_at hl 2 rfl) ?_
            refine lv_ladd hx hb dX9_sumUp_145 ?_
            refine lv_topl (fun z_28 ez_28 => ?_)
            refine va_put (D := D) (ci := 9) (v := .long z_28) (ty := .long) (C := RX9) (T := TX9) (N := 68) hx hb htb iX9 tyX9 tyX9_ok nmX9 hown hK.1 hP hD hS 0 rfl rfl 20 (by decide) (htb _ k_978) (fun _ h9 => h9) rfl (by decide +kernel) rfl rfl (Nat.le_of_ble_eq_true rfl) dX9_sumUp_146 (fun H locs hP hD hS => ?_)
            have hP : va_P D vwCl [(mh, .inr (9, G9 ma mcode mtoday moffs z_25 z_26 z_27 z_28 msumWW_48 msumWA_48 msumAA_48 msumWR_48 msumAR_48 mupper mlower mrates mtaped mlaid mat mtk mtkAt mtkNumber mwaits mlisted mdealtMany)), ((ma 2), .inl (E 0, 400, .inl mf2)), ((ma 3), .inl (E 0, 16, .inl mf3)), ((ma 4), .inl (E 0, 16, .inl mf4)), ((ma 5), .inl (E 1, 6400, .inl mf5)), ((ma 6), .inl (E 0, 6400, .inl mf6)), ((ma 7), .inl (E 0, 6400, .inl mf7)), ((ma 8), .inl (E 1, 6400, .inl mf8)), ((ma 9), .inl (E 1, 6400, .inl mf9)), ((ma 12), .inl (E 0, 60, .inl mf12)), ((ma 13), .inl (E 0, 60, .inl mf13)), ((ma 14), .inl (E 0, 60, .inl mf14)), ((ma 15), .inl (E 0, 60, .inl mf15)), ((ma 16), .inl (E 0, 60, .inl mf16))] H := hP
            have hD := toW hP hD rfl
            refine lv_aload_n hx hb dX9_sumUp_149 rfl (lv_at hl 4 rfl) ?_
            refine lv_dup hx hb dX9_sumUp_150 rfl ?_
            refine va_get (D := D) (ci := 9) (v := .long msumWW_48) (C := RX9) (T := TX9) (N := 68) hx hb htb iX9 hown hK.1 hP 0 rfl rfl 21 (by decide) (htb _ k_979) (fun _ h9 => h9) rfl dX9_sumUp_151 ?_
            refine lv_lload hx hb dX9_sumUp_154 (lv_at hl 1 rfl) ?_
            refine lv_lload hx hb dX9_sumUp_156 (lv_at hl 1 rfl) ?_
            refine lv_lmul hx hb dX9_sumUp_158 ?_
            refine lv_topl (fun z_29 ez_29 => ?_)
            refine lv_ladd hx hb dX9_sumUp_159 ?_
            refine lv_topl (fun z_30 ez_30 => ?_)
            refine va_put (D := D) (ci := 9) (v := .long z_30) (ty := .long) (C := RX9) (T := TX9) (N := 68) hx hb htb iX9 tyX9 tyX9_ok nmX9 hown hK.1 hP hD hS 0 rfl rfl 21 (by decide) (htb _ k_979) (fun _ h9 => h9) rfl (by decide +kernel) rfl rfl (Nat.le_of_ble_eq_true rfl) dX9_sumUp_160 (fun H locs hP hD hS => ?_)
            have hP : va_P D vwCl [(mh, .inr (9, G9 ma mcode mtoday moffs z_25 z_26 z_27 z_28 z_30 msumWA_48 msumAA_48 msumWR_48 msumAR_48 mupper mlower mrates mtaped mlaid mat mtk mtkAt mtkNumber mwaits mlisted mdealtMany)), ((ma 2), .inl (E 0, 400, .inl mf2)), ((ma 3), .inl (E 0, 16, .inl mf3)), ((ma 4), .inl (E 0, 16, .inl mf4)), ((ma 5), .inl (E 1, 6400, .inl mf5)), ((ma 6), .inl (E 0, 6400, .inl mf6)), ((ma 7), .inl (E 0, 6400, .inl mf7)), ((ma 8), .inl (E 1, 6400, .inl mf8)), ((ma 9), .inl (E 1, 6400, .inl mf9)), ((ma 12), .inl (E 0, 60, .inl mf12)), ((ma 13), .inl (E 0, 60, .inl mf13)), ((ma 14), .inl (E 0, 60, .inl mf14)), ((ma 15), .inl (E 0, 60, .inl mf15)), ((ma 16), .inl (E 0, 60, .inl mf16))] H := hP
            have hD := toW hP hD rfl
            refine lv_aload_n hx hb dX9_sumUp_163 rfl (lv_at hl 4 rfl) ?_
            refine lv_dup hx hb dX9_sumUp_164 rfl ?_
            refine va_get (D := D) (ci := 9) (v := .long msumWA_48) (C := RX9) (T := TX9) (N := 68) hx hb htb iX9 hown hK.1 hP 0 rfl rfl 22 (by decide) (htb _ k_980) (fun _ h9 => h9) rfl dX9_sumUp_165 ?_
            refine lv_lload hx hb dX9_sumUp_168 (lv_at hl 1 rfl) ?_
            refine lv_lload hx hb dX9_sumUp_170 (lv_at hl 0 rfl) ?_
            refine lv_lmul hx hb dX9_sumUp_172 ?_
            refine lv_topl (fun z_31 ez_31 => ?_)
            refine lv_ladd hx hb dX9_sumUp_173 ?_
            refine lv_topl (fun z_32 ez_32 => ?_)
            refine va_put (D := D) (ci := 9) (v := .long z_32) (ty := .long) (C := RX9) (T := TX9) (N := 68) hx hb htb iX9 tyX9 tyX9_ok nmX9 hown hK.1 hP hD hS 0 rfl rfl 22 (by decide) (htb _ k_980) (fun _ h9 => h9) rfl (by decide +kernel) rfl rfl (Nat.le_of_ble_eq_true rfl) dX9_sumUp_174 (fun H locs hP hD hS => ?_)
            have hP : va_P D vwCl [(mh, .inr (9, G9 ma mcode mtoday moffs z_25 z_26 z_27 z_28 z_30 z_32 msumAA_48 msumWR_48 msumAR_48 mupper mlower mrates mtaped mlaid mat mtk mtkAt mtkNumber mwaits mlisted mdealtMany)), ((ma 2), .inl (E 0, 400, .inl mf2)), ((ma 3), .inl (E 0, 16, .inl mf3)), ((ma 4), .inl (E 0, 16, .inl mf4)), ((ma 5), .inl (E 1, 6400, .inl mf5)), ((ma 6), .inl (E 0, 6400, .inl mf6)), ((ma 7), .inl (E 0, 6400, .inl mf7)), ((ma 8), .inl (E 1, 6400, .inl mf8)), ((ma 9), .inl (E 1, 6400, .inl mf9)), ((ma 12), .inl (E 0, 60, .inl mf12)), ((ma 13), .inl (E 0, 60, .inl mf13)), ((ma 14), .inl (E 0, 60, .inl mf14)), ((ma 15), .inl (E 0, 60, .inl mf15)), ((ma 16), .inl (E 0, 60, .inl mf16))] H := hP
            have hD := toW hP hD rfl
            refine lv_aload_n hx hb dX9_sumUp_177 rfl (lv_at hl 4 rfl) ?_
            refine lv_dup hx hb dX9_sumUp_178 rfl ?_
            refine va_get (D := D) (ci := 9) (v := .long msumAA_48) (C := RX9) (T := TX9) (N := 68) hx hb htb iX9 hown hK.1 hP 0 rfl rfl 23 (by decide) (htb _ k_981) (fun _ h9 => h9) rfl dX9_sumUp_179 ?_
            refine lv_lload hx hb dX9_sumUp_182 (lv_at hl 0 rfl) ?_
            refine lv_lload hx hb dX9_sumUp_184 (lv_at hl 0 rfl) ?_
            refine lv_lmul hx hb dX9_sumUp_186 ?_
            refine lv_topl (fun z_33 ez_33 => ?_)
            refine lv_ladd hx hb dX9_sumUp_187 ?_
            refine lv_topl (fun z_34 ez_34 => ?_)
            refine va_put (D := D) (ci := 9) (v := .long z_34) (ty := .long) (C := RX9) (T := TX9) (N := 68) hx hb htb iX9 tyX9 tyX9_ok nmX9 hown hK.1 hP hD hS 0 rfl rfl 23 (by decide) (htb _ k_981) (fun _ h9 => h9) rfl (by decide +kernel) rfl rfl (Nat.le_of_ble_eq_true rfl) dX9_sumUp_188 (fun H locs hP hD hS => ?_)
            have hP : va_P D vwCl [(mh, .inr (9, G9 ma mcode mtoday moffs z_25 z_26 z_27 z_28 z_30 z_32 z_34 msumWR_48 msumAR_48 mupper mlower mrates mtaped mlaid mat mtk mtkAt mtkNumber mwaits mlisted mdealtMany)), ((ma 2), .inl (E 0, 400, .inl mf2)), ((ma 3), .inl (E 0, 16, .inl mf3)), ((ma 4), .inl (E 0, 16, .inl mf4)), ((ma 5), .inl (E 1, 6400, .inl mf5)), ((ma 6), .inl (E 0, 6400, .inl mf6)), ((ma 7), .inl (E 0, 6400, .inl mf7)), ((ma 8), .inl (E 1, 6400, .inl mf8)), ((ma 9), .inl (E 1, 6400, .inl mf9)), ((ma 12), .inl (E 0, 60, .inl mf12)), ((ma 13), .inl (E 0, 60, .inl mf13)), ((ma 14), .inl (E 0, 60, .inl mf14)), ((ma 15), .inl (E 0, 60, .inl mf15)), ((ma 16), .inl (E 0, 60, .inl mf16))] H := hP
            have hD := toW hP hD rfl
            refine lv_aload_n hx hb dX9_sumUp_191 rfl (lv_at hl 4 rfl) ?_
            refine lv_dup hx hb dX9_sumUp_192 rfl ?_
            refine va_get (D := D) (ci := 9) (v := .long msumWR_48) (C := RX9) (T := TX9) (N := 68) hx hb htb iX9 hown hK.1 hP 0 rfl rfl 24 (by decide) (htb _ k_982) (fun _ h9 => h9) rfl dX9_sumUp_193 ?_
            refine lv_lload hx hb dX9_sumUp_196 (lv_at hl 1 rfl) ?_
            refine lv_lload hx hb dX9_sumUp_198 (lv_at hl 2 rfl) ?_
            refine lv_lmul hx hb dX9_sumUp_200 ?_
            refine lv_topl (fun z_35 ez_35 => ?_)
            refine lv_ladd hx hb dX9_sumUp_201 ?_
            refine lv_topl (fun z_36 ez_36 => ?_)
            refine va_put (D := D) (ci := 9) (v := .long z_36) (ty := .long) (C := RX9) (T := TX9) (N := 68) hx hb htb iX9 tyX9 tyX9_ok nmX9 hown hK.1 hP hD hS 0 rfl rfl 24 (by decide) (htb _ k_982) (fun _ h9 => h9) rfl (by decide +kernel) rfl rfl (Nat.le_of_ble_eq_true rfl) dX9_sumUp_202 (fun H locs hP hD hS => ?_)
            have hP : va_P D vwCl [(mh, .inr (9, G9 ma mcode mtoday moffs z_25 z_26 z_27 z_28 z_30 z_32 z_34 z_36 msumAR_48 mupper mlower mrates mtaped mlaid mat mtk mtkAt mtkNumber mwaits mlisted mdealtMany)), ((ma 2), .inl (E 0, 400, .inl mf2)), ((ma 3), .inl (E 0, 16, .inl mf3)), ((ma 4), .inl (E 0, 16, .inl mf4)), ((ma 5), .inl (E 1, 6400, .inl mf5)), ((ma 6), .inl (E 0, 6400, .inl mf6)), ((ma 7), .inl (E 0, 6400, .inl mf7)), ((ma 8), .inl (E 1, 6400, .inl mf8)), ((ma 9), .inl (E 1, 6400, .inl mf9)), ((ma 12), .inl (E 0, 60, .inl mf12)), ((ma 13), .inl (E 0, 60, .inl mf13)), ((ma 14), .inl (E 0, 60, .inl mf14)), ((ma 15), .inl (E 0, 60, .inl mf15)), ((ma 16), .inl (E 0, 60, .inl mf16))] H := hP
            have hD := toW hP hD rfl
            refine lv_aload_n hx hb dX9_sumUp_205 rfl (lv_at hl 4 rfl) ?_
            refine lv_dup hx hb dX9_sumUp_206 rfl ?_
            refine va_get (D := D) (ci := 9) (v := .long msumAR_48) (C := RX9) (T := TX9) (N := 68) hx hb htb iX9 hown hK.1 hP 0 rfl rfl 25 (by decide) (htb _ k_983) (fun _ h9 => h9) rfl dX9_sumUp_207 ?_
            refine lv_lload hx hb dX9_sumUp_210 (lv_at hl 0 rfl) ?_
            refine lv_lload hx hb dX9_sumUp_212 (lv_at hl 2 rfl) ?_
            refine lv_lmul hx hb dX9_sumUp_214 ?_
            refine lv_topl (fun z_37 ez_37 => ?_)
            refine lv_ladd hx hb dX9_sumUp_215 ?_
            refine lv_topl (fun z_38 ez_38 => ?_)
            refine va_put (D := D) (ci := 9) (v := .long z_38) (ty := .long) (C := RX9) (T := TX9) (N := 68) hx hb htb iX9 tyX9 tyX9_ok nmX9 hown hK.1 hP hD hS 0 rfl rfl 25 (by decide) (htb _ k_983) (fun _ h9 => h9) rfl (by decide +kernel) rfl rfl (Nat.le_of_ble_eq_true rfl) dX9_sumUp_216 (fun H locs hP hD hS => ?_)
            have hP : va_P D vwCl [(mh, .inr (9, G9 ma mcode mtoday moffs z_25 z_26 z_27 z_28 z_30 z_32 z_34 z_36 z_38 mupper mlower mrates mtaped mlaid mat mtk mtkAt mtkNumber mwaits mlisted mdealtMany)), ((ma 2), .inl (E 0, 400, .inl mf2)), ((ma 3), .inl (E 0, 16, .inl mf3)), ((ma 4), .inl (E 0, 16, .inl mf4)), ((ma 5), .inl (E 1, 6400, .inl mf5)), ((ma 6), .inl (E 0, 6400, .inl mf6)), ((ma 7), .inl (E 0, 6400, .inl mf7)), ((ma 8), .inl (E 1, 6400, .inl mf8)), ((ma 9), .inl (E 1, 6400, .inl mf9)), ((ma 12), .inl (E 0, 60, .inl mf12)), ((ma 13), .inl (E 0, 60, .inl mf13)), ((ma 14), .inl (E 0, 60, .inl mf14)), ((ma 15), .inl (E 0, 60, .inl mf15)), ((ma 16), .inl (E 0, 60, .inl mf16))] H := hP
            have hD := toW hP hD rfl
            obtain ⟨z_39, ez_39⟩ : ∃ y : Int32, y = L4_48 + 1 := ⟨_, rfl⟩
            have jz_39 : z_39.toInt = L4_48.toInt + 1 := by rw [ez_39]; exact g_add rfl t_1 (by omega) (by omega)
            refine lv_iinc (v := z_39) (lv' := [(4, .int z_39), (9, .long z_24), (7, .long z_12), (5, .long z_8), (0, .ref mh), (1, .int p0), (2, .int p1), (3, .int p2)]) hx hb dX9_sumUp_219 hl (k := 3) rfl (by rw [ez_39]; rfl) (by decide) rfl (fun ls hl => ?_)
            refine lv_goto (tgt := 48) hx hb dX9_sumUp_222 (by decide) ?_
            exact ih_2 z_39 z_25 z_26 z_27 z_28 z_30 z_32 z_34 z_36 z_38 _ _ _ (by (try dsimp only); omega) (by (try dsimp only); omega) (by rw [fold9_step (R := (fun d => ratF mf5 mf6 mf7 mf8 mf9 mf12 mf13 mf14 mf15 mf16 moffs p0 d (-1))) (p := p1) (L := L4_48) (z := z_39) (by omega) (by omega) jz_39]; (try dsimp only); rw [← hw_6]; rw [if_neg (fun h9 => lc_17 ((l_eqc ez_8 (show ((-2000000000) : Int64).toInt = (-2000000000) by decide)).mpr h9))]; rw [step9_n (by (try dsimp only); rw [← hw_10]; exact fun h9 => lc_20 ((l_eqc ez_12 (show ((-1000) : Int64).toInt = (-1000) by decide)).mpr h9))]; (try dsimp only); rw [← hw_10, ← v1_48, ← agI_of hw_22 (by omega)]; subst_vars; rfl) hP hD hS (lv_sub hl [0, 4, 5, 6, 7] rfl)
          ·
            have lc_40 : (z_12 : Int64) = ((-1000) : Int64) := lc_eq (by rw [← ez_18]; exact c_19)
            refine lv_goto (tgt := 219) hx hb dX9_sumUp_93 (by decide) ?_
            obtain ⟨z_41, ez_41⟩ : ∃ y : Int32, y = L4_48 + 1 := ⟨_, rfl⟩
            have jz_41 : z_41.toInt = L4_48.toInt + 1 := by rw [ez_41]; exact g_add rfl t_1 (by omega) (by omega)
            refine lv_iinc (v := z_41) (lv' := [(4, .int z_41), (7, .long z_12), (5, .long z_8), (0, .ref mh), (1, .int p0), (2, .int p1), (3, .int p2)]) hx hb dX9_sumUp_219 hl (k := 2) rfl (by rw [ez_41]; rfl) (by decide) rfl (fun ls hl => ?_)
            refine lv_goto (tgt := 48) hx hb dX9_sumUp_222 (by decide) ?_
            exact ih_2 z_41 mmany_48 msumW_48 msumA_48 msumR_48 msumWW_48 msumWA_48 msumAA_48 msumWR_48 msumAR_48 _ _ _ (by (try dsimp only); omega) (by (try dsimp only); omega) (by rw [fold9_step (R := (fun d => ratF mf5 mf6 mf7 mf8 mf9 mf12 mf13 mf14 mf15 mf16 moffs p0 d (-1))) (p := p1) (L := L4_48) (z := z_41) (by omega) (by omega) jz_41]; (try dsimp only); rw [← hw_6]; rw [if_neg (fun h9 => lc_17 ((l_eqc ez_8 (show ((-2000000000) : Int64).toInt = (-2000000000) by decide)).mpr h9))]; rw [step9_p (by (try dsimp only); rw [← hw_10]; exact (l_eqc ez_12 (show ((-1000) : Int64).toInt = (-1000) by decide)).mp lc_40)]; exact v1_48) hP hD hS (lv_sub hl [0, 3, 4, 5, 6] rfl)
  exact loop_1 400 p1 0 0 0 0 0 0 0 0 0 _ _ _ (by have h0 := t_0; (try dsimp only); omega) (by have h0 := t_0; (try dsimp only); omega) (by rw [show (p1.toInt - p1.toInt).toNat = 0 by omega]; rfl) hP hD hS (lv_sub hl [0, 1, 2, 3, 4] rfl)
set_option maxHeartbeats 4000000 in
set_option maxRecDepth 100000 in
theorem g_X9_three (l : Launch) (D : va_G) (E : Nat → Nat) (mh : Nat) (ma : Nat → Nat) (mcode : Int32) (mtoday : Int32) (moffs : Int32) (mmany : Int64) (msumW : Int64) (msumA : Int64) (msumR : Int64) (msumWW : Int64) (msumWA : Int64) (msumAA : Int64) (msumWR : Int64) (msumAR : Int64) (mupper : Int64) (mlower : Int64) (mrates : Int32) (mtaped : Int32) (mlaid : Int32) (mat : Int32) (mtk : Int32) (mtkAt : Int32) (mtkNumber : Int32) (mwaits : Int32) (mlisted : Int32) (mdealtMany : Int32) (hi_m : (0 ≤ mtoday.toInt ∧ mtoday.toInt ≤ 399) ∧ (0 ≤ moffs.toInt ∧ moffs.toInt ≤ 60) ∧ (0 ≤ mrates.toInt ∧ mrates.toInt ≤ 60) ∧ (0 ≤ mtaped.toInt ∧ mtaped.toInt ≤ 120) ∧ (0 ≤ mlisted.toInt ∧ mlisted.toInt ≤ 9) ∧ (0 ≤ mdealtMany.toInt ∧ mdealtMany.toInt ≤ 9)) : Met l yX9_three (wl yX9_three cX9_three 1 (some .long)) (RM 0 0 0) (rd_P D E [.ref mh] [(mh, .inr (9, G9 ma mcode mtoday moffs mmany msumW msumA msumR msumWW msumWA msumAA msumWR msumAR mupper mlower mrates mtaped mlaid mat mtk mtkAt mtkNumber mwaits mlisted mdealtMany))]) (rl_Q (fun r => (r = thrF mmany msumW msumA msumWW msumWA msumAA))) 0 0 (fun _ => False) := by
  refine Met.ofW (cc := cX9_three) (maxL := 1) (ret := (some .long)) (by decide) rfl ?_
  intro p e s m args below meth c s₁ B hml hv
  obtain ⟨rfl, hP, hK⟩ := hv
  have hx := B.exec; have hb := B.bytes; have hr := B.returns
  have hts := atoms_spec (ws := wl yX9_three cX9_three 1 (some .long)) B.pre
  have htb : ∀ w ∈ tb, w.before _ s = true := fun w h => hts w (List.mem_cons_of_mem _ h)
  have hown : s.vm.findClass RX9 = some m.cls := findClass_of_methodNamed B.named
  have hlocks := B.notSynchronized
  have hP : va_P D vwCl [(mh, .inr (9, G9 ma mcode mtoday moffs mmany msumW msumA msumR msumWW msumWA msumAA msumWR msumAR mupper mlower mrates mtaped mlaid mat mtk mtkAt mtkNumber mwaits mlisted mdealtMany))] s.heap := hP
  have hl := lv_entry ([.ref mh]) (n := 1) (Nat.le_of_ble_eq_true rfl)
  rw [lg_entry_eq]
  generalize (lg_sl ([.ref mh]) ++ List.replicate (1 - (lg_sl ([.ref mh])).length) Slot.unset).toArray = ls at hl ⊢
  have hl : lv_has ls 1 [(0, .ref mh)] := hl
  refine lv_aload_n hx hb dX9_three_0 rfl (lv_at hl 0 rfl) ?_
  refine va_get (D := D) (ci := 9) (v := .long mmany) (C := RX9) (T := TX9) (N := 68) hx hb htb iX9 hown hK.1 hP 0 rfl rfl 17 (by decide) (htb _ k_975) (fun _ h9 => h9) rfl dX9_three_1 ?_
  refine lv_aload_n hx hb dX9_three_4 rfl (lv_at hl 0 rfl) ?_
  refine va_get (D := D) (ci := 9) (v := .long msumWW) (C := RX9) (T := TX9) (N := 68) hx hb htb iX9 hown hK.1 hP 0 rfl rfl 21 (by decide) (htb _ k_979) (fun _ h9 => h9) rfl dX9_three_5 ?_
  refine lv_aload_n hx hb dX9_three_8 rfl (lv_at hl 0 rfl) ?_
  refine va_get (D := D) (ci := 9) (v := .long msumAA) (C := RX9) (T := TX9) (N := 68) hx hb htb iX9 hown hK.1 hP 0 rfl rfl 23 (by decide) (htb _ k_981) (fun _ h9 => h9) rfl dX9_three_9 ?_
  refine lv_lmul hx hb dX9_three_12 ?_
  refine lv_topl (fun z_1 ez_1 => ?_)
  refine lv_aload_n hx hb dX9_three_13 rfl (lv_at hl 0 rfl) ?_
  refine va_get (D := D) (ci := 9) (v := .long msumWA) (C := RX9) (T := TX9) (N := 68) hx hb htb iX9 hown hK.1 hP 0 rfl rfl 22 (by decide) (htb _ k_980) (fun _ h9 => h9) rfl dX9_three_14 ?_
  refine lv_aload_n hx hb dX9_three_17 rfl (lv_at hl 0 rfl) ?_
  refine va_get (D := D) (ci := 9) (v := .long msumWA) (C := RX9) (T := TX9) (N := 68) hx hb htb iX9 hown hK.1 hP 0 rfl rfl 22 (by decide) (htb _ k_980) (fun _ h9 => h9) rfl dX9_three_18 ?_
  refine lv_lmul hx hb dX9_three_21 ?_
  refine lv_topl (fun z_2 ez_2 => ?_)
  refine lv_lsub hx hb dX9_three_22 ?_
  refine lv_topl (fun z_3 ez_3 => ?_)
  refine lv_lmul hx hb dX9_three_23 ?_
  refine lv_topl (fun z_4 ez_4 => ?_)
  refine lv_aload_n hx hb dX9_three_24 rfl (lv_at hl 0 rfl) ?_
  refine va_get (D := D) (ci := 9) (v := .long msumW) (C := RX9) (T := TX9) (N := 68) hx hb htb iX9 hown hK.1 hP 0 rfl rfl 18 (by decide) (htb _ k_976) (fun _ h9 => h9) rfl dX9_three_25 ?_
  refine lv_aload_n hx hb dX9_three_28 rfl (lv_at hl 0 rfl) ?_
  refine va_get (D := D) (ci := 9) (v := .long msumW) (C := RX9) (T := TX9) (N := 68) hx hb htb iX9 hown hK.1 hP 0 rfl rfl 18 (by decide) (htb _ k_976) (fun _ h9 => h9) rfl dX9_three_29 ?_
  refine lv_aload_n hx hb dX9_three_32 rfl (lv_at hl 0 rfl) ?_
  refine va_get (D := D) (ci := 9) (v := .long msumAA) (C := RX9) (T := TX9) (N := 68) hx hb htb iX9 hown hK.1 hP 0 rfl rfl 23 (by decide) (htb _ k_981) (fun _ h9 => h9) rfl dX9_three_33 ?_
  refine lv_lmul hx hb dX9_three_36 ?_
  refine lv_topl (fun z_5 ez_5 => ?_)
  refine lv_aload_n hx hb dX9_three_37 rfl (lv_at hl 0 rfl) ?_
  refine va_get (D := D) (ci := 9) (v := .long msumWA) (C := RX9) (T := TX9) (N := 68) hx hb htb iX9 hown hK.1 hP 0 rfl rfl 22 (by decide) (htb _ k_980) (fun _ h9 => h9) rfl dX9_three_38 ?_
  refine lv_aload_n hx hb dX9_three_41 rfl (lv_at hl 0 rfl) ?_
  refine va_get (D := D) (ci := 9) (v := .long msumA) (C := RX9) (T := TX9) (N := 68) hx hb htb iX9 hown hK.1 hP 0 rfl rfl 19 (by decide) (htb _ k_977) (fun _ h9 => h9) rfl dX9_three_42 ?_
  refine lv_lmul hx hb dX9_three_45 ?_
  refine lv_topl (fun z_6 ez_6 => ?_)
  refine lv_lsub hx hb dX9_three_46 ?_
  refine lv_topl (fun z_7 ez_7 => ?_)
  refine lv_lmul hx hb dX9_three_47 ?_
  refine lv_topl (fun z_8 ez_8 => ?_)
  refine lv_lsub hx hb dX9_three_48 ?_
  refine lv_topl (fun z_9 ez_9 => ?_)
  refine lv_aload_n hx hb dX9_three_49 rfl (lv_at hl 0 rfl) ?_
  refine va_get (D := D) (ci := 9) (v := .long msumA) (C := RX9) (T := TX9) (N := 68) hx hb htb iX9 hown hK.1 hP 0 rfl rfl 19 (by decide) (htb _ k_977) (fun _ h9 => h9) rfl dX9_three_50 ?_
  refine lv_aload_n hx hb dX9_three_53 rfl (lv_at hl 0 rfl) ?_
  refine va_get (D := D) (ci := 9) (v := .long msumW) (C := RX9) (T := TX9) (N := 68) hx hb htb iX9 hown hK.1 hP 0 rfl rfl 18 (by decide) (htb _ k_976) (fun _ h9 => h9) rfl dX9_three_54 ?_
  refine lv_aload_n hx hb dX9_three_57 rfl (lv_at hl 0 rfl) ?_
  refine va_get (D := D) (ci := 9) (v := .long msumWA) (C := RX9) (T := TX9) (N := 68) hx hb htb iX9 hown hK.1 hP 0 rfl rfl 22 (by decide) (htb _ k_980) (fun _ h9 => h9) rfl dX9_three_58 ?_
  refine lv_lmul hx hb dX9_three_61 ?_
  refine lv_topl (fun z_10 ez_10 => ?_)
  refine lv_aload_n hx hb dX9_three_62 rfl (lv_at hl 0 rfl) ?_
  refine va_get (D := D) (ci := 9) (v := .long msumWW) (C := RX9) (T := TX9) (N := 68) hx hb htb iX9 hown hK.1 hP 0 rfl rfl 21 (by decide) (htb _ k_979) (fun _ h9 => h9) rfl dX9_three_63 ?_
  refine lv_aload_n hx hb dX9_three_66 rfl (lv_at hl 0 rfl) ?_
  refine va_get (D := D) (ci := 9) (v := .long msumA) (C := RX9) (T := TX9) (N := 68) hx hb htb iX9 hown hK.1 hP 0 rfl rfl 19 (by decide) (htb _ k_977) (fun _ h9 => h9) rfl dX9_three_67 ?_
  refine lv_lmul hx hb dX9_three_70 ?_
  refine lv_topl (fun z_11 ez_11 => ?_)
  refine lv_lsub hx hb dX9_three_71 ?_
  refine lv_topl (fun z_12 ez_12 => ?_)
  refine lv_lmul hx hb dX9_three_72 ?_
  refine lv_topl (fun z_13 ez_13 => ?_)
  refine lv_ladd hx hb dX9_three_73 ?_
  refine lv_topl (fun z_14 ez_14 => ?_)
  exact W.lret (v := z_14) hx hb hr (fun t ht hW => ⟨z_14, rfl, (by subst_vars; rfl), ht⟩) (fun q h => by cases h) dX9_three_74
set_option maxHeartbeats 4000000 in
set_option maxRecDepth 100000 in
theorem g_X9_two (l : Launch) (D : va_G) (E : Nat → Nat) (mh : Nat) (ma : Nat → Nat) (mcode : Int32) (mtoday : Int32) (moffs : Int32) (mmany : Int64) (msumW : Int64) (msumA : Int64) (msumR : Int64) (msumWW : Int64) (msumWA : Int64) (msumAA : Int64) (msumWR : Int64) (msumAR : Int64) (mupper : Int64) (mlower : Int64) (mrates : Int32) (mtaped : Int32) (mlaid : Int32) (mat : Int32) (mtk : Int32) (mtkAt : Int32) (mtkNumber : Int32) (mwaits : Int32) (mlisted : Int32) (mdealtMany : Int32) (p0 : Int64) (p1 : Int64) (hi_m : (0 ≤ mtoday.toInt ∧ mtoday.toInt ≤ 399) ∧ (0 ≤ moffs.toInt ∧ moffs.toInt ≤ 60) ∧ (0 ≤ mrates.toInt ∧ mrates.toInt ≤ 60) ∧ (0 ≤ mtaped.toInt ∧ mtaped.toInt ≤ 120) ∧ (0 ≤ mlisted.toInt ∧ mlisted.toInt ≤ 9) ∧ (0 ≤ mdealtMany.toInt ∧ mdealtMany.toInt ≤ 9)) : Met l yX9_two (wl yX9_two cX9_two 5 (some .long)) (RM 0 0 0) (rd_P D E [.ref mh, .long p0, .long p1] [(mh, .inr (9, G9 ma mcode mtoday moffs mmany msumW msumA msumR msumWW msumWA msumAA msumWR msumAR mupper mlower mrates mtaped mlaid mat mtk mtkAt mtkNumber mwaits mlisted mdealtMany))]) (rl_Q (fun r => (r = twoF mmany p0 p1))) 0 0 (fun _ => False) := by
  refine Met.ofW (cc := cX9_two) (maxL := 5) (ret := (some .long)) (by decide) rfl ?_
  intro p e s m args below meth c s₁ B hml hv
  obtain ⟨rfl, hP, hK⟩ := hv
  have hx := B.exec; have hb := B.bytes; have hr := B.returns
  have hts := atoms_spec (ws := wl yX9_two cX9_two 5 (some .long)) B.pre
  have htb : ∀ w ∈ tb, w.before _ s = true := fun w h => hts w (List.mem_cons_of_mem _ h)
  have hown : s.vm.findClass RX9 = some m.cls := findClass_of_methodNamed B.named
  have hlocks := B.notSynchronized
  have hP : va_P D vwCl [(mh, .inr (9, G9 ma mcode mtoday moffs mmany msumW msumA msumR msumWW msumWA msumAA msumWR msumAR mupper mlower mrates mtaped mlaid mat mtk mtkAt mtkNumber mwaits mlisted mdealtMany))] s.heap := hP
  have hl := lv_entry ([.ref mh, .long p0, .long p1]) (n := 5) (Nat.le_of_ble_eq_true rfl)
  rw [lg_entry_eq]
  generalize (lg_sl ([.ref mh, .long p0, .long p1]) ++ List.replicate (5 - (lg_sl ([.ref mh, .long p0, .long p1])).length) Slot.unset).toArray = ls at hl ⊢
  have hl : lv_has ls 5 [(0, .ref mh), (1, .long p0), (3, .long p1)] := hl
  refine lv_aload_n hx hb dX9_two_0 rfl (lv_at hl 0 rfl) ?_
  refine va_get (D := D) (ci := 9) (v := .long mmany) (C := RX9) (T := TX9) (N := 68) hx hb htb iX9 hown hK.1 hP 0 rfl rfl 17 (by decide) (htb _ k_975) (fun _ h9 => h9) rfl dX9_two_1 ?_
  refine lv_lload_n hx hb dX9_two_4 rfl (lv_at hl 2 rfl) ?_
  refine lv_lmul hx hb dX9_two_5 ?_
  refine lv_topl (fun z_1 ez_1 => ?_)
  refine lv_lload_n hx hb dX9_two_6 rfl (lv_at hl 1 rfl) ?_
  refine lv_lload_n hx hb dX9_two_7 rfl (lv_at hl 1 rfl) ?_
  refine lv_lmul hx hb dX9_two_8 ?_
  refine lv_topl (fun z_2 ez_2 => ?_)
  refine lv_lsub hx hb dX9_two_9 ?_
  refine lv_topl (fun z_3 ez_3 => ?_)
  exact W.lret (v := z_3) hx hb hr (fun t ht hW => ⟨z_3, rfl, (by subst_vars; rfl), ht⟩) (fun q h => by cases h) dX9_two_10
set_option maxHeartbeats 4000000 in
set_option maxRecDepth 100000 in
theorem g_X9_termsNow (l : Launch) (D : va_G) (E : Nat → Nat) (mh : Nat) (ma : Nat → Nat) (mcode : Int32) (mtoday : Int32) (moffs : Int32) (mmany : Int64) (msumW : Int64) (msumA : Int64) (msumR : Int64) (msumWW : Int64) (msumWA : Int64) (msumAA : Int64) (msumWR : Int64) (msumAR : Int64) (mupper : Int64) (mlower : Int64) (mrates : Int32) (mtaped : Int32) (mlaid : Int32) (mat : Int32) (mtk : Int32) (mtkAt : Int32) (mtkNumber : Int32) (mwaits : Int32) (mlisted : Int32) (mdealtMany : Int32) (hi_m : (0 ≤ mtoday.toInt ∧ mtoday.toInt ≤ 399) ∧ (0 ≤ moffs.toInt ∧ moffs.toInt ≤ 60) ∧ (0 ≤ mrates.toInt ∧ mrates.toInt ≤ 60) ∧ (0 ≤ mtaped.toInt ∧ mtaped.toInt ≤ 120) ∧ (0 ≤ mlisted.toInt ∧ mlisted.toInt ≤ 9) ∧ (0 ≤ mdealtMany.toInt ∧ mdealtMany.toInt ≤ 9)) : Met l yX9_termsNow (wl yX9_termsNow cX9_termsNow 1 (some .int)) (RM 1 0 0) (rd_P D E [.ref mh] [(mh, .inr (9, G9 ma mcode mtoday moffs mmany msumW msumA msumR msumWW msumWA msumAA msumWR msumAR mupper mlower mrates mtaped mlaid mat mtk mtkAt mtkNumber mwaits mlisted mdealtMany))]) (rd_Q (fun r => ((r = 3 ∧ ¬ thrF mmany msumW msumA msumWW msumWA msumAA = 0) ∨ (r = 2 ∧ (thrF mmany msumW msumA msumWW msumWA msumAA = 0 ∧ ¬ twoF mmany msumW msumWW = 0)) ∨ (r = 4 ∧ (thrF mmany msumW msumA msumWW msumWA msumAA = 0 ∧ twoF mmany msumW msumWW = 0 ∧ ¬ twoF mmany msumA msumAA = 0)) ∨ (r = 1 ∧ (thrF mmany msumW msumA msumWW msumWA msumAA = 0 ∧ twoF mmany msumW msumWW = 0 ∧ twoF mmany msumA msumAA = 0))))) 0 0 (fun _ => False) := by
  refine Met.ofW (cc := cX9_termsNow) (maxL := 1) (ret := (some .int)) (by decide) rfl ?_
  intro p e s m args below meth c s₁ B hml hv
  obtain ⟨rfl, hP, hK⟩ := hv
  have hx := B.exec; have hb := B.bytes; have hr := B.returns
  have hts := atoms_spec (ws := wl yX9_termsNow cX9_termsNow 1 (some .int)) B.pre
  have htb : ∀ w ∈ tb, w.before _ s = true := fun w h => hts w (List.mem_cons_of_mem _ h)
  have hown : s.vm.findClass RX9 = some m.cls := findClass_of_methodNamed B.named
  have hlocks := B.notSynchronized
  have hP : va_P D vwCl [(mh, .inr (9, G9 ma mcode mtoday moffs mmany msumW msumA msumR msumWW msumWA msumAA msumWR msumAR mupper mlower mrates mtaped mlaid mat mtk mtkAt mtkNumber mwaits mlisted mdealtMany))] s.heap := hP
  have hl := lv_entry ([.ref mh]) (n := 1) (Nat.le_of_ble_eq_true rfl)
  rw [lg_entry_eq]
  generalize (lg_sl ([.ref mh]) ++ List.replicate (1 - (lg_sl ([.ref mh])).length) Slot.unset).toArray = ls at hl ⊢
  have hl : lv_has ls 1 [(0, .ref mh)] := hl
  refine lv_aload_n hx hb dX9_termsNow_0 rfl (lv_at hl 0 rfl) ?_
  refine callLV (rest := []) (As := []) hx hb hml hown htb hK (g_X9_three l D E mh ma mcode mtoday moffs mmany msumW msumA msumR msumWW msumWA msumAA msumWR msumAR mupper mlower mrates mtaped mlaid mat mtk mtkAt mtkNumber mwaits mlisted mdealtMany (by (try dsimp only); omega)) ok_X9_three k_1291 k_1293 ks_49 k_9 k_1294 ⟨(Nat.le_of_ble_eq_true rfl), (Nat.le_of_ble_eq_true rfl)⟩ ⟨(Nat.le_of_ble_eq_true rfl), (Nat.le_of_ble_eq_true rfl)⟩ hl.1 (Nat.le_of_ble_eq_true rfl) rfl rfl dX9_termsNow_1 (hP.sub (ws' := [(mh, .inr (9, G9 ma mcode mtoday moffs mmany msumW msumA msumR msumWW msumWA msumAA msumWR msumAR mupper mlower mrates mtaped mlaid mat mtk mtkAt mtkNumber mwaits mlisted mdealtMany))]) [0] rfl) rfl rfl 0 rfl (fun r_1 hw_2 => ?_)
  refine lv_lconst (v := 0) hx hb dX9_termsNow_4 (by decide) ?_
  refine W.lcmp hx hb dX9_termsNow_5 ?_
  refine lv_topi (fun z_4 ez_4 => ?_)
  refine lv_if_eq (tgt := 13) hx hb dX9_termsNow_6 (by decide) (fun c_5 => ?_) (fun c_5 => ?_)
  ·
    have lc_6 : (r_1 : Int64) = (0 : Int64) := lc_eq (by rw [← ez_4]; exact c_5)
    refine lv_aload_n hx hb dX9_termsNow_13 rfl (lv_at hl 0 rfl) ?_
    refine lv_aload_n hx hb dX9_termsNow_14 rfl (lv_at hl 0 rfl) ?_
    refine va_get (D := D) (ci := 9) (v := .long msumW) (C := RX9) (T := TX9) (N := 68) hx hb htb iX9 hown hK.1 hP 0 rfl rfl 18 (by decide) (htb _ k_976) (fun _ h9 => h9) rfl dX9_termsNow_15 ?_
    refine lv_aload_n hx hb dX9_termsNow_18 rfl (lv_at hl 0 rfl) ?_
    refine va_get (D := D) (ci := 9) (v := .long msumWW) (C := RX9) (T := TX9) (N := 68) hx hb htb iX9 hown hK.1 hP 0 rfl rfl 21 (by decide) (htb _ k_979) (fun _ h9 => h9) rfl dX9_termsNow_19 ?_
    refine callLV (rest := []) (As := [.long msumW, .long msumWW]) hx hb hml hown htb hK (g_X9_two l D E mh ma mcode mtoday moffs mmany msumW msumA msumR msumWW msumWA msumAA msumWR msumAR mupper mlower mrates mtaped mlaid mat mtk mtkAt mtkNumber mwaits mlisted mdealtMany msumW msumWW (by (try dsimp only); omega)) ok_X9_two k_1295 k_1297 ks_50 k_9 k_1298 ⟨(Nat.le_of_ble_eq_true rfl), (Nat.le_of_ble_eq_true rfl)⟩ ⟨(Nat.le_of_ble_eq_true rfl), (Nat.le_of_ble_eq_true rfl)⟩ hl.1 (Nat.le_of_ble_eq_true rfl) rfl rfl dX9_termsNow_22 (hP.sub (ws' := [(mh, .inr (9, G9 ma mcode mtoday moffs mmany msumW msumA msumR msumWW msumWA msumAA msumWR msumAR mupper mlower mrates mtaped mlaid mat mtk mtkAt mtkNumber mwaits mlisted mdealtMany))]) [0] rfl) rfl rfl 0 rfl (fun r_7 hw_8 => ?_)
    refine lv_lconst (v := 0) hx hb dX9_termsNow_25 (by decide) ?_
    refine W.lcmp hx hb dX9_termsNow_26 ?_
    refine lv_topi (fun z_10 ez_10 => ?_)
    refine lv_if_eq (tgt := 34) hx hb dX9_termsNow_27 (by decide) (fun c_11 => ?_) (fun c_11 => ?_)
    ·
      have lc_12 : (r_7 : Int64) = (0 : Int64) := lc_eq (by rw [← ez_10]; exact c_11)
      refine lv_aload_n hx hb dX9_termsNow_34 rfl (lv_at hl 0 rfl) ?_
      refine lv_aload_n hx hb dX9_termsNow_35 rfl (lv_at hl 0 rfl) ?_
      refine va_get (D := D) (ci := 9) (v := .long msumA) (C := RX9) (T := TX9) (N := 68) hx hb htb iX9 hown hK.1 hP 0 rfl rfl 19 (by decide) (htb _ k_977) (fun _ h9 => h9) rfl dX9_termsNow_36 ?_
      refine lv_aload_n hx hb dX9_termsNow_39 rfl (lv_at hl 0 rfl) ?_
      refine va_get (D := D) (ci := 9) (v := .long msumAA) (C := RX9) (T := TX9) (N := 68) hx hb htb iX9 hown hK.1 hP 0 rfl rfl 23 (by decide) (htb _ k_981) (fun _ h9 => h9) rfl dX9_termsNow_40 ?_
      refine callLV (rest := []) (As := [.long msumA, .long msumAA]) hx hb hml hown htb hK (g_X9_two l D E mh ma mcode mtoday moffs mmany msumW msumA msumR msumWW msumWA msumAA msumWR msumAR mupper mlower mrates mtaped mlaid mat mtk mtkAt mtkNumber mwaits mlisted mdealtMany msumA msumAA (by (try dsimp only); omega)) ok_X9_two k_1295 k_1297 ks_50 k_9 k_1298 ⟨(Nat.le_of_ble_eq_true rfl), (Nat.le_of_ble_eq_true rfl)⟩ ⟨(Nat.le_of_ble_eq_true rfl), (Nat.le_of_ble_eq_true rfl)⟩ hl.1 (Nat.le_of_ble_eq_true rfl) rfl rfl dX9_termsNow_43 (hP.sub (ws' := [(mh, .inr (9, G9 ma mcode mtoday moffs mmany msumW msumA msumR msumWW msumWA msumAA msumWR msumAR mupper mlower mrates mtaped mlaid mat mtk mtkAt mtkNumber mwaits mlisted mdealtMany))]) [0] rfl) rfl rfl 0 rfl (fun r_13 hw_14 => ?_)
      refine lv_lconst (v := 0) hx hb dX9_termsNow_46 (by decide) ?_
      refine W.lcmp hx hb dX9_termsNow_47 ?_
      refine lv_topi (fun z_16 ez_16 => ?_)
      refine lv_if_eq (tgt := 55) hx hb dX9_termsNow_48 (by decide) (fun c_17 => ?_) (fun c_17 => ?_)
      ·
        have lc_18 : (r_13 : Int64) = (0 : Int64) := lc_eq (by rw [← ez_16]; exact c_17)
        refine lv_iconst (v := 1) hx hb dX9_termsNow_55 (by decide) ?_
        exact W.iret (v := 1) hx hb hr (fun t ht hW => ⟨1, rfl, (by subst_vars; first | exact Or.inl ⟨by decide, by assumption⟩ | exact Or.inr (Or.inl ⟨by decide, by assumption, by assumption⟩) | exact Or.inr (Or.inr (Or.inl ⟨by decide, by assumption, by assumption, by assumption⟩)) | exact Or.inr (Or.inr (Or.inr ⟨by decide, by assumption, by assumption, by assumption⟩))), ht⟩) (fun q h => by cases h) dX9_termsNow_56
      ·
        have lc_19 : ¬ (r_13 : Int64) = (0 : Int64) := lc_ne (by rw [← ez_16]; exact c_17)
        refine lv_iconst (v := 4) hx hb dX9_termsNow_51 (by decide) ?_
        refine lv_goto (tgt := 56) hx hb dX9_termsNow_52 (by decide) ?_
        exact W.iret (v := 4) hx hb hr (fun t ht hW => ⟨4, rfl, (by subst_vars; first | exact Or.inl ⟨by decide, by assumption⟩ | exact Or.inr (Or.inl ⟨by decide, by assumption, by assumption⟩) | exact Or.inr (Or.inr (Or.inl ⟨by decide, by assumption, by assumption, by assumption⟩)) | exact Or.inr (Or.inr (Or.inr ⟨by decide, by assumption, by assumption, by assumption⟩))), ht⟩) (fun q h => by cases h) dX9_termsNow_56
    ·
      have lc_20 : ¬ (r_7 : Int64) = (0 : Int64) := lc_ne (by rw [← ez_10]; exact c_11)
      refine lv_iconst (v := 2) hx hb dX9_termsNow_30 (by decide) ?_
      refine lv_goto (tgt := 56) hx hb dX9_termsNow_31 (by decide) ?_
      exact W.iret (v := 2) hx hb hr (fun t ht hW => ⟨2, rfl, (by subst_vars; first | exact Or.inl ⟨by decide, by assumption⟩ | exact Or.inr (Or.inl ⟨by decide, by assumption, by assumption⟩) | exact Or.inr (Or.inr (Or.inl ⟨by decide, by assumption, by assumption, by assumption⟩)) | exact Or.inr (Or.inr (Or.inr ⟨by decide, by assumption, by assumption, by assumption⟩))), ht⟩) (fun q h => by cases h) dX9_termsNow_56
  ·
    have lc_21 : ¬ (r_1 : Int64) = (0 : Int64) := lc_ne (by rw [← ez_4]; exact c_5)
    refine lv_iconst (v := 3) hx hb dX9_termsNow_9 (by decide) ?_
    refine lv_goto (tgt := 56) hx hb dX9_termsNow_10 (by decide) ?_
    exact W.iret (v := 3) hx hb hr (fun t ht hW => ⟨3, rfl, (by subst_vars; first | exact Or.inl ⟨by decide, by assumption⟩ | exact Or.inr (Or.inl ⟨by decide, by assumption, by assumption⟩) | exact Or.inr (Or.inr (Or.inl ⟨by decide, by assumption, by assumption, by assumption⟩)) | exact Or.inr (Or.inr (Or.inr ⟨by decide, by assumption, by assumption, by assumption⟩))), ht⟩) (fun q h => by cases h) dX9_termsNow_56
set_option maxHeartbeats 4000000 in
set_option maxRecDepth 100000 in
theorem g_X9_law (l : Launch) (D : va_G) (E : Nat → Nat) (mh : Nat) (ma : Nat → Nat) (mcode : Int32) (mtoday : Int32) (moffs : Int32) (mmany : Int64) (msumW : Int64) (msumA : Int64) (msumR : Int64) (msumWW : Int64) (msumWA : Int64) (msumAA : Int64) (msumWR : Int64) (msumAR : Int64) (mupper : Int64) (mlower : Int64) (mrates : Int32) (mtaped : Int32) (mlaid : Int32) (mat : Int32) (mtk : Int32) (mtkAt : Int32) (mtkNumber : Int32) (mwaits : Int32) (mlisted : Int32) (mdealtMany : Int32) (mf2 : Nat → Int32) (mf3 : Nat → Int32) (mf4 : Nat → Int32) (mf5 : Nat → Int32) (mf6 : Nat → Int32) (mf7 : Nat → Int32) (mf8 : Nat → Int32) (mf9 : Nat → Int32) (mf12 : Nat → Int32) (mf13 : Nat → Int32) (mf14 : Nat → Int32) (mf15 : Nat → Int32) (mf16 : Nat → Int32) (p0 : Int32) (p1 : Int32) (p2 : Int32) (sz : Nat) (hi_m : (0 ≤ mtoday.toInt ∧ mtoday.toInt ≤ 399) ∧ (0 ≤ moffs.toInt ∧ moffs.toInt ≤ 60) ∧ (0 ≤ mrates.toInt ∧ mrates.toInt ≤ 60) ∧ (0 ≤ mtaped.toInt ∧ mtaped.toInt ≤ 120) ∧ (0 ≤ mlisted.toInt ∧ mlisted.toInt ≤ 9) ∧ (0 ≤ mdealtMany.toInt ∧ mdealtMany.toInt ≤ 9)) : Met l yX9_law (wl yX9_law cX9_law 5 (some .int)) (RM 4 0 0) (mu_P D E [.ref mh, .int p0, .int p1, .int p2] [(mh, .inr (9, G9 ma mcode mtoday moffs mmany msumW msumA msumR msumWW msumWA msumAA msumWR msumAR mupper mlower mrates mtaped mlaid mat mtk mtkAt mtkNumber mwaits mlisted mdealtMany)), ((ma 2), .inl (E 0, 400, .inl mf2)), ((ma 3), .inl (E 0, 16, .inl mf3)), ((ma 4), .inl (E 0, 16, .inl mf4)), ((ma 5), .inl (E 1, 6400, .inl mf5)), ((ma 6), .inl (E 0, 6400, .inl mf6)), ((ma 7), .inl (E 0, 6400, .inl mf7)), ((ma 8), .inl (E 1, 6400, .inl mf8)), ((ma 9), .inl (E 1, 6400, .inl mf9)), ((ma 12), .inl (E 0, 60, .inl mf12)), ((ma 13), .inl (E 0, 60, .inl mf13)), ((ma 14), .inl (E 0, 60, .inl mf14)), ((ma 15), .inl (E 0, 60, .inl mf15)), ((ma 16), .inl (E 0, 60, .inl mf16))] sz) (va_Qi (fun (r : Int32) (u : (Int64) × (Int64) × (Int64) × (Int64) × (Int64) × (Int64) × (Int64) × (Int64) × (Int64)) => ((r.toInt = -1 ∧ ¬ ((0 ≤ p0.toInt ∧ p0.toInt ≤ 15) ∧ (0 ≤ p1.toInt ∧ p2.toInt ≤ 399 ∧ p1.toInt < p2.toInt ∧ p2.toInt - p1.toInt ≤ 60))) ∨ (((0 ≤ p0.toInt ∧ p0.toInt ≤ 15) ∧ (0 ≤ p1.toInt ∧ p2.toInt ≤ 399 ∧ p1.toInt < p2.toInt ∧ p2.toInt - p1.toInt ≤ 60)) ∧ (((mf3 (p0).toNatClampNeg).toInt = -5 ∧ r.toInt = -2) ∨ ((mf3 (p0).toNatClampNeg).toInt = 2 ∧ r.toInt = -3))) ∨ (((0 ≤ p0.toInt ∧ p0.toInt ≤ 15) ∧ (0 ≤ p1.toInt ∧ p2.toInt ≤ 399 ∧ p1.toInt < p2.toInt ∧ p2.toInt - p1.toInt ≤ 60)) ∧ ((mf3 (p0).toNatClampNeg).toInt ≠ -5 ∧ (mf3 (p0).toNatClampNeg).toInt ≠ 2) ∧ r = (fold9 (fun d => wmF mf3 mf4 mf2 p0 d) (fun d => agI mf8 (400 * p0.toInt).toNat d) (-1000) (rateL (fun d => ratF mf5 mf6 mf7 mf8 mf9 mf12 mf13 mf14 mf15 mf16 moffs p0 d (-1)) p1 (p2.toInt - p1.toInt).toNat)).1.toInt32))) (mu_B D (va_A [(mh, .inr (9, G9 ma mcode mtoday moffs mmany msumW msumA msumR msumWW msumWA msumAA msumWR msumAR mupper mlower mrates mtaped mlaid mat mtk mtkAt mtkNumber mwaits mlisted mdealtMany)), ((ma 2), .inl (E 0, 400, .inl mf2)), ((ma 3), .inl (E 0, 16, .inl mf3)), ((ma 4), .inl (E 0, 16, .inl mf4)), ((ma 5), .inl (E 1, 6400, .inl mf5)), ((ma 6), .inl (E 0, 6400, .inl mf6)), ((ma 7), .inl (E 0, 6400, .inl mf7)), ((ma 8), .inl (E 1, 6400, .inl mf8)), ((ma 9), .inl (E 1, 6400, .inl mf9)), ((ma 12), .inl (E 0, 60, .inl mf12)), ((ma 13), .inl (E 0, 60, .inl mf13)), ((ma 14), .inl (E 0, 60, .inl mf14)), ((ma 15), .inl (E 0, 60, .inl mf15)), ((ma 16), .inl (E 0, 60, .inl mf16))] sz) (fun (u : (Int64) × (Int64) × (Int64) × (Int64) × (Int64) × (Int64) × (Int64) × (Int64) × (Int64)) => [(mh, .inr (9, G9 ma mcode mtoday moffs u.1 u.2.2.2.2.2.1 u.2.1 u.2.2.2.2.1 u.2.2.2.2.2.2.2.2 u.2.2.2.2.2.2.1 u.2.2.1 u.2.2.2.2.2.2.2.1 u.2.2.2.1 mupper mlower mrates mtaped mlaid mat mtk mtkAt mtkNumber mwaits mlisted mdealtMany)), ((ma 2), .inl (E 0, 400, .inl mf2)), ((ma 3), .inl (E 0, 16, .inl mf3)), ((ma 4), .inl (E 0, 16, .inl mf4)), ((ma 5), .inl (E 1, 6400, .inl mf5)), ((ma 6), .inl (E 0, 6400, .inl mf6)), ((ma 7), .inl (E 0, 6400, .inl mf7)), ((ma 8), .inl (E 1, 6400, .inl mf8)), ((ma 9), .inl (E 1, 6400, .inl mf9)), ((ma 12), .inl (E 0, 60, .inl mf12)), ((ma 13), .inl (E 0, 60, .inl mf13)), ((ma 14), .inl (E 0, 60, .inl mf14)), ((ma 15), .inl (E 0, 60, .inl mf15)), ((ma 16), .inl (E 0, 60, .inl mf16))])) (va_A [(mh, .inr (9, G9 ma mcode mtoday moffs mmany msumW msumA msumR msumWW msumWA msumAA msumWR msumAR mupper mlower mrates mtaped mlaid mat mtk mtkAt mtkNumber mwaits mlisted mdealtMany)), ((ma 2), .inl (E 0, 400, .inl mf2)), ((ma 3), .inl (E 0, 16, .inl mf3)), ((ma 4), .inl (E 0, 16, .inl mf4)), ((ma 5), .inl (E 1, 6400, .inl mf5)), ((ma 6), .inl (E 0, 6400, .inl mf6)), ((ma 7), .inl (E 0, 6400, .inl mf7)), ((ma 8), .inl (E 1, 6400, .inl mf8)), ((ma 9), .inl (E 1, 6400, .inl mf9)), ((ma 12), .inl (E 0, 60, .inl mf12)), ((ma 13), .inl (E 0, 60, .inl mf13)), ((ma 14), .inl (E 0, 60, .inl mf14)), ((ma 15), .inl (E 0, 60, .inl mf15)), ((ma 16), .inl (E 0, 60, .inl mf16))] sz)) 0 0 (va_A [(mh, .inr (9, G9 ma mcode mtoday moffs mmany msumW msumA msumR msumWW msumWA msumAA msumWR msumAR mupper mlower mrates mtaped mlaid mat mtk mtkAt mtkNumber mwaits mlisted mdealtMany)), ((ma 2), .inl (E 0, 400, .inl mf2)), ((ma 3), .inl (E 0, 16, .inl mf3)), ((ma 4), .inl (E 0, 16, .inl mf4)), ((ma 5), .inl (E 1, 6400, .inl mf5)), ((ma 6), .inl (E 0, 6400, .inl mf6)), ((ma 7), .inl (E 0, 6400, .inl mf7)), ((ma 8), .inl (E 1, 6400, .inl mf8)), ((ma 9), .inl (E 1, 6400, .inl mf9)), ((ma 12), .inl (E 0, 60, .inl mf12)), ((ma 13), .inl (E 0, 60, .inl mf13)), ((ma 14), .inl (E 0, 60, .inl mf14)), ((ma 15), .inl (E 0, 60, .inl mf15)), ((ma 16), .inl (E 0, 60, .inl mf16))] sz) := by
  refine Met.ofW (cc := cX9_law) (maxL := 5) (ret := (some .int)) (by decide) rfl ?_
  intro p e s m args below meth c s₁ B hml hv
  obtain ⟨rfl, hsz, hP, hK, hD0⟩ := hv
  have hx := B.exec; have hb := B.bytes; have hr := B.returns
  have hts := atoms_spec (ws := wl yX9_law cX9_law 5 (some .int)) B.pre
  have htb : ∀ w ∈ tb, w.before _ s = true := fun w h => hts w (List.mem_cons_of_mem _ h)
  have hown : s.vm.findClass RX9 = some m.cls := findClass_of_methodNamed B.named
  have hlocks := B.notSynchronized
  subst hsz
  have hD := hD0.self (sz := s.heap.size)
  generalize hAe : va_A [(mh, .inr (9, G9 ma mcode mtoday moffs mmany msumW msumA msumR msumWW msumWA msumAA msumWR msumAR mupper mlower mrates mtaped mlaid mat mtk mtkAt mtkNumber mwaits mlisted mdealtMany)), ((ma 2), .inl (E 0, 400, .inl mf2)), ((ma 3), .inl (E 0, 16, .inl mf3)), ((ma 4), .inl (E 0, 16, .inl mf4)), ((ma 5), .inl (E 1, 6400, .inl mf5)), ((ma 6), .inl (E 0, 6400, .inl mf6)), ((ma 7), .inl (E 0, 6400, .inl mf7)), ((ma 8), .inl (E 1, 6400, .inl mf8)), ((ma 9), .inl (E 1, 6400, .inl mf9)), ((ma 12), .inl (E 0, 60, .inl mf12)), ((ma 13), .inl (E 0, 60, .inl mf13)), ((ma 14), .inl (E 0, 60, .inl mf14)), ((ma 15), .inl (E 0, 60, .inl mf15)), ((ma 16), .inl (E 0, 60, .inl mf16))] s.heap.size = A at hD ⊢
  have hA : ∀ q : Nat, s.heap.size ≤ q → A q := fun q h => by rw [← hAe]; exact Or.inr h
  have hS : va_S A s.heap s.heap [] := va_S.rf
  have hP : va_P D vwCl [(mh, .inr (9, G9 ma mcode mtoday moffs mmany msumW msumA msumR msumWW msumWA msumAA msumWR msumAR mupper mlower mrates mtaped mlaid mat mtk mtkAt mtkNumber mwaits mlisted mdealtMany)), ((ma 2), .inl (E 0, 400, .inl mf2)), ((ma 3), .inl (E 0, 16, .inl mf3)), ((ma 4), .inl (E 0, 16, .inl mf4)), ((ma 5), .inl (E 1, 6400, .inl mf5)), ((ma 6), .inl (E 0, 6400, .inl mf6)), ((ma 7), .inl (E 0, 6400, .inl mf7)), ((ma 8), .inl (E 1, 6400, .inl mf8)), ((ma 9), .inl (E 1, 6400, .inl mf9)), ((ma 12), .inl (E 0, 60, .inl mf12)), ((ma 13), .inl (E 0, 60, .inl mf13)), ((ma 14), .inl (E 0, 60, .inl mf14)), ((ma 15), .inl (E 0, 60, .inl mf15)), ((ma 16), .inl (E 0, 60, .inl mf16))] s.heap := hP
  have hl := lv_entry ([.ref mh, .int p0, .int p1, .int p2]) (n := 5) (Nat.le_of_ble_eq_true rfl)
  rw [lg_entry_eq]
  generalize (lg_sl ([.ref mh, .int p0, .int p1, .int p2]) ++ List.replicate (5 - (lg_sl ([.ref mh, .int p0, .int p1, .int p2])).length) Slot.unset).toArray = ls at hl ⊢
  have hl : lv_has ls 5 [(0, .ref mh), (1, .int p0), (2, .int p1), (3, .int p2)] := hl
  have lo_p0 := i_lo p0; have hi_p0 := i_hi p0
  have lo_p1 := i_lo p1; have hi_p1 := i_hi p1
  have lo_p2 := i_lo p2; have hi_p2 := i_hi p2
  refine lv_aload_n hx hb dX9_law_0 rfl (lv_at hl 0 rfl) ?_
  refine lv_iload_n hx hb dX9_law_1 rfl (lv_at hl 1 rfl) ?_
  refine lv_iload_n hx hb dX9_law_2 rfl (lv_at hl 2 rfl) ?_
  refine lv_iload_n hx hb dX9_law_3 rfl (lv_at hl 3 rfl) ?_
  refine callRV (rest := []) (As := [.int p0, .int p1, .int p2]) hx hb hml hown htb hK (g_X9_asked l D E mh ma mcode mtoday moffs mmany msumW msumA msumR msumWW msumWA msumAA msumWR msumAR mupper mlower mrates mtaped mlaid mat mtk mtkAt mtkNumber mwaits mlisted mdealtMany mf3 p0 p1 p2 (by (try dsimp only); omega)) ok_X9_asked k_1269 k_1271 ks_45 k_9 k_1272 ⟨(Nat.le_of_ble_eq_true rfl), (Nat.le_of_ble_eq_true rfl)⟩ ⟨(Nat.le_of_ble_eq_true rfl), (Nat.le_of_ble_eq_true rfl)⟩ hl.1 (Nat.le_of_ble_eq_true rfl) rfl rfl dX9_law_4 (hP.sub (ws' := [(mh, .inr (9, G9 ma mcode mtoday moffs mmany msumW msumA msumR msumWW msumWA msumAA msumWR msumAR mupper mlower mrates mtaped mlaid mat mtk mtkAt mtkNumber mwaits mlisted mdealtMany)), ((ma 3), .inl (E 0, 16, .inl mf3))]) [0, 2] rfl) rfl rfl 0 rfl (fun r_1 hw_2 => ?_)
  refine lv_istore (lv' := [(4, .int r_1), (0, .ref mh), (1, .int p0), (2, .int p1), (3, .int p2)]) hx hb dX9_law_7 hl (by decide) rfl (fun ls hl => ?_)
  refine lv_iload hx hb dX9_law_9 (lv_at hl 0 rfl) ?_
  refine lv_if_ge (tgt := 17) hx hb dX9_law_11 (by decide) (fun c_4 => ?_) (fun c_4 => ?_)
  ·
    have ic_4 : 0 ≤ r_1.toInt := by first | exact (g_le t_0 rfl).mp c_4 | (have h := mt (g_lt rfl t_0).mpr c_4; omega)
    clear c_4
    refine lv_aload_n hx hb dX9_law_17 rfl (lv_at hl 1 rfl) ?_
    refine lv_iload_n hx hb dX9_law_18 rfl (lv_at hl 2 rfl) ?_
    refine lv_iload_n hx hb dX9_law_19 rfl (lv_at hl 3 rfl) ?_
    refine lv_iload_n hx hb dX9_law_20 rfl (lv_at hl 4 rfl) ?_
    have hPc := hP.sub (ws' := [(mh, .inr (9, G9 ma mcode mtoday moffs mmany msumW msumA msumR msumWW msumWA msumAA msumWR msumAR mupper mlower mrates mtaped mlaid mat mtk mtkAt mtkNumber mwaits mlisted mdealtMany)), ((ma 2), .inl (E 0, 400, .inl mf2)), ((ma 3), .inl (E 0, 16, .inl mf3)), ((ma 4), .inl (E 0, 16, .inl mf4)), ((ma 5), .inl (E 1, 6400, .inl mf5)), ((ma 6), .inl (E 0, 6400, .inl mf6)), ((ma 7), .inl (E 0, 6400, .inl mf7)), ((ma 8), .inl (E 1, 6400, .inl mf8)), ((ma 9), .inl (E 1, 6400, .inl mf9)), ((ma 12), .inl (E 0, 60, .inl mf12)), ((ma 13), .inl (E 0, 60, .inl mf13)), ((ma 14), .inl (E 0, 60, .inl mf14)), ((ma 15), .inl (E 0, 60, .inl mf15)), ((ma 16), .inl (E 0, 60, .inl mf16))]) [0, 1, 2, 3, 4, 5, 6, 7, 8, 9, 10, 11, 12, 13] rfl
    have hDc := hD.sub (ws' := [(mh, .inr (9, G9 ma mcode mtoday moffs mmany msumW msumA msumR msumWW msumWA msumAA msumWR msumAR mupper mlower mrates mtaped mlaid mat mtk mtkAt mtkNumber mwaits mlisted mdealtMany)), ((ma 2), .inl (E 0, 400, .inl mf2)), ((ma 3), .inl (E 0, 16, .inl mf3)), ((ma 4), .inl (E 0, 16, .inl mf4)), ((ma 5), .inl (E 1, 6400, .inl mf5)), ((ma 6), .inl (E 0, 6400, .inl mf6)), ((ma 7), .inl (E 0, 6400, .inl mf7)), ((ma 8), .inl (E 1, 6400, .inl mf8)), ((ma 9), .inl (E 1, 6400, .inl mf9)), ((ma 12), .inl (E 0, 60, .inl mf12)), ((ma 13), .inl (E 0, 60, .inl mf13)), ((ma 14), .inl (E 0, 60, .inl mf14)), ((ma 15), .inl (E 0, 60, .inl mf15)), ((ma 16), .inl (E 0, 60, .inl mf16))]) [0, 1, 2, 3, 4, 5, 6, 7, 8, 9, 10, 11, 12, 13] (by decide) rfl
    refine aft_v (runMV (rest := []) (As := [.int p0, .int p1, .int p2]) hx hb hml hown htb hK (g_X9_sumUp l D E mh ma mcode mtoday moffs mmany msumW msumA msumR msumWW msumWA msumAA msumWR msumAR mupper mlower mrates mtaped mlaid mat mtk mtkAt mtkNumber mwaits mlisted mdealtMany mf2 mf3 mf4 mf5 mf6 mf7 mf8 mf9 mf12 mf13 mf14 mf15 mf16 p0 p1 p2 _ (by (try dsimp only); omega) (by (try dsimp only); omega) (by (try dsimp only); omega)) ok_X9_sumUp k_1273 k_1275 ks_46 k_9 k_1276 ⟨(Nat.le_of_ble_eq_true rfl), (Nat.le_of_ble_eq_true rfl)⟩ ⟨(Nat.le_of_ble_eq_true rfl), (Nat.le_of_ble_eq_true rfl)⟩ hl.1 (Nat.le_of_ble_eq_true rfl) rfl rfl dX9_law_21 hPc hDc rfl rfl 0 rfl) hP hD hS hA [0, 1, 2, 3, 4, 5, 6, 7, 8, 9, 10, 11, 12, 13] [] (wr := ([] : va_W)) rfl rfl (by decide) (by decide) (fun u_7 H locs hw_6 hP hD hS => ?_)
    clear hPc hDc
    obtain ⟨w_8, w_9, w_10, w_11, w_12, w_13, w_14, w_15, w_16⟩ := u_7
    try dsimp only at hw_6
    have hP : va_P D vwCl [(mh, .inr (9, G9 ma mcode mtoday moffs w_8 w_13 w_9 w_12 w_16 w_14 w_10 w_15 w_11 mupper mlower mrates mtaped mlaid mat mtk mtkAt mtkNumber mwaits mlisted mdealtMany)), ((ma 2), .inl (E 0, 400, .inl mf2)), ((ma 3), .inl (E 0, 16, .inl mf3)), ((ma 4), .inl (E 0, 16, .inl mf4)), ((ma 5), .inl (E 1, 6400, .inl mf5)), ((ma 6), .inl (E 0, 6400, .inl mf6)), ((ma 7), .inl (E 0, 6400, .inl mf7)), ((ma 8), .inl (E 1, 6400, .inl mf8)), ((ma 9), .inl (E 1, 6400, .inl mf9)), ((ma 12), .inl (E 0, 60, .inl mf12)), ((ma 13), .inl (E 0, 60, .inl mf13)), ((ma 14), .inl (E 0, 60, .inl mf14)), ((ma 15), .inl (E 0, 60, .inl mf15)), ((ma 16), .inl (E 0, 60, .inl mf16))] H := hP
    have hD := toW hP hD rfl
    refine lv_aload_n hx hb dX9_law_24 rfl (lv_at hl 1 rfl) ?_
    refine va_get (D := D) (ci := 9) (v := .long w_8) (C := RX9) (T := TX9) (N := 68) hx hb htb iX9 hown hK.1 hP 0 rfl rfl 17 (by decide) (htb _ k_975) (fun _ h9 => h9) rfl dX9_law_25 ?_
    obtain ⟨z_17, ez_17⟩ : ∃ y : Int32, (w_8 : Int64).toInt32 = y := ⟨_, rfl⟩
    refine lv_l2i hx hb dX9_law_28 ez_17 ?_
    have hP9 := hP.sub (ws' := [(mh, .inr (9, G9 ma mcode mtoday moffs w_8 w_13 w_9 w_12 w_16 w_14 w_10 w_15 w_11 mupper mlower mrates mtaped mlaid mat mtk mtkAt mtkNumber mwaits mlisted mdealtMany)), ((ma 2), .inl (E 0, 400, .inl mf2)), ((ma 3), .inl (E 0, 16, .inl mf3)), ((ma 4), .inl (E 0, 16, .inl mf4)), ((ma 5), .inl (E 1, 6400, .inl mf5)), ((ma 6), .inl (E 0, 6400, .inl mf6)), ((ma 7), .inl (E 0, 6400, .inl mf7)), ((ma 8), .inl (E 1, 6400, .inl mf8)), ((ma 9), .inl (E 1, 6400, .inl mf9)), ((ma 12), .inl (E 0, 60, .inl mf12)), ((ma 13), .inl (E 0, 60, .inl mf13)), ((ma 14), .inl (E 0, 60, .inl mf14)), ((ma 15), .inl (E 0, 60, .inl mf15)), ((ma 16), .inl (E 0, 60, .inl mf16))]) [0, 1, 2, 3, 4, 5, 6, 7, 8, 9, 10, 11, 12, 13] rfl
    have hD9 := hD.sub (ws' := [(mh, .inr (9, G9 ma mcode mtoday moffs w_8 w_13 w_9 w_12 w_16 w_14 w_10 w_15 w_11 mupper mlower mrates mtaped mlaid mat mtk mtkAt mtkNumber mwaits mlisted mdealtMany)), ((ma 2), .inl (E 0, 400, .inl mf2)), ((ma 3), .inl (E 0, 16, .inl mf3)), ((ma 4), .inl (E 0, 16, .inl mf4)), ((ma 5), .inl (E 1, 6400, .inl mf5)), ((ma 6), .inl (E 0, 6400, .inl mf6)), ((ma 7), .inl (E 0, 6400, .inl mf7)), ((ma 8), .inl (E 1, 6400, .inl mf8)), ((ma 9), .inl (E 1, 6400, .inl mf9)), ((ma 12), .inl (E 0, 60, .inl mf12)), ((ma 13), .inl (E 0, 60, .inl mf13)), ((ma 14), .inl (E 0, 60, .inl mf14)), ((ma 15), .inl (E 0, 60, .inl mf15)), ((ma 16), .inl (E 0, 60, .inl mf16))]) [0, 1, 2, 3, 4, 5, 6, 7, 8, 9, 10, 11, 12, 13] (by decide) rfl
    exact W.iret (v := z_17) hx hb hr (fun t ht hW => ⟨⟨z_17, (w_8, w_9, w_10, w_11, w_12, w_13, w_14, w_15, w_16), rfl, (Or.inr (Or.inr ⟨by have h9 := hw_2; omega, by have h9 := hw_2; omega, by rw [← hw_6]; exact ez_17.symm⟩)), by rw [ht]; exact hP9, hD9⟩, hS.F ht⟩) hS.2.2 dX9_law_29
  ·
    have ic_4 : r_1.toInt < 0 := by first | exact (g_lt rfl t_0).mp c_4 | (have h := mt (g_le t_0 rfl).mpr c_4; omega)
    clear c_4
    refine lv_iload hx hb dX9_law_14 (lv_at hl 0 rfl) ?_
    have hP9 := hP.sub (ws' := [(mh, .inr (9, G9 ma mcode mtoday moffs mmany msumW msumA msumR msumWW msumWA msumAA msumWR msumAR mupper mlower mrates mtaped mlaid mat mtk mtkAt mtkNumber mwaits mlisted mdealtMany)), ((ma 2), .inl (E 0, 400, .inl mf2)), ((ma 3), .inl (E 0, 16, .inl mf3)), ((ma 4), .inl (E 0, 16, .inl mf4)), ((ma 5), .inl (E 1, 6400, .inl mf5)), ((ma 6), .inl (E 0, 6400, .inl mf6)), ((ma 7), .inl (E 0, 6400, .inl mf7)), ((ma 8), .inl (E 1, 6400, .inl mf8)), ((ma 9), .inl (E 1, 6400, .inl mf9)), ((ma 12), .inl (E 0, 60, .inl mf12)), ((ma 13), .inl (E 0, 60, .inl mf13)), ((ma 14), .inl (E 0, 60, .inl mf14)), ((ma 15), .inl (E 0, 60, .inl mf15)), ((ma 16), .inl (E 0, 60, .inl mf16))]) [0, 1, 2, 3, 4, 5, 6, 7, 8, 9, 10, 11, 12, 13] rfl
    have hD9 := hD.sub (ws' := [(mh, .inr (9, G9 ma mcode mtoday moffs mmany msumW msumA msumR msumWW msumWA msumAA msumWR msumAR mupper mlower mrates mtaped mlaid mat mtk mtkAt mtkNumber mwaits mlisted mdealtMany)), ((ma 2), .inl (E 0, 400, .inl mf2)), ((ma 3), .inl (E 0, 16, .inl mf3)), ((ma 4), .inl (E 0, 16, .inl mf4)), ((ma 5), .inl (E 1, 6400, .inl mf5)), ((ma 6), .inl (E 0, 6400, .inl mf6)), ((ma 7), .inl (E 0, 6400, .inl mf7)), ((ma 8), .inl (E 1, 6400, .inl mf8)), ((ma 9), .inl (E 1, 6400, .inl mf9)), ((ma 12), .inl (E 0, 60, .inl mf12)), ((ma 13), .inl (E 0, 60, .inl mf13)), ((ma 14), .inl (E 0, 60, .inl mf14)), ((ma 15), .inl (E 0, 60, .inl mf15)), ((ma 16), .inl (E 0, 60, .inl mf16))]) [0, 1, 2, 3, 4, 5, 6, 7, 8, 9, 10, 11, 12, 13] (by decide) rfl
    exact W.iret (v := r_1) hx hb hr (fun t ht hW => ⟨⟨r_1, (mmany, msumA, msumAA, msumAR, msumR, msumW, msumWA, msumWR, msumWW), rfl, (by rcases hw_2 with h9 | h9 | h9 <;> first | (exfalso; omega) | exact Or.inl ⟨by omega, by omega⟩ | exact Or.inr (Or.inl ⟨by omega, by omega⟩)), by rw [ht]; exact hP9, hD9⟩, hS.F ht⟩) hS.2.2 dX9_law_16
set_option maxHeartbeats 4000000 in
set_option maxRecDepth 100000 in
theorem g_X9_terms (l : Launch) (D : va_G) (E : Nat → Nat) (mh : Nat) (ma : Nat → Nat) (mcode : Int32) (mtoday : Int32) (moffs : Int32) (mmany : Int64) (msumW : Int64) (msumA : Int64) (msumR : Int64) (msumWW : Int64) (msumWA : Int64) (msumAA : Int64) (msumWR : Int64) (msumAR : Int64) (mupper : Int64) (mlower : Int64) (mrates : Int32) (mtaped : Int32) (mlaid : Int32) (mat : Int32) (mtk : Int32) (mtkAt : Int32) (mtkNumber : Int32) (mwaits : Int32) (mlisted : Int32) (mdealtMany : Int32) (mf2 : Nat → Int32) (mf3 : Nat → Int32) (mf4 : Nat → Int32) (mf5 : Nat → Int32) (mf6 : Nat → Int32) (mf7 : Nat → Int32) (mf8 : Nat → Int32) (mf9 : Nat → Int32) (mf12 : Nat → Int32) (mf13 : Nat → Int32) (mf14 : Nat → Int32) (mf15 : Nat → Int32) (mf16 : Nat → Int32) (p0 : Int32) (p1 : Int32) (p2 : Int32) (sz : Nat) (hi_m : (0 ≤ mtoday.toInt ∧ mtoday.toInt ≤ 399) ∧ (0 ≤ moffs.toInt ∧ moffs.toInt ≤ 60) ∧ (0 ≤ mrates.toInt ∧ mrates.toInt ≤ 60) ∧ (0 ≤ mtaped.toInt ∧ mtaped.toInt ≤ 120) ∧ (0 ≤ mlisted.toInt ∧ mlisted.toInt ≤ 9) ∧ (0 ≤ mdealtMany.toInt ∧ mdealtMany.toInt ≤ 9)) : Met l yX9_terms (wl yX9_terms cX9_terms 5 (some .int)) (RM 4 0 0) (mu_P D E [.ref mh, .int p0, .int p1, .int p2] [(mh, .inr (9, G9 ma mcode mtoday moffs mmany msumW msumA msumR msumWW msumWA msumAA msumWR msumAR mupper mlower mrates mtaped mlaid mat mtk mtkAt mtkNumber mwaits mlisted mdealtMany)), ((ma 2), .inl (E 0, 400, .inl mf2)), ((ma 3), .inl (E 0, 16, .inl mf3)), ((ma 4), .inl (E 0, 16, .inl mf4)), ((ma 5), .inl (E 1, 6400, .inl mf5)), ((ma 6), .inl (E 0, 6400, .inl mf6)), ((ma 7), .inl (E 0, 6400, .inl mf7)), ((ma 8), .inl (E 1, 6400, .inl mf8)), ((ma 9), .inl (E 1, 6400, .inl mf9)), ((ma 12), .inl (E 0, 60, .inl mf12)), ((ma 13), .inl (E 0, 60, .inl mf13)), ((ma 14), .inl (E 0, 60, .inl mf14)), ((ma 15), .inl (E 0, 60, .inl mf15)), ((ma 16), .inl (E 0, 60, .inl mf16))] sz) (va_Qi (fun (r : Int32) (u : (Int64) × (Int64) × (Int64) × (Int64) × (Int64) × (Int64) × (Int64) × (Int64) × (Int64)) => ((r.toInt = -1 ∧ ¬ ((0 ≤ p0.toInt ∧ p0.toInt ≤ 15) ∧ (0 ≤ p1.toInt ∧ p2.toInt ≤ 399 ∧ p1.toInt < p2.toInt ∧ p2.toInt - p1.toInt ≤ 60))) ∨ (((0 ≤ p0.toInt ∧ p0.toInt ≤ 15) ∧ (0 ≤ p1.toInt ∧ p2.toInt ≤ 399 ∧ p1.toInt < p2.toInt ∧ p2.toInt - p1.toInt ≤ 60)) ∧ (((mf3 (p0).toNatClampNeg).toInt = -5 ∧ r.toInt = -2) ∨ ((mf3 (p0).toNatClampNeg).toInt = 2 ∧ r.toInt = -3))) ∨ (((0 ≤ p0.toInt ∧ p0.toInt ≤ 15) ∧ (0 ≤ p1.toInt ∧ p2.toInt ≤ 399 ∧ p1.toInt < p2.toInt ∧ p2.toInt - p1.toInt ≤ 60)) ∧ ((mf3 (p0).toNatClampNeg).toInt ≠ -5 ∧ (mf3 (p0).toNatClampNeg).toInt ≠ 2) ∧ (((fold9 (fun d => wmF mf3 mf4 mf2 p0 d) (fun d => agI mf8 (400 * p0.toInt).toNat d) (-1000) (rateL (fun d => ratF mf5 mf6 mf7 mf8 mf9 mf12 mf13 mf14 mf15 mf16 moffs p0 d (-1)) p1 (p2.toInt - p1.toInt).toNat)).1 = 0 ∧ r.toInt = -4) ∨ (¬ (fold9 (fun d => wmF mf3 mf4 mf2 p0 d) (fun d => agI mf8 (400 * p0.toInt).toNat d) (-1000) (rateL (fun d => ratF mf5 mf6 mf7 mf8 mf9 mf12 mf13 mf14 mf15 mf16 moffs p0 d (-1)) p1 (p2.toInt - p1.toInt).toNat)).1 = 0 ∧ r.toInt = frmM (fold9 (fun d => wmF mf3 mf4 mf2 p0 d) (fun d => agI mf8 (400 * p0.toInt).toNat d) (-1000) (rateL (fun d => ratF mf5 mf6 mf7 mf8 mf9 mf12 mf13 mf14 mf15 mf16 moffs p0 d (-1)) p1 (p2.toInt - p1.toInt).toNat))))))) (mu_B D (va_A [(mh, .inr (9, G9 ma mcode mtoday moffs mmany msumW msumA msumR msumWW msumWA msumAA msumWR msumAR mupper mlower mrates mtaped mlaid mat mtk mtkAt mtkNumber mwaits mlisted mdealtMany)), ((ma 2), .inl (E 0, 400, .inl mf2)), ((ma 3), .inl (E 0, 16, .inl mf3)), ((ma 4), .inl (E 0, 16, .inl mf4)), ((ma 5), .inl (E 1, 6400, .inl mf5)), ((ma 6), .inl (E 0, 6400, .inl mf6)), ((ma 7), .inl (E 0, 6400, .inl mf7)), ((ma 8), .inl (E 1, 6400, .inl mf8)), ((ma 9), .inl (E 1, 6400, .inl mf9)), ((ma 12), .inl (E 0, 60, .inl mf12)), ((ma 13), .inl (E 0, 60, .inl mf13)), ((ma 14), .inl (E 0, 60, .inl mf14)), ((ma 15), .inl (E 0, 60, .inl mf15)), ((ma 16), .inl (E 0, 60, .inl mf16))] sz) (fun (u : (Int64) × (Int64) × (Int64) × (Int64) × (Int64) × (Int64) × (Int64) × (Int64) × (Int64)) => [(mh, .inr (9, G9 ma mcode mtoday moffs u.1 u.2.2.2.2.2.1 u.2.1 u.2.2.2.2.1 u.2.2.2.2.2.2.2.2 u.2.2.2.2.2.2.1 u.2.2.1 u.2.2.2.2.2.2.2.1 u.2.2.2.1 mupper mlower mrates mtaped mlaid mat mtk mtkAt mtkNumber mwaits mlisted mdealtMany)), ((ma 2), .inl (E 0, 400, .inl mf2)), ((ma 3), .inl (E 0, 16, .inl mf3)), ((ma 4), .inl (E 0, 16, .inl mf4)), ((ma 5), .inl (E 1, 6400, .inl mf5)), ((ma 6), .inl (E 0, 6400, .inl mf6)), ((ma 7), .inl (E 0, 6400, .inl mf7)), ((ma 8), .inl (E 1, 6400, .inl mf8)), ((ma 9), .inl (E 1, 6400, .inl mf9)), ((ma 12), .inl (E 0, 60, .inl mf12)), ((ma 13), .inl (E 0, 60, .inl mf13)), ((ma 14), .inl (E 0, 60, .inl mf14)), ((ma 15), .inl (E 0, 60, .inl mf15)), ((ma 16), .inl (E 0, 60, .inl mf16))])) (va_A [(mh, .inr (9, G9 ma mcode mtoday moffs mmany msumW msumA msumR msumWW msumWA msumAA msumWR msumAR mupper mlower mrates mtaped mlaid mat mtk mtkAt mtkNumber mwaits mlisted mdealtMany)), ((ma 2), .inl (E 0, 400, .inl mf2)), ((ma 3), .inl (E 0, 16, .inl mf3)), ((ma 4), .inl (E 0, 16, .inl mf4)), ((ma 5), .inl (E 1, 6400, .inl mf5)), ((ma 6), .inl (E 0, 6400, .inl mf6)), ((ma 7), .inl (E 0, 6400, .inl mf7)), ((ma 8), .inl (E 1, 6400, .inl mf8)), ((ma 9), .inl (E 1, 6400, .inl mf9)), ((ma 12), .inl (E 0, 60, .inl mf12)), ((ma 13), .inl (E 0, 60, .inl mf13)), ((ma 14), .inl (E 0, 60, .inl mf14)), ((ma 15), .inl (E 0, 60, .inl mf15)), ((ma 16), .inl (E 0, 60, .inl mf16))] sz)) 0 0 (va_A [(mh, .inr (9, G9 ma mcode mtoday moffs mmany msumW msumA msumR msumWW msumWA msumAA msumWR msumAR mupper mlower mrates mtaped mlaid mat mtk mtkAt mtkNumber mwaits mlisted mdealtMany)), ((ma 2), .inl (E 0, 400, .inl mf2)), ((ma 3), .inl (E 0, 16, .inl mf3)), ((ma 4), .inl (E 0, 16, .inl mf4)), ((ma 5), .inl (E 1, 6400, .inl mf5)), ((ma 6), .inl (E 0, 6400, .inl mf6)), ((ma 7), .inl (E 0, 6400, .inl mf7)), ((ma 8), .inl (E 1, 6400, .inl mf8)), ((ma 9), .inl (E 1, 6400, .inl mf9)), ((ma 12), .inl (E 0, 60, .inl mf12)), ((ma 13), .inl (E 0, 60, .inl mf13)), ((ma 14), .inl (E 0, 60, .inl mf14)), ((ma 15), .inl (E 0, 60, .inl mf15)), ((ma 16), .inl (E 0, 60, .inl mf16))] sz) := by
  refine Met.ofW (cc := cX9_terms) (maxL := 5) (ret := (some .int)) (by decide) rfl ?_
  intro p e s m args below meth c s₁ B hml hv
  obtain ⟨rfl, hsz, hP, hK, hD0⟩ := hv
  have hx := B.exec; have hb := B.bytes; have hr := B.returns
  have hts := atoms_spec (ws := wl yX9_terms cX9_terms 5 (some .int)) B.pre
  have htb : ∀ w ∈ tb, w.before _ s = true := fun w h => hts w (List.mem_cons_of_mem _ h)
  have hown : s.vm.findClass RX9 = some m.cls := findClass_of_methodNamed B.named
  have hlocks := B.notSynchronized
  subst hsz
  have hD := hD0.self (sz := s.heap.size)
  generalize hAe : va_A [(mh, .inr (9, G9 ma mcode mtoday moffs mmany msumW msumA msumR msumWW msumWA msumAA msumWR msumAR mupper mlower mrates mtaped mlaid mat mtk mtkAt mtkNumber mwaits mlisted mdealtMany)), ((ma 2), .inl (E 0, 400, .inl mf2)), ((ma 3), .inl (E 0, 16, .inl mf3)), ((ma 4), .inl (E 0, 16, .inl mf4)), ((ma 5), .inl (E 1, 6400, .inl mf5)), ((ma 6), .inl (E 0, 6400, .inl mf6)), ((ma 7), .inl (E 0, 6400, .inl mf7)), ((ma 8), .inl (E 1, 6400, .inl mf8)), ((ma 9), .inl (E 1, 6400, .inl mf9)), ((ma 12), .inl (E 0, 60, .inl mf12)), ((ma 13), .inl (E 0, 60, .inl mf13)), ((ma 14), .inl (E 0, 60, .inl mf14)), ((ma 15), .inl (E 0, 60, .inl mf15)), ((ma 16), .inl (E 0, 60, .inl mf16))] s.heap.size = A at hD ⊢
  have hA : ∀ q : Nat, s.heap.size ≤ q → A q := fun q h => by rw [← hAe]; exact Or.inr h
  have hS : va_S A s.heap s.heap [] := va_S.rf
  have hP : va_P D vwCl [(mh, .inr (9, G9 ma mcode mtoday moffs mmany msumW msumA msumR msumWW msumWA msumAA msumWR msumAR mupper mlower mrates mtaped mlaid mat mtk mtkAt mtkNumber mwaits mlisted mdealtMany)), ((ma 2), .inl (E 0, 400, .inl mf2)), ((ma 3), .inl (E 0, 16, .inl mf3)), ((ma 4), .inl (E 0, 16, .inl mf4)), ((ma 5), .inl (E 1, 6400, .inl mf5)), ((ma 6), .inl (E 0, 6400, .inl mf6)), ((ma 7), .inl (E 0, 6400, .inl mf7)), ((ma 8), .inl (E 1, 6400, .inl mf8)), ((ma 9), .inl (E 1, 6400, .inl mf9)), ((ma 12), .inl (E 0, 60, .inl mf12)), ((ma 13), .inl (E 0, 60, .inl mf13)), ((ma 14), .inl (E 0, 60, .inl mf14)), ((ma 15), .inl (E 0, 60, .inl mf15)), ((ma 16), .inl (E 0, 60, .inl mf16))] s.heap := hP
  have hl := lv_entry ([.ref mh, .int p0, .int p1, .int p2]) (n := 5) (Nat.le_of_ble_eq_true rfl)
  rw [lg_entry_eq]
  generalize (lg_sl ([.ref mh, .int p0, .int p1, .int p2]) ++ List.replicate (5 - (lg_sl ([.ref mh, .int p0, .int p1, .int p2])).length) Slot.unset).toArray = ls at hl ⊢
  have hl : lv_has ls 5 [(0, .ref mh), (1, .int p0), (2, .int p1), (3, .int p2)] := hl
  have lo_p0 := i_lo p0; have hi_p0 := i_hi p0
  have lo_p1 := i_lo p1; have hi_p1 := i_hi p1
  have lo_p2 := i_lo p2; have hi_p2 := i_hi p2
  refine lv_aload_n hx hb dX9_terms_0 rfl (lv_at hl 0 rfl) ?_
  refine lv_iload_n hx hb dX9_terms_1 rfl (lv_at hl 1 rfl) ?_
  refine lv_iload_n hx hb dX9_terms_2 rfl (lv_at hl 2 rfl) ?_
  refine lv_iload_n hx hb dX9_terms_3 rfl (lv_at hl 3 rfl) ?_
  refine callRV (rest := []) (As := [.int p0, .int p1, .int p2]) hx hb hml hown htb hK (g_X9_asked l D E mh ma mcode mtoday moffs mmany msumW msumA msumR msumWW msumWA msumAA msumWR msumAR mupper mlower mrates mtaped mlaid mat mtk mtkAt mtkNumber mwaits mlisted mdealtMany mf3 p0 p1 p2 (by (try dsimp only); omega)) ok_X9_asked k_1269 k_1271 ks_45 k_9 k_1272 ⟨(Nat.le_of_ble_eq_true rfl), (Nat.le_of_ble_eq_true rfl)⟩ ⟨(Nat.le_of_ble_eq_true rfl), (Nat.le_of_ble_eq_true rfl)⟩ hl.1 (Nat.le_of_ble_eq_true rfl) rfl rfl dX9_terms_4 (hP.sub (ws' := [(mh, .inr (9, G9 ma mcode mtoday moffs mmany msumW msumA msumR msumWW msumWA msumAA msumWR msumAR mupper mlower mrates mtaped mlaid mat mtk mtkAt mtkNumber mwaits mlisted mdealtMany)), ((ma 3), .inl (E 0, 16, .inl mf3))]) [0, 2] rfl) rfl rfl 0 rfl (fun r_1 hw_2 => ?_)
  refine lv_istore (lv' := [(4, .int r_1), (0, .ref mh), (1, .int p0), (2, .int p1), (3, .int p2)]) hx hb dX9_terms_7 hl (by decide) rfl (fun ls hl => ?_)
  refine lv_iload hx hb dX9_terms_9 (lv_at hl 0 rfl) ?_
  refine lv_if_ge (tgt := 17) hx hb dX9_terms_11 (by decide) (fun c_4 => ?_) (fun c_4 => ?_)
  ·
    have ic_4 : 0 ≤ r_1.toInt := by first | exact (g_le t_0 rfl).mp c_4 | (have h := mt (g_lt rfl t_0).mpr c_4; omega)
    clear c_4
    refine lv_aload_n hx hb dX9_terms_17 rfl (lv_at hl 1 rfl) ?_
    refine lv_iload_n hx hb dX9_terms_18 rfl (lv_at hl 2 rfl) ?_
    refine lv_iload_n hx hb dX9_terms_19 rfl (lv_at hl 3 rfl) ?_
    refine lv_iload_n hx hb dX9_terms_20 rfl (lv_at hl 4 rfl) ?_
    have hPc := hP.sub (ws' := [(mh, .inr (9, G9 ma mcode mtoday moffs mmany msumW msumA msumR msumWW msumWA msumAA msumWR msumAR mupper mlower mrates mtaped mlaid mat mtk mtkAt mtkNumber mwaits mlisted mdealtMany)), ((ma 2), .inl (E 0, 400, .inl mf2)), ((ma 3), .inl (E 0, 16, .inl mf3)), ((ma 4), .inl (E 0, 16, .inl mf4)), ((ma 5), .inl (E 1, 6400, .inl mf5)), ((ma 6), .inl (E 0, 6400, .inl mf6)), ((ma 7), .inl (E 0, 6400, .inl mf7)), ((ma 8), .inl (E 1, 6400, .inl mf8)), ((ma 9), .inl (E 1, 6400, .inl mf9)), ((ma 12), .inl (E 0, 60, .inl mf12)), ((ma 13), .inl (E 0, 60, .inl mf13)), ((ma 14), .inl (E 0, 60, .inl mf14)), ((ma 15), .inl (E 0, 60, .inl mf15)), ((ma 16), .inl (E 0, 60, .inl mf16))]) [0, 1, 2, 3, 4, 5, 6, 7, 8, 9, 10, 11, 12, 13] rfl
    have hDc := hD.sub (ws' := [(mh, .inr (9, G9 ma mcode mtoday moffs mmany msumW msumA msumR msumWW msumWA msumAA msumWR msumAR mupper mlower mrates mtaped mlaid mat mtk mtkAt mtkNumber mwaits mlisted mdealtMany)), ((ma 2), .inl (E 0, 400, .inl mf2)), ((ma 3), .inl (E 0, 16, .inl mf3)), ((ma 4), .inl (E 0, 16, .inl mf4)), ((ma 5), .inl (E 1, 6400, .inl mf5)), ((ma 6), .inl (E 0, 6400, .inl mf6)), ((ma 7), .inl (E 0, 6400, .inl mf7)), ((ma 8), .inl (E 1, 6400, .inl mf8)), ((ma 9), .inl (E 1, 6400, .inl mf9)), ((ma 12), .inl (E 0, 60, .inl mf12)), ((ma 13), .inl (E 0, 60, .inl mf13)), ((ma 14), .inl (E 0, 60, .inl mf14)), ((ma 15), .inl (E 0, 60, .inl mf15)), ((ma 16), .inl (E 0, 60, .inl mf16))]) [0, 1, 2, 3, 4, 5, 6, 7, 8, 9, 10, 11, 12, 13] (by decide) rfl
    refine aft_v (runMV (rest := []) (As := [.int p0, .int p1, .int p2]) hx hb hml hown htb hK (g_X9_sumUp l D E mh ma mcode mtoday moffs mmany msumW msumA msumR msumWW msumWA msumAA msumWR msumAR mupper mlower mrates mtaped mlaid mat mtk mtkAt mtkNumber mwaits mlisted mdealtMany mf2 mf3 mf4 mf5 mf6 mf7 mf8 mf9 mf12 mf13 mf14 mf15 mf16 p0 p1 p2 _ (by (try dsimp only); omega) (by (try dsimp only); omega) (by (try dsimp only); omega)) ok_X9_sumUp k_1273 k_1275 ks_46 k_9 k_1276 ⟨(Nat.le_of_ble_eq_true rfl), (Nat.le_of_ble_eq_true rfl)⟩ ⟨(Nat.le_of_ble_eq_true rfl), (Nat.le_of_ble_eq_true rfl)⟩ hl.1 (Nat.le_of_ble_eq_true rfl) rfl rfl dX9_terms_21 hPc hDc rfl rfl 0 rfl) hP hD hS hA [0, 1, 2, 3, 4, 5, 6, 7, 8, 9, 10, 11, 12, 13] [] (wr := ([] : va_W)) rfl rfl (by decide) (by decide) (fun u_7 H locs hw_6 hP hD hS => ?_)
    clear hPc hDc
    obtain ⟨w_8, w_9, w_10, w_11, w_12, w_13, w_14, w_15, w_16⟩ := u_7
    try dsimp only at hw_6
    have hP : va_P D vwCl [(mh, .inr (9, G9 ma mcode mtoday moffs w_8 w_13 w_9 w_12 w_16 w_14 w_10 w_15 w_11 mupper mlower mrates mtaped mlaid mat mtk mtkAt mtkNumber mwaits mlisted mdealtMany)), ((ma 2), .inl (E 0, 400, .inl mf2)), ((ma 3), .inl (E 0, 16, .inl mf3)), ((ma 4), .inl (E 0, 16, .inl mf4)), ((ma 5), .inl (E 1, 6400, .inl mf5)), ((ma 6), .inl (E 0, 6400, .inl mf6)), ((ma 7), .inl (E 0, 6400, .inl mf7)), ((ma 8), .inl (E 1, 6400, .inl mf8)), ((ma 9), .inl (E 1, 6400, .inl mf9)), ((ma 12), .inl (E 0, 60, .inl mf12)), ((ma 13), .inl (E 0, 60, .inl mf13)), ((ma 14), .inl (E 0, 60, .inl mf14)), ((ma 15), .inl (E 0, 60, .inl mf15)), ((ma 16), .inl (E 0, 60, .inl mf16))] H := hP
    have hD := toW hP hD rfl
    refine lv_aload_n hx hb dX9_terms_24 rfl (lv_at hl 1 rfl) ?_
    refine va_get (D := D) (ci := 9) (v := .long w_8) (C := RX9) (T := TX9) (N := 68) hx hb htb iX9 hown hK.1 hP 0 rfl rfl 17 (by decide) (htb _ k_975) (fun _ h9 => h9) rfl dX9_terms_25 ?_
    refine lv_lconst (v := 0) hx hb dX9_terms_28 (by decide) ?_
    refine W.lcmp hx hb dX9_terms_29 ?_
    refine lv_topi (fun z_17 ez_17 => ?_)
    refine lv_if_ne (tgt := 38) hx hb dX9_terms_30 (by decide) (fun c_18 => ?_) (fun c_18 => ?_)
    ·
      have lc_19 : ¬ (w_8 : Int64) = (0 : Int64) := lc_ne (by rw [← ez_17]; exact c_18)
      refine lv_aload_n hx hb dX9_terms_38 rfl (lv_at hl 1 rfl) ?_
      refine callRV (rest := []) (As := []) hx hb hml hown htb hK (g_X9_termsNow l D E mh ma mcode mtoday moffs w_8 w_13 w_9 w_12 w_16 w_14 w_10 w_15 w_11 mupper mlower mrates mtaped mlaid mat mtk mtkAt mtkNumber mwaits mlisted mdealtMany (by (try dsimp only); omega)) ok_X9_termsNow k_1287 k_1289 ks_48 k_9 k_1290 ⟨(Nat.le_of_ble_eq_true rfl), (Nat.le_of_ble_eq_true rfl)⟩ ⟨(Nat.le_of_ble_eq_true rfl), (Nat.le_of_ble_eq_true rfl)⟩ hl.1 (Nat.le_of_ble_eq_true rfl) rfl rfl dX9_terms_39 (hP.sub (ws' := [(mh, .inr (9, G9 ma mcode mtoday moffs w_8 w_13 w_9 w_12 w_16 w_14 w_10 w_15 w_11 mupper mlower mrates mtaped mlaid mat mtk mtkAt mtkNumber mwaits mlisted mdealtMany))]) [0] rfl) rfl rfl 0 rfl (fun r_20 hw_21 => ?_)
      rcases hw_21 with ⟨hr_20, hw_21⟩ | ⟨hr_20, hw_21⟩ | ⟨hr_20, hw_21⟩ | ⟨hr_20, hw_21⟩
      ·
        refine W_top (y := .int 3) (by rw [hr_20]) ?_
        have hP9 := hP.sub (ws' := [(mh, .inr (9, G9 ma mcode mtoday moffs w_8 w_13 w_9 w_12 w_16 w_14 w_10 w_15 w_11 mupper mlower mrates mtaped mlaid mat mtk mtkAt mtkNumber mwaits mlisted mdealtMany)), ((ma 2), .inl (E 0, 400, .inl mf2)), ((ma 3), .inl (E 0, 16, .inl mf3)), ((ma 4), .inl (E 0, 16, .inl mf4)), ((ma 5), .inl (E 1, 6400, .inl mf5)), ((ma 6), .inl (E 0, 6400, .inl mf6)), ((ma 7), .inl (E 0, 6400, .inl mf7)), ((ma 8), .inl (E 1, 6400, .inl mf8)), ((ma 9), .inl (E 1, 6400, .inl mf9)), ((ma 12), .inl (E 0, 60, .inl mf12)), ((ma 13), .inl (E 0, 60, .inl mf13)), ((ma 14), .inl (E 0, 60, .inl mf14)), ((ma 15), .inl (E 0, 60, .inl mf15)), ((ma 16), .inl (E 0, 60, .inl mf16))]) [0, 1, 2, 3, 4, 5, 6, 7, 8, 9, 10, 11, 12, 13] rfl
        have hD9 := hD.sub (ws' := [(mh, .inr (9, G9 ma mcode mtoday moffs w_8 w_13 w_9 w_12 w_16 w_14 w_10 w_15 w_11 mupper mlower mrates mtaped mlaid mat mtk mtkAt mtkNumber mwaits mlisted mdealtMany)), ((ma 2), .inl (E 0, 400, .inl mf2)), ((ma 3), .inl (E 0, 16, .inl mf3)), ((ma 4), .inl (E 0, 16, .inl mf4)), ((ma 5), .inl (E 1, 6400, .inl mf5)), ((ma 6), .inl (E 0, 6400, .inl mf6)), ((ma 7), .inl (E 0, 6400, .inl mf7)), ((ma 8), .inl (E 1, 6400, .inl mf8)), ((ma 9), .inl (E 1, 6400, .inl mf9)), ((ma 12), .inl (E 0, 60, .inl mf12)), ((ma 13), .inl (E 0, 60, .inl mf13)), ((ma 14), .inl (E 0, 60, .inl mf14)), ((ma 15), .inl (E 0, 60, .inl mf15)), ((ma 16), .inl (E 0, 60, .inl mf16))]) [0, 1, 2, 3, 4, 5, 6, 7, 8, 9, 10, 11, 12, 13] (by decide) rfl
        exact W.iret (v := 3) hx hb hr (fun t ht hW => ⟨⟨3, (w_8, w_9, w_10, w_11, w_12, w_13, w_14, w_15, w_16), rfl, (Or.inr (Or.inr ⟨by have h9 := hw_2; omega, by have h9 := hw_2; omega, Or.inr ⟨by rw [← hw_6]; exact lc_19, by rw [← hw_6]; unfold frmM; (try dsimp only); rw [if_neg hw_21]; decide⟩⟩)), by rw [ht]; exact hP9, hD9⟩, hS.F ht⟩) hS.2.2 dX9_terms_42
      ·
        refine W_top (y := .int 2) (by rw [hr_20]) ?_
        have hP9 := hP.sub (ws' := [(mh, .inr (9, G9 ma mcode mtoday moffs w_8 w_13 w_9 w_12 w_16 w_14 w_10 w_15 w_11 mupper mlower mrates mtaped mlaid mat mtk mtkAt mtkNumber mwaits mlisted mdealtMany)), ((ma 2), .inl (E 0, 400, .inl mf2)), ((ma 3), .inl (E 0, 16, .inl mf3)), ((ma 4), .inl (E 0, 16, .inl mf4)), ((ma 5), .inl (E 1, 6400, .inl mf5)), ((ma 6), .inl (E 0, 6400, .inl mf6)), ((ma 7), .inl (E 0, 6400, .inl mf7)), ((ma 8), .inl (E 1, 6400, .inl mf8)), ((ma 9), .inl (E 1, 6400, .inl mf9)), ((ma 12), .inl (E 0, 60, .inl mf12)), ((ma 13), .inl (E 0, 60, .inl mf13)), ((ma 14), .inl (E 0, 60, .inl mf14)), ((ma 15), .inl (E 0, 60, .inl mf15)), ((ma 16), .inl (E 0, 60, .inl mf16))]) [0, 1, 2, 3, 4, 5, 6, 7, 8, 9, 10, 11, 12, 13] rfl
        have hD9 := hD.sub (ws' := [(mh, .inr (9, G9 ma mcode mtoday moffs w_8 w_13 w_9 w_12 w_16 w_14 w_10 w_15 w_11 mupper mlower mrates mtaped mlaid mat mtk mtkAt mtkNumber mwaits mlisted mdealtMany)), ((ma 2), .inl (E 0, 400, .inl mf2)), ((ma 3), .inl (E 0, 16, .inl mf3)), ((ma 4), .inl (E 0, 16, .inl mf4)), ((ma 5), .inl (E 1, 6400, .inl mf5)), ((ma 6), .inl (E 0, 6400, .inl mf6)), ((ma 7), .inl (E 0, 6400, .inl mf7)), ((ma 8), .inl (E 1, 6400, .inl mf8)), ((ma 9), .inl (E 1, 6400, .inl mf9)), ((ma 12), .inl (E 0, 60, .inl mf12)), ((ma 13), .inl (E 0, 60, .inl mf13)), ((ma 14), .inl (E 0, 60, .inl mf14)), ((ma 15), .inl (E 0, 60, .inl mf15)), ((ma 16), .inl (E 0, 60, .inl mf16))]) [0, 1, 2, 3, 4, 5, 6, 7, 8, 9, 10, 11, 12, 13] (by decide) rfl
        exact W.iret (v := 2) hx hb hr (fun t ht hW => ⟨⟨2, (w_8, w_9, w_10, w_11, w_12, w_13, w_14, w_15, w_16), rfl, (Or.inr (Or.inr ⟨by have h9 := hw_2; omega, by have h9 := hw_2; omega, Or.inr ⟨by rw [← hw_6]; exact lc_19, by rw [← hw_6]; unfold frmM; (try dsimp only); rw [if_pos hw_21.1, if_neg hw_21.2]; decide⟩⟩)), by rw [ht]; exact hP9, hD9⟩, hS.F ht⟩) hS.2.2 dX9_terms_42
      ·
        refine W_top (y := .int 4) (by rw [hr_20]) ?_
        have hP9 := hP.sub (ws' := [(mh, .inr (9, G9 ma mcode mtoday moffs w_8 w_13 w_9 w_12 w_16 w_14 w_10 w_15 w_11 mupper mlower mrates mtaped mlaid mat mtk mtkAt mtkNumber mwaits mlisted mdealtMany)), ((ma 2), .inl (E 0, 400, .inl mf2)), ((ma 3), .inl (E 0, 16, .inl mf3)), ((ma 4), .inl (E 0, 16, .inl mf4)), ((ma 5), .inl (E 1, 6400, .inl mf5)), ((ma 6), .inl (E 0, 6400, .inl mf6)), ((ma 7), .inl (E 0, 6400, .inl mf7)), ((ma 8), .inl (E 1, 6400, .inl mf8)), ((ma 9), .inl (E 1, 6400, .inl mf9)), ((ma 12), .inl (E 0, 60, .inl mf12)), ((ma 13), .inl (E 0, 60, .inl mf13)), ((ma 14), .inl (E 0, 60, .inl mf14)), ((ma 15), .inl (E 0, 60, .inl mf15)), ((ma 16), .inl (E 0, 60, .inl mf16))]) [0, 1, 2, 3, 4, 5, 6, 7, 8, 9, 10, 11, 12, 13] rfl
        have hD9 := hD.sub (ws' := [(mh, .inr (9, G9 ma mcode mtoday moffs w_8 w_13 w_9 w_12 w_16 w_14 w_10 w_15 w_11 mupper mlower mrates mtaped mlaid mat mtk mtkAt mtkNumber mwaits mlisted mdealtMany)), ((ma 2), .inl (E 0, 400, .inl mf2)), ((ma 3), .inl (E 0, 16, .inl mf3)), ((ma 4), .inl (E 0, 16, .inl mf4)), ((ma 5), .inl (E 1, 6400, .inl mf5)), ((ma 6), .inl (E 0, 6400, .inl mf6)), ((ma 7), .inl (E 0, 6400, .inl mf7)), ((ma 8), .inl (E 1, 6400, .inl mf8)), ((ma 9), .inl (E 1, 6400, .inl mf9)), ((ma 12), .inl (E 0, 60, .inl mf12)), ((ma 13), .inl (E 0, 60, .inl mf13)), ((ma 14), .inl (E 0, 60, .inl mf14)), ((ma 15), .inl (E 0, 60, .inl mf15)), ((ma 16), .inl (E 0, 60, .inl mf16))]) [0, 1, 2, 3, 4, 5, 6, 7, 8, 9, 10, 11, 12, 13] (by decide) rfl
        exact W.iret (v := 4) hx hb hr (fun t ht hW => ⟨⟨4, (w_8, w_9, w_10, w_11, w_12, w_13, w_14, w_15, w_16), rfl, (Or.inr (Or.inr ⟨by have h9 := hw_2; omega, by have h9 := hw_2; omega, Or.inr ⟨by rw [← hw_6]; exact lc_19, by rw [← hw_6]; unfold frmM; (try dsimp only); rw [if_pos hw_21.1, if_pos hw_21.2.1, if_neg hw_21.2.2]; decide⟩⟩)), by rw [ht]; exact hP9, hD9⟩, hS.F ht⟩) hS.2.2 dX9_terms_42
      ·
        refine W_top (y := .int 1) (by rw [hr_20]) ?_
        have hP9 := hP.sub (ws' := [(mh, .inr (9, G9 ma mcode mtoday moffs w_8 w_13 w_9 w_12 w_16 w_14 w_10 w_15 w_11 mupper mlower mrates mtaped mlaid mat mtk mtkAt mtkNumber mwaits mlisted mdealtMany)), ((ma 2), .inl (E 0, 400, .inl mf2)), ((ma 3), .inl (E 0, 16, .inl mf3)), ((ma 4), .inl (E 0, 16, .inl mf4)), ((ma 5), .inl (E 1, 6400, .inl mf5)), ((ma 6), .inl (E 0, 6400, .inl mf6)), ((ma 7), .inl (E 0, 6400, .inl mf7)), ((ma 8), .inl (E 1, 6400, .inl mf8)), ((ma 9), .inl (E 1, 6400, .inl mf9)), ((ma 12), .inl (E 0, 60, .inl mf12)), ((ma 13), .inl (E 0, 60, .inl mf13)), ((ma 14), .inl (E 0, 60, .inl mf14)), ((ma 15), .inl (E 0, 60, .inl mf15)), ((ma 16), .inl (E 0, 60, .inl mf16))]) [0, 1, 2, 3, 4, 5, 6, 7, 8, 9, 10, 11, 12, 13] rfl
        have hD9 := hD.sub (ws' := [(mh, .inr (9, G9 ma mcode mtoday moffs w_8 w_13 w_9 w_12 w_16 w_14 w_10 w_15 w_11 mupper mlower mrates mtaped mlaid mat mtk mtkAt mtkNumber mwaits mlisted mdealtMany)), ((ma 2), .inl (E 0, 400, .inl mf2)), ((ma 3), .inl (E 0, 16, .inl mf3)), ((ma 4), .inl (E 0, 16, .inl mf4)), ((ma 5), .inl (E 1, 6400, .inl mf5)), ((ma 6), .inl (E 0, 6400, .inl mf6)), ((ma 7), .inl (E 0, 6400, .inl mf7)), ((ma 8), .inl (E 1, 6400, .inl mf8)), ((ma 9), .inl (E 1, 6400, .inl mf9)), ((ma 12), .inl (E 0, 60, .inl mf12)), ((ma 13), .inl (E 0, 60, .inl mf13)), ((ma 14), .inl (E 0, 60, .inl mf14)), ((ma 15), .inl (E 0, 60, .inl mf15)), ((ma 16), .inl (E 0, 60, .inl mf16))]) [0, 1, 2, 3, 4, 5, 6, 7, 8, 9, 10, 11, 12, 13] (by decide) rfl
        exact W.iret (v := 1) hx hb hr (fun t ht hW => ⟨⟨1, (w_8, w_9, w_10, w_11, w_12, w_13, w_14, w_15, w_16), rfl, (Or.inr (Or.inr ⟨by have h9 := hw_2; omega, by have h9 := hw_2; omega, Or.inr ⟨by rw [← hw_6]; exact lc_19, by rw [← hw_6]; unfold frmM; (try dsimp only); rw [if_pos hw_21.1, if_pos hw_21.2.1, if_pos hw_21.2.2]; decide⟩⟩)), by rw [ht]; exact hP9, hD9⟩, hS.F ht⟩) hS.2.2 dX9_terms_42
    ·
      have lc_23 : (w_8 : Int64) = (0 : Int64) := lc_eq (by rw [← ez_17]; exact c_18)
      refine lv_bipush (v := (-4)) hx hb dX9_terms_33 (by decide) ?_
      refine lv_goto (tgt := 42) hx hb dX9_terms_35 (by decide) ?_
      have hP9 := hP.sub (ws' := [(mh, .inr (9, G9 ma mcode mtoday moffs w_8 w_13 w_9 w_12 w_16 w_14 w_10 w_15 w_11 mupper mlower mrates mtaped mlaid mat mtk mtkAt mtkNumber mwaits mlisted mdealtMany)), ((ma 2), .inl (E 0, 400, .inl mf2)), ((ma 3), .inl (E 0, 16, .inl mf3)), ((ma 4), .inl (E 0, 16, .inl mf4)), ((ma 5), .inl (E 1, 6400, .inl mf5)), ((ma 6), .inl (E 0, 6400, .inl mf6)), ((ma 7), .inl (E 0, 6400, .inl mf7)), ((ma 8), .inl (E 1, 6400, .inl mf8)), ((ma 9), .inl (E 1, 6400, .inl mf9)), ((ma 12), .inl (E 0, 60, .inl mf12)), ((ma 13), .inl (E 0, 60, .inl mf13)), ((ma 14), .inl (E 0, 60, .inl mf14)), ((ma 15), .inl (E 0, 60, .inl mf15)), ((ma 16), .inl (E 0, 60, .inl mf16))]) [0, 1, 2, 3, 4, 5, 6, 7, 8, 9, 10, 11, 12, 13] rfl
      have hD9 := hD.sub (ws' := [(mh, .inr (9, G9 ma mcode mtoday moffs w_8 w_13 w_9 w_12 w_16 w_14 w_10 w_15 w_11 mupper mlower mrates mtaped mlaid mat mtk mtkAt mtkNumber mwaits mlisted mdealtMany)), ((ma 2), .inl (E 0, 400, .inl mf2)), ((ma 3), .inl (E 0, 16, .inl mf3)), ((ma 4), .inl (E 0, 16, .inl mf4)), ((ma 5), .inl (E 1, 6400, .inl mf5)), ((ma 6), .inl (E 0, 6400, .inl mf6)), ((ma 7), .inl (E 0, 6400, .inl mf7)), ((ma 8), .inl (E 1, 6400, .inl mf8)), ((ma 9), .inl (E 1, 6400, .inl mf9)), ((ma 12), .inl (E 0, 60, .inl mf12)), ((ma 13), .inl (E 0, 60, .inl mf13)), ((ma 14), .inl (E 0, 60, .inl mf14)), ((ma 15), .inl (E 0, 60, .inl mf15)), ((ma 16), .inl (E 0, 60, .inl mf16))]) [0, 1, 2, 3, 4, 5, 6, 7, 8, 9, 10, 11, 12, 13] (by decide) rfl
      exact W.iret (v := (-4)) hx hb hr (fun t ht hW => ⟨⟨(-4), (w_8, w_9, w_10, w_11, w_12, w_13, w_14, w_15, w_16), rfl, (Or.inr (Or.inr ⟨by have h9 := hw_2; omega, by have h9 := hw_2; omega, Or.inl ⟨by rw [← hw_6]; exact lc_23, by decide⟩⟩)), by rw [ht]; exact hP9, hD9⟩, hS.F ht⟩) hS.2.2 dX9_terms_42
  ·
    have ic_4 : r_1.toInt < 0 := by first | exact (g_lt rfl t_0).mp c_4 | (have h := mt (g_le t_0 rfl).mpr c_4; omega)
    clear c_4
    refine lv_iload hx hb dX9_terms_14 (lv_at hl 0 rfl) ?_
    have hP9 := hP.sub (ws' := [(mh, .inr (9, G9 ma mcode mtoday moffs mmany msumW msumA msumR msumWW msumWA msumAA msumWR msumAR mupper mlower mrates mtaped mlaid mat mtk mtkAt mtkNumber mwaits mlisted mdealtMany)), ((ma 2), .inl (E 0, 400, .inl mf2)), ((ma 3), .inl (E 0, 16, .inl mf3)), ((ma 4), .inl (E 0, 16, .inl mf4)), ((ma 5), .inl (E 1, 6400, .inl mf5)), ((ma 6), .inl (E 0, 6400, .inl mf6)), ((ma 7), .inl (E 0, 6400, .inl mf7)), ((ma 8), .inl (E 1, 6400, .inl mf8)), ((ma 9), .inl (E 1, 6400, .inl mf9)), ((ma 12), .inl (E 0, 60, .inl mf12)), ((ma 13), .inl (E 0, 60, .inl mf13)), ((ma 14), .inl (E 0, 60, .inl mf14)), ((ma 15), .inl (E 0, 60, .inl mf15)), ((ma 16), .inl (E 0, 60, .inl mf16))]) [0, 1, 2, 3, 4, 5, 6, 7, 8, 9, 10, 11, 12, 13] rfl
    have hD9 := hD.sub (ws' := [(mh, .inr (9, G9 ma mcode mtoday moffs mmany msumW msumA msumR msumWW msumWA msumAA msumWR msumAR mupper mlower mrates mtaped mlaid mat mtk mtkAt mtkNumber mwaits mlisted mdealtMany)), ((ma 2), .inl (E 0, 400, .inl mf2)), ((ma 3), .inl (E 0, 16, .inl mf3)), ((ma 4), .inl (E 0, 16, .inl mf4)), ((ma 5), .inl (E 1, 6400, .inl mf5)), ((ma 6), .inl (E 0, 6400, .inl mf6)), ((ma 7), .inl (E 0, 6400, .inl mf7)), ((ma 8), .inl (E 1, 6400, .inl mf8)), ((ma 9), .inl (E 1, 6400, .inl mf9)), ((ma 12), .inl (E 0, 60, .inl mf12)), ((ma 13), .inl (E 0, 60, .inl mf13)), ((ma 14), .inl (E 0, 60, .inl mf14)), ((ma 15), .inl (E 0, 60, .inl mf15)), ((ma 16), .inl (E 0, 60, .inl mf16))]) [0, 1, 2, 3, 4, 5, 6, 7, 8, 9, 10, 11, 12, 13] (by decide) rfl
    exact W.iret (v := r_1) hx hb hr (fun t ht hW => ⟨⟨r_1, (mmany, msumA, msumAA, msumAR, msumR, msumW, msumWA, msumWR, msumWW), rfl, (by rcases hw_2 with h9 | h9 | h9 <;> first | (exfalso; omega) | exact Or.inl ⟨by omega, by omega⟩ | exact Or.inr (Or.inl ⟨by omega, by omega⟩)), by rw [ht]; exact hP9, hD9⟩, hS.F ht⟩) hS.2.2 dX9_terms_16
set_option maxHeartbeats 4000000 in
set_option maxRecDepth 100000 in
theorem g_X9_byTwo (l : Launch) (D : va_G) (E : Nat → Nat) (mh : Nat) (ma : Nat → Nat) (mcode : Int32) (mtoday : Int32) (moffs : Int32) (mmany : Int64) (msumW : Int64) (msumA : Int64) (msumR : Int64) (msumWW : Int64) (msumWA : Int64) (msumAA : Int64) (msumWR : Int64) (msumAR : Int64) (mupper : Int64) (mlower : Int64) (mrates : Int32) (mtaped : Int32) (mlaid : Int32) (mat : Int32) (mtk : Int32) (mtkAt : Int32) (mtkNumber : Int32) (mwaits : Int32) (mlisted : Int32) (mdealtMany : Int32) (p0 : Int64) (p1 : Int64) (p2 : Int64) (p3 : Int64) (sz : Nat) (hi_m : (0 ≤ mtoday.toInt ∧ mtoday.toInt ≤ 399) ∧ (0 ≤ moffs.toInt ∧ moffs.toInt ≤ 60) ∧ (0 ≤ mrates.toInt ∧ mrates.toInt ≤ 60) ∧ (0 ≤ mtaped.toInt ∧ mtaped.toInt ≤ 120) ∧ (0 ≤ mlisted.toInt ∧ mlisted.toInt ≤ 9) ∧ (0 ≤ mdealtMany.toInt ∧ mdealtMany.toInt ≤ 9)) : Met l yX9_byTwo (wl yX9_byTwo cX9_byTwo 9 none) (RM 1 0 0) (mu_P D E [.ref mh, .long p0, .long p1, .long p2, .long p3] [(mh, .inr (9, G9 ma mcode mtoday moffs mmany msumW msumA msumR msumWW msumWA msumAA msumWR msumAR mupper mlower mrates mtaped mlaid mat mtk mtkAt mtkNumber mwaits mlisted mdealtMany))] sz) (va_Qv (fun (u : (Int64) × (Int64)) => (u.1 = twoF mmany p0 p1) ∧ (u.2 = up2F mmany msumR p0 p1 p2 p3)) (mu_B D (va_A [(mh, .inr (9, G9 ma mcode mtoday moffs mmany msumW msumA msumR msumWW msumWA msumAA msumWR msumAR mupper mlower mrates mtaped mlaid mat mtk mtkAt mtkNumber mwaits mlisted mdealtMany))] sz) (fun (u : (Int64) × (Int64)) => [(mh, .inr (9, G9 ma mcode mtoday moffs mmany msumW msumA msumR msumWW msumWA msumAA msumWR msumAR u.2 u.1 mrates mtaped mlaid mat mtk mtkAt mtkNumber mwaits mlisted mdealtMany))])) (va_A [(mh, .inr (9, G9 ma mcode mtoday moffs mmany msumW msumA msumR msumWW msumWA msumAA msumWR msumAR mupper mlower mrates mtaped mlaid mat mtk mtkAt mtkNumber mwaits mlisted mdealtMany))] sz)) 0 0 (va_A [(mh, .inr (9, G9 ma mcode mtoday moffs mmany msumW msumA msumR msumWW msumWA msumAA msumWR msumAR mupper mlower mrates mtaped mlaid mat mtk mtkAt mtkNumber mwaits mlisted mdealtMany))] sz) := by
  refine Met.ofW (cc := cX9_byTwo) (maxL := 9) (ret := none) (by decide) rfl ?_
  intro p e s m args below meth c s₁ B hml hv
  obtain ⟨rfl, hsz, hP, hK, hD0⟩ := hv
  have hx := B.exec; have hb := B.bytes; have hr := B.returns
  have hts := atoms_spec (ws := wl yX9_byTwo cX9_byTwo 9 none) B.pre
  have htb : ∀ w ∈ tb, w.before _ s = true := fun w h => hts w (List.mem_cons_of_mem _ h)
  have hown : s.vm.findClass RX9 = some m.cls := findClass_of_methodNamed B.named
  have hlocks := B.notSynchronized
  subst hsz
  have hD := hD0.self (sz := s.heap.size)
  generalize hAe : va_A [(mh, .inr (9, G9 ma mcode mtoday moffs mmany msumW msumA msumR msumWW msumWA msumAA msumWR msumAR mupper mlower mrates mtaped mlaid mat mtk mtkAt mtkNumber mwaits mlisted mdealtMany))] s.heap.size = A at hD ⊢
  have hA : ∀ q : Nat, s.heap.size ≤ q → A q := fun q h => by rw [← hAe]; exact Or.inr h
  have hS : va_S A s.heap s.heap [] := va_S.rf
  have hP : va_P D vwCl [(mh, .inr (9, G9 ma mcode mtoday moffs mmany msumW msumA msumR msumWW msumWA msumAA msumWR msumAR mupper mlower mrates mtaped mlaid mat mtk mtkAt mtkNumber mwaits mlisted mdealtMany))] s.heap := hP
  have hl := lv_entry ([.ref mh, .long p0, .long p1, .long p2, .long p3]) (n := 9) (Nat.le_of_ble_eq_true rfl)
  rw [lg_entry_eq]
  generalize (lg_sl ([.ref mh, .long p0, .long p1, .long p2, .long p3]) ++ List.replicate (9 - (lg_sl ([.ref mh, .long p0, .long p1, .long p2, .long p3])).length) Slot.unset).toArray = ls at hl ⊢
  have hl : lv_has ls 9 [(0, .ref mh), (1, .long p0), (3, .long p1), (5, .long p2), (7, .long p3)] := hl
  refine lv_aload_n hx hb dX9_byTwo_0 rfl (lv_at hl 0 rfl) ?_
  refine lv_aload_n hx hb dX9_byTwo_1 rfl (lv_at hl 0 rfl) ?_
  refine lv_lload_n hx hb dX9_byTwo_2 rfl (lv_at hl 1 rfl) ?_
  refine lv_lload_n hx hb dX9_byTwo_3 rfl (lv_at hl 2 rfl) ?_
  refine callLV (rest := [.ref mh]) (As := [.long p0, .long p1]) hx hb hml hown htb hK (g_X9_two l D E mh ma mcode mtoday moffs mmany msumW msumA msumR msumWW msumWA msumAA msumWR msumAR mupper mlower mrates mtaped mlaid mat mtk mtkAt mtkNumber mwaits mlisted mdealtMany p0 p1 (by (try dsimp only); omega)) ok_X9_two k_1295 k_1297 ks_50 k_9 k_1298 ⟨(Nat.le_of_ble_eq_true rfl), (Nat.le_of_ble_eq_true rfl)⟩ ⟨(Nat.le_of_ble_eq_true rfl), (Nat.le_of_ble_eq_true rfl)⟩ hl.1 (Nat.le_of_ble_eq_true rfl) rfl rfl dX9_byTwo_4 (hP.sub (ws' := [(mh, .inr (9, G9 ma mcode mtoday moffs mmany msumW msumA msumR msumWW msumWA msumAA msumWR msumAR mupper mlower mrates mtaped mlaid mat mtk mtkAt mtkNumber mwaits mlisted mdealtMany))]) [0] rfl) rfl rfl 0 rfl (fun r_1 hw_2 => ?_)
  refine va_put (D := D) (ci := 9) (v := .long r_1) (ty := .long) (C := RX9) (T := TX9) (N := 68) hx hb htb iX9 tyX9 tyX9_ok nmX9 hown hK.1 hP hD hS 0 rfl rfl 27 (by decide) (htb _ k_985) (fun _ h9 => h9) rfl (by decide +kernel) rfl rfl (Nat.le_of_ble_eq_true rfl) dX9_byTwo_7 (fun H locs hP hD hS => ?_)
  have hP : va_P D vwCl [(mh, .inr (9, G9 ma mcode mtoday moffs mmany msumW msumA msumR msumWW msumWA msumAA msumWR msumAR mupper r_1 mrates mtaped mlaid mat mtk mtkAt mtkNumber mwaits mlisted mdealtMany))] H := hP
  have hD := toW hP hD rfl
  refine lv_aload_n hx hb dX9_byTwo_10 rfl (lv_at hl 0 rfl) ?_
  refine lv_aload_n hx hb dX9_byTwo_11 rfl (lv_at hl 0 rfl) ?_
  refine va_get (D := D) (ci := 9) (v := .long msumR) (C := RX9) (T := TX9) (N := 68) hx hb htb iX9 hown hK.1 hP 0 rfl rfl 20 (by decide) (htb _ k_978) (fun _ h9 => h9) rfl dX9_byTwo_12 ?_
  refine lv_lload_n hx hb dX9_byTwo_15 rfl (lv_at hl 2 rfl) ?_
  refine lv_lmul hx hb dX9_byTwo_16 ?_
  refine lv_topl (fun z_4 ez_4 => ?_)
  refine lv_lload_n hx hb dX9_byTwo_17 rfl (lv_at hl 1 rfl) ?_
  refine lv_lload hx hb dX9_byTwo_18 (lv_at hl 3 rfl) ?_
  refine lv_lmul hx hb dX9_byTwo_20 ?_
  refine lv_topl (fun z_5 ez_5 => ?_)
  refine lv_lsub hx hb dX9_byTwo_21 ?_
  refine lv_topl (fun z_6 ez_6 => ?_)
  refine lv_aload_n hx hb dX9_byTwo_22 rfl (lv_at hl 0 rfl) ?_
  refine va_get (D := D) (ci := 9) (v := .long mmany) (C := RX9) (T := TX9) (N := 68) hx hb htb iX9 hown hK.1 hP 0 rfl rfl 17 (by decide) (htb _ k_975) (fun _ h9 => h9) rfl dX9_byTwo_23 ?_
  refine lv_lload hx hb dX9_byTwo_26 (lv_at hl 3 rfl) ?_
  refine lv_lmul hx hb dX9_byTwo_28 ?_
  refine lv_topl (fun z_7 ez_7 => ?_)
  refine lv_lload_n hx hb dX9_byTwo_29 rfl (lv_at hl 1 rfl) ?_
  refine lv_aload_n hx hb dX9_byTwo_30 rfl (lv_at hl 0 rfl) ?_
  refine va_get (D := D) (ci := 9) (v := .long msumR) (C := RX9) (T := TX9) (N := 68) hx hb htb iX9 hown hK.1 hP 0 rfl rfl 20 (by decide) (htb _ k_978) (fun _ h9 => h9) rfl dX9_byTwo_31 ?_
  refine lv_lmul hx hb dX9_byTwo_34 ?_
  refine lv_topl (fun z_8 ez_8 => ?_)
  refine lv_lsub hx hb dX9_byTwo_35 ?_
  refine lv_topl (fun z_9 ez_9 => ?_)
  refine lv_lload hx hb dX9_byTwo_36 (lv_at hl 4 rfl) ?_
  refine lv_lmul hx hb dX9_byTwo_38 ?_
  refine lv_topl (fun z_10 ez_10 => ?_)
  refine lv_ladd hx hb dX9_byTwo_39 ?_
  refine lv_topl (fun z_11 ez_11 => ?_)
  refine va_put (D := D) (ci := 9) (v := .long z_11) (ty := .long) (C := RX9) (T := TX9) (N := 68) hx hb htb iX9 tyX9 tyX9_ok nmX9 hown hK.1 hP hD hS 0 rfl rfl 26 (by decide) (htb _ k_984) (fun _ h9 => h9) rfl (by decide +kernel) rfl rfl (Nat.le_of_ble_eq_true rfl) dX9_byTwo_40 (fun H locs hP hD hS => ?_)
  have hP : va_P D vwCl [(mh, .inr (9, G9 ma mcode mtoday moffs mmany msumW msumA msumR msumWW msumWA msumAA msumWR msumAR z_11 r_1 mrates mtaped mlaid mat mtk mtkAt mtkNumber mwaits mlisted mdealtMany))] H := hP
  have hD := toW hP hD rfl
  have hP9 := hP.sub (ws' := [(mh, .inr (9, G9 ma mcode mtoday moffs mmany msumW msumA msumR msumWW msumWA msumAA msumWR msumAR z_11 r_1 mrates mtaped mlaid mat mtk mtkAt mtkNumber mwaits mlisted mdealtMany))]) [0] rfl
  have hD9 := hD.sub (ws' := [(mh, .inr (9, G9 ma mcode mtoday moffs mmany msumW msumA msumR msumWW msumWA msumAA msumWR msumAR z_11 r_1 mrates mtaped mlaid mat mtk mtkAt mtkNumber mwaits mlisted mdealtMany))]) [0] (by decide) rfl
  exact W.vret hx hb hr (fun t ht hW => ⟨⟨(r_1, z_11), rfl, ⟨(by (try dsimp only); subst_vars; rfl), (by (try dsimp only); subst_vars; rfl)⟩, by rw [ht]; exact hP9, hD9⟩, hS.F ht⟩) hS.2.2 dX9_byTwo_43
set_option maxHeartbeats 4000000 in
set_option maxRecDepth 100000 in
theorem g_X9_byThree (l : Launch) (D : va_G) (E : Nat → Nat) (mh : Nat) (ma : Nat → Nat) (mcode : Int32) (mtoday : Int32) (moffs : Int32) (mmany : Int64) (msumW : Int64) (msumA : Int64) (msumR : Int64) (msumWW : Int64) (msumWA : Int64) (msumAA : Int64) (msumWR : Int64) (msumAR : Int64) (mupper : Int64) (mlower : Int64) (mrates : Int32) (mtaped : Int32) (mlaid : Int32) (mat : Int32) (mtk : Int32) (mtkAt : Int32) (mtkNumber : Int32) (mwaits : Int32) (mlisted : Int32) (mdealtMany : Int32) (p0 : Int64) (p1 : Int64) (sz : Nat) (hi_m : (0 ≤ mtoday.toInt ∧ mtoday.toInt ≤ 399) ∧ (0 ≤ moffs.toInt ∧ moffs.toInt ≤ 60) ∧ (0 ≤ mrates.toInt ∧ mrates.toInt ≤ 60) ∧ (0 ≤ mtaped.toInt ∧ mtaped.toInt ≤ 120) ∧ (0 ≤ mlisted.toInt ∧ mlisted.toInt ≤ 9) ∧ (0 ≤ mdealtMany.toInt ∧ mdealtMany.toInt ≤ 9)) : Met l yX9_byThree (wl yX9_byThree cX9_byThree 11 none) (RM 1 0 0) (mu_P D E [.ref mh, .long p0, .long p1] [(mh, .inr (9, G9 ma mcode mtoday moffs mmany msumW msumA msumR msumWW msumWA msumAA msumWR msumAR mupper mlower mrates mtaped mlaid mat mtk mtkAt mtkNumber mwaits mlisted mdealtMany))] sz) (va_Qv (fun (u : (Int64) × (Int64)) => (u.1 = thrF mmany msumW msumA msumWW msumWA msumAA) ∧ (u.2 = up3F ((mmany, msumR, msumW, msumA, msumWW, msumAA, msumWA, msumWR, msumAR) : S9) p0 p1)) (mu_B D (va_A [(mh, .inr (9, G9 ma mcode mtoday moffs mmany msumW msumA msumR msumWW msumWA msumAA msumWR msumAR mupper mlower mrates mtaped mlaid mat mtk mtkAt mtkNumber mwaits mlisted mdealtMany))] sz) (fun (u : (Int64) × (Int64)) => [(mh, .inr (9, G9 ma mcode mtoday moffs mmany msumW msumA msumR msumWW msumWA msumAA msumWR msumAR u.2 u.1 mrates mtaped mlaid mat mtk mtkAt mtkNumber mwaits mlisted mdealtMany))])) (va_A [(mh, .inr (9, G9 ma mcode mtoday moffs mmany msumW msumA msumR msumWW msumWA msumAA msumWR msumAR mupper mlower mrates mtaped mlaid mat mtk mtkAt mtkNumber mwaits mlisted mdealtMany))] sz)) 0 0 (va_A [(mh, .inr (9, G9 ma mcode mtoday moffs mmany msumW msumA msumR msumWW msumWA msumAA msumWR msumAR mupper mlower mrates mtaped mlaid mat mtk mtkAt mtkNumber mwaits mlisted mdealtMany))] sz) := by
  refine Met.ofW (cc := cX9_byThree) (maxL := 11) (ret := none) (by decide) rfl ?_
  intro p e s m args below meth c s₁ B hml hv
  obtain ⟨rfl, hsz, hP, hK, hD0⟩ := hv
  have hx := B.exec; have hb := B.bytes; have hr := B.returns
  have hts := atoms_spec (ws := wl yX9_byThree cX9_byThree 11 none) B.pre
  have htb : ∀ w ∈ tb, w.before _ s = true := fun w h => hts w (List.mem_cons_of_mem _ h)
  have hown : s.vm.findClass RX9 = some m.cls := findClass_of_methodNamed B.named
  have hlocks := B.notSynchronized
  subst hsz
  have hD := hD0.self (sz := s.heap.size)
  generalize hAe : va_A [(mh, .inr (9, G9 ma mcode mtoday moffs mmany msumW msumA msumR msumWW msumWA msumAA msumWR msumAR mupper mlower mrates mtaped mlaid mat mtk mtkAt mtkNumber mwaits mlisted mdealtMany))] s.heap.size = A at hD ⊢
  have hA : ∀ q : Nat, s.heap.size ≤ q → A q := fun q h => by rw [← hAe]; exact Or.inr h
  have hS : va_S A s.heap s.heap [] := va_S.rf
  have hP : va_P D vwCl [(mh, .inr (9, G9 ma mcode mtoday moffs mmany msumW msumA msumR msumWW msumWA msumAA msumWR msumAR mupper mlower mrates mtaped mlaid mat mtk mtkAt mtkNumber mwaits mlisted mdealtMany))] s.heap := hP
  have hl := lv_entry ([.ref mh, .long p0, .long p1]) (n := 11) (Nat.le_of_ble_eq_true rfl)
  rw [lg_entry_eq]
  generalize (lg_sl ([.ref mh, .long p0, .long p1]) ++ List.replicate (11 - (lg_sl ([.ref mh, .long p0, .long p1])).length) Slot.unset).toArray = ls at hl ⊢
  have hl : lv_has ls 11 [(0, .ref mh), (1, .long p0), (3, .long p1)] := hl
  refine lv_aload_n hx hb dX9_byThree_0 rfl (lv_at hl 0 rfl) ?_
  refine lv_aload_n hx hb dX9_byThree_1 rfl (lv_at hl 0 rfl) ?_
  refine callLV (rest := [.ref mh]) (As := []) hx hb hml hown htb hK (g_X9_three l D E mh ma mcode mtoday moffs mmany msumW msumA msumR msumWW msumWA msumAA msumWR msumAR mupper mlower mrates mtaped mlaid mat mtk mtkAt mtkNumber mwaits mlisted mdealtMany (by (try dsimp only); omega)) ok_X9_three k_1291 k_1293 ks_49 k_9 k_1294 ⟨(Nat.le_of_ble_eq_true rfl), (Nat.le_of_ble_eq_true rfl)⟩ ⟨(Nat.le_of_ble_eq_true rfl), (Nat.le_of_ble_eq_true rfl)⟩ hl.1 (Nat.le_of_ble_eq_true rfl) rfl rfl dX9_byThree_2 (hP.sub (ws' := [(mh, .inr (9, G9 ma mcode mtoday moffs mmany msumW msumA msumR msumWW msumWA msumAA msumWR msumAR mupper mlower mrates mtaped mlaid mat mtk mtkAt mtkNumber mwaits mlisted mdealtMany))]) [0] rfl) rfl rfl 0 rfl (fun r_1 hw_2 => ?_)
  refine va_put (D := D) (ci := 9) (v := .long r_1) (ty := .long) (C := RX9) (T := TX9) (N := 68) hx hb htb iX9 tyX9 tyX9_ok nmX9 hown hK.1 hP hD hS 0 rfl rfl 27 (by decide) (htb _ k_985) (fun _ h9 => h9) rfl (by decide +kernel) rfl rfl (Nat.le_of_ble_eq_true rfl) dX9_byThree_5 (fun H locs hP hD hS => ?_)
  have hP : va_P D vwCl [(mh, .inr (9, G9 ma mcode mtoday moffs mmany msumW msumA msumR msumWW msumWA msumAA msumWR msumAR mupper r_1 mrates mtaped mlaid mat mtk mtkAt mtkNumber mwaits mlisted mdealtMany))] H := hP
  have hD := toW hP hD rfl
  refine lv_aload_n hx hb dX9_byThree_8 rfl (lv_at hl 0 rfl) ?_
  refine va_get (D := D) (ci := 9) (v := .long msumR) (C := RX9) (T := TX9) (N := 68) hx hb htb iX9 hown hK.1 hP 0 rfl rfl 20 (by decide) (htb _ k_978) (fun _ h9 => h9) rfl dX9_byThree_9 ?_
  refine lv_aload_n hx hb dX9_byThree_12 rfl (lv_at hl 0 rfl) ?_
  refine va_get (D := D) (ci := 9) (v := .long msumWW) (C := RX9) (T := TX9) (N := 68) hx hb htb iX9 hown hK.1 hP 0 rfl rfl 21 (by decide) (htb _ k_979) (fun _ h9 => h9) rfl dX9_byThree_13 ?_
  refine lv_aload_n hx hb dX9_byThree_16 rfl (lv_at hl 0 rfl) ?_
  refine va_get (D := D) (ci := 9) (v := .long msumAA) (C := RX9) (T := TX9) (N := 68) hx hb htb iX9 hown hK.1 hP 0 rfl rfl 23 (by decide) (htb _ k_981) (fun _ h9 => h9) rfl dX9_byThree_17 ?_
  refine lv_lmul hx hb dX9_byThree_20 ?_
  refine lv_topl (fun z_4 ez_4 => ?_)
  refine lv_aload_n hx hb dX9_byThree_21 rfl (lv_at hl 0 rfl) ?_
  refine va_get (D := D) (ci := 9) (v := .long msumWA) (C := RX9) (T := TX9) (N := 68) hx hb htb iX9 hown hK.1 hP 0 rfl rfl 22 (by decide) (htb _ k_980) (fun _ h9 => h9) rfl dX9_byThree_22 ?_
  refine lv_aload_n hx hb dX9_byThree_25 rfl (lv_at hl 0 rfl) ?_
  refine va_get (D := D) (ci := 9) (v := .long msumWA) (C := RX9) (T := TX9) (N := 68) hx hb htb iX9 hown hK.1 hP 0 rfl rfl 22 (by decide) (htb _ k_980) (fun _ h9 => h9) rfl dX9_byThree_26 ?_
  refine lv_lmul hx hb dX9_byThree_29 ?_
  refine lv_topl (fun z_5 ez_5 => ?_)
  refine lv_lsub hx hb dX9_byThree_30 ?_
  refine lv_topl (fun z_6 ez_6 => ?_)
  refine lv_lmul hx hb dX9_byThree_31 ?_
  refine lv_topl (fun z_7 ez_7 => ?_)
  refine lv_aload_n hx hb dX9_byThree_32 rfl (lv_at hl 0 rfl) ?_
  refine va_get (D := D) (ci := 9) (v := .long msumW) (C := RX9) (T := TX9) (N := 68) hx hb htb iX9 hown hK.1 hP 0 rfl rfl 18 (by decide) (htb _ k_976) (fun _ h9 => h9) rfl dX9_byThree_33 ?_
  refine lv_aload_n hx hb dX9_byThree_36 rfl (lv_at hl 0 rfl) ?_
  refine va_get (D := D) (ci := 9) (v := .long msumWR) (C := RX9) (T := TX9) (N := 68) hx hb htb iX9 hown hK.1 hP 0 rfl rfl 24 (by decide) (htb _ k_982) (fun _ h9 => h9) rfl dX9_byThree_37 ?_
  refine lv_aload_n hx hb dX9_byThree_40 rfl (lv_at hl 0 rfl) ?_
  refine va_get (D := D) (ci := 9) (v := .long msumAA) (C := RX9) (T := TX9) (N := 68) hx hb htb iX9 hown hK.1 hP 0 rfl rfl 23 (by decide) (htb _ k_981) (fun _ h9 => h9) rfl dX9_byThree_41 ?_
  refine lv_lmul hx hb dX9_byThree_44 ?_
  refine lv_topl (fun z_8 ez_8 => ?_)
  refine lv_aload_n hx hb dX9_byThree_45 rfl (lv_at hl 0 rfl) ?_
  refine va_get (D := D) (ci := 9) (v := .long msumWA) (C := RX9) (T := TX9) (N := 68) hx hb htb iX9 hown hK.1 hP 0 rfl rfl 22 (by decide) (htb _ k_980) (fun _ h9 => h9) rfl dX9_byThree_46 ?_
  refine lv_aload_n hx hb dX9_byThree_49 rfl (lv_at hl 0 rfl) ?_
  refine va_get (D := D) (ci := 9) (v := .long msumAR) (C := RX9) (T := TX9) (N := 68) hx hb htb iX9 hown hK.1 hP 0 rfl rfl 25 (by decide) (htb _ k_983) (fun _ h9 => h9) rfl dX9_byThree_50 ?_
  refine lv_lmul hx hb dX9_byThree_53 ?_
  refine lv_topl (fun z_9 ez_9 => ?_)
  refine lv_lsub hx hb dX9_byThree_54 ?_
  refine lv_topl (fun z_10 ez_10 => ?_)
  refine lv_lmul hx hb dX9_byThree_55 ?_
  refine lv_topl (fun z_11 ez_11 => ?_)
  refine lv_lsub hx hb dX9_byThree_56 ?_
  refine lv_topl (fun z_12 ez_12 => ?_)
  refine lv_aload_n hx hb dX9_byThree_57 rfl (lv_at hl 0 rfl) ?_
  refine va_get (D := D) (ci := 9) (v := .long msumA) (C := RX9) (T := TX9) (N := 68) hx hb htb iX9 hown hK.1 hP 0 rfl rfl 19 (by decide) (htb _ k_977) (fun _ h9 => h9) rfl dX9_byThree_58 ?_
  refine lv_aload_n hx hb dX9_byThree_61 rfl (lv_at hl 0 rfl) ?_
  refine va_get (D := D) (ci := 9) (v := .long msumWR) (C := RX9) (T := TX9) (N := 68) hx hb htb iX9 hown hK.1 hP 0 rfl rfl 24 (by decide) (htb _ k_982) (fun _ h9 => h9) rfl dX9_byThree_62 ?_
  refine lv_aload_n hx hb dX9_byThree_65 rfl (lv_at hl 0 rfl) ?_
  refine va_get (D := D) (ci := 9) (v := .long msumWA) (C := RX9) (T := TX9) (N := 68) hx hb htb iX9 hown hK.1 hP 0 rfl rfl 22 (by decide) (htb _ k_980) (fun _ h9 => h9) rfl dX9_byThree_66 ?_
  refine lv_lmul hx hb dX9_byThree_69 ?_
  refine lv_topl (fun z_13 ez_13 => ?_)
  refine lv_aload_n hx hb dX9_byThree_70 rfl (lv_at hl 0 rfl) ?_
  refine va_get (D := D) (ci := 9) (v := .long msumWW) (C := RX9) (T := TX9) (N := 68) hx hb htb iX9 hown hK.1 hP 0 rfl rfl 21 (by decide) (htb _ k_979) (fun _ h9 => h9) rfl dX9_byThree_71 ?_
  refine lv_aload_n hx hb dX9_byThree_74 rfl (lv_at hl 0 rfl) ?_
  refine va_get (D := D) (ci := 9) (v := .long msumAR) (C := RX9) (T := TX9) (N := 68) hx hb htb iX9 hown hK.1 hP 0 rfl rfl 25 (by decide) (htb _ k_983) (fun _ h9 => h9) rfl dX9_byThree_75 ?_
  refine lv_lmul hx hb dX9_byThree_78 ?_
  refine lv_topl (fun z_14 ez_14 => ?_)
  refine lv_lsub hx hb dX9_byThree_79 ?_
  refine lv_topl (fun z_15 ez_15 => ?_)
  refine lv_lmul hx hb dX9_byThree_80 ?_
  refine lv_topl (fun z_16 ez_16 => ?_)
  refine lv_ladd hx hb dX9_byThree_81 ?_
  refine lv_topl (fun z_17 ez_17 => ?_)
  refine lv_lstore (lv' := [(5, .long z_17), (0, .ref mh), (1, .long p0), (3, .long p1)]) hx hb dX9_byThree_82 hl (by decide) rfl (fun ls hl => ?_)
  refine lv_aload_n hx hb dX9_byThree_84 rfl (lv_at hl 1 rfl) ?_
  refine va_get (D := D) (ci := 9) (v := .long mmany) (C := RX9) (T := TX9) (N := 68) hx hb htb iX9 hown hK.1 hP 0 rfl rfl 17 (by decide) (htb _ k_975) (fun _ h9 => h9) rfl dX9_byThree_85 ?_
  refine lv_aload_n hx hb dX9_byThree_88 rfl (lv_at hl 1 rfl) ?_
  refine va_get (D := D) (ci := 9) (v := .long msumWR) (C := RX9) (T := TX9) (N := 68) hx hb htb iX9 hown hK.1 hP 0 rfl rfl 24 (by decide) (htb _ k_982) (fun _ h9 => h9) rfl dX9_byThree_89 ?_
  refine lv_aload_n hx hb dX9_byThree_92 rfl (lv_at hl 1 rfl) ?_
  refine va_get (D := D) (ci := 9) (v := .long msumAA) (C := RX9) (T := TX9) (N := 68) hx hb htb iX9 hown hK.1 hP 0 rfl rfl 23 (by decide) (htb _ k_981) (fun _ h9 => h9) rfl dX9_byThree_93 ?_
  refine lv_lmul hx hb dX9_byThree_96 ?_
  refine lv_topl (fun z_18 ez_18 => ?_)
  refine lv_aload_n hx hb dX9_byThree_97 rfl (lv_at hl 1 rfl) ?_
  refine va_get (D := D) (ci := 9) (v := .long msumWA) (C := RX9) (T := TX9) (N := 68) hx hb htb iX9 hown hK.1 hP 0 rfl rfl 22 (by decide) (htb _ k_980) (fun _ h9 => h9) rfl dX9_byThree_98 ?_
  refine lv_aload_n hx hb dX9_byThree_101 rfl (lv_at hl 1 rfl) ?_
  refine va_get (D := D) (ci := 9) (v := .long msumAR) (C := RX9) (T := TX9) (N := 68) hx hb htb iX9 hown hK.1 hP 0 rfl rfl 25 (by decide) (htb _ k_983) (fun _ h9 => h9) rfl dX9_byThree_102 ?_
  refine lv_lmul hx hb dX9_byThree_105 ?_
  refine lv_topl (fun z_19 ez_19 => ?_)
  refine lv_lsub hx hb dX9_byThree_106 ?_
  refine lv_topl (fun z_20 ez_20 => ?_)
  refine lv_lmul hx hb dX9_byThree_107 ?_
  refine lv_topl (fun z_21 ez_21 => ?_)
  refine lv_aload_n hx hb dX9_byThree_108 rfl (lv_at hl 1 rfl) ?_
  refine va_get (D := D) (ci := 9) (v := .long msumR) (C := RX9) (T := TX9) (N := 68) hx hb htb iX9 hown hK.1 hP 0 rfl rfl 20 (by decide) (htb _ k_978) (fun _ h9 => h9) rfl dX9_byThree_109 ?_
  refine lv_aload_n hx hb dX9_byThree_112 rfl (lv_at hl 1 rfl) ?_
  refine va_get (D := D) (ci := 9) (v := .long msumW) (C := RX9) (T := TX9) (N := 68) hx hb htb iX9 hown hK.1 hP 0 rfl rfl 18 (by decide) (htb _ k_976) (fun _ h9 => h9) rfl dX9_byThree_113 ?_
  refine lv_aload_n hx hb dX9_byThree_116 rfl (lv_at hl 1 rfl) ?_
  refine va_get (D := D) (ci := 9) (v := .long msumAA) (C := RX9) (T := TX9) (N := 68) hx hb htb iX9 hown hK.1 hP 0 rfl rfl 23 (by decide) (htb _ k_981) (fun _ h9 => h9) rfl dX9_byThree_117 ?_
  refine lv_lmul hx hb dX9_byThree_120 ?_
  refine lv_topl (fun z_22 ez_22 => ?_)
  refine lv_aload_n hx hb dX9_byThree_121 rfl (lv_at hl 1 rfl) ?_
  refine va_get (D := D) (ci := 9) (v := .long msumWA) (C := RX9) (T := TX9) (N := 68) hx hb htb iX9 hown hK.1 hP 0 rfl rfl 22 (by decide) (htb _ k_980) (fun _ h9 => h9) rfl dX9_byThree_122 ?_
  refine lv_aload_n hx hb dX9_byThree_125 rfl (lv_at hl 1 rfl) ?_
  refine va_get (D := D) (ci := 9) (v := .long msumA) (C := RX9) (T := TX9) (N := 68) hx hb htb iX9 hown hK.1 hP 0 rfl rfl 19 (by decide) (htb _ k_977) (fun _ h9 => h9) rfl dX9_byThree_126 ?_
  refine lv_lmul hx hb dX9_byThree_129 ?_
  refine lv_topl (fun z_23 ez_23 => ?_)
  refine lv_lsub hx hb dX9_byThree_130 ?_
  refine lv_topl (fun z_24 ez_24 => ?_)
  refine lv_lmul hx hb dX9_byThree_131 ?_
  refine lv_topl (fun z_25 ez_25 => ?_)
  refine lv_lsub hx hb dX9_byThree_132 ?_
  refine lv_topl (fun z_26 ez_26 => ?_)
  refine lv_aload_n hx hb dX9_byThree_133 rfl (lv_at hl 1 rfl) ?_
  refine va_get (D := D) (ci := 9) (v := .long msumA) (C := RX9) (T := TX9) (N := 68) hx hb htb iX9 hown hK.1 hP 0 rfl rfl 19 (by decide) (htb _ k_977) (fun _ h9 => h9) rfl dX9_byThree_134 ?_
  refine lv_aload_n hx hb dX9_byThree_137 rfl (lv_at hl 1 rfl) ?_
  refine va_get (D := D) (ci := 9) (v := .long msumW) (C := RX9) (T := TX9) (N := 68) hx hb htb iX9 hown hK.1 hP 0 rfl rfl 18 (by decide) (htb _ k_976) (fun _ h9 => h9) rfl dX9_byThree_138 ?_
  refine lv_aload_n hx hb dX9_byThree_141 rfl (lv_at hl 1 rfl) ?_
  refine va_get (D := D) (ci := 9) (v := .long msumAR) (C := RX9) (T := TX9) (N := 68) hx hb htb iX9 hown hK.1 hP 0 rfl rfl 25 (by decide) (htb _ k_983) (fun _ h9 => h9) rfl dX9_byThree_142 ?_
  refine lv_lmul hx hb dX9_byThree_145 ?_
  refine lv_topl (fun z_27 ez_27 => ?_)
  refine lv_aload_n hx hb dX9_byThree_146 rfl (lv_at hl 1 rfl) ?_
  refine va_get (D := D) (ci := 9) (v := .long msumWR) (C := RX9) (T := TX9) (N := 68) hx hb htb iX9 hown hK.1 hP 0 rfl rfl 24 (by decide) (htb _ k_982) (fun _ h9 => h9) rfl dX9_byThree_147 ?_
  refine lv_aload_n hx hb dX9_byThree_150 rfl (lv_at hl 1 rfl) ?_
  refine va_get (D := D) (ci := 9) (v := .long msumA) (C := RX9) (T := TX9) (N := 68) hx hb htb iX9 hown hK.1 hP 0 rfl rfl 19 (by decide) (htb _ k_977) (fun _ h9 => h9) rfl dX9_byThree_151 ?_
  refine lv_lmul hx hb dX9_byThree_154 ?_
  refine lv_topl (fun z_28 ez_28 => ?_)
  refine lv_lsub hx hb dX9_byThree_155 ?_
  refine lv_topl (fun z_29 ez_29 => ?_)
  refine lv_lmul hx hb dX9_byThree_156 ?_
  refine lv_topl (fun z_30 ez_30 => ?_)
  refine lv_ladd hx hb dX9_byThree_157 ?_
  refine lv_topl (fun z_31 ez_31 => ?_)
  refine lv_lstore (lv' := [(7, .long z_31), (5, .long z_17), (0, .ref mh), (1, .long p0), (3, .long p1)]) hx hb dX9_byThree_158 hl (by decide) rfl (fun ls hl => ?_)
  refine lv_aload_n hx hb dX9_byThree_160 rfl (lv_at hl 2 rfl) ?_
  refine va_get (D := D) (ci := 9) (v := .long mmany) (C := RX9) (T := TX9) (N := 68) hx hb htb iX9 hown hK.1 hP 0 rfl rfl 17 (by decide) (htb _ k_975) (fun _ h9 => h9) rfl dX9_byThree_161 ?_
  refine lv_aload_n hx hb dX9_byThree_164 rfl (lv_at hl 2 rfl) ?_
  refine va_get (D := D) (ci := 9) (v := .long msumWW) (C := RX9) (T := TX9) (N := 68) hx hb htb iX9 hown hK.1 hP 0 rfl rfl 21 (by decide) (htb _ k_979) (fun _ h9 => h9) rfl dX9_byThree_165 ?_
  refine lv_aload_n hx hb dX9_byThree_168 rfl (lv_at hl 2 rfl) ?_
  refine va_get (D := D) (ci := 9) (v := .long msumAR) (C := RX9) (T := TX9) (N := 68) hx hb htb iX9 hown hK.1 hP 0 rfl rfl 25 (by decide) (htb _ k_983) (fun _ h9 => h9) rfl dX9_byThree_169 ?_
  refine lv_lmul hx hb dX9_byThree_172 ?_
  refine lv_topl (fun z_32 ez_32 => ?_)
  refine lv_aload_n hx hb dX9_byThree_173 rfl (lv_at hl 2 rfl) ?_
  refine va_get (D := D) (ci := 9) (v := .long msumWR) (C := RX9) (T := TX9) (N := 68) hx hb htb iX9 hown hK.1 hP 0 rfl rfl 24 (by decide) (htb _ k_982) (fun _ h9 => h9) rfl dX9_byThree_174 ?_
  refine lv_aload_n hx hb dX9_byThree_177 rfl (lv_at hl 2 rfl) ?_
  refine va_get (D := D) (ci := 9) (v := .long msumWA) (C := RX9) (T := TX9) (N := 68) hx hb htb iX9 hown hK.1 hP 0 rfl rfl 22 (by decide) (htb _ k_980) (fun _ h9 => h9) rfl dX9_byThree_178 ?_
  refine lv_lmul hx hb dX9_byThree_181 ?_
  refine lv_topl (fun z_33 ez_33 => ?_)
  refine lv_lsub hx hb dX9_byThree_182 ?_
  refine lv_topl (fun z_34 ez_34 => ?_)
  refine lv_lmul hx hb dX9_byThree_183 ?_
  refine lv_topl (fun z_35 ez_35 => ?_)
  refine lv_aload_n hx hb dX9_byThree_184 rfl (lv_at hl 2 rfl) ?_
  refine va_get (D := D) (ci := 9) (v := .long msumW) (C := RX9) (T := TX9) (N := 68) hx hb htb iX9 hown hK.1 hP 0 rfl rfl 18 (by decide) (htb _ k_976) (fun _ h9 => h9) rfl dX9_byThree_185 ?_
  refine lv_aload_n hx hb dX9_byThree_188 rfl (lv_at hl 2 rfl) ?_
  refine va_get (D := D) (ci := 9) (v := .long msumW) (C := RX9) (T := TX9) (N := 68) hx hb htb iX9 hown hK.1 hP 0 rfl rfl 18 (by decide) (htb _ k_976) (fun _ h9 => h9) rfl dX9_byThree_189 ?_
  refine lv_aload_n hx hb dX9_byThree_192 rfl (lv_at hl 2 rfl) ?_
  refine va_get (D := D) (ci := 9) (v := .long msumAR) (C := RX9) (T := TX9) (N := 68) hx hb htb iX9 hown hK.1 hP 0 rfl rfl 25 (by decide) (htb _ k_983) (fun _ h9 => h9) rfl dX9_byThree_193 ?_
  refine lv_lmul hx hb dX9_byThree_196 ?_
  refine lv_topl (fun z_36 ez_36 => ?_)
  refine lv_aload_n hx hb dX9_byThree_197 rfl (lv_at hl 2 rfl) ?_
  refine va_get (D := D) (ci := 9) (v := .long msumWR) (C := RX9) (T := TX9) (N := 68) hx hb htb iX9 hown hK.1 hP 0 rfl rfl 24 (by decide) (htb _ k_982) (fun _ h9 => h9) rfl dX9_byThree_198 ?_
  refine lv_aload_n hx hb dX9_byThree_201 rfl (lv_at hl 2 rfl) ?_
  refine va_get (D := D) (ci := 9) (v := .long msumA) (C := RX9) (T := TX9) (N := 68) hx hb htb iX9 hown hK.1 hP 0 rfl rfl 19 (by decide) (htb _ k_977) (fun _ h9 => h9) rfl dX9_byThree_202 ?_
  refine lv_lmul hx hb dX9_byThree_205 ?_
  refine lv_topl (fun z_37 ez_37 => ?_)
  refine lv_lsub hx hb dX9_byThree_206 ?_
  refine lv_topl (fun z_38 ez_38 => ?_)
  refine lv_lmul hx hb dX9_byThree_207 ?_
  refine lv_topl (fun z_39 ez_39 => ?_)
  refine lv_lsub hx hb dX9_byThree_208 ?_
  refine lv_topl (fun z_40 ez_40 => ?_)
  refine lv_aload_n hx hb dX9_byThree_209 rfl (lv_at hl 2 rfl) ?_
  refine va_get (D := D) (ci := 9) (v := .long msumR) (C := RX9) (T := TX9) (N := 68) hx hb htb iX9 hown hK.1 hP 0 rfl rfl 20 (by decide) (htb _ k_978) (fun _ h9 => h9) rfl dX9_byThree_210 ?_
  refine lv_aload_n hx hb dX9_byThree_213 rfl (lv_at hl 2 rfl) ?_
  refine va_get (D := D) (ci := 9) (v := .long msumW) (C := RX9) (T := TX9) (N := 68) hx hb htb iX9 hown hK.1 hP 0 rfl rfl 18 (by decide) (htb _ k_976) (fun _ h9 => h9) rfl dX9_byThree_214 ?_
  refine lv_aload_n hx hb dX9_byThree_217 rfl (lv_at hl 2 rfl) ?_
  refine va_get (D := D) (ci := 9) (v := .long msumWA) (C := RX9) (T := TX9) (N := 68) hx hb htb iX9 hown hK.1 hP 0 rfl rfl 22 (by decide) (htb _ k_980) (fun _ h9 => h9) rfl dX9_byThree_218 ?_
  refine lv_lmul hx hb dX9_byThree_221 ?_
  refine lv_topl (fun z_41 ez_41 => ?_)
  refine lv_aload_n hx hb dX9_byThree_222 rfl (lv_at hl 2 rfl) ?_
  refine va_get (D := D) (ci := 9) (v := .long msumWW) (C := RX9) (T := TX9) (N := 68) hx hb htb iX9 hown hK.1 hP 0 rfl rfl 21 (by decide) (htb _ k_979) (fun _ h9 => h9) rfl dX9_byThree_223 ?_
  refine lv_aload_n hx hb dX9_byThree_226 rfl (lv_at hl 2 rfl) ?_
  refine va_get (D := D) (ci := 9) (v := .long msumA) (C := RX9) (T := TX9) (N := 68) hx hb htb iX9 hown hK.1 hP 0 rfl rfl 19 (by decide) (htb _ k_977) (fun _ h9 => h9) rfl dX9_byThree_227 ?_
  refine lv_lmul hx hb dX9_byThree_230 ?_
  refine lv_topl (fun z_42 ez_42 => ?_)
  refine lv_lsub hx hb dX9_byThree_231 ?_
  refine lv_topl (fun z_43 ez_43 => ?_)
  refine lv_lmul hx hb dX9_byThree_232 ?_
  refine lv_topl (fun z_44 ez_44 => ?_)
  refine lv_ladd hx hb dX9_byThree_233 ?_
  refine lv_topl (fun z_45 ez_45 => ?_)
  refine lv_lstore (lv' := [(9, .long z_45), (7, .long z_31), (5, .long z_17), (0, .ref mh), (1, .long p0), (3, .long p1)]) hx hb dX9_byThree_234 hl (by decide) rfl (fun ls hl => ?_)
  refine lv_aload_n hx hb dX9_byThree_236 rfl (lv_at hl 3 rfl) ?_
  refine lv_lload hx hb dX9_byThree_237 (lv_at hl 2 rfl) ?_
  refine lv_lload hx hb dX9_byThree_239 (lv_at hl 1 rfl) ?_
  refine lv_lload_n hx hb dX9_byThree_241 rfl (lv_at hl 4 rfl) ?_
  refine lv_lmul hx hb dX9_byThree_242 ?_
  refine lv_topl (fun z_46 ez_46 => ?_)
  refine lv_ladd hx hb dX9_byThree_243 ?_
  refine lv_topl (fun z_47 ez_47 => ?_)
  refine lv_lload hx hb dX9_byThree_244 (lv_at hl 0 rfl) ?_
  refine lv_lload_n hx hb dX9_byThree_246 rfl (lv_at hl 5 rfl) ?_
  refine lv_lmul hx hb dX9_byThree_247 ?_
  refine lv_topl (fun z_48 ez_48 => ?_)
  refine lv_ladd hx hb dX9_byThree_248 ?_
  refine lv_topl (fun z_49 ez_49 => ?_)
  refine va_put (D := D) (ci := 9) (v := .long z_49) (ty := .long) (C := RX9) (T := TX9) (N := 68) hx hb htb iX9 tyX9 tyX9_ok nmX9 hown hK.1 hP hD hS 0 rfl rfl 26 (by decide) (htb _ k_984) (fun _ h9 => h9) rfl (by decide +kernel) rfl rfl (Nat.le_of_ble_eq_true rfl) dX9_byThree_249 (fun H locs hP hD hS => ?_)
  have hP : va_P D vwCl [(mh, .inr (9, G9 ma mcode mtoday moffs mmany msumW msumA msumR msumWW msumWA msumAA msumWR msumAR z_49 r_1 mrates mtaped mlaid mat mtk mtkAt mtkNumber mwaits mlisted mdealtMany))] H := hP
  have hD := toW hP hD rfl
  have hP9 := hP.sub (ws' := [(mh, .inr (9, G9 ma mcode mtoday moffs mmany msumW msumA msumR msumWW msumWA msumAA msumWR msumAR z_49 r_1 mrates mtaped mlaid mat mtk mtkAt mtkNumber mwaits mlisted mdealtMany))]) [0] rfl
  have hD9 := hD.sub (ws' := [(mh, .inr (9, G9 ma mcode mtoday moffs mmany msumW msumA msumR msumWW msumWA msumAA msumWR msumAR z_49 r_1 mrates mtaped mlaid mat mtk mtkAt mtkNumber mwaits mlisted mdealtMany))]) [0] (by decide) rfl
  exact W.vret hx hb hr (fun t ht hW => ⟨⟨(r_1, z_49), rfl, ⟨(by (try dsimp only); subst_vars; rfl), (by (try dsimp only); subst_vars; rfl)⟩, by rw [ht]; exact hP9, hD9⟩, hS.F ht⟩) hS.2.2 dX9_byThree_252
set_option maxHeartbeats 4000000 in
set_option maxRecDepth 100000 in
theorem g_X9_foretold (l : Launch) (D : va_G) (E : Nat → Nat) (mh : Nat) (ma : Nat → Nat) (mcode : Int32) (mtoday : Int32) (moffs : Int32) (mmany : Int64) (msumW : Int64) (msumA : Int64) (msumR : Int64) (msumWW : Int64) (msumWA : Int64) (msumAA : Int64) (msumWR : Int64) (msumAR : Int64) (mupper : Int64) (mlower : Int64) (mrates : Int32) (mtaped : Int32) (mlaid : Int32) (mat : Int32) (mtk : Int32) (mtkAt : Int32) (mtkNumber : Int32) (mwaits : Int32) (mlisted : Int32) (mdealtMany : Int32) (mf2 : Nat → Int32) (mf3 : Nat → Int32) (mf4 : Nat → Int32) (mf5 : Nat → Int32) (mf6 : Nat → Int32) (mf7 : Nat → Int32) (mf8 : Nat → Int32) (mf9 : Nat → Int32) (mf12 : Nat → Int32) (mf13 : Nat → Int32) (mf14 : Nat → Int32) (mf15 : Nat → Int32) (mf16 : Nat → Int32) (p0 : Int32) (p1 : Int32) (p2 : Int32) (p3 : Int32) (p4 : Int32) (sz : Nat) (hi_m : (0 ≤ mtoday.toInt ∧ mtoday.toInt ≤ 399) ∧ (0 ≤ moffs.toInt ∧ moffs.toInt ≤ 60) ∧ (0 ≤ mrates.toInt ∧ mrates.toInt ≤ 60) ∧ (0 ≤ mtaped.toInt ∧ mtaped.toInt ≤ 120) ∧ (0 ≤ mlisted.toInt ∧ mlisted.toInt ≤ 9) ∧ (0 ≤ mdealtMany.toInt ∧ mdealtMany.toInt ≤ 9)) : Met l yX9_foretold (wl yX9_foretold cX9_foretold 10 (some .int)) (RM 4 0 0) (mu_P D E [.ref mh, .int p0, .int p1, .int p2, .int p3, .int p4] [(mh, .inr (9, G9 ma mcode mtoday moffs mmany msumW msumA msumR msumWW msumWA msumAA msumWR msumAR mupper mlower mrates mtaped mlaid mat mtk mtkAt mtkNumber mwaits mlisted mdealtMany)), ((ma 2), .inl (E 0, 400, .inl mf2)), ((ma 3), .inl (E 0, 16, .inl mf3)), ((ma 4), .inl (E 0, 16, .inl mf4)), ((ma 5), .inl (E 1, 6400, .inl mf5)), ((ma 6), .inl (E 0, 6400, .inl mf6)), ((ma 7), .inl (E 0, 6400, .inl mf7)), ((ma 8), .inl (E 1, 6400, .inl mf8)), ((ma 9), .inl (E 1, 6400, .inl mf9)), ((ma 12), .inl (E 0, 60, .inl mf12)), ((ma 13), .inl (E 0, 60, .inl mf13)), ((ma 14), .inl (E 0, 60, .inl mf14)), ((ma 15), .inl (E 0, 60, .inl mf15)), ((ma 16), .inl (E 0, 60, .inl mf16))] sz) (va_Qi (fun (r : Int32) (u : (Int64) × (Int64) × (Int64) × (Int64) × (Int64) × (Int64) × (Int64) × (Int64) × (Int64) × (Int64) × (Int64)) => ((¬ (((0 ≤ p0.toInt ∧ p0.toInt ≤ 15) ∧ (0 ≤ p1.toInt ∧ p2.toInt ≤ 399 ∧ p1.toInt < p2.toInt ∧ p2.toInt - p1.toInt ≤ 60)) ∧ ((mf3 (p0).toNatClampNeg).toInt ≠ -5 ∧ (mf3 (p0).toNatClampNeg).toInt ≠ 2) ∧ (-50 ≤ p3.toInt ∧ p3.toInt ≤ 50) ∧ (0 ≤ p4.toInt ∧ p4.toInt ≤ 399)) ∧ r.toInt = -2000000000) ∨ ((((0 ≤ p0.toInt ∧ p0.toInt ≤ 15) ∧ (0 ≤ p1.toInt ∧ p2.toInt ≤ 399 ∧ p1.toInt < p2.toInt ∧ p2.toInt - p1.toInt ≤ 60)) ∧ ((mf3 (p0).toNatClampNeg).toInt ≠ -5 ∧ (mf3 (p0).toNatClampNeg).toInt ≠ 2) ∧ (-50 ≤ p3.toInt ∧ p3.toInt ≤ 50) ∧ (0 ≤ p4.toInt ∧ p4.toInt ≤ 399)) ∧ (fold9 (fun d => wmF mf3 mf4 mf2 p0 d) (fun d => agI mf8 (400 * p0.toInt).toNat d) (-1000) (rateL (fun d => ratF mf5 mf6 mf7 mf8 mf9 mf12 mf13 mf14 mf15 mf16 moffs p0 d (-1)) p1 (p2.toInt - p1.toInt).toNat)).1 = 0 ∧ r.toInt = -2000000000) ∨ ((((0 ≤ p0.toInt ∧ p0.toInt ≤ 15) ∧ (0 ≤ p1.toInt ∧ p2.toInt ≤ 399 ∧ p1.toInt < p2.toInt ∧ p2.toInt - p1.toInt ≤ 60)) ∧ ((mf3 (p0).toNatClampNeg).toInt ≠ -5 ∧ (mf3 (p0).toNatClampNeg).toInt ≠ 2) ∧ (-50 ≤ p3.toInt ∧ p3.toInt ≤ 50) ∧ (0 ≤ p4.toInt ∧ p4.toInt ≤ 399)) ∧ ¬ (fold9 (fun d => wmF mf3 mf4 mf2 p0 d) (fun d => agI mf8 (400 * p0.toInt).toNat d) (-1000) (rateL (fun d => ratF mf5 mf6 mf7 mf8 mf9 mf12 mf13 mf14 mf15 mf16 moffs p0 d (-1)) p1 (p2.toInt - p1.toInt).toNat)).1 = 0 ∧ FRM (fold9 (fun d => wmF mf3 mf4 mf2 p0 d) (fun d => agI mf8 (400 * p0.toInt).toNat d) (-1000) (rateL (fun d => ratF mf5 mf6 mf7 mf8 mf9 mf12 mf13 mf14 mf15 mf16 moffs p0 d (-1)) p1 (p2.toInt - p1.toInt).toNat)) p3 p4 r))) (mu_B D (va_A [(mh, .inr (9, G9 ma mcode mtoday moffs mmany msumW msumA msumR msumWW msumWA msumAA msumWR msumAR mupper mlower mrates mtaped mlaid mat mtk mtkAt mtkNumber mwaits mlisted mdealtMany)), ((ma 2), .inl (E 0, 400, .inl mf2)), ((ma 3), .inl (E 0, 16, .inl mf3)), ((ma 4), .inl (E 0, 16, .inl mf4)), ((ma 5), .inl (E 1, 6400, .inl mf5)), ((ma 6), .inl (E 0, 6400, .inl mf6)), ((ma 7), .inl (E 0, 6400, .inl mf7)), ((ma 8), .inl (E 1, 6400, .inl mf8)), ((ma 9), .inl (E 1, 6400, .inl mf9)), ((ma 12), .inl (E 0, 60, .inl mf12)), ((ma 13), .inl (E 0, 60, .inl mf13)), ((ma 14), .inl (E 0, 60, .inl mf14)), ((ma 15), .inl (E 0, 60, .inl mf15)), ((ma 16), .inl (E 0, 60, .inl mf16))] sz) (fun (u : (Int64) × (Int64) × (Int64) × (Int64) × (Int64) × (Int64) × (Int64) × (Int64) × (Int64) × (Int64) × (Int64)) => [(mh, .inr (9, G9 ma mcode mtoday moffs u.2.1 u.2.2.2.2.2.2.1 u.2.2.1 u.2.2.2.2.2.1 u.2.2.2.2.2.2.2.2.2.1 u.2.2.2.2.2.2.2.1 u.2.2.2.1 u.2.2.2.2.2.2.2.2.1 u.2.2.2.2.1 u.2.2.2.2.2.2.2.2.2.2 u.1 mrates mtaped mlaid mat mtk mtkAt mtkNumber mwaits mlisted mdealtMany)), ((ma 2), .inl (E 0, 400, .inl mf2)), ((ma 3), .inl (E 0, 16, .inl mf3)), ((ma 4), .inl (E 0, 16, .inl mf4)), ((ma 5), .inl (E 1, 6400, .inl mf5)), ((ma 6), .inl (E 0, 6400, .inl mf6)), ((ma 7), .inl (E 0, 6400, .inl mf7)), ((ma 8), .inl (E 1, 6400, .inl mf8)), ((ma 9), .inl (E 1, 6400, .inl mf9)), ((ma 12), .inl (E 0, 60, .inl mf12)), ((ma 13), .inl (E 0, 60, .inl mf13)), ((ma 14), .inl (E 0, 60, .inl mf14)), ((ma 15), .inl (E 0, 60, .inl mf15)), ((ma 16), .inl (E 0, 60, .inl mf16))])) (va_A [(mh, .inr (9, G9 ma mcode mtoday moffs mmany msumW msumA msumR msumWW msumWA msumAA msumWR msumAR mupper mlower mrates mtaped mlaid mat mtk mtkAt mtkNumber mwaits mlisted mdealtMany)), ((ma 2), .inl (E 0, 400, .inl mf2)), ((ma 3), .inl (E 0, 16, .inl mf3)), ((ma 4), .inl (E 0, 16, .inl mf4)), ((ma 5), .inl (E 1, 6400, .inl mf5)), ((ma 6), .inl (E 0, 6400, .inl mf6)), ((ma 7), .inl (E 0, 6400, .inl mf7)), ((ma 8), .inl (E 1, 6400, .inl mf8)), ((ma 9), .inl (E 1, 6400, .inl mf9)), ((ma 12), .inl (E 0, 60, .inl mf12)), ((ma 13), .inl (E 0, 60, .inl mf13)), ((ma 14), .inl (E 0, 60, .inl mf14)), ((ma 15), .inl (E 0, 60, .inl mf15)), ((ma 16), .inl (E 0, 60, .inl mf16))] sz)) 0 0 (va_A [(mh, .inr (9, G9 ma mcode mtoday moffs mmany msumW msumA msumR msumWW msumWA msumAA msumWR msumAR mupper mlower mrates mtaped mlaid mat mtk mtkAt mtkNumber mwaits mlisted mdealtMany)), ((ma 2), .inl (E 0, 400, .inl mf2)), ((ma 3), .inl (E 0, 16, .inl mf3)), ((ma 4), .inl (E 0, 16, .inl mf4)), ((ma 5), .inl (E 1, 6400, .inl mf5)), ((ma 6), .inl (E 0, 6400, .inl mf6)), ((ma 7), .inl (E 0, 6400, .inl mf7)), ((ma 8), .inl (E 1, 6400, .inl mf8)), ((ma 9), .inl (E 1, 6400, .inl mf9)), ((ma 12), .inl (E 0, 60, .inl mf12)), ((ma 13), .inl (E 0, 60, .inl mf13)), ((ma 14), .inl (E 0, 60, .inl mf14)), ((ma 15), .inl (E 0, 60, .inl mf15)), ((ma 16), .inl (E 0, 60, .inl mf16))] sz) := by
  refine Met.ofW (cc := cX9_foretold) (maxL := 10) (ret := (some .int)) (by decide) rfl ?_
  intro p e s m args below meth c s₁ B hml hv
  obtain ⟨rfl, hsz, hP, hK, hD0⟩ := hv
  have hx := B.exec; have hb := B.bytes; have hr := B.returns
  have hts := atoms_spec (ws := wl yX9_foretold cX9_foretold 10 (some .int)) B.pre
  have htb : ∀ w ∈ tb, w.before _ s = true := fun w h => hts w (List.mem_cons_of_mem _ h)
  have hown : s.vm.findClass RX9 = some m.cls := findClass_of_methodNamed B.named
  have hlocks := B.notSynchronized
  subst hsz
  have hD := hD0.self (sz := s.heap.size)
  generalize hAe : va_A [(mh, .inr (9, G9 ma mcode mtoday moffs mmany msumW msumA msumR msumWW msumWA msumAA msumWR msumAR mupper mlower mrates mtaped mlaid mat mtk mtkAt mtkNumber mwaits mlisted mdealtMany)), ((ma 2), .inl (E 0, 400, .inl mf2)), ((ma 3), .inl (E 0, 16, .inl mf3)), ((ma 4), .inl (E 0, 16, .inl mf4)), ((ma 5), .inl (E 1, 6400, .inl mf5)), ((ma 6), .inl (E 0, 6400, .inl mf6)), ((ma 7), .inl (E 0, 6400, .inl mf7)), ((ma 8), .inl (E 1, 6400, .inl mf8)), ((ma 9), .inl (E 1, 6400, .inl mf9)), ((ma 12), .inl (E 0, 60, .inl mf12)), ((ma 13), .inl (E 0, 60, .inl mf13)), ((ma 14), .inl (E 0, 60, .inl mf14)), ((ma 15), .inl (E 0, 60, .inl mf15)), ((ma 16), .inl (E 0, 60, .inl mf16))] s.heap.size = A at hD ⊢
  have hA : ∀ q : Nat, s.heap.size ≤ q → A q := fun q h => by rw [← hAe]; exact Or.inr h
  have hS : va_S A s.heap s.heap [] := va_S.rf
  have hP : va_P D vwCl [(mh, .inr (9, G9 ma mcode mtoday moffs mmany msumW msumA msumR msumWW msumWA msumAA msumWR msumAR mupper mlower mrates mtaped mlaid mat mtk mtkAt mtkNumber mwaits mlisted mdealtMany)), ((ma 2), .inl (E 0, 400, .inl mf2)), ((ma 3), .inl (E 0, 16, .inl mf3)), ((ma 4), .inl (E 0, 16, .inl mf4)), ((ma 5), .inl (E 1, 6400, .inl mf5)), ((ma 6), .inl (E 0, 6400, .inl mf6)), ((ma 7), .inl (E 0, 6400, .inl mf7)), ((ma 8), .inl (E 1, 6400, .inl mf8)), ((ma 9), .inl (E 1, 6400, .inl mf9)), ((ma 12), .inl (E 0, 60, .inl mf12)), ((ma 13), .inl (E 0, 60, .inl mf13)), ((ma 14), .inl (E 0, 60, .inl mf14)), ((ma 15), .inl (E 0, 60, .inl mf15)), ((ma 16), .inl (E 0, 60, .inl mf16))] s.heap := hP
  have hl := lv_entry ([.ref mh, .int p0, .int p1, .int p2, .int p3, .int p4]) (n := 10) (Nat.le_of_ble_eq_true rfl)
  rw [lg_entry_eq]
  generalize (lg_sl ([.ref mh, .int p0, .int p1, .int p2, .int p3, .int p4]) ++ List.replicate (10 - (lg_sl ([.ref mh, .int p0, .int p1, .int p2, .int p3, .int p4])).length) Slot.unset).toArray = ls at hl ⊢
  have hl : lv_has ls 10 [(0, .ref mh), (1, .int p0), (2, .int p1), (3, .int p2), (4, .int p3), (5, .int p4)] := hl
  have lo_p0 := i_lo p0; have hi_p0 := i_hi p0
  have lo_p1 := i_lo p1; have hi_p1 := i_hi p1
  have lo_p2 := i_lo p2; have hi_p2 := i_hi p2
  have lo_p3 := i_lo p3; have hi_p3 := i_hi p3
  have lo_p4 := i_lo p4; have hi_p4 := i_hi p4
  refine lv_aload_n hx hb dX9_foretold_0 rfl (lv_at hl 0 rfl) ?_
  refine lv_iload_n hx hb dX9_foretold_1 rfl (lv_at hl 1 rfl) ?_
  refine lv_iload_n hx hb dX9_foretold_2 rfl (lv_at hl 2 rfl) ?_
  refine lv_iload_n hx hb dX9_foretold_3 rfl (lv_at hl 3 rfl) ?_
  refine callRV (rest := []) (As := [.int p0, .int p1, .int p2]) hx hb hml hown htb hK (g_X9_asked l D E mh ma mcode mtoday moffs mmany msumW msumA msumR msumWW msumWA msumAA msumWR msumAR mupper mlower mrates mtaped mlaid mat mtk mtkAt mtkNumber mwaits mlisted mdealtMany mf3 p0 p1 p2 (by (try dsimp only); omega)) ok_X9_asked k_1269 k_1271 ks_45 k_9 k_1272 ⟨(Nat.le_of_ble_eq_true rfl), (Nat.le_of_ble_eq_true rfl)⟩ ⟨(Nat.le_of_ble_eq_true rfl), (Nat.le_of_ble_eq_true rfl)⟩ hl.1 (Nat.le_of_ble_eq_true rfl) rfl rfl dX9_foretold_4 (hP.sub (ws' := [(mh, .inr (9, G9 ma mcode mtoday moffs mmany msumW msumA msumR msumWW msumWA msumAA msumWR msumAR mupper mlower mrates mtaped mlaid mat mtk mtkAt mtkNumber mwaits mlisted mdealtMany)), ((ma 3), .inl (E 0, 16, .inl mf3))]) [0, 2] rfl) rfl rfl 0 rfl (fun r_1 hw_2 => ?_)
  refine lv_if_lt (tgt := 34) hx hb dX9_foretold_7 (by decide) (fun c_4 => ?_) (fun c_4 => ?_)
  ·
    have ic_4 : r_1.toInt < 0 := by first | exact (g_lt rfl t_0).mp c_4 | (have h := mt (g_le t_0 rfl).mpr c_4; omega)
    clear c_4
    refine lv_ldc hx hb hown (htb _ k_1205) dX9_foretold_34 ?_
    have hP9 := hP.sub (ws' := [(mh, .inr (9, G9 ma mcode mtoday moffs mmany msumW msumA msumR msumWW msumWA msumAA msumWR msumAR mupper mlower mrates mtaped mlaid mat mtk mtkAt mtkNumber mwaits mlisted mdealtMany)), ((ma 2), .inl (E 0, 400, .inl mf2)), ((ma 3), .inl (E 0, 16, .inl mf3)), ((ma 4), .inl (E 0, 16, .inl mf4)), ((ma 5), .inl (E 1, 6400, .inl mf5)), ((ma 6), .inl (E 0, 6400, .inl mf6)), ((ma 7), .inl (E 0, 6400, .inl mf7)), ((ma 8), .inl (E 1, 6400, .inl mf8)), ((ma 9), .inl (E 1, 6400, .inl mf9)), ((ma 12), .inl (E 0, 60, .inl mf12)), ((ma 13), .inl (E 0, 60, .inl mf13)), ((ma 14), .inl (E 0, 60, .inl mf14)), ((ma 15), .inl (E 0, 60, .inl mf15)), ((ma 16), .inl (E 0, 60, .inl mf16))]) [0, 1, 2, 3, 4, 5, 6, 7, 8, 9, 10, 11, 12, 13] rfl
    have hD9 := hD.sub (ws' := [(mh, .inr (9, G9 ma mcode mtoday moffs mmany msumW msumA msumR msumWW msumWA msumAA msumWR msumAR mupper mlower mrates mtaped mlaid mat mtk mtkAt mtkNumber mwaits mlisted mdealtMany)), ((ma 2), .inl (E 0, 400, .inl mf2)), ((ma 3), .inl (E 0, 16, .inl mf3)), ((ma 4), .inl (E 0, 16, .inl mf4)), ((ma 5), .inl (E 1, 6400, .inl mf5)), ((ma 6), .inl (E 0, 6400, .inl mf6)), ((ma 7), .inl (E 0, 6400, .inl mf7)), ((ma 8), .inl (E 1, 6400, .inl mf8)), ((ma 9), .inl (E 1, 6400, .inl mf9)), ((ma 12), .inl (E 0, 60, .inl mf12)), ((ma 13), .inl (E 0, 60, .inl mf13)), ((ma 14), .inl (E 0, 60, .inl mf14)), ((ma 15), .inl (E 0, 60, .inl mf15)), ((ma 16), .inl (E 0, 60, .inl mf16))]) [0, 1, 2, 3, 4, 5, 6, 7, 8, 9, 10, 11, 12, 13] (by decide) rfl
    exact W.iret (v := (-2000000000)) hx hb hr (fun t ht hW => ⟨⟨(-2000000000), (mlower, mmany, msumA, msumAA, msumAR, msumR, msumW, msumWA, msumWR, msumWW, mupper), rfl, (Or.inl ⟨fun h9 => by rcases hw_2 with h8 | h8 | h8 <;> omega, by have hv := t_m2000000000; omega⟩), by rw [ht]; exact hP9, hD9⟩, hS.F ht⟩) hS.2.2 dX9_foretold_36
  ·
    have ic_4 : 0 ≤ r_1.toInt := by first | exact (g_le t_0 rfl).mp c_4 | (have h := mt (g_lt rfl t_0).mpr c_4; omega)
    clear c_4
    refine lv_iload hx hb dX9_foretold_10 (lv_at hl 4 rfl) ?_
    refine lv_bipush (v := (-50)) hx hb dX9_foretold_12 (by decide) ?_
    refine lv_bipush (v := 50) hx hb dX9_foretold_14 (by decide) ?_
    refine callRS (rest := []) (As := [.int p3, .int (-50), .int 50]) hx hb hml hown htb hK (g_X9_in l D E p3 (-50) 50 ) ok_X9_in k_1168 k_1169 k_9 k_1170 ⟨(Nat.le_of_ble_eq_true rfl), (Nat.le_of_ble_eq_true rfl)⟩ ⟨(Nat.le_of_ble_eq_true rfl), (Nat.le_of_ble_eq_true rfl)⟩ hl.1 (Nat.le_of_ble_eq_true rfl) rfl rfl dX9_foretold_16 (hP.sub (ws' := ([] : va_W)) [] rfl) (fun r_5 hw_6 => ?_)
    try simp only [t_m50, t_50] at hw_6
    rcases hw_6 with ⟨hr_5, hw_6⟩ | ⟨hr_5, hw_6⟩
    ·
      try simp only [t_m50, t_50] at hw_6
      refine W_top (y := .int 1) (by rw [hr_5]) ?_
      refine lv_if_eq (tgt := 34) hx hb dX9_foretold_19 (by decide) (fun c_8 => absurd c_8 (by decide)) (fun c_8 => ?_)
      refine lv_iload hx hb dX9_foretold_22 (lv_at hl 5 rfl) ?_
      refine lv_iconst (v := 0) hx hb dX9_foretold_24 (by decide) ?_
      refine lv_sipush (v := 399) hx hb dX9_foretold_25 (by decide) ?_
      refine callRS (rest := []) (As := [.int p4, .int 0, .int 399]) hx hb hml hown htb hK (g_X9_in l D E p4 0 399 ) ok_X9_in k_1168 k_1169 k_9 k_1170 ⟨(Nat.le_of_ble_eq_true rfl), (Nat.le_of_ble_eq_true rfl)⟩ ⟨(Nat.le_of_ble_eq_true rfl), (Nat.le_of_ble_eq_true rfl)⟩ hl.1 (Nat.le_of_ble_eq_true rfl) rfl rfl dX9_foretold_28 (hP.sub (ws' := ([] : va_W)) [] rfl) (fun r_9 hw_10 => ?_)
      try simp only [t_0, t_399] at hw_10
      rcases hw_10 with ⟨hr_9, hw_10⟩ | ⟨hr_9, hw_10⟩
      ·
        try simp only [t_0, t_399] at hw_10
        refine W_top (y := .int 1) (by rw [hr_9]) ?_
        refine lv_if_ne (tgt := 37) hx hb dX9_foretold_31 (by decide) (fun c_12 => ?_) (fun c_12 => absurd c_12 (by decide))
        refine lv_aload_n hx hb dX9_foretold_37 rfl (lv_at hl 0 rfl) ?_
        refine lv_iload_n hx hb dX9_foretold_38 rfl (lv_at hl 1 rfl) ?_
        refine lv_iload_n hx hb dX9_foretold_39 rfl (lv_at hl 2 rfl) ?_
        refine lv_iload_n hx hb dX9_foretold_40 rfl (lv_at hl 3 rfl) ?_
        have hPc := hP.sub (ws' := [(mh, .inr (9, G9 ma mcode mtoday moffs mmany msumW msumA msumR msumWW msumWA msumAA msumWR msumAR mupper mlower mrates mtaped mlaid mat mtk mtkAt mtkNumber mwaits mlisted mdealtMany)), ((ma 2), .inl (E 0, 400, .inl mf2)), ((ma 3), .inl (E 0, 16, .inl mf3)), ((ma 4), .inl (E 0, 16, .inl mf4)), ((ma 5), .inl (E 1, 6400, .inl mf5)), ((ma 6), .inl (E 0, 6400, .inl mf6)), ((ma 7), .inl (E 0, 6400, .inl mf7)), ((ma 8), .inl (E 1, 6400, .inl mf8)), ((ma 9), .inl (E 1, 6400, .inl mf9)), ((ma 12), .inl (E 0, 60, .inl mf12)), ((ma 13), .inl (E 0, 60, .inl mf13)), ((ma 14), .inl (E 0, 60, .inl mf14)), ((ma 15), .inl (E 0, 60, .inl mf15)), ((ma 16), .inl (E 0, 60, .inl mf16))]) [0, 1, 2, 3, 4, 5, 6, 7, 8, 9, 10, 11, 12, 13] rfl
        have hDc := hD.sub (ws' := [(mh, .inr (9, G9 ma mcode mtoday moffs mmany msumW msumA msumR msumWW msumWA msumAA msumWR msumAR mupper mlower mrates mtaped mlaid mat mtk mtkAt mtkNumber mwaits mlisted mdealtMany)), ((ma 2), .inl (E 0, 400, .inl mf2)), ((ma 3), .inl (E 0, 16, .inl mf3)), ((ma 4), .inl (E 0, 16, .inl mf4)), ((ma 5), .inl (E 1, 6400, .inl mf5)), ((ma 6), .inl (E 0, 6400, .inl mf6)), ((ma 7), .inl (E 0, 6400, .inl mf7)), ((ma 8), .inl (E 1, 6400, .inl mf8)), ((ma 9), .inl (E 1, 6400, .inl mf9)), ((ma 12), .inl (E 0, 60, .inl mf12)), ((ma 13), .inl (E 0, 60, .inl mf13)), ((ma 14), .inl (E 0, 60, .inl mf14)), ((ma 15), .inl (E 0, 60, .inl mf15)), ((ma 16), .inl (E 0, 60, .inl mf16))]) [0, 1, 2, 3, 4, 5, 6, 7, 8, 9, 10, 11, 12, 13] (by decide) rfl
        refine aft_v (runMV (rest := []) (As := [.int p0, .int p1, .int p2]) hx hb hml hown htb hK (g_X9_sumUp l D E mh ma mcode mtoday moffs mmany msumW msumA msumR msumWW msumWA msumAA msumWR msumAR mupper mlower mrates mtaped mlaid mat mtk mtkAt mtkNumber mwaits mlisted mdealtMany mf2 mf3 mf4 mf5 mf6 mf7 mf8 mf9 mf12 mf13 mf14 mf15 mf16 p0 p1 p2 _ (by (try dsimp only); omega) (by (try dsimp only); omega) (by (try dsimp only); omega)) ok_X9_sumUp k_1273 k_1275 ks_46 k_9 k_1276 ⟨(Nat.le_of_ble_eq_true rfl), (Nat.le_of_ble_eq_true rfl)⟩ ⟨(Nat.le_of_ble_eq_true rfl), (Nat.le_of_ble_eq_true rfl)⟩ hl.1 (Nat.le_of_ble_eq_true rfl) rfl rfl dX9_foretold_41 hPc hDc rfl rfl 0 rfl) hP hD hS hA [0, 1, 2, 3, 4, 5, 6, 7, 8, 9, 10, 11, 12, 13] [] (wr := ([] : va_W)) rfl rfl (by decide) (by decide) (fun u_15 H locs hw_14 hP hD hS => ?_)
        clear hPc hDc
        obtain ⟨w_16, w_17, w_18, w_19, w_20, w_21, w_22, w_23, w_24⟩ := u_15
        try dsimp only at hw_14
        have hP : va_P D vwCl [(mh, .inr (9, G9 ma mcode mtoday moffs w_16 w_21 w_17 w_20 w_24 w_22 w_18 w_23 w_19 mupper mlower mrates mtaped mlaid mat mtk mtkAt mtkNumber mwaits mlisted mdealtMany)), ((ma 2), .inl (E 0, 400, .inl mf2)), ((ma 3), .inl (E 0, 16, .inl mf3)), ((ma 4), .inl (E 0, 16, .inl mf4)), ((ma 5), .inl (E 1, 6400, .inl mf5)), ((ma 6), .inl (E 0, 6400, .inl mf6)), ((ma 7), .inl (E 0, 6400, .inl mf7)), ((ma 8), .inl (E 1, 6400, .inl mf8)), ((ma 9), .inl (E 1, 6400, .inl mf9)), ((ma 12), .inl (E 0, 60, .inl mf12)), ((ma 13), .inl (E 0, 60, .inl mf13)), ((ma 14), .inl (E 0, 60, .inl mf14)), ((ma 15), .inl (E 0, 60, .inl mf15)), ((ma 16), .inl (E 0, 60, .inl mf16))] H := hP
        have hD := toW hP hD rfl
        refine lv_aload_n hx hb dX9_foretold_44 rfl (lv_at hl 0 rfl) ?_
        refine va_get (D := D) (ci := 9) (v := .long w_16) (C := RX9) (T := TX9) (N := 68) hx hb htb iX9 hown hK.1 hP 0 rfl rfl 17 (by decide) (htb _ k_975) (fun _ h9 => h9) rfl dX9_foretold_45 ?_
        refine lv_lconst (v := 0) hx hb dX9_foretold_48 (by decide) ?_
        refine W.lcmp hx hb dX9_foretold_49 ?_
        refine lv_topi (fun z_25 ez_25 => ?_)
        refine lv_if_ne (tgt := 56) hx hb dX9_foretold_50 (by decide) (fun c_26 => ?_) (fun c_26 => ?_)
        ·
          have lc_27 : ¬ (w_16 : Int64) = (0 : Int64) := lc_ne (by rw [← ez_25]; exact c_26)
          refine lv_aload_n hx hb dX9_foretold_56 rfl (lv_at hl 0 rfl) ?_
          refine callRV (rest := []) (As := []) hx hb hml hown htb hK (g_X9_termsNow l D E mh ma mcode mtoday moffs w_16 w_21 w_17 w_20 w_24 w_22 w_18 w_23 w_19 mupper mlower mrates mtaped mlaid mat mtk mtkAt mtkNumber mwaits mlisted mdealtMany (by (try dsimp only); omega)) ok_X9_termsNow k_1287 k_1289 ks_48 k_9 k_1290 ⟨(Nat.le_of_ble_eq_true rfl), (Nat.le_of_ble_eq_true rfl)⟩ ⟨(Nat.le_of_ble_eq_true rfl), (Nat.le_of_ble_eq_true rfl)⟩ hl.1 (Nat.le_of_ble_eq_true rfl) rfl rfl dX9_foretold_57 (hP.sub (ws' := [(mh, .inr (9, G9 ma mcode mtoday moffs w_16 w_21 w_17 w_20 w_24 w_22 w_18 w_23 w_19 mupper mlower mrates mtaped mlaid mat mtk mtkAt mtkNumber mwaits mlisted mdealtMany))]) [0] rfl) rfl rfl 0 rfl (fun r_28 hw_29 => ?_)
          rcases hw_29 with ⟨hr_28, hw_29⟩ | ⟨hr_28, hw_29⟩ | ⟨hr_28, hw_29⟩ | ⟨hr_28, hw_29⟩
          ·
            refine W_top (y := .int 3) (by rw [hr_28]) ?_
            refine lv_tableIn (x := 3) (off := 28) (tgt := 88) hx hb dX9_foretold_60 (by decide) (by decide) (by decide) (by decide) ?_
            refine lv_aload_n hx hb dX9_foretold_88 rfl (lv_at hl 0 rfl) ?_
            refine lv_iload hx hb dX9_foretold_89 (lv_at hl 4 rfl) ?_
            obtain ⟨z_31, ez_31⟩ : ∃ y : Int64, (p3 : Int32).toInt64 = y := ⟨_, rfl⟩
            refine lv_i2l hx hb dX9_foretold_91 ez_31 ?_
            refine lv_iload hx hb dX9_foretold_92 (lv_at hl 5 rfl) ?_
            obtain ⟨z_32, ez_32⟩ : ∃ y : Int64, (p4 : Int32).toInt64 = y := ⟨_, rfl⟩
            refine lv_i2l hx hb dX9_foretold_94 ez_32 ?_
            have hPc := hP.sub (ws' := [(mh, .inr (9, G9 ma mcode mtoday moffs w_16 w_21 w_17 w_20 w_24 w_22 w_18 w_23 w_19 mupper mlower mrates mtaped mlaid mat mtk mtkAt mtkNumber mwaits mlisted mdealtMany))]) [0] rfl
            have hDc := hD.sub (ws' := [(mh, .inr (9, G9 ma mcode mtoday moffs w_16 w_21 w_17 w_20 w_24 w_22 w_18 w_23 w_19 mupper mlower mrates mtaped mlaid mat mtk mtkAt mtkNumber mwaits mlisted mdealtMany))]) [0] (by decide) rfl
            refine aft_v (runMV (rest := []) (As := [.long z_31, .long z_32]) hx hb hml hown htb hK (g_X9_byThree l D E mh ma mcode mtoday moffs w_16 w_21 w_17 w_20 w_24 w_22 w_18 w_23 w_19 mupper mlower mrates mtaped mlaid mat mtk mtkAt mtkNumber mwaits mlisted mdealtMany z_31 z_32 _ (by (try dsimp only); omega)) ok_X9_byThree k_1303 k_1305 ks_51 k_9 k_1306 ⟨(Nat.le_of_ble_eq_true rfl), (Nat.le_of_ble_eq_true rfl)⟩ ⟨(Nat.le_of_ble_eq_true rfl), (Nat.le_of_ble_eq_true rfl)⟩ hl.1 (Nat.le_of_ble_eq_true rfl) rfl rfl dX9_foretold_95 hPc hDc rfl rfl 0 rfl) hP hD hS hA [0] [1, 2, 3, 4, 5, 6, 7, 8, 9, 10, 11, 12, 13] (wr := [((ma 2), .inl (E 0, 400, .inl mf2)), ((ma 3), .inl (E 0, 16, .inl mf3)), ((ma 4), .inl (E 0, 16, .inl mf4)), ((ma 5), .inl (E 1, 6400, .inl mf5)), ((ma 6), .inl (E 0, 6400, .inl mf6)), ((ma 7), .inl (E 0, 6400, .inl mf7)), ((ma 8), .inl (E 1, 6400, .inl mf8)), ((ma 9), .inl (E 1, 6400, .inl mf9)), ((ma 12), .inl (E 0, 60, .inl mf12)), ((ma 13), .inl (E 0, 60, .inl mf13)), ((ma 14), .inl (E 0, 60, .inl mf14)), ((ma 15), .inl (E 0, 60, .inl mf15)), ((ma 16), .inl (E 0, 60, .inl mf16))]) rfl rfl (by decide) (by decide) (fun u_35 H locs hw_34 hP hD hS => ?_)
            clear hPc hDc
            obtain ⟨w_36, w_37⟩ := u_35
            try dsimp only at hw_34
            have hP : va_P D vwCl [((ma 2), .inl (E 0, 400, .inl mf2)), ((ma 3), .inl (E 0, 16, .inl mf3)), ((ma 4), .inl (E 0, 16, .inl mf4)), ((ma 5), .inl (E 1, 6400, .inl mf5)), ((ma 6), .inl (E 0, 6400, .inl mf6)), ((ma 7), .inl (E 0, 6400, .inl mf7)), ((ma 8), .inl (E 1, 6400, .inl mf8)), ((ma 9), .inl (E 1, 6400, .inl mf9)), ((ma 12), .inl (E 0, 60, .inl mf12)), ((ma 13), .inl (E 0, 60, .inl mf13)), ((ma 14), .inl (E 0, 60, .inl mf14)), ((ma 15), .inl (E 0, 60, .inl mf15)), ((ma 16), .inl (E 0, 60, .inl mf16)), (mh, .inr (9, G9 ma mcode mtoday moffs w_16 w_21 w_17 w_20 w_24 w_22 w_18 w_23 w_19 w_37 w_36 mrates mtaped mlaid mat mtk mtkAt mtkNumber mwaits mlisted mdealtMany))] H := hP
            have hD := toW hP hD rfl
            obtain ⟨hw_34_0, hw_34_1⟩ := hw_34
            have nz_38 : ¬ w_36 = 0 := by rw [hw_34_0]; first | assumption | exact hw_29.2 | exact hw_29.2.2
            refine lv_goto (tgt := 161) hx hb dX9_foretold_98 (by decide) ?_
            refine lv_aload_n hx hb dX9_foretold_161 rfl (lv_at hl 0 rfl) ?_
            refine va_get (D := D) (ci := 9) (v := .long w_36) (C := RX9) (T := TX9) (N := 68) hx hb htb iX9 hown hK.1 hP 13 rfl rfl 27 (by decide) (htb _ k_985) (fun _ h9 => h9) rfl dX9_foretold_162 ?_
            refine lv_lconst (v := 0) hx hb dX9_foretold_165 (by decide) ?_
            refine W.lcmp hx hb dX9_foretold_166 ?_
            refine lv_topi (fun z_39 ez_39 => ?_)
            refine lv_if_ge (tgt := 188) hx hb dX9_foretold_167 (by decide) (fun c_40 => ?_) (fun c_40 => ?_)
            ·
              have lc_41 : (0 : Int64).toInt ≤ (w_36 : Int64).toInt := lc_geI (by rw [← ez_39]; first | exact Or.inl c_40 | exact Or.inr c_40)
              refine lv_aload_n hx hb dX9_foretold_188 rfl (lv_at hl 0 rfl) ?_
              refine va_get (D := D) (ci := 9) (v := .long w_37) (C := RX9) (T := TX9) (N := 68) hx hb htb iX9 hown hK.1 hP 13 rfl rfl 26 (by decide) (htb _ k_984) (fun _ h9 => h9) rfl dX9_foretold_189 ?_
              refine lv_aload_n hx hb dX9_foretold_192 rfl (lv_at hl 0 rfl) ?_
              refine va_get (D := D) (ci := 9) (v := .long w_36) (C := RX9) (T := TX9) (N := 68) hx hb htb iX9 hown hK.1 hP 13 rfl rfl 27 (by decide) (htb _ k_985) (fun _ h9 => h9) rfl dX9_foretold_193 ?_
              refine callLS (rest := []) (As := [.long w_37, .long w_36]) hx hb hml hown htb hK (g_X9_floor l D E w_37 w_36 nz_38) ok_X9_floor k_1311 k_1312 k_9 k_1313 ⟨(Nat.le_of_ble_eq_true rfl), (Nat.le_of_ble_eq_true rfl)⟩ ⟨(Nat.le_of_ble_eq_true rfl), (Nat.le_of_ble_eq_true rfl)⟩ hl.1 (Nat.le_of_ble_eq_true rfl) rfl rfl dX9_foretold_196 (hP.sub (ws' := ([] : va_W)) [] rfl) (fun r_42 hw_43 => ?_)
              refine lv_lstore (lv' := [(6, .long r_42), (0, .ref mh), (1, .int p0), (2, .int p1), (3, .int p2), (4, .int p3), (5, .int p4)]) hx hb dX9_foretold_199 hl (by decide) rfl (fun ls hl => ?_)
              refine lv_lload hx hb dX9_foretold_201 (lv_at hl 0 rfl) ?_
              refine lv_ldc2 hx hb hown (htb _ k_1314) dX9_foretold_203 ?_
              refine W.lcmp hx hb dX9_foretold_206 ?_
              refine lv_topi (fun z_45 ez_45 => ?_)
              refine lv_if_gt (tgt := 219) hx hb dX9_foretold_207 (by decide) (fun c_46 => ?_) (fun c_46 => ?_)
              ·
                have lc_47 : ((3000000) : Int64).toInt < (r_42 : Int64).toInt := lc_gtI (by rw [← ez_45]; first | exact Or.inl c_46 | exact Or.inr c_46)
                refine lv_ldc hx hb hown (htb _ k_1205) dX9_foretold_219 ?_
                have hP9 := hP.sub (ws' := [(mh, .inr (9, G9 ma mcode mtoday moffs w_16 w_21 w_17 w_20 w_24 w_22 w_18 w_23 w_19 w_37 w_36 mrates mtaped mlaid mat mtk mtkAt mtkNumber mwaits mlisted mdealtMany)), ((ma 2), .inl (E 0, 400, .inl mf2)), ((ma 3), .inl (E 0, 16, .inl mf3)), ((ma 4), .inl (E 0, 16, .inl mf4)), ((ma 5), .inl (E 1, 6400, .inl mf5)), ((ma 6), .inl (E 0, 6400, .inl mf6)), ((ma 7), .inl (E 0, 6400, .inl mf7)), ((ma 8), .inl (E 1, 6400, .inl mf8)), ((ma 9), .inl (E 1, 6400, .inl mf9)), ((ma 12), .inl (E 0, 60, .inl mf12)), ((ma 13), .inl (E 0, 60, .inl mf13)), ((ma 14), .inl (E 0, 60, .inl mf14)), ((ma 15), .inl (E 0, 60, .inl mf15)), ((ma 16), .inl (E 0, 60, .inl mf16))]) [13, 0, 1, 2, 3, 4, 5, 6, 7, 8, 9, 10, 11, 12] rfl
                have hD9 := hD.sub (ws' := [(mh, .inr (9, G9 ma mcode mtoday moffs w_16 w_21 w_17 w_20 w_24 w_22 w_18 w_23 w_19 w_37 w_36 mrates mtaped mlaid mat mtk mtkAt mtkNumber mwaits mlisted mdealtMany)), ((ma 2), .inl (E 0, 400, .inl mf2)), ((ma 3), .inl (E 0, 16, .inl mf3)), ((ma 4), .inl (E 0, 16, .inl mf4)), ((ma 5), .inl (E 1, 6400, .inl mf5)), ((ma 6), .inl (E 0, 6400, .inl mf6)), ((ma 7), .inl (E 0, 6400, .inl mf7)), ((ma 8), .inl (E 1, 6400, .inl mf8)), ((ma 9), .inl (E 1, 6400, .inl mf9)), ((ma 12), .inl (E 0, 60, .inl mf12)), ((ma 13), .inl (E 0, 60, .inl mf13)), ((ma 14), .inl (E 0, 60, .inl mf14)), ((ma 15), .inl (E 0, 60, .inl mf15)), ((ma 16), .inl (E 0, 60, .inl mf16))]) [13, 0, 1, 2, 3, 4, 5, 6, 7, 8, 9, 10, 11, 12] (by decide) rfl
                exact W.iret (v := (-2000000000)) hx hb hr (fun t ht hW => ⟨⟨(-2000000000), (w_36, w_16, w_17, w_18, w_19, w_20, w_21, w_22, w_23, w_24, w_37), rfl, (Or.inr (Or.inr ⟨⟨by have h9 := hw_2; omega, by have h9 := hw_2; omega, by omega, by omega⟩, by rw [← hw_14]; exact lc_27, (by have hu : uplM (fold9 (fun d => wmF mf3 mf4 mf2 p0 d) (fun d => agI mf8 (400 * p0.toInt).toNat d) (-1000) (rateL (fun d => ratF mf5 mf6 mf7 mf8 mf9 mf12 mf13 mf14 mf15 mf16 moffs p0 d (-1)) p1 (p2.toInt - p1.toInt).toNat)) p3 p4 = (w_36, w_37) := (by rw [← hw_14]; unfold uplM; (try dsimp only); first | (rw [if_neg hw_29]; rw [hw_34_0, hw_34_1]; subst_vars; rfl) | (rw [if_neg hw_29]; rw [hw_34_0, hw_34_1]; subst_vars)); unfold FRM; rw [hu]; intro hlo; (try dsimp only at hlo ⊢); have h3 : (3000000 : Int64).toInt = 3000000 := (by decide); have h4 : (-3000000 : Int64).toInt = -3000000 := (by decide); have h5 : (2000000000 : Int64).toInt = 2000000000 := (by decide); have h6 : (-2000000000 : Int64).toInt = -2000000000 := (by decide); have q0 := lc_47; exact ⟨r_42, hw_43 hlo, Or.inl ⟨by omega, by have hv := t_m2000000000; omega⟩⟩)⟩)), by rw [ht]; exact hP9, hD9⟩, hS.F ht⟩) hS.2.2 dX9_foretold_221
              ·
                have lc_48 : (r_42 : Int64).toInt ≤ ((3000000) : Int64).toInt := lc_leI (by rw [← ez_45]; first | exact Or.inl c_46 | exact Or.inr c_46)
                refine lv_lload hx hb dX9_foretold_210 (lv_at hl 0 rfl) ?_
                refine lv_ldc2 hx hb hown (htb _ k_1315) dX9_foretold_212 ?_
                refine W.lcmp hx hb dX9_foretold_215 ?_
                refine lv_topi (fun z_49 ez_49 => ?_)
                refine lv_if_ge (tgt := 222) hx hb dX9_foretold_216 (by decide) (fun c_50 => ?_) (fun c_50 => ?_)
                ·
                  have lc_51 : ((-3000000) : Int64).toInt ≤ (r_42 : Int64).toInt := lc_geI (by rw [← ez_49]; first | exact Or.inl c_50 | exact Or.inr c_50)
                  refine lv_ldc2 hx hb hown (htb _ k_1316) dX9_foretold_222 ?_
                  refine lv_lload hx hb dX9_foretold_225 (lv_at hl 0 rfl) ?_
                  refine lv_lmul hx hb dX9_foretold_227 ?_
                  refine lv_topl (fun z_52 ez_52 => ?_)
                  refine lv_ldc2 hx hb hown (htb _ k_1316) dX9_foretold_228 ?_
                  refine lv_aload_n hx hb dX9_foretold_231 rfl (lv_at hl 1 rfl) ?_
                  refine va_get (D := D) (ci := 9) (v := .long w_37) (C := RX9) (T := TX9) (N := 68) hx hb htb iX9 hown hK.1 hP 13 rfl rfl 26 (by decide) (htb _ k_984) (fun _ h9 => h9) rfl dX9_foretold_232 ?_
                  refine lv_lload hx hb dX9_foretold_235 (lv_at hl 0 rfl) ?_
                  refine lv_aload_n hx hb dX9_foretold_237 rfl (lv_at hl 1 rfl) ?_
                  refine va_get (D := D) (ci := 9) (v := .long w_36) (C := RX9) (T := TX9) (N := 68) hx hb htb iX9 hown hK.1 hP 13 rfl rfl 27 (by decide) (htb _ k_985) (fun _ h9 => h9) rfl dX9_foretold_238 ?_
                  refine lv_lmul hx hb dX9_foretold_241 ?_
                  refine lv_topl (fun z_53 ez_53 => ?_)
                  refine lv_lsub hx hb dX9_foretold_242 ?_
                  refine lv_topl (fun z_54 ez_54 => ?_)
                  refine lv_lmul hx hb dX9_foretold_243 ?_
                  refine lv_topl (fun z_55 ez_55 => ?_)
                  refine lv_aload_n hx hb dX9_foretold_244 rfl (lv_at hl 1 rfl) ?_
                  refine va_get (D := D) (ci := 9) (v := .long w_36) (C := RX9) (T := TX9) (N := 68) hx hb htb iX9 hown hK.1 hP 13 rfl rfl 27 (by decide) (htb _ k_985) (fun _ h9 => h9) rfl dX9_foretold_245 ?_
                  refine lv_ldiv hx hb dX9_foretold_248 nz_38 ?_
                  refine lv_topl (fun z_56 ez_56 => ?_)
                  refine lv_ladd hx hb dX9_foretold_249 ?_
                  refine lv_topl (fun z_57 ez_57 => ?_)
                  refine lv_lstore (lv' := [(8, .long z_57), (6, .long r_42), (0, .ref mh), (1, .int p0), (2, .int p1), (3, .int p2), (4, .int p3), (5, .int p4)]) hx hb dX9_foretold_250 hl (by decide) rfl (fun ls hl => ?_)
                  refine lv_lload hx hb dX9_foretold_252 (lv_at hl 0 rfl) ?_
                  refine lv_ldc2 hx hb hown (htb _ k_1317) dX9_foretold_254 ?_
                  refine W.lcmp hx hb dX9_foretold_257 ?_
                  refine lv_topi (fun z_58 ez_58 => ?_)
                  refine lv_if_gt (tgt := 270) hx hb dX9_foretold_258 (by decide) (fun c_59 => ?_) (fun c_59 => ?_)
                  ·
                    have lc_60 : ((2000000000) : Int64).toInt < (z_57 : Int64).toInt := lc_gtI (by rw [← ez_58]; first | exact Or.inl c_59 | exact Or.inr c_59)
                    refine lv_ldc hx hb hown (htb _ k_1205) dX9_foretold_270 ?_
                    refine lv_goto (tgt := 278) hx hb dX9_foretold_272 (by decide) ?_
                    have hP9 := hP.sub (ws' := [(mh, .inr (9, G9 ma mcode mtoday moffs w_16 w_21 w_17 w_20 w_24 w_22 w_18 w_23 w_19 w_37 w_36 mrates mtaped mlaid mat mtk mtkAt mtkNumber mwaits mlisted mdealtMany)), ((ma 2), .inl (E 0, 400, .inl mf2)), ((ma 3), .inl (E 0, 16, .inl mf3)), ((ma 4), .inl (E 0, 16, .inl mf4)), ((ma 5), .inl (E 1, 6400, .inl mf5)), ((ma 6), .inl (E 0, 6400, .inl mf6)), ((ma 7), .inl (E 0, 6400, .inl mf7)), ((ma 8), .inl (E 1, 6400, .inl mf8)), ((ma 9), .inl (E 1, 6400, .inl mf9)), ((ma 12), .inl (E 0, 60, .inl mf12)), ((ma 13), .inl (E 0, 60, .inl mf13)), ((ma 14), .inl (E 0, 60, .inl mf14)), ((ma 15), .inl (E 0, 60, .inl mf15)), ((ma 16), .inl (E 0, 60, .inl mf16))]) [13, 0, 1, 2, 3, 4, 5, 6, 7, 8, 9, 10, 11, 12] rfl
                    have hD9 := hD.sub (ws' := [(mh, .inr (9, G9 ma mcode mtoday moffs w_16 w_21 w_17 w_20 w_24 w_22 w_18 w_23 w_19 w_37 w_36 mrates mtaped mlaid mat mtk mtkAt mtkNumber mwaits mlisted mdealtMany)), ((ma 2), .inl (E 0, 400, .inl mf2)), ((ma 3), .inl (E 0, 16, .inl mf3)), ((ma 4), .inl (E 0, 16, .inl mf4)), ((ma 5), .inl (E 1, 6400, .inl mf5)), ((ma 6), .inl (E 0, 6400, .inl mf6)), ((ma 7), .inl (E 0, 6400, .inl mf7)), ((ma 8), .inl (E 1, 6400, .inl mf8)), ((ma 9), .inl (E 1, 6400, .inl mf9)), ((ma 12), .inl (E 0, 60, .inl mf12)), ((ma 13), .inl (E 0, 60, .inl mf13)), ((ma 14), .inl (E 0, 60, .inl mf14)), ((ma 15), .inl (E 0, 60, .inl mf15)), ((ma 16), .inl (E 0, 60, .inl mf16))]) [13, 0, 1, 2, 3, 4, 5, 6, 7, 8, 9, 10, 11, 12] (by decide) rfl
                    exact W.iret (v := (-2000000000)) hx hb hr (fun t ht hW => ⟨⟨(-2000000000), (w_36, w_16, w_17, w_18, w_19, w_20, w_21, w_22, w_23, w_24, w_37), rfl, (Or.inr (Or.inr ⟨⟨by have h9 := hw_2; omega, by have h9 := hw_2; omega, by omega, by omega⟩, by rw [← hw_14]; exact lc_27, (by have hu : uplM (fold9 (fun d => wmF mf3 mf4 mf2 p0 d) (fun d => agI mf8 (400 * p0.toInt).toNat d) (-1000) (rateL (fun d => ratF mf5 mf6 mf7 mf8 mf9 mf12 mf13 mf14 mf15 mf16 moffs p0 d (-1)) p1 (p2.toInt - p1.toInt).toNat)) p3 p4 = (w_36, w_37) := (by rw [← hw_14]; unfold uplM; (try dsimp only); first | (rw [if_neg hw_29]; rw [hw_34_0, hw_34_1]; subst_vars; rfl) | (rw [if_neg hw_29]; rw [hw_34_0, hw_34_1]; subst_vars)); unfold FRM; rw [hu]; intro hlo; (try dsimp only at hlo ⊢); have h3 : (3000000 : Int64).toInt = 3000000 := (by decide); have h4 : (-3000000 : Int64).toInt = -3000000 := (by decide); have h5 : (2000000000 : Int64).toInt = 2000000000 := (by decide); have h6 : (-2000000000 : Int64).toInt = -2000000000 := (by decide); have q0 := lc_48; have q1 := lc_51; have q2 := lc_60; exact ⟨r_42, hw_43 hlo, Or.inr ⟨by omega, z_57, by subst_vars; rfl, Or.inl ⟨by omega, by have hv := t_m2000000000; omega⟩⟩⟩)⟩)), by rw [ht]; exact hP9, hD9⟩, hS.F ht⟩) hS.2.2 dX9_foretold_278
                  ·
                    have lc_61 : (z_57 : Int64).toInt ≤ ((2000000000) : Int64).toInt := lc_leI (by rw [← ez_58]; first | exact Or.inl c_59 | exact Or.inr c_59)
                    refine lv_lload hx hb dX9_foretold_261 (lv_at hl 0 rfl) ?_
                    refine lv_ldc2 hx hb hown (htb _ k_1281) dX9_foretold_263 ?_
                    refine W.lcmp hx hb dX9_foretold_266 ?_
                    refine lv_topi (fun z_62 ez_62 => ?_)
                    refine lv_if_ge (tgt := 275) hx hb dX9_foretold_267 (by decide) (fun c_63 => ?_) (fun c_63 => ?_)
                    ·
                      have lc_64 : ((-2000000000) : Int64).toInt ≤ (z_57 : Int64).toInt := lc_geI (by rw [← ez_62]; first | exact Or.inl c_63 | exact Or.inr c_63)
                      refine lv_lload hx hb dX9_foretold_275 (lv_at hl 0 rfl) ?_
                      obtain ⟨z_65, ez_65⟩ : ∃ y : Int32, (z_57 : Int64).toInt32 = y := ⟨_, rfl⟩
                      refine lv_l2i hx hb dX9_foretold_277 ez_65 ?_
                      have hP9 := hP.sub (ws' := [(mh, .inr (9, G9 ma mcode mtoday moffs w_16 w_21 w_17 w_20 w_24 w_22 w_18 w_23 w_19 w_37 w_36 mrates mtaped mlaid mat mtk mtkAt mtkNumber mwaits mlisted mdealtMany)), ((ma 2), .inl (E 0, 400, .inl mf2)), ((ma 3), .inl (E 0, 16, .inl mf3)), ((ma 4), .inl (E 0, 16, .inl mf4)), ((ma 5), .inl (E 1, 6400, .inl mf5)), ((ma 6), .inl (E 0, 6400, .inl mf6)), ((ma 7), .inl (E 0, 6400, .inl mf7)), ((ma 8), .inl (E 1, 6400, .inl mf8)), ((ma 9), .inl (E 1, 6400, .inl mf9)), ((ma 12), .inl (E 0, 60, .inl mf12)), ((ma 13), .inl (E 0, 60, .inl mf13)), ((ma 14), .inl (E 0, 60, .inl mf14)), ((ma 15), .inl (E 0, 60, .inl mf15)), ((ma 16), .inl (E 0, 60, .inl mf16))]) [13, 0, 1, 2, 3, 4, 5, 6, 7, 8, 9, 10, 11, 12] rfl
                      have hD9 := hD.sub (ws' := [(mh, .inr (9, G9 ma mcode mtoday moffs w_16 w_21 w_17 w_20 w_24 w_22 w_18 w_23 w_19 w_37 w_36 mrates mtaped mlaid mat mtk mtkAt mtkNumber mwaits mlisted mdealtMany)), ((ma 2), .inl (E 0, 400, .inl mf2)), ((ma 3), .inl (E 0, 16, .inl mf3)), ((ma 4), .inl (E 0, 16, .inl mf4)), ((ma 5), .inl (E 1, 6400, .inl mf5)), ((ma 6), .inl (E 0, 6400, .inl mf6)), ((ma 7), .inl (E 0, 6400, .inl mf7)), ((ma 8), .inl (E 1, 6400, .inl mf8)), ((ma 9), .inl (E 1, 6400, .inl mf9)), ((ma 12), .inl (E 0, 60, .inl mf12)), ((ma 13), .inl (E 0, 60, .inl mf13)), ((ma 14), .inl (E 0, 60, .inl mf14)), ((ma 15), .inl (E 0, 60, .inl mf15)), ((ma 16), .inl (E 0, 60, .inl mf16))]) [13, 0, 1, 2, 3, 4, 5, 6, 7, 8, 9, 10, 11, 12] (by decide) rfl
                      exact W.iret (v := z_65) hx hb hr (fun t ht hW => ⟨⟨z_65, (w_36, w_16, w_17, w_18, w_19, w_20, w_21, w_22, w_23, w_24, w_37), rfl, (Or.inr (Or.inr ⟨⟨by have h9 := hw_2; omega, by have h9 := hw_2; omega, by omega, by omega⟩, by rw [← hw_14]; exact lc_27, (by have hu : uplM (fold9 (fun d => wmF mf3 mf4 mf2 p0 d) (fun d => agI mf8 (400 * p0.toInt).toNat d) (-1000) (rateL (fun d => ratF mf5 mf6 mf7 mf8 mf9 mf12 mf13 mf14 mf15 mf16 moffs p0 d (-1)) p1 (p2.toInt - p1.toInt).toNat)) p3 p4 = (w_36, w_37) := (by rw [← hw_14]; unfold uplM; (try dsimp only); first | (rw [if_neg hw_29]; rw [hw_34_0, hw_34_1]; subst_vars; rfl) | (rw [if_neg hw_29]; rw [hw_34_0, hw_34_1]; subst_vars)); unfold FRM; rw [hu]; intro hlo; (try dsimp only at hlo ⊢); have h3 : (3000000 : Int64).toInt = 3000000 := (by decide); have h4 : (-3000000 : Int64).toInt = -3000000 := (by decide); have h5 : (2000000000 : Int64).toInt = 2000000000 := (by decide); have h6 : (-2000000000 : Int64).toInt = -2000000000 := (by decide); have q0 := lc_48; have q1 := lc_51; have q2 := lc_61; have q3 := lc_64; exact ⟨r_42, hw_43 hlo, Or.inr ⟨by omega, z_57, by subst_vars; rfl, Or.inr ⟨by omega, ez_65.symm⟩⟩⟩)⟩)), by rw [ht]; exact hP9, hD9⟩, hS.F ht⟩) hS.2.2 dX9_foretold_278
                    ·
                      have lc_66 : (z_57 : Int64).toInt < ((-2000000000) : Int64).toInt := lc_ltI (by rw [← ez_62]; first | exact Or.inl c_63 | exact Or.inr c_63)
                      refine lv_ldc hx hb hown (htb _ k_1205) dX9_foretold_270 ?_
                      refine lv_goto (tgt := 278) hx hb dX9_foretold_272 (by decide) ?_
                      have hP9 := hP.sub (ws' := [(mh, .inr (9, G9 ma mcode mtoday moffs w_16 w_21 w_17 w_20 w_24 w_22 w_18 w_23 w_19 w_37 w_36 mrates mtaped mlaid mat mtk mtkAt mtkNumber mwaits mlisted mdealtMany)), ((ma 2), .inl (E 0, 400, .inl mf2)), ((ma 3), .inl (E 0, 16, .inl mf3)), ((ma 4), .inl (E 0, 16, .inl mf4)), ((ma 5), .inl (E 1, 6400, .inl mf5)), ((ma 6), .inl (E 0, 6400, .inl mf6)), ((ma 7), .inl (E 0, 6400, .inl mf7)), ((ma 8), .inl (E 1, 6400, .inl mf8)), ((ma 9), .inl (E 1, 6400, .inl mf9)), ((ma 12), .inl (E 0, 60, .inl mf12)), ((ma 13), .inl (E 0, 60, .inl mf13)), ((ma 14), .inl (E 0, 60, .inl mf14)), ((ma 15), .inl (E 0, 60, .inl mf15)), ((ma 16), .inl (E 0, 60, .inl mf16))]) [13, 0, 1, 2, 3, 4, 5, 6, 7, 8, 9, 10, 11, 12] rfl
                      have hD9 := hD.sub (ws' := [(mh, .inr (9, G9 ma mcode mtoday moffs w_16 w_21 w_17 w_20 w_24 w_22 w_18 w_23 w_19 w_37 w_36 mrates mtaped mlaid mat mtk mtkAt mtkNumber mwaits mlisted mdealtMany)), ((ma 2), .inl (E 0, 400, .inl mf2)), ((ma 3), .inl (E 0, 16, .inl mf3)), ((ma 4), .inl (E 0, 16, .inl mf4)), ((ma 5), .inl (E 1, 6400, .inl mf5)), ((ma 6), .inl (E 0, 6400, .inl mf6)), ((ma 7), .inl (E 0, 6400, .inl mf7)), ((ma 8), .inl (E 1, 6400, .inl mf8)), ((ma 9), .inl (E 1, 6400, .inl mf9)), ((ma 12), .inl (E 0, 60, .inl mf12)), ((ma 13), .inl (E 0, 60, .inl mf13)), ((ma 14), .inl (E 0, 60, .inl mf14)), ((ma 15), .inl (E 0, 60, .inl mf15)), ((ma 16), .inl (E 0, 60, .inl mf16))]) [13, 0, 1, 2, 3, 4, 5, 6, 7, 8, 9, 10, 11, 12] (by decide) rfl
                      exact W.iret (v := (-2000000000)) hx hb hr (fun t ht hW => ⟨⟨(-2000000000), (w_36, w_16, w_17, w_18, w_19, w_20, w_21, w_22, w_23, w_24, w_37), rfl, (Or.inr (Or.inr ⟨⟨by have h9 := hw_2; omega, by have h9 := hw_2; omega, by omega, by omega⟩, by rw [← hw_14]; exact lc_27, (by have hu : uplM (fold9 (fun d => wmF mf3 mf4 mf2 p0 d) (fun d => agI mf8 (400 * p0.toInt).toNat d) (-1000) (rateL (fun d => ratF mf5 mf6 mf7 mf8 mf9 mf12 mf13 mf14 mf15 mf16 moffs p0 d (-1)) p1 (p2.toInt - p1.toInt).toNat)) p3 p4 = (w_36, w_37) := (by rw [← hw_14]; unfold uplM; (try dsimp only); first | (rw [if_neg hw_29]; rw [hw_34_0, hw_34_1]; subst_vars; rfl) | (rw [if_neg hw_29]; rw [hw_34_0, hw_34_1]; subst_vars)); unfold FRM; rw [hu]; intro hlo; (try dsimp only at hlo ⊢); have h3 : (3000000 : Int64).toInt = 3000000 := (by decide); have h4 : (-3000000 : Int64).toInt = -3000000 := (by decide); have h5 : (2000000000 : Int64).toInt = 2000000000 := (by decide); have h6 : (-2000000000 : Int64).toInt = -2000000000 := (by decide); have q0 := lc_48; have q1 := lc_51; have q2 := lc_61; have q3 := lc_66; exact ⟨r_42, hw_43 hlo, Or.inr ⟨by omega, z_57, by subst_vars; rfl, Or.inl ⟨by omega, by have hv := t_m2000000000; omega⟩⟩⟩)⟩)), by rw [ht]; exact hP9, hD9⟩, hS.F ht⟩) hS.2.2 dX9_foretold_278
                ·
                  have lc_67 : (r_42 : Int64).toInt < ((-3000000) : Int64).toInt := lc_ltI (by rw [← ez_49]; first | exact Or.inl c_50 | exact Or.inr c_50)
                  refine lv_ldc hx hb hown (htb _ k_1205) dX9_foretold_219 ?_
                  have hP9 := hP.sub (ws' := [(mh, .inr (9, G9 ma mcode mtoday moffs w_16 w_21 w_17 w_20 w_24 w_22 w_18 w_23 w_19 w_37 w_36 mrates mtaped mlaid mat mtk mtkAt mtkNumber mwaits mlisted mdealtMany)), ((ma 2), .inl (E 0, 400, .inl mf2)), ((ma 3), .inl (E 0, 16, .inl mf3)), ((ma 4), .inl (E 0, 16, .inl mf4)), ((ma 5), .inl (E 1, 6400, .inl mf5)), ((ma 6), .inl (E 0, 6400, .inl mf6)), ((ma 7), .inl (E 0, 6400, .inl mf7)), ((ma 8), .inl (E 1, 6400, .inl mf8)), ((ma 9), .inl (E 1, 6400, .inl mf9)), ((ma 12), .inl (E 0, 60, .inl mf12)), ((ma 13), .inl (E 0, 60, .inl mf13)), ((ma 14), .inl (E 0, 60, .inl mf14)), ((ma 15), .inl (E 0, 60, .inl mf15)), ((ma 16), .inl (E 0, 60, .inl mf16))]) [13, 0, 1, 2, 3, 4, 5, 6, 7, 8, 9, 10, 11, 12] rfl
                  have hD9 := hD.sub (ws' := [(mh, .inr (9, G9 ma mcode mtoday moffs w_16 w_21 w_17 w_20 w_24 w_22 w_18 w_23 w_19 w_37 w_36 mrates mtaped mlaid mat mtk mtkAt mtkNumber mwaits mlisted mdealtMany)), ((ma 2), .inl (E 0, 400, .inl mf2)), ((ma 3), .inl (E 0, 16, .inl mf3)), ((ma 4), .inl (E 0, 16, .inl mf4)), ((ma 5), .inl (E 1, 6400, .inl mf5)), ((ma 6), .inl (E 0, 6400, .inl mf6)), ((ma 7), .inl (E 0, 6400, .inl mf7)), ((ma 8), .inl (E 1, 6400, .inl mf8)), ((ma 9), .inl (E 1, 6400, .inl mf9)), ((ma 12), .inl (E 0, 60, .inl mf12)), ((ma 13), .inl (E 0, 60, .inl mf13)), ((ma 14), .inl (E 0, 60, .inl mf14)), ((ma 15), .inl (E 0, 60, .inl mf15)), ((ma 16), .inl (E 0, 60, .inl mf16))]) [13, 0, 1, 2, 3, 4, 5, 6, 7, 8, 9, 10, 11, 12] (by decide) rfl
                  exact W.iret (v := (-2000000000)) hx hb hr (fun t ht hW => ⟨⟨(-2000000000), (w_36, w_16, w_17, w_18, w_19, w_20, w_21, w_22, w_23, w_24, w_37), rfl, (Or.inr (Or.inr ⟨⟨by have h9 := hw_2; omega, by have h9 := hw_2; omega, by omega, by omega⟩, by rw [← hw_14]; exact lc_27, (by have hu : uplM (fold9 (fun d => wmF mf3 mf4 mf2 p0 d) (fun d => agI mf8 (400 * p0.toInt).toNat d) (-1000) (rateL (fun d => ratF mf5 mf6 mf7 mf8 mf9 mf12 mf13 mf14 mf15 mf16 moffs p0 d (-1)) p1 (p2.toInt - p1.toInt).toNat)) p3 p4 = (w_36, w_37) := (by rw [← hw_14]; unfold uplM; (try dsimp only); first | (rw [if_neg hw_29]; rw [hw_34_0, hw_34_1]; subst_vars; rfl) | (rw [if_neg hw_29]; rw [hw_34_0, hw_34_1]; subst_vars)); unfold FRM; rw [hu]; intro hlo; (try dsimp only at hlo ⊢); have h3 : (3000000 : Int64).toInt = 3000000 := (by decide); have h4 : (-3000000 : Int64).toInt = -3000000 := (by decide); have h5 : (2000000000 : Int64).toInt = 2000000000 := (by decide); have h6 : (-2000000000 : Int64).toInt = -2000000000 := (by decide); have q0 := lc_48; have q1 := lc_67; exact ⟨r_42, hw_43 hlo, Or.inl ⟨by omega, by have hv := t_m2000000000; omega⟩⟩)⟩)), by rw [ht]; exact hP9, hD9⟩, hS.F ht⟩) hS.2.2 dX9_foretold_221
            ·
              have lc_68 : (w_36 : Int64).toInt < (0 : Int64).toInt := lc_ltI (by rw [← ez_39]; first | exact Or.inl c_40 | exact Or.inr c_40)
              refine lv_aload_n hx hb dX9_foretold_170 rfl (lv_at hl 0 rfl) ?_
              refine lv_aload_n hx hb dX9_foretold_171 rfl (lv_at hl 0 rfl) ?_
              refine va_get (D := D) (ci := 9) (v := .long w_36) (C := RX9) (T := TX9) (N := 68) hx hb htb iX9 hown hK.1 hP 13 rfl rfl 27 (by decide) (htb _ k_985) (fun _ h9 => h9) rfl dX9_foretold_172 ?_
              refine lv_lneg hx hb dX9_foretold_175 ?_
              refine lv_topl (fun z_69 ez_69 => ?_)
              have nz_69 : ¬ z_69 = 0 := neg_nz ez_69 nz_38
              refine va_put (D := D) (ci := 9) (v := .long z_69) (ty := .long) (C := RX9) (T := TX9) (N := 68) hx hb htb iX9 tyX9 tyX9_ok nmX9 hown hK.1 hP hD hS 13 rfl rfl 27 (by decide) (htb _ k_985) (fun _ h9 => h9) rfl (by decide +kernel) rfl rfl (Nat.le_of_ble_eq_true rfl) dX9_foretold_176 (fun H locs hP hD hS => ?_)
              have hP : va_P D vwCl [((ma 2), .inl (E 0, 400, .inl mf2)), ((ma 3), .inl (E 0, 16, .inl mf3)), ((ma 4), .inl (E 0, 16, .inl mf4)), ((ma 5), .inl (E 1, 6400, .inl mf5)), ((ma 6), .inl (E 0, 6400, .inl mf6)), ((ma 7), .inl (E 0, 6400, .inl mf7)), ((ma 8), .inl (E 1, 6400, .inl mf8)), ((ma 9), .inl (E 1, 6400, .inl mf9)), ((ma 12), .inl (E 0, 60, .inl mf12)), ((ma 13), .inl (E 0, 60, .inl mf13)), ((ma 14), .inl (E 0, 60, .inl mf14)), ((ma 15), .inl (E 0, 60, .inl mf15)), ((ma 16), .inl (E 0, 60, .inl mf16)), (mh, .inr (9, G9 ma mcode mtoday moffs w_16 w_21 w_17 w_20 w_24 w_22 w_18 w_23 w_19 w_37 z_69 mrates mtaped mlaid mat mtk mtkAt mtkNumber mwaits mlisted mdealtMany))] H := hP
              have hD := toW hP hD rfl
              refine lv_aload_n hx hb dX9_foretold_179 rfl (lv_at hl 0 rfl) ?_
              refine lv_aload_n hx hb dX9_foretold_180 rfl (lv_at hl 0 rfl) ?_
              refine va_get (D := D) (ci := 9) (v := .long w_37) (C := RX9) (T := TX9) (N := 68) hx hb htb iX9 hown hK.1 hP 13 rfl rfl 26 (by decide) (htb _ k_984) (fun _ h9 => h9) rfl dX9_foretold_181 ?_
              refine lv_lneg hx hb dX9_foretold_184 ?_
              refine lv_topl (fun z_70 ez_70 => ?_)
              refine va_put (D := D) (ci := 9) (v := .long z_70) (ty := .long) (C := RX9) (T := TX9) (N := 68) hx hb htb iX9 tyX9 tyX9_ok nmX9 hown hK.1 hP hD hS 13 rfl rfl 26 (by decide) (htb _ k_984) (fun _ h9 => h9) rfl (by decide +kernel) rfl rfl (Nat.le_of_ble_eq_true rfl) dX9_foretold_185 (fun H locs hP hD hS => ?_)
              have hP : va_P D vwCl [((ma 2), .inl (E 0, 400, .inl mf2)), ((ma 3), .inl (E 0, 16, .inl mf3)), ((ma 4), .inl (E 0, 16, .inl mf4)), ((ma 5), .inl (E 1, 6400, .inl mf5)), ((ma 6), .inl (E 0, 6400, .inl mf6)), ((ma 7), .inl (E 0, 6400, .inl mf7)), ((ma 8), .inl (E 1, 6400, .inl mf8)), ((ma 9), .inl (E 1, 6400, .inl mf9)), ((ma 12), .inl (E 0, 60, .inl mf12)), ((ma 13), .inl (E 0, 60, .inl mf13)), ((ma 14), .inl (E 0, 60, .inl mf14)), ((ma 15), .inl (E 0, 60, .inl mf15)), ((ma 16), .inl (E 0, 60, .inl mf16)), (mh, .inr (9, G9 ma mcode mtoday moffs w_16 w_21 w_17 w_20 w_24 w_22 w_18 w_23 w_19 z_70 z_69 mrates mtaped mlaid mat mtk mtkAt mtkNumber mwaits mlisted mdealtMany))] H := hP
              have hD := toW hP hD rfl
              refine lv_aload_n hx hb dX9_foretold_188 rfl (lv_at hl 0 rfl) ?_
              refine va_get (D := D) (ci := 9) (v := .long z_70) (C := RX9) (T := TX9) (N := 68) hx hb htb iX9 hown hK.1 hP 13 rfl rfl 26 (by decide) (htb _ k_984) (fun _ h9 => h9) rfl dX9_foretold_189 ?_
              refine lv_aload_n hx hb dX9_foretold_192 rfl (lv_at hl 0 rfl) ?_
              refine va_get (D := D) (ci := 9) (v := .long z_69) (C := RX9) (T := TX9) (N := 68) hx hb htb iX9 hown hK.1 hP 13 rfl rfl 27 (by decide) (htb _ k_985) (fun _ h9 => h9) rfl dX9_foretold_193 ?_
              refine callLS (rest := []) (As := [.long z_70, .long z_69]) hx hb hml hown htb hK (g_X9_floor l D E z_70 z_69 nz_69) ok_X9_floor k_1311 k_1312 k_9 k_1313 ⟨(Nat.le_of_ble_eq_true rfl), (Nat.le_of_ble_eq_true rfl)⟩ ⟨(Nat.le_of_ble_eq_true rfl), (Nat.le_of_ble_eq_true rfl)⟩ hl.1 (Nat.le_of_ble_eq_true rfl) rfl rfl dX9_foretold_196 (hP.sub (ws' := ([] : va_W)) [] rfl) (fun r_71 hw_72 => ?_)
              refine lv_lstore (lv' := [(6, .long r_71), (0, .ref mh), (1, .int p0), (2, .int p1), (3, .int p2), (4, .int p3), (5, .int p4)]) hx hb dX9_foretold_199 hl (by decide) rfl (fun ls hl => ?_)
              refine lv_lload hx hb dX9_foretold_201 (lv_at hl 0 rfl) ?_
              refine lv_ldc2 hx hb hown (htb _ k_1314) dX9_foretold_203 ?_
              refine W.lcmp hx hb dX9_foretold_206 ?_
              refine lv_topi (fun z_74 ez_74 => ?_)
              refine lv_if_gt (tgt := 219) hx hb dX9_foretold_207 (by decide) (fun c_75 => ?_) (fun c_75 => ?_)
              ·
                have lc_76 : ((3000000) : Int64).toInt < (r_71 : Int64).toInt := lc_gtI (by rw [← ez_74]; first | exact Or.inl c_75 | exact Or.inr c_75)
                refine lv_ldc hx hb hown (htb _ k_1205) dX9_foretold_219 ?_
                have hP9 := hP.sub (ws' := [(mh, .inr (9, G9 ma mcode mtoday moffs w_16 w_21 w_17 w_20 w_24 w_22 w_18 w_23 w_19 z_70 z_69 mrates mtaped mlaid mat mtk mtkAt mtkNumber mwaits mlisted mdealtMany)), ((ma 2), .inl (E 0, 400, .inl mf2)), ((ma 3), .inl (E 0, 16, .inl mf3)), ((ma 4), .inl (E 0, 16, .inl mf4)), ((ma 5), .inl (E 1, 6400, .inl mf5)), ((ma 6), .inl (E 0, 6400, .inl mf6)), ((ma 7), .inl (E 0, 6400, .inl mf7)), ((ma 8), .inl (E 1, 6400, .inl mf8)), ((ma 9), .inl (E 1, 6400, .inl mf9)), ((ma 12), .inl (E 0, 60, .inl mf12)), ((ma 13), .inl (E 0, 60, .inl mf13)), ((ma 14), .inl (E 0, 60, .inl mf14)), ((ma 15), .inl (E 0, 60, .inl mf15)), ((ma 16), .inl (E 0, 60, .inl mf16))]) [13, 0, 1, 2, 3, 4, 5, 6, 7, 8, 9, 10, 11, 12] rfl
                have hD9 := hD.sub (ws' := [(mh, .inr (9, G9 ma mcode mtoday moffs w_16 w_21 w_17 w_20 w_24 w_22 w_18 w_23 w_19 z_70 z_69 mrates mtaped mlaid mat mtk mtkAt mtkNumber mwaits mlisted mdealtMany)), ((ma 2), .inl (E 0, 400, .inl mf2)), ((ma 3), .inl (E 0, 16, .inl mf3)), ((ma 4), .inl (E 0, 16, .inl mf4)), ((ma 5), .inl (E 1, 6400, .inl mf5)), ((ma 6), .inl (E 0, 6400, .inl mf6)), ((ma 7), .inl (E 0, 6400, .inl mf7)), ((ma 8), .inl (E 1, 6400, .inl mf8)), ((ma 9), .inl (E 1, 6400, .inl mf9)), ((ma 12), .inl (E 0, 60, .inl mf12)), ((ma 13), .inl (E 0, 60, .inl mf13)), ((ma 14), .inl (E 0, 60, .inl mf14)), ((ma 15), .inl (E 0, 60, .inl mf15)), ((ma 16), .inl (E 0, 60, .inl mf16))]) [13, 0, 1, 2, 3, 4, 5, 6, 7, 8, 9, 10, 11, 12] (by decide) rfl
                exact W.iret (v := (-2000000000)) hx hb hr (fun t ht hW => ⟨⟨(-2000000000), (z_69, w_16, w_17, w_18, w_19, w_20, w_21, w_22, w_23, w_24, z_70), rfl, (Or.inr (Or.inr ⟨⟨by have h9 := hw_2; omega, by have h9 := hw_2; omega, by omega, by omega⟩, by rw [← hw_14]; exact lc_27, (by have hu : uplM (fold9 (fun d => wmF mf3 mf4 mf2 p0 d) (fun d => agI mf8 (400 * p0.toInt).toNat d) (-1000) (rateL (fun d => ratF mf5 mf6 mf7 mf8 mf9 mf12 mf13 mf14 mf15 mf16 moffs p0 d (-1)) p1 (p2.toInt - p1.toInt).toNat)) p3 p4 = (w_36, w_37) := (by rw [← hw_14]; unfold uplM; (try dsimp only); first | (rw [if_neg hw_29]; rw [hw_34_0, hw_34_1]; subst_vars; rfl) | (rw [if_neg hw_29]; rw [hw_34_0, hw_34_1]; subst_vars)); unfold FRM; rw [hu]; intro hlo; exfalso; have h0 : (0 : Int64).toInt = 0 := (by decide); have h9 := lc_68; (try dsimp only at hlo); omega)⟩)), by rw [ht]; exact hP9, hD9⟩, hS.F ht⟩) hS.2.2 dX9_foretold_221
              ·
                have lc_77 : (r_71 : Int64).toInt ≤ ((3000000) : Int64).toInt := lc_leI (by rw [← ez_74]; first | exact Or.inl c_75 | exact Or.inr c_75)
                refine lv_lload hx hb dX9_foretold_210 (lv_at hl 0 rfl) ?_
                refine lv_ldc2 hx hb hown (htb _ k_1315) dX9_foretold_212 ?_
                refine W.lcmp hx hb dX9_foretold_215 ?_
                refine lv_topi (fun z_78 ez_78 => ?_)
                refine lv_if_ge (tgt := 222) hx hb dX9_foretold_216 (by decide) (fun c_79 => ?_) (fun c_79 => ?_)
                ·
                  have lc_80 : ((-3000000) : Int64).toInt ≤ (r_71 : Int64).toInt := lc_geI (by rw [← ez_78]; first | exact Or.inl c_79 | exact Or.inr c_79)
                  refine lv_ldc2 hx hb hown (htb _ k_1316) dX9_foretold_222 ?_
                  refine lv_lload hx hb dX9_foretold_225 (lv_at hl 0 rfl) ?_
                  refine lv_lmul hx hb dX9_foretold_227 ?_
                  refine lv_topl (fun z_81 ez_81 => ?_)
                  refine lv_ldc2 hx hb hown (htb _ k_1316) dX9_foretold_228 ?_
                  refine lv_aload_n hx hb dX9_foretold_231 rfl (lv_at hl 1 rfl) ?_
                  refine va_get (D := D) (ci := 9) (v := .long z_70) (C := RX9) (T := TX9) (N := 68) hx hb htb iX9 hown hK.1 hP 13 rfl rfl 26 (by decide) (htb _ k_984) (fun _ h9 => h9) rfl dX9_foretold_232 ?_
                  refine lv_lload hx hb dX9_foretold_235 (lv_at hl 0 rfl) ?_
                  refine lv_aload_n hx hb dX9_foretold_237 rfl (lv_at hl 1 rfl) ?_
                  refine va_get (D := D) (ci := 9) (v := .long z_69) (C := RX9) (T := TX9) (N := 68) hx hb htb iX9 hown hK.1 hP 13 rfl rfl 27 (by decide) (htb _ k_985) (fun _ h9 => h9) rfl dX9_foretold_238 ?_
                  refine lv_lmul hx hb dX9_foretold_241 ?_
                  refine lv_topl (fun z_82 ez_82 => ?_)
                  refine lv_lsub hx hb dX9_foretold_242 ?_
                  refine lv_topl (fun z_83 ez_83 => ?_)
                  refine lv_lmul hx hb dX9_foretold_243 ?_
                  refine lv_topl (fun z_84 ez_84 => ?_)
                  refine lv_aload_n hx hb dX9_foretold_244 rfl (lv_at hl 1 rfl) ?_
                  refine va_get (D := D) (ci := 9) (v := .long z_69) (C := RX9) (T := TX9) (N := 68) hx hb htb iX9 hown hK.1 hP 13 rfl rfl 27 (by decide) (htb _ k_985) (fun _ h9 => h9) rfl dX9_foretold_245 ?_
                  refine lv_ldiv hx hb dX9_foretold_248 nz_69 ?_
                  refine lv_topl (fun z_85 ez_85 => ?_)
                  refine lv_ladd hx hb dX9_foretold_249 ?_
                  refine lv_topl (fun z_86 ez_86 => ?_)
                  refine lv_lstore (lv' := [(8, .long z_86), (6, .long r_71), (0, .ref mh), (1, .int p0), (2, .int p1), (3, .int p2), (4, .int p3), (5, .int p4)]) hx hb dX9_foretold_250 hl (by decide) rfl (fun ls hl => ?_)
                  refine lv_lload hx hb dX9_foretold_252 (lv_at hl 0 rfl) ?_
                  refine lv_ldc2 hx hb hown (htb _ k_1317) dX9_foretold_254 ?_
                  refine W.lcmp hx hb dX9_foretold_257 ?_
                  refine lv_topi (fun z_87 ez_87 => ?_)
                  refine lv_if_gt (tgt := 270) hx hb dX9_foretold_258 (by decide) (fun c_88 => ?_) (fun c_88 => ?_)
                  ·
                    have lc_89 : ((2000000000) : Int64).toInt < (z_86 : Int64).toInt := lc_gtI (by rw [← ez_87]; first | exact Or.inl c_88 | exact Or.inr c_88)
                    refine lv_ldc hx hb hown (htb _ k_1205) dX9_foretold_270 ?_
                    refine lv_goto (tgt := 278) hx hb dX9_foretold_272 (by decide) ?_
                    have hP9 := hP.sub (ws' := [(mh, .inr (9, G9 ma mcode mtoday moffs w_16 w_21 w_17 w_20 w_24 w_22 w_18 w_23 w_19 z_70 z_69 mrates mtaped mlaid mat mtk mtkAt mtkNumber mwaits mlisted mdealtMany)), ((ma 2), .inl (E 0, 400, .inl mf2)), ((ma 3), .inl (E 0, 16, .inl mf3)), ((ma 4), .inl (E 0, 16, .inl mf4)), ((ma 5), .inl (E 1, 6400, .inl mf5)), ((ma 6), .inl (E 0, 6400, .inl mf6)), ((ma 7), .inl (E 0, 6400, .inl mf7)), ((ma 8), .inl (E 1, 6400, .inl mf8)), ((ma 9), .inl (E 1, 6400, .inl mf9)), ((ma 12), .inl (E 0, 60, .inl mf12)), ((ma 13), .inl (E 0, 60, .inl mf13)), ((ma 14), .inl (E 0, 60, .inl mf14)), ((ma 15), .inl (E 0, 60, .inl mf15)), ((ma 16), .inl (E 0, 60, .inl mf16))]) [13, 0, 1, 2, 3, 4, 5, 6, 7, 8, 9, 10, 11, 12] rfl
                    have hD9 := hD.sub (ws' := [(mh, .inr (9, G9 ma mcode mtoday moffs w_16 w_21 w_17 w_20 w_24 w_22 w_18 w_23 w_19 z_70 z_69 mrates mtaped mlaid mat mtk mtkAt mtkNumber mwaits mlisted mdealtMany)), ((ma 2), .inl (E 0, 400, .inl mf2)), ((ma 3), .inl (E 0, 16, .inl mf3)), ((ma 4), .inl (E 0, 16, .inl mf4)), ((ma 5), .inl (E 1, 6400, .inl mf5)), ((ma 6), .inl (E 0, 6400, .inl mf6)), ((ma 7), .inl (E 0, 6400, .inl mf7)), ((ma 8), .inl (E 1, 6400, .inl mf8)), ((ma 9), .inl (E 1, 6400, .inl mf9)), ((ma 12), .inl (E 0, 60, .inl mf12)), ((ma 13), .inl (E 0, 60, .inl mf13)), ((ma 14), .inl (E 0, 60, .inl mf14)), ((ma 15), .inl (E 0, 60, .inl mf15)), ((ma 16), .inl (E 0, 60, .inl mf16))]) [13, 0, 1, 2, 3, 4, 5, 6, 7, 8, 9, 10, 11, 12] (by decide) rfl
                    exact W.iret (v := (-2000000000)) hx hb hr (fun t ht hW => ⟨⟨(-2000000000), (z_69, w_16, w_17, w_18, w_19, w_20, w_21, w_22, w_23, w_24, z_70), rfl, (Or.inr (Or.inr ⟨⟨by have h9 := hw_2; omega, by have h9 := hw_2; omega, by omega, by omega⟩, by rw [← hw_14]; exact lc_27, (by have hu : uplM (fold9 (fun d => wmF mf3 mf4 mf2 p0 d) (fun d => agI mf8 (400 * p0.toInt).toNat d) (-1000) (rateL (fun d => ratF mf5 mf6 mf7 mf8 mf9 mf12 mf13 mf14 mf15 mf16 moffs p0 d (-1)) p1 (p2.toInt - p1.toInt).toNat)) p3 p4 = (w_36, w_37) := (by rw [← hw_14]; unfold uplM; (try dsimp only); first | (rw [if_neg hw_29]; rw [hw_34_0, hw_34_1]; subst_vars; rfl) | (rw [if_neg hw_29]; rw [hw_34_0, hw_34_1]; subst_vars)); unfold FRM; rw [hu]; intro hlo; exfalso; have h0 : (0 : Int64).toInt = 0 := (by decide); have h9 := lc_68; (try dsimp only at hlo); omega)⟩)), by rw [ht]; exact hP9, hD9⟩, hS.F ht⟩) hS.2.2 dX9_foretold_278
                  ·
                    have lc_90 : (z_86 : Int64).toInt ≤ ((2000000000) : Int64).toInt := lc_leI (by rw [← ez_87]; first | exact Or.inl c_88 | exact Or.inr c_88)
                    refine lv_lload hx hb dX9_foretold_261 (lv_at hl 0 rfl) ?_
                    refine lv_ldc2 hx hb hown (htb _ k_1281) dX9_foretold_263 ?_
                    refine W.lcmp hx hb dX9_foretold_266 ?_
                    refine lv_topi (fun z_91 ez_91 => ?_)
                    refine lv_if_ge (tgt := 275) hx hb dX9_foretold_267 (by decide) (fun c_92 => ?_) (fun c_92 => ?_)
                    ·
                      have lc_93 : ((-2000000000) : Int64).toInt ≤ (z_86 : Int64).toInt := lc_geI (by rw [← ez_91]; first | exact Or.inl c_92 | exact Or.inr c_92)
                      refine lv_lload hx hb dX9_foretold_275 (lv_at hl 0 rfl) ?_
                      obtain ⟨z_94, ez_94⟩ : ∃ y : Int32, (z_86 : Int64).toInt32 = y := ⟨_, rfl⟩
                      refine lv_l2i hx hb dX9_foretold_277 ez_94 ?_
                      have hP9 := hP.sub (ws' := [(mh, .inr (9, G9 ma mcode mtoday moffs w_16 w_21 w_17 w_20 w_24 w_22 w_18 w_23 w_19 z_70 z_69 mrates mtaped mlaid mat mtk mtkAt mtkNumber mwaits mlisted mdealtMany)), ((ma 2), .inl (E 0, 400, .inl mf2)), ((ma 3), .inl (E 0, 16, .inl mf3)), ((ma 4), .inl (E 0, 16, .inl mf4)), ((ma 5), .inl (E 1, 6400, .inl mf5)), ((ma 6), .inl (E 0, 6400, .inl mf6)), ((ma 7), .inl (E 0, 6400, .inl mf7)), ((ma 8), .inl (E 1, 6400, .inl mf8)), ((ma 9), .inl (E 1, 6400, .inl mf9)), ((ma 12), .inl (E 0, 60, .inl mf12)), ((ma 13), .inl (E 0, 60, .inl mf13)), ((ma 14), .inl (E 0, 60, .inl mf14)), ((ma 15), .inl (E 0, 60, .inl mf15)), ((ma 16), .inl (E 0, 60, .inl mf16))]) [13, 0, 1, 2, 3, 4, 5, 6, 7, 8, 9, 10, 11, 12] rfl
                      have hD9 := hD.sub (ws' := [(mh, .inr (9, G9 ma mcode mtoday moffs w_16 w_21 w_17 w_20 w_24 w_22 w_18 w_23 w_19 z_70 z_69 mrates mtaped mlaid mat mtk mtkAt mtkNumber mwaits mlisted mdealtMany)), ((ma 2), .inl (E 0, 400, .inl mf2)), ((ma 3), .inl (E 0, 16, .inl mf3)), ((ma 4), .inl (E 0, 16, .inl mf4)), ((ma 5), .inl (E 1, 6400, .inl mf5)), ((ma 6), .inl (E 0, 6400, .inl mf6)), ((ma 7), .inl (E 0, 6400, .inl mf7)), ((ma 8), .inl (E 1, 6400, .inl mf8)), ((ma 9), .inl (E 1, 6400, .inl mf9)), ((ma 12), .inl (E 0, 60, .inl mf12)), ((ma 13), .inl (E 0, 60, .inl mf13)), ((ma 14), .inl (E 0, 60, .inl mf14)), ((ma 15), .inl (E 0, 60, .inl mf15)), ((ma 16), .inl (E 0, 60, .inl mf16))]) [13, 0, 1, 2, 3, 4, 5, 6, 7, 8, 9, 10, 11, 12] (by decide) rfl
                      exact W.iret (v := z_94) hx hb hr (fun t ht hW => ⟨⟨z_94, (z_69, w_16, w_17, w_18, w_19, w_20, w_21, w_22, w_23, w_24, z_70), rfl, (Or.inr (Or.inr ⟨⟨by have h9 := hw_2; omega, by have h9 := hw_2; omega, by omega, by omega⟩, by rw [← hw_14]; exact lc_27, (by have hu : uplM (fold9 (fun d => wmF mf3 mf4 mf2 p0 d) (fun d => agI mf8 (400 * p0.toInt).toNat d) (-1000) (rateL (fun d => ratF mf5 mf6 mf7 mf8 mf9 mf12 mf13 mf14 mf15 mf16 moffs p0 d (-1)) p1 (p2.toInt - p1.toInt).toNat)) p3 p4 = (w_36, w_37) := (by rw [← hw_14]; unfold uplM; (try dsimp only); first | (rw [if_neg hw_29]; rw [hw_34_0, hw_34_1]; subst_vars; rfl) | (rw [if_neg hw_29]; rw [hw_34_0, hw_34_1]; subst_vars)); unfold FRM; rw [hu]; intro hlo; exfalso; have h0 : (0 : Int64).toInt = 0 := (by decide); have h9 := lc_68; (try dsimp only at hlo); omega)⟩)), by rw [ht]; exact hP9, hD9⟩, hS.F ht⟩) hS.2.2 dX9_foretold_278
                    ·
                      have lc_95 : (z_86 : Int64).toInt < ((-2000000000) : Int64).toInt := lc_ltI (by rw [← ez_91]; first | exact Or.inl c_92 | exact Or.inr c_92)
                      refine lv_ldc hx hb hown (htb _ k_1205) dX9_foretold_270 ?_
                      refine lv_goto (tgt := 278) hx hb dX9_foretold_272 (by decide) ?_
                      have hP9 := hP.sub (ws' := [(mh, .inr (9, G9 ma mcode mtoday moffs w_16 w_21 w_17 w_20 w_24 w_22 w_18 w_23 w_19 z_70 z_69 mrates mtaped mlaid mat mtk mtkAt mtkNumber mwaits mlisted mdealtMany)), ((ma 2), .inl (E 0, 400, .inl mf2)), ((ma 3), .inl (E 0, 16, .inl mf3)), ((ma 4), .inl (E 0, 16, .inl mf4)), ((ma 5), .inl (E 1, 6400, .inl mf5)), ((ma 6), .inl (E 0, 6400, .inl mf6)), ((ma 7), .inl (E 0, 6400, .inl mf7)), ((ma 8), .inl (E 1, 6400, .inl mf8)), ((ma 9), .inl (E 1, 6400, .inl mf9)), ((ma 12), .inl (E 0, 60, .inl mf12)), ((ma 13), .inl (E 0, 60, .inl mf13)), ((ma 14), .inl (E 0, 60, .inl mf14)), ((ma 15), .inl (E 0, 60, .inl mf15)), ((ma 16), .inl (E 0, 60, .inl mf16))]) [13, 0, 1, 2, 3, 4, 5, 6, 7, 8, 9, 10, 11, 12] rfl
                      have hD9 := hD.sub (ws' := [(mh, .inr (9, G9 ma mcode mtoday moffs w_16 w_21 w_17 w_20 w_24 w_22 w_18 w_23 w_19 z_70 z_69 mrates mtaped mlaid mat mtk mtkAt mtkNumber mwaits mlisted mdealtMany)), ((ma 2), .inl (E 0, 400, .inl mf2)), ((ma 3), .inl (E 0, 16, .inl mf3)), ((ma 4), .inl (E 0, 16, .inl mf4)), ((ma 5), .inl (E 1, 6400, .inl mf5)), ((ma 6), .inl (E 0, 6400, .inl mf6)), ((ma 7), .inl (E 0, 6400, .inl mf7)), ((ma 8), .inl (E 1, 6400, .inl mf8)), ((ma 9), .inl (E 1, 6400, .inl mf9)), ((ma 12), .inl (E 0, 60, .inl mf12)), ((ma 13), .inl (E 0, 60, .inl mf13)), ((ma 14), .inl (E 0, 60, .inl mf14)), ((ma 15), .inl (E 0, 60, .inl mf15)), ((ma 16), .inl (E 0, 60, .inl mf16))]) [13, 0, 1, 2, 3, 4, 5, 6, 7, 8, 9, 10, 11, 12] (by decide) rfl
                      exact W.iret (v := (-2000000000)) hx hb hr (fun t ht hW => ⟨⟨(-2000000000), (z_69, w_16, w_17, w_18, w_19, w_20, w_21, w_22, w_23, w_24, z_70), rfl, (Or.inr (Or.inr ⟨⟨by have h9 := hw_2; omega, by have h9 := hw_2; omega, by omega, by omega⟩, by rw [← hw_14]; exact lc_27, (by have hu : uplM (fold9 (fun d => wmF mf3 mf4 mf2 p0 d) (fun d => agI mf8 (400 * p0.toInt).toNat d) (-1000) (rateL (fun d => ratF mf5 mf6 mf7 mf8 mf9 mf12 mf13 mf14 mf15 mf16 moffs p0 d (-1)) p1 (p2.toInt - p1.toInt).toNat)) p3 p4 = (w_36, w_37) := (by rw [← hw_14]; unfold uplM; (try dsimp only); first | (rw [if_neg hw_29]; rw [hw_34_0, hw_34_1]; subst_vars; rfl) | (rw [if_neg hw_29]; rw [hw_34_0, hw_34_1]; subst_vars)); unfold FRM; rw [hu]; intro hlo; exfalso; have h0 : (0 : Int64).toInt = 0 := (by decide); have h9 := lc_68; (try dsimp only at hlo); omega)⟩)), by rw [ht]; exact hP9, hD9⟩, hS.F ht⟩) hS.2.2 dX9_foretold_278
                ·
                  have lc_96 : (r_71 : Int64).toInt < ((-3000000) : Int64).toInt := lc_ltI (by rw [← ez_78]; first | exact Or.inl c_79 | exact Or.inr c_79)
                  refine lv_ldc hx hb hown (htb _ k_1205) dX9_foretold_219 ?_
                  have hP9 := hP.sub (ws' := [(mh, .inr (9, G9 ma mcode mtoday moffs w_16 w_21 w_17 w_20 w_24 w_22 w_18 w_23 w_19 z_70 z_69 mrates mtaped mlaid mat mtk mtkAt mtkNumber mwaits mlisted mdealtMany)), ((ma 2), .inl (E 0, 400, .inl mf2)), ((ma 3), .inl (E 0, 16, .inl mf3)), ((ma 4), .inl (E 0, 16, .inl mf4)), ((ma 5), .inl (E 1, 6400, .inl mf5)), ((ma 6), .inl (E 0, 6400, .inl mf6)), ((ma 7), .inl (E 0, 6400, .inl mf7)), ((ma 8), .inl (E 1, 6400, .inl mf8)), ((ma 9), .inl (E 1, 6400, .inl mf9)), ((ma 12), .inl (E 0, 60, .inl mf12)), ((ma 13), .inl (E 0, 60, .inl mf13)), ((ma 14), .inl (E 0, 60, .inl mf14)), ((ma 15), .inl (E 0, 60, .inl mf15)), ((ma 16), .inl (E 0, 60, .inl mf16))]) [13, 0, 1, 2, 3, 4, 5, 6, 7, 8, 9, 10, 11, 12] rfl
                  have hD9 := hD.sub (ws' := [(mh, .inr (9, G9 ma mcode mtoday moffs w_16 w_21 w_17 w_20 w_24 w_22 w_18 w_23 w_19 z_70 z_69 mrates mtaped mlaid mat mtk mtkAt mtkNumber mwaits mlisted mdealtMany)), ((ma 2), .inl (E 0, 400, .inl mf2)), ((ma 3), .inl (E 0, 16, .inl mf3)), ((ma 4), .inl (E 0, 16, .inl mf4)), ((ma 5), .inl (E 1, 6400, .inl mf5)), ((ma 6), .inl (E 0, 6400, .inl mf6)), ((ma 7), .inl (E 0, 6400, .inl mf7)), ((ma 8), .inl (E 1, 6400, .inl mf8)), ((ma 9), .inl (E 1, 6400, .inl mf9)), ((ma 12), .inl (E 0, 60, .inl mf12)), ((ma 13), .inl (E 0, 60, .inl mf13)), ((ma 14), .inl (E 0, 60, .inl mf14)), ((ma 15), .inl (E 0, 60, .inl mf15)), ((ma 16), .inl (E 0, 60, .inl mf16))]) [13, 0, 1, 2, 3, 4, 5, 6, 7, 8, 9, 10, 11, 12] (by decide) rfl
                  exact W.iret (v := (-2000000000)) hx hb hr (fun t ht hW => ⟨⟨(-2000000000), (z_69, w_16, w_17, w_18, w_19, w_20, w_21, w_22, w_23, w_24, z_70), rfl, (Or.inr (Or.inr ⟨⟨by have h9 := hw_2; omega, by have h9 := hw_2; omega, by omega, by omega⟩, by rw [← hw_14]; exact lc_27, (by have hu : uplM (fold9 (fun d => wmF mf3 mf4 mf2 p0 d) (fun d => agI mf8 (400 * p0.toInt).toNat d) (-1000) (rateL (fun d => ratF mf5 mf6 mf7 mf8 mf9 mf12 mf13 mf14 mf15 mf16 moffs p0 d (-1)) p1 (p2.toInt - p1.toInt).toNat)) p3 p4 = (w_36, w_37) := (by rw [← hw_14]; unfold uplM; (try dsimp only); first | (rw [if_neg hw_29]; rw [hw_34_0, hw_34_1]; subst_vars; rfl) | (rw [if_neg hw_29]; rw [hw_34_0, hw_34_1]; subst_vars)); unfold FRM; rw [hu]; intro hlo; exfalso; have h0 : (0 : Int64).toInt = 0 := (by decide); have h9 := lc_68; (try dsimp only at hlo); omega)⟩)), by rw [ht]; exact hP9, hD9⟩, hS.F ht⟩) hS.2.2 dX9_foretold_221
          ·
            refine W_top (y := .int 2) (by rw [hr_28]) ?_
            refine lv_tableIn (x := 2) (off := 41) (tgt := 101) hx hb dX9_foretold_60 (by decide) (by decide) (by decide) (by decide) ?_
            refine lv_aload_n hx hb dX9_foretold_101 rfl (lv_at hl 0 rfl) ?_
            refine lv_aload_n hx hb dX9_foretold_102 rfl (lv_at hl 0 rfl) ?_
            refine va_get (D := D) (ci := 9) (v := .long w_21) (C := RX9) (T := TX9) (N := 68) hx hb htb iX9 hown hK.1 hP 0 rfl rfl 18 (by decide) (htb _ k_976) (fun _ h9 => h9) rfl dX9_foretold_103 ?_
            refine lv_aload_n hx hb dX9_foretold_106 rfl (lv_at hl 0 rfl) ?_
            refine va_get (D := D) (ci := 9) (v := .long w_24) (C := RX9) (T := TX9) (N := 68) hx hb htb iX9 hown hK.1 hP 0 rfl rfl 21 (by decide) (htb _ k_979) (fun _ h9 => h9) rfl dX9_foretold_107 ?_
            refine lv_aload_n hx hb dX9_foretold_110 rfl (lv_at hl 0 rfl) ?_
            refine va_get (D := D) (ci := 9) (v := .long w_23) (C := RX9) (T := TX9) (N := 68) hx hb htb iX9 hown hK.1 hP 0 rfl rfl 24 (by decide) (htb _ k_982) (fun _ h9 => h9) rfl dX9_foretold_111 ?_
            refine lv_iload hx hb dX9_foretold_114 (lv_at hl 4 rfl) ?_
            obtain ⟨z_97, ez_97⟩ : ∃ y : Int64, (p3 : Int32).toInt64 = y := ⟨_, rfl⟩
            refine lv_i2l hx hb dX9_foretold_116 ez_97 ?_
            have hPc := hP.sub (ws' := [(mh, .inr (9, G9 ma mcode mtoday moffs w_16 w_21 w_17 w_20 w_24 w_22 w_18 w_23 w_19 mupper mlower mrates mtaped mlaid mat mtk mtkAt mtkNumber mwaits mlisted mdealtMany))]) [0] rfl
            have hDc := hD.sub (ws' := [(mh, .inr (9, G9 ma mcode mtoday moffs w_16 w_21 w_17 w_20 w_24 w_22 w_18 w_23 w_19 mupper mlower mrates mtaped mlaid mat mtk mtkAt mtkNumber mwaits mlisted mdealtMany))]) [0] (by decide) rfl
            refine aft_v (runMV (rest := []) (As := [.long w_21, .long w_24, .long w_23, .long z_97]) hx hb hml hown htb hK (g_X9_byTwo l D E mh ma mcode mtoday moffs w_16 w_21 w_17 w_20 w_24 w_22 w_18 w_23 w_19 mupper mlower mrates mtaped mlaid mat mtk mtkAt mtkNumber mwaits mlisted mdealtMany w_21 w_24 w_23 z_97 _ (by (try dsimp only); omega)) ok_X9_byTwo k_1307 k_1309 ks_52 k_9 k_1310 ⟨(Nat.le_of_ble_eq_true rfl), (Nat.le_of_ble_eq_true rfl)⟩ ⟨(Nat.le_of_ble_eq_true rfl), (Nat.le_of_ble_eq_true rfl)⟩ hl.1 (Nat.le_of_ble_eq_true rfl) rfl rfl dX9_foretold_117 hPc hDc rfl rfl 0 rfl) hP hD hS hA [0] [1, 2, 3, 4, 5, 6, 7, 8, 9, 10, 11, 12, 13] (wr := [((ma 2), .inl (E 0, 400, .inl mf2)), ((ma 3), .inl (E 0, 16, .inl mf3)), ((ma 4), .inl (E 0, 16, .inl mf4)), ((ma 5), .inl (E 1, 6400, .inl mf5)), ((ma 6), .inl (E 0, 6400, .inl mf6)), ((ma 7), .inl (E 0, 6400, .inl mf7)), ((ma 8), .inl (E 1, 6400, .inl mf8)), ((ma 9), .inl (E 1, 6400, .inl mf9)), ((ma 12), .inl (E 0, 60, .inl mf12)), ((ma 13), .inl (E 0, 60, .inl mf13)), ((ma 14), .inl (E 0, 60, .inl mf14)), ((ma 15), .inl (E 0, 60, .inl mf15)), ((ma 16), .inl (E 0, 60, .inl mf16))]) rfl rfl (by decide) (by decide) (fun u_100 H locs hw_99 hP hD hS => ?_)
            clear hPc hDc
            obtain ⟨w_101, w_102⟩ := u_100
            try dsimp only at hw_99
            have hP : va_P D vwCl [((ma 2), .inl (E 0, 400, .inl mf2)), ((ma 3), .inl (E 0, 16, .inl mf3)), ((ma 4), .inl (E 0, 16, .inl mf4)), ((ma 5), .inl (E 1, 6400, .inl mf5)), ((ma 6), .inl (E 0, 6400, .inl mf6)), ((ma 7), .inl (E 0, 6400, .inl mf7)), ((ma 8), .inl (E 1, 6400, .inl mf8)), ((ma 9), .inl (E 1, 6400, .inl mf9)), ((ma 12), .inl (E 0, 60, .inl mf12)), ((ma 13), .inl (E 0, 60, .inl mf13)), ((ma 14), .inl (E 0, 60, .inl mf14)), ((ma 15), .inl (E 0, 60, .inl mf15)), ((ma 16), .inl (E 0, 60, .inl mf16)), (mh, .inr (9, G9 ma mcode mtoday moffs w_16 w_21 w_17 w_20 w_24 w_22 w_18 w_23 w_19 w_102 w_101 mrates mtaped mlaid mat mtk mtkAt mtkNumber mwaits mlisted mdealtMany))] H := hP
            have hD := toW hP hD rfl
            obtain ⟨hw_99_0, hw_99_1⟩ := hw_99
            have nz_103 : ¬ w_101 = 0 := by rw [hw_99_0]; first | assumption | exact hw_29.2 | exact hw_29.2.2
            refine lv_goto (tgt := 161) hx hb dX9_foretold_120 (by decide) ?_
            refine lv_aload_n hx hb dX9_foretold_161 rfl (lv_at hl 0 rfl) ?_
            refine va_get (D := D) (ci := 9) (v := .long w_101) (C := RX9) (T := TX9) (N := 68) hx hb htb iX9 hown hK.1 hP 13 rfl rfl 27 (by decide) (htb _ k_985) (fun _ h9 => h9) rfl dX9_foretold_162 ?_
            refine lv_lconst (v := 0) hx hb dX9_foretold_165 (by decide) ?_
            refine W.lcmp hx hb dX9_foretold_166 ?_
            refine lv_topi (fun z_104 ez_104 => ?_)
            refine lv_if_ge (tgt := 188) hx hb dX9_foretold_167 (by decide) (fun c_105 => ?_) (fun c_105 => ?_)
            ·
              have lc_106 : (0 : Int64).toInt ≤ (w_101 : Int64).toInt := lc_geI (by rw [← ez_104]; first | exact Or.inl c_105 | exact Or.inr c_105)
              refine lv_aload_n hx hb dX9_foretold_188 rfl (lv_at hl 0 rfl) ?_
              refine va_get (D := D) (ci := 9) (v := .long w_102) (C := RX9) (T := TX9) (N := 68) hx hb htb iX9 hown hK.1 hP 13 rfl rfl 26 (by decide) (htb _ k_984) (fun _ h9 => h9) rfl dX9_foretold_189 ?_
              refine lv_aload_n hx hb dX9_foretold_192 rfl (lv_at hl 0 rfl) ?_
              refine va_get (D := D) (ci := 9) (v := .long w_101) (C := RX9) (T := TX9) (N := 68) hx hb htb iX9 hown hK.1 hP 13 rfl rfl 27 (by decide) (htb _ k_985) (fun _ h9 => h9) rfl dX9_foretold_193 ?_
              refine callLS (rest := []) (As := [.long w_102, .long w_101]) hx hb hml hown htb hK (g_X9_floor l D E w_102 w_101 nz_103) ok_X9_floor k_1311 k_1312 k_9 k_1313 ⟨(Nat.le_of_ble_eq_true rfl), (Nat.le_of_ble_eq_true rfl)⟩ ⟨(Nat.le_of_ble_eq_true rfl), (Nat.le_of_ble_eq_true rfl)⟩ hl.1 (Nat.le_of_ble_eq_true rfl) rfl rfl dX9_foretold_196 (hP.sub (ws' := ([] : va_W)) [] rfl) (fun r_107 hw_108 => ?_)
              refine lv_lstore (lv' := [(6, .long r_107), (0, .ref mh), (1, .int p0), (2, .int p1), (3, .int p2), (4, .int p3), (5, .int p4)]) hx hb dX9_foretold_199 hl (by decide) rfl (fun ls hl => ?_)
              refine lv_lload hx hb dX9_foretold_201 (lv_at hl 0 rfl) ?_
              refine lv_ldc2 hx hb hown (htb _ k_1314) dX9_foretold_203 ?_
              refine W.lcmp hx hb dX9_foretold_206 ?_
              refine lv_topi (fun z_110 ez_110 => ?_)
              refine lv_if_gt (tgt := 219) hx hb dX9_foretold_207 (by decide) (fun c_111 => ?_) (fun c_111 => ?_)
              ·
                have lc_112 : ((3000000) : Int64).toInt < (r_107 : Int64).toInt := lc_gtI (by rw [← ez_110]; first | exact Or.inl c_111 | exact Or.inr c_111)
                refine lv_ldc hx hb hown (htb _ k_1205) dX9_foretold_219 ?_
                have hP9 := hP.sub (ws' := [(mh, .inr (9, G9 ma mcode mtoday moffs w_16 w_21 w_17 w_20 w_24 w_22 w_18 w_23 w_19 w_102 w_101 mrates mtaped mlaid mat mtk mtkAt mtkNumber mwaits mlisted mdealtMany)), ((ma 2), .inl (E 0, 400, .inl mf2)), ((ma 3), .inl (E 0, 16, .inl mf3)), ((ma 4), .inl (E 0, 16, .inl mf4)), ((ma 5), .inl (E 1, 6400, .inl mf5)), ((ma 6), .inl (E 0, 6400, .inl mf6)), ((ma 7), .inl (E 0, 6400, .inl mf7)), ((ma 8), .inl (E 1, 6400, .inl mf8)), ((ma 9), .inl (E 1, 6400, .inl mf9)), ((ma 12), .inl (E 0, 60, .inl mf12)), ((ma 13), .inl (E 0, 60, .inl mf13)), ((ma 14), .inl (E 0, 60, .inl mf14)), ((ma 15), .inl (E 0, 60, .inl mf15)), ((ma 16), .inl (E 0, 60, .inl mf16))]) [13, 0, 1, 2, 3, 4, 5, 6, 7, 8, 9, 10, 11, 12] rfl
                have hD9 := hD.sub (ws' := [(mh, .inr (9, G9 ma mcode mtoday moffs w_16 w_21 w_17 w_20 w_24 w_22 w_18 w_23 w_19 w_102 w_101 mrates mtaped mlaid mat mtk mtkAt mtkNumber mwaits mlisted mdealtMany)), ((ma 2), .inl (E 0, 400, .inl mf2)), ((ma 3), .inl (E 0, 16, .inl mf3)), ((ma 4), .inl (E 0, 16, .inl mf4)), ((ma 5), .inl (E 1, 6400, .inl mf5)), ((ma 6), .inl (E 0, 6400, .inl mf6)), ((ma 7), .inl (E 0, 6400, .inl mf7)), ((ma 8), .inl (E 1, 6400, .inl mf8)), ((ma 9), .inl (E 1, 6400, .inl mf9)), ((ma 12), .inl (E 0, 60, .inl mf12)), ((ma 13), .inl (E 0, 60, .inl mf13)), ((ma 14), .inl (E 0, 60, .inl mf14)), ((ma 15), .inl (E 0, 60, .inl mf15)), ((ma 16), .inl (E 0, 60, .inl mf16))]) [13, 0, 1, 2, 3, 4, 5, 6, 7, 8, 9, 10, 11, 12] (by decide) rfl
                exact W.iret (v := (-2000000000)) hx hb hr (fun t ht hW => ⟨⟨(-2000000000), (w_101, w_16, w_17, w_18, w_19, w_20, w_21, w_22, w_23, w_24, w_102), rfl, (Or.inr (Or.inr ⟨⟨by have h9 := hw_2; omega, by have h9 := hw_2; omega, by omega, by omega⟩, by rw [← hw_14]; exact lc_27, (by have hu : uplM (fold9 (fun d => wmF mf3 mf4 mf2 p0 d) (fun d => agI mf8 (400 * p0.toInt).toNat d) (-1000) (rateL (fun d => ratF mf5 mf6 mf7 mf8 mf9 mf12 mf13 mf14 mf15 mf16 moffs p0 d (-1)) p1 (p2.toInt - p1.toInt).toNat)) p3 p4 = (w_101, w_102) := (by rw [← hw_14]; unfold uplM; (try dsimp only); first | (rw [if_pos hw_29.1, if_neg hw_29.2]; rw [hw_99_0, hw_99_1]; subst_vars; rfl) | (rw [if_pos hw_29.1, if_neg hw_29.2]; rw [hw_99_0, hw_99_1]; subst_vars)); unfold FRM; rw [hu]; intro hlo; (try dsimp only at hlo ⊢); have h3 : (3000000 : Int64).toInt = 3000000 := (by decide); have h4 : (-3000000 : Int64).toInt = -3000000 := (by decide); have h5 : (2000000000 : Int64).toInt = 2000000000 := (by decide); have h6 : (-2000000000 : Int64).toInt = -2000000000 := (by decide); have q0 := lc_112; exact ⟨r_107, hw_108 hlo, Or.inl ⟨by omega, by have hv := t_m2000000000; omega⟩⟩)⟩)), by rw [ht]; exact hP9, hD9⟩, hS.F ht⟩) hS.2.2 dX9_foretold_221
              ·
                have lc_113 : (r_107 : Int64).toInt ≤ ((3000000) : Int64).toInt := lc_leI (by rw [← ez_110]; first | exact Or.inl c_111 | exact Or.inr c_111)
                refine lv_lload hx hb dX9_foretold_210 (lv_at hl 0 rfl) ?_
                refine lv_ldc2 hx hb hown (htb _ k_1315) dX9_foretold_212 ?_
                refine W.lcmp hx hb dX9_foretold_215 ?_
                refine lv_topi (fun z_114 ez_114 => ?_)
                refine lv_if_ge (tgt := 222) hx hb dX9_foretold_216 (by decide) (fun c_115 => ?_) (fun c_115 => ?_)
                ·
                  have lc_116 : ((-3000000) : Int64).toInt ≤ (r_107 : Int64).toInt := lc_geI (by rw [← ez_114]; first | exact Or.inl c_115 | exact Or.inr c_115)
                  refine lv_ldc2 hx hb hown (htb _ k_1316) dX9_foretold_222 ?_
                  refine lv_lload hx hb dX9_foretold_225 (lv_at hl 0 rfl) ?_
                  refine lv_lmul hx hb dX9_foretold_227 ?_
                  refine lv_topl (fun z_117 ez_117 => ?_)
                  refine lv_ldc2 hx hb hown (htb _ k_1316) dX9_foretold_228 ?_
                  refine lv_aload_n hx hb dX9_foretold_231 rfl (lv_at hl 1 rfl) ?_
                  refine va_get (D := D) (ci := 9) (v := .long w_102) (C := RX9) (T := TX9) (N := 68) hx hb htb iX9 hown hK.1 hP 13 rfl rfl 26 (by decide) (htb _ k_984) (fun _ h9 => h9) rfl dX9_foretold_232 ?_
                  refine lv_lload hx hb dX9_foretold_235 (lv_at hl 0 rfl) ?_
                  refine lv_aload_n hx hb dX9_foretold_237 rfl (lv_at hl 1 rfl) ?_
                  refine va_get (D := D) (ci := 9) (v := .long w_101) (C := RX9) (T := TX9) (N := 68) hx hb htb iX9 hown hK.1 hP 13 rfl rfl 27 (by decide) (htb _ k_985) (fun _ h9 => h9) rfl dX9_foretold_238 ?_
                  refine lv_lmul hx hb dX9_foretold_241 ?_
                  refine lv_topl (fun z_118 ez_118 => ?_)
                  refine lv_lsub hx hb dX9_foretold_242 ?_
                  refine lv_topl (fun z_119 ez_119 => ?_)
                  refine lv_lmul hx hb dX9_foretold_243 ?_
                  refine lv_topl (fun z_120 ez_120 => ?_)
                  refine lv_aload_n hx hb dX9_foretold_244 rfl (lv_at hl 1 rfl) ?_
                  refine va_get (D := D) (ci := 9) (v := .long w_101) (C := RX9) (T := TX9) (N := 68) hx hb htb iX9 hown hK.1 hP 13 rfl rfl 27 (by decide) (htb _ k_985) (fun _ h9 => h9) rfl dX9_foretold_245 ?_
                  refine lv_ldiv hx hb dX9_foretold_248 nz_103 ?_
                  refine lv_topl (fun z_121 ez_121 => ?_)
                  refine lv_ladd hx hb dX9_foretold_249 ?_
                  refine lv_topl (fun z_122 ez_122 => ?_)
                  refine lv_lstore (lv' := [(8, .long z_122), (6, .long r_107), (0, .ref mh), (1, .int p0), (2, .int p1), (3, .int p2), (4, .int p3), (5, .int p4)]) hx hb dX9_foretold_250 hl (by decide) rfl (fun ls hl => ?_)
                  refine lv_lload hx hb dX9_foretold_252 (lv_at hl 0 rfl) ?_
                  refine lv_ldc2 hx hb hown (htb _ k_1317) dX9_foretold_254 ?_
                  refine W.lcmp hx hb dX9_foretold_257 ?_
                  refine lv_topi (fun z_123 ez_123 => ?_)
                  refine lv_if_gt (tgt := 270) hx hb dX9_foretold_258 (by decide) (fun c_124 => ?_) (fun c_124 => ?_)
                  ·
                    have lc_125 : ((2000000000) : Int64).toInt < (z_122 : Int64).toInt := lc_gtI (by rw [← ez_123]; first | exact Or.inl c_124 | exact Or.inr c_124)
                    refine lv_ldc hx hb hown (htb _ k_1205) dX9_foretold_270 ?_
                    refine lv_goto (tgt := 278) hx hb dX9_foretold_272 (by decide) ?_
                    have hP9 := hP.sub (ws' := [(mh, .inr (9, G9 ma mcode mtoday moffs w_16 w_21 w_17 w_20 w_24 w_22 w_18 w_23 w_19 w_102 w_101 mrates mtaped mlaid mat mtk mtkAt mtkNumber mwaits mlisted mdealtMany)), ((ma 2), .inl (E 0, 400, .inl mf2)), ((ma 3), .inl (E 0, 16, .inl mf3)), ((ma 4), .inl (E 0, 16, .inl mf4)), ((ma 5), .inl (E 1, 6400, .inl mf5)), ((ma 6), .inl (E 0, 6400, .inl mf6)), ((ma 7), .inl (E 0, 6400, .inl mf7)), ((ma 8), .inl (E 1, 6400, .inl mf8)), ((ma 9), .inl (E 1, 6400, .inl mf9)), ((ma 12), .inl (E 0, 60, .inl mf12)), ((ma 13), .inl (E 0, 60, .inl mf13)), ((ma 14), .inl (E 0, 60, .inl mf14)), ((ma 15), .inl (E 0, 60, .inl mf15)), ((ma 16), .inl (E 0, 60, .inl mf16))]) [13, 0, 1, 2, 3, 4, 5, 6, 7, 8, 9, 10, 11, 12] rfl
                    have hD9 := hD.sub (ws' := [(mh, .inr (9, G9 ma mcode mtoday moffs w_16 w_21 w_17 w_20 w_24 w_22 w_18 w_23 w_19 w_102 w_101 mrates mtaped mlaid mat mtk mtkAt mtkNumber mwaits mlisted mdealtMany)), ((ma 2), .inl (E 0, 400, .inl mf2)), ((ma 3), .inl (E 0, 16, .inl mf3)), ((ma 4), .inl (E 0, 16, .inl mf4)), ((ma 5), .inl (E 1, 6400, .inl mf5)), ((ma 6), .inl (E 0, 6400, .inl mf6)), ((ma 7), .inl (E 0, 6400, .inl mf7)), ((ma 8), .inl (E 1, 6400, .inl mf8)), ((ma 9), .inl (E 1, 6400, .inl mf9)), ((ma 12), .inl (E 0, 60, .inl mf12)), ((ma 13), .inl (E 0, 60, .inl mf13)), ((ma 14), .inl (E 0, 60, .inl mf14)), ((ma 15), .inl (E 0, 60, .inl mf15)), ((ma 16), .inl (E 0, 60, .inl mf16))]) [13, 0, 1, 2, 3, 4, 5, 6, 7, 8, 9, 10, 11, 12] (by decide) rfl
                    exact W.iret (v := (-2000000000)) hx hb hr (fun t ht hW => ⟨⟨(-2000000000), (w_101, w_16, w_17, w_18, w_19, w_20, w_21, w_22, w_23, w_24, w_102), rfl, (Or.inr (Or.inr ⟨⟨by have h9 := hw_2; omega, by have h9 := hw_2; omega, by omega, by omega⟩, by rw [← hw_14]; exact lc_27, (by have hu : uplM (fold9 (fun d => wmF mf3 mf4 mf2 p0 d) (fun d => agI mf8 (400 * p0.toInt).toNat d) (-1000) (rateL (fun d => ratF mf5 mf6 mf7 mf8 mf9 mf12 mf13 mf14 mf15 mf16 moffs p0 d (-1)) p1 (p2.toInt - p1.toInt).toNat)) p3 p4 = (w_101, w_102) := (by rw [← hw_14]; unfold uplM; (try dsimp only); first | (rw [if_pos hw_29.1, if_neg hw_29.2]; rw [hw_99_0, hw_99_1]; subst_vars; rfl) | (rw [if_pos hw_29.1, if_neg hw_29.2]; rw [hw_99_0, hw_99_1]; subst_vars)); unfold FRM; rw [hu]; intro hlo; (try dsimp only at hlo ⊢); have h3 : (3000000 : Int64).toInt = 3000000 := (by decide); have h4 : (-3000000 : Int64).toInt = -3000000 := (by decide); have h5 : (2000000000 : Int64).toInt = 2000000000 := (by decide); have h6 : (-2000000000 : Int64).toInt = -2000000000 := (by decide); have q0 := lc_113; have q1 := lc_116; have q2 := lc_125; exact ⟨r_107, hw_108 hlo, Or.inr ⟨by omega, z_122, by subst_vars; rfl, Or.inl ⟨by omega, by have hv := t_m2000000000; omega⟩⟩⟩)⟩)), by rw [ht]; exact hP9, hD9⟩, hS.F ht⟩) hS.2.2 dX9_foretold_278
                  ·
                    have lc_126 : (z_122 : Int64).toInt ≤ ((2000000000) : Int64).toInt := lc_leI (by rw [← ez_123]; first | exact Or.inl c_124 | exact Or.inr c_124)
                    refine lv_lload hx hb dX9_foretold_261 (lv_at hl 0 rfl) ?_
                    refine lv_ldc2 hx hb hown (htb _ k_1281) dX9_foretold_263 ?_
                    refine W.lcmp hx hb dX9_foretold_266 ?_
                    refine lv_topi (fun z_127 ez_127 => ?_)
                    refine lv_if_ge (tgt := 275) hx hb dX9_foretold_267 (by decide) (fun c_128 => ?_) (fun c_128 => ?_)
                    ·
                      have lc_129 : ((-2000000000) : Int64).toInt ≤ (z_122 : Int64).toInt := lc_geI (by rw [← ez_127]; first | exact Or.inl c_128 | exact Or.inr c_128)
                      refine lv_lload hx hb dX9_foretold_275 (lv_at hl 0 rfl) ?_
                      obtain ⟨z_130, ez_130⟩ : ∃ y : Int32, (z_122 : Int64).toInt32 = y := ⟨_, rfl⟩
                      refine lv_l2i hx hb dX9_foretold_277 ez_130 ?_
                      have hP9 := hP.sub (ws' := [(mh, .inr (9, G9 ma mcode mtoday moffs w_16 w_21 w_17 w_20 w_24 w_22 w_18 w_23 w_19 w_102 w_101 mrates mtaped mlaid mat mtk mtkAt mtkNumber mwaits mlisted mdealtMany)), ((ma 2), .inl (E 0, 400, .inl mf2)), ((ma 3), .inl (E 0, 16, .inl mf3)), ((ma 4), .inl (E 0, 16, .inl mf4)), ((ma 5), .inl (E 1, 6400, .inl mf5)), ((ma 6), .inl (E 0, 6400, .inl mf6)), ((ma 7), .inl (E 0, 6400, .inl mf7)), ((ma 8), .inl (E 1, 6400, .inl mf8)), ((ma 9), .inl (E 1, 6400, .inl mf9)), ((ma 12), .inl (E 0, 60, .inl mf12)), ((ma 13), .inl (E 0, 60, .inl mf13)), ((ma 14), .inl (E 0, 60, .inl mf14)), ((ma 15), .inl (E 0, 60, .inl mf15)), ((ma 16), .inl (E 0, 60, .inl mf16))]) [13, 0, 1, 2, 3, 4, 5, 6, 7, 8, 9, 10, 11, 12] rfl
                      have hD9 := hD.sub (ws' := [(mh, .inr (9, G9 ma mcode mtoday moffs w_16 w_21 w_17 w_20 w_24 w_22 w_18 w_23 w_19 w_102 w_101 mrates mtaped mlaid mat mtk mtkAt mtkNumber mwaits mlisted mdealtMany)), ((ma 2), .inl (E 0, 400, .inl mf2)), ((ma 3), .inl (E 0, 16, .inl mf3)), ((ma 4), .inl (E 0, 16, .inl mf4)), ((ma 5), .inl (E 1, 6400, .inl mf5)), ((ma 6), .inl (E 0, 6400, .inl mf6)), ((ma 7), .inl (E 0, 6400, .inl mf7)), ((ma 8), .inl (E 1, 6400, .inl mf8)), ((ma 9), .inl (E 1, 6400, .inl mf9)), ((ma 12), .inl (E 0, 60, .inl mf12)), ((ma 13), .inl (E 0, 60, .inl mf13)), ((ma 14), .inl (E 0, 60, .inl mf14)), ((ma 15), .inl (E 0, 60, .inl mf15)), ((ma 16), .inl (E 0, 60, .inl mf16))]) [13, 0, 1, 2, 3, 4, 5, 6, 7, 8, 9, 10, 11, 12] (by decide) rfl
                      exact W.iret (v := z_130) hx hb hr (fun t ht hW => ⟨⟨z_130, (w_101, w_16, w_17, w_18, w_19, w_20, w_21, w_22, w_23, w_24, w_102), rfl, (Or.inr (Or.inr ⟨⟨by have h9 := hw_2; omega, by have h9 := hw_2; omega, by omega, by omega⟩, by rw [← hw_14]; exact lc_27, (by have hu : uplM (fold9 (fun d => wmF mf3 mf4 mf2 p0 d) (fun d => agI mf8 (400 * p0.toInt).toNat d) (-1000) (rateL (fun d => ratF mf5 mf6 mf7 mf8 mf9 mf12 mf13 mf14 mf15 mf16 moffs p0 d (-1)) p1 (p2.toInt - p1.toInt).toNat)) p3 p4 = (w_101, w_102) := (by rw [← hw_14]; unfold uplM; (try dsimp only); first | (rw [if_pos hw_29.1, if_neg hw_29.2]; rw [hw_99_0, hw_99_1]; subst_vars; rfl) | (rw [if_pos hw_29.1, if_neg hw_29.2]; rw [hw_99_0, hw_99_1]; subst_vars)); unfold FRM; rw [hu]; intro hlo; (try dsimp only at hlo ⊢); have h3 : (3000000 : Int64).toInt = 3000000 := (by decide); have h4 : (-3000000 : Int64).toInt = -3000000 := (by decide); have h5 : (2000000000 : Int64).toInt = 2000000000 := (by decide); have h6 : (-2000000000 : Int64).toInt = -2000000000 := (by decide); have q0 := lc_113; have q1 := lc_116; have q2 := lc_126; have q3 := lc_129; exact ⟨r_107, hw_108 hlo, Or.inr ⟨by omega, z_122, by subst_vars; rfl, Or.inr ⟨by omega, ez_130.symm⟩⟩⟩)⟩)), by rw [ht]; exact hP9, hD9⟩, hS.F ht⟩) hS.2.2 dX9_foretold_278
                    ·
                      have lc_131 : (z_122 : Int64).toInt < ((-2000000000) : Int64).toInt := lc_ltI (by rw [← ez_127]; first | exact Or.inl c_128 | exact Or.inr c_128)
                      refine lv_ldc hx hb hown (htb _ k_1205) dX9_foretold_270 ?_
                      refine lv_goto (tgt := 278) hx hb dX9_foretold_272 (by decide) ?_
                      have hP9 := hP.sub (ws' := [(mh, .inr (9, G9 ma mcode mtoday moffs w_16 w_21 w_17 w_20 w_24 w_22 w_18 w_23 w_19 w_102 w_101 mrates mtaped mlaid mat mtk mtkAt mtkNumber mwaits mlisted mdealtMany)), ((ma 2), .inl (E 0, 400, .inl mf2)), ((ma 3), .inl (E 0, 16, .inl mf3)), ((ma 4), .inl (E 0, 16, .inl mf4)), ((ma 5), .inl (E 1, 6400, .inl mf5)), ((ma 6), .inl (E 0, 6400, .inl mf6)), ((ma 7), .inl (E 0, 6400, .inl mf7)), ((ma 8), .inl (E 1, 6400, .inl mf8)), ((ma 9), .inl (E 1, 6400, .inl mf9)), ((ma 12), .inl (E 0, 60, .inl mf12)), ((ma 13), .inl (E 0, 60, .inl mf13)), ((ma 14), .inl (E 0, 60, .inl mf14)), ((ma 15), .inl (E 0, 60, .inl mf15)), ((ma 16), .inl (E 0, 60, .inl mf16))]) [13, 0, 1, 2, 3, 4, 5, 6, 7, 8, 9, 10, 11, 12] rfl
                      have hD9 := hD.sub (ws' := [(mh, .inr (9, G9 ma mcode mtoday moffs w_16 w_21 w_17 w_20 w_24 w_22 w_18 w_23 w_19 w_102 w_101 mrates mtaped mlaid mat mtk mtkAt mtkNumber mwaits mlisted mdealtMany)), ((ma 2), .inl (E 0, 400, .inl mf2)), ((ma 3), .inl (E 0, 16, .inl mf3)), ((ma 4), .inl (E 0, 16, .inl mf4)), ((ma 5), .inl (E 1, 6400, .inl mf5)), ((ma 6), .inl (E 0, 6400, .inl mf6)), ((ma 7), .inl (E 0, 6400, .inl mf7)), ((ma 8), .inl (E 1, 6400, .inl mf8)), ((ma 9), .inl (E 1, 6400, .inl mf9)), ((ma 12), .inl (E 0, 60, .inl mf12)), ((ma 13), .inl (E 0, 60, .inl mf13)), ((ma 14), .inl (E 0, 60, .inl mf14)), ((ma 15), .inl (E 0, 60, .inl mf15)), ((ma 16), .inl (E 0, 60, .inl mf16))]) [13, 0, 1, 2, 3, 4, 5, 6, 7, 8, 9, 10, 11, 12] (by decide) rfl
                      exact W.iret (v := (-2000000000)) hx hb hr (fun t ht hW => ⟨⟨(-2000000000), (w_101, w_16, w_17, w_18, w_19, w_20, w_21, w_22, w_23, w_24, w_102), rfl, (Or.inr (Or.inr ⟨⟨by have h9 := hw_2; omega, by have h9 := hw_2; omega, by omega, by omega⟩, by rw [← hw_14]; exact lc_27, (by have hu : uplM (fold9 (fun d => wmF mf3 mf4 mf2 p0 d) (fun d => agI mf8 (400 * p0.toInt).toNat d) (-1000) (rateL (fun d => ratF mf5 mf6 mf7 mf8 mf9 mf12 mf13 mf14 mf15 mf16 moffs p0 d (-1)) p1 (p2.toInt - p1.toInt).toNat)) p3 p4 = (w_101, w_102) := (by rw [← hw_14]; unfold uplM; (try dsimp only); first | (rw [if_pos hw_29.1, if_neg hw_29.2]; rw [hw_99_0, hw_99_1]; subst_vars; rfl) | (rw [if_pos hw_29.1, if_neg hw_29.2]; rw [hw_99_0, hw_99_1]; subst_vars)); unfold FRM; rw [hu]; intro hlo; (try dsimp only at hlo ⊢); have h3 : (3000000 : Int64).toInt = 3000000 := (by decide); have h4 : (-3000000 : Int64).toInt = -3000000 := (by decide); have h5 : (2000000000 : Int64).toInt = 2000000000 := (by decide); have h6 : (-2000000000 : Int64).toInt = -2000000000 := (by decide); have q0 := lc_113; have q1 := lc_116; have q2 := lc_126; have q3 := lc_131; exact ⟨r_107, hw_108 hlo, Or.inr ⟨by omega, z_122, by subst_vars; rfl, Or.inl ⟨by omega, by have hv := t_m2000000000; omega⟩⟩⟩)⟩)), by rw [ht]; exact hP9, hD9⟩, hS.F ht⟩) hS.2.2 dX9_foretold_278
                ·
                  have lc_132 : (r_107 : Int64).toInt < ((-3000000) : Int64).toInt := lc_ltI (by rw [← ez_114]; first | exact Or.inl c_115 | exact Or.inr c_115)
                  refine lv_ldc hx hb hown (htb _ k_1205) dX9_foretold_219 ?_
                  have hP9 := hP.sub (ws' := [(mh, .inr (9, G9 ma mcode mtoday moffs w_16 w_21 w_17 w_20 w_24 w_22 w_18 w_23 w_19 w_102 w_101 mrates mtaped mlaid mat mtk mtkAt mtkNumber mwaits mlisted mdealtMany)), ((ma 2), .inl (E 0, 400, .inl mf2)), ((ma 3), .inl (E 0, 16, .inl mf3)), ((ma 4), .inl (E 0, 16, .inl mf4)), ((ma 5), .inl (E 1, 6400, .inl mf5)), ((ma 6), .inl (E 0, 6400, .inl mf6)), ((ma 7), .inl (E 0, 6400, .inl mf7)), ((ma 8), .inl (E 1, 6400, .inl mf8)), ((ma 9), .inl (E 1, 6400, .inl mf9)), ((ma 12), .inl (E 0, 60, .inl mf12)), ((ma 13), .inl (E 0, 60, .inl mf13)), ((ma 14), .inl (E 0, 60, .inl mf14)), ((ma 15), .inl (E 0, 60, .inl mf15)), ((ma 16), .inl (E 0, 60, .inl mf16))]) [13, 0, 1, 2, 3, 4, 5, 6, 7, 8, 9, 10, 11, 12] rfl
                  have hD9 := hD.sub (ws' := [(mh, .inr (9, G9 ma mcode mtoday moffs w_16 w_21 w_17 w_20 w_24 w_22 w_18 w_23 w_19 w_102 w_101 mrates mtaped mlaid mat mtk mtkAt mtkNumber mwaits mlisted mdealtMany)), ((ma 2), .inl (E 0, 400, .inl mf2)), ((ma 3), .inl (E 0, 16, .inl mf3)), ((ma 4), .inl (E 0, 16, .inl mf4)), ((ma 5), .inl (E 1, 6400, .inl mf5)), ((ma 6), .inl (E 0, 6400, .inl mf6)), ((ma 7), .inl (E 0, 6400, .inl mf7)), ((ma 8), .inl (E 1, 6400, .inl mf8)), ((ma 9), .inl (E 1, 6400, .inl mf9)), ((ma 12), .inl (E 0, 60, .inl mf12)), ((ma 13), .inl (E 0, 60, .inl mf13)), ((ma 14), .inl (E 0, 60, .inl mf14)), ((ma 15), .inl (E 0, 60, .inl mf15)), ((ma 16), .inl (E 0, 60, .inl mf16))]) [13, 0, 1, 2, 3, 4, 5, 6, 7, 8, 9, 10, 11, 12] (by decide) rfl
                  exact W.iret (v := (-2000000000)) hx hb hr (fun t ht hW => ⟨⟨(-2000000000), (w_101, w_16, w_17, w_18, w_19, w_20, w_21, w_22, w_23, w_24, w_102), rfl, (Or.inr (Or.inr ⟨⟨by have h9 := hw_2; omega, by have h9 := hw_2; omega, by omega, by omega⟩, by rw [← hw_14]; exact lc_27, (by have hu : uplM (fold9 (fun d => wmF mf3 mf4 mf2 p0 d) (fun d => agI mf8 (400 * p0.toInt).toNat d) (-1000) (rateL (fun d => ratF mf5 mf6 mf7 mf8 mf9 mf12 mf13 mf14 mf15 mf16 moffs p0 d (-1)) p1 (p2.toInt - p1.toInt).toNat)) p3 p4 = (w_101, w_102) := (by rw [← hw_14]; unfold uplM; (try dsimp only); first | (rw [if_pos hw_29.1, if_neg hw_29.2]; rw [hw_99_0, hw_99_1]; subst_vars; rfl) | (rw [if_pos hw_29.1, if_neg hw_29.2]; rw [hw_99_0, hw_99_1]; subst_vars)); unfold FRM; rw [hu]; intro hlo; (try dsimp only at hlo ⊢); have h3 : (3000000 : Int64).toInt = 3000000 := (by decide); have h4 : (-3000000 : Int64).toInt = -3000000 := (by decide); have h5 : (2000000000 : Int64).toInt = 2000000000 := (by decide); have h6 : (-2000000000 : Int64).toInt = -2000000000 := (by decide); have q0 := lc_113; have q1 := lc_132; exact ⟨r_107, hw_108 hlo, Or.inl ⟨by omega, by have hv := t_m2000000000; omega⟩⟩)⟩)), by rw [ht]; exact hP9, hD9⟩, hS.F ht⟩) hS.2.2 dX9_foretold_221
            ·
              have lc_133 : (w_101 : Int64).toInt < (0 : Int64).toInt := lc_ltI (by rw [← ez_104]; first | exact Or.inl c_105 | exact Or.inr c_105)
              refine lv_aload_n hx hb dX9_foretold_170 rfl (lv_at hl 0 rfl) ?_
              refine lv_aload_n hx hb dX9_foretold_171 rfl (lv_at hl 0 rfl) ?_
              refine va_get (D := D) (ci := 9) (v := .long w_101) (C := RX9) (T := TX9) (N := 68) hx hb htb iX9 hown hK.1 hP 13 rfl rfl 27 (by decide) (htb _ k_985) (fun _ h9 => h9) rfl dX9_foretold_172 ?_
              refine lv_lneg hx hb dX9_foretold_175 ?_
              refine lv_topl (fun z_134 ez_134 => ?_)
              have nz_134 : ¬ z_134 = 0 := neg_nz ez_134 nz_103
              refine va_put (D := D) (ci := 9) (v := .long z_134) (ty := .long) (C := RX9) (T := TX9) (N := 68) hx hb htb iX9 tyX9 tyX9_ok nmX9 hown hK.1 hP hD hS 13 rfl rfl 27 (by decide) (htb _ k_985) (fun _ h9 => h9) rfl (by decide +kernel) rfl rfl (Nat.le_of_ble_eq_true rfl) dX9_foretold_176 (fun H locs hP hD hS => ?_)
              have hP : va_P D vwCl [((ma 2), .inl (E 0, 400, .inl mf2)), ((ma 3), .inl (E 0, 16, .inl mf3)), ((ma 4), .inl (E 0, 16, .inl mf4)), ((ma 5), .inl (E 1, 6400, .inl mf5)), ((ma 6), .inl (E 0, 6400, .inl mf6)), ((ma 7), .inl (E 0, 6400, .inl mf7)), ((ma 8), .inl (E 1, 6400, .inl mf8)), ((ma 9), .inl (E 1, 6400, .inl mf9)), ((ma 12), .inl (E 0, 60, .inl mf12)), ((ma 13), .inl (E 0, 60, .inl mf13)), ((ma 14), .inl (E 0, 60, .inl mf14)), ((ma 15), .inl (E 0, 60, .inl mf15)), ((ma 16), .inl (E 0, 60, .inl mf16)), (mh, .inr (9, G9 ma mcode mtoday moffs w_16 w_21 w_17 w_20 w_24 w_22 w_18 w_23 w_19 w_102 z_134 mrates mtaped mlaid mat mtk mtkAt mtkNumber mwaits mlisted mdealtMany))] H := hP
              have hD := toW hP hD rfl
              refine lv_aload_n hx hb dX9_foretold_179 rfl (lv_at hl 0 rfl) ?_
              refine lv_aload_n hx hb dX9_foretold_180 rfl (lv_at hl 0 rfl) ?_
              refine va_get (D := D) (ci := 9) (v := .long w_102) (C := RX9) (T := TX9) (N := 68) hx hb htb iX9 hown hK.1 hP 13 rfl rfl 26 (by decide) (htb _ k_984) (fun _ h9 => h9) rfl dX9_foretold_181 ?_
              refine lv_lneg hx hb dX9_foretold_184 ?_
              refine lv_topl (fun z_135 ez_135 => ?_)
              refine va_put (D := D) (ci := 9) (v := .long z_135) (ty := .long) (C := RX9) (T := TX9) (N := 68) hx hb htb iX9 tyX9 tyX9_ok nmX9 hown hK.1 hP hD hS 13 rfl rfl 26 (by decide) (htb _ k_984) (fun _ h9 => h9) rfl (by decide +kernel) rfl rfl (Nat.le_of_ble_eq_true rfl) dX9_foretold_185 (fun H locs hP hD hS => ?_)
              have hP : va_P D vwCl [((ma 2), .inl (E 0, 400, .inl mf2)), ((ma 3), .inl (E 0, 16, .inl mf3)), ((ma 4), .inl (E 0, 16, .inl mf4)), ((ma 5), .inl (E 1, 6400, .inl mf5)), ((ma 6), .inl (E 0, 6400, .inl mf6)), ((ma 7), .inl (E 0, 6400, .inl mf7)), ((ma 8), .inl (E 1, 6400, .inl mf8)), ((ma 9), .inl (E 1, 6400, .inl mf9)), ((ma 12), .inl (E 0, 60, .inl mf12)), ((ma 13), .inl (E 0, 60, .inl mf13)), ((ma 14), .inl (E 0, 60, .inl mf14)), ((ma 15), .inl (E 0, 60, .inl mf15)), ((ma 16), .inl (E 0, 60, .inl mf16)), (mh, .inr (9, G9 ma mcode mtoday moffs w_16 w_21 w_17 w_20 w_24 w_22 w_18 w_23 w_19 z_135 z_134 mrates mtaped mlaid mat mtk mtkAt mtkNumber mwaits mlisted mdealtMany))] H := hP
              have hD := toW hP hD rfl
              refine lv_aload_n hx hb dX9_foretold_188 rfl (lv_at hl 0 rfl) ?_
              refine va_get (D := D) (ci := 9) (v := .long z_135) (C := RX9) (T := TX9) (N := 68) hx hb htb iX9 hown hK.1 hP 13 rfl rfl 26 (by decide) (htb _ k_984) (fun _ h9 => h9) rfl dX9_foretold_189 ?_
              refine lv_aload_n hx hb dX9_foretold_192 rfl (lv_at hl 0 rfl) ?_
              refine va_get (D := D) (ci := 9) (v := .long z_134) (C := RX9) (T := TX9) (N := 68) hx hb htb iX9 hown hK.1 hP 13 rfl rfl 27 (by decide) (htb _ k_985) (fun _ h9 => h9) rfl dX9_foretold_193 ?_
              refine callLS (rest := []) (As := [.long z_135, .long z_134]) hx hb hml hown htb hK (g_X9_floor l D E z_135 z_134 nz_134) ok_X9_floor k_1311 k_1312 k_9 k_1313 ⟨(Nat.le_of_ble_eq_true rfl), (Nat.le_of_ble_eq_true rfl)⟩ ⟨(Nat.le_of_ble_eq_true rfl), (Nat.le_of_ble_eq_true rfl)⟩ hl.1 (Nat.le_of_ble_eq_true rfl) rfl rfl dX9_foretold_196 (hP.sub (ws' := ([] : va_W)) [] rfl) (fun r_136 hw_137 => ?_)
              refine lv_lstore (lv' := [(6, .long r_136), (0, .ref mh), (1, .int p0), (2, .int p1), (3, .int p2), (4, .int p3), (5, .int p4)]) hx hb dX9_foretold_199 hl (by decide) rfl (fun ls hl => ?_)
              refine lv_lload hx hb dX9_foretold_201 (lv_at hl 0 rfl) ?_
              refine lv_ldc2 hx hb hown (htb _ k_1314) dX9_foretold_203 ?_
              refine W.lcmp hx hb dX9_foretold_206 ?_
              refine lv_topi (fun z_139 ez_139 => ?_)
              refine lv_if_gt (tgt := 219) hx hb dX9_foretold_207 (by decide) (fun c_140 => ?_) (fun c_140 => ?_)
              ·
                have lc_141 : ((3000000) : Int64).toInt < (r_136 : Int64).toInt := lc_gtI (by rw [← ez_139]; first | exact Or.inl c_140 | exact Or.inr c_140)
                refine lv_ldc hx hb hown (htb _ k_1205) dX9_foretold_219 ?_
                have hP9 := hP.sub (ws' := [(mh, .inr (9, G9 ma mcode mtoday moffs w_16 w_21 w_17 w_20 w_24 w_22 w_18 w_23 w_19 z_135 z_134 mrates mtaped mlaid mat mtk mtkAt mtkNumber mwaits mlisted mdealtMany)), ((ma 2), .inl (E 0, 400, .inl mf2)), ((ma 3), .inl (E 0, 16, .inl mf3)), ((ma 4), .inl (E 0, 16, .inl mf4)), ((ma 5), .inl (E 1, 6400, .inl mf5)), ((ma 6), .inl (E 0, 6400, .inl mf6)), ((ma 7), .inl (E 0, 6400, .inl mf7)), ((ma 8), .inl (E 1, 6400, .inl mf8)), ((ma 9), .inl (E 1, 6400, .inl mf9)), ((ma 12), .inl (E 0, 60, .inl mf12)), ((ma 13), .inl (E 0, 60, .inl mf13)), ((ma 14), .inl (E 0, 60, .inl mf14)), ((ma 15), .inl (E 0, 60, .inl mf15)), ((ma 16), .inl (E 0, 60, .inl mf16))]) [13, 0, 1, 2, 3, 4, 5, 6, 7, 8, 9, 10, 11, 12] rfl
                have hD9 := hD.sub (ws' := [(mh, .inr (9, G9 ma mcode mtoday moffs w_16 w_21 w_17 w_20 w_24 w_22 w_18 w_23 w_19 z_135 z_134 mrates mtaped mlaid mat mtk mtkAt mtkNumber mwaits mlisted mdealtMany)), ((ma 2), .inl (E 0, 400, .inl mf2)), ((ma 3), .inl (E 0, 16, .inl mf3)), ((ma 4), .inl (E 0, 16, .inl mf4)), ((ma 5), .inl (E 1, 6400, .inl mf5)), ((ma 6), .inl (E 0, 6400, .inl mf6)), ((ma 7), .inl (E 0, 6400, .inl mf7)), ((ma 8), .inl (E 1, 6400, .inl mf8)), ((ma 9), .inl (E 1, 6400, .inl mf9)), ((ma 12), .inl (E 0, 60, .inl mf12)), ((ma 13), .inl (E 0, 60, .inl mf13)), ((ma 14), .inl (E 0, 60, .inl mf14)), ((ma 15), .inl (E 0, 60, .inl mf15)), ((ma 16), .inl (E 0, 60, .inl mf16))]) [13, 0, 1, 2, 3, 4, 5, 6, 7, 8, 9, 10, 11, 12] (by decide) rfl
                exact W.iret (v := (-2000000000)) hx hb hr (fun t ht hW => ⟨⟨(-2000000000), (z_134, w_16, w_17, w_18, w_19, w_20, w_21, w_22, w_23, w_24, z_135), rfl, (Or.inr (Or.inr ⟨⟨by have h9 := hw_2; omega, by have h9 := hw_2; omega, by omega, by omega⟩, by rw [← hw_14]; exact lc_27, (by have hu : uplM (fold9 (fun d => wmF mf3 mf4 mf2 p0 d) (fun d => agI mf8 (400 * p0.toInt).toNat d) (-1000) (rateL (fun d => ratF mf5 mf6 mf7 mf8 mf9 mf12 mf13 mf14 mf15 mf16 moffs p0 d (-1)) p1 (p2.toInt - p1.toInt).toNat)) p3 p4 = (w_101, w_102) := (by rw [← hw_14]; unfold uplM; (try dsimp only); first | (rw [if_pos hw_29.1, if_neg hw_29.2]; rw [hw_99_0, hw_99_1]; subst_vars; rfl) | (rw [if_pos hw_29.1, if_neg hw_29.2]; rw [hw_99_0, hw_99_1]; subst_vars)); unfold FRM; rw [hu]; intro hlo; exfalso; have h0 : (0 : Int64).toInt = 0 := (by decide); have h9 := lc_133; (try dsimp only at hlo); omega)⟩)), by rw [ht]; exact hP9, hD9⟩, hS.F ht⟩) hS.2.2 dX9_foretold_221
              ·
                have lc_142 : (r_136 : Int64).toInt ≤ ((3000000) : Int64).toInt := lc_leI (by rw [← ez_139]; first | exact Or.inl c_140 | exact Or.inr c_140)
                refine lv_lload hx hb dX9_foretold_210 (lv_at hl 0 rfl) ?_
                refine lv_ldc2 hx hb hown (htb _ k_1315) dX9_foretold_212 ?_
                refine W.lcmp hx hb dX9_foretold_215 ?_
                refine lv_topi (fun z_143 ez_143 => ?_)
                refine lv_if_ge (tgt := 222) hx hb dX9_foretold_216 (by decide) (fun c_144 => ?_) (fun c_144 => ?_)
                ·
                  have lc_145 : ((-3000000) : Int64).toInt ≤ (r_136 : Int64).toInt := lc_geI (by rw [← ez_143]; first | exact Or.inl c_144 | exact Or.inr c_144)
                  refine lv_ldc2 hx hb hown (htb _ k_1316) dX9_foretold_222 ?_
                  refine lv_lload hx hb dX9_foretold_225 (lv_at hl 0 rfl) ?_
                  refine lv_lmul hx hb dX9_foretold_227 ?_
                  refine lv_topl (fun z_146 ez_146 => ?_)
                  refine lv_ldc2 hx hb hown (htb _ k_1316) dX9_foretold_228 ?_
                  refine lv_aload_n hx hb dX9_foretold_231 rfl (lv_at hl 1 rfl) ?_
                  refine va_get (D := D) (ci := 9) (v := .long z_135) (C := RX9) (T := TX9) (N := 68) hx hb htb iX9 hown hK.1 hP 13 rfl rfl 26 (by decide) (htb _ k_984) (fun _ h9 => h9) rfl dX9_foretold_232 ?_
                  refine lv_lload hx hb dX9_foretold_235 (lv_at hl 0 rfl) ?_
                  refine lv_aload_n hx hb dX9_foretold_237 rfl (lv_at hl 1 rfl) ?_
                  refine va_get (D := D) (ci := 9) (v := .long z_134) (C := RX9) (T := TX9) (N := 68) hx hb htb iX9 hown hK.1 hP 13 rfl rfl 27 (by decide) (htb _ k_985) (fun _ h9 => h9) rfl dX9_foretold_238 ?_
                  refine lv_lmul hx hb dX9_foretold_241 ?_
                  refine lv_topl (fun z_147 ez_147 => ?_)
                  refine lv_lsub hx hb dX9_foretold_242 ?_
                  refine lv_topl (fun z_148 ez_148 => ?_)
                  refine lv_lmul hx hb dX9_foretold_243 ?_
                  refine lv_topl (fun z_149 ez_149 => ?_)
                  refine lv_aload_n hx hb dX9_foretold_244 rfl (lv_at hl 1 rfl) ?_
                  refine va_get (D := D) (ci := 9) (v := .long z_134) (C := RX9) (T := TX9) (N := 68) hx hb htb iX9 hown hK.1 hP 13 rfl rfl 27 (by decide) (htb _ k_985) (fun _ h9 => h9) rfl dX9_foretold_245 ?_
                  refine lv_ldiv hx hb dX9_foretold_248 nz_134 ?_
                  refine lv_topl (fun z_150 ez_150 => ?_)
                  refine lv_ladd hx hb dX9_foretold_249 ?_
                  refine lv_topl (fun z_151 ez_151 => ?_)
                  refine lv_lstore (lv' := [(8, .long z_151), (6, .long r_136), (0, .ref mh), (1, .int p0), (2, .int p1), (3, .int p2), (4, .int p3), (5, .int p4)]) hx hb dX9_foretold_250 hl (by decide) rfl (fun ls hl => ?_)
                  refine lv_lload hx hb dX9_foretold_252 (lv_at hl 0 rfl) ?_
                  refine lv_ldc2 hx hb hown (htb _ k_1317) dX9_foretold_254 ?_
                  refine W.lcmp hx hb dX9_foretold_257 ?_
                  refine lv_topi (fun z_152 ez_152 => ?_)
                  refine lv_if_gt (tgt := 270) hx hb dX9_foretold_258 (by decide) (fun c_153 => ?_) (fun c_153 => ?_)
                  ·
                    have lc_154 : ((2000000000) : Int64).toInt < (z_151 : Int64).toInt := lc_gtI (by rw [← ez_152]; first | exact Or.inl c_153 | exact Or.inr c_153)
                    refine lv_ldc hx hb hown (htb _ k_1205) dX9_foretold_270 ?_
                    refine lv_goto (tgt := 278) hx hb dX9_foretold_272 (by decide) ?_
                    have hP9 := hP.sub (ws' := [(mh, .inr (9, G9 ma mcode mtoday moffs w_16 w_21 w_17 w_20 w_24 w_22 w_18 w_23 w_19 z_135 z_134 mrates mtaped mlaid mat mtk mtkAt mtkNumber mwaits mlisted mdealtMany)), ((ma 2), .inl (E 0, 400, .inl mf2)), ((ma 3), .inl (E 0, 16, .inl mf3)), ((ma 4), .inl (E 0, 16, .inl mf4)), ((ma 5), .inl (E 1, 6400, .inl mf5)), ((ma 6), .inl (E 0, 6400, .inl mf6)), ((ma 7), .inl (E 0, 6400, .inl mf7)), ((ma 8), .inl (E 1, 6400, .inl mf8)), ((ma 9), .inl (E 1, 6400, .inl mf9)), ((ma 12), .inl (E 0, 60, .inl mf12)), ((ma 13), .inl (E 0, 60, .inl mf13)), ((ma 14), .inl (E 0, 60, .inl mf14)), ((ma 15), .inl (E 0, 60, .inl mf15)), ((ma 16), .inl (E 0, 60, .inl mf16))]) [13, 0, 1, 2, 3, 4, 5, 6, 7, 8, 9, 10, 11, 12] rfl
                    have hD9 := hD.sub (ws' := [(mh, .inr (9, G9 ma mcode mtoday moffs w_16 w_21 w_17 w_20 w_24 w_22 w_18 w_23 w_19 z_135 z_134 mrates mtaped mlaid mat mtk mtkAt mtkNumber mwaits mlisted mdealtMany)), ((ma 2), .inl (E 0, 400, .inl mf2)), ((ma 3), .inl (E 0, 16, .inl mf3)), ((ma 4), .inl (E 0, 16, .inl mf4)), ((ma 5), .inl (E 1, 6400, .inl mf5)), ((ma 6), .inl (E 0, 6400, .inl mf6)), ((ma 7), .inl (E 0, 6400, .inl mf7)), ((ma 8), .inl (E 1, 6400, .inl mf8)), ((ma 9), .inl (E 1, 6400, .inl mf9)), ((ma 12), .inl (E 0, 60, .inl mf12)), ((ma 13), .inl (E 0, 60, .inl mf13)), ((ma 14), .inl (E 0, 60, .inl mf14)), ((ma 15), .inl (E 0, 60, .inl mf15)), ((ma 16), .inl (E 0, 60, .inl mf16))]) [13, 0, 1, 2, 3, 4, 5, 6, 7, 8, 9, 10, 11, 12] (by decide) rfl
                    exact W.iret (v := (-2000000000)) hx hb hr (fun t ht hW => ⟨⟨(-2000000000), (z_134, w_16, w_17, w_18, w_19, w_20, w_21, w_22, w_23, w_24, z_135), rfl, (Or.inr (Or.inr ⟨⟨by have h9 := hw_2; omega, by have h9 := hw_2; omega, by omega, by omega⟩, by rw [← hw_14]; exact lc_27, (by have hu : uplM (fold9 (fun d => wmF mf3 mf4 mf2 p0 d) (fun d => agI mf8 (400 * p0.toInt).toNat d) (-1000) (rateL (fun d => ratF mf5 mf6 mf7 mf8 mf9 mf12 mf13 mf14 mf15 mf16 moffs p0 d (-1)) p1 (p2.toInt - p1.toInt).toNat)) p3 p4 = (w_101, w_102) := (by rw [← hw_14]; unfold uplM; (try dsimp only); first | (rw [if_pos hw_29.1, if_neg hw_29.2]; rw [hw_99_0, hw_99_1]; subst_vars; rfl) | (rw [if_pos hw_29.1, if_neg hw_29.2]; rw [hw_99_0, hw_99_1]; subst_vars)); unfold FRM; rw [hu]; intro hlo; exfalso; have h0 : (0 : Int64).toInt = 0 := (by decide); have h9 := lc_133; (try dsimp only at hlo); omega)⟩)), by rw [ht]; exact hP9, hD9⟩, hS.F ht⟩) hS.2.2 dX9_foretold_278
                  ·
                    have lc_155 : (z_151 : Int64).toInt ≤ ((2000000000) : Int64).toInt := lc_leI (by rw [← ez_152]; first | exact Or.inl c_153 | exact Or.inr c_153)
                    refine lv_lload hx hb dX9_foretold_261 (lv_at hl 0 rfl) ?_
                    refine lv_ldc2 hx hb hown (htb _ k_1281) dX9_foretold_263 ?_
                    refine W.lcmp hx hb dX9_foretold_266 ?_
                    refine lv_topi (fun z_156 ez_156 => ?_)
                    refine lv_if_ge (tgt := 275) hx hb dX9_foretold_267 (by decide) (fun c_157 => ?_) (fun c_157 => ?_)
                    ·
                      have lc_158 : ((-2000000000) : Int64).toInt ≤ (z_151 : Int64).toInt := lc_geI (by rw [← ez_156]; first | exact Or.inl c_157 | exact Or.inr c_157)
                      refine lv_lload hx hb dX9_foretold_275 (lv_at hl 0 rfl) ?_
                      obtain ⟨z_159, ez_159⟩ : ∃ y : Int32, (z_151 : Int64).toInt32 = y := ⟨_, rfl⟩
                      refine lv_l2i hx hb dX9_foretold_277 ez_159 ?_
                      have hP9 := hP.sub (ws' := [(mh, .inr (9, G9 ma mcode mtoday moffs w_16 w_21 w_17 w_20 w_24 w_22 w_18 w_23 w_19 z_135 z_134 mrates mtaped mlaid mat mtk mtkAt mtkNumber mwaits mlisted mdealtMany)), ((ma 2), .inl (E 0, 400, .inl mf2)), ((ma 3), .inl (E 0, 16, .inl mf3)), ((ma 4), .inl (E 0, 16, .inl mf4)), ((ma 5), .inl (E 1, 6400, .inl mf5)), ((ma 6), .inl (E 0, 6400, .inl mf6)), ((ma 7), .inl (E 0, 6400, .inl mf7)), ((ma 8), .inl (E 1, 6400, .inl mf8)), ((ma 9), .inl (E 1, 6400, .inl mf9)), ((ma 12), .inl (E 0, 60, .inl mf12)), ((ma 13), .inl (E 0, 60, .inl mf13)), ((ma 14), .inl (E 0, 60, .inl mf14)), ((ma 15), .inl (E 0, 60, .inl mf15)), ((ma 16), .inl (E 0, 60, .inl mf16))]) [13, 0, 1, 2, 3, 4, 5, 6, 7, 8, 9, 10, 11, 12] rfl
                      have hD9 := hD.sub (ws' := [(mh, .inr (9, G9 ma mcode mtoday moffs w_16 w_21 w_17 w_20 w_24 w_22 w_18 w_23 w_19 z_135 z_134 mrates mtaped mlaid mat mtk mtkAt mtkNumber mwaits mlisted mdealtMany)), ((ma 2), .inl (E 0, 400, .inl mf2)), ((ma 3), .inl (E 0, 16, .inl mf3)), ((ma 4), .inl (E 0, 16, .inl mf4)), ((ma 5), .inl (E 1, 6400, .inl mf5)), ((ma 6), .inl (E 0, 6400, .inl mf6)), ((ma 7), .inl (E 0, 6400, .inl mf7)), ((ma 8), .inl (E 1, 6400, .inl mf8)), ((ma 9), .inl (E 1, 6400, .inl mf9)), ((ma 12), .inl (E 0, 60, .inl mf12)), ((ma 13), .inl (E 0, 60, .inl mf13)), ((ma 14), .inl (E 0, 60, .inl mf14)), ((ma 15), .inl (E 0, 60, .inl mf15)), ((ma 16), .inl (E 0, 60, .inl mf16))]) [13, 0, 1, 2, 3, 4, 5, 6, 7, 8, 9, 10, 11, 12] (by decide) rfl
                      exact W.iret (v := z_159) hx hb hr (fun t ht hW => ⟨⟨z_159, (z_134, w_16, w_17, w_18, w_19, w_20, w_21, w_22, w_23, w_24, z_135), rfl, (Or.inr (Or.inr ⟨⟨by have h9 := hw_2; omega, by have h9 := hw_2; omega, by omega, by omega⟩, by rw [← hw_14]; exact lc_27, (by have hu : uplM (fold9 (fun d => wmF mf3 mf4 mf2 p0 d) (fun d => agI mf8 (400 * p0.toInt).toNat d) (-1000) (rateL (fun d => ratF mf5 mf6 mf7 mf8 mf9 mf12 mf13 mf14 mf15 mf16 moffs p0 d (-1)) p1 (p2.toInt - p1.toInt).toNat)) p3 p4 = (w_101, w_102) := (by rw [← hw_14]; unfold uplM; (try dsimp only); first | (rw [if_pos hw_29.1, if_neg hw_29.2]; rw [hw_99_0, hw_99_1]; subst_vars; rfl) | (rw [if_pos hw_29.1, if_neg hw_29.2]; rw [hw_99_0, hw_99_1]; subst_vars)); unfold FRM; rw [hu]; intro hlo; exfalso; have h0 : (0 : Int64).toInt = 0 := (by decide); have h9 := lc_133; (try dsimp only at hlo); omega)⟩)), by rw [ht]; exact hP9, hD9⟩, hS.F ht⟩) hS.2.2 dX9_foretold_278
                    ·
                      have lc_160 : (z_151 : Int64).toInt < ((-2000000000) : Int64).toInt := lc_ltI (by rw [← ez_156]; first | exact Or.inl c_157 | exact Or.inr c_157)
                      refine lv_ldc hx hb hown (htb _ k_1205) dX9_foretold_270 ?_
                      refine lv_goto (tgt := 278) hx hb dX9_foretold_272 (by decide) ?_
                      have hP9 := hP.sub (ws' := [(mh, .inr (9, G9 ma mcode mtoday moffs w_16 w_21 w_17 w_20 w_24 w_22 w_18 w_23 w_19 z_135 z_134 mrates mtaped mlaid mat mtk mtkAt mtkNumber mwaits mlisted mdealtMany)), ((ma 2), .inl (E 0, 400, .inl mf2)), ((ma 3), .inl (E 0, 16, .inl mf3)), ((ma 4), .inl (E 0, 16, .inl mf4)), ((ma 5), .inl (E 1, 6400, .inl mf5)), ((ma 6), .inl (E 0, 6400, .inl mf6)), ((ma 7), .inl (E 0, 6400, .inl mf7)), ((ma 8), .inl (E 1, 6400, .inl mf8)), ((ma 9), .inl (E 1, 6400, .inl mf9)), ((ma 12), .inl (E 0, 60, .inl mf12)), ((ma 13), .inl (E 0, 60, .inl mf13)), ((ma 14), .inl (E 0, 60, .inl mf14)), ((ma 15), .inl (E 0, 60, .inl mf15)), ((ma 16), .inl (E 0, 60, .inl mf16))]) [13, 0, 1, 2, 3, 4, 5, 6, 7, 8, 9, 10, 11, 12] rfl
                      have hD9 := hD.sub (ws' := [(mh, .inr (9, G9 ma mcode mtoday moffs w_16 w_21 w_17 w_20 w_24 w_22 w_18 w_23 w_19 z_135 z_134 mrates mtaped mlaid mat mtk mtkAt mtkNumber mwaits mlisted mdealtMany)), ((ma 2), .inl (E 0, 400, .inl mf2)), ((ma 3), .inl (E 0, 16, .inl mf3)), ((ma 4), .inl (E 0, 16, .inl mf4)), ((ma 5), .inl (E 1, 6400, .inl mf5)), ((ma 6), .inl (E 0, 6400, .inl mf6)), ((ma 7), .inl (E 0, 6400, .inl mf7)), ((ma 8), .inl (E 1, 6400, .inl mf8)), ((ma 9), .inl (E 1, 6400, .inl mf9)), ((ma 12), .inl (E 0, 60, .inl mf12)), ((ma 13), .inl (E 0, 60, .inl mf13)), ((ma 14), .inl (E 0, 60, .inl mf14)), ((ma 15), .inl (E 0, 60, .inl mf15)), ((ma 16), .inl (E 0, 60, .inl mf16))]) [13, 0, 1, 2, 3, 4, 5, 6, 7, 8, 9, 10, 11, 12] (by decide) rfl
                      exact W.iret (v := (-2000000000)) hx hb hr (fun t ht hW => ⟨⟨(-2000000000), (z_134, w_16, w_17, w_18, w_19, w_20, w_21, w_22, w_23, w_24, z_135), rfl, (Or.inr (Or.inr ⟨⟨by have h9 := hw_2; omega, by have h9 := hw_2; omega, by omega, by omega⟩, by rw [← hw_14]; exact lc_27, (by have hu : uplM (fold9 (fun d => wmF mf3 mf4 mf2 p0 d) (fun d => agI mf8 (400 * p0.toInt).toNat d) (-1000) (rateL (fun d => ratF mf5 mf6 mf7 mf8 mf9 mf12 mf13 mf14 mf15 mf16 moffs p0 d (-1)) p1 (p2.toInt - p1.toInt).toNat)) p3 p4 = (w_101, w_102) := (by rw [← hw_14]; unfold uplM; (try dsimp only); first | (rw [if_pos hw_29.1, if_neg hw_29.2]; rw [hw_99_0, hw_99_1]; subst_vars; rfl) | (rw [if_pos hw_29.1, if_neg hw_29.2]; rw [hw_99_0, hw_99_1]; subst_vars)); unfold FRM; rw [hu]; intro hlo; exfalso; have h0 : (0 : Int64).toInt = 0 := (by decide); have h9 := lc_133; (try dsimp only at hlo); omega)⟩)), by rw [ht]; exact hP9, hD9⟩, hS.F ht⟩) hS.2.2 dX9_foretold_278
                ·
                  have lc_161 : (r_136 : Int64).toInt < ((-3000000) : Int64).toInt := lc_ltI (by rw [← ez_143]; first | exact Or.inl c_144 | exact Or.inr c_144)
                  refine lv_ldc hx hb hown (htb _ k_1205) dX9_foretold_219 ?_
                  have hP9 := hP.sub (ws' := [(mh, .inr (9, G9 ma mcode mtoday moffs w_16 w_21 w_17 w_20 w_24 w_22 w_18 w_23 w_19 z_135 z_134 mrates mtaped mlaid mat mtk mtkAt mtkNumber mwaits mlisted mdealtMany)), ((ma 2), .inl (E 0, 400, .inl mf2)), ((ma 3), .inl (E 0, 16, .inl mf3)), ((ma 4), .inl (E 0, 16, .inl mf4)), ((ma 5), .inl (E 1, 6400, .inl mf5)), ((ma 6), .inl (E 0, 6400, .inl mf6)), ((ma 7), .inl (E 0, 6400, .inl mf7)), ((ma 8), .inl (E 1, 6400, .inl mf8)), ((ma 9), .inl (E 1, 6400, .inl mf9)), ((ma 12), .inl (E 0, 60, .inl mf12)), ((ma 13), .inl (E 0, 60, .inl mf13)), ((ma 14), .inl (E 0, 60, .inl mf14)), ((ma 15), .inl (E 0, 60, .inl mf15)), ((ma 16), .inl (E 0, 60, .inl mf16))]) [13, 0, 1, 2, 3, 4, 5, 6, 7, 8, 9, 10, 11, 12] rfl
                  have hD9 := hD.sub (ws' := [(mh, .inr (9, G9 ma mcode mtoday moffs w_16 w_21 w_17 w_20 w_24 w_22 w_18 w_23 w_19 z_135 z_134 mrates mtaped mlaid mat mtk mtkAt mtkNumber mwaits mlisted mdealtMany)), ((ma 2), .inl (E 0, 400, .inl mf2)), ((ma 3), .inl (E 0, 16, .inl mf3)), ((ma 4), .inl (E 0, 16, .inl mf4)), ((ma 5), .inl (E 1, 6400, .inl mf5)), ((ma 6), .inl (E 0, 6400, .inl mf6)), ((ma 7), .inl (E 0, 6400, .inl mf7)), ((ma 8), .inl (E 1, 6400, .inl mf8)), ((ma 9), .inl (E 1, 6400, .inl mf9)), ((ma 12), .inl (E 0, 60, .inl mf12)), ((ma 13), .inl (E 0, 60, .inl mf13)), ((ma 14), .inl (E 0, 60, .inl mf14)), ((ma 15), .inl (E 0, 60, .inl mf15)), ((ma 16), .inl (E 0, 60, .inl mf16))]) [13, 0, 1, 2, 3, 4, 5, 6, 7, 8, 9, 10, 11, 12] (by decide) rfl
                  exact W.iret (v := (-2000000000)) hx hb hr (fun t ht hW => ⟨⟨(-2000000000), (z_134, w_16, w_17, w_18, w_19, w_20, w_21, w_22, w_23, w_24, z_135), rfl, (Or.inr (Or.inr ⟨⟨by have h9 := hw_2; omega, by have h9 := hw_2; omega, by omega, by omega⟩, by rw [← hw_14]; exact lc_27, (by have hu : uplM (fold9 (fun d => wmF mf3 mf4 mf2 p0 d) (fun d => agI mf8 (400 * p0.toInt).toNat d) (-1000) (rateL (fun d => ratF mf5 mf6 mf7 mf8 mf9 mf12 mf13 mf14 mf15 mf16 moffs p0 d (-1)) p1 (p2.toInt - p1.toInt).toNat)) p3 p4 = (w_101, w_102) := (by rw [← hw_14]; unfold uplM; (try dsimp only); first | (rw [if_pos hw_29.1, if_neg hw_29.2]; rw [hw_99_0, hw_99_1]; subst_vars; rfl) | (rw [if_pos hw_29.1, if_neg hw_29.2]; rw [hw_99_0, hw_99_1]; subst_vars)); unfold FRM; rw [hu]; intro hlo; exfalso; have h0 : (0 : Int64).toInt = 0 := (by decide); have h9 := lc_133; (try dsimp only at hlo); omega)⟩)), by rw [ht]; exact hP9, hD9⟩, hS.F ht⟩) hS.2.2 dX9_foretold_221
          ·
            refine W_top (y := .int 4) (by rw [hr_28]) ?_
            refine lv_tableIn (x := 4) (off := 63) (tgt := 123) hx hb dX9_foretold_60 (by decide) (by decide) (by decide) (by decide) ?_
            refine lv_aload_n hx hb dX9_foretold_123 rfl (lv_at hl 0 rfl) ?_
            refine lv_aload_n hx hb dX9_foretold_124 rfl (lv_at hl 0 rfl) ?_
            refine va_get (D := D) (ci := 9) (v := .long w_17) (C := RX9) (T := TX9) (N := 68) hx hb htb iX9 hown hK.1 hP 0 rfl rfl 19 (by decide) (htb _ k_977) (fun _ h9 => h9) rfl dX9_foretold_125 ?_
            refine lv_aload_n hx hb dX9_foretold_128 rfl (lv_at hl 0 rfl) ?_
            refine va_get (D := D) (ci := 9) (v := .long w_18) (C := RX9) (T := TX9) (N := 68) hx hb htb iX9 hown hK.1 hP 0 rfl rfl 23 (by decide) (htb _ k_981) (fun _ h9 => h9) rfl dX9_foretold_129 ?_
            refine lv_aload_n hx hb dX9_foretold_132 rfl (lv_at hl 0 rfl) ?_
            refine va_get (D := D) (ci := 9) (v := .long w_19) (C := RX9) (T := TX9) (N := 68) hx hb htb iX9 hown hK.1 hP 0 rfl rfl 25 (by decide) (htb _ k_983) (fun _ h9 => h9) rfl dX9_foretold_133 ?_
            refine lv_iload hx hb dX9_foretold_136 (lv_at hl 5 rfl) ?_
            obtain ⟨z_162, ez_162⟩ : ∃ y : Int64, (p4 : Int32).toInt64 = y := ⟨_, rfl⟩
            refine lv_i2l hx hb dX9_foretold_138 ez_162 ?_
            have hPc := hP.sub (ws' := [(mh, .inr (9, G9 ma mcode mtoday moffs w_16 w_21 w_17 w_20 w_24 w_22 w_18 w_23 w_19 mupper mlower mrates mtaped mlaid mat mtk mtkAt mtkNumber mwaits mlisted mdealtMany))]) [0] rfl
            have hDc := hD.sub (ws' := [(mh, .inr (9, G9 ma mcode mtoday moffs w_16 w_21 w_17 w_20 w_24 w_22 w_18 w_23 w_19 mupper mlower mrates mtaped mlaid mat mtk mtkAt mtkNumber mwaits mlisted mdealtMany))]) [0] (by decide) rfl
            refine aft_v (runMV (rest := []) (As := [.long w_17, .long w_18, .long w_19, .long z_162]) hx hb hml hown htb hK (g_X9_byTwo l D E mh ma mcode mtoday moffs w_16 w_21 w_17 w_20 w_24 w_22 w_18 w_23 w_19 mupper mlower mrates mtaped mlaid mat mtk mtkAt mtkNumber mwaits mlisted mdealtMany w_17 w_18 w_19 z_162 _ (by (try dsimp only); omega)) ok_X9_byTwo k_1307 k_1309 ks_52 k_9 k_1310 ⟨(Nat.le_of_ble_eq_true rfl), (Nat.le_of_ble_eq_true rfl)⟩ ⟨(Nat.le_of_ble_eq_true rfl), (Nat.le_of_ble_eq_true rfl)⟩ hl.1 (Nat.le_of_ble_eq_true rfl) rfl rfl dX9_foretold_139 hPc hDc rfl rfl 0 rfl) hP hD hS hA [0] [1, 2, 3, 4, 5, 6, 7, 8, 9, 10, 11, 12, 13] (wr := [((ma 2), .inl (E 0, 400, .inl mf2)), ((ma 3), .inl (E 0, 16, .inl mf3)), ((ma 4), .inl (E 0, 16, .inl mf4)), ((ma 5), .inl (E 1, 6400, .inl mf5)), ((ma 6), .inl (E 0, 6400, .inl mf6)), ((ma 7), .inl (E 0, 6400, .inl mf7)), ((ma 8), .inl (E 1, 6400, .inl mf8)), ((ma 9), .inl (E 1, 6400, .inl mf9)), ((ma 12), .inl (E 0, 60, .inl mf12)), ((ma 13), .inl (E 0, 60, .inl mf13)), ((ma 14), .inl (E 0, 60, .inl mf14)), ((ma 15), .inl (E 0, 60, .inl mf15)), ((ma 16), .inl (E 0, 60, .inl mf16))]) rfl rfl (by decide) (by decide) (fun u_165 H locs hw_164 hP hD hS => ?_)
            clear hPc hDc
            obtain ⟨w_166, w_167⟩ := u_165
            try dsimp only at hw_164
            have hP : va_P D vwCl [((ma 2), .inl (E 0, 400, .inl mf2)), ((ma 3), .inl (E 0, 16, .inl mf3)), ((ma 4), .inl (E 0, 16, .inl mf4)), ((ma 5), .inl (E 1, 6400, .inl mf5)), ((ma 6), .inl (E 0, 6400, .inl mf6)), ((ma 7), .inl (E 0, 6400, .inl mf7)), ((ma 8), .inl (E 1, 6400, .inl mf8)), ((ma 9), .inl (E 1, 6400, .inl mf9)), ((ma 12), .inl (E 0, 60, .inl mf12)), ((ma 13), .inl (E 0, 60, .inl mf13)), ((ma 14), .inl (E 0, 60, .inl mf14)), ((ma 15), .inl (E 0, 60, .inl mf15)), ((ma 16), .inl (E 0, 60, .inl mf16)), (mh, .inr (9, G9 ma mcode mtoday moffs w_16 w_21 w_17 w_20 w_24 w_22 w_18 w_23 w_19 w_167 w_166 mrates mtaped mlaid mat mtk mtkAt mtkNumber mwaits mlisted mdealtMany))] H := hP
            have hD := toW hP hD rfl
            obtain ⟨hw_164_0, hw_164_1⟩ := hw_164
            have nz_168 : ¬ w_166 = 0 := by rw [hw_164_0]; first | assumption | exact hw_29.2 | exact hw_29.2.2
            refine lv_goto (tgt := 161) hx hb dX9_foretold_142 (by decide) ?_
            refine lv_aload_n hx hb dX9_foretold_161 rfl (lv_at hl 0 rfl) ?_
            refine va_get (D := D) (ci := 9) (v := .long w_166) (C := RX9) (T := TX9) (N := 68) hx hb htb iX9 hown hK.1 hP 13 rfl rfl 27 (by decide) (htb _ k_985) (fun _ h9 => h9) rfl dX9_foretold_162 ?_
            refine lv_lconst (v := 0) hx hb dX9_foretold_165 (by decide) ?_
            refine W.lcmp hx hb dX9_foretold_166 ?_
            refine lv_topi (fun z_169 ez_169 => ?_)
            refine lv_if_ge (tgt := 188) hx hb dX9_foretold_167 (by decide) (fun c_170 => ?_) (fun c_170 => ?_)
            ·
              have lc_171 : (0 : Int64).toInt ≤ (w_166 : Int64).toInt := lc_geI (by rw [← ez_169]; first | exact Or.inl c_170 | exact Or.inr c_170)
              refine lv_aload_n hx hb dX9_foretold_188 rfl (lv_at hl 0 rfl) ?_
              refine va_get (D := D) (ci := 9) (v := .long w_167) (C := RX9) (T := TX9) (N := 68) hx hb htb iX9 hown hK.1 hP 13 rfl rfl 26 (by decide) (htb _ k_984) (fun _ h9 => h9) rfl dX9_foretold_189 ?_
              refine lv_aload_n hx hb dX9_foretold_192 rfl (lv_at hl 0 rfl) ?_
              refine va_get (D := D) (ci := 9) (v := .long w_166) (C := RX9) (T := TX9) (N := 68) hx hb htb iX9 hown hK.1 hP 13 rfl rfl 27 (by decide) (htb _ k_985) (fun _ h9 => h9) rfl dX9_foretold_193 ?_
              refine callLS (rest := []) (As := [.long w_167, .long w_166]) hx hb hml hown htb hK (g_X9_floor l D E w_167 w_166 nz_168) ok_X9_floor k_1311 k_1312 k_9 k_1313 ⟨(Nat.le_of_ble_eq_true rfl), (Nat.le_of_ble_eq_true rfl)⟩ ⟨(Nat.le_of_ble_eq_true rfl), (Nat.le_of_ble_eq_true rfl)⟩ hl.1 (Nat.le_of_ble_eq_true rfl) rfl rfl dX9_foretold_196 (hP.sub (ws' := ([] : va_W)) [] rfl) (fun r_172 hw_173 => ?_)
              refine lv_lstore (lv' := [(6, .long r_172), (0, .ref mh), (1, .int p0), (2, .int p1), (3, .int p2), (4, .int p3), (5, .int p4)]) hx hb dX9_foretold_199 hl (by decide) rfl (fun ls hl => ?_)
              refine lv_lload hx hb dX9_foretold_201 (lv_at hl 0 rfl) ?_
              refine lv_ldc2 hx hb hown (htb _ k_1314) dX9_foretold_203 ?_
              refine W.lcmp hx hb dX9_foretold_206 ?_
              refine lv_topi (fun z_175 ez_175 => ?_)
              refine lv_if_gt (tgt := 219) hx hb dX9_foretold_207 (by decide) (fun c_176 => ?_) (fun c_176 => ?_)
              ·
                have lc_177 : ((3000000) : Int64).toInt < (r_172 : Int64).toInt := lc_gtI (by rw [← ez_175]; first | exact Or.inl c_176 | exact Or.inr c_176)
                refine lv_ldc hx hb hown (htb _ k_1205) dX9_foretold_219 ?_
                have hP9 := hP.sub (ws' := [(mh, .inr (9, G9 ma mcode mtoday moffs w_16 w_21 w_17 w_20 w_24 w_22 w_18 w_23 w_19 w_167 w_166 mrates mtaped mlaid mat mtk mtkAt mtkNumber mwaits mlisted mdealtMany)), ((ma 2), .inl (E 0, 400, .inl mf2)), ((ma 3), .inl (E 0, 16, .inl mf3)), ((ma 4), .inl (E 0, 16, .inl mf4)), ((ma 5), .inl (E 1, 6400, .inl mf5)), ((ma 6), .inl (E 0, 6400, .inl mf6)), ((ma 7), .inl (E 0, 6400, .inl mf7)), ((ma 8), .inl (E 1, 6400, .inl mf8)), ((ma 9), .inl (E 1, 6400, .inl mf9)), ((ma 12), .inl (E 0, 60, .inl mf12)), ((ma 13), .inl (E 0, 60, .inl mf13)), ((ma 14), .inl (E 0, 60, .inl mf14)), ((ma 15), .inl (E 0, 60, .inl mf15)), ((ma 16), .inl (E 0, 60, .inl mf16))]) [13, 0, 1, 2, 3, 4, 5, 6, 7, 8, 9, 10, 11, 12] rfl
                have hD9 := hD.sub (ws' := [(mh, .inr (9, G9 ma mcode mtoday moffs w_16 w_21 w_17 w_20 w_24 w_22 w_18 w_23 w_19 w_167 w_166 mrates mtaped mlaid mat mtk mtkAt mtkNumber mwaits mlisted mdealtMany)), ((ma 2), .inl (E 0, 400, .inl mf2)), ((ma 3), .inl (E 0, 16, .inl mf3)), ((ma 4), .inl (E 0, 16, .inl mf4)), ((ma 5), .inl (E 1, 6400, .inl mf5)), ((ma 6), .inl (E 0, 6400, .inl mf6)), ((ma 7), .inl (E 0, 6400, .inl mf7)), ((ma 8), .inl (E 1, 6400, .inl mf8)), ((ma 9), .inl (E 1, 6400, .inl mf9)), ((ma 12), .inl (E 0, 60, .inl mf12)), ((ma 13), .inl (E 0, 60, .inl mf13)), ((ma 14), .inl (E 0, 60, .inl mf14)), ((ma 15), .inl (E 0, 60, .inl mf15)), ((ma 16), .inl (E 0, 60, .inl mf16))]) [13, 0, 1, 2, 3, 4, 5, 6, 7, 8, 9, 10, 11, 12] (by decide) rfl
                exact W.iret (v := (-2000000000)) hx hb hr (fun t ht hW => ⟨⟨(-2000000000), (w_166, w_16, w_17, w_18, w_19, w_20, w_21, w_22, w_23, w_24, w_167), rfl, (Or.inr (Or.inr ⟨⟨by have h9 := hw_2; omega, by have h9 := hw_2; omega, by omega, by omega⟩, by rw [← hw_14]; exact lc_27, (by have hu : uplM (fold9 (fun d => wmF mf3 mf4 mf2 p0 d) (fun d => agI mf8 (400 * p0.toInt).toNat d) (-1000) (rateL (fun d => ratF mf5 mf6 mf7 mf8 mf9 mf12 mf13 mf14 mf15 mf16 moffs p0 d (-1)) p1 (p2.toInt - p1.toInt).toNat)) p3 p4 = (w_166, w_167) := (by rw [← hw_14]; unfold uplM; (try dsimp only); first | (rw [if_pos hw_29.1, if_pos hw_29.2.1, if_neg hw_29.2.2]; rw [hw_164_0, hw_164_1]; subst_vars; rfl) | (rw [if_pos hw_29.1, if_pos hw_29.2.1, if_neg hw_29.2.2]; rw [hw_164_0, hw_164_1]; subst_vars)); unfold FRM; rw [hu]; intro hlo; (try dsimp only at hlo ⊢); have h3 : (3000000 : Int64).toInt = 3000000 := (by decide); have h4 : (-3000000 : Int64).toInt = -3000000 := (by decide); have h5 : (2000000000 : Int64).toInt = 2000000000 := (by decide); have h6 : (-2000000000 : Int64).toInt = -2000000000 := (by decide); have q0 := lc_177; exact ⟨r_172, hw_173 hlo, Or.inl ⟨by omega, by have hv := t_m2000000000; omega⟩⟩)⟩)), by rw [ht]; exact hP9, hD9⟩, hS.F ht⟩) hS.2.2 dX9_foretold_221
              ·
                have lc_178 : (r_172 : Int64).toInt ≤ ((3000000) : Int64).toInt := lc_leI (by rw [← ez_175]; first | exact Or.inl c_176 | exact Or.inr c_176)
                refine lv_lload hx hb dX9_foretold_210 (lv_at hl 0 rfl) ?_
                refine lv_ldc2 hx hb hown (htb _ k_1315) dX9_foretold_212 ?_
                refine W.lcmp hx hb dX9_foretold_215 ?_
                refine lv_topi (fun z_179 ez_179 => ?_)
                refine lv_if_ge (tgt := 222) hx hb dX9_foretold_216 (by decide) (fun c_180 => ?_) (fun c_180 => ?_)
                ·
                  have lc_181 : ((-3000000) : Int64).toInt ≤ (r_172 : Int64).toInt := lc_geI (by rw [← ez_179]; first | exact Or.inl c_180 | exact Or.inr c_180)
                  refine lv_ldc2 hx hb hown (htb _ k_1316) dX9_foretold_222 ?_
                  refine lv_lload hx hb dX9_foretold_225 (lv_at hl 0 rfl) ?_
                  refine lv_lmul hx hb dX9_foretold_227 ?_
                  refine lv_topl (fun z_182 ez_182 => ?_)
                  refine lv_ldc2 hx hb hown (htb _ k_1316) dX9_foretold_228 ?_
                  refine lv_aload_n hx hb dX9_foretold_231 rfl (lv_at hl 1 rfl) ?_
                  refine va_get (D := D) (ci := 9) (v := .long w_167) (C := RX9) (T := TX9) (N := 68) hx hb htb iX9 hown hK.1 hP 13 rfl rfl 26 (by decide) (htb _ k_984) (fun _ h9 => h9) rfl dX9_foretold_232 ?_
                  refine lv_lload hx hb dX9_foretold_235 (lv_at hl 0 rfl) ?_
                  refine lv_aload_n hx hb dX9_foretold_237 rfl (lv_at hl 1 rfl) ?_
                  refine va_get (D := D) (ci := 9) (v := .long w_166) (C := RX9) (T := TX9) (N := 68) hx hb htb iX9 hown hK.1 hP 13 rfl rfl 27 (by decide) (htb _ k_985) (fun _ h9 => h9) rfl dX9_foretold_238 ?_
                  refine lv_lmul hx hb dX9_foretold_241 ?_
                  refine lv_topl (fun z_183 ez_183 => ?_)
                  refine lv_lsub hx hb dX9_foretold_242 ?_
                  refine lv_topl (fun z_184 ez_184 => ?_)
                  refine lv_lmul hx hb dX9_foretold_243 ?_
                  refine lv_topl (fun z_185 ez_185 => ?_)
                  refine lv_aload_n hx hb dX9_foretold_244 rfl (lv_at hl 1 rfl) ?_
                  refine va_get (D := D) (ci := 9) (v := .long w_166) (C := RX9) (T := TX9) (N := 68) hx hb htb iX9 hown hK.1 hP 13 rfl rfl 27 (by decide) (htb _ k_985) (fun _ h9 => h9) rfl dX9_foretold_245 ?_
                  refine lv_ldiv hx hb dX9_foretold_248 nz_168 ?_
                  refine lv_topl (fun z_186 ez_186 => ?_)
                  refine lv_ladd hx hb dX9_foretold_249 ?_
                  refine lv_topl (fun z_187 ez_187 => ?_)
                  refine lv_lstore (lv' := [(8, .long z_187), (6, .long r_172), (0, .ref mh), (1, .int p0), (2, .int p1), (3, .int p2), (4, .int p3), (5, .int p4)]) hx hb dX9_foretold_250 hl (by decide) rfl (fun ls hl => ?_)
                  refine lv_lload hx hb dX9_foretold_252 (lv_at hl 0 rfl) ?_
                  refine lv_ldc2 hx hb hown (htb _ k_1317) dX9_foretold_254 ?_
                  refine W.lcmp hx hb dX9_foretold_257 ?_
                  refine lv_topi (fun z_188 ez_188 => ?_)
                  refine lv_if_gt (tgt := 270) hx hb dX9_foretold_258 (by decide) (fun c_189 => ?_) (fun c_189 => ?_)
                  ·
                    have lc_190 : ((2000000000) : Int64).toInt < (z_187 : Int64).toInt := lc_gtI (by rw [← ez_188]; first | exact Or.inl c_189 | exact Or.inr c_189)
                    refine lv_ldc hx hb hown (htb _ k_1205) dX9_foretold_270 ?_
                    refine lv_goto (tgt := 278) hx hb dX9_foretold_272 (by decide) ?_
                    have hP9 := hP.sub (ws' := [(mh, .inr (9, G9 ma mcode mtoday moffs w_16 w_21 w_17 w_20 w_24 w_22 w_18 w_23 w_19 w_167 w_166 mrates mtaped mlaid mat mtk mtkAt mtkNumber mwaits mlisted mdealtMany)), ((ma 2), .inl (E 0, 400, .inl mf2)), ((ma 3), .inl (E 0, 16, .inl mf3)), ((ma 4), .inl (E 0, 16, .inl mf4)), ((ma 5), .inl (E 1, 6400, .inl mf5)), ((ma 6), .inl (E 0, 6400, .inl mf6)), ((ma 7), .inl (E 0, 6400, .inl mf7)), ((ma 8), .inl (E 1, 6400, .inl mf8)), ((ma 9), .inl (E 1, 6400, .inl mf9)), ((ma 12), .inl (E 0, 60, .inl mf12)), ((ma 13), .inl (E 0, 60, .inl mf13)), ((ma 14), .inl (E 0, 60, .inl mf14)), ((ma 15), .inl (E 0, 60, .inl mf15)), ((ma 16), .inl (E 0, 60, .inl mf16))]) [13, 0, 1, 2, 3, 4, 5, 6, 7, 8, 9, 10, 11, 12] rfl
                    have hD9 := hD.sub (ws' := [(mh, .inr (9, G9 ma mcode mtoday moffs w_16 w_21 w_17 w_20 w_24 w_22 w_18 w_23 w_19 w_167 w_166 mrates mtaped mlaid mat mtk mtkAt mtkNumber mwaits mlisted mdealtMany)), ((ma 2), .inl (E 0, 400, .inl mf2)), ((ma 3), .inl (E 0, 16, .inl mf3)), ((ma 4), .inl (E 0, 16, .inl mf4)), ((ma 5), .inl (E 1, 6400, .inl mf5)), ((ma 6), .inl (E 0, 6400, .inl mf6)), ((ma 7), .inl (E 0, 6400, .inl mf7)), ((ma 8), .inl (E 1, 6400, .inl mf8)), ((ma 9), .inl (E 1, 6400, .inl mf9)), ((ma 12), .inl (E 0, 60, .inl mf12)), ((ma 13), .inl (E 0, 60, .inl mf13)), ((ma 14), .inl (E 0, 60, .inl mf14)), ((ma 15), .inl (E 0, 60, .inl mf15)), ((ma 16), .inl (E 0, 60, .inl mf16))]) [13, 0, 1, 2, 3, 4, 5, 6, 7, 8, 9, 10, 11, 12] (by decide) rfl
                    exact W.iret (v := (-2000000000)) hx hb hr (fun t ht hW => ⟨⟨(-2000000000), (w_166, w_16, w_17, w_18, w_19, w_20, w_21, w_22, w_23, w_24, w_167), rfl, (Or.inr (Or.inr ⟨⟨by have h9 := hw_2; omega, by have h9 := hw_2; omega, by omega, by omega⟩, by rw [← hw_14]; exact lc_27, (by have hu : uplM (fold9 (fun d => wmF mf3 mf4 mf2 p0 d) (fun d => agI mf8 (400 * p0.toInt).toNat d) (-1000) (rateL (fun d => ratF mf5 mf6 mf7 mf8 mf9 mf12 mf13 mf14 mf15 mf16 moffs p0 d (-1)) p1 (p2.toInt - p1.toInt).toNat)) p3 p4 = (w_166, w_167) := (by rw [← hw_14]; unfold uplM; (try dsimp only); first | (rw [if_pos hw_29.1, if_pos hw_29.2.1, if_neg hw_29.2.2]; rw [hw_164_0, hw_164_1]; subst_vars; rfl) | (rw [if_pos hw_29.1, if_pos hw_29.2.1, if_neg hw_29.2.2]; rw [hw_164_0, hw_164_1]; subst_vars)); unfold FRM; rw [hu]; intro hlo; (try dsimp only at hlo ⊢); have h3 : (3000000 : Int64).toInt = 3000000 := (by decide); have h4 : (-3000000 : Int64).toInt = -3000000 := (by decide); have h5 : (2000000000 : Int64).toInt = 2000000000 := (by decide); have h6 : (-2000000000 : Int64).toInt = -2000000000 := (by decide); have q0 := lc_178; have q1 := lc_181; have q2 := lc_190; exact ⟨r_172, hw_173 hlo, Or.inr ⟨by omega, z_187, by subst_vars; rfl, Or.inl ⟨by omega, by have hv := t_m2000000000; omega⟩⟩⟩)⟩)), by rw [ht]; exact hP9, hD9⟩, hS.F ht⟩) hS.2.2 dX9_foretold_278
                  ·
                    have lc_191 : (z_187 : Int64).toInt ≤ ((2000000000) : Int64).toInt := lc_leI (by rw [← ez_188]; first | exact Or.inl c_189 | exact Or.inr c_189)
                    refine lv_lload hx hb dX9_foretold_261 (lv_at hl 0 rfl) ?_
                    refine lv_ldc2 hx hb hown (htb _ k_1281) dX9_foretold_263 ?_
                    refine W.lcmp hx hb dX9_foretold_266 ?_
                    refine lv_topi (fun z_192 ez_192 => ?_)
                    refine lv_if_ge (tgt := 275) hx hb dX9_foretold_267 (by decide) (fun c_193 => ?_) (fun c_193 => ?_)
                    ·
                      have lc_194 : ((-2000000000) : Int64).toInt ≤ (z_187 : Int64).toInt := lc_geI (by rw [← ez_192]; first | exact Or.inl c_193 | exact Or.inr c_193)
                      refine lv_lload hx hb dX9_foretold_275 (lv_at hl 0 rfl) ?_
                      obtain ⟨z_195, ez_195⟩ : ∃ y : Int32, (z_187 : Int64).toInt32 = y := ⟨_, rfl⟩
                      refine lv_l2i hx hb dX9_foretold_277 ez_195 ?_
                      have hP9 := hP.sub (ws' := [(mh, .inr (9, G9 ma mcode mtoday moffs w_16 w_21 w_17 w_20 w_24 w_22 w_18 w_23 w_19 w_167 w_166 mrates mtaped mlaid mat mtk mtkAt mtkNumber mwaits mlisted mdealtMany)), ((ma 2), .inl (E 0, 400, .inl mf2)), ((ma 3), .inl (E 0, 16, .inl mf3)), ((ma 4), .inl (E 0, 16, .inl mf4)), ((ma 5), .inl (E 1, 6400, .inl mf5)), ((ma 6), .inl (E 0, 6400, .inl mf6)), ((ma 7), .inl (E 0, 6400, .inl mf7)), ((ma 8), .inl (E 1, 6400, .inl mf8)), ((ma 9), .inl (E 1, 6400, .inl mf9)), ((ma 12), .inl (E 0, 60, .inl mf12)), ((ma 13), .inl (E 0, 60, .inl mf13)), ((ma 14), .inl (E 0, 60, .inl mf14)), ((ma 15), .inl (E 0, 60, .inl mf15)), ((ma 16), .inl (E 0, 60, .inl mf16))]) [13, 0, 1, 2, 3, 4, 5, 6, 7, 8, 9, 10, 11, 12] rfl
                      have hD9 := hD.sub (ws' := [(mh, .inr (9, G9 ma mcode mtoday moffs w_16 w_21 w_17 w_20 w_24 w_22 w_18 w_23 w_19 w_167 w_166 mrates mtaped mlaid mat mtk mtkAt mtkNumber mwaits mlisted mdealtMany)), ((ma 2), .inl (E 0, 400, .inl mf2)), ((ma 3), .inl (E 0, 16, .inl mf3)), ((ma 4), .inl (E 0, 16, .inl mf4)), ((ma 5), .inl (E 1, 6400, .inl mf5)), ((ma 6), .inl (E 0, 6400, .inl mf6)), ((ma 7), .inl (E 0, 6400, .inl mf7)), ((ma 8), .inl (E 1, 6400, .inl mf8)), ((ma 9), .inl (E 1, 6400, .inl mf9)), ((ma 12), .inl (E 0, 60, .inl mf12)), ((ma 13), .inl (E 0, 60, .inl mf13)), ((ma 14), .inl (E 0, 60, .inl mf14)), ((ma 15), .inl (E 0, 60, .inl mf15)), ((ma 16), .inl (E 0, 60, .inl mf16))]) [13, 0, 1, 2, 3, 4, 5, 6, 7, 8, 9, 10, 11, 12] (by decide) rfl
                      exact W.iret (v := z_195) hx hb hr (fun t ht hW => ⟨⟨z_195, (w_166, w_16, w_17, w_18, w_19, w_20, w_21, w_22, w_23, w_24, w_167), rfl, (Or.inr (Or.inr ⟨⟨by have h9 := hw_2; omega, by have h9 := hw_2; omega, by omega, by omega⟩, by rw [← hw_14]; exact lc_27, (by have hu : uplM (fold9 (fun d => wmF mf3 mf4 mf2 p0 d) (fun d => agI mf8 (400 * p0.toInt).toNat d) (-1000) (rateL (fun d => ratF mf5 mf6 mf7 mf8 mf9 mf12 mf13 mf14 mf15 mf16 moffs p0 d (-1)) p1 (p2.toInt - p1.toInt).toNat)) p3 p4 = (w_166, w_167) := (by rw [← hw_14]; unfold uplM; (try dsimp only); first | (rw [if_pos hw_29.1, if_pos hw_29.2.1, if_neg hw_29.2.2]; rw [hw_164_0, hw_164_1]; subst_vars; rfl) | (rw [if_pos hw_29.1, if_pos hw_29.2.1, if_neg hw_29.2.2]; rw [hw_164_0, hw_164_1]; subst_vars)); unfold FRM; rw [hu]; intro hlo; (try dsimp only at hlo ⊢); have h3 : (3000000 : Int64).toInt = 3000000 := (by decide); have h4 : (-3000000 : Int64).toInt = -3000000 := (by decide); have h5 : (2000000000 : Int64).toInt = 2000000000 := (by decide); have h6 : (-2000000000 : Int64).toInt = -2000000000 := (by decide); have q0 := lc_178; have q1 := lc_181; have q2 := lc_191; have q3 := lc_194; exact ⟨r_172, hw_173 hlo, Or.inr ⟨by omega, z_187, by subst_vars; rfl, Or.inr ⟨by omega, ez_195.symm⟩⟩⟩)⟩)), by rw [ht]; exact hP9, hD9⟩, hS.F ht⟩) hS.2.2 dX9_foretold_278
                    ·
                      have lc_196 : (z_187 : Int64).toInt < ((-2000000000) : Int64).toInt := lc_ltI (by rw [← ez_192]; first | exact Or.inl c_193 | exact Or.inr c_193)
                      refine lv_ldc hx hb hown (htb _ k_1205) dX9_foretold_270 ?_
                      refine lv_goto (tgt := 278) hx hb dX9_foretold_272 (by decide) ?_
                      have hP9 := hP.sub (ws' := [(mh, .inr (9, G9 ma mcode mtoday moffs w_16 w_21 w_17 w_20 w_24 w_22 w_18 w_23 w_19 w_167 w_166 mrates mtaped mlaid mat mtk mtkAt mtkNumber mwaits mlisted mdealtMany)), ((ma 2), .inl (E 0, 400, .inl mf2)), ((ma 3), .inl (E 0, 16, .inl mf3)), ((ma 4), .inl (E 0, 16, .inl mf4)), ((ma 5), .inl (E 1, 6400, .inl mf5)), ((ma 6), .inl (E 0, 6400, .inl mf6)), ((ma 7), .inl (E 0, 6400, .inl mf7)), ((ma 8), .inl (E 1, 6400, .inl mf8)), ((ma 9), .inl (E 1, 6400, .inl mf9)), ((ma 12), .inl (E 0, 60, .inl mf12)), ((ma 13), .inl (E 0, 60, .inl mf13)), ((ma 14), .inl (E 0, 60, .inl mf14)), ((ma 15), .inl (E 0, 60, .inl mf15)), ((ma 16), .inl (E 0, 60, .inl mf16))]) [13, 0, 1, 2, 3, 4, 5, 6, 7, 8, 9, 10, 11, 12] rfl
                      have hD9 := hD.sub (ws' := [(mh, .inr (9, G9 ma mcode mtoday moffs w_16 w_21 w_17 w_20 w_24 w_22 w_18 w_23 w_19 w_167 w_166 mrates mtaped mlaid mat mtk mtkAt mtkNumber mwaits mlisted mdealtMany)), ((ma 2), .inl (E 0, 400, .inl mf2)), ((ma 3), .inl (E 0, 16, .inl mf3)), ((ma 4), .inl (E 0, 16, .inl mf4)), ((ma 5), .inl (E 1, 6400, .inl mf5)), ((ma 6), .inl (E 0, 6400, .inl mf6)), ((ma 7), .inl (E 0, 6400, .inl mf7)), ((ma 8), .inl (E 1, 6400, .inl mf8)), ((ma 9), .inl (E 1, 6400, .inl mf9)), ((ma 12), .inl (E 0, 60, .inl mf12)), ((ma 13), .inl (E 0, 60, .inl mf13)), ((ma 14), .inl (E 0, 60, .inl mf14)), ((ma 15), .inl (E 0, 60, .inl mf15)), ((ma 16), .inl (E 0, 60, .inl mf16))]) [13, 0, 1, 2, 3, 4, 5, 6, 7, 8, 9, 10, 11, 12] (by decide) rfl
                      exact W.iret (v := (-2000000000)) hx hb hr (fun t ht hW => ⟨⟨(-2000000000), (w_166, w_16, w_17, w_18, w_19, w_20, w_21, w_22, w_23, w_24, w_167), rfl, (Or.inr (Or.inr ⟨⟨by have h9 := hw_2; omega, by have h9 := hw_2; omega, by omega, by omega⟩, by rw [← hw_14]; exact lc_27, (by have hu : uplM (fold9 (fun d => wmF mf3 mf4 mf2 p0 d) (fun d => agI mf8 (400 * p0.toInt).toNat d) (-1000) (rateL (fun d => ratF mf5 mf6 mf7 mf8 mf9 mf12 mf13 mf14 mf15 mf16 moffs p0 d (-1)) p1 (p2.toInt - p1.toInt).toNat)) p3 p4 = (w_166, w_167) := (by rw [← hw_14]; unfold uplM; (try dsimp only); first | (rw [if_pos hw_29.1, if_pos hw_29.2.1, if_neg hw_29.2.2]; rw [hw_164_0, hw_164_1]; subst_vars; rfl) | (rw [if_pos hw_29.1, if_pos hw_29.2.1, if_neg hw_29.2.2]; rw [hw_164_0, hw_164_1]; subst_vars)); unfold FRM; rw [hu]; intro hlo; (try dsimp only at hlo ⊢); have h3 : (3000000 : Int64).toInt = 3000000 := (by decide); have h4 : (-3000000 : Int64).toInt = -3000000 := (by decide); have h5 : (2000000000 : Int64).toInt = 2000000000 := (by decide); have h6 : (-2000000000 : Int64).toInt = -2000000000 := (by decide); have q0 := lc_178; have q1 := lc_181; have q2 := lc_191; have q3 := lc_196; exact ⟨r_172, hw_173 hlo, Or.inr ⟨by omega, z_187, by subst_vars; rfl, Or.inl ⟨by omega, by have hv := t_m2000000000; omega⟩⟩⟩)⟩)), by rw [ht]; exact hP9, hD9⟩, hS.F ht⟩) hS.2.2 dX9_foretold_278
                ·
                  have lc_197 : (r_172 : Int64).toInt < ((-3000000) : Int64).toInt := lc_ltI (by rw [← ez_179]; first | exact Or.inl c_180 | exact Or.inr c_180)
                  refine lv_ldc hx hb hown (htb _ k_1205) dX9_foretold_219 ?_
                  have hP9 := hP.sub (ws' := [(mh, .inr (9, G9 ma mcode mtoday moffs w_16 w_21 w_17 w_20 w_24 w_22 w_18 w_23 w_19 w_167 w_166 mrates mtaped mlaid mat mtk mtkAt mtkNumber mwaits mlisted mdealtMany)), ((ma 2), .inl (E 0, 400, .inl mf2)), ((ma 3), .inl (E 0, 16, .inl mf3)), ((ma 4), .inl (E 0, 16, .inl mf4)), ((ma 5), .inl (E 1, 6400, .inl mf5)), ((ma 6), .inl (E 0, 6400, .inl mf6)), ((ma 7), .inl (E 0, 6400, .inl mf7)), ((ma 8), .inl (E 1, 6400, .inl mf8)), ((ma 9), .inl (E 1, 6400, .inl mf9)), ((ma 12), .inl (E 0, 60, .inl mf12)), ((ma 13), .inl (E 0, 60, .inl mf13)), ((ma 14), .inl (E 0, 60, .inl mf14)), ((ma 15), .inl (E 0, 60, .inl mf15)), ((ma 16), .inl (E 0, 60, .inl mf16))]) [13, 0, 1, 2, 3, 4, 5, 6, 7, 8, 9, 10, 11, 12] rfl
                  have hD9 := hD.sub (ws' := [(mh, .inr (9, G9 ma mcode mtoday moffs w_16 w_21 w_17 w_20 w_24 w_22 w_18 w_23 w_19 w_167 w_166 mrates mtaped mlaid mat mtk mtkAt mtkNumber mwaits mlisted mdealtMany)), ((ma 2), .inl (E 0, 400, .inl mf2)), ((ma 3), .inl (E 0, 16, .inl mf3)), ((ma 4), .inl (E 0, 16, .inl mf4)), ((ma 5), .inl (E 1, 6400, .inl mf5)), ((ma 6), .inl (E 0, 6400, .inl mf6)), ((ma 7), .inl (E 0, 6400, .inl mf7)), ((ma 8), .inl (E 1, 6400, .inl mf8)), ((ma 9), .inl (E 1, 6400, .inl mf9)), ((ma 12), .inl (E 0, 60, .inl mf12)), ((ma 13), .inl (E 0, 60, .inl mf13)), ((ma 14), .inl (E 0, 60, .inl mf14)), ((ma 15), .inl (E 0, 60, .inl mf15)), ((ma 16), .inl (E 0, 60, .inl mf16))]) [13, 0, 1, 2, 3, 4, 5, 6, 7, 8, 9, 10, 11, 12] (by decide) rfl
                  exact W.iret (v := (-2000000000)) hx hb hr (fun t ht hW => ⟨⟨(-2000000000), (w_166, w_16, w_17, w_18, w_19, w_20, w_21, w_22, w_23, w_24, w_167), rfl, (Or.inr (Or.inr ⟨⟨by have h9 := hw_2; omega, by have h9 := hw_2; omega, by omega, by omega⟩, by rw [← hw_14]; exact lc_27, (by have hu : uplM (fold9 (fun d => wmF mf3 mf4 mf2 p0 d) (fun d => agI mf8 (400 * p0.toInt).toNat d) (-1000) (rateL (fun d => ratF mf5 mf6 mf7 mf8 mf9 mf12 mf13 mf14 mf15 mf16 moffs p0 d (-1)) p1 (p2.toInt - p1.toInt).toNat)) p3 p4 = (w_166, w_167) := (by rw [← hw_14]; unfold uplM; (try dsimp only); first | (rw [if_pos hw_29.1, if_pos hw_29.2.1, if_neg hw_29.2.2]; rw [hw_164_0, hw_164_1]; subst_vars; rfl) | (rw [if_pos hw_29.1, if_pos hw_29.2.1, if_neg hw_29.2.2]; rw [hw_164_0, hw_164_1]; subst_vars)); unfold FRM; rw [hu]; intro hlo; (try dsimp only at hlo ⊢); have h3 : (3000000 : Int64).toInt = 3000000 := (by decide); have h4 : (-3000000 : Int64).toInt = -3000000 := (by decide); have h5 : (2000000000 : Int64).toInt = 2000000000 := (by decide); have h6 : (-2000000000 : Int64).toInt = -2000000000 := (by decide); have q0 := lc_178; have q1 := lc_197; exact ⟨r_172, hw_173 hlo, Or.inl ⟨by omega, by have hv := t_m2000000000; omega⟩⟩)⟩)), by rw [ht]; exact hP9, hD9⟩, hS.F ht⟩) hS.2.2 dX9_foretold_221
            ·
              have lc_198 : (w_166 : Int64).toInt < (0 : Int64).toInt := lc_ltI (by rw [← ez_169]; first | exact Or.inl c_170 | exact Or.inr c_170)
              refine lv_aload_n hx hb dX9_foretold_170 rfl (lv_at hl 0 rfl) ?_
              refine lv_aload_n hx hb dX9_foretold_171 rfl (lv_at hl 0 rfl) ?_
              refine va_get (D := D) (ci := 9) (v := .long w_166) (C := RX9) (T := TX9) (N := 68) hx hb htb iX9 hown hK.1 hP 13 rfl rfl 27 (by decide) (htb _ k_985) (fun _ h9 => h9) rfl dX9_foretold_172 ?_
              refine lv_lneg hx hb dX9_foretold_175 ?_
              refine lv_topl (fun z_199 ez_199 => ?_)
              have nz_199 : ¬ z_199 = 0 := neg_nz ez_199 nz_168
              refine va_put (D := D) (ci := 9) (v := .long z_199) (ty := .long) (C := RX9) (T := TX9) (N := 68) hx hb htb iX9 tyX9 tyX9_ok nmX9 hown hK.1 hP hD hS 13 rfl rfl 27 (by decide) (htb _ k_985) (fun _ h9 => h9) rfl (by decide +kernel) rfl rfl (Nat.le_of_ble_eq_true rfl) dX9_foretold_176 (fun H locs hP hD hS => ?_)
              have hP : va_P D vwCl [((ma 2), .inl (E 0, 400, .inl mf2)), ((ma 3), .inl (E 0, 16, .inl mf3)), ((ma 4), .inl (E 0, 16, .inl mf4)), ((ma 5), .inl (E 1, 6400, .inl mf5)), ((ma 6), .inl (E 0, 6400, .inl mf6)), ((ma 7), .inl (E 0, 6400, .inl mf7)), ((ma 8), .inl (E 1, 6400, .inl mf8)), ((ma 9), .inl (E 1, 6400, .inl mf9)), ((ma 12), .inl (E 0, 60, .inl mf12)), ((ma 13), .inl (E 0, 60, .inl mf13)), ((ma 14), .inl (E 0, 60, .inl mf14)), ((ma 15), .inl (E 0, 60, .inl mf15)), ((ma 16), .inl (E 0, 60, .inl mf16)), (mh, .inr (9, G9 ma mcode mtoday moffs w_16 w_21 w_17 w_20 w_24 w_22 w_18 w_23 w_19 w_167 z_199 mrates mtaped mlaid mat mtk mtkAt mtkNumber mwaits mlisted mdealtMany))] H := hP
              have hD := toW hP hD rfl
              refine lv_aload_n hx hb dX9_foretold_179 rfl (lv_at hl 0 rfl) ?_
              refine lv_aload_n hx hb dX9_foretold_180 rfl (lv_at hl 0 rfl) ?_
              refine va_get (D := D) (ci := 9) (v := .long w_167) (C := RX9) (T := TX9) (N := 68) hx hb htb iX9 hown hK.1 hP 13 rfl rfl 26 (by decide) (htb _ k_984) (fun _ h9 => h9) rfl dX9_foretold_181 ?_
              refine lv_lneg hx hb dX9_foretold_184 ?_
              refine lv_topl (fun z_200 ez_200 => ?_)
              refine va_put (D := D) (ci := 9) (v := .long z_200) (ty := .long) (C := RX9) (T := TX9) (N := 68) hx hb htb iX9 tyX9 tyX9_ok nmX9 hown hK.1 hP hD hS 13 rfl rfl 26 (by decide) (htb _ k_984) (fun _ h9 => h9) rfl (by decide +kernel) rfl rfl (Nat.le_of_ble_eq_true rfl) dX9_foretold_185 (fun H locs hP hD hS => ?_)
              have hP : va_P D vwCl [((ma 2), .inl (E 0, 400, .inl mf2)), ((ma 3), .inl (E 0, 16, .inl mf3)), ((ma 4), .inl (E 0, 16, .inl mf4)), ((ma 5), .inl (E 1, 6400, .inl mf5)), ((ma 6), .inl (E 0, 6400, .inl mf6)), ((ma 7), .inl (E 0, 6400, .inl mf7)), ((ma 8), .inl (E 1, 6400, .inl mf8)), ((ma 9), .inl (E 1, 6400, .inl mf9)), ((ma 12), .inl (E 0, 60, .inl mf12)), ((ma 13), .inl (E 0, 60, .inl mf13)), ((ma 14), .inl (E 0, 60, .inl mf14)), ((ma 15), .inl (E 0, 60, .inl mf15)), ((ma 16), .inl (E 0, 60, .inl mf16)), (mh, .inr (9, G9 ma mcode mtoday moffs w_16 w_21 w_17 w_20 w_24 w_22 w_18 w_23 w_19 z_200 z_199 mrates mtaped mlaid mat mtk mtkAt mtkNumber mwaits mlisted mdealtMany))] H := hP
              have hD := toW hP hD rfl
              refine lv_aload_n hx hb dX9_foretold_188 rfl (lv_at hl 0 rfl) ?_
              refine va_get (D := D) (ci := 9) (v := .long z_200) (C := RX9) (T := TX9) (N := 68) hx hb htb iX9 hown hK.1 hP 13 rfl rfl 26 (by decide) (htb _ k_984) (fun _ h9 => h9) rfl dX9_foretold_189 ?_
              refine lv_aload_n hx hb dX9_foretold_192 rfl (lv_at hl 0 rfl) ?_
              refine va_get (D := D) (ci := 9) (v := .long z_199) (C := RX9) (T := TX9) (N := 68) hx hb htb iX9 hown hK.1 hP 13 rfl rfl 27 (by decide) (htb _ k_985) (fun _ h9 => h9) rfl dX9_foretold_193 ?_
              refine callLS (rest := []) (As := [.long z_200, .long z_199]) hx hb hml hown htb hK (g_X9_floor l D E z_200 z_199 nz_199) ok_X9_floor k_1311 k_1312 k_9 k_1313 ⟨(Nat.le_of_ble_eq_true rfl), (Nat.le_of_ble_eq_true rfl)⟩ ⟨(Nat.le_of_ble_eq_true rfl), (Nat.le_of_ble_eq_true rfl)⟩ hl.1 (Nat.le_of_ble_eq_true rfl) rfl rfl dX9_foretold_196 (hP.sub (ws' := ([] : va_W)) [] rfl) (fun r_201 hw_202 => ?_)
              refine lv_lstore (lv' := [(6, .long r_201), (0, .ref mh), (1, .int p0), (2, .int p1), (3, .int p2), (4, .int p3), (5, .int p4)]) hx hb dX9_foretold_199 hl (by decide) rfl (fun ls hl => ?_)
              refine lv_lload hx hb dX9_foretold_201 (lv_at hl 0 rfl) ?_
              refine lv_ldc2 hx hb hown (htb _ k_1314) dX9_foretold_203 ?_
              refine W.lcmp hx hb dX9_foretold_206 ?_
              refine lv_topi (fun z_204 ez_204 => ?_)
              refine lv_if_gt (tgt := 219) hx hb dX9_foretold_207 (by decide) (fun c_205 => ?_) (fun c_205 => ?_)
              ·
                have lc_206 : ((3000000) : Int64).toInt < (r_201 : Int64).toInt := lc_gtI (by rw [← ez_204]; first | exact Or.inl c_205 | exact Or.inr c_205)
                refine lv_ldc hx hb hown (htb _ k_1205) dX9_foretold_219 ?_
                have hP9 := hP.sub (ws' := [(mh, .inr (9, G9 ma mcode mtoday moffs w_16 w_21 w_17 w_20 w_24 w_22 w_18 w_23 w_19 z_200 z_199 mrates mtaped mlaid mat mtk mtkAt mtkNumber mwaits mlisted mdealtMany)), ((ma 2), .inl (E 0, 400, .inl mf2)), ((ma 3), .inl (E 0, 16, .inl mf3)), ((ma 4), .inl (E 0, 16, .inl mf4)), ((ma 5), .inl (E 1, 6400, .inl mf5)), ((ma 6), .inl (E 0, 6400, .inl mf6)), ((ma 7), .inl (E 0, 6400, .inl mf7)), ((ma 8), .inl (E 1, 6400, .inl mf8)), ((ma 9), .inl (E 1, 6400, .inl mf9)), ((ma 12), .inl (E 0, 60, .inl mf12)), ((ma 13), .inl (E 0, 60, .inl mf13)), ((ma 14), .inl (E 0, 60, .inl mf14)), ((ma 15), .inl (E 0, 60, .inl mf15)), ((ma 16), .inl (E 0, 60, .inl mf16))]) [13, 0, 1, 2, 3, 4, 5, 6, 7, 8, 9, 10, 11, 12] rfl
                have hD9 := hD.sub (ws' := [(mh, .inr (9, G9 ma mcode mtoday moffs w_16 w_21 w_17 w_20 w_24 w_22 w_18 w_23 w_19 z_200 z_199 mrates mtaped mlaid mat mtk mtkAt mtkNumber mwaits mlisted mdealtMany)), ((ma 2), .inl (E 0, 400, .inl mf2)), ((ma 3), .inl (E 0, 16, .inl mf3)), ((ma 4), .inl (E 0, 16, .inl mf4)), ((ma 5), .inl (E 1, 6400, .inl mf5)), ((ma 6), .inl (E 0, 6400, .inl mf6)), ((ma 7), .inl (E 0, 6400, .inl mf7)), ((ma 8), .inl (E 1, 6400, .inl mf8)), ((ma 9), .inl (E 1, 6400, .inl mf9)), ((ma 12), .inl (E 0, 60, .inl mf12)), ((ma 13), .inl (E 0, 60, .inl mf13)), ((ma 14), .inl (E 0, 60, .inl mf14)), ((ma 15), .inl (E 0, 60, .inl mf15)), ((ma 16), .inl (E 0, 60, .inl mf16))]) [13, 0, 1, 2, 3, 4, 5, 6, 7, 8, 9, 10, 11, 12] (by decide) rfl
                exact W.iret (v := (-2000000000)) hx hb hr (fun t ht hW => ⟨⟨(-2000000000), (z_199, w_16, w_17, w_18, w_19, w_20, w_21, w_22, w_23, w_24, z_200), rfl, (Or.inr (Or.inr ⟨⟨by have h9 := hw_2; omega, by have h9 := hw_2; omega, by omega, by omega⟩, by rw [← hw_14]; exact lc_27, (by have hu : uplM (fold9 (fun d => wmF mf3 mf4 mf2 p0 d) (fun d => agI mf8 (400 * p0.toInt).toNat d) (-1000) (rateL (fun d => ratF mf5 mf6 mf7 mf8 mf9 mf12 mf13 mf14 mf15 mf16 moffs p0 d (-1)) p1 (p2.toInt - p1.toInt).toNat)) p3 p4 = (w_166, w_167) := (by rw [← hw_14]; unfold uplM; (try dsimp only); first | (rw [if_pos hw_29.1, if_pos hw_29.2.1, if_neg hw_29.2.2]; rw [hw_164_0, hw_164_1]; subst_vars; rfl) | (rw [if_pos hw_29.1, if_pos hw_29.2.1, if_neg hw_29.2.2]; rw [hw_164_0, hw_164_1]; subst_vars)); unfold FRM; rw [hu]; intro hlo; exfalso; have h0 : (0 : Int64).toInt = 0 := (by decide); have h9 := lc_198; (try dsimp only at hlo); omega)⟩)), by rw [ht]; exact hP9, hD9⟩, hS.F ht⟩) hS.2.2 dX9_foretold_221
              ·
                have lc_207 : (r_201 : Int64).toInt ≤ ((3000000) : Int64).toInt := lc_leI (by rw [← ez_204]; first | exact Or.inl c_205 | exact Or.inr c_205)
                refine lv_lload hx hb dX9_foretold_210 (lv_at hl 0 rfl) ?_
                refine lv_ldc2 hx hb hown (htb _ k_1315) dX9_foretold_212 ?_
                refine W.lcmp hx hb dX9_foretold_215 ?_
                refine lv_topi (fun z_208 ez_208 => ?_)
                refine lv_if_ge (tgt := 222) hx hb dX9_foretold_216 (by decide) (fun c_209 => ?_) (fun c_209 => ?_)
                ·
                  have lc_210 : ((-3000000) : Int64).toInt ≤ (r_201 : Int64).toInt := lc_geI (by rw [← ez_208]; first | exact Or.inl c_209 | exact Or.inr c_209)
                  refine lv_ldc2 hx hb hown (htb _ k_1316) dX9_foretold_222 ?_
                  refine lv_lload hx hb dX9_foretold_225 (lv_at hl 0 rfl) ?_
                  refine lv_lmul hx hb dX9_foretold_227 ?_
                  refine lv_topl (fun z_211 ez_211 => ?_)
                  refine lv_ldc2 hx hb hown (htb _ k_1316) dX9_foretold_228 ?_
                  refine lv_aload_n hx hb dX9_foretold_231 rfl (lv_at hl 1 rfl) ?_
                  refine va_get (D := D) (ci := 9) (v := .long z_200) (C := RX9) (T := TX9) (N := 68) hx hb htb iX9 hown hK.1 hP 13 rfl rfl 26 (by decide) (htb _ k_984) (fun _ h9 => h9) rfl dX9_foretold_232 ?_
                  refine lv_lload hx hb dX9_foretold_235 (lv_at hl 0 rfl) ?_
                  refine lv_aload_n hx hb dX9_foretold_237 rfl (lv_at hl 1 rfl) ?_
                  refine va_get (D := D) (ci := 9) (v := .long z_199) (C := RX9) (T := TX9) (N := 68) hx hb htb iX9 hown hK.1 hP 13 rfl rfl 27 (by decide) (htb _ k_985) (fun _ h9 => h9) rfl dX9_foretold_238 ?_
                  refine lv_lmul hx hb dX9_foretold_241 ?_
                  refine lv_topl (fun z_212 ez_212 => ?_)
                  refine lv_lsub hx hb dX9_foretold_242 ?_
                  refine lv_topl (fun z_213 ez_213 => ?_)
                  refine lv_lmul hx hb dX9_foretold_243 ?_
                  refine lv_topl (fun z_214 ez_214 => ?_)
                  refine lv_aload_n hx hb dX9_foretold_244 rfl (lv_at hl 1 rfl) ?_
                  refine va_get (D := D) (ci := 9) (v := .long z_199) (C := RX9) (T := TX9) (N := 68) hx hb htb iX9 hown hK.1 hP 13 rfl rfl 27 (by decide) (htb _ k_985) (fun _ h9 => h9) rfl dX9_foretold_245 ?_
                  refine lv_ldiv hx hb dX9_foretold_248 nz_199 ?_
                  refine lv_topl (fun z_215 ez_215 => ?_)
                  refine lv_ladd hx hb dX9_foretold_249 ?_
                  refine lv_topl (fun z_216 ez_216 => ?_)
                  refine lv_lstore (lv' := [(8, .long z_216), (6, .long r_201), (0, .ref mh), (1, .int p0), (2, .int p1), (3, .int p2), (4, .int p3), (5, .int p4)]) hx hb dX9_foretold_250 hl (by decide) rfl (fun ls hl => ?_)
                  refine lv_lload hx hb dX9_foretold_252 (lv_at hl 0 rfl) ?_
                  refine lv_ldc2 hx hb hown (htb _ k_1317) dX9_foretold_254 ?_
                  refine W.lcmp hx hb dX9_foretold_257 ?_
                  refine lv_topi (fun z_217 ez_217 => ?_)
                  refine lv_if_gt (tgt := 270) hx hb dX9_foretold_258 (by decide) (fun c_218 => ?_) (fun c_218 => ?_)
                  ·
                    have lc_219 : ((2000000000) : Int64).toInt < (z_216 : Int64).toInt := lc_gtI (by rw [← ez_217]; first | exact Or.inl c_218 | exact Or.inr c_218)
                    refine lv_ldc hx hb hown (htb _ k_1205) dX9_foretold_270 ?_
                    refine lv_goto (tgt := 278) hx hb dX9_foretold_272 (by decide) ?_
                    have hP9 := hP.sub (ws' := [(mh, .inr (9, G9 ma mcode mtoday moffs w_16 w_21 w_17 w_20 w_24 w_22 w_18 w_23 w_19 z_200 z_199 mrates mtaped mlaid mat mtk mtkAt mtkNumber mwaits mlisted mdealtMany)), ((ma 2), .inl (E 0, 400, .inl mf2)), ((ma 3), .inl (E 0, 16, .inl mf3)), ((ma 4), .inl (E 0, 16, .inl mf4)), ((ma 5), .inl (E 1, 6400, .inl mf5)), ((ma 6), .inl (E 0, 6400, .inl mf6)), ((ma 7), .inl (E 0, 6400, .inl mf7)), ((ma 8), .inl (E 1, 6400, .inl mf8)), ((ma 9), .inl (E 1, 6400, .inl mf9)), ((ma 12), .inl (E 0, 60, .inl mf12)), ((ma 13), .inl (E 0, 60, .inl mf13)), ((ma 14), .inl (E 0, 60, .inl mf14)), ((ma 15), .inl (E 0, 60, .inl mf15)), ((ma 16), .inl (E 0, 60, .inl mf16))]) [13, 0, 1, 2, 3, 4, 5, 6, 7, 8, 9, 10, 11, 12] rfl
                    have hD9 := hD.sub (ws' := [(mh, .inr (9, G9 ma mcode mtoday moffs w_16 w_21 w_17 w_20 w_24 w_22 w_18 w_23 w_19 z_200 z_199 mrates mtaped mlaid mat mtk mtkAt mtkNumber mwaits mlisted mdealtMany)), ((ma 2), .inl (E 0, 400, .inl mf2)), ((ma 3), .inl (E 0, 16, .inl mf3)), ((ma 4), .inl (E 0, 16, .inl mf4)), ((ma 5), .inl (E 1, 6400, .inl mf5)), ((ma 6), .inl (E 0, 6400, .inl mf6)), ((ma 7), .inl (E 0, 6400, .inl mf7)), ((ma 8), .inl (E 1, 6400, .inl mf8)), ((ma 9), .inl (E 1, 6400, .inl mf9)), ((ma 12), .inl (E 0, 60, .inl mf12)), ((ma 13), .inl (E 0, 60, .inl mf13)), ((ma 14), .inl (E 0, 60, .inl mf14)), ((ma 15), .inl (E 0, 60, .inl mf15)), ((ma 16), .inl (E 0, 60, .inl mf16))]) [13, 0, 1, 2, 3, 4, 5, 6, 7, 8, 9, 10, 11, 12] (by decide) rfl
                    exact W.iret (v := (-2000000000)) hx hb hr (fun t ht hW => ⟨⟨(-2000000000), (z_199, w_16, w_17, w_18, w_19, w_20, w_21, w_22, w_23, w_24, z_200), rfl, (Or.inr (Or.inr ⟨⟨by have h9 := hw_2; omega, by have h9 := hw_2; omega, by omega, by omega⟩, by rw [← hw_14]; exact lc_27, (by have hu : uplM (fold9 (fun d => wmF mf3 mf4 mf2 p0 d) (fun d => agI mf8 (400 * p0.toInt).toNat d) (-1000) (rateL (fun d => ratF mf5 mf6 mf7 mf8 mf9 mf12 mf13 mf14 mf15 mf16 moffs p0 d (-1)) p1 (p2.toInt - p1.toInt).toNat)) p3 p4 = (w_166, w_167) := (by rw [← hw_14]; unfold uplM; (try dsimp only); first | (rw [if_pos hw_29.1, if_pos hw_29.2.1, if_neg hw_29.2.2]; rw [hw_164_0, hw_164_1]; subst_vars; rfl) | (rw [if_pos hw_29.1, if_pos hw_29.2.1, if_neg hw_29.2.2]; rw [hw_164_0, hw_164_1]; subst_vars)); unfold FRM; rw [hu]; intro hlo; exfalso; have h0 : (0 : Int64).toInt = 0 := (by decide); have h9 := lc_198; (try dsimp only at hlo); omega)⟩)), by rw [ht]; exact hP9, hD9⟩, hS.F ht⟩) hS.2.2 dX9_foretold_278
                  ·
                    have lc_220 : (z_216 : Int64).toInt ≤ ((2000000000) : Int64).toInt := lc_leI (by rw [← ez_217]; first | exact Or.inl c_218 | exact Or.inr c_218)
                    refine lv_lload hx hb dX9_foretold_261 (lv_at hl 0 rfl) ?_
                    refine lv_ldc2 hx hb hown (htb _ k_1281) dX9_foretold_263 ?_
                    refine W.lcmp hx hb dX9_foretold_266 ?_
                    refine lv_topi (fun z_221 ez_221 => ?_)
                    refine lv_if_ge (tgt := 275) hx hb dX9_foretold_267 (by decide) (fun c_222 => ?_) (fun c_222 => ?_)
                    ·
                      have lc_223 : ((-2000000000) : Int64).toInt ≤ (z_216 : Int64).toInt := lc_geI (by rw [← ez_221]; first | exact Or.inl c_222 | exact Or.inr c_222)
                      refine lv_lload hx hb dX9_foretold_275 (lv_at hl 0 rfl) ?_
                      obtain ⟨z_224, ez_224⟩ : ∃ y : Int32, (z_216 : Int64).toInt32 = y := ⟨_, rfl⟩
                      refine lv_l2i hx hb dX9_foretold_277 ez_224 ?_
                      have hP9 := hP.sub (ws' := [(mh, .inr (9, G9 ma mcode mtoday moffs w_16 w_21 w_17 w_20 w_24 w_22 w_18 w_23 w_19 z_200 z_199 mrates mtaped mlaid mat mtk mtkAt mtkNumber mwaits mlisted mdealtMany)), ((ma 2), .inl (E 0, 400, .inl mf2)), ((ma 3), .inl (E 0, 16, .inl mf3)), ((ma 4), .inl (E 0, 16, .inl mf4)), ((ma 5), .inl (E 1, 6400, .inl mf5)), ((ma 6), .inl (E 0, 6400, .inl mf6)), ((ma 7), .inl (E 0, 6400, .inl mf7)), ((ma 8), .inl (E 1, 6400, .inl mf8)), ((ma 9), .inl (E 1, 6400, .inl mf9)), ((ma 12), .inl (E 0, 60, .inl mf12)), ((ma 13), .inl (E 0, 60, .inl mf13)), ((ma 14), .inl (E 0, 60, .inl mf14)), ((ma 15), .inl (E 0, 60, .inl mf15)), ((ma 16), .inl (E 0, 60, .inl mf16))]) [13, 0, 1, 2, 3, 4, 5, 6, 7, 8, 9, 10, 11, 12] rfl
                      have hD9 := hD.sub (ws' := [(mh, .inr (9, G9 ma mcode mtoday moffs w_16 w_21 w_17 w_20 w_24 w_22 w_18 w_23 w_19 z_200 z_199 mrates mtaped mlaid mat mtk mtkAt mtkNumber mwaits mlisted mdealtMany)), ((ma 2), .inl (E 0, 400, .inl mf2)), ((ma 3), .inl (E 0, 16, .inl mf3)), ((ma 4), .inl (E 0, 16, .inl mf4)), ((ma 5), .inl (E 1, 6400, .inl mf5)), ((ma 6), .inl (E 0, 6400, .inl mf6)), ((ma 7), .inl (E 0, 6400, .inl mf7)), ((ma 8), .inl (E 1, 6400, .inl mf8)), ((ma 9), .inl (E 1, 6400, .inl mf9)), ((ma 12), .inl (E 0, 60, .inl mf12)), ((ma 13), .inl (E 0, 60, .inl mf13)), ((ma 14), .inl (E 0, 60, .inl mf14)), ((ma 15), .inl (E 0, 60, .inl mf15)), ((ma 16), .inl (E 0, 60, .inl mf16))]) [13, 0, 1, 2, 3, 4, 5, 6, 7, 8, 9, 10, 11, 12] (by decide) rfl
                      exact W.iret (v := z_224) hx hb hr (fun t ht hW => ⟨⟨z_224, (z_199, w_16, w_17, w_18, w_19, w_20, w_21, w_22, w_23, w_24, z_200), rfl, (Or.inr (Or.inr ⟨⟨by have h9 := hw_2; omega, by have h9 := hw_2; omega, by omega, by omega⟩, by rw [← hw_14]; exact lc_27, (by have hu : uplM (fold9 (fun d => wmF mf3 mf4 mf2 p0 d) (fun d => agI mf8 (400 * p0.toInt).toNat d) (-1000) (rateL (fun d => ratF mf5 mf6 mf7 mf8 mf9 mf12 mf13 mf14 mf15 mf16 moffs p0 d (-1)) p1 (p2.toInt - p1.toInt).toNat)) p3 p4 = (w_166, w_167) := (by rw [← hw_14]; unfold uplM; (try dsimp only); first | (rw [if_pos hw_29.1, if_pos hw_29.2.1, if_neg hw_29.2.2]; rw [hw_164_0, hw_164_1]; subst_vars; rfl) | (rw [if_pos hw_29.1, if_pos hw_29.2.1, if_neg hw_29.2.2]; rw [hw_164_0, hw_164_1]; subst_vars)); unfold FRM; rw [hu]; intro hlo; exfalso; have h0 : (0 : Int64).toInt = 0 := (by decide); have h9 := lc_198; (try dsimp only at hlo); omega)⟩)), by rw [ht]; exact hP9, hD9⟩, hS.F ht⟩) hS.2.2 dX9_foretold_278
                    ·
                      have lc_225 : (z_216 : Int64).toInt < ((-2000000000) : Int64).toInt := lc_ltI (by rw [← ez_221]; first | exact Or.inl c_222 | exact Or.inr c_222)
                      refine lv_ldc hx hb hown (htb _ k_1205) dX9_foretold_270 ?_
                      refine lv_goto (tgt := 278) hx hb dX9_foretold_272 (by decide) ?_
                      have hP9 := hP.sub (ws' := [(mh, .inr (9, G9 ma mcode mtoday moffs w_16 w_21 w_17 w_20 w_24 w_22 w_18 w_23 w_19 z_200 z_199 mrates mtaped mlaid mat mtk mtkAt mtkNumber mwaits mlisted mdealtMany)), ((ma 2), .inl (E 0, 400, .inl mf2)), ((ma 3), .inl (E 0, 16, .inl mf3)), ((ma 4), .inl (E 0, 16, .inl mf4)), ((ma 5), .inl (E 1, 6400, .inl mf5)), ((ma 6), .inl (E 0, 6400, .inl mf6)), ((ma 7), .inl (E 0, 6400, .inl mf7)), ((ma 8), .inl (E 1, 6400, .inl mf8)), ((ma 9), .inl (E 1, 6400, .inl mf9)), ((ma 12), .inl (E 0, 60, .inl mf12)), ((ma 13), .inl (E 0, 60, .inl mf13)), ((ma 14), .inl (E 0, 60, .inl mf14)), ((ma 15), .inl (E 0, 60, .inl mf15)), ((ma 16), .inl (E 0, 60, .inl mf16))]) [13, 0, 1, 2, 3, 4, 5, 6, 7, 8, 9, 10, 11, 12] rfl
                      have hD9 := hD.sub (ws' := [(mh, .inr (9, G9 ma mcode mtoday moffs w_16 w_21 w_17 w_20 w_24 w_22 w_18 w_23 w_19 z_200 z_199 mrates mtaped mlaid mat mtk mtkAt mtkNumber mwaits mlisted mdealtMany)), ((ma 2), .inl (E 0, 400, .inl mf2)), ((ma 3), .inl (E 0, 16, .inl mf3)), ((ma 4), .inl (E 0, 16, .inl mf4)), ((ma 5), .inl (E 1, 6400, .inl mf5)), ((ma 6), .inl (E 0, 6400, .inl mf6)), ((ma 7), .inl (E 0, 6400, .inl mf7)), ((ma 8), .inl (E 1, 6400, .inl mf8)), ((ma 9), .inl (E 1, 6400, .inl mf9)), ((ma 12), .inl (E 0, 60, .inl mf12)), ((ma 13), .inl (E 0, 60, .inl mf13)), ((ma 14), .inl (E 0, 60, .inl mf14)), ((ma 15), .inl (E 0, 60, .inl mf15)), ((ma 16), .inl (E 0, 60, .inl mf16))]) [13, 0, 1, 2, 3, 4, 5, 6, 7, 8, 9, 10, 11, 12] (by decide) rfl
                      exact W.iret (v := (-2000000000)) hx hb hr (fun t ht hW => ⟨⟨(-2000000000), (z_199, w_16, w_17, w_18, w_19, w_20, w_21, w_22, w_23, w_24, z_200), rfl, (Or.inr (Or.inr ⟨⟨by have h9 := hw_2; omega, by have h9 := hw_2; omega, by omega, by omega⟩, by rw [← hw_14]; exact lc_27, (by have hu : uplM (fold9 (fun d => wmF mf3 mf4 mf2 p0 d) (fun d => agI mf8 (400 * p0.toInt).toNat d) (-1000) (rateL (fun d => ratF mf5 mf6 mf7 mf8 mf9 mf12 mf13 mf14 mf15 mf16 moffs p0 d (-1)) p1 (p2.toInt - p1.toInt).toNat)) p3 p4 = (w_166, w_167) := (by rw [← hw_14]; unfold uplM; (try dsimp only); first | (rw [if_pos hw_29.1, if_pos hw_29.2.1, if_neg hw_29.2.2]; rw [hw_164_0, hw_164_1]; subst_vars; rfl) | (rw [if_pos hw_29.1, if_pos hw_29.2.1, if_neg hw_29.2.2]; rw [hw_164_0, hw_164_1]; subst_vars)); unfold FRM; rw [hu]; intro hlo; exfalso; have h0 : (0 : Int64).toInt = 0 := (by decide); have h9 := lc_198; (try dsimp only at hlo); omega)⟩)), by rw [ht]; exact hP9, hD9⟩, hS.F ht⟩) hS.2.2 dX9_foretold_278
                ·
                  have lc_226 : (r_201 : Int64).toInt < ((-3000000) : Int64).toInt := lc_ltI (by rw [← ez_208]; first | exact Or.inl c_209 | exact Or.inr c_209)
                  refine lv_ldc hx hb hown (htb _ k_1205) dX9_foretold_219 ?_
                  have hP9 := hP.sub (ws' := [(mh, .inr (9, G9 ma mcode mtoday moffs w_16 w_21 w_17 w_20 w_24 w_22 w_18 w_23 w_19 z_200 z_199 mrates mtaped mlaid mat mtk mtkAt mtkNumber mwaits mlisted mdealtMany)), ((ma 2), .inl (E 0, 400, .inl mf2)), ((ma 3), .inl (E 0, 16, .inl mf3)), ((ma 4), .inl (E 0, 16, .inl mf4)), ((ma 5), .inl (E 1, 6400, .inl mf5)), ((ma 6), .inl (E 0, 6400, .inl mf6)), ((ma 7), .inl (E 0, 6400, .inl mf7)), ((ma 8), .inl (E 1, 6400, .inl mf8)), ((ma 9), .inl (E 1, 6400, .inl mf9)), ((ma 12), .inl (E 0, 60, .inl mf12)), ((ma 13), .inl (E 0, 60, .inl mf13)), ((ma 14), .inl (E 0, 60, .inl mf14)), ((ma 15), .inl (E 0, 60, .inl mf15)), ((ma 16), .inl (E 0, 60, .inl mf16))]) [13, 0, 1, 2, 3, 4, 5, 6, 7, 8, 9, 10, 11, 12] rfl
                  have hD9 := hD.sub (ws' := [(mh, .inr (9, G9 ma mcode mtoday moffs w_16 w_21 w_17 w_20 w_24 w_22 w_18 w_23 w_19 z_200 z_199 mrates mtaped mlaid mat mtk mtkAt mtkNumber mwaits mlisted mdealtMany)), ((ma 2), .inl (E 0, 400, .inl mf2)), ((ma 3), .inl (E 0, 16, .inl mf3)), ((ma 4), .inl (E 0, 16, .inl mf4)), ((ma 5), .inl (E 1, 6400, .inl mf5)), ((ma 6), .inl (E 0, 6400, .inl mf6)), ((ma 7), .inl (E 0, 6400, .inl mf7)), ((ma 8), .inl (E 1, 6400, .inl mf8)), ((ma 9), .inl (E 1, 6400, .inl mf9)), ((ma 12), .inl (E 0, 60, .inl mf12)), ((ma 13), .inl (E 0, 60, .inl mf13)), ((ma 14), .inl (E 0, 60, .inl mf14)), ((ma 15), .inl (E 0, 60, .inl mf15)), ((ma 16), .inl (E 0, 60, .inl mf16))]) [13, 0, 1, 2, 3, 4, 5, 6, 7, 8, 9, 10, 11, 12] (by decide) rfl
                  exact W.iret (v := (-2000000000)) hx hb hr (fun t ht hW => ⟨⟨(-2000000000), (z_199, w_16, w_17, w_18, w_19, w_20, w_21, w_22, w_23, w_24, z_200), rfl, (Or.inr (Or.inr ⟨⟨by have h9 := hw_2; omega, by have h9 := hw_2; omega, by omega, by omega⟩, by rw [← hw_14]; exact lc_27, (by have hu : uplM (fold9 (fun d => wmF mf3 mf4 mf2 p0 d) (fun d => agI mf8 (400 * p0.toInt).toNat d) (-1000) (rateL (fun d => ratF mf5 mf6 mf7 mf8 mf9 mf12 mf13 mf14 mf15 mf16 moffs p0 d (-1)) p1 (p2.toInt - p1.toInt).toNat)) p3 p4 = (w_166, w_167) := (by rw [← hw_14]; unfold uplM; (try dsimp only); first | (rw [if_pos hw_29.1, if_pos hw_29.2.1, if_neg hw_29.2.2]; rw [hw_164_0, hw_164_1]; subst_vars; rfl) | (rw [if_pos hw_29.1, if_pos hw_29.2.1, if_neg hw_29.2.2]; rw [hw_164_0, hw_164_1]; subst_vars)); unfold FRM; rw [hu]; intro hlo; exfalso; have h0 : (0 : Int64).toInt = 0 := (by decide); have h9 := lc_198; (try dsimp only at hlo); omega)⟩)), by rw [ht]; exact hP9, hD9⟩, hS.F ht⟩) hS.2.2 dX9_foretold_221
          ·
            refine W_top (y := .int 1) (by rw [hr_28]) ?_
            refine lv_tableOut (x := 1) (tgt := 145) hx hb dX9_foretold_60 (by decide) (by decide) ?_
            refine lv_aload_n hx hb dX9_foretold_145 rfl (lv_at hl 0 rfl) ?_
            refine lv_aload_n hx hb dX9_foretold_146 rfl (lv_at hl 0 rfl) ?_
            refine va_get (D := D) (ci := 9) (v := .long w_16) (C := RX9) (T := TX9) (N := 68) hx hb htb iX9 hown hK.1 hP 0 rfl rfl 17 (by decide) (htb _ k_975) (fun _ h9 => h9) rfl dX9_foretold_147 ?_
            refine va_put (D := D) (ci := 9) (v := .long w_16) (ty := .long) (C := RX9) (T := TX9) (N := 68) hx hb htb iX9 tyX9 tyX9_ok nmX9 hown hK.1 hP hD hS 0 rfl rfl 27 (by decide) (htb _ k_985) (fun _ h9 => h9) rfl (by decide +kernel) rfl rfl (Nat.le_of_ble_eq_true rfl) dX9_foretold_150 (fun H locs hP hD hS => ?_)
            have hP : va_P D vwCl [(mh, .inr (9, G9 ma mcode mtoday moffs w_16 w_21 w_17 w_20 w_24 w_22 w_18 w_23 w_19 mupper w_16 mrates mtaped mlaid mat mtk mtkAt mtkNumber mwaits mlisted mdealtMany)), ((ma 2), .inl (E 0, 400, .inl mf2)), ((ma 3), .inl (E 0, 16, .inl mf3)), ((ma 4), .inl (E 0, 16, .inl mf4)), ((ma 5), .inl (E 1, 6400, .inl mf5)), ((ma 6), .inl (E 0, 6400, .inl mf6)), ((ma 7), .inl (E 0, 6400, .inl mf7)), ((ma 8), .inl (E 1, 6400, .inl mf8)), ((ma 9), .inl (E 1, 6400, .inl mf9)), ((ma 12), .inl (E 0, 60, .inl mf12)), ((ma 13), .inl (E 0, 60, .inl mf13)), ((ma 14), .inl (E 0, 60, .inl mf14)), ((ma 15), .inl (E 0, 60, .inl mf15)), ((ma 16), .inl (E 0, 60, .inl mf16))] H := hP
            have hD := toW hP hD rfl
            refine lv_aload_n hx hb dX9_foretold_153 rfl (lv_at hl 0 rfl) ?_
            refine lv_aload_n hx hb dX9_foretold_154 rfl (lv_at hl 0 rfl) ?_
            refine va_get (D := D) (ci := 9) (v := .long w_20) (C := RX9) (T := TX9) (N := 68) hx hb htb iX9 hown hK.1 hP 0 rfl rfl 20 (by decide) (htb _ k_978) (fun _ h9 => h9) rfl dX9_foretold_155 ?_
            refine va_put (D := D) (ci := 9) (v := .long w_20) (ty := .long) (C := RX9) (T := TX9) (N := 68) hx hb htb iX9 tyX9 tyX9_ok nmX9 hown hK.1 hP hD hS 0 rfl rfl 26 (by decide) (htb _ k_984) (fun _ h9 => h9) rfl (by decide +kernel) rfl rfl (Nat.le_of_ble_eq_true rfl) dX9_foretold_158 (fun H locs hP hD hS => ?_)
            have hP : va_P D vwCl [(mh, .inr (9, G9 ma mcode mtoday moffs w_16 w_21 w_17 w_20 w_24 w_22 w_18 w_23 w_19 w_20 w_16 mrates mtaped mlaid mat mtk mtkAt mtkNumber mwaits mlisted mdealtMany)), ((ma 2), .inl (E 0, 400, .inl mf2)), ((ma 3), .inl (E 0, 16, .inl mf3)), ((ma 4), .inl (E 0, 16, .inl mf4)), ((ma 5), .inl (E 1, 6400, .inl mf5)), ((ma 6), .inl (E 0, 6400, .inl mf6)), ((ma 7), .inl (E 0, 6400, .inl mf7)), ((ma 8), .inl (E 1, 6400, .inl mf8)), ((ma 9), .inl (E 1, 6400, .inl mf9)), ((ma 12), .inl (E 0, 60, .inl mf12)), ((ma 13), .inl (E 0, 60, .inl mf13)), ((ma 14), .inl (E 0, 60, .inl mf14)), ((ma 15), .inl (E 0, 60, .inl mf15)), ((ma 16), .inl (E 0, 60, .inl mf16))] H := hP
            have hD := toW hP hD rfl
            refine lv_aload_n hx hb dX9_foretold_161 rfl (lv_at hl 0 rfl) ?_
            refine va_get (D := D) (ci := 9) (v := .long w_16) (C := RX9) (T := TX9) (N := 68) hx hb htb iX9 hown hK.1 hP 0 rfl rfl 27 (by decide) (htb _ k_985) (fun _ h9 => h9) rfl dX9_foretold_162 ?_
            refine lv_lconst (v := 0) hx hb dX9_foretold_165 (by decide) ?_
            refine W.lcmp hx hb dX9_foretold_166 ?_
            refine lv_topi (fun z_227 ez_227 => ?_)
            refine lv_if_ge (tgt := 188) hx hb dX9_foretold_167 (by decide) (fun c_228 => ?_) (fun c_228 => ?_)
            ·
              have lc_229 : (0 : Int64).toInt ≤ (w_16 : Int64).toInt := lc_geI (by rw [← ez_227]; first | exact Or.inl c_228 | exact Or.inr c_228)
              refine lv_aload_n hx hb dX9_foretold_188 rfl (lv_at hl 0 rfl) ?_
              refine va_get (D := D) (ci := 9) (v := .long w_20) (C := RX9) (T := TX9) (N := 68) hx hb htb iX9 hown hK.1 hP 0 rfl rfl 26 (by decide) (htb _ k_984) (fun _ h9 => h9) rfl dX9_foretold_189 ?_
              refine lv_aload_n hx hb dX9_foretold_192 rfl (lv_at hl 0 rfl) ?_
              refine va_get (D := D) (ci := 9) (v := .long w_16) (C := RX9) (T := TX9) (N := 68) hx hb htb iX9 hown hK.1 hP 0 rfl rfl 27 (by decide) (htb _ k_985) (fun _ h9 => h9) rfl dX9_foretold_193 ?_
              refine callLS (rest := []) (As := [.long w_20, .long w_16]) hx hb hml hown htb hK (g_X9_floor l D E w_20 w_16 lc_27) ok_X9_floor k_1311 k_1312 k_9 k_1313 ⟨(Nat.le_of_ble_eq_true rfl), (Nat.le_of_ble_eq_true rfl)⟩ ⟨(Nat.le_of_ble_eq_true rfl), (Nat.le_of_ble_eq_true rfl)⟩ hl.1 (Nat.le_of_ble_eq_true rfl) rfl rfl dX9_foretold_196 (hP.sub (ws' := ([] : va_W)) [] rfl) (fun r_230 hw_231 => ?_)
              refine lv_lstore (lv' := [(6, .long r_230), (0, .ref mh), (1, .int p0), (2, .int p1), (3, .int p2), (4, .int p3), (5, .int p4)]) hx hb dX9_foretold_199 hl (by decide) rfl (fun ls hl => ?_)
              refine lv_lload hx hb dX9_foretold_201 (lv_at hl 0 rfl) ?_
              refine lv_ldc2 hx hb hown (htb _ k_1314) dX9_foretold_203 ?_
              refine W.lcmp hx hb dX9_foretold_206 ?_
              refine lv_topi (fun z_233 ez_233 => ?_)
              refine lv_if_gt (tgt := 219) hx hb dX9_foretold_207 (by decide) (fun c_234 => ?_) (fun c_234 => ?_)
              ·
                have lc_235 : ((3000000) : Int64).toInt < (r_230 : Int64).toInt := lc_gtI (by rw [← ez_233]; first | exact Or.inl c_234 | exact Or.inr c_234)
                refine lv_ldc hx hb hown (htb _ k_1205) dX9_foretold_219 ?_
                have hP9 := hP.sub (ws' := [(mh, .inr (9, G9 ma mcode mtoday moffs w_16 w_21 w_17 w_20 w_24 w_22 w_18 w_23 w_19 w_20 w_16 mrates mtaped mlaid mat mtk mtkAt mtkNumber mwaits mlisted mdealtMany)), ((ma 2), .inl (E 0, 400, .inl mf2)), ((ma 3), .inl (E 0, 16, .inl mf3)), ((ma 4), .inl (E 0, 16, .inl mf4)), ((ma 5), .inl (E 1, 6400, .inl mf5)), ((ma 6), .inl (E 0, 6400, .inl mf6)), ((ma 7), .inl (E 0, 6400, .inl mf7)), ((ma 8), .inl (E 1, 6400, .inl mf8)), ((ma 9), .inl (E 1, 6400, .inl mf9)), ((ma 12), .inl (E 0, 60, .inl mf12)), ((ma 13), .inl (E 0, 60, .inl mf13)), ((ma 14), .inl (E 0, 60, .inl mf14)), ((ma 15), .inl (E 0, 60, .inl mf15)), ((ma 16), .inl (E 0, 60, .inl mf16))]) [0, 1, 2, 3, 4, 5, 6, 7, 8, 9, 10, 11, 12, 13] rfl
                have hD9 := hD.sub (ws' := [(mh, .inr (9, G9 ma mcode mtoday moffs w_16 w_21 w_17 w_20 w_24 w_22 w_18 w_23 w_19 w_20 w_16 mrates mtaped mlaid mat mtk mtkAt mtkNumber mwaits mlisted mdealtMany)), ((ma 2), .inl (E 0, 400, .inl mf2)), ((ma 3), .inl (E 0, 16, .inl mf3)), ((ma 4), .inl (E 0, 16, .inl mf4)), ((ma 5), .inl (E 1, 6400, .inl mf5)), ((ma 6), .inl (E 0, 6400, .inl mf6)), ((ma 7), .inl (E 0, 6400, .inl mf7)), ((ma 8), .inl (E 1, 6400, .inl mf8)), ((ma 9), .inl (E 1, 6400, .inl mf9)), ((ma 12), .inl (E 0, 60, .inl mf12)), ((ma 13), .inl (E 0, 60, .inl mf13)), ((ma 14), .inl (E 0, 60, .inl mf14)), ((ma 15), .inl (E 0, 60, .inl mf15)), ((ma 16), .inl (E 0, 60, .inl mf16))]) [0, 1, 2, 3, 4, 5, 6, 7, 8, 9, 10, 11, 12, 13] (by decide) rfl
                exact W.iret (v := (-2000000000)) hx hb hr (fun t ht hW => ⟨⟨(-2000000000), (w_16, w_16, w_17, w_18, w_19, w_20, w_21, w_22, w_23, w_24, w_20), rfl, (Or.inr (Or.inr ⟨⟨by have h9 := hw_2; omega, by have h9 := hw_2; omega, by omega, by omega⟩, by rw [← hw_14]; exact lc_27, (by have hu : uplM (fold9 (fun d => wmF mf3 mf4 mf2 p0 d) (fun d => agI mf8 (400 * p0.toInt).toNat d) (-1000) (rateL (fun d => ratF mf5 mf6 mf7 mf8 mf9 mf12 mf13 mf14 mf15 mf16 moffs p0 d (-1)) p1 (p2.toInt - p1.toInt).toNat)) p3 p4 = (w_16, w_20) := (by rw [← hw_14]; unfold uplM; (try dsimp only); first | (rw [if_pos hw_29.1, if_pos hw_29.2.1, if_pos hw_29.2.2]; rfl) | (rw [if_pos hw_29.1, if_pos hw_29.2.1, if_pos hw_29.2.2]; skip)); unfold FRM; rw [hu]; intro hlo; (try dsimp only at hlo ⊢); have h3 : (3000000 : Int64).toInt = 3000000 := (by decide); have h4 : (-3000000 : Int64).toInt = -3000000 := (by decide); have h5 : (2000000000 : Int64).toInt = 2000000000 := (by decide); have h6 : (-2000000000 : Int64).toInt = -2000000000 := (by decide); have q0 := lc_235; exact ⟨r_230, hw_231 hlo, Or.inl ⟨by omega, by have hv := t_m2000000000; omega⟩⟩)⟩)), by rw [ht]; exact hP9, hD9⟩, hS.F ht⟩) hS.2.2 dX9_foretold_221
              ·
                have lc_236 : (r_230 : Int64).toInt ≤ ((3000000) : Int64).toInt := lc_leI (by rw [← ez_233]; first | exact Or.inl c_234 | exact Or.inr c_234)
                refine lv_lload hx hb dX9_foretold_210 (lv_at hl 0 rfl) ?_
                refine lv_ldc2 hx hb hown (htb _ k_1315) dX9_foretold_212 ?_
                refine W.lcmp hx hb dX9_foretold_215 ?_
                refine lv_topi (fun z_237 ez_237 => ?_)
                refine lv_if_ge (tgt := 222) hx hb dX9_foretold_216 (by decide) (fun c_238 => ?_) (fun c_238 => ?_)
                ·
                  have lc_239 : ((-3000000) : Int64).toInt ≤ (r_230 : Int64).toInt := lc_geI (by rw [← ez_237]; first | exact Or.inl c_238 | exact Or.inr c_238)
                  refine lv_ldc2 hx hb hown (htb _ k_1316) dX9_foretold_222 ?_
                  refine lv_lload hx hb dX9_foretold_225 (lv_at hl 0 rfl) ?_
                  refine lv_lmul hx hb dX9_foretold_227 ?_
                  refine lv_topl (fun z_240 ez_240 => ?_)
                  refine lv_ldc2 hx hb hown (htb _ k_1316) dX9_foretold_228 ?_
                  refine lv_aload_n hx hb dX9_foretold_231 rfl (lv_at hl 1 rfl) ?_
                  refine va_get (D := D) (ci := 9) (v := .long w_20) (C := RX9) (T := TX9) (N := 68) hx hb htb iX9 hown hK.1 hP 0 rfl rfl 26 (by decide) (htb _ k_984) (fun _ h9 => h9) rfl dX9_foretold_232 ?_
                  refine lv_lload hx hb dX9_foretold_235 (lv_at hl 0 rfl) ?_
                  refine lv_aload_n hx hb dX9_foretold_237 rfl (lv_at hl 1 rfl) ?_
                  refine va_get (D := D) (ci := 9) (v := .long w_16) (C := RX9) (T := TX9) (N := 68) hx hb htb iX9 hown hK.1 hP 0 rfl rfl 27 (by decide) (htb _ k_985) (fun _ h9 => h9) rfl dX9_foretold_238 ?_
                  refine lv_lmul hx hb dX9_foretold_241 ?_
                  refine lv_topl (fun z_241 ez_241 => ?_)
                  refine lv_lsub hx hb dX9_foretold_242 ?_
                  refine lv_topl (fun z_242 ez_242 => ?_)
                  refine lv_lmul hx hb dX9_foretold_243 ?_
                  refine lv_topl (fun z_243 ez_243 => ?_)
                  refine lv_aload_n hx hb dX9_foretold_244 rfl (lv_at hl 1 rfl) ?_
                  refine va_get (D := D) (ci := 9) (v := .long w_16) (C := RX9) (T := TX9) (N := 68) hx hb htb iX9 hown hK.1 hP 0 rfl rfl 27 (by decide) (htb _ k_985) (fun _ h9 => h9) rfl dX9_foretold_245 ?_
                  refine lv_ldiv hx hb dX9_foretold_248 lc_27 ?_
                  refine lv_topl (fun z_244 ez_244 => ?_)
                  refine lv_ladd hx hb dX9_foretold_249 ?_
                  refine lv_topl (fun z_245 ez_245 => ?_)
                  refine lv_lstore (lv' := [(8, .long z_245), (6, .long r_230), (0, .ref mh), (1, .int p0), (2, .int p1), (3, .int p2), (4, .int p3), (5, .int p4)]) hx hb dX9_foretold_250 hl (by decide) rfl (fun ls hl => ?_)
                  refine lv_lload hx hb dX9_foretold_252 (lv_at hl 0 rfl) ?_
                  refine lv_ldc2 hx hb hown (htb _ k_1317) dX9_foretold_254 ?_
                  refine W.lcmp hx hb dX9_foretold_257 ?_
                  refine lv_topi (fun z_246 ez_246 => ?_)
                  refine lv_if_gt (tgt := 270) hx hb dX9_foretold_258 (by decide) (fun c_247 => ?_) (fun c_247 => ?_)
                  ·
                    have lc_248 : ((2000000000) : Int64).toInt < (z_245 : Int64).toInt := lc_gtI (by rw [← ez_246]; first | exact Or.inl c_247 | exact Or.inr c_247)
                    refine lv_ldc hx hb hown (htb _ k_1205) dX9_foretold_270 ?_
                    refine lv_goto (tgt := 278) hx hb dX9_foretold_272 (by decide) ?_
                    have hP9 := hP.sub (ws' := [(mh, .inr (9, G9 ma mcode mtoday moffs w_16 w_21 w_17 w_20 w_24 w_22 w_18 w_23 w_19 w_20 w_16 mrates mtaped mlaid mat mtk mtkAt mtkNumber mwaits mlisted mdealtMany)), ((ma 2), .inl (E 0, 400, .inl mf2)), ((ma 3), .inl (E 0, 16, .inl mf3)), ((ma 4), .inl (E 0, 16, .inl mf4)), ((ma 5), .inl (E 1, 6400, .inl mf5)), ((ma 6), .inl (E 0, 6400, .inl mf6)), ((ma 7), .inl (E 0, 6400, .inl mf7)), ((ma 8), .inl (E 1, 6400, .inl mf8)), ((ma 9), .inl (E 1, 6400, .inl mf9)), ((ma 12), .inl (E 0, 60, .inl mf12)), ((ma 13), .inl (E 0, 60, .inl mf13)), ((ma 14), .inl (E 0, 60, .inl mf14)), ((ma 15), .inl (E 0, 60, .inl mf15)), ((ma 16), .inl (E 0, 60, .inl mf16))]) [0, 1, 2, 3, 4, 5, 6, 7, 8, 9, 10, 11, 12, 13] rfl
                    have hD9 := hD.sub (ws' := [(mh, .inr (9, G9 ma mcode mtoday moffs w_16 w_21 w_17 w_20 w_24 w_22 w_18 w_23 w_19 w_20 w_16 mrates mtaped mlaid mat mtk mtkAt mtkNumber mwaits mlisted mdealtMany)), ((ma 2), .inl (E 0, 400, .inl mf2)), ((ma 3), .inl (E 0, 16, .inl mf3)), ((ma 4), .inl (E 0, 16, .inl mf4)), ((ma 5), .inl (E 1, 6400, .inl mf5)), ((ma 6), .inl (E 0, 6400, .inl mf6)), ((ma 7), .inl (E 0, 6400, .inl mf7)), ((ma 8), .inl (E 1, 6400, .inl mf8)), ((ma 9), .inl (E 1, 6400, .inl mf9)), ((ma 12), .inl (E 0, 60, .inl mf12)), ((ma 13), .inl (E 0, 60, .inl mf13)), ((ma 14), .inl (E 0, 60, .inl mf14)), ((ma 15), .inl (E 0, 60, .inl mf15)), ((ma 16), .inl (E 0, 60, .inl mf16))]) [0, 1, 2, 3, 4, 5, 6, 7, 8, 9, 10, 11, 12, 13] (by decide) rfl
                    exact W.iret (v := (-2000000000)) hx hb hr (fun t ht hW => ⟨⟨(-2000000000), (w_16, w_16, w_17, w_18, w_19, w_20, w_21, w_22, w_23, w_24, w_20), rfl, (Or.inr (Or.inr ⟨⟨by have h9 := hw_2; omega, by have h9 := hw_2; omega, by omega, by omega⟩, by rw [← hw_14]; exact lc_27, (by have hu : uplM (fold9 (fun d => wmF mf3 mf4 mf2 p0 d) (fun d => agI mf8 (400 * p0.toInt).toNat d) (-1000) (rateL (fun d => ratF mf5 mf6 mf7 mf8 mf9 mf12 mf13 mf14 mf15 mf16 moffs p0 d (-1)) p1 (p2.toInt - p1.toInt).toNat)) p3 p4 = (w_16, w_20) := (by rw [← hw_14]; unfold uplM; (try dsimp only); first | (rw [if_pos hw_29.1, if_pos hw_29.2.1, if_pos hw_29.2.2]; rfl) | (rw [if_pos hw_29.1, if_pos hw_29.2.1, if_pos hw_29.2.2]; skip)); unfold FRM; rw [hu]; intro hlo; (try dsimp only at hlo ⊢); have h3 : (3000000 : Int64).toInt = 3000000 := (by decide); have h4 : (-3000000 : Int64).toInt = -3000000 := (by decide); have h5 : (2000000000 : Int64).toInt = 2000000000 := (by decide); have h6 : (-2000000000 : Int64).toInt = -2000000000 := (by decide); have q0 := lc_236; have q1 := lc_239; have q2 := lc_248; exact ⟨r_230, hw_231 hlo, Or.inr ⟨by omega, z_245, by subst_vars; rfl, Or.inl ⟨by omega, by have hv := t_m2000000000; omega⟩⟩⟩)⟩)), by rw [ht]; exact hP9, hD9⟩, hS.F ht⟩) hS.2.2 dX9_foretold_278
                  ·
                    have lc_249 : (z_245 : Int64).toInt ≤ ((2000000000) : Int64).toInt := lc_leI (by rw [← ez_246]; first | exact Or.inl c_247 | exact Or.inr c_247)
                    refine lv_lload hx hb dX9_foretold_261 (lv_at hl 0 rfl) ?_
                    refine lv_ldc2 hx hb hown (htb _ k_1281) dX9_foretold_263 ?_
                    refine W.lcmp hx hb dX9_foretold_266 ?_
                    refine lv_topi (fun z_250 ez_250 => ?_)
                    refine lv_if_ge (tgt := 275) hx hb dX9_foretold_267 (by decide) (fun c_251 => ?_) (fun c_251 => ?_)
                    ·
                      have lc_252 : ((-2000000000) : Int64).toInt ≤ (z_245 : Int64).toInt := lc_geI (by rw [← ez_250]; first | exact Or.inl c_251 | exact Or.inr c_251)
                      refine lv_lload hx hb dX9_foretold_275 (lv_at hl 0 rfl) ?_
                      obtain ⟨z_253, ez_253⟩ : ∃ y : Int32, (z_245 : Int64).toInt32 = y := ⟨_, rfl⟩
                      refine lv_l2i hx hb dX9_foretold_277 ez_253 ?_
                      have hP9 := hP.sub (ws' := [(mh, .inr (9, G9 ma mcode mtoday moffs w_16 w_21 w_17 w_20 w_24 w_22 w_18 w_23 w_19 w_20 w_16 mrates mtaped mlaid mat mtk mtkAt mtkNumber mwaits mlisted mdealtMany)), ((ma 2), .inl (E 0, 400, .inl mf2)), ((ma 3), .inl (E 0, 16, .inl mf3)), ((ma 4), .inl (E 0, 16, .inl mf4)), ((ma 5), .inl (E 1, 6400, .inl mf5)), ((ma 6), .inl (E 0, 6400, .inl mf6)), ((ma 7), .inl (E 0, 6400, .inl mf7)), ((ma 8), .inl (E 1, 6400, .inl mf8)), ((ma 9), .inl (E 1, 6400, .inl mf9)), ((ma 12), .inl (E 0, 60, .inl mf12)), ((ma 13), .inl (E 0, 60, .inl mf13)), ((ma 14), .inl (E 0, 60, .inl mf14)), ((ma 15), .inl (E 0, 60, .inl mf15)), ((ma 16), .inl (E 0, 60, .inl mf16))]) [0, 1, 2, 3, 4, 5, 6, 7, 8, 9, 10, 11, 12, 13] rfl
                      have hD9 := hD.sub (ws' := [(mh, .inr (9, G9 ma mcode mtoday moffs w_16 w_21 w_17 w_20 w_24 w_22 w_18 w_23 w_19 w_20 w_16 mrates mtaped mlaid mat mtk mtkAt mtkNumber mwaits mlisted mdealtMany)), ((ma 2), .inl (E 0, 400, .inl mf2)), ((ma 3), .inl (E 0, 16, .inl mf3)), ((ma 4), .inl (E 0, 16, .inl mf4)), ((ma 5), .inl (E 1, 6400, .inl mf5)), ((ma 6), .inl (E 0, 6400, .inl mf6)), ((ma 7), .inl (E 0, 6400, .inl mf7)), ((ma 8), .inl (E 1, 6400, .inl mf8)), ((ma 9), .inl (E 1, 6400, .inl mf9)), ((ma 12), .inl (E 0, 60, .inl mf12)), ((ma 13), .inl (E 0, 60, .inl mf13)), ((ma 14), .inl (E 0, 60, .inl mf14)), ((ma 15), .inl (E 0, 60, .inl mf15)), ((ma 16), .inl (E 0, 60, .inl mf16))]) [0, 1, 2, 3, 4, 5, 6, 7, 8, 9, 10, 11, 12, 13] (by decide) rfl
                      exact W.iret (v := z_253) hx hb hr (fun t ht hW => ⟨⟨z_253, (w_16, w_16, w_17, w_18, w_19, w_20, w_21, w_22, w_23, w_24, w_20), rfl, (Or.inr (Or.inr ⟨⟨by have h9 := hw_2; omega, by have h9 := hw_2; omega, by omega, by omega⟩, by rw [← hw_14]; exact lc_27, (by have hu : uplM (fold9 (fun d => wmF mf3 mf4 mf2 p0 d) (fun d => agI mf8 (400 * p0.toInt).toNat d) (-1000) (rateL (fun d => ratF mf5 mf6 mf7 mf8 mf9 mf12 mf13 mf14 mf15 mf16 moffs p0 d (-1)) p1 (p2.toInt - p1.toInt).toNat)) p3 p4 = (w_16, w_20) := (by rw [← hw_14]; unfold uplM; (try dsimp only); first | (rw [if_pos hw_29.1, if_pos hw_29.2.1, if_pos hw_29.2.2]; rfl) | (rw [if_pos hw_29.1, if_pos hw_29.2.1, if_pos hw_29.2.2]; skip)); unfold FRM; rw [hu]; intro hlo; (try dsimp only at hlo ⊢); have h3 : (3000000 : Int64).toInt = 3000000 := (by decide); have h4 : (-3000000 : Int64).toInt = -3000000 := (by decide); have h5 : (2000000000 : Int64).toInt = 2000000000 := (by decide); have h6 : (-2000000000 : Int64).toInt = -2000000000 := (by decide); have q0 := lc_236; have q1 := lc_239; have q2 := lc_249; have q3 := lc_252; exact ⟨r_230, hw_231 hlo, Or.inr ⟨by omega, z_245, by subst_vars; rfl, Or.inr ⟨by omega, ez_253.symm⟩⟩⟩)⟩)), by rw [ht]; exact hP9, hD9⟩, hS.F ht⟩) hS.2.2 dX9_foretold_278
                    ·
                      have lc_254 : (z_245 : Int64).toInt < ((-2000000000) : Int64).toInt := lc_ltI (by rw [← ez_250]; first | exact Or.inl c_251 | exact Or.inr c_251)
                      refine lv_ldc hx hb hown (htb _ k_1205) dX9_foretold_270 ?_
                      refine lv_goto (tgt := 278) hx hb dX9_foretold_272 (by decide) ?_
                      have hP9 := hP.sub (ws' := [(mh, .inr (9, G9 ma mcode mtoday moffs w_16 w_21 w_17 w_20 w_24 w_22 w_18 w_23 w_19 w_20 w_16 mrates mtaped mlaid mat mtk mtkAt mtkNumber mwaits mlisted mdealtMany)), ((ma 2), .inl (E 0, 400, .inl mf2)), ((ma 3), .inl (E 0, 16, .inl mf3)), ((ma 4), .inl (E 0, 16, .inl mf4)), ((ma 5), .inl (E 1, 6400, .inl mf5)), ((ma 6), .inl (E 0, 6400, .inl mf6)), ((ma 7), .inl (E 0, 6400, .inl mf7)), ((ma 8), .inl (E 1, 6400, .inl mf8)), ((ma 9), .inl (E 1, 6400, .inl mf9)), ((ma 12), .inl (E 0, 60, .inl mf12)), ((ma 13), .inl (E 0, 60, .inl mf13)), ((ma 14), .inl (E 0, 60, .inl mf14)), ((ma 15), .inl (E 0, 60, .inl mf15)), ((ma 16), .inl (E 0, 60, .inl mf16))]) [0, 1, 2, 3, 4, 5, 6, 7, 8, 9, 10, 11, 12, 13] rfl
                      have hD9 := hD.sub (ws' := [(mh, .inr (9, G9 ma mcode mtoday moffs w_16 w_21 w_17 w_20 w_24 w_22 w_18 w_23 w_19 w_20 w_16 mrates mtaped mlaid mat mtk mtkAt mtkNumber mwaits mlisted mdealtMany)), ((ma 2), .inl (E 0, 400, .inl mf2)), ((ma 3), .inl (E 0, 16, .inl mf3)), ((ma 4), .inl (E 0, 16, .inl mf4)), ((ma 5), .inl (E 1, 6400, .inl mf5)), ((ma 6), .inl (E 0, 6400, .inl mf6)), ((ma 7), .inl (E 0, 6400, .inl mf7)), ((ma 8), .inl (E 1, 6400, .inl mf8)), ((ma 9), .inl (E 1, 6400, .inl mf9)), ((ma 12), .inl (E 0, 60, .inl mf12)), ((ma 13), .inl (E 0, 60, .inl mf13)), ((ma 14), .inl (E 0, 60, .inl mf14)), ((ma 15), .inl (E 0, 60, .inl mf15)), ((ma 16), .inl (E 0, 60, .inl mf16))]) [0, 1, 2, 3, 4, 5, 6, 7, 8, 9, 10, 11, 12, 13] (by decide) rfl
                      exact W.iret (v := (-2000000000)) hx hb hr (fun t ht hW => ⟨⟨(-2000000000), (w_16, w_16, w_17, w_18, w_19, w_20, w_21, w_22, w_23, w_24, w_20), rfl, (Or.inr (Or.inr ⟨⟨by have h9 := hw_2; omega, by have h9 := hw_2; omega, by omega, by omega⟩, by rw [← hw_14]; exact lc_27, (by have hu : uplM (fold9 (fun d => wmF mf3 mf4 mf2 p0 d) (fun d => agI mf8 (400 * p0.toInt).toNat d) (-1000) (rateL (fun d => ratF mf5 mf6 mf7 mf8 mf9 mf12 mf13 mf14 mf15 mf16 moffs p0 d (-1)) p1 (p2.toInt - p1.toInt).toNat)) p3 p4 = (w_16, w_20) := (by rw [← hw_14]; unfold uplM; (try dsimp only); first | (rw [if_pos hw_29.1, if_pos hw_29.2.1, if_pos hw_29.2.2]; rfl) | (rw [if_pos hw_29.1, if_pos hw_29.2.1, if_pos hw_29.2.2]; skip)); unfold FRM; rw [hu]; intro hlo; (try dsimp only at hlo ⊢); have h3 : (3000000 : Int64).toInt = 3000000 := (by decide); have h4 : (-3000000 : Int64).toInt = -3000000 := (by decide); have h5 : (2000000000 : Int64).toInt = 2000000000 := (by decide); have h6 : (-2000000000 : Int64).toInt = -2000000000 := (by decide); have q0 := lc_236; have q1 := lc_239; have q2 := lc_249; have q3 := lc_254; exact ⟨r_230, hw_231 hlo, Or.inr ⟨by omega, z_245, by subst_vars; rfl, Or.inl ⟨by omega, by have hv := t_m2000000000; omega⟩⟩⟩)⟩)), by rw [ht]; exact hP9, hD9⟩, hS.F ht⟩) hS.2.2 dX9_foretold_278
                ·
                  have lc_255 : (r_230 : Int64).toInt < ((-3000000) : Int64).toInt := lc_ltI (by rw [← ez_237]; first | exact Or.inl c_238 | exact Or.inr c_238)
                  refine lv_ldc hx hb hown (htb _ k_1205) dX9_foretold_219 ?_
                  have hP9 := hP.sub (ws' := [(mh, .inr (9, G9 ma mcode mtoday moffs w_16 w_21 w_17 w_20 w_24 w_22 w_18 w_23 w_19 w_20 w_16 mrates mtaped mlaid mat mtk mtkAt mtkNumber mwaits mlisted mdealtMany)), ((ma 2), .inl (E 0, 400, .inl mf2)), ((ma 3), .inl (E 0, 16, .inl mf3)), ((ma 4), .inl (E 0, 16, .inl mf4)), ((ma 5), .inl (E 1, 6400, .inl mf5)), ((ma 6), .inl (E 0, 6400, .inl mf6)), ((ma 7), .inl (E 0, 6400, .inl mf7)), ((ma 8), .inl (E 1, 6400, .inl mf8)), ((ma 9), .inl (E 1, 6400, .inl mf9)), ((ma 12), .inl (E 0, 60, .inl mf12)), ((ma 13), .inl (E 0, 60, .inl mf13)), ((ma 14), .inl (E 0, 60, .inl mf14)), ((ma 15), .inl (E 0, 60, .inl mf15)), ((ma 16), .inl (E 0, 60, .inl mf16))]) [0, 1, 2, 3, 4, 5, 6, 7, 8, 9, 10, 11, 12, 13] rfl
                  have hD9 := hD.sub (ws' := [(mh, .inr (9, G9 ma mcode mtoday moffs w_16 w_21 w_17 w_20 w_24 w_22 w_18 w_23 w_19 w_20 w_16 mrates mtaped mlaid mat mtk mtkAt mtkNumber mwaits mlisted mdealtMany)), ((ma 2), .inl (E 0, 400, .inl mf2)), ((ma 3), .inl (E 0, 16, .inl mf3)), ((ma 4), .inl (E 0, 16, .inl mf4)), ((ma 5), .inl (E 1, 6400, .inl mf5)), ((ma 6), .inl (E 0, 6400, .inl mf6)), ((ma 7), .inl (E 0, 6400, .inl mf7)), ((ma 8), .inl (E 1, 6400, .inl mf8)), ((ma 9), .inl (E 1, 6400, .inl mf9)), ((ma 12), .inl (E 0, 60, .inl mf12)), ((ma 13), .inl (E 0, 60, .inl mf13)), ((ma 14), .inl (E 0, 60, .inl mf14)), ((ma 15), .inl (E 0, 60, .inl mf15)), ((ma 16), .inl (E 0, 60, .inl mf16))]) [0, 1, 2, 3, 4, 5, 6, 7, 8, 9, 10, 11, 12, 13] (by decide) rfl
                  exact W.iret (v := (-2000000000)) hx hb hr (fun t ht hW => ⟨⟨(-2000000000), (w_16, w_16, w_17, w_18, w_19, w_20, w_21, w_22, w_23, w_24, w_20), rfl, (Or.inr (Or.inr ⟨⟨by have h9 := hw_2; omega, by have h9 := hw_2; omega, by omega, by omega⟩, by rw [← hw_14]; exact lc_27, (by have hu : uplM (fold9 (fun d => wmF mf3 mf4 mf2 p0 d) (fun d => agI mf8 (400 * p0.toInt).toNat d) (-1000) (rateL (fun d => ratF mf5 mf6 mf7 mf8 mf9 mf12 mf13 mf14 mf15 mf16 moffs p0 d (-1)) p1 (p2.toInt - p1.toInt).toNat)) p3 p4 = (w_16, w_20) := (by rw [← hw_14]; unfold uplM; (try dsimp only); first | (rw [if_pos hw_29.1, if_pos hw_29.2.1, if_pos hw_29.2.2]; rfl) | (rw [if_pos hw_29.1, if_pos hw_29.2.1, if_pos hw_29.2.2]; skip)); unfold FRM; rw [hu]; intro hlo; (try dsimp only at hlo ⊢); have h3 : (3000000 : Int64).toInt = 3000000 := (by decide); have h4 : (-3000000 : Int64).toInt = -3000000 := (by decide); have h5 : (2000000000 : Int64).toInt = 2000000000 := (by decide); have h6 : (-2000000000 : Int64).toInt = -2000000000 := (by decide); have q0 := lc_236; have q1 := lc_255; exact ⟨r_230, hw_231 hlo, Or.inl ⟨by omega, by have hv := t_m2000000000; omega⟩⟩)⟩)), by rw [ht]; exact hP9, hD9⟩, hS.F ht⟩) hS.2.2 dX9_foretold_221
            ·
              have lc_256 : (w_16 : Int64).toInt < (0 : Int64).toInt := lc_ltI (by rw [← ez_227]; first | exact Or.inl c_228 | exact Or.inr c_228)
              refine lv_aload_n hx hb dX9_foretold_170 rfl (lv_at hl 0 rfl) ?_
              refine lv_aload_n hx hb dX9_foretold_171 rfl (lv_at hl 0 rfl) ?_
              refine va_get (D := D) (ci := 9) (v := .long w_16) (C := RX9) (T := TX9) (N := 68) hx hb htb iX9 hown hK.1 hP 0 rfl rfl 27 (by decide) (htb _ k_985) (fun _ h9 => h9) rfl dX9_foretold_172 ?_
              refine lv_lneg hx hb dX9_foretold_175 ?_
              refine lv_topl (fun z_257 ez_257 => ?_)
              have nz_257 : ¬ z_257 = 0 := neg_nz ez_257 lc_27
              refine va_put (D := D) (ci := 9) (v := .long z_257) (ty := .long) (C := RX9) (T := TX9) (N := 68) hx hb htb iX9 tyX9 tyX9_ok nmX9 hown hK.1 hP hD hS 0 rfl rfl 27 (by decide) (htb _ k_985) (fun _ h9 => h9) rfl (by decide +kernel) rfl rfl (Nat.le_of_ble_eq_true rfl) dX9_foretold_176 (fun H locs hP hD hS => ?_)
              have hP : va_P D vwCl [(mh, .inr (9, G9 ma mcode mtoday moffs w_16 w_21 w_17 w_20 w_24 w_22 w_18 w_23 w_19 w_20 z_257 mrates mtaped mlaid mat mtk mtkAt mtkNumber mwaits mlisted mdealtMany)), ((ma 2), .inl (E 0, 400, .inl mf2)), ((ma 3), .inl (E 0, 16, .inl mf3)), ((ma 4), .inl (E 0, 16, .inl mf4)), ((ma 5), .inl (E 1, 6400, .inl mf5)), ((ma 6), .inl (E 0, 6400, .inl mf6)), ((ma 7), .inl (E 0, 6400, .inl mf7)), ((ma 8), .inl (E 1, 6400, .inl mf8)), ((ma 9), .inl (E 1, 6400, .inl mf9)), ((ma 12), .inl (E 0, 60, .inl mf12)), ((ma 13), .inl (E 0, 60, .inl mf13)), ((ma 14), .inl (E 0, 60, .inl mf14)), ((ma 15), .inl (E 0, 60, .inl mf15)), ((ma 16), .inl (E 0, 60, .inl mf16))] H := hP
              have hD := toW hP hD rfl
              refine lv_aload_n hx hb dX9_foretold_179 rfl (lv_at hl 0 rfl) ?_
              refine lv_aload_n hx hb dX9_foretold_180 rfl (lv_at hl 0 rfl) ?_
              refine va_get (D := D) (ci := 9) (v := .long w_20) (C := RX9) (T := TX9) (N := 68) hx hb htb iX9 hown hK.1 hP 0 rfl rfl 26 (by decide) (htb _ k_984) (fun _ h9 => h9) rfl dX9_foretold_181 ?_
              refine lv_lneg hx hb dX9_foretold_184 ?_
              refine lv_topl (fun z_258 ez_258 => ?_)
              refine va_put (D := D) (ci := 9) (v := .long z_258) (ty := .long) (C := RX9) (T := TX9) (N := 68) hx hb htb iX9 tyX9 tyX9_ok nmX9 hown hK.1 hP hD hS 0 rfl rfl 26 (by decide) (htb _ k_984) (fun _ h9 => h9) rfl (by decide +kernel) rfl rfl (Nat.le_of_ble_eq_true rfl) dX9_foretold_185 (fun H locs hP hD hS => ?_)
              have hP : va_P D vwCl [(mh, .inr (9, G9 ma mcode mtoday moffs w_16 w_21 w_17 w_20 w_24 w_22 w_18 w_23 w_19 z_258 z_257 mrates mtaped mlaid mat mtk mtkAt mtkNumber mwaits mlisted mdealtMany)), ((ma 2), .inl (E 0, 400, .inl mf2)), ((ma 3), .inl (E 0, 16, .inl mf3)), ((ma 4), .inl (E 0, 16, .inl mf4)), ((ma 5), .inl (E 1, 6400, .inl mf5)), ((ma 6), .inl (E 0, 6400, .inl mf6)), ((ma 7), .inl (E 0, 6400, .inl mf7)), ((ma 8), .inl (E 1, 6400, .inl mf8)), ((ma 9), .inl (E 1, 6400, .inl mf9)), ((ma 12), .inl (E 0, 60, .inl mf12)), ((ma 13), .inl (E 0, 60, .inl mf13)), ((ma 14), .inl (E 0, 60, .inl mf14)), ((ma 15), .inl (E 0, 60, .inl mf15)), ((ma 16), .inl (E 0, 60, .inl mf16))] H := hP
              have hD := toW hP hD rfl
              refine lv_aload_n hx hb dX9_foretold_188 rfl (lv_at hl 0 rfl) ?_
              refine va_get (D := D) (ci := 9) (v := .long z_258) (C := RX9) (T := TX9) (N := 68) hx hb htb iX9 hown hK.1 hP 0 rfl rfl 26 (by decide) (htb _ k_984) (fun _ h9 => h9) rfl dX9_foretold_189 ?_
              refine lv_aload_n hx hb dX9_foretold_192 rfl (lv_at hl 0 rfl) ?_
              refine va_get (D := D) (ci := 9) (v := .long z_257) (C := RX9) (T := TX9) (N := 68) hx hb htb iX9 hown hK.1 hP 0 rfl rfl 27 (by decide) (htb _ k_985) (fun _ h9 => h9) rfl dX9_foretold_193 ?_
              refine callLS (rest := []) (As := [.long z_258, .long z_257]) hx hb hml hown htb hK (g_X9_floor l D E z_258 z_257 nz_257) ok_X9_floor k_1311 k_1312 k_9 k_1313 ⟨(Nat.le_of_ble_eq_true rfl), (Nat.le_of_ble_eq_true rfl)⟩ ⟨(Nat.le_of_ble_eq_true rfl), (Nat.le_of_ble_eq_true rfl)⟩ hl.1 (Nat.le_of_ble_eq_true rfl) rfl rfl dX9_foretold_196 (hP.sub (ws' := ([] : va_W)) [] rfl) (fun r_259 hw_260 => ?_)
              refine lv_lstore (lv' := [(6, .long r_259), (0, .ref mh), (1, .int p0), (2, .int p1), (3, .int p2), (4, .int p3), (5, .int p4)]) hx hb dX9_foretold_199 hl (by decide) rfl (fun ls hl => ?_)
              refine lv_lload hx hb dX9_foretold_201 (lv_at hl 0 rfl) ?_
              refine lv_ldc2 hx hb hown (htb _ k_1314) dX9_foretold_203 ?_
              refine W.lcmp hx hb dX9_foretold_206 ?_
              refine lv_topi (fun z_262 ez_262 => ?_)
              refine lv_if_gt (tgt := 219) hx hb dX9_foretold_207 (by decide) (fun c_263 => ?_) (fun c_263 => ?_)
              ·
                have lc_264 : ((3000000) : Int64).toInt < (r_259 : Int64).toInt := lc_gtI (by rw [← ez_262]; first | exact Or.inl c_263 | exact Or.inr c_263)
                refine lv_ldc hx hb hown (htb _ k_1205) dX9_foretold_219 ?_
                have hP9 := hP.sub (ws' := [(mh, .inr (9, G9 ma mcode mtoday moffs w_16 w_21 w_17 w_20 w_24 w_22 w_18 w_23 w_19 z_258 z_257 mrates mtaped mlaid mat mtk mtkAt mtkNumber mwaits mlisted mdealtMany)), ((ma 2), .inl (E 0, 400, .inl mf2)), ((ma 3), .inl (E 0, 16, .inl mf3)), ((ma 4), .inl (E 0, 16, .inl mf4)), ((ma 5), .inl (E 1, 6400, .inl mf5)), ((ma 6), .inl (E 0, 6400, .inl mf6)), ((ma 7), .inl (E 0, 6400, .inl mf7)), ((ma 8), .inl (E 1, 6400, .inl mf8)), ((ma 9), .inl (E 1, 6400, .inl mf9)), ((ma 12), .inl (E 0, 60, .inl mf12)), ((ma 13), .inl (E 0, 60, .inl mf13)), ((ma 14), .inl (E 0, 60, .inl mf14)), ((ma 15), .inl (E 0, 60, .inl mf15)), ((ma 16), .inl (E 0, 60, .inl mf16))]) [0, 1, 2, 3, 4, 5, 6, 7, 8, 9, 10, 11, 12, 13] rfl
                have hD9 := hD.sub (ws' := [(mh, .inr (9, G9 ma mcode mtoday moffs w_16 w_21 w_17 w_20 w_24 w_22 w_18 w_23 w_19 z_258 z_257 mrates mtaped mlaid mat mtk mtkAt mtkNumber mwaits mlisted mdealtMany)), ((ma 2), .inl (E 0, 400, .inl mf2)), ((ma 3), .inl (E 0, 16, .inl mf3)), ((ma 4), .inl (E 0, 16, .inl mf4)), ((ma 5), .inl (E 1, 6400, .inl mf5)), ((ma 6), .inl (E 0, 6400, .inl mf6)), ((ma 7), .inl (E 0, 6400, .inl mf7)), ((ma 8), .inl (E 1, 6400, .inl mf8)), ((ma 9), .inl (E 1, 6400, .inl mf9)), ((ma 12), .inl (E 0, 60, .inl mf12)), ((ma 13), .inl (E 0, 60, .inl mf13)), ((ma 14), .inl (E 0, 60, .inl mf14)), ((ma 15), .inl (E 0, 60, .inl mf15)), ((ma 16), .inl (E 0, 60, .inl mf16))]) [0, 1, 2, 3, 4, 5, 6, 7, 8, 9, 10, 11, 12, 13] (by decide) rfl
                exact W.iret (v := (-2000000000)) hx hb hr (fun t ht hW => ⟨⟨(-2000000000), (z_257, w_16, w_17, w_18, w_19, w_20, w_21, w_22, w_23, w_24, z_258), rfl, (Or.inr (Or.inr ⟨⟨by have h9 := hw_2; omega, by have h9 := hw_2; omega, by omega, by omega⟩, by rw [← hw_14]; exact lc_27, (by have hu : uplM (fold9 (fun d => wmF mf3 mf4 mf2 p0 d) (fun d => agI mf8 (400 * p0.toInt).toNat d) (-1000) (rateL (fun d => ratF mf5 mf6 mf7 mf8 mf9 mf12 mf13 mf14 mf15 mf16 moffs p0 d (-1)) p1 (p2.toInt - p1.toInt).toNat)) p3 p4 = (w_16, w_20) := (by rw [← hw_14]; unfold uplM; (try dsimp only); first | (rw [if_pos hw_29.1, if_pos hw_29.2.1, if_pos hw_29.2.2]; rfl) | (rw [if_pos hw_29.1, if_pos hw_29.2.1, if_pos hw_29.2.2]; skip)); unfold FRM; rw [hu]; intro hlo; exfalso; have h0 : (0 : Int64).toInt = 0 := (by decide); have h9 := lc_256; (try dsimp only at hlo); omega)⟩)), by rw [ht]; exact hP9, hD9⟩, hS.F ht⟩) hS.2.2 dX9_foretold_221
              ·
                have lc_265 : (r_259 : Int64).toInt ≤ ((3000000) : Int64).toInt := lc_leI (by rw [← ez_262]; first | exact Or.inl c_263 | exact Or.inr c_263)
                refine lv_lload hx hb dX9_foretold_210 (lv_at hl 0 rfl) ?_
                refine lv_ldc2 hx hb hown (htb _ k_1315) dX9_foretold_212 ?_
                refine W.lcmp hx hb dX9_foretold_215 ?_
                refine lv_topi (fun z_266 ez_266 => ?_)
                refine lv_if_ge (tgt := 222) hx hb dX9_foretold_216 (by decide) (fun c_267 => ?_) (fun c_267 => ?_)
                ·
                  have lc_268 : ((-3000000) : Int64).toInt ≤ (r_259 : Int64).toInt := lc_geI (by rw [← ez_266]; first | exact Or.inl c_267 | exact Or.inr c_267)
                  refine lv_ldc2 hx hb hown (htb _ k_1316) dX9_foretold_222 ?_
                  refine lv_lload hx hb dX9_foretold_225 (lv_at hl 0 rfl) ?_
                  refine lv_lmul hx hb dX9_foretold_227 ?_
                  refine lv_topl (fun z_269 ez_269 => ?_)
                  refine lv_ldc2 hx hb hown (htb _ k_1316) dX9_foretold_228 ?_
                  refine lv_aload_n hx hb dX9_foretold_231 rfl (lv_at hl 1 rfl) ?_
                  refine va_get (D := D) (ci := 9) (v := .long z_258) (C := RX9) (T := TX9) (N := 68) hx hb htb iX9 hown hK.1 hP 0 rfl rfl 26 (by decide) (htb _ k_984) (fun _ h9 => h9) rfl dX9_foretold_232 ?_
                  refine lv_lload hx hb dX9_foretold_235 (lv_at hl 0 rfl) ?_
                  refine lv_aload_n hx hb dX9_foretold_237 rfl (lv_at hl 1 rfl) ?_
                  refine va_get (D := D) (ci := 9) (v := .long z_257) (C := RX9) (T := TX9) (N := 68) hx hb htb iX9 hown hK.1 hP 0 rfl rfl 27 (by decide) (htb _ k_985) (fun _ h9 => h9) rfl dX9_foretold_238 ?_
                  refine lv_lmul hx hb dX9_foretold_241 ?_
                  refine lv_topl (fun z_270 ez_270 => ?_)
                  refine lv_lsub hx hb dX9_foretold_242 ?_
                  refine lv_topl (fun z_271 ez_271 => ?_)
                  refine lv_lmul hx hb dX9_foretold_243 ?_
                  refine lv_topl (fun z_272 ez_272 => ?_)
                  refine lv_aload_n hx hb dX9_foretold_244 rfl (lv_at hl 1 rfl) ?_
                  refine va_get (D := D) (ci := 9) (v := .long z_257) (C := RX9) (T := TX9) (N := 68) hx hb htb iX9 hown hK.1 hP 0 rfl rfl 27 (by decide) (htb _ k_985) (fun _ h9 => h9) rfl dX9_foretold_245 ?_
                  refine lv_ldiv hx hb dX9_foretold_248 nz_257 ?_
                  refine lv_topl (fun z_273 ez_273 => ?_)
                  refine lv_ladd hx hb dX9_foretold_249 ?_
                  refine lv_topl (fun z_274 ez_274 => ?_)
                  refine lv_lstore (lv' := [(8, .long z_274), (6, .long r_259), (0, .ref mh), (1, .int p0), (2, .int p1), (3, .int p2), (4, .int p3), (5, .int p4)]) hx hb dX9_foretold_250 hl (by decide) rfl (fun ls hl => ?_)
                  refine lv_lload hx hb dX9_foretold_252 (lv_at hl 0 rfl) ?_
                  refine lv_ldc2 hx hb hown (htb _ k_1317) dX9_foretold_254 ?_
                  refine W.lcmp hx hb dX9_foretold_257 ?_
                  refine lv_topi (fun z_275 ez_275 => ?_)
                  refine lv_if_gt (tgt := 270) hx hb dX9_foretold_258 (by decide) (fun c_276 => ?_) (fun c_276 => ?_)
                  ·
                    have lc_277 : ((2000000000) : Int64).toInt < (z_274 : Int64).toInt := lc_gtI (by rw [← ez_275]; first | exact Or.inl c_276 | exact Or.inr c_276)
                    refine lv_ldc hx hb hown (htb _ k_1205) dX9_foretold_270 ?_
                    refine lv_goto (tgt := 278) hx hb dX9_foretold_272 (by decide) ?_
                    have hP9 := hP.sub (ws' := [(mh, .inr (9, G9 ma mcode mtoday moffs w_16 w_21 w_17 w_20 w_24 w_22 w_18 w_23 w_19 z_258 z_257 mrates mtaped mlaid mat mtk mtkAt mtkNumber mwaits mlisted mdealtMany)), ((ma 2), .inl (E 0, 400, .inl mf2)), ((ma 3), .inl (E 0, 16, .inl mf3)), ((ma 4), .inl (E 0, 16, .inl mf4)), ((ma 5), .inl (E 1, 6400, .inl mf5)), ((ma 6), .inl (E 0, 6400, .inl mf6)), ((ma 7), .inl (E 0, 6400, .inl mf7)), ((ma 8), .inl (E 1, 6400, .inl mf8)), ((ma 9), .inl (E 1, 6400, .inl mf9)), ((ma 12), .inl (E 0, 60, .inl mf12)), ((ma 13), .inl (E 0, 60, .inl mf13)), ((ma 14), .inl (E 0, 60, .inl mf14)), ((ma 15), .inl (E 0, 60, .inl mf15)), ((ma 16), .inl (E 0, 60, .inl mf16))]) [0, 1, 2, 3, 4, 5, 6, 7, 8, 9, 10, 11, 12, 13] rfl
                    have hD9 := hD.sub (ws' := [(mh, .inr (9, G9 ma mcode mtoday moffs w_16 w_21 w_17 w_20 w_24 w_22 w_18 w_23 w_19 z_258 z_257 mrates mtaped mlaid mat mtk mtkAt mtkNumber mwaits mlisted mdealtMany)), ((ma 2), .inl (E 0, 400, .inl mf2)), ((ma 3), .inl (E 0, 16, .inl mf3)), ((ma 4), .inl (E 0, 16, .inl mf4)), ((ma 5), .inl (E 1, 6400, .inl mf5)), ((ma 6), .inl (E 0, 6400, .inl mf6)), ((ma 7), .inl (E 0, 6400, .inl mf7)), ((ma 8), .inl (E 1, 6400, .inl mf8)), ((ma 9), .inl (E 1, 6400, .inl mf9)), ((ma 12), .inl (E 0, 60, .inl mf12)), ((ma 13), .inl (E 0, 60, .inl mf13)), ((ma 14), .inl (E 0, 60, .inl mf14)), ((ma 15), .inl (E 0, 60, .inl mf15)), ((ma 16), .inl (E 0, 60, .inl mf16))]) [0, 1, 2, 3, 4, 5, 6, 7, 8, 9, 10, 11, 12, 13] (by decide) rfl
                    exact W.iret (v := (-2000000000)) hx hb hr (fun t ht hW => ⟨⟨(-2000000000), (z_257, w_16, w_17, w_18, w_19, w_20, w_21, w_22, w_23, w_24, z_258), rfl, (Or.inr (Or.inr ⟨⟨by have h9 := hw_2; omega, by have h9 := hw_2; omega, by omega, by omega⟩, by rw [← hw_14]; exact lc_27, (by have hu : uplM (fold9 (fun d => wmF mf3 mf4 mf2 p0 d) (fun d => agI mf8 (400 * p0.toInt).toNat d) (-1000) (rateL (fun d => ratF mf5 mf6 mf7 mf8 mf9 mf12 mf13 mf14 mf15 mf16 moffs p0 d (-1)) p1 (p2.toInt - p1.toInt).toNat)) p3 p4 = (w_16, w_20) := (by rw [← hw_14]; unfold uplM; (try dsimp only); first | (rw [if_pos hw_29.1, if_pos hw_29.2.1, if_pos hw_29.2.2]; rfl) | (rw [if_pos hw_29.1, if_pos hw_29.2.1, if_pos hw_29.2.2]; skip)); unfold FRM; rw [hu]; intro hlo; exfalso; have h0 : (0 : Int64).toInt = 0 := (by decide); have h9 := lc_256; (try dsimp only at hlo); omega)⟩)), by rw [ht]; exact hP9, hD9⟩, hS.F ht⟩) hS.2.2 dX9_foretold_278
                  ·
                    have lc_278 : (z_274 : Int64).toInt ≤ ((2000000000) : Int64).toInt := lc_leI (by rw [← ez_275]; first | exact Or.inl c_276 | exact Or.inr c_276)
                    refine lv_lload hx hb dX9_foretold_261 (lv_at hl 0 rfl) ?_
                    refine lv_ldc2 hx hb hown (htb _ k_1281) dX9_foretold_263 ?_
                    refine W.lcmp hx hb dX9_foretold_266 ?_
                    refine lv_topi (fun z_279 ez_279 => ?_)
                    refine lv_if_ge (tgt := 275) hx hb dX9_foretold_267 (by decide) (fun c_280 => ?_) (fun c_280 => ?_)
                    ·
                      have lc_281 : ((-2000000000) : Int64).toInt ≤ (z_274 : Int64).toInt := lc_geI (by rw [← ez_279]; first | exact Or.inl c_280 | exact Or.inr c_280)
                      refine lv_lload hx hb dX9_foretold_275 (lv_at hl 0 rfl) ?_
                      obtain ⟨z_282, ez_282⟩ : ∃ y : Int32, (z_274 : Int64).toInt32 = y := ⟨_, rfl⟩
                      refine lv_l2i hx hb dX9_foretold_277 ez_282 ?_
                      have hP9 := hP.sub (ws' := [(mh, .inr (9, G9 ma mcode mtoday moffs w_16 w_21 w_17 w_20 w_24 w_22 w_18 w_23 w_19 z_258 z_257 mrates mtaped mlaid mat mtk mtkAt mtkNumber mwaits mlisted mdealtMany)), ((ma 2), .inl (E 0, 400, .inl mf2)), ((ma 3), .inl (E 0, 16, .inl mf3)), ((ma 4), .inl (E 0, 16, .inl mf4)), ((ma 5), .inl (E 1, 6400, .inl mf5)), ((ma 6), .inl (E 0, 6400, .inl mf6)), ((ma 7), .inl (E 0, 6400, .inl mf7)), ((ma 8), .inl (E 1, 6400, .inl mf8)), ((ma 9), .inl (E 1, 6400, .inl mf9)), ((ma 12), .inl (E 0, 60, .inl mf12)), ((ma 13), .inl (E 0, 60, .inl mf13)), ((ma 14), .inl (E 0, 60, .inl mf14)), ((ma 15), .inl (E 0, 60, .inl mf15)), ((ma 16), .inl (E 0, 60, .inl mf16))]) [0, 1, 2, 3, 4, 5, 6, 7, 8, 9, 10, 11, 12, 13] rfl
                      have hD9 := hD.sub (ws' := [(mh, .inr (9, G9 ma mcode mtoday moffs w_16 w_21 w_17 w_20 w_24 w_22 w_18 w_23 w_19 z_258 z_257 mrates mtaped mlaid mat mtk mtkAt mtkNumber mwaits mlisted mdealtMany)), ((ma 2), .inl (E 0, 400, .inl mf2)), ((ma 3), .inl (E 0, 16, .inl mf3)), ((ma 4), .inl (E 0, 16, .inl mf4)), ((ma 5), .inl (E 1, 6400, .inl mf5)), ((ma 6), .inl (E 0, 6400, .inl mf6)), ((ma 7), .inl (E 0, 6400, .inl mf7)), ((ma 8), .inl (E 1, 6400, .inl mf8)), ((ma 9), .inl (E 1, 6400, .inl mf9)), ((ma 12), .inl (E 0, 60, .inl mf12)), ((ma 13), .inl (E 0, 60, .inl mf13)), ((ma 14), .inl (E 0, 60, .inl mf14)), ((ma 15), .inl (E 0, 60, .inl mf15)), ((ma 16), .inl (E 0, 60, .inl mf16))]) [0, 1, 2, 3, 4, 5, 6, 7, 8, 9, 10, 11, 12, 13] (by decide) rfl
                      exact W.iret (v := z_282) hx hb hr (fun t ht hW => ⟨⟨z_282, (z_257, w_16, w_17, w_18, w_19, w_20, w_21, w_22, w_23, w_24, z_258), rfl, (Or.inr (Or.inr ⟨⟨by have h9 := hw_2; omega, by have h9 := hw_2; omega, by omega, by omega⟩, by rw [← hw_14]; exact lc_27, (by have hu : uplM (fold9 (fun d => wmF mf3 mf4 mf2 p0 d) (fun d => agI mf8 (400 * p0.toInt).toNat d) (-1000) (rateL (fun d => ratF mf5 mf6 mf7 mf8 mf9 mf12 mf13 mf14 mf15 mf16 moffs p0 d (-1)) p1 (p2.toInt - p1.toInt).toNat)) p3 p4 = (w_16, w_20) := (by rw [← hw_14]; unfold uplM; (try dsimp only); first | (rw [if_pos hw_29.1, if_pos hw_29.2.1, if_pos hw_29.2.2]; rfl) | (rw [if_pos hw_29.1, if_pos hw_29.2.1, if_pos hw_29.2.2]; skip)); unfold FRM; rw [hu]; intro hlo; exfalso; have h0 : (0 : Int64).toInt = 0 := (by decide); have h9 := lc_256; (try dsimp only at hlo); omega)⟩)), by rw [ht]; exact hP9, hD9⟩, hS.F ht⟩) hS.2.2 dX9_foretold_278
                    ·
                      have lc_283 : (z_274 : Int64).toInt < ((-2000000000) : Int64).toInt := lc_ltI (by rw [← ez_279]; first | exact Or.inl c_280 | exact Or.inr c_280)
                      refine lv_ldc hx hb hown (htb _ k_1205) dX9_foretold_270 ?_
                      refine lv_goto (tgt := 278) hx hb dX9_foretold_272 (by decide) ?_
                      have hP9 := hP.sub (ws' := [(mh, .inr (9, G9 ma mcode mtoday moffs w_16 w_21 w_17 w_20 w_24 w_22 w_18 w_23 w_19 z_258 z_257 mrates mtaped mlaid mat mtk mtkAt mtkNumber mwaits mlisted mdealtMany)), ((ma 2), .inl (E 0, 400, .inl mf2)), ((ma 3), .inl (E 0, 16, .inl mf3)), ((ma 4), .inl (E 0, 16, .inl mf4)), ((ma 5), .inl (E 1, 6400, .inl mf5)), ((ma 6), .inl (E 0, 6400, .inl mf6)), ((ma 7), .inl (E 0, 6400, .inl mf7)), ((ma 8), .inl (E 1, 6400, .inl mf8)), ((ma 9), .inl (E 1, 6400, .inl mf9)), ((ma 12), .inl (E 0, 60, .inl mf12)), ((ma 13), .inl (E 0, 60, .inl mf13)), ((ma 14), .inl (E 0, 60, .inl mf14)), ((ma 15), .inl (E 0, 60, .inl mf15)), ((ma 16), .inl (E 0, 60, .inl mf16))]) [0, 1, 2, 3, 4, 5, 6, 7, 8, 9, 10, 11, 12, 13] rfl
                      have hD9 := hD.sub (ws' := [(mh, .inr (9, G9 ma mcode mtoday moffs w_16 w_21 w_17 w_20 w_24 w_22 w_18 w_23 w_19 z_258 z_257 mrates mtaped mlaid mat mtk mtkAt mtkNumber mwaits mlisted mdealtMany)), ((ma 2), .inl (E 0, 400, .inl mf2)), ((ma 3), .inl (E 0, 16, .inl mf3)), ((ma 4), .inl (E 0, 16, .inl mf4)), ((ma 5), .inl (E 1, 6400, .inl mf5)), ((ma 6), .inl (E 0, 6400, .inl mf6)), ((ma 7), .inl (E 0, 6400, .inl mf7)), ((ma 8), .inl (E 1, 6400, .inl mf8)), ((ma 9), .inl (E 1, 6400, .inl mf9)), ((ma 12), .inl (E 0, 60, .inl mf12)), ((ma 13), .inl (E 0, 60, .inl mf13)), ((ma 14), .inl (E 0, 60, .inl mf14)), ((ma 15), .inl (E 0, 60, .inl mf15)), ((ma 16), .inl (E 0, 60, .inl mf16))]) [0, 1, 2, 3, 4, 5, 6, 7, 8, 9, 10, 11, 12, 13] (by decide) rfl
                      exact W.iret (v := (-2000000000)) hx hb hr (fun t ht hW => ⟨⟨(-2000000000), (z_257, w_16, w_17, w_18, w_19, w_20, w_21, w_22, w_23, w_24, z_258), rfl, (Or.inr (Or.inr ⟨⟨by have h9 := hw_2; omega, by have h9 := hw_2; omega, by omega, by omega⟩, by rw [← hw_14]; exact lc_27, (by have hu : uplM (fold9 (fun d => wmF mf3 mf4 mf2 p0 d) (fun d => agI mf8 (400 * p0.toInt).toNat d) (-1000) (rateL (fun d => ratF mf5 mf6 mf7 mf8 mf9 mf12 mf13 mf14 mf15 mf16 moffs p0 d (-1)) p1 (p2.toInt - p1.toInt).toNat)) p3 p4 = (w_16, w_20) := (by rw [← hw_14]; unfold uplM; (try dsimp only); first | (rw [if_pos hw_29.1, if_pos hw_29.2.1, if_pos hw_29.2.2]; rfl) | (rw [if_pos hw_29.1, if_pos hw_29.2.1, if_pos hw_29.2.2]; skip)); unfold FRM; rw [hu]; intro hlo; exfalso; have h0 : (0 : Int64).toInt = 0 := (by decide); have h9 := lc_256; (try dsimp only at hlo); omega)⟩)), by rw [ht]; exact hP9, hD9⟩, hS.F ht⟩) hS.2.2 dX9_foretold_278
                ·
                  have lc_284 : (r_259 : Int64).toInt < ((-3000000) : Int64).toInt := lc_ltI (by rw [← ez_266]; first | exact Or.inl c_267 | exact Or.inr c_267)
                  refine lv_ldc hx hb hown (htb _ k_1205) dX9_foretold_219 ?_
                  have hP9 := hP.sub (ws' := [(mh, .inr (9, G9 ma mcode mtoday moffs w_16 w_21 w_17 w_20 w_24 w_22 w_18 w_23 w_19 z_258 z_257 mrates mtaped mlaid mat mtk mtkAt mtkNumber mwaits mlisted mdealtMany)), ((ma 2), .inl (E 0, 400, .inl mf2)), ((ma 3), .inl (E 0, 16, .inl mf3)), ((ma 4), .inl (E 0, 16, .inl mf4)), ((ma 5), .inl (E 1, 6400, .inl mf5)), ((ma 6), .inl (E 0, 6400, .inl mf6)), ((ma 7), .inl (E 0, 6400, .inl mf7)), ((ma 8), .inl (E 1, 6400, .inl mf8)), ((ma 9), .inl (E 1, 6400, .inl mf9)), ((ma 12), .inl (E 0, 60, .inl mf12)), ((ma 13), .inl (E 0, 60, .inl mf13)), ((ma 14), .inl (E 0, 60, .inl mf14)), ((ma 15), .inl (E 0, 60, .inl mf15)), ((ma 16), .inl (E 0, 60, .inl mf16))]) [0, 1, 2, 3, 4, 5, 6, 7, 8, 9, 10, 11, 12, 13] rfl
                  have hD9 := hD.sub (ws' := [(mh, .inr (9, G9 ma mcode mtoday moffs w_16 w_21 w_17 w_20 w_24 w_22 w_18 w_23 w_19 z_258 z_257 mrates mtaped mlaid mat mtk mtkAt mtkNumber mwaits mlisted mdealtMany)), ((ma 2), .inl (E 0, 400, .inl mf2)), ((ma 3), .inl (E 0, 16, .inl mf3)), ((ma 4), .inl (E 0, 16, .inl mf4)), ((ma 5), .inl (E 1, 6400, .inl mf5)), ((ma 6), .inl (E 0, 6400, .inl mf6)), ((ma 7), .inl (E 0, 6400, .inl mf7)), ((ma 8), .inl (E 1, 6400, .inl mf8)), ((ma 9), .inl (E 1, 6400, .inl mf9)), ((ma 12), .inl (E 0, 60, .inl mf12)), ((ma 13), .inl (E 0, 60, .inl mf13)), ((ma 14), .inl (E 0, 60, .inl mf14)), ((ma 15), .inl (E 0, 60, .inl mf15)), ((ma 16), .inl (E 0, 60, .inl mf16))]) [0, 1, 2, 3, 4, 5, 6, 7, 8, 9, 10, 11, 12, 13] (by decide) rfl
                  exact W.iret (v := (-2000000000)) hx hb hr (fun t ht hW => ⟨⟨(-2000000000), (z_257, w_16, w_17, w_18, w_19, w_20, w_21, w_22, w_23, w_24, z_258), rfl, (Or.inr (Or.inr ⟨⟨by have h9 := hw_2; omega, by have h9 := hw_2; omega, by omega, by omega⟩, by rw [← hw_14]; exact lc_27, (by have hu : uplM (fold9 (fun d => wmF mf3 mf4 mf2 p0 d) (fun d => agI mf8 (400 * p0.toInt).toNat d) (-1000) (rateL (fun d => ratF mf5 mf6 mf7 mf8 mf9 mf12 mf13 mf14 mf15 mf16 moffs p0 d (-1)) p1 (p2.toInt - p1.toInt).toNat)) p3 p4 = (w_16, w_20) := (by rw [← hw_14]; unfold uplM; (try dsimp only); first | (rw [if_pos hw_29.1, if_pos hw_29.2.1, if_pos hw_29.2.2]; rfl) | (rw [if_pos hw_29.1, if_pos hw_29.2.1, if_pos hw_29.2.2]; skip)); unfold FRM; rw [hu]; intro hlo; exfalso; have h0 : (0 : Int64).toInt = 0 := (by decide); have h9 := lc_256; (try dsimp only at hlo); omega)⟩)), by rw [ht]; exact hP9, hD9⟩, hS.F ht⟩) hS.2.2 dX9_foretold_221
        ·
          have lc_285 : (w_16 : Int64) = (0 : Int64) := lc_eq (by rw [← ez_25]; exact c_26)
          refine lv_ldc hx hb hown (htb _ k_1205) dX9_foretold_53 ?_
          have hP9 := hP.sub (ws' := [(mh, .inr (9, G9 ma mcode mtoday moffs w_16 w_21 w_17 w_20 w_24 w_22 w_18 w_23 w_19 mupper mlower mrates mtaped mlaid mat mtk mtkAt mtkNumber mwaits mlisted mdealtMany)), ((ma 2), .inl (E 0, 400, .inl mf2)), ((ma 3), .inl (E 0, 16, .inl mf3)), ((ma 4), .inl (E 0, 16, .inl mf4)), ((ma 5), .inl (E 1, 6400, .inl mf5)), ((ma 6), .inl (E 0, 6400, .inl mf6)), ((ma 7), .inl (E 0, 6400, .inl mf7)), ((ma 8), .inl (E 1, 6400, .inl mf8)), ((ma 9), .inl (E 1, 6400, .inl mf9)), ((ma 12), .inl (E 0, 60, .inl mf12)), ((ma 13), .inl (E 0, 60, .inl mf13)), ((ma 14), .inl (E 0, 60, .inl mf14)), ((ma 15), .inl (E 0, 60, .inl mf15)), ((ma 16), .inl (E 0, 60, .inl mf16))]) [0, 1, 2, 3, 4, 5, 6, 7, 8, 9, 10, 11, 12, 13] rfl
          have hD9 := hD.sub (ws' := [(mh, .inr (9, G9 ma mcode mtoday moffs w_16 w_21 w_17 w_20 w_24 w_22 w_18 w_23 w_19 mupper mlower mrates mtaped mlaid mat mtk mtkAt mtkNumber mwaits mlisted mdealtMany)), ((ma 2), .inl (E 0, 400, .inl mf2)), ((ma 3), .inl (E 0, 16, .inl mf3)), ((ma 4), .inl (E 0, 16, .inl mf4)), ((ma 5), .inl (E 1, 6400, .inl mf5)), ((ma 6), .inl (E 0, 6400, .inl mf6)), ((ma 7), .inl (E 0, 6400, .inl mf7)), ((ma 8), .inl (E 1, 6400, .inl mf8)), ((ma 9), .inl (E 1, 6400, .inl mf9)), ((ma 12), .inl (E 0, 60, .inl mf12)), ((ma 13), .inl (E 0, 60, .inl mf13)), ((ma 14), .inl (E 0, 60, .inl mf14)), ((ma 15), .inl (E 0, 60, .inl mf15)), ((ma 16), .inl (E 0, 60, .inl mf16))]) [0, 1, 2, 3, 4, 5, 6, 7, 8, 9, 10, 11, 12, 13] (by decide) rfl
          exact W.iret (v := (-2000000000)) hx hb hr (fun t ht hW => ⟨⟨(-2000000000), (mlower, w_16, w_17, w_18, w_19, w_20, w_21, w_22, w_23, w_24, mupper), rfl, (Or.inr (Or.inl ⟨⟨by have h9 := hw_2; omega, by have h9 := hw_2; omega, by omega, by omega⟩, by rw [← hw_14]; exact lc_285, by have hv := t_m2000000000; omega⟩)), by rw [ht]; exact hP9, hD9⟩, hS.F ht⟩) hS.2.2 dX9_foretold_55
      ·
        try simp only [t_0, t_399] at hw_10
        refine W_top (y := .int 0) (by rw [hr_9]) ?_
        refine lv_if_ne (tgt := 37) hx hb dX9_foretold_31 (by decide) (fun c_286 => absurd (by decide) c_286) (fun c_286 => ?_)
        refine lv_ldc hx hb hown (htb _ k_1205) dX9_foretold_34 ?_
        have hP9 := hP.sub (ws' := [(mh, .inr (9, G9 ma mcode mtoday moffs mmany msumW msumA msumR msumWW msumWA msumAA msumWR msumAR mupper mlower mrates mtaped mlaid mat mtk mtkAt mtkNumber mwaits mlisted mdealtMany)), ((ma 2), .inl (E 0, 400, .inl mf2)), ((ma 3), .inl (E 0, 16, .inl mf3)), ((ma 4), .inl (E 0, 16, .inl mf4)), ((ma 5), .inl (E 1, 6400, .inl mf5)), ((ma 6), .inl (E 0, 6400, .inl mf6)), ((ma 7), .inl (E 0, 6400, .inl mf7)), ((ma 8), .inl (E 1, 6400, .inl mf8)), ((ma 9), .inl (E 1, 6400, .inl mf9)), ((ma 12), .inl (E 0, 60, .inl mf12)), ((ma 13), .inl (E 0, 60, .inl mf13)), ((ma 14), .inl (E 0, 60, .inl mf14)), ((ma 15), .inl (E 0, 60, .inl mf15)), ((ma 16), .inl (E 0, 60, .inl mf16))]) [0, 1, 2, 3, 4, 5, 6, 7, 8, 9, 10, 11, 12, 13] rfl
        have hD9 := hD.sub (ws' := [(mh, .inr (9, G9 ma mcode mtoday moffs mmany msumW msumA msumR msumWW msumWA msumAA msumWR msumAR mupper mlower mrates mtaped mlaid mat mtk mtkAt mtkNumber mwaits mlisted mdealtMany)), ((ma 2), .inl (E 0, 400, .inl mf2)), ((ma 3), .inl (E 0, 16, .inl mf3)), ((ma 4), .inl (E 0, 16, .inl mf4)), ((ma 5), .inl (E 1, 6400, .inl mf5)), ((ma 6), .inl (E 0, 6400, .inl mf6)), ((ma 7), .inl (E 0, 6400, .inl mf7)), ((ma 8), .inl (E 1, 6400, .inl mf8)), ((ma 9), .inl (E 1, 6400, .inl mf9)), ((ma 12), .inl (E 0, 60, .inl mf12)), ((ma 13), .inl (E 0, 60, .inl mf13)), ((ma 14), .inl (E 0, 60, .inl mf14)), ((ma 15), .inl (E 0, 60, .inl mf15)), ((ma 16), .inl (E 0, 60, .inl mf16))]) [0, 1, 2, 3, 4, 5, 6, 7, 8, 9, 10, 11, 12, 13] (by decide) rfl
        exact W.iret (v := (-2000000000)) hx hb hr (fun t ht hW => ⟨⟨(-2000000000), (mlower, mmany, msumA, msumAA, msumAR, msumR, msumW, msumWA, msumWR, msumWW, mupper), rfl, (Or.inl ⟨fun h9 => by rcases hw_2 with h8 | h8 | h8 <;> omega, by have hv := t_m2000000000; omega⟩), by rw [ht]; exact hP9, hD9⟩, hS.F ht⟩) hS.2.2 dX9_foretold_36
    ·
      try simp only [t_m50, t_50] at hw_6
      refine W_top (y := .int 0) (by rw [hr_5]) ?_
      refine lv_if_eq (tgt := 34) hx hb dX9_foretold_19 (by decide) (fun c_287 => ?_) (fun c_287 => absurd (by decide) c_287)
      refine lv_ldc hx hb hown (htb _ k_1205) dX9_foretold_34 ?_
      have hP9 := hP.sub (ws' := [(mh, .inr (9, G9 ma mcode mtoday moffs mmany msumW msumA msumR msumWW msumWA msumAA msumWR msumAR mupper mlower mrates mtaped mlaid mat mtk mtkAt mtkNumber mwaits mlisted mdealtMany)), ((ma 2), .inl (E 0, 400, .inl mf2)), ((ma 3), .inl (E 0, 16, .inl mf3)), ((ma 4), .inl (E 0, 16, .inl mf4)), ((ma 5), .inl (E 1, 6400, .inl mf5)), ((ma 6), .inl (E 0, 6400, .inl mf6)), ((ma 7), .inl (E 0, 6400, .inl mf7)), ((ma 8), .inl (E 1, 6400, .inl mf8)), ((ma 9), .inl (E 1, 6400, .inl mf9)), ((ma 12), .inl (E 0, 60, .inl mf12)), ((ma 13), .inl (E 0, 60, .inl mf13)), ((ma 14), .inl (E 0, 60, .inl mf14)), ((ma 15), .inl (E 0, 60, .inl mf15)), ((ma 16), .inl (E 0, 60, .inl mf16))]) [0, 1, 2, 3, 4, 5, 6, 7, 8, 9, 10, 11, 12, 13] rfl
      have hD9 := hD.sub (ws' := [(mh, .inr (9, G9 ma mcode mtoday moffs mmany msumW msumA msumR msumWW msumWA msumAA msumWR msumAR mupper mlower mrates mtaped mlaid mat mtk mtkAt mtkNumber mwaits mlisted mdealtMany)), ((ma 2), .inl (E 0, 400, .inl mf2)), ((ma 3), .inl (E 0, 16, .inl mf3)), ((ma 4), .inl (E 0, 16, .inl mf4)), ((ma 5), .inl (E 1, 6400, .inl mf5)), ((ma 6), .inl (E 0, 6400, .inl mf6)), ((ma 7), .inl (E 0, 6400, .inl mf7)), ((ma 8), .inl (E 1, 6400, .inl mf8)), ((ma 9), .inl (E 1, 6400, .inl mf9)), ((ma 12), .inl (E 0, 60, .inl mf12)), ((ma 13), .inl (E 0, 60, .inl mf13)), ((ma 14), .inl (E 0, 60, .inl mf14)), ((ma 15), .inl (E 0, 60, .inl mf15)), ((ma 16), .inl (E 0, 60, .inl mf16))]) [0, 1, 2, 3, 4, 5, 6, 7, 8, 9, 10, 11, 12, 13] (by decide) rfl
      exact W.iret (v := (-2000000000)) hx hb hr (fun t ht hW => ⟨⟨(-2000000000), (mlower, mmany, msumA, msumAA, msumAR, msumR, msumW, msumWA, msumWR, msumWW, mupper), rfl, (Or.inl ⟨fun h9 => by rcases hw_2 with h8 | h8 | h8 <;> omega, by have hv := t_m2000000000; omega⟩), by rw [ht]; exact hP9, hD9⟩, hS.F ht⟩) hS.2.2 dX9_foretold_36
