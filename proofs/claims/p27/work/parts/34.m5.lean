set_option maxHeartbeats 4000000 in
set_option maxRecDepth 100000 in
theorem g_X9_error (l : Launch) (D : va_G) (E : Nat → Nat) (mh : Nat) (ma : Nat → Nat) (mcode : Int32) (mtoday : Int32) (moffs : Int32) (mmany : Int64) (msumW : Int64) (msumA : Int64) (msumR : Int64) (msumWW : Int64) (msumWA : Int64) (msumAA : Int64) (msumWR : Int64) (msumAR : Int64) (mupper : Int64) (mlower : Int64) (mrates : Int32) (mtaped : Int32) (mlaid : Int32) (mat : Int32) (mtk : Int32) (mtkAt : Int32) (mtkNumber : Int32) (mwaits : Int32) (mlisted : Int32) (mdealtMany : Int32) (mf3 : Nat → Int32) (mf5 : Nat → Int32) (mf6 : Nat → Int32) (mf7 : Nat → Int32) (mf12 : Nat → Int32) (mf13 : Nat → Int32) (mf14 : Nat → Int32) (mf15 : Nat → Int32) (mf16 : Nat → Int32) (p0 : Int32) (p1 : Int32) (p2 : Int32) (hi_m : (0 ≤ mtoday.toInt ∧ mtoday.toInt ≤ 399) ∧ (0 ≤ moffs.toInt ∧ moffs.toInt ≤ 60) ∧ (0 ≤ mrates.toInt ∧ mrates.toInt ≤ 60) ∧ (0 ≤ mtaped.toInt ∧ mtaped.toInt ≤ 120) ∧ (0 ≤ mlisted.toInt ∧ mlisted.toInt ≤ 9) ∧ (0 ≤ mdealtMany.toInt ∧ mdealtMany.toInt ≤ 9)) : Met l yX9_error (wl yX9_error cX9_error 4 (some .int)) (RM 3 0 0) (rd_P D E [.ref mh, .int p0, .int p1, .int p2] [(mh, .inr (9, G9 ma mcode mtoday moffs mmany msumW msumA msumR msumWW msumWA msumAA msumWR msumAR mupper mlower mrates mtaped mlaid mat mtk mtkAt mtkNumber mwaits mlisted mdealtMany)), ((ma 3), .inl (E 0, 16, .inl mf3)), ((ma 5), .inl (E 1, 6400, .inl mf5)), ((ma 6), .inl (E 0, 6400, .inl mf6)), ((ma 7), .inl (E 0, 6400, .inl mf7)), ((ma 12), .inl (E 0, 60, .inl mf12)), ((ma 13), .inl (E 0, 60, .inl mf13)), ((ma 14), .inl (E 0, 60, .inl mf14)), ((ma 15), .inl (E 0, 60, .inl mf15)), ((ma 16), .inl (E 0, 60, .inl mf16))]) (rd_Q (fun r => ((((0 ≤ p0.toInt ∧ p0.toInt ≤ 15) ∧ ((mf3 (p0).toNatClampNeg).toInt ≠ -5 ∧ (mf3 (p0).toNatClampNeg).toInt ≠ 2) ∧ (0 ≤ p1.toInt ∧ p1.toInt ≤ 399) ∧ (-1 ≤ p2.toInt ∧ p2.toInt ≤ 399)) ∧ r = errF mf5 mf6 mf7 mf12 mf13 mf14 mf15 mf16 moffs p0 p1 p2) ∨ (¬ ((0 ≤ p0.toInt ∧ p0.toInt ≤ 15) ∧ ((mf3 (p0).toNatClampNeg).toInt ≠ -5 ∧ (mf3 (p0).toNatClampNeg).toInt ≠ 2) ∧ (0 ≤ p1.toInt ∧ p1.toInt ≤ 399) ∧ (-1 ≤ p2.toInt ∧ p2.toInt ≤ 399)) ∧ r.toInt = -2000000000)))) 0 0 (fun _ => False) := by
  refine Met.ofW (cc := cX9_error) (maxL := 4) (ret := (some .int)) (by decide) rfl ?_
  intro p e s m args below meth c s₁ B hml hv
  obtain ⟨rfl, hP, hK⟩ := hv
  have hx := B.exec; have hb := B.bytes; have hr := B.returns
  have hts := atoms_spec (ws := wl yX9_error cX9_error 4 (some .int)) B.pre
  have htb : ∀ w ∈ tb, w.before _ s = true := fun w h => hts w (List.mem_cons_of_mem _ h)
  have hown : s.vm.findClass RX9 = some m.cls := findClass_of_methodNamed B.named
  have hlocks := B.notSynchronized
  have hP : va_P D vwCl [(mh, .inr (9, G9 ma mcode mtoday moffs mmany msumW msumA msumR msumWW msumWA msumAA msumWR msumAR mupper mlower mrates mtaped mlaid mat mtk mtkAt mtkNumber mwaits mlisted mdealtMany)), ((ma 3), .inl (E 0, 16, .inl mf3)), ((ma 5), .inl (E 1, 6400, .inl mf5)), ((ma 6), .inl (E 0, 6400, .inl mf6)), ((ma 7), .inl (E 0, 6400, .inl mf7)), ((ma 12), .inl (E 0, 60, .inl mf12)), ((ma 13), .inl (E 0, 60, .inl mf13)), ((ma 14), .inl (E 0, 60, .inl mf14)), ((ma 15), .inl (E 0, 60, .inl mf15)), ((ma 16), .inl (E 0, 60, .inl mf16))] s.heap := hP
  have hl := lv_entry ([.ref mh, .int p0, .int p1, .int p2]) (n := 4) (Nat.le_of_ble_eq_true rfl)
  rw [lg_entry_eq]
  generalize (lg_sl ([.ref mh, .int p0, .int p1, .int p2]) ++ List.replicate (4 - (lg_sl ([.ref mh, .int p0, .int p1, .int p2])).length) Slot.unset).toArray = ls at hl ⊢
  have hl : lv_has ls 4 [(0, .ref mh), (1, .int p0), (2, .int p1), (3, .int p2)] := hl
  have lo_p0 := i_lo p0; have hi_p0 := i_hi p0
  have lo_p1 := i_lo p1; have hi_p1 := i_hi p1
  have lo_p2 := i_lo p2; have hi_p2 := i_hi p2
  refine lv_aload_n hx hb dX9_error_0 rfl (lv_at hl 0 rfl) ?_
  refine lv_iload_n hx hb dX9_error_1 rfl (lv_at hl 1 rfl) ?_
  refine callRV (rest := []) (As := [.int p0]) hx hb hml hown htb hK (g_X9_watchAt l D E mh ma mcode mtoday moffs mmany msumW msumA msumR msumWW msumWA msumAA msumWR msumAR mupper mlower mrates mtaped mlaid mat mtk mtkAt mtkNumber mwaits mlisted mdealtMany mf3 p0 (by (try dsimp only); omega)) ok_X9_watchAt k_1212 k_1214 ks_41 k_9 k_1215 ⟨(Nat.le_of_ble_eq_true rfl), (Nat.le_of_ble_eq_true rfl)⟩ ⟨(Nat.le_of_ble_eq_true rfl), (Nat.le_of_ble_eq_true rfl)⟩ hl.1 (Nat.le_of_ble_eq_true rfl) rfl rfl dX9_error_2 (hP.sub (ws' := [(mh, .inr (9, G9 ma mcode mtoday moffs mmany msumW msumA msumR msumWW msumWA msumAA msumWR msumAR mupper mlower mrates mtaped mlaid mat mtk mtkAt mtkNumber mwaits mlisted mdealtMany)), ((ma 3), .inl (E 0, 16, .inl mf3))]) [0, 1] rfl) rfl rfl 0 rfl (fun r_1 hw_2 => ?_)
  refine lv_if_lt (tgt := 22) hx hb dX9_error_5 (by decide) (fun c_4 => ?_) (fun c_4 => ?_)
  ·
    have ic_4 : r_1.toInt < 0 := by first | exact (g_lt rfl t_0).mp c_4 | (have h := mt (g_le t_0 rfl).mpr c_4; omega)
    clear c_4
    refine lv_ldc hx hb hown (htb _ k_1205) dX9_error_22 ?_
    refine lv_goto (tgt := 34) hx hb dX9_error_24 (by decide) ?_
    exact W.iret (v := (-2000000000)) hx hb hr (fun t ht hW => ⟨(-2000000000), rfl, (by have hl0 := t_m2000000000; (try dsimp only); first | exact Or.inl ⟨by omega, by assumption⟩ | exact Or.inr ⟨by omega, by omega⟩), ht⟩) (fun q h => by cases h) dX9_error_34
  ·
    have ic_4 : 0 ≤ r_1.toInt := by first | exact (g_le t_0 rfl).mp c_4 | (have h := mt (g_lt rfl t_0).mpr c_4; omega)
    clear c_4
    refine lv_iload_n hx hb dX9_error_8 rfl (lv_at hl 2 rfl) ?_
    refine callRS (rest := []) (As := [.int p1]) hx hb hml hown htb hK (g_X9_isDay l D E p1 ) ok_X9_isDay k_1175 k_1176 k_9 k_1177 ⟨(Nat.le_of_ble_eq_true rfl), (Nat.le_of_ble_eq_true rfl)⟩ ⟨(Nat.le_of_ble_eq_true rfl), (Nat.le_of_ble_eq_true rfl)⟩ hl.1 (Nat.le_of_ble_eq_true rfl) rfl rfl dX9_error_9 (hP.sub (ws' := ([] : va_W)) [] rfl) (fun r_5 hw_6 => ?_)
    rcases hw_6 with ⟨hr_5, hw_6⟩ | ⟨hr_5, hw_6⟩
    ·
      refine W_top (y := .int 1) (by rw [hr_5]) ?_
      refine lv_if_eq (tgt := 22) hx hb dX9_error_12 (by decide) (fun c_8 => absurd c_8 (by decide)) (fun c_8 => ?_)
      refine lv_iload_n hx hb dX9_error_15 rfl (lv_at hl 3 rfl) ?_
      refine callRS (rest := []) (As := [.int p2]) hx hb hml hown htb hK (g_X9_isKnown l D E p2 ) ok_X9_isKnown k_1220 k_1221 k_9 k_1222 ⟨(Nat.le_of_ble_eq_true rfl), (Nat.le_of_ble_eq_true rfl)⟩ ⟨(Nat.le_of_ble_eq_true rfl), (Nat.le_of_ble_eq_true rfl)⟩ hl.1 (Nat.le_of_ble_eq_true rfl) rfl rfl dX9_error_16 (hP.sub (ws' := ([] : va_W)) [] rfl) (fun r_9 hw_10 => ?_)
      rcases hw_10 with ⟨hr_9, hw_10⟩ | ⟨hr_9, hw_10⟩
      ·
        refine W_top (y := .int 1) (by rw [hr_9]) ?_
        refine lv_if_ne (tgt := 27) hx hb dX9_error_19 (by decide) (fun c_12 => ?_) (fun c_12 => absurd c_12 (by decide))
        refine lv_aload_n hx hb dX9_error_27 rfl (lv_at hl 0 rfl) ?_
        refine lv_iload_n hx hb dX9_error_28 rfl (lv_at hl 1 rfl) ?_
        refine lv_iload_n hx hb dX9_error_29 rfl (lv_at hl 2 rfl) ?_
        refine lv_iload_n hx hb dX9_error_30 rfl (lv_at hl 3 rfl) ?_
        refine callRV (rest := []) (As := [.int p0, .int p1, .int p2]) hx hb hml hown htb hK (g_X9_errorOf l D E mh ma mcode mtoday moffs mmany msumW msumA msumR msumWW msumWA msumAA msumWR msumAR mupper mlower mrates mtaped mlaid mat mtk mtkAt mtkNumber mwaits mlisted mdealtMany mf5 mf6 mf7 mf12 mf13 mf14 mf15 mf16 p0 p1 p2 (by (try dsimp only); omega) (by (try dsimp only); omega) (by (try dsimp only); omega)) ok_X9_errorOf k_1223 k_1225 ks_42 k_9 k_1226 ⟨(Nat.le_of_ble_eq_true rfl), (Nat.le_of_ble_eq_true rfl)⟩ ⟨(Nat.le_of_ble_eq_true rfl), (Nat.le_of_ble_eq_true rfl)⟩ hl.1 (Nat.le_of_ble_eq_true rfl) rfl rfl dX9_error_31 (hP.sub (ws' := [(mh, .inr (9, G9 ma mcode mtoday moffs mmany msumW msumA msumR msumWW msumWA msumAA msumWR msumAR mupper mlower mrates mtaped mlaid mat mtk mtkAt mtkNumber mwaits mlisted mdealtMany)), ((ma 5), .inl (E 1, 6400, .inl mf5)), ((ma 6), .inl (E 0, 6400, .inl mf6)), ((ma 7), .inl (E 0, 6400, .inl mf7)), ((ma 12), .inl (E 0, 60, .inl mf12)), ((ma 13), .inl (E 0, 60, .inl mf13)), ((ma 14), .inl (E 0, 60, .inl mf14)), ((ma 15), .inl (E 0, 60, .inl mf15)), ((ma 16), .inl (E 0, 60, .inl mf16))]) [0, 2, 3, 4, 5, 6, 7, 8, 9] rfl) rfl rfl 0 rfl (fun r_13 hw_14 => ?_)
        exact W.iret (v := r_13) hx hb hr (fun t ht hW => ⟨r_13, rfl, (by (try dsimp only); first | exact Or.inl ⟨by omega, by assumption⟩ | exact Or.inr ⟨by omega, by omega⟩), ht⟩) (fun q h => by cases h) dX9_error_34
      ·
        refine W_top (y := .int 0) (by rw [hr_9]) ?_
        refine lv_if_ne (tgt := 27) hx hb dX9_error_19 (by decide) (fun c_16 => absurd (by decide) c_16) (fun c_16 => ?_)
        refine lv_ldc hx hb hown (htb _ k_1205) dX9_error_22 ?_
        refine lv_goto (tgt := 34) hx hb dX9_error_24 (by decide) ?_
        exact W.iret (v := (-2000000000)) hx hb hr (fun t ht hW => ⟨(-2000000000), rfl, (by have hl0 := t_m2000000000; (try dsimp only); first | exact Or.inl ⟨by omega, by assumption⟩ | exact Or.inr ⟨by omega, by omega⟩), ht⟩) (fun q h => by cases h) dX9_error_34
    ·
      refine W_top (y := .int 0) (by rw [hr_5]) ?_
      refine lv_if_eq (tgt := 22) hx hb dX9_error_12 (by decide) (fun c_17 => ?_) (fun c_17 => absurd (by decide) c_17)
      refine lv_ldc hx hb hown (htb _ k_1205) dX9_error_22 ?_
      refine lv_goto (tgt := 34) hx hb dX9_error_24 (by decide) ?_
      exact W.iret (v := (-2000000000)) hx hb hr (fun t ht hW => ⟨(-2000000000), rfl, (by have hl0 := t_m2000000000; (try dsimp only); first | exact Or.inl ⟨by omega, by assumption⟩ | exact Or.inr ⟨by omega, by omega⟩), ht⟩) (fun q h => by cases h) dX9_error_34
set_option maxHeartbeats 4000000 in
set_option maxRecDepth 100000 in
theorem g_X9_rate (l : Launch) (D : va_G) (E : Nat → Nat) (mh : Nat) (ma : Nat → Nat) (mcode : Int32) (mtoday : Int32) (moffs : Int32) (mmany : Int64) (msumW : Int64) (msumA : Int64) (msumR : Int64) (msumWW : Int64) (msumWA : Int64) (msumAA : Int64) (msumWR : Int64) (msumAR : Int64) (mupper : Int64) (mlower : Int64) (mrates : Int32) (mtaped : Int32) (mlaid : Int32) (mat : Int32) (mtk : Int32) (mtkAt : Int32) (mtkNumber : Int32) (mwaits : Int32) (mlisted : Int32) (mdealtMany : Int32) (mf3 : Nat → Int32) (mf5 : Nat → Int32) (mf6 : Nat → Int32) (mf7 : Nat → Int32) (mf8 : Nat → Int32) (mf9 : Nat → Int32) (mf12 : Nat → Int32) (mf13 : Nat → Int32) (mf14 : Nat → Int32) (mf15 : Nat → Int32) (mf16 : Nat → Int32) (p0 : Int32) (p1 : Int32) (p2 : Int32) (hi_m : (0 ≤ mtoday.toInt ∧ mtoday.toInt ≤ 399) ∧ (0 ≤ moffs.toInt ∧ moffs.toInt ≤ 60) ∧ (0 ≤ mrates.toInt ∧ mrates.toInt ≤ 60) ∧ (0 ≤ mtaped.toInt ∧ mtaped.toInt ≤ 120) ∧ (0 ≤ mlisted.toInt ∧ mlisted.toInt ≤ 9) ∧ (0 ≤ mdealtMany.toInt ∧ mdealtMany.toInt ≤ 9)) : Met l yX9_rate (wl yX9_rate cX9_rate 4 (some .int)) (RM 3 0 0) (rd_P D E [.ref mh, .int p0, .int p1, .int p2] [(mh, .inr (9, G9 ma mcode mtoday moffs mmany msumW msumA msumR msumWW msumWA msumAA msumWR msumAR mupper mlower mrates mtaped mlaid mat mtk mtkAt mtkNumber mwaits mlisted mdealtMany)), ((ma 3), .inl (E 0, 16, .inl mf3)), ((ma 5), .inl (E 1, 6400, .inl mf5)), ((ma 6), .inl (E 0, 6400, .inl mf6)), ((ma 7), .inl (E 0, 6400, .inl mf7)), ((ma 8), .inl (E 1, 6400, .inl mf8)), ((ma 9), .inl (E 1, 6400, .inl mf9)), ((ma 12), .inl (E 0, 60, .inl mf12)), ((ma 13), .inl (E 0, 60, .inl mf13)), ((ma 14), .inl (E 0, 60, .inl mf14)), ((ma 15), .inl (E 0, 60, .inl mf15)), ((ma 16), .inl (E 0, 60, .inl mf16))]) (rd_Q (fun r => ((((0 ≤ p0.toInt ∧ p0.toInt ≤ 15) ∧ ((mf3 (p0).toNatClampNeg).toInt ≠ -5 ∧ (mf3 (p0).toNatClampNeg).toInt ≠ 2) ∧ (0 ≤ p1.toInt ∧ p1.toInt ≤ 398) ∧ (-1 ≤ p2.toInt ∧ p2.toInt ≤ 399)) ∧ r = ratF mf5 mf6 mf7 mf8 mf9 mf12 mf13 mf14 mf15 mf16 moffs p0 p1 p2) ∨ (¬ ((0 ≤ p0.toInt ∧ p0.toInt ≤ 15) ∧ ((mf3 (p0).toNatClampNeg).toInt ≠ -5 ∧ (mf3 (p0).toNatClampNeg).toInt ≠ 2) ∧ (0 ≤ p1.toInt ∧ p1.toInt ≤ 398) ∧ (-1 ≤ p2.toInt ∧ p2.toInt ≤ 399)) ∧ r.toInt = -2000000000)))) 0 0 (fun _ => False) := by
  refine Met.ofW (cc := cX9_rate) (maxL := 4) (ret := (some .int)) (by decide) rfl ?_
  intro p e s m args below meth c s₁ B hml hv
  obtain ⟨rfl, hP, hK⟩ := hv
  have hx := B.exec; have hb := B.bytes; have hr := B.returns
  have hts := atoms_spec (ws := wl yX9_rate cX9_rate 4 (some .int)) B.pre
  have htb : ∀ w ∈ tb, w.before _ s = true := fun w h => hts w (List.mem_cons_of_mem _ h)
  have hown : s.vm.findClass RX9 = some m.cls := findClass_of_methodNamed B.named
  have hlocks := B.notSynchronized
  have hP : va_P D vwCl [(mh, .inr (9, G9 ma mcode mtoday moffs mmany msumW msumA msumR msumWW msumWA msumAA msumWR msumAR mupper mlower mrates mtaped mlaid mat mtk mtkAt mtkNumber mwaits mlisted mdealtMany)), ((ma 3), .inl (E 0, 16, .inl mf3)), ((ma 5), .inl (E 1, 6400, .inl mf5)), ((ma 6), .inl (E 0, 6400, .inl mf6)), ((ma 7), .inl (E 0, 6400, .inl mf7)), ((ma 8), .inl (E 1, 6400, .inl mf8)), ((ma 9), .inl (E 1, 6400, .inl mf9)), ((ma 12), .inl (E 0, 60, .inl mf12)), ((ma 13), .inl (E 0, 60, .inl mf13)), ((ma 14), .inl (E 0, 60, .inl mf14)), ((ma 15), .inl (E 0, 60, .inl mf15)), ((ma 16), .inl (E 0, 60, .inl mf16))] s.heap := hP
  have hl := lv_entry ([.ref mh, .int p0, .int p1, .int p2]) (n := 4) (Nat.le_of_ble_eq_true rfl)
  rw [lg_entry_eq]
  generalize (lg_sl ([.ref mh, .int p0, .int p1, .int p2]) ++ List.replicate (4 - (lg_sl ([.ref mh, .int p0, .int p1, .int p2])).length) Slot.unset).toArray = ls at hl ⊢
  have hl : lv_has ls 4 [(0, .ref mh), (1, .int p0), (2, .int p1), (3, .int p2)] := hl
  have lo_p0 := i_lo p0; have hi_p0 := i_hi p0
  have lo_p1 := i_lo p1; have hi_p1 := i_hi p1
  have lo_p2 := i_lo p2; have hi_p2 := i_hi p2
  refine lv_aload_n hx hb dX9_rate_0 rfl (lv_at hl 0 rfl) ?_
  refine lv_iload_n hx hb dX9_rate_1 rfl (lv_at hl 1 rfl) ?_
  refine callRV (rest := []) (As := [.int p0]) hx hb hml hown htb hK (g_X9_watchAt l D E mh ma mcode mtoday moffs mmany msumW msumA msumR msumWW msumWA msumAA msumWR msumAR mupper mlower mrates mtaped mlaid mat mtk mtkAt mtkNumber mwaits mlisted mdealtMany mf3 p0 (by (try dsimp only); omega)) ok_X9_watchAt k_1212 k_1214 ks_41 k_9 k_1215 ⟨(Nat.le_of_ble_eq_true rfl), (Nat.le_of_ble_eq_true rfl)⟩ ⟨(Nat.le_of_ble_eq_true rfl), (Nat.le_of_ble_eq_true rfl)⟩ hl.1 (Nat.le_of_ble_eq_true rfl) rfl rfl dX9_rate_2 (hP.sub (ws' := [(mh, .inr (9, G9 ma mcode mtoday moffs mmany msumW msumA msumR msumWW msumWA msumAA msumWR msumAR mupper mlower mrates mtaped mlaid mat mtk mtkAt mtkNumber mwaits mlisted mdealtMany)), ((ma 3), .inl (E 0, 16, .inl mf3))]) [0, 1] rfl) rfl rfl 0 rfl (fun r_1 hw_2 => ?_)
  refine lv_if_lt (tgt := 26) hx hb dX9_rate_5 (by decide) (fun c_4 => ?_) (fun c_4 => ?_)
  ·
    have ic_4 : r_1.toInt < 0 := by first | exact (g_lt rfl t_0).mp c_4 | (have h := mt (g_le t_0 rfl).mpr c_4; omega)
    clear c_4
    refine lv_ldc hx hb hown (htb _ k_1205) dX9_rate_26 ?_
    refine lv_goto (tgt := 38) hx hb dX9_rate_28 (by decide) ?_
    exact W.iret (v := (-2000000000)) hx hb hr (fun t ht hW => ⟨(-2000000000), rfl, (by have hl0 := t_m2000000000; (try dsimp only); first | exact Or.inl ⟨by omega, by assumption⟩ | exact Or.inr ⟨by omega, by omega⟩), ht⟩) (fun q h => by cases h) dX9_rate_38
  ·
    have ic_4 : 0 ≤ r_1.toInt := by first | exact (g_le t_0 rfl).mp c_4 | (have h := mt (g_lt rfl t_0).mpr c_4; omega)
    clear c_4
    refine lv_iload_n hx hb dX9_rate_8 rfl (lv_at hl 2 rfl) ?_
    refine lv_iconst (v := 0) hx hb dX9_rate_9 (by decide) ?_
    refine lv_sipush (v := 398) hx hb dX9_rate_10 (by decide) ?_
    refine callRS (rest := []) (As := [.int p1, .int 0, .int 398]) hx hb hml hown htb hK (g_X9_in l D E p1 0 398 ) ok_X9_in k_1168 k_1169 k_9 k_1170 ⟨(Nat.le_of_ble_eq_true rfl), (Nat.le_of_ble_eq_true rfl)⟩ ⟨(Nat.le_of_ble_eq_true rfl), (Nat.le_of_ble_eq_true rfl)⟩ hl.1 (Nat.le_of_ble_eq_true rfl) rfl rfl dX9_rate_13 (hP.sub (ws' := ([] : va_W)) [] rfl) (fun r_5 hw_6 => ?_)
    try simp only [t_0, t_398] at hw_6
    rcases hw_6 with ⟨hr_5, hw_6⟩ | ⟨hr_5, hw_6⟩
    ·
      try simp only [t_0, t_398] at hw_6
      refine W_top (y := .int 1) (by rw [hr_5]) ?_
      refine lv_if_eq (tgt := 26) hx hb dX9_rate_16 (by decide) (fun c_8 => absurd c_8 (by decide)) (fun c_8 => ?_)
      refine lv_iload_n hx hb dX9_rate_19 rfl (lv_at hl 3 rfl) ?_
      refine callRS (rest := []) (As := [.int p2]) hx hb hml hown htb hK (g_X9_isKnown l D E p2 ) ok_X9_isKnown k_1220 k_1221 k_9 k_1222 ⟨(Nat.le_of_ble_eq_true rfl), (Nat.le_of_ble_eq_true rfl)⟩ ⟨(Nat.le_of_ble_eq_true rfl), (Nat.le_of_ble_eq_true rfl)⟩ hl.1 (Nat.le_of_ble_eq_true rfl) rfl rfl dX9_rate_20 (hP.sub (ws' := ([] : va_W)) [] rfl) (fun r_9 hw_10 => ?_)
      rcases hw_10 with ⟨hr_9, hw_10⟩ | ⟨hr_9, hw_10⟩
      ·
        refine W_top (y := .int 1) (by rw [hr_9]) ?_
        refine lv_if_ne (tgt := 31) hx hb dX9_rate_23 (by decide) (fun c_12 => ?_) (fun c_12 => absurd c_12 (by decide))
        refine lv_aload_n hx hb dX9_rate_31 rfl (lv_at hl 0 rfl) ?_
        refine lv_iload_n hx hb dX9_rate_32 rfl (lv_at hl 1 rfl) ?_
        refine lv_iload_n hx hb dX9_rate_33 rfl (lv_at hl 2 rfl) ?_
        refine lv_iload_n hx hb dX9_rate_34 rfl (lv_at hl 3 rfl) ?_
        refine callRV (rest := []) (As := [.int p0, .int p1, .int p2]) hx hb hml hown htb hK (g_X9_rateOf l D E mh ma mcode mtoday moffs mmany msumW msumA msumR msumWW msumWA msumAA msumWR msumAR mupper mlower mrates mtaped mlaid mat mtk mtkAt mtkNumber mwaits mlisted mdealtMany mf5 mf6 mf7 mf8 mf9 mf12 mf13 mf14 mf15 mf16 p0 p1 p2 (by (try dsimp only); omega) (by (try dsimp only); omega) (by (try dsimp only); omega)) ok_X9_rateOf k_1231 k_1233 ks_43 k_9 k_1234 ⟨(Nat.le_of_ble_eq_true rfl), (Nat.le_of_ble_eq_true rfl)⟩ ⟨(Nat.le_of_ble_eq_true rfl), (Nat.le_of_ble_eq_true rfl)⟩ hl.1 (Nat.le_of_ble_eq_true rfl) rfl rfl dX9_rate_35 (hP.sub (ws' := [(mh, .inr (9, G9 ma mcode mtoday moffs mmany msumW msumA msumR msumWW msumWA msumAA msumWR msumAR mupper mlower mrates mtaped mlaid mat mtk mtkAt mtkNumber mwaits mlisted mdealtMany)), ((ma 5), .inl (E 1, 6400, .inl mf5)), ((ma 6), .inl (E 0, 6400, .inl mf6)), ((ma 7), .inl (E 0, 6400, .inl mf7)), ((ma 8), .inl (E 1, 6400, .inl mf8)), ((ma 9), .inl (E 1, 6400, .inl mf9)), ((ma 12), .inl (E 0, 60, .inl mf12)), ((ma 13), .inl (E 0, 60, .inl mf13)), ((ma 14), .inl (E 0, 60, .inl mf14)), ((ma 15), .inl (E 0, 60, .inl mf15)), ((ma 16), .inl (E 0, 60, .inl mf16))]) [0, 2, 3, 4, 5, 6, 7, 8, 9, 10, 11] rfl) rfl rfl 0 rfl (fun r_13 hw_14 => ?_)
        exact W.iret (v := r_13) hx hb hr (fun t ht hW => ⟨r_13, rfl, (by (try dsimp only); first | exact Or.inl ⟨by omega, by assumption⟩ | exact Or.inr ⟨by omega, by omega⟩), ht⟩) (fun q h => by cases h) dX9_rate_38
      ·
        refine W_top (y := .int 0) (by rw [hr_9]) ?_
        refine lv_if_ne (tgt := 31) hx hb dX9_rate_23 (by decide) (fun c_16 => absurd (by decide) c_16) (fun c_16 => ?_)
        refine lv_ldc hx hb hown (htb _ k_1205) dX9_rate_26 ?_
        refine lv_goto (tgt := 38) hx hb dX9_rate_28 (by decide) ?_
        exact W.iret (v := (-2000000000)) hx hb hr (fun t ht hW => ⟨(-2000000000), rfl, (by have hl0 := t_m2000000000; (try dsimp only); first | exact Or.inl ⟨by omega, by assumption⟩ | exact Or.inr ⟨by omega, by omega⟩), ht⟩) (fun q h => by cases h) dX9_rate_38
    ·
      try simp only [t_0, t_398] at hw_6
      refine W_top (y := .int 0) (by rw [hr_5]) ?_
      refine lv_if_eq (tgt := 26) hx hb dX9_rate_16 (by decide) (fun c_17 => ?_) (fun c_17 => absurd (by decide) c_17)
      refine lv_ldc hx hb hown (htb _ k_1205) dX9_rate_26 ?_
      refine lv_goto (tgt := 38) hx hb dX9_rate_28 (by decide) ?_
      exact W.iret (v := (-2000000000)) hx hb hr (fun t ht hW => ⟨(-2000000000), rfl, (by have hl0 := t_m2000000000; (try dsimp only); first | exact Or.inl ⟨by omega, by assumption⟩ | exact Or.inr ⟨by omega, by omega⟩), ht⟩) (fun q h => by cases h) dX9_rate_38
set_option maxHeartbeats 4000000 in
set_option maxRecDepth 100000 in
theorem g_X9_repair (l : Launch) (D : va_G) (E : Nat → Nat) (mh : Nat) (ma : Nat → Nat) (mcode : Int32) (mtoday : Int32) (moffs : Int32) (mmany : Int64) (msumW : Int64) (msumA : Int64) (msumR : Int64) (msumWW : Int64) (msumWA : Int64) (msumAA : Int64) (msumWR : Int64) (msumAR : Int64) (mupper : Int64) (mlower : Int64) (mrates : Int32) (mtaped : Int32) (mlaid : Int32) (mat : Int32) (mtk : Int32) (mtkAt : Int32) (mtkNumber : Int32) (mwaits : Int32) (mlisted : Int32) (mdealtMany : Int32) (mf3 : Nat → Int32) (mf8 : Nat → Int32) (p0 : Int32) (p1 : Int32) (sz : Nat) (hi_m : (0 ≤ mtoday.toInt ∧ mtoday.toInt ≤ 399) ∧ (0 ≤ moffs.toInt ∧ moffs.toInt ≤ 60) ∧ (0 ≤ mrates.toInt ∧ mrates.toInt ≤ 60) ∧ (0 ≤ mtaped.toInt ∧ mtaped.toInt ≤ 120) ∧ (0 ≤ mlisted.toInt ∧ mlisted.toInt ≤ 9) ∧ (0 ≤ mdealtMany.toInt ∧ mdealtMany.toInt ≤ 9)) : Met l yX9_repair (wl yX9_repair cX9_repair 5 (some .int)) (RM 3 0 0) (mu_P D E [.ref mh, .int p0, .int p1] [(mh, .inr (9, G9 ma mcode mtoday moffs mmany msumW msumA msumR msumWW msumWA msumAA msumWR msumAR mupper mlower mrates mtaped mlaid mat mtk mtkAt mtkNumber mwaits mlisted mdealtMany)), ((ma 3), .inl (E 0, 16, .inl mf3)), ((ma 8), .inl (E 1, 6400, .inl mf8))] sz) (va_Qi (fun (r : Int32) (u : (Nat → Int32)) => ((r.toInt = -1 ∧ ¬ ((0 ≤ p0.toInt ∧ p0.toInt ≤ 15) ∧ (0 ≤ p1.toInt ∧ p1.toInt ≤ mtoday.toInt)) ∧ u = mf8) ∨ (((0 ≤ p0.toInt ∧ p0.toInt ≤ 15) ∧ (0 ≤ p1.toInt ∧ p1.toInt ≤ mtoday.toInt)) ∧ (((mf3 (p0).toNatClampNeg).toInt = -5 ∧ r.toInt = -2) ∨ ((mf3 (p0).toNatClampNeg).toInt = 2 ∧ r.toInt = -3)) ∧ u = mf8) ∨ (((0 ≤ p0.toInt ∧ p0.toInt ≤ 15) ∧ (0 ≤ p1.toInt ∧ p1.toInt ≤ mtoday.toInt)) ∧ ((mf3 (p0).toNatClampNeg).toInt ≠ -5 ∧ (mf3 (p0).toNatClampNeg).toInt ≠ 2) ∧ (((mf8 (400 * p0 + p1).toNatClampNeg).toInt ≠ 0 ∧ r.toInt = 0) ∨ (¬ (mf8 (400 * p0 + p1).toNatClampNeg).toInt ≠ 0 ∧ r.toInt = 1)) ∧ u = upd mf8 (400 * p0 + p1).toNatClampNeg 1))) (mu_B D (va_A [(mh, .inr (9, G9 ma mcode mtoday moffs mmany msumW msumA msumR msumWW msumWA msumAA msumWR msumAR mupper mlower mrates mtaped mlaid mat mtk mtkAt mtkNumber mwaits mlisted mdealtMany)), ((ma 3), .inl (E 0, 16, .inl mf3)), ((ma 8), .inl (E 1, 6400, .inl mf8))] sz) (fun (u : (Nat → Int32)) => [(mh, .inr (9, G9 ma mcode mtoday moffs mmany msumW msumA msumR msumWW msumWA msumAA msumWR msumAR mupper mlower mrates mtaped mlaid mat mtk mtkAt mtkNumber mwaits mlisted mdealtMany)), ((ma 3), .inl (E 0, 16, .inl mf3)), ((ma 8), .inl (E 1, 6400, .inl u))])) (va_A [(mh, .inr (9, G9 ma mcode mtoday moffs mmany msumW msumA msumR msumWW msumWA msumAA msumWR msumAR mupper mlower mrates mtaped mlaid mat mtk mtkAt mtkNumber mwaits mlisted mdealtMany)), ((ma 3), .inl (E 0, 16, .inl mf3)), ((ma 8), .inl (E 1, 6400, .inl mf8))] sz)) 0 0 (va_A [(mh, .inr (9, G9 ma mcode mtoday moffs mmany msumW msumA msumR msumWW msumWA msumAA msumWR msumAR mupper mlower mrates mtaped mlaid mat mtk mtkAt mtkNumber mwaits mlisted mdealtMany)), ((ma 3), .inl (E 0, 16, .inl mf3)), ((ma 8), .inl (E 1, 6400, .inl mf8))] sz) := by
  refine Met.ofW (cc := cX9_repair) (maxL := 5) (ret := (some .int)) (by decide) rfl ?_
  intro p e s m args below meth c s₁ B hml hv
  obtain ⟨rfl, hsz, hP, hK, hD0⟩ := hv
  have hx := B.exec; have hb := B.bytes; have hr := B.returns
  have hts := atoms_spec (ws := wl yX9_repair cX9_repair 5 (some .int)) B.pre
  have htb : ∀ w ∈ tb, w.before _ s = true := fun w h => hts w (List.mem_cons_of_mem _ h)
  have hown : s.vm.findClass RX9 = some m.cls := findClass_of_methodNamed B.named
  have hlocks := B.notSynchronized
  subst hsz
  have hD := hD0.self (sz := s.heap.size)
  generalize hAe : va_A [(mh, .inr (9, G9 ma mcode mtoday moffs mmany msumW msumA msumR msumWW msumWA msumAA msumWR msumAR mupper mlower mrates mtaped mlaid mat mtk mtkAt mtkNumber mwaits mlisted mdealtMany)), ((ma 3), .inl (E 0, 16, .inl mf3)), ((ma 8), .inl (E 1, 6400, .inl mf8))] s.heap.size = A at hD ⊢
  have hA : ∀ q : Nat, s.heap.size ≤ q → A q := fun q h => by rw [← hAe]; exact Or.inr h
  have hS : va_S A s.heap s.heap [] := va_S.rf
  have hP : va_P D vwCl [(mh, .inr (9, G9 ma mcode mtoday moffs mmany msumW msumA msumR msumWW msumWA msumAA msumWR msumAR mupper mlower mrates mtaped mlaid mat mtk mtkAt mtkNumber mwaits mlisted mdealtMany)), ((ma 3), .inl (E 0, 16, .inl mf3)), ((ma 8), .inl (E 1, 6400, .inl mf8))] s.heap := hP
  have hl := lv_entry ([.ref mh, .int p0, .int p1]) (n := 5) (Nat.le_of_ble_eq_true rfl)
  rw [lg_entry_eq]
  generalize (lg_sl ([.ref mh, .int p0, .int p1]) ++ List.replicate (5 - (lg_sl ([.ref mh, .int p0, .int p1])).length) Slot.unset).toArray = ls at hl ⊢
  have hl : lv_has ls 5 [(0, .ref mh), (1, .int p0), (2, .int p1)] := hl
  have lo_p0 := i_lo p0; have hi_p0 := i_hi p0
  have lo_p1 := i_lo p1; have hi_p1 := i_hi p1
  refine lv_iload_n hx hb dX9_repair_0 rfl (lv_at hl 1 rfl) ?_
  refine callRS (rest := []) (As := [.int p0]) hx hb hml hown htb hK (g_X9_isPlace l D E p0 ) ok_X9_isPlace k_1182 k_1183 k_9 k_1184 ⟨(Nat.le_of_ble_eq_true rfl), (Nat.le_of_ble_eq_true rfl)⟩ ⟨(Nat.le_of_ble_eq_true rfl), (Nat.le_of_ble_eq_true rfl)⟩ hl.1 (Nat.le_of_ble_eq_true rfl) rfl rfl dX9_repair_1 (hP.sub (ws' := ([] : va_W)) [] rfl) (fun r_1 hw_2 => ?_)
  rcases hw_2 with ⟨hr_1, hw_2⟩ | ⟨hr_1, hw_2⟩
  ·
    refine W_top (y := .int 1) (by rw [hr_1]) ?_
    refine lv_if_eq (tgt := 19) hx hb dX9_repair_4 (by decide) (fun c_4 => absurd c_4 (by decide)) (fun c_4 => ?_)
    refine lv_iload_n hx hb dX9_repair_7 rfl (lv_at hl 2 rfl) ?_
    refine lv_iconst (v := 0) hx hb dX9_repair_8 (by decide) ?_
    refine lv_aload_n hx hb dX9_repair_9 rfl (lv_at hl 0 rfl) ?_
    refine va_get (D := D) (ci := 9) (v := .int mtoday) (C := RX9) (T := TX9) (N := 68) hx hb htb iX9 hown hK.1 hP 0 rfl rfl 1 (by decide) (htb _ k_959) (fun _ h9 => h9) rfl dX9_repair_10 ?_
    refine callRS (rest := []) (As := [.int p1, .int 0, .int mtoday]) hx hb hml hown htb hK (g_X9_in l D E p1 0 mtoday ) ok_X9_in k_1168 k_1169 k_9 k_1170 ⟨(Nat.le_of_ble_eq_true rfl), (Nat.le_of_ble_eq_true rfl)⟩ ⟨(Nat.le_of_ble_eq_true rfl), (Nat.le_of_ble_eq_true rfl)⟩ hl.1 (Nat.le_of_ble_eq_true rfl) rfl rfl dX9_repair_13 (hP.sub (ws' := ([] : va_W)) [] rfl) (fun r_5 hw_6 => ?_)
    try simp only [t_0] at hw_6
    rcases hw_6 with ⟨hr_5, hw_6⟩ | ⟨hr_5, hw_6⟩
    ·
      try simp only [t_0] at hw_6
      refine W_top (y := .int 1) (by rw [hr_5]) ?_
      refine lv_if_ne (tgt := 21) hx hb dX9_repair_16 (by decide) (fun c_8 => ?_) (fun c_8 => absurd c_8 (by decide))
      refine lv_aload_n hx hb dX9_repair_21 rfl (lv_at hl 0 rfl) ?_
      refine lv_iload_n hx hb dX9_repair_22 rfl (lv_at hl 1 rfl) ?_
      refine callRV (rest := []) (As := [.int p0]) hx hb hml hown htb hK (g_X9_watchAt l D E mh ma mcode mtoday moffs mmany msumW msumA msumR msumWW msumWA msumAA msumWR msumAR mupper mlower mrates mtaped mlaid mat mtk mtkAt mtkNumber mwaits mlisted mdealtMany mf3 p0 (by (try dsimp only); omega)) ok_X9_watchAt k_1212 k_1214 ks_41 k_9 k_1215 ⟨(Nat.le_of_ble_eq_true rfl), (Nat.le_of_ble_eq_true rfl)⟩ ⟨(Nat.le_of_ble_eq_true rfl), (Nat.le_of_ble_eq_true rfl)⟩ hl.1 (Nat.le_of_ble_eq_true rfl) rfl rfl dX9_repair_23 (hP.sub (ws' := [(mh, .inr (9, G9 ma mcode mtoday moffs mmany msumW msumA msumR msumWW msumWA msumAA msumWR msumAR mupper mlower mrates mtaped mlaid mat mtk mtkAt mtkNumber mwaits mlisted mdealtMany)), ((ma 3), .inl (E 0, 16, .inl mf3))]) [0, 1] rfl) rfl rfl 0 rfl (fun r_9 hw_10 => ?_)
      refine lv_istore_n (lv' := [(3, .int r_9), (0, .ref mh), (1, .int p0), (2, .int p1)]) hx hb dX9_repair_26 rfl hl (by decide) rfl (fun ls hl => ?_)
      refine lv_iload_n hx hb dX9_repair_27 rfl (lv_at hl 0 rfl) ?_
      refine lv_if_ge (tgt := 33) hx hb dX9_repair_28 (by decide) (fun c_12 => ?_) (fun c_12 => ?_)
      ·
        have ic_12 : 0 ≤ r_9.toInt := by first | exact (g_le t_0 rfl).mp c_12 | (have h := mt (g_lt rfl t_0).mpr c_12; omega)
        clear c_12
        refine lv_aload_n hx hb dX9_repair_33 rfl (lv_at hl 1 rfl) ?_
        refine va_get (D := D) (ci := 9) (v := .ref (ma 8)) (C := RX9) (T := TX9) (N := 68) hx hb htb iX9 hown hK.1 hP 0 rfl rfl 8 (by decide) (htb _ k_966) (fun _ h9 => h9) rfl dX9_repair_34 ?_
        refine lv_sipush (v := 400) hx hb dX9_repair_37 (by decide) ?_
        refine lv_iload_n hx hb dX9_repair_40 rfl (lv_at hl 2 rfl) ?_
        refine lv_imul hx hb dX9_repair_41 ?_
        refine lv_topi (fun z_13 ez_13 => ?_)
        have jz_13 : z_13.toInt = 400 * p0.toInt := by rw [ez_13]; exact g_mul t_400 rfl (by omega) (by omega)
        refine lv_iload_n hx hb dX9_repair_42 rfl (lv_at hl 3 rfl) ?_
        refine lv_iadd hx hb dX9_repair_43 ?_
        refine lv_topi (fun z_14 ez_14 => ?_)
        have jz_14 : z_14.toInt = z_13.toInt + p1.toInt := by rw [ez_14]; exact g_add rfl rfl (by omega) (by omega)
        refine va_zald hx hb hK.1 hP 2 1 rfl rfl (g_in rfl (by omega) (by omega)) dX9_repair_44 ?_
        refine lv_topi (fun z_15 ez_15 => ?_)
        have kz_15 := congrArg Int32.toInt ez_15
        refine lv_if_eq (tgt := 52) hx hb dX9_repair_45 (by decide) (fun c_16 => ?_) (fun c_16 => ?_)
        ·
          have ic_16 : z_15.toInt = 0 := (g_eq rfl t_0).mp c_16
          clear c_16
          refine lv_iconst (v := 1) hx hb dX9_repair_52 (by decide) ?_
          refine lv_istore (lv' := [(4, .int 1), (3, .int r_9), (0, .ref mh), (1, .int p0), (2, .int p1)]) hx hb dX9_repair_53 hl (by decide) rfl (fun ls hl => ?_)
          refine lv_aload_n hx hb dX9_repair_55 rfl (lv_at hl 2 rfl) ?_
          refine va_get (D := D) (ci := 9) (v := .ref (ma 8)) (C := RX9) (T := TX9) (N := 68) hx hb htb iX9 hown hK.1 hP 0 rfl rfl 8 (by decide) (htb _ k_966) (fun _ h9 => h9) rfl dX9_repair_56 ?_
          refine lv_sipush (v := 400) hx hb dX9_repair_59 (by decide) ?_
          refine lv_iload_n hx hb dX9_repair_62 rfl (lv_at hl 3 rfl) ?_
          refine lv_imul hx hb dX9_repair_63 ?_
          refine lv_topi (fun z_17 ez_17 => ?_)
          have jz_17 : z_17.toInt = 400 * p0.toInt := by rw [ez_17]; exact g_mul t_400 rfl (by omega) (by omega)
          refine lv_iload_n hx hb dX9_repair_64 rfl (lv_at hl 4 rfl) ?_
          refine lv_iadd hx hb dX9_repair_65 ?_
          refine lv_topi (fun z_18 ez_18 => ?_)
          have jz_18 : z_18.toInt = z_17.toInt + p1.toInt := by rw [ez_18]; exact g_add rfl rfl (by omega) (by omega)
          refine lv_iconst (v := 1) hx hb dX9_repair_66 (by decide) ?_
          refine va_zast hx hb hK.1 hP hD hS 2 1 rfl rfl (g_in rfl (by omega) (by omega)) dX9_repair_67 (fun H locs hP hD hS => ?_)
          have hP : va_P D vwCl [(mh, .inr (9, G9 ma mcode mtoday moffs mmany msumW msumA msumR msumWW msumWA msumAA msumWR msumAR mupper mlower mrates mtaped mlaid mat mtk mtkAt mtkNumber mwaits mlisted mdealtMany)), ((ma 3), .inl (E 0, 16, .inl mf3)), ((ma 8), .inl (E 1, 6400, .inl (upd mf8 (z_18 : Int32).toNatClampNeg (vp_nar .boolean 1))))] H := hP
          have hD := toW hP hD rfl
          refine lv_iload hx hb dX9_repair_68 (lv_at hl 0 rfl) ?_
          have hP9 := hP.sub (ws' := [(mh, .inr (9, G9 ma mcode mtoday moffs mmany msumW msumA msumR msumWW msumWA msumAA msumWR msumAR mupper mlower mrates mtaped mlaid mat mtk mtkAt mtkNumber mwaits mlisted mdealtMany)), ((ma 3), .inl (E 0, 16, .inl mf3)), ((ma 8), .inl (E 1, 6400, .inl (upd mf8 (z_18 : Int32).toNatClampNeg (vp_nar .boolean 1))))]) [0, 1, 2] rfl
          have hD9 := hD.sub (ws' := [(mh, .inr (9, G9 ma mcode mtoday moffs mmany msumW msumA msumR msumWW msumWA msumAA msumWR msumAR mupper mlower mrates mtaped mlaid mat mtk mtkAt mtkNumber mwaits mlisted mdealtMany)), ((ma 3), .inl (E 0, 16, .inl mf3)), ((ma 8), .inl (E 1, 6400, .inl (upd mf8 (z_18 : Int32).toNatClampNeg (vp_nar .boolean 1))))]) [0, 1, 2] (by decide) rfl
          exact W.iret (v := 1) hx hb hr (fun t ht hW => ⟨⟨1, (upd mf8 (z_18 : Int32).toNatClampNeg (vp_nar .boolean 1)), rfl, (by have hl0 := t_1; (try dsimp only); first | exact Or.inr (Or.inl ⟨by omega, by omega, rfl⟩) | exact Or.inr (Or.inr ⟨by omega, by omega, by subst_vars; omega, by subst_vars; rfl⟩)), by rw [ht]; exact hP9, hD9⟩, hS.F ht⟩) hS.2.2 dX9_repair_70
        ·
          have ic_16 : z_15.toInt ≠ 0 := mt (g_eq rfl t_0).mpr c_16
          clear c_16
          refine lv_iconst (v := 0) hx hb dX9_repair_48 (by decide) ?_
          refine lv_goto (tgt := 53) hx hb dX9_repair_49 (by decide) ?_
          refine lv_istore (lv' := [(4, .int 0), (3, .int r_9), (0, .ref mh), (1, .int p0), (2, .int p1)]) hx hb dX9_repair_53 hl (by decide) rfl (fun ls hl => ?_)
          refine lv_aload_n hx hb dX9_repair_55 rfl (lv_at hl 2 rfl) ?_
          refine va_get (D := D) (ci := 9) (v := .ref (ma 8)) (C := RX9) (T := TX9) (N := 68) hx hb htb iX9 hown hK.1 hP 0 rfl rfl 8 (by decide) (htb _ k_966) (fun _ h9 => h9) rfl dX9_repair_56 ?_
          refine lv_sipush (v := 400) hx hb dX9_repair_59 (by decide) ?_
          refine lv_iload_n hx hb dX9_repair_62 rfl (lv_at hl 3 rfl) ?_
          refine lv_imul hx hb dX9_repair_63 ?_
          refine lv_topi (fun z_19 ez_19 => ?_)
          have jz_19 : z_19.toInt = 400 * p0.toInt := by rw [ez_19]; exact g_mul t_400 rfl (by omega) (by omega)
          refine lv_iload_n hx hb dX9_repair_64 rfl (lv_at hl 4 rfl) ?_
          refine lv_iadd hx hb dX9_repair_65 ?_
          refine lv_topi (fun z_20 ez_20 => ?_)
          have jz_20 : z_20.toInt = z_19.toInt + p1.toInt := by rw [ez_20]; exact g_add rfl rfl (by omega) (by omega)
          refine lv_iconst (v := 1) hx hb dX9_repair_66 (by decide) ?_
          refine va_zast hx hb hK.1 hP hD hS 2 1 rfl rfl (g_in rfl (by omega) (by omega)) dX9_repair_67 (fun H locs hP hD hS => ?_)
          have hP : va_P D vwCl [(mh, .inr (9, G9 ma mcode mtoday moffs mmany msumW msumA msumR msumWW msumWA msumAA msumWR msumAR mupper mlower mrates mtaped mlaid mat mtk mtkAt mtkNumber mwaits mlisted mdealtMany)), ((ma 3), .inl (E 0, 16, .inl mf3)), ((ma 8), .inl (E 1, 6400, .inl (upd mf8 (z_20 : Int32).toNatClampNeg (vp_nar .boolean 1))))] H := hP
          have hD := toW hP hD rfl
          refine lv_iload hx hb dX9_repair_68 (lv_at hl 0 rfl) ?_
          have hP9 := hP.sub (ws' := [(mh, .inr (9, G9 ma mcode mtoday moffs mmany msumW msumA msumR msumWW msumWA msumAA msumWR msumAR mupper mlower mrates mtaped mlaid mat mtk mtkAt mtkNumber mwaits mlisted mdealtMany)), ((ma 3), .inl (E 0, 16, .inl mf3)), ((ma 8), .inl (E 1, 6400, .inl (upd mf8 (z_20 : Int32).toNatClampNeg (vp_nar .boolean 1))))]) [0, 1, 2] rfl
          have hD9 := hD.sub (ws' := [(mh, .inr (9, G9 ma mcode mtoday moffs mmany msumW msumA msumR msumWW msumWA msumAA msumWR msumAR mupper mlower mrates mtaped mlaid mat mtk mtkAt mtkNumber mwaits mlisted mdealtMany)), ((ma 3), .inl (E 0, 16, .inl mf3)), ((ma 8), .inl (E 1, 6400, .inl (upd mf8 (z_20 : Int32).toNatClampNeg (vp_nar .boolean 1))))]) [0, 1, 2] (by decide) rfl
          exact W.iret (v := 0) hx hb hr (fun t ht hW => ⟨⟨0, (upd mf8 (z_20 : Int32).toNatClampNeg (vp_nar .boolean 1)), rfl, (by have hl0 := t_0; (try dsimp only); first | exact Or.inr (Or.inl ⟨by omega, by omega, rfl⟩) | exact Or.inr (Or.inr ⟨by omega, by omega, by subst_vars; omega, by subst_vars; rfl⟩)), by rw [ht]; exact hP9, hD9⟩, hS.F ht⟩) hS.2.2 dX9_repair_70
      ·
        have ic_12 : r_9.toInt < 0 := by first | exact (g_lt rfl t_0).mp c_12 | (have h := mt (g_le t_0 rfl).mpr c_12; omega)
        clear c_12
        refine lv_iload_n hx hb dX9_repair_31 rfl (lv_at hl 0 rfl) ?_
        have hP9 := hP.sub (ws' := [(mh, .inr (9, G9 ma mcode mtoday moffs mmany msumW msumA msumR msumWW msumWA msumAA msumWR msumAR mupper mlower mrates mtaped mlaid mat mtk mtkAt mtkNumber mwaits mlisted mdealtMany)), ((ma 3), .inl (E 0, 16, .inl mf3)), ((ma 8), .inl (E 1, 6400, .inl mf8))]) [0, 1, 2] rfl
        have hD9 := hD.sub (ws' := [(mh, .inr (9, G9 ma mcode mtoday moffs mmany msumW msumA msumR msumWW msumWA msumAA msumWR msumAR mupper mlower mrates mtaped mlaid mat mtk mtkAt mtkNumber mwaits mlisted mdealtMany)), ((ma 3), .inl (E 0, 16, .inl mf3)), ((ma 8), .inl (E 1, 6400, .inl mf8))]) [0, 1, 2] (by decide) rfl
        exact W.iret (v := r_9) hx hb hr (fun t ht hW => ⟨⟨r_9, mf8, rfl, (by (try dsimp only); first | exact Or.inr (Or.inl ⟨by omega, by omega, rfl⟩) | exact Or.inr (Or.inr ⟨by omega, by omega, by subst_vars; omega, by subst_vars; rfl⟩) | exact Or.inl ⟨by omega, by omega, rfl⟩), by rw [ht]; exact hP9, hD9⟩, hS.F ht⟩) hS.2.2 dX9_repair_32
    ·
      try simp only [t_0] at hw_6
      refine W_top (y := .int 0) (by rw [hr_5]) ?_
      refine lv_if_ne (tgt := 21) hx hb dX9_repair_16 (by decide) (fun c_21 => absurd (by decide) c_21) (fun c_21 => ?_)
      refine lv_iconst (v := (-1)) hx hb dX9_repair_19 (by decide) ?_
      have hP9 := hP.sub (ws' := [(mh, .inr (9, G9 ma mcode mtoday moffs mmany msumW msumA msumR msumWW msumWA msumAA msumWR msumAR mupper mlower mrates mtaped mlaid mat mtk mtkAt mtkNumber mwaits mlisted mdealtMany)), ((ma 3), .inl (E 0, 16, .inl mf3)), ((ma 8), .inl (E 1, 6400, .inl mf8))]) [0, 1, 2] rfl
      have hD9 := hD.sub (ws' := [(mh, .inr (9, G9 ma mcode mtoday moffs mmany msumW msumA msumR msumWW msumWA msumAA msumWR msumAR mupper mlower mrates mtaped mlaid mat mtk mtkAt mtkNumber mwaits mlisted mdealtMany)), ((ma 3), .inl (E 0, 16, .inl mf3)), ((ma 8), .inl (E 1, 6400, .inl mf8))]) [0, 1, 2] (by decide) rfl
      exact W.iret (v := (-1)) hx hb hr (fun t ht hW => ⟨⟨(-1), mf8, rfl, (by have hl0 := t_m1; (try dsimp only); first | exact Or.inl ⟨by omega, by omega, rfl⟩ | exact Or.inr (Or.inl ⟨by omega, by omega, rfl⟩) | exact Or.inr (Or.inr ⟨by omega, by omega, by subst_vars; omega, by subst_vars; rfl⟩)), by rw [ht]; exact hP9, hD9⟩, hS.F ht⟩) hS.2.2 dX9_repair_20
  ·
    refine W_top (y := .int 0) (by rw [hr_1]) ?_
    refine lv_if_eq (tgt := 19) hx hb dX9_repair_4 (by decide) (fun c_22 => ?_) (fun c_22 => absurd (by decide) c_22)
    refine lv_iconst (v := (-1)) hx hb dX9_repair_19 (by decide) ?_
    have hP9 := hP.sub (ws' := [(mh, .inr (9, G9 ma mcode mtoday moffs mmany msumW msumA msumR msumWW msumWA msumAA msumWR msumAR mupper mlower mrates mtaped mlaid mat mtk mtkAt mtkNumber mwaits mlisted mdealtMany)), ((ma 3), .inl (E 0, 16, .inl mf3)), ((ma 8), .inl (E 1, 6400, .inl mf8))]) [0, 1, 2] rfl
    have hD9 := hD.sub (ws' := [(mh, .inr (9, G9 ma mcode mtoday moffs mmany msumW msumA msumR msumWW msumWA msumAA msumWR msumAR mupper mlower mrates mtaped mlaid mat mtk mtkAt mtkNumber mwaits mlisted mdealtMany)), ((ma 3), .inl (E 0, 16, .inl mf3)), ((ma 8), .inl (E 1, 6400, .inl mf8))]) [0, 1, 2] (by decide) rfl
    exact W.iret (v := (-1)) hx hb hr (fun t ht hW => ⟨⟨(-1), mf8, rfl, (by have hl0 := t_m1; (try dsimp only); first | exact Or.inl ⟨by omega, by omega, rfl⟩ | exact Or.inr (Or.inl ⟨by omega, by omega, rfl⟩) | exact Or.inr (Or.inr ⟨by omega, by omega, by subst_vars; omega, by subst_vars; rfl⟩)), by rw [ht]; exact hP9, hD9⟩, hS.F ht⟩) hS.2.2 dX9_repair_20
set_option maxHeartbeats 4000000 in
set_option maxRecDepth 100000 in
theorem g_X9_late (l : Launch) (D : va_G) (E : Nat → Nat) (mh : Nat) (ma : Nat → Nat) (mcode : Int32) (mtoday : Int32) (moffs : Int32) (mmany : Int64) (msumW : Int64) (msumA : Int64) (msumR : Int64) (msumWW : Int64) (msumWA : Int64) (msumAA : Int64) (msumWR : Int64) (msumAR : Int64) (mupper : Int64) (mlower : Int64) (mrates : Int32) (mtaped : Int32) (mlaid : Int32) (mat : Int32) (mtk : Int32) (mtkAt : Int32) (mtkNumber : Int32) (mwaits : Int32) (mlisted : Int32) (mdealtMany : Int32) (mf3 : Nat → Int32) (mf9 : Nat → Int32) (p0 : Int32) (p1 : Int32) (sz : Nat) (hi_m : (0 ≤ mtoday.toInt ∧ mtoday.toInt ≤ 399) ∧ (0 ≤ moffs.toInt ∧ moffs.toInt ≤ 60) ∧ (0 ≤ mrates.toInt ∧ mrates.toInt ≤ 60) ∧ (0 ≤ mtaped.toInt ∧ mtaped.toInt ≤ 120) ∧ (0 ≤ mlisted.toInt ∧ mlisted.toInt ≤ 9) ∧ (0 ≤ mdealtMany.toInt ∧ mdealtMany.toInt ≤ 9)) : Met l yX9_late (wl yX9_late cX9_late 5 (some .int)) (RM 3 0 0) (mu_P D E [.ref mh, .int p0, .int p1] [(mh, .inr (9, G9 ma mcode mtoday moffs mmany msumW msumA msumR msumWW msumWA msumAA msumWR msumAR mupper mlower mrates mtaped mlaid mat mtk mtkAt mtkNumber mwaits mlisted mdealtMany)), ((ma 3), .inl (E 0, 16, .inl mf3)), ((ma 9), .inl (E 1, 6400, .inl mf9))] sz) (va_Qi (fun (r : Int32) (u : (Nat → Int32)) => ((r.toInt = -1 ∧ ¬ ((0 ≤ p0.toInt ∧ p0.toInt ≤ 15) ∧ (0 ≤ p1.toInt ∧ p1.toInt ≤ mtoday.toInt)) ∧ u = mf9) ∨ (((0 ≤ p0.toInt ∧ p0.toInt ≤ 15) ∧ (0 ≤ p1.toInt ∧ p1.toInt ≤ mtoday.toInt)) ∧ (((mf3 (p0).toNatClampNeg).toInt = -5 ∧ r.toInt = -2) ∨ ((mf3 (p0).toNatClampNeg).toInt = 2 ∧ r.toInt = -3)) ∧ u = mf9) ∨ (((0 ≤ p0.toInt ∧ p0.toInt ≤ 15) ∧ (0 ≤ p1.toInt ∧ p1.toInt ≤ mtoday.toInt)) ∧ ((mf3 (p0).toNatClampNeg).toInt ≠ -5 ∧ (mf3 (p0).toNatClampNeg).toInt ≠ 2) ∧ (((mf9 (400 * p0 + p1).toNatClampNeg).toInt ≠ 0 ∧ r.toInt = 0) ∨ (¬ (mf9 (400 * p0 + p1).toNatClampNeg).toInt ≠ 0 ∧ r.toInt = 1)) ∧ u = upd mf9 (400 * p0 + p1).toNatClampNeg 1))) (mu_B D (va_A [(mh, .inr (9, G9 ma mcode mtoday moffs mmany msumW msumA msumR msumWW msumWA msumAA msumWR msumAR mupper mlower mrates mtaped mlaid mat mtk mtkAt mtkNumber mwaits mlisted mdealtMany)), ((ma 3), .inl (E 0, 16, .inl mf3)), ((ma 9), .inl (E 1, 6400, .inl mf9))] sz) (fun (u : (Nat → Int32)) => [(mh, .inr (9, G9 ma mcode mtoday moffs mmany msumW msumA msumR msumWW msumWA msumAA msumWR msumAR mupper mlower mrates mtaped mlaid mat mtk mtkAt mtkNumber mwaits mlisted mdealtMany)), ((ma 3), .inl (E 0, 16, .inl mf3)), ((ma 9), .inl (E 1, 6400, .inl u))])) (va_A [(mh, .inr (9, G9 ma mcode mtoday moffs mmany msumW msumA msumR msumWW msumWA msumAA msumWR msumAR mupper mlower mrates mtaped mlaid mat mtk mtkAt mtkNumber mwaits mlisted mdealtMany)), ((ma 3), .inl (E 0, 16, .inl mf3)), ((ma 9), .inl (E 1, 6400, .inl mf9))] sz)) 0 0 (va_A [(mh, .inr (9, G9 ma mcode mtoday moffs mmany msumW msumA msumR msumWW msumWA msumAA msumWR msumAR mupper mlower mrates mtaped mlaid mat mtk mtkAt mtkNumber mwaits mlisted mdealtMany)), ((ma 3), .inl (E 0, 16, .inl mf3)), ((ma 9), .inl (E 1, 6400, .inl mf9))] sz) := by
  refine Met.ofW (cc := cX9_late) (maxL := 5) (ret := (some .int)) (by decide) rfl ?_
  intro p e s m args below meth c s₁ B hml hv
  obtain ⟨rfl, hsz, hP, hK, hD0⟩ := hv
  have hx := B.exec; have hb := B.bytes; have hr := B.returns
  have hts := atoms_spec (ws := wl yX9_late cX9_late 5 (some .int)) B.pre
  have htb : ∀ w ∈ tb, w.before _ s = true := fun w h => hts w (List.mem_cons_of_mem _ h)
  have hown : s.vm.findClass RX9 = some m.cls := findClass_of_methodNamed B.named
  have hlocks := B.notSynchronized
  subst hsz
  have hD := hD0.self (sz := s.heap.size)
  generalize hAe : va_A [(mh, .inr (9, G9 ma mcode mtoday moffs mmany msumW msumA msumR msumWW msumWA msumAA msumWR msumAR mupper mlower mrates mtaped mlaid mat mtk mtkAt mtkNumber mwaits mlisted mdealtMany)), ((ma 3), .inl (E 0, 16, .inl mf3)), ((ma 9), .inl (E 1, 6400, .inl mf9))] s.heap.size = A at hD ⊢
  have hA : ∀ q : Nat, s.heap.size ≤ q → A q := fun q h => by rw [← hAe]; exact Or.inr h
  have hS : va_S A s.heap s.heap [] := va_S.rf
  have hP : va_P D vwCl [(mh, .inr (9, G9 ma mcode mtoday moffs mmany msumW msumA msumR msumWW msumWA msumAA msumWR msumAR mupper mlower mrates mtaped mlaid mat mtk mtkAt mtkNumber mwaits mlisted mdealtMany)), ((ma 3), .inl (E 0, 16, .inl mf3)), ((ma 9), .inl (E 1, 6400, .inl mf9))] s.heap := hP
  have hl := lv_entry ([.ref mh, .int p0, .int p1]) (n := 5) (Nat.le_of_ble_eq_true rfl)
  rw [lg_entry_eq]
  generalize (lg_sl ([.ref mh, .int p0, .int p1]) ++ List.replicate (5 - (lg_sl ([.ref mh, .int p0, .int p1])).length) Slot.unset).toArray = ls at hl ⊢
  have hl : lv_has ls 5 [(0, .ref mh), (1, .int p0), (2, .int p1)] := hl
  have lo_p0 := i_lo p0; have hi_p0 := i_hi p0
  have lo_p1 := i_lo p1; have hi_p1 := i_hi p1
  refine lv_iload_n hx hb dX9_late_0 rfl (lv_at hl 1 rfl) ?_
  refine callRS (rest := []) (As := [.int p0]) hx hb hml hown htb hK (g_X9_isPlace l D E p0 ) ok_X9_isPlace k_1182 k_1183 k_9 k_1184 ⟨(Nat.le_of_ble_eq_true rfl), (Nat.le_of_ble_eq_true rfl)⟩ ⟨(Nat.le_of_ble_eq_true rfl), (Nat.le_of_ble_eq_true rfl)⟩ hl.1 (Nat.le_of_ble_eq_true rfl) rfl rfl dX9_late_1 (hP.sub (ws' := ([] : va_W)) [] rfl) (fun r_1 hw_2 => ?_)
  rcases hw_2 with ⟨hr_1, hw_2⟩ | ⟨hr_1, hw_2⟩
  ·
    refine W_top (y := .int 1) (by rw [hr_1]) ?_
    refine lv_if_eq (tgt := 19) hx hb dX9_late_4 (by decide) (fun c_4 => absurd c_4 (by decide)) (fun c_4 => ?_)
    refine lv_iload_n hx hb dX9_late_7 rfl (lv_at hl 2 rfl) ?_
    refine lv_iconst (v := 0) hx hb dX9_late_8 (by decide) ?_
    refine lv_aload_n hx hb dX9_late_9 rfl (lv_at hl 0 rfl) ?_
    refine va_get (D := D) (ci := 9) (v := .int mtoday) (C := RX9) (T := TX9) (N := 68) hx hb htb iX9 hown hK.1 hP 0 rfl rfl 1 (by decide) (htb _ k_959) (fun _ h9 => h9) rfl dX9_late_10 ?_
    refine callRS (rest := []) (As := [.int p1, .int 0, .int mtoday]) hx hb hml hown htb hK (g_X9_in l D E p1 0 mtoday ) ok_X9_in k_1168 k_1169 k_9 k_1170 ⟨(Nat.le_of_ble_eq_true rfl), (Nat.le_of_ble_eq_true rfl)⟩ ⟨(Nat.le_of_ble_eq_true rfl), (Nat.le_of_ble_eq_true rfl)⟩ hl.1 (Nat.le_of_ble_eq_true rfl) rfl rfl dX9_late_13 (hP.sub (ws' := ([] : va_W)) [] rfl) (fun r_5 hw_6 => ?_)
    try simp only [t_0] at hw_6
    rcases hw_6 with ⟨hr_5, hw_6⟩ | ⟨hr_5, hw_6⟩
    ·
      try simp only [t_0] at hw_6
      refine W_top (y := .int 1) (by rw [hr_5]) ?_
      refine lv_if_ne (tgt := 21) hx hb dX9_late_16 (by decide) (fun c_8 => ?_) (fun c_8 => absurd c_8 (by decide))
      refine lv_aload_n hx hb dX9_late_21 rfl (lv_at hl 0 rfl) ?_
      refine lv_iload_n hx hb dX9_late_22 rfl (lv_at hl 1 rfl) ?_
      refine callRV (rest := []) (As := [.int p0]) hx hb hml hown htb hK (g_X9_watchAt l D E mh ma mcode mtoday moffs mmany msumW msumA msumR msumWW msumWA msumAA msumWR msumAR mupper mlower mrates mtaped mlaid mat mtk mtkAt mtkNumber mwaits mlisted mdealtMany mf3 p0 (by (try dsimp only); omega)) ok_X9_watchAt k_1212 k_1214 ks_41 k_9 k_1215 ⟨(Nat.le_of_ble_eq_true rfl), (Nat.le_of_ble_eq_true rfl)⟩ ⟨(Nat.le_of_ble_eq_true rfl), (Nat.le_of_ble_eq_true rfl)⟩ hl.1 (Nat.le_of_ble_eq_true rfl) rfl rfl dX9_late_23 (hP.sub (ws' := [(mh, .inr (9, G9 ma mcode mtoday moffs mmany msumW msumA msumR msumWW msumWA msumAA msumWR msumAR mupper mlower mrates mtaped mlaid mat mtk mtkAt mtkNumber mwaits mlisted mdealtMany)), ((ma 3), .inl (E 0, 16, .inl mf3))]) [0, 1] rfl) rfl rfl 0 rfl (fun r_9 hw_10 => ?_)
      refine lv_istore_n (lv' := [(3, .int r_9), (0, .ref mh), (1, .int p0), (2, .int p1)]) hx hb dX9_late_26 rfl hl (by decide) rfl (fun ls hl => ?_)
      refine lv_iload_n hx hb dX9_late_27 rfl (lv_at hl 0 rfl) ?_
      refine lv_if_ge (tgt := 33) hx hb dX9_late_28 (by decide) (fun c_12 => ?_) (fun c_12 => ?_)
      ·
        have ic_12 : 0 ≤ r_9.toInt := by first | exact (g_le t_0 rfl).mp c_12 | (have h := mt (g_lt rfl t_0).mpr c_12; omega)
        clear c_12
        refine lv_aload_n hx hb dX9_late_33 rfl (lv_at hl 1 rfl) ?_
        refine va_get (D := D) (ci := 9) (v := .ref (ma 9)) (C := RX9) (T := TX9) (N := 68) hx hb htb iX9 hown hK.1 hP 0 rfl rfl 9 (by decide) (htb _ k_967) (fun _ h9 => h9) rfl dX9_late_34 ?_
        refine lv_sipush (v := 400) hx hb dX9_late_37 (by decide) ?_
        refine lv_iload_n hx hb dX9_late_40 rfl (lv_at hl 2 rfl) ?_
        refine lv_imul hx hb dX9_late_41 ?_
        refine lv_topi (fun z_13 ez_13 => ?_)
        have jz_13 : z_13.toInt = 400 * p0.toInt := by rw [ez_13]; exact g_mul t_400 rfl (by omega) (by omega)
        refine lv_iload_n hx hb dX9_late_42 rfl (lv_at hl 3 rfl) ?_
        refine lv_iadd hx hb dX9_late_43 ?_
        refine lv_topi (fun z_14 ez_14 => ?_)
        have jz_14 : z_14.toInt = z_13.toInt + p1.toInt := by rw [ez_14]; exact g_add rfl rfl (by omega) (by omega)
        refine va_zald hx hb hK.1 hP 2 1 rfl rfl (g_in rfl (by omega) (by omega)) dX9_late_44 ?_
        refine lv_topi (fun z_15 ez_15 => ?_)
        have kz_15 := congrArg Int32.toInt ez_15
        refine lv_if_eq (tgt := 52) hx hb dX9_late_45 (by decide) (fun c_16 => ?_) (fun c_16 => ?_)
        ·
          have ic_16 : z_15.toInt = 0 := (g_eq rfl t_0).mp c_16
          clear c_16
          refine lv_iconst (v := 1) hx hb dX9_late_52 (by decide) ?_
          refine lv_istore (lv' := [(4, .int 1), (3, .int r_9), (0, .ref mh), (1, .int p0), (2, .int p1)]) hx hb dX9_late_53 hl (by decide) rfl (fun ls hl => ?_)
          refine lv_aload_n hx hb dX9_late_55 rfl (lv_at hl 2 rfl) ?_
          refine va_get (D := D) (ci := 9) (v := .ref (ma 9)) (C := RX9) (T := TX9) (N := 68) hx hb htb iX9 hown hK.1 hP 0 rfl rfl 9 (by decide) (htb _ k_967) (fun _ h9 => h9) rfl dX9_late_56 ?_
          refine lv_sipush (v := 400) hx hb dX9_late_59 (by decide) ?_
          refine lv_iload_n hx hb dX9_late_62 rfl (lv_at hl 3 rfl) ?_
          refine lv_imul hx hb dX9_late_63 ?_
          refine lv_topi (fun z_17 ez_17 => ?_)
          have jz_17 : z_17.toInt = 400 * p0.toInt := by rw [ez_17]; exact g_mul t_400 rfl (by omega) (by omega)
          refine lv_iload_n hx hb dX9_late_64 rfl (lv_at hl 4 rfl) ?_
          refine lv_iadd hx hb dX9_late_65 ?_
          refine lv_topi (fun z_18 ez_18 => ?_)
          have jz_18 : z_18.toInt = z_17.toInt + p1.toInt := by rw [ez_18]; exact g_add rfl rfl (by omega) (by omega)
          refine lv_iconst (v := 1) hx hb dX9_late_66 (by decide) ?_
          refine va_zast hx hb hK.1 hP hD hS 2 1 rfl rfl (g_in rfl (by omega) (by omega)) dX9_late_67 (fun H locs hP hD hS => ?_)
          have hP : va_P D vwCl [(mh, .inr (9, G9 ma mcode mtoday moffs mmany msumW msumA msumR msumWW msumWA msumAA msumWR msumAR mupper mlower mrates mtaped mlaid mat mtk mtkAt mtkNumber mwaits mlisted mdealtMany)), ((ma 3), .inl (E 0, 16, .inl mf3)), ((ma 9), .inl (E 1, 6400, .inl (upd mf9 (z_18 : Int32).toNatClampNeg (vp_nar .boolean 1))))] H := hP
          have hD := toW hP hD rfl
          refine lv_iload hx hb dX9_late_68 (lv_at hl 0 rfl) ?_
          have hP9 := hP.sub (ws' := [(mh, .inr (9, G9 ma mcode mtoday moffs mmany msumW msumA msumR msumWW msumWA msumAA msumWR msumAR mupper mlower mrates mtaped mlaid mat mtk mtkAt mtkNumber mwaits mlisted mdealtMany)), ((ma 3), .inl (E 0, 16, .inl mf3)), ((ma 9), .inl (E 1, 6400, .inl (upd mf9 (z_18 : Int32).toNatClampNeg (vp_nar .boolean 1))))]) [0, 1, 2] rfl
          have hD9 := hD.sub (ws' := [(mh, .inr (9, G9 ma mcode mtoday moffs mmany msumW msumA msumR msumWW msumWA msumAA msumWR msumAR mupper mlower mrates mtaped mlaid mat mtk mtkAt mtkNumber mwaits mlisted mdealtMany)), ((ma 3), .inl (E 0, 16, .inl mf3)), ((ma 9), .inl (E 1, 6400, .inl (upd mf9 (z_18 : Int32).toNatClampNeg (vp_nar .boolean 1))))]) [0, 1, 2] (by decide) rfl
          exact W.iret (v := 1) hx hb hr (fun t ht hW => ⟨⟨1, (upd mf9 (z_18 : Int32).toNatClampNeg (vp_nar .boolean 1)), rfl, (by have hl0 := t_1; (try dsimp only); first | exact Or.inr (Or.inl ⟨by omega, by omega, rfl⟩) | exact Or.inr (Or.inr ⟨by omega, by omega, by subst_vars; omega, by subst_vars; rfl⟩)), by rw [ht]; exact hP9, hD9⟩, hS.F ht⟩) hS.2.2 dX9_late_70
        ·
          have ic_16 : z_15.toInt ≠ 0 := mt (g_eq rfl t_0).mpr c_16
          clear c_16
          refine lv_iconst (v := 0) hx hb dX9_late_48 (by decide) ?_
          refine lv_goto (tgt := 53) hx hb dX9_late_49 (by decide) ?_
          refine lv_istore (lv' := [(4, .int 0), (3, .int r_9), (0, .ref mh), (1, .int p0), (2, .int p1)]) hx hb dX9_late_53 hl (by decide) rfl (fun ls hl => ?_)
          refine lv_aload_n hx hb dX9_late_55 rfl (lv_at hl 2 rfl) ?_
          refine va_get (D := D) (ci := 9) (v := .ref (ma 9)) (C := RX9) (T := TX9) (N := 68) hx hb htb iX9 hown hK.1 hP 0 rfl rfl 9 (by decide) (htb _ k_967) (fun _ h9 => h9) rfl dX9_late_56 ?_
          refine lv_sipush (v := 400) hx hb dX9_late_59 (by decide) ?_
          refine lv_iload_n hx hb dX9_late_62 rfl (lv_at hl 3 rfl) ?_
          refine lv_imul hx hb dX9_late_63 ?_
          refine lv_topi (fun z_19 ez_19 => ?_)
          have jz_19 : z_19.toInt = 400 * p0.toInt := by rw [ez_19]; exact g_mul t_400 rfl (by omega) (by omega)
          refine lv_iload_n hx hb dX9_late_64 rfl (lv_at hl 4 rfl) ?_
          refine lv_iadd hx hb dX9_late_65 ?_
          refine lv_topi (fun z_20 ez_20 => ?_)
          have jz_20 : z_20.toInt = z_19.toInt + p1.toInt := by rw [ez_20]; exact g_add rfl rfl (by omega) (by omega)
          refine lv_iconst (v := 1) hx hb dX9_late_66 (by decide) ?_
          refine va_zast hx hb hK.1 hP hD hS 2 1 rfl rfl (g_in rfl (by omega) (by omega)) dX9_late_67 (fun H locs hP hD hS => ?_)
          have hP : va_P D vwCl [(mh, .inr (9, G9 ma mcode mtoday moffs mmany msumW msumA msumR msumWW msumWA msumAA msumWR msumAR mupper mlower mrates mtaped mlaid mat mtk mtkAt mtkNumber mwaits mlisted mdealtMany)), ((ma 3), .inl (E 0, 16, .inl mf3)), ((ma 9), .inl (E 1, 6400, .inl (upd mf9 (z_20 : Int32).toNatClampNeg (vp_nar .boolean 1))))] H := hP
          have hD := toW hP hD rfl
          refine lv_iload hx hb dX9_late_68 (lv_at hl 0 rfl) ?_
          have hP9 := hP.sub (ws' := [(mh, .inr (9, G9 ma mcode mtoday moffs mmany msumW msumA msumR msumWW msumWA msumAA msumWR msumAR mupper mlower mrates mtaped mlaid mat mtk mtkAt mtkNumber mwaits mlisted mdealtMany)), ((ma 3), .inl (E 0, 16, .inl mf3)), ((ma 9), .inl (E 1, 6400, .inl (upd mf9 (z_20 : Int32).toNatClampNeg (vp_nar .boolean 1))))]) [0, 1, 2] rfl
          have hD9 := hD.sub (ws' := [(mh, .inr (9, G9 ma mcode mtoday moffs mmany msumW msumA msumR msumWW msumWA msumAA msumWR msumAR mupper mlower mrates mtaped mlaid mat mtk mtkAt mtkNumber mwaits mlisted mdealtMany)), ((ma 3), .inl (E 0, 16, .inl mf3)), ((ma 9), .inl (E 1, 6400, .inl (upd mf9 (z_20 : Int32).toNatClampNeg (vp_nar .boolean 1))))]) [0, 1, 2] (by decide) rfl
          exact W.iret (v := 0) hx hb hr (fun t ht hW => ⟨⟨0, (upd mf9 (z_20 : Int32).toNatClampNeg (vp_nar .boolean 1)), rfl, (by have hl0 := t_0; (try dsimp only); first | exact Or.inr (Or.inl ⟨by omega, by omega, rfl⟩) | exact Or.inr (Or.inr ⟨by omega, by omega, by subst_vars; omega, by subst_vars; rfl⟩)), by rw [ht]; exact hP9, hD9⟩, hS.F ht⟩) hS.2.2 dX9_late_70
      ·
        have ic_12 : r_9.toInt < 0 := by first | exact (g_lt rfl t_0).mp c_12 | (have h := mt (g_le t_0 rfl).mpr c_12; omega)
        clear c_12
        refine lv_iload_n hx hb dX9_late_31 rfl (lv_at hl 0 rfl) ?_
        have hP9 := hP.sub (ws' := [(mh, .inr (9, G9 ma mcode mtoday moffs mmany msumW msumA msumR msumWW msumWA msumAA msumWR msumAR mupper mlower mrates mtaped mlaid mat mtk mtkAt mtkNumber mwaits mlisted mdealtMany)), ((ma 3), .inl (E 0, 16, .inl mf3)), ((ma 9), .inl (E 1, 6400, .inl mf9))]) [0, 1, 2] rfl
        have hD9 := hD.sub (ws' := [(mh, .inr (9, G9 ma mcode mtoday moffs mmany msumW msumA msumR msumWW msumWA msumAA msumWR msumAR mupper mlower mrates mtaped mlaid mat mtk mtkAt mtkNumber mwaits mlisted mdealtMany)), ((ma 3), .inl (E 0, 16, .inl mf3)), ((ma 9), .inl (E 1, 6400, .inl mf9))]) [0, 1, 2] (by decide) rfl
        exact W.iret (v := r_9) hx hb hr (fun t ht hW => ⟨⟨r_9, mf9, rfl, (by (try dsimp only); first | exact Or.inr (Or.inl ⟨by omega, by omega, rfl⟩) | exact Or.inr (Or.inr ⟨by omega, by omega, by subst_vars; omega, by subst_vars; rfl⟩) | exact Or.inl ⟨by omega, by omega, rfl⟩), by rw [ht]; exact hP9, hD9⟩, hS.F ht⟩) hS.2.2 dX9_late_32
    ·
      try simp only [t_0] at hw_6
      refine W_top (y := .int 0) (by rw [hr_5]) ?_
      refine lv_if_ne (tgt := 21) hx hb dX9_late_16 (by decide) (fun c_21 => absurd (by decide) c_21) (fun c_21 => ?_)
      refine lv_iconst (v := (-1)) hx hb dX9_late_19 (by decide) ?_
      have hP9 := hP.sub (ws' := [(mh, .inr (9, G9 ma mcode mtoday moffs mmany msumW msumA msumR msumWW msumWA msumAA msumWR msumAR mupper mlower mrates mtaped mlaid mat mtk mtkAt mtkNumber mwaits mlisted mdealtMany)), ((ma 3), .inl (E 0, 16, .inl mf3)), ((ma 9), .inl (E 1, 6400, .inl mf9))]) [0, 1, 2] rfl
      have hD9 := hD.sub (ws' := [(mh, .inr (9, G9 ma mcode mtoday moffs mmany msumW msumA msumR msumWW msumWA msumAA msumWR msumAR mupper mlower mrates mtaped mlaid mat mtk mtkAt mtkNumber mwaits mlisted mdealtMany)), ((ma 3), .inl (E 0, 16, .inl mf3)), ((ma 9), .inl (E 1, 6400, .inl mf9))]) [0, 1, 2] (by decide) rfl
      exact W.iret (v := (-1)) hx hb hr (fun t ht hW => ⟨⟨(-1), mf9, rfl, (by have hl0 := t_m1; (try dsimp only); first | exact Or.inl ⟨by omega, by omega, rfl⟩ | exact Or.inr (Or.inl ⟨by omega, by omega, rfl⟩) | exact Or.inr (Or.inr ⟨by omega, by omega, by subst_vars; omega, by subst_vars; rfl⟩)), by rw [ht]; exact hP9, hD9⟩, hS.F ht⟩) hS.2.2 dX9_late_20
  ·
    refine W_top (y := .int 0) (by rw [hr_1]) ?_
    refine lv_if_eq (tgt := 19) hx hb dX9_late_4 (by decide) (fun c_22 => ?_) (fun c_22 => absurd (by decide) c_22)
    refine lv_iconst (v := (-1)) hx hb dX9_late_19 (by decide) ?_
    have hP9 := hP.sub (ws' := [(mh, .inr (9, G9 ma mcode mtoday moffs mmany msumW msumA msumR msumWW msumWA msumAA msumWR msumAR mupper mlower mrates mtaped mlaid mat mtk mtkAt mtkNumber mwaits mlisted mdealtMany)), ((ma 3), .inl (E 0, 16, .inl mf3)), ((ma 9), .inl (E 1, 6400, .inl mf9))]) [0, 1, 2] rfl
    have hD9 := hD.sub (ws' := [(mh, .inr (9, G9 ma mcode mtoday moffs mmany msumW msumA msumR msumWW msumWA msumAA msumWR msumAR mupper mlower mrates mtaped mlaid mat mtk mtkAt mtkNumber mwaits mlisted mdealtMany)), ((ma 3), .inl (E 0, 16, .inl mf3)), ((ma 9), .inl (E 1, 6400, .inl mf9))]) [0, 1, 2] (by decide) rfl
    exact W.iret (v := (-1)) hx hb hr (fun t ht hW => ⟨⟨(-1), mf9, rfl, (by have hl0 := t_m1; (try dsimp only); first | exact Or.inl ⟨by omega, by omega, rfl⟩ | exact Or.inr (Or.inl ⟨by omega, by omega, rfl⟩) | exact Or.inr (Or.inr ⟨by omega, by omega, by subst_vars; omega, by subst_vars; rfl⟩)), by rw [ht]; exact hP9, hD9⟩, hS.F ht⟩) hS.2.2 dX9_late_20
set_option maxHeartbeats 4000000 in
set_option maxRecDepth 100000 in
theorem g_X9_ageOf (l : Launch) (D : va_G) (E : Nat → Nat) (mh : Nat) (ma : Nat → Nat) (mcode : Int32) (mtoday : Int32) (moffs : Int32) (mmany : Int64) (msumW : Int64) (msumA : Int64) (msumR : Int64) (msumWW : Int64) (msumWA : Int64) (msumAA : Int64) (msumWR : Int64) (msumAR : Int64) (mupper : Int64) (mlower : Int64) (mrates : Int32) (mtaped : Int32) (mlaid : Int32) (mat : Int32) (mtk : Int32) (mtkAt : Int32) (mtkNumber : Int32) (mwaits : Int32) (mlisted : Int32) (mdealtMany : Int32) (mf8 : Nat → Int32) (p0 : Int32) (p1 : Int32) (hi_m : (0 ≤ mtoday.toInt ∧ mtoday.toInt ≤ 399) ∧ (0 ≤ moffs.toInt ∧ moffs.toInt ≤ 60) ∧ (0 ≤ mrates.toInt ∧ mrates.toInt ≤ 60) ∧ (0 ≤ mtaped.toInt ∧ mtaped.toInt ≤ 120) ∧ (0 ≤ mlisted.toInt ∧ mlisted.toInt ≤ 9) ∧ (0 ≤ mdealtMany.toInt ∧ mdealtMany.toInt ≤ 9)) (g0 : 0 ≤ p0.toInt ∧ p0.toInt ≤ 15) (g1 : 0 ≤ p1.toInt ∧ p1.toInt ≤ 399) : Met l yX9_ageOf (wl yX9_ageOf cX9_ageOf 4 (some .int)) (RM 0 0 0) (rd_P D E [.ref mh, .int p0, .int p1] [(mh, .inr (9, G9 ma mcode mtoday moffs mmany msumW msumA msumR msumWW msumWA msumAA msumWR msumAR mupper mlower mrates mtaped mlaid mat mtk mtkAt mtkNumber mwaits mlisted mdealtMany)), ((ma 8), .inl (E 1, 6400, .inl mf8))]) (rd_Q (fun r => (r.toInt = agM mf8 (400 * p0.toInt).toNat (p1.toInt).toNat))) 0 0 (fun _ => False) := by
  refine Met.ofW (cc := cX9_ageOf) (maxL := 4) (ret := (some .int)) (by decide) rfl ?_
  intro p e s m args below meth c s₁ B hml hv
  obtain ⟨rfl, hP, hK⟩ := hv
  have hx := B.exec; have hb := B.bytes; have hr := B.returns
  have hts := atoms_spec (ws := wl yX9_ageOf cX9_ageOf 4 (some .int)) B.pre
  have htb : ∀ w ∈ tb, w.before _ s = true := fun w h => hts w (List.mem_cons_of_mem _ h)
  have hown : s.vm.findClass RX9 = some m.cls := findClass_of_methodNamed B.named
  have hlocks := B.notSynchronized
  have hP : va_P D vwCl [(mh, .inr (9, G9 ma mcode mtoday moffs mmany msumW msumA msumR msumWW msumWA msumAA msumWR msumAR mupper mlower mrates mtaped mlaid mat mtk mtkAt mtkNumber mwaits mlisted mdealtMany)), ((ma 8), .inl (E 1, 6400, .inl mf8))] s.heap := hP
  have hl := lv_entry ([.ref mh, .int p0, .int p1]) (n := 4) (Nat.le_of_ble_eq_true rfl)
  rw [lg_entry_eq]
  generalize (lg_sl ([.ref mh, .int p0, .int p1]) ++ List.replicate (4 - (lg_sl ([.ref mh, .int p0, .int p1])).length) Slot.unset).toArray = ls at hl ⊢
  have hl : lv_has ls 4 [(0, .ref mh), (1, .int p0), (2, .int p1)] := hl
  have lo_p0 := i_lo p0; have hi_p0 := i_hi p0
  have lo_p1 := i_lo p1; have hi_p1 := i_hi p1
  refine lv_iload_n hx hb dX9_ageOf_0 rfl (lv_at hl 2 rfl) ?_
  refine lv_istore_n (lv' := [(3, .int p1), (0, .ref mh), (1, .int p0), (2, .int p1)]) hx hb dX9_ageOf_1 rfl hl (by decide) rfl (fun ls hl => ?_)
  have loop_1 : ∀ (N_3 : Nat) (L3_2 : Int32)  (ls : Array Slot), 1 + L3_2.toInt < (N_3 : Int) → (-1 ≤ L3_2.toInt ∧ L3_2.toInt ≤ p1.toInt) → ((0 ≤ L3_2.toInt ∧ agM mf8 (400 * p0.toInt).toNat p1.toInt.toNat - (p1.toInt - L3_2.toInt) = agM mf8 (400 * p0.toInt).toNat L3_2.toInt.toNat) ∨ (L3_2.toInt = -1 ∧ agM mf8 (400 * p0.toInt).toNat p1.toInt.toNat = p1.toInt)) → lv_has ls 4 [(3, .int L3_2), (0, .ref mh), (1, .int p0), (2, .int p1)] → W p l e (headSpec (wl yX9_ageOf cX9_ageOf 4 (some .int)) (RM 0 0 0)).room s m [Value.ref mh, .int p0, .int p1].toArray below meth c s.heap [] 0 0 (MQ below (rd_Q (fun r => (r.toInt = agM mf8 (400 * p0.toInt).toNat (p1.toInt).toNat))) [Value.ref mh, .int p0, .int p1].toArray s 0 0 (fun _ => False)) (F0 m 2 ls []) := by
    intro N_3
    induction N_3 with
    | zero => intro L3_2  ls hm v0_2 v1_2 _; exfalso; omega
    | succ N_3 ih_2 =>
      intro L3_2 ls hm v0_2 v1_2 hl
      have lo_L3_2 := i_lo L3_2; have hi_L3_2 := i_hi L3_2
      refine lv_iload_n hx hb dX9_ageOf_2 rfl (lv_at hl 0 rfl) ?_
      refine lv_if_lt (tgt := 27) hx hb dX9_ageOf_3 (by decide) (fun c_4 => ?_) (fun c_4 => ?_)
      ·
        have ic_4 : L3_2.toInt < 0 := by first | exact (g_lt rfl t_0).mp c_4 | (have h := mt (g_le t_0 rfl).mpr c_4; omega)
        clear c_4
        refine lv_iload_n hx hb dX9_ageOf_27 rfl (lv_at hl 0 rfl) ?_
        refine lv_if_ge (tgt := 35) hx hb dX9_ageOf_28 (by decide) (fun c_5 => absurd c_5 (by rw [g_le t_0 rfl]; omega)) (fun c_5 => ?_)
        refine lv_iload_n hx hb dX9_ageOf_31 rfl (lv_at hl 3 rfl) ?_
        refine lv_goto (tgt := 38) hx hb dX9_ageOf_32 (by decide) ?_
        exact W.iret (v := p1) hx hb hr (fun t ht hW => ⟨p1, rfl, (by have h9 := v1_2; omega), ht⟩) (fun q h => by cases h) dX9_ageOf_38
      ·
        have ic_4 : 0 ≤ L3_2.toInt := by first | exact (g_le t_0 rfl).mp c_4 | (have h := mt (g_lt rfl t_0).mpr c_4; omega)
        clear c_4
        refine lv_aload_n hx hb dX9_ageOf_6 rfl (lv_at hl 1 rfl) ?_
        refine va_get (D := D) (ci := 9) (v := .ref (ma 8)) (C := RX9) (T := TX9) (N := 68) hx hb htb iX9 hown hK.1 hP 0 rfl rfl 8 (by decide) (htb _ k_966) (fun _ h9 => h9) rfl dX9_ageOf_7 ?_
        refine lv_sipush (v := 400) hx hb dX9_ageOf_10 (by decide) ?_
        refine lv_iload_n hx hb dX9_ageOf_13 rfl (lv_at hl 2 rfl) ?_
        refine lv_imul hx hb dX9_ageOf_14 ?_
        refine lv_topi (fun z_6 ez_6 => ?_)
        have jz_6 : z_6.toInt = 400 * p0.toInt := by rw [ez_6]; exact g_mul t_400 rfl (by omega) (by omega)
        refine lv_iload_n hx hb dX9_ageOf_15 rfl (lv_at hl 0 rfl) ?_
        refine lv_iadd hx hb dX9_ageOf_16 ?_
        refine lv_topi (fun z_7 ez_7 => ?_)
        have jz_7 : z_7.toInt = z_6.toInt + L3_2.toInt := by rw [ez_7]; exact g_add rfl rfl (by omega) (by omega)
        refine va_zald hx hb hK.1 hP 1 1 rfl rfl (g_in rfl (by omega) (by omega)) dX9_ageOf_17 ?_
        refine lv_topi (fun z_8 ez_8 => ?_)
        have kz_8 := congrArg Int32.toInt ez_8
        refine lv_if_ne (tgt := 27) hx hb dX9_ageOf_18 (by decide) (fun c_9 => ?_) (fun c_9 => ?_)
        ·
          have ic_9 : z_8.toInt ≠ 0 := mt (g_eq rfl t_0).mpr c_9
          clear c_9
          refine lv_iload_n hx hb dX9_ageOf_27 rfl (lv_at hl 0 rfl) ?_
          refine lv_if_ge (tgt := 35) hx hb dX9_ageOf_28 (by decide) (fun c_10 => ?_) (fun c_10 => absurd (by rw [g_le t_0 rfl]; omega) c_10)
          refine lv_iload_n hx hb dX9_ageOf_35 rfl (lv_at hl 3 rfl) ?_
          refine lv_iload_n hx hb dX9_ageOf_36 rfl (lv_at hl 0 rfl) ?_
          refine lv_isub hx hb dX9_ageOf_37 ?_
          refine lv_topi (fun z_11 ez_11 => ?_)
          have jz_11 : z_11.toInt = p1.toInt - L3_2.toInt := by rw [ez_11]; exact g_sub rfl rfl (by omega) (by omega)
          exact W.iret (v := z_11) hx hb hr (fun t ht hW => ⟨z_11, rfl, (by have h8 := agm_here (f := mf8) (b := (400 * p0.toInt).toNat) (n := L3_2.toInt.toNat) (by have c1 := i_clamp0 (x := z_7) (by omega); rw [show (400 * p0.toInt).toNat + L3_2.toInt.toNat = (z_7).toNatClampNeg by omega, ← ez_8]; omega); have h9 := v1_2; omega), ht⟩) (fun q h => by cases h) dX9_ageOf_38
        ·
          have ic_9 : z_8.toInt = 0 := (g_eq rfl t_0).mp c_9
          clear c_9
          obtain ⟨z_12, ez_12⟩ : ∃ y : Int32, y = L3_2 + (-1) := ⟨_, rfl⟩
          have jz_12 : z_12.toInt = L3_2.toInt + -1 := by rw [ez_12]; exact g_add rfl t_m1 (by omega) (by omega)
          refine lv_iinc (v := z_12) (lv' := [(3, .int z_12), (0, .ref mh), (1, .int p0), (2, .int p1)]) hx hb dX9_ageOf_21 hl (k := 0) rfl (by rw [ez_12]; rfl) (by decide) rfl (fun ls hl => ?_)
          refine lv_goto (tgt := 2) hx hb dX9_ageOf_24 (by decide) ?_
          exact ih_2 z_12 _ (by (try dsimp only); omega) (by (try dsimp only); omega) (agm_back v1_2 (by omega) (by omega) (by have c1 := i_clamp0 (x := z_7) (by omega); rw [show (400 * p0.toInt).toNat + L3_2.toInt.toNat = (z_7).toNatClampNeg by omega, ← ez_8]; omega) (by omega)) (lv_sub hl [0, 1, 2, 3] rfl)
  exact loop_1 401 p1 _ (by (try dsimp only); omega) (by (try dsimp only); omega) (Or.inl ⟨by omega, by omega⟩)  (lv_sub hl [0, 1, 2, 3] rfl)
set_option maxHeartbeats 4000000 in
set_option maxRecDepth 100000 in
theorem g_X9_age (l : Launch) (D : va_G) (E : Nat → Nat) (mh : Nat) (ma : Nat → Nat) (mcode : Int32) (mtoday : Int32) (moffs : Int32) (mmany : Int64) (msumW : Int64) (msumA : Int64) (msumR : Int64) (msumWW : Int64) (msumWA : Int64) (msumAA : Int64) (msumWR : Int64) (msumAR : Int64) (mupper : Int64) (mlower : Int64) (mrates : Int32) (mtaped : Int32) (mlaid : Int32) (mat : Int32) (mtk : Int32) (mtkAt : Int32) (mtkNumber : Int32) (mwaits : Int32) (mlisted : Int32) (mdealtMany : Int32) (mf3 : Nat → Int32) (mf8 : Nat → Int32) (p0 : Int32) (p1 : Int32) (hi_m : (0 ≤ mtoday.toInt ∧ mtoday.toInt ≤ 399) ∧ (0 ≤ moffs.toInt ∧ moffs.toInt ≤ 60) ∧ (0 ≤ mrates.toInt ∧ mrates.toInt ≤ 60) ∧ (0 ≤ mtaped.toInt ∧ mtaped.toInt ≤ 120) ∧ (0 ≤ mlisted.toInt ∧ mlisted.toInt ≤ 9) ∧ (0 ≤ mdealtMany.toInt ∧ mdealtMany.toInt ≤ 9)) : Met l yX9_age (wl yX9_age cX9_age 4 (some .int)) (RM 3 0 0) (rd_P D E [.ref mh, .int p0, .int p1] [(mh, .inr (9, G9 ma mcode mtoday moffs mmany msumW msumA msumR msumWW msumWA msumAA msumWR msumAR mupper mlower mrates mtaped mlaid mat mtk mtkAt mtkNumber mwaits mlisted mdealtMany)), ((ma 3), .inl (E 0, 16, .inl mf3)), ((ma 8), .inl (E 1, 6400, .inl mf8))]) (rd_Q (fun r => ((r.toInt = -1 ∧ ¬ ((0 ≤ p0.toInt ∧ p0.toInt ≤ 15) ∧ (0 ≤ p1.toInt ∧ p1.toInt ≤ 399))) ∨ (((0 ≤ p0.toInt ∧ p0.toInt ≤ 15) ∧ (0 ≤ p1.toInt ∧ p1.toInt ≤ 399)) ∧ (((mf3 (p0).toNatClampNeg).toInt = -5 ∧ r.toInt = -2) ∨ ((mf3 (p0).toNatClampNeg).toInt = 2 ∧ r.toInt = -3))) ∨ (((0 ≤ p0.toInt ∧ p0.toInt ≤ 15) ∧ (0 ≤ p1.toInt ∧ p1.toInt ≤ 399)) ∧ ((mf3 (p0).toNatClampNeg).toInt ≠ -5 ∧ (mf3 (p0).toNatClampNeg).toInt ≠ 2) ∧ r.toInt = agM mf8 (400 * p0.toInt).toNat (p1.toInt).toNat)))) 0 0 (fun _ => False) := by
  refine Met.ofW (cc := cX9_age) (maxL := 4) (ret := (some .int)) (by decide) rfl ?_
  intro p e s m args below meth c s₁ B hml hv
  obtain ⟨rfl, hP, hK⟩ := hv
  have hx := B.exec; have hb := B.bytes; have hr := B.returns
  have hts := atoms_spec (ws := wl yX9_age cX9_age 4 (some .int)) B.pre
  have htb : ∀ w ∈ tb, w.before _ s = true := fun w h => hts w (List.mem_cons_of_mem _ h)
  have hown : s.vm.findClass RX9 = some m.cls := findClass_of_methodNamed B.named
  have hlocks := B.notSynchronized
  have hP : va_P D vwCl [(mh, .inr (9, G9 ma mcode mtoday moffs mmany msumW msumA msumR msumWW msumWA msumAA msumWR msumAR mupper mlower mrates mtaped mlaid mat mtk mtkAt mtkNumber mwaits mlisted mdealtMany)), ((ma 3), .inl (E 0, 16, .inl mf3)), ((ma 8), .inl (E 1, 6400, .inl mf8))] s.heap := hP
  have hl := lv_entry ([.ref mh, .int p0, .int p1]) (n := 4) (Nat.le_of_ble_eq_true rfl)
  rw [lg_entry_eq]
  generalize (lg_sl ([.ref mh, .int p0, .int p1]) ++ List.replicate (4 - (lg_sl ([.ref mh, .int p0, .int p1])).length) Slot.unset).toArray = ls at hl ⊢
  have hl : lv_has ls 4 [(0, .ref mh), (1, .int p0), (2, .int p1)] := hl
  have lo_p0 := i_lo p0; have hi_p0 := i_hi p0
  have lo_p1 := i_lo p1; have hi_p1 := i_hi p1
  refine lv_iload_n hx hb dX9_age_0 rfl (lv_at hl 1 rfl) ?_
  refine callRS (rest := []) (As := [.int p0]) hx hb hml hown htb hK (g_X9_isPlace l D E p0 ) ok_X9_isPlace k_1182 k_1183 k_9 k_1184 ⟨(Nat.le_of_ble_eq_true rfl), (Nat.le_of_ble_eq_true rfl)⟩ ⟨(Nat.le_of_ble_eq_true rfl), (Nat.le_of_ble_eq_true rfl)⟩ hl.1 (Nat.le_of_ble_eq_true rfl) rfl rfl dX9_age_1 (hP.sub (ws' := ([] : va_W)) [] rfl) (fun r_1 hw_2 => ?_)
  rcases hw_2 with ⟨hr_1, hw_2⟩ | ⟨hr_1, hw_2⟩
  ·
    refine W_top (y := .int 1) (by rw [hr_1]) ?_
    refine lv_if_eq (tgt := 14) hx hb dX9_age_4 (by decide) (fun c_4 => absurd c_4 (by decide)) (fun c_4 => ?_)
    refine lv_iload_n hx hb dX9_age_7 rfl (lv_at hl 2 rfl) ?_
    refine callRS (rest := []) (As := [.int p1]) hx hb hml hown htb hK (g_X9_isDay l D E p1 ) ok_X9_isDay k_1175 k_1176 k_9 k_1177 ⟨(Nat.le_of_ble_eq_true rfl), (Nat.le_of_ble_eq_true rfl)⟩ ⟨(Nat.le_of_ble_eq_true rfl), (Nat.le_of_ble_eq_true rfl)⟩ hl.1 (Nat.le_of_ble_eq_true rfl) rfl rfl dX9_age_8 (hP.sub (ws' := ([] : va_W)) [] rfl) (fun r_5 hw_6 => ?_)
    rcases hw_6 with ⟨hr_5, hw_6⟩ | ⟨hr_5, hw_6⟩
    ·
      refine W_top (y := .int 1) (by rw [hr_5]) ?_
      refine lv_if_ne (tgt := 16) hx hb dX9_age_11 (by decide) (fun c_8 => ?_) (fun c_8 => absurd c_8 (by decide))
      refine lv_aload_n hx hb dX9_age_16 rfl (lv_at hl 0 rfl) ?_
      refine lv_iload_n hx hb dX9_age_17 rfl (lv_at hl 1 rfl) ?_
      refine callRV (rest := []) (As := [.int p0]) hx hb hml hown htb hK (g_X9_watchAt l D E mh ma mcode mtoday moffs mmany msumW msumA msumR msumWW msumWA msumAA msumWR msumAR mupper mlower mrates mtaped mlaid mat mtk mtkAt mtkNumber mwaits mlisted mdealtMany mf3 p0 (by (try dsimp only); omega)) ok_X9_watchAt k_1212 k_1214 ks_41 k_9 k_1215 ⟨(Nat.le_of_ble_eq_true rfl), (Nat.le_of_ble_eq_true rfl)⟩ ⟨(Nat.le_of_ble_eq_true rfl), (Nat.le_of_ble_eq_true rfl)⟩ hl.1 (Nat.le_of_ble_eq_true rfl) rfl rfl dX9_age_18 (hP.sub (ws' := [(mh, .inr (9, G9 ma mcode mtoday moffs mmany msumW msumA msumR msumWW msumWA msumAA msumWR msumAR mupper mlower mrates mtaped mlaid mat mtk mtkAt mtkNumber mwaits mlisted mdealtMany)), ((ma 3), .inl (E 0, 16, .inl mf3))]) [0, 1] rfl) rfl rfl 0 rfl (fun r_9 hw_10 => ?_)
      refine lv_istore_n (lv' := [(3, .int r_9), (0, .ref mh), (1, .int p0), (2, .int p1)]) hx hb dX9_age_21 rfl hl (by decide) rfl (fun ls hl => ?_)
      refine lv_iload_n hx hb dX9_age_22 rfl (lv_at hl 0 rfl) ?_
      refine lv_if_ge (tgt := 30) hx hb dX9_age_23 (by decide) (fun c_12 => ?_) (fun c_12 => ?_)
      ·
        have ic_12 : 0 ≤ r_9.toInt := by first | exact (g_le t_0 rfl).mp c_12 | (have h := mt (g_lt rfl t_0).mpr c_12; omega)
        clear c_12
        refine lv_aload_n hx hb dX9_age_30 rfl (lv_at hl 1 rfl) ?_
        refine lv_iload_n hx hb dX9_age_31 rfl (lv_at hl 2 rfl) ?_
        refine lv_iload_n hx hb dX9_age_32 rfl (lv_at hl 3 rfl) ?_
        refine callRV (rest := []) (As := [.int p0, .int p1]) hx hb hml hown htb hK (g_X9_ageOf l D E mh ma mcode mtoday moffs mmany msumW msumA msumR msumWW msumWA msumAA msumWR msumAR mupper mlower mrates mtaped mlaid mat mtk mtkAt mtkNumber mwaits mlisted mdealtMany mf8 p0 p1 (by (try dsimp only); omega) (by (try dsimp only); omega) (by (try dsimp only); omega)) ok_X9_ageOf k_1250 k_1252 ks_44 k_9 k_1253 ⟨(Nat.le_of_ble_eq_true rfl), (Nat.le_of_ble_eq_true rfl)⟩ ⟨(Nat.le_of_ble_eq_true rfl), (Nat.le_of_ble_eq_true rfl)⟩ hl.1 (Nat.le_of_ble_eq_true rfl) rfl rfl dX9_age_33 (hP.sub (ws' := [(mh, .inr (9, G9 ma mcode mtoday moffs mmany msumW msumA msumR msumWW msumWA msumAA msumWR msumAR mupper mlower mrates mtaped mlaid mat mtk mtkAt mtkNumber mwaits mlisted mdealtMany)), ((ma 8), .inl (E 1, 6400, .inl mf8))]) [0, 2] rfl) rfl rfl 0 rfl (fun r_13 hw_14 => ?_)
        exact W.iret (v := r_13) hx hb hr (fun t ht hW => ⟨r_13, rfl, (by (try dsimp only); first | exact Or.inr (Or.inl ⟨by omega, by omega⟩) | exact Or.inr (Or.inr ⟨by omega, by omega, by assumption⟩) | exact Or.inl ⟨by omega, by omega⟩), ht⟩) (fun q h => by cases h) dX9_age_36
      ·
        have ic_12 : r_9.toInt < 0 := by first | exact (g_lt rfl t_0).mp c_12 | (have h := mt (g_le t_0 rfl).mpr c_12; omega)
        clear c_12
        refine lv_iload_n hx hb dX9_age_26 rfl (lv_at hl 0 rfl) ?_
        refine lv_goto (tgt := 36) hx hb dX9_age_27 (by decide) ?_
        exact W.iret (v := r_9) hx hb hr (fun t ht hW => ⟨r_9, rfl, (by (try dsimp only); first | exact Or.inr (Or.inl ⟨by omega, by omega⟩) | exact Or.inr (Or.inr ⟨by omega, by omega, by assumption⟩) | exact Or.inl ⟨by omega, by omega⟩), ht⟩) (fun q h => by cases h) dX9_age_36
    ·
      refine W_top (y := .int 0) (by rw [hr_5]) ?_
      refine lv_if_ne (tgt := 16) hx hb dX9_age_11 (by decide) (fun c_16 => absurd (by decide) c_16) (fun c_16 => ?_)
      refine lv_iconst (v := (-1)) hx hb dX9_age_14 (by decide) ?_
      exact W.iret (v := (-1)) hx hb hr (fun t ht hW => ⟨(-1), rfl, (by have hl0 := t_m1; (try dsimp only); first | exact Or.inl ⟨by omega, by omega⟩ | exact Or.inr (Or.inl ⟨by omega, by omega⟩) | exact Or.inr (Or.inr ⟨by omega, by omega, by assumption⟩)), ht⟩) (fun q h => by cases h) dX9_age_15
  ·
    refine W_top (y := .int 0) (by rw [hr_1]) ?_
    refine lv_if_eq (tgt := 14) hx hb dX9_age_4 (by decide) (fun c_17 => ?_) (fun c_17 => absurd (by decide) c_17)
    refine lv_iconst (v := (-1)) hx hb dX9_age_14 (by decide) ?_
    exact W.iret (v := (-1)) hx hb hr (fun t ht hW => ⟨(-1), rfl, (by have hl0 := t_m1; (try dsimp only); first | exact Or.inl ⟨by omega, by omega⟩ | exact Or.inr (Or.inl ⟨by omega, by omega⟩) | exact Or.inr (Or.inr ⟨by omega, by omega, by assumption⟩)), ht⟩) (fun q h => by cases h) dX9_age_15
set_option maxHeartbeats 4000000 in
set_option maxRecDepth 100000 in
theorem g_X9_off (l : Launch) (D : va_G) (E : Nat → Nat) (mh : Nat) (ma : Nat → Nat) (mcode : Int32) (mtoday : Int32) (moffs : Int32) (mmany : Int64) (msumW : Int64) (msumA : Int64) (msumR : Int64) (msumWW : Int64) (msumWA : Int64) (msumAA : Int64) (msumWR : Int64) (msumAR : Int64) (mupper : Int64) (mlower : Int64) (mrates : Int32) (mtaped : Int32) (mlaid : Int32) (mat : Int32) (mtk : Int32) (mtkAt : Int32) (mtkNumber : Int32) (mwaits : Int32) (mlisted : Int32) (mdealtMany : Int32) (mf12 : Nat → Int32) (mf13 : Nat → Int32) (mf14 : Nat → Int32) (mf15 : Nat → Int32) (mf16 : Nat → Int32) (p0 : Int32) (p1 : Int32) (p2 : Int32) (p3 : Int32) (sz : Nat) (hi_m : (0 ≤ mtoday.toInt ∧ mtoday.toInt ≤ 399) ∧ (0 ≤ moffs.toInt ∧ moffs.toInt ≤ 60) ∧ (0 ≤ mrates.toInt ∧ mrates.toInt ≤ 60) ∧ (0 ≤ mtaped.toInt ∧ mtaped.toInt ≤ 120) ∧ (0 ≤ mlisted.toInt ∧ mlisted.toInt ≤ 9) ∧ (0 ≤ mdealtMany.toInt ∧ mdealtMany.toInt ≤ 9)) : Met l yX9_off (wl yX9_off cX9_off 5 (some .int)) (RM 2 0 0) (mu_P D E [.ref mh, .int p0, .int p1, .int p2, .int p3] [(mh, .inr (9, G9 ma mcode mtoday moffs mmany msumW msumA msumR msumWW msumWA msumAA msumWR msumAR mupper mlower mrates mtaped mlaid mat mtk mtkAt mtkNumber mwaits mlisted mdealtMany)), ((ma 12), .inl (E 0, 60, .inl mf12)), ((ma 13), .inl (E 0, 60, .inl mf13)), ((ma 14), .inl (E 0, 60, .inl mf14)), ((ma 15), .inl (E 0, 60, .inl mf15)), ((ma 16), .inl (E 0, 60, .inl mf16))] sz) (va_Qi (fun (r : Int32) (u : (Nat → Int32) × (Nat → Int32) × (Nat → Int32) × (Nat → Int32) × (Nat → Int32) × (Int32)) => (0 ≤ u.2.2.2.2.2.toInt ∧ u.2.2.2.2.2.toInt ≤ 60) ∧ ((¬ ((1 ≤ p0.toInt ∧ p0.toInt ≤ 5) ∧ (0 ≤ p1.toInt ∧ p1.toInt ≤ 399) ∧ (0 ≤ p2.toInt ∧ p2.toInt ≤ 399) ∧ p1.toInt ≤ p2.toInt ∧ (-10000 ≤ p3.toInt ∧ p3.toInt ≤ 10000)) ∧ r.toInt = -1 ∧ u.2.2.2.2.2.toInt = moffs.toInt ∧ u.1 = mf12 ∧ u.2.1 = mf13 ∧ u.2.2.1 = mf14 ∧ u.2.2.2.1 = mf15 ∧ u.2.2.2.2.1 = mf16) ∨ (((1 ≤ p0.toInt ∧ p0.toInt ≤ 5) ∧ (0 ≤ p1.toInt ∧ p1.toInt ≤ 399) ∧ (0 ≤ p2.toInt ∧ p2.toInt ≤ 399) ∧ p1.toInt ≤ p2.toInt ∧ (-10000 ≤ p3.toInt ∧ p3.toInt ≤ 10000)) ∧ moffs.toInt = 60 ∧ r.toInt = -5 ∧ u.2.2.2.2.2.toInt = moffs.toInt ∧ u.1 = mf12 ∧ u.2.1 = mf13 ∧ u.2.2.1 = mf14 ∧ u.2.2.2.1 = mf15 ∧ u.2.2.2.2.1 = mf16) ∨ (((1 ≤ p0.toInt ∧ p0.toInt ≤ 5) ∧ (0 ≤ p1.toInt ∧ p1.toInt ≤ 399) ∧ (0 ≤ p2.toInt ∧ p2.toInt ≤ 399) ∧ p1.toInt ≤ p2.toInt ∧ (-10000 ≤ p3.toInt ∧ p3.toInt ≤ 10000)) ∧ moffs.toInt < 60 ∧ r.toInt = moffs.toInt + 1 ∧ u.2.2.2.2.2.toInt = r.toInt ∧ u.1 = upd mf12 (moffs).toNatClampNeg p0 ∧ u.2.1 = upd mf13 (moffs).toNatClampNeg p1 ∧ u.2.2.1 = upd mf14 (moffs).toNatClampNeg p2 ∧ u.2.2.2.1 = upd mf15 (moffs).toNatClampNeg p3 ∧ u.2.2.2.2.1 = upd mf16 (moffs).toNatClampNeg mtoday))) (mu_B D (va_A [(mh, .inr (9, G9 ma mcode mtoday moffs mmany msumW msumA msumR msumWW msumWA msumAA msumWR msumAR mupper mlower mrates mtaped mlaid mat mtk mtkAt mtkNumber mwaits mlisted mdealtMany)), ((ma 12), .inl (E 0, 60, .inl mf12)), ((ma 13), .inl (E 0, 60, .inl mf13)), ((ma 14), .inl (E 0, 60, .inl mf14)), ((ma 15), .inl (E 0, 60, .inl mf15)), ((ma 16), .inl (E 0, 60, .inl mf16))] sz) (fun (u : (Nat → Int32) × (Nat → Int32) × (Nat → Int32) × (Nat → Int32) × (Nat → Int32) × (Int32)) => [(mh, .inr (9, G9 ma mcode mtoday u.2.2.2.2.2 mmany msumW msumA msumR msumWW msumWA msumAA msumWR msumAR mupper mlower mrates mtaped mlaid mat mtk mtkAt mtkNumber mwaits mlisted mdealtMany)), ((ma 12), .inl (E 0, 60, .inl u.1)), ((ma 13), .inl (E 0, 60, .inl u.2.1)), ((ma 14), .inl (E 0, 60, .inl u.2.2.1)), ((ma 15), .inl (E 0, 60, .inl u.2.2.2.1)), ((ma 16), .inl (E 0, 60, .inl u.2.2.2.2.1))])) (va_A [(mh, .inr (9, G9 ma mcode mtoday moffs mmany msumW msumA msumR msumWW msumWA msumAA msumWR msumAR mupper mlower mrates mtaped mlaid mat mtk mtkAt mtkNumber mwaits mlisted mdealtMany)), ((ma 12), .inl (E 0, 60, .inl mf12)), ((ma 13), .inl (E 0, 60, .inl mf13)), ((ma 14), .inl (E 0, 60, .inl mf14)), ((ma 15), .inl (E 0, 60, .inl mf15)), ((ma 16), .inl (E 0, 60, .inl mf16))] sz)) 0 0 (va_A [(mh, .inr (9, G9 ma mcode mtoday moffs mmany msumW msumA msumR msumWW msumWA msumAA msumWR msumAR mupper mlower mrates mtaped mlaid mat mtk mtkAt mtkNumber mwaits mlisted mdealtMany)), ((ma 12), .inl (E 0, 60, .inl mf12)), ((ma 13), .inl (E 0, 60, .inl mf13)), ((ma 14), .inl (E 0, 60, .inl mf14)), ((ma 15), .inl (E 0, 60, .inl mf15)), ((ma 16), .inl (E 0, 60, .inl mf16))] sz) := by
  refine Met.ofW (cc := cX9_off) (maxL := 5) (ret := (some .int)) (by decide) rfl ?_
  intro p e s m args below meth c s₁ B hml hv
  obtain ⟨rfl, hsz, hP, hK, hD0⟩ := hv
  have hx := B.exec; have hb := B.bytes; have hr := B.returns
  have hts := atoms_spec (ws := wl yX9_off cX9_off 5 (some .int)) B.pre
  have htb : ∀ w ∈ tb, w.before _ s = true := fun w h => hts w (List.mem_cons_of_mem _ h)
  have hown : s.vm.findClass RX9 = some m.cls := findClass_of_methodNamed B.named
  have hlocks := B.notSynchronized
  subst hsz
  have hD := hD0.self (sz := s.heap.size)
  generalize hAe : va_A [(mh, .inr (9, G9 ma mcode mtoday moffs mmany msumW msumA msumR msumWW msumWA msumAA msumWR msumAR mupper mlower mrates mtaped mlaid mat mtk mtkAt mtkNumber mwaits mlisted mdealtMany)), ((ma 12), .inl (E 0, 60, .inl mf12)), ((ma 13), .inl (E 0, 60, .inl mf13)), ((ma 14), .inl (E 0, 60, .inl mf14)), ((ma 15), .inl (E 0, 60, .inl mf15)), ((ma 16), .inl (E 0, 60, .inl mf16))] s.heap.size = A at hD ⊢
  have hA : ∀ q : Nat, s.heap.size ≤ q → A q := fun q h => by rw [← hAe]; exact Or.inr h
  have hS : va_S A s.heap s.heap [] := va_S.rf
  have hP : va_P D vwCl [(mh, .inr (9, G9 ma mcode mtoday moffs mmany msumW msumA msumR msumWW msumWA msumAA msumWR msumAR mupper mlower mrates mtaped mlaid mat mtk mtkAt mtkNumber mwaits mlisted mdealtMany)), ((ma 12), .inl (E 0, 60, .inl mf12)), ((ma 13), .inl (E 0, 60, .inl mf13)), ((ma 14), .inl (E 0, 60, .inl mf14)), ((ma 15), .inl (E 0, 60, .inl mf15)), ((ma 16), .inl (E 0, 60, .inl mf16))] s.heap := hP
  have hl := lv_entry ([.ref mh, .int p0, .int p1, .int p2, .int p3]) (n := 5) (Nat.le_of_ble_eq_true rfl)
  rw [lg_entry_eq]
  generalize (lg_sl ([.ref mh, .int p0, .int p1, .int p2, .int p3]) ++ List.replicate (5 - (lg_sl ([.ref mh, .int p0, .int p1, .int p2, .int p3])).length) Slot.unset).toArray = ls at hl ⊢
  have hl : lv_has ls 5 [(0, .ref mh), (1, .int p0), (2, .int p1), (3, .int p2), (4, .int p3)] := hl
  have lo_p0 := i_lo p0; have hi_p0 := i_hi p0
  have lo_p1 := i_lo p1; have hi_p1 := i_hi p1
  have lo_p2 := i_lo p2; have hi_p2 := i_hi p2
  have lo_p3 := i_lo p3; have hi_p3 := i_hi p3
  refine lv_iload_n hx hb dX9_off_0 rfl (lv_at hl 1 rfl) ?_
  refine lv_iconst (v := 1) hx hb dX9_off_1 (by decide) ?_
  refine lv_iconst (v := 5) hx hb dX9_off_2 (by decide) ?_
  refine callRS (rest := []) (As := [.int p0, .int 1, .int 5]) hx hb hml hown htb hK (g_X9_in l D E p0 1 5 ) ok_X9_in k_1168 k_1169 k_9 k_1170 ⟨(Nat.le_of_ble_eq_true rfl), (Nat.le_of_ble_eq_true rfl)⟩ ⟨(Nat.le_of_ble_eq_true rfl), (Nat.le_of_ble_eq_true rfl)⟩ hl.1 (Nat.le_of_ble_eq_true rfl) rfl rfl dX9_off_3 (hP.sub (ws' := ([] : va_W)) [] rfl) (fun r_1 hw_2 => ?_)
  try simp only [t_1, t_5] at hw_2
  rcases hw_2 with ⟨hr_1, hw_2⟩ | ⟨hr_1, hw_2⟩
  ·
    try simp only [t_1, t_5] at hw_2
    refine W_top (y := .int 1) (by rw [hr_1]) ?_
    refine lv_if_eq (tgt := 42) hx hb dX9_off_6 (by decide) (fun c_4 => absurd c_4 (by decide)) (fun c_4 => ?_)
    refine lv_iload_n hx hb dX9_off_9 rfl (lv_at hl 2 rfl) ?_
    refine callRS (rest := []) (As := [.int p1]) hx hb hml hown htb hK (g_X9_isDay l D E p1 ) ok_X9_isDay k_1175 k_1176 k_9 k_1177 ⟨(Nat.le_of_ble_eq_true rfl), (Nat.le_of_ble_eq_true rfl)⟩ ⟨(Nat.le_of_ble_eq_true rfl), (Nat.le_of_ble_eq_true rfl)⟩ hl.1 (Nat.le_of_ble_eq_true rfl) rfl rfl dX9_off_10 (hP.sub (ws' := ([] : va_W)) [] rfl) (fun r_5 hw_6 => ?_)
    rcases hw_6 with ⟨hr_5, hw_6⟩ | ⟨hr_5, hw_6⟩
    ·
      refine W_top (y := .int 1) (by rw [hr_5]) ?_
      refine lv_if_eq (tgt := 42) hx hb dX9_off_13 (by decide) (fun c_8 => absurd c_8 (by decide)) (fun c_8 => ?_)
      refine lv_iload_n hx hb dX9_off_16 rfl (lv_at hl 3 rfl) ?_
      refine callRS (rest := []) (As := [.int p2]) hx hb hml hown htb hK (g_X9_isDay l D E p2 ) ok_X9_isDay k_1175 k_1176 k_9 k_1177 ⟨(Nat.le_of_ble_eq_true rfl), (Nat.le_of_ble_eq_true rfl)⟩ ⟨(Nat.le_of_ble_eq_true rfl), (Nat.le_of_ble_eq_true rfl)⟩ hl.1 (Nat.le_of_ble_eq_true rfl) rfl rfl dX9_off_17 (hP.sub (ws' := ([] : va_W)) [] rfl) (fun r_9 hw_10 => ?_)
      rcases hw_10 with ⟨hr_9, hw_10⟩ | ⟨hr_9, hw_10⟩
      ·
        refine W_top (y := .int 1) (by rw [hr_9]) ?_
        refine lv_if_eq (tgt := 42) hx hb dX9_off_20 (by decide) (fun c_12 => absurd c_12 (by decide)) (fun c_12 => ?_)
        refine lv_iload_n hx hb dX9_off_23 rfl (lv_at hl 2 rfl) ?_
        refine lv_iload_n hx hb dX9_off_24 rfl (lv_at hl 3 rfl) ?_
        refine lv_icmp_gt (tgt := 42) hx hb dX9_off_25 (by decide) (fun c_13 => ?_) (fun c_13 => ?_)
        ·
          have ic_13 : p2.toInt < p1.toInt := by first | exact (g_lt rfl rfl).mp c_13 | (have h := mt (g_le rfl rfl).mpr c_13; omega)
          clear c_13
          refine lv_iconst (v := (-1)) hx hb dX9_off_42 (by decide) ?_
          have hP9 := hP.sub (ws' := [(mh, .inr (9, G9 ma mcode mtoday moffs mmany msumW msumA msumR msumWW msumWA msumAA msumWR msumAR mupper mlower mrates mtaped mlaid mat mtk mtkAt mtkNumber mwaits mlisted mdealtMany)), ((ma 12), .inl (E 0, 60, .inl mf12)), ((ma 13), .inl (E 0, 60, .inl mf13)), ((ma 14), .inl (E 0, 60, .inl mf14)), ((ma 15), .inl (E 0, 60, .inl mf15)), ((ma 16), .inl (E 0, 60, .inl mf16))]) [0, 1, 2, 3, 4, 5] rfl
          have hD9 := hD.sub (ws' := [(mh, .inr (9, G9 ma mcode mtoday moffs mmany msumW msumA msumR msumWW msumWA msumAA msumWR msumAR mupper mlower mrates mtaped mlaid mat mtk mtkAt mtkNumber mwaits mlisted mdealtMany)), ((ma 12), .inl (E 0, 60, .inl mf12)), ((ma 13), .inl (E 0, 60, .inl mf13)), ((ma 14), .inl (E 0, 60, .inl mf14)), ((ma 15), .inl (E 0, 60, .inl mf15)), ((ma 16), .inl (E 0, 60, .inl mf16))]) [0, 1, 2, 3, 4, 5] (by decide) rfl
          exact W.iret (v := (-1)) hx hb hr (fun t ht hW => ⟨⟨(-1), (mf12, mf13, mf14, mf15, mf16, moffs), rfl, ⟨(by (try dsimp only); omega), (by have hl0 := t_m1; (try dsimp only); first | exact Or.inl ⟨by omega, by omega, by omega, rfl, rfl, rfl, rfl, rfl⟩ | exact Or.inr (Or.inr ⟨by omega, by omega, by omega, by omega, rfl, rfl, rfl, rfl, rfl⟩))⟩, by rw [ht]; exact hP9, hD9⟩, hS.F ht⟩) hS.2.2 dX9_off_43
        ·
          have ic_13 : p1.toInt ≤ p2.toInt := by first | exact (g_le rfl rfl).mp c_13 | (have h := mt (g_lt rfl rfl).mpr c_13; omega)
          clear c_13
          refine lv_iload hx hb dX9_off_28 (lv_at hl 4 rfl) ?_
          refine lv_sipush (v := (-10000)) hx hb dX9_off_30 (by decide) ?_
          refine lv_sipush (v := 10000) hx hb dX9_off_33 (by decide) ?_
          refine callRS (rest := []) (As := [.int p3, .int (-10000), .int 10000]) hx hb hml hown htb hK (g_X9_in l D E p3 (-10000) 10000 ) ok_X9_in k_1168 k_1169 k_9 k_1170 ⟨(Nat.le_of_ble_eq_true rfl), (Nat.le_of_ble_eq_true rfl)⟩ ⟨(Nat.le_of_ble_eq_true rfl), (Nat.le_of_ble_eq_true rfl)⟩ hl.1 (Nat.le_of_ble_eq_true rfl) rfl rfl dX9_off_36 (hP.sub (ws' := ([] : va_W)) [] rfl) (fun r_14 hw_15 => ?_)
          try simp only [t_m10000, t_10000] at hw_15
          rcases hw_15 with ⟨hr_14, hw_15⟩ | ⟨hr_14, hw_15⟩
          ·
            try simp only [t_m10000, t_10000] at hw_15
            refine W_top (y := .int 1) (by rw [hr_14]) ?_
            refine lv_if_ne (tgt := 44) hx hb dX9_off_39 (by decide) (fun c_17 => ?_) (fun c_17 => absurd c_17 (by decide))
            refine lv_aload_n hx hb dX9_off_44 rfl (lv_at hl 0 rfl) ?_
            refine va_get (D := D) (ci := 9) (v := .int moffs) (C := RX9) (T := TX9) (N := 68) hx hb htb iX9 hown hK.1 hP 0 rfl rfl 11 (by decide) (htb _ k_969) (fun _ h9 => h9) rfl dX9_off_45 ?_
            refine lv_bipush (v := 60) hx hb dX9_off_48 (by decide) ?_
            refine lv_icmp_ne (tgt := 56) hx hb dX9_off_50 (by decide) (fun c_18 => ?_) (fun c_18 => ?_)
            ·
              have ic_18 : moffs.toInt ≠ 60 := mt (g_eq rfl t_60).mpr c_18
              clear c_18
              refine lv_aload_n hx hb dX9_off_56 rfl (lv_at hl 0 rfl) ?_
              refine va_get (D := D) (ci := 9) (v := .ref (ma 12)) (C := RX9) (T := TX9) (N := 68) hx hb htb iX9 hown hK.1 hP 0 rfl rfl 12 (by decide) (htb _ k_970) (fun _ h9 => h9) rfl dX9_off_57 ?_
              refine lv_aload_n hx hb dX9_off_60 rfl (lv_at hl 0 rfl) ?_
              refine va_get (D := D) (ci := 9) (v := .int moffs) (C := RX9) (T := TX9) (N := 68) hx hb htb iX9 hown hK.1 hP 0 rfl rfl 11 (by decide) (htb _ k_969) (fun _ h9 => h9) rfl dX9_off_61 ?_
              refine lv_iload_n hx hb dX9_off_64 rfl (lv_at hl 1 rfl) ?_
              refine va_iast hx hb hK.1 hP hD hS 1 0 rfl rfl (g_in rfl (by omega) (by omega)) dX9_off_65 (fun H locs hP hD hS => ?_)
              have hP : va_P D vwCl [(mh, .inr (9, G9 ma mcode mtoday moffs mmany msumW msumA msumR msumWW msumWA msumAA msumWR msumAR mupper mlower mrates mtaped mlaid mat mtk mtkAt mtkNumber mwaits mlisted mdealtMany)), ((ma 12), .inl (E 0, 60, .inl (upd mf12 (moffs : Int32).toNatClampNeg p0))), ((ma 13), .inl (E 0, 60, .inl mf13)), ((ma 14), .inl (E 0, 60, .inl mf14)), ((ma 15), .inl (E 0, 60, .inl mf15)), ((ma 16), .inl (E 0, 60, .inl mf16))] H := hP
              have hD := toW hP hD rfl
              refine lv_aload_n hx hb dX9_off_66 rfl (lv_at hl 0 rfl) ?_
              refine va_get (D := D) (ci := 9) (v := .ref (ma 13)) (C := RX9) (T := TX9) (N := 68) hx hb htb iX9 hown hK.1 hP 0 rfl rfl 13 (by decide) (htb _ k_971) (fun _ h9 => h9) rfl dX9_off_67 ?_
              refine lv_aload_n hx hb dX9_off_70 rfl (lv_at hl 0 rfl) ?_
              refine va_get (D := D) (ci := 9) (v := .int moffs) (C := RX9) (T := TX9) (N := 68) hx hb htb iX9 hown hK.1 hP 0 rfl rfl 11 (by decide) (htb _ k_969) (fun _ h9 => h9) rfl dX9_off_71 ?_
              refine lv_iload_n hx hb dX9_off_74 rfl (lv_at hl 2 rfl) ?_
              refine va_iast hx hb hK.1 hP hD hS 2 0 rfl rfl (g_in rfl (by omega) (by omega)) dX9_off_75 (fun H locs hP hD hS => ?_)
              have hP : va_P D vwCl [(mh, .inr (9, G9 ma mcode mtoday moffs mmany msumW msumA msumR msumWW msumWA msumAA msumWR msumAR mupper mlower mrates mtaped mlaid mat mtk mtkAt mtkNumber mwaits mlisted mdealtMany)), ((ma 12), .inl (E 0, 60, .inl (upd mf12 (moffs : Int32).toNatClampNeg p0))), ((ma 13), .inl (E 0, 60, .inl (upd mf13 (moffs : Int32).toNatClampNeg p1))), ((ma 14), .inl (E 0, 60, .inl mf14)), ((ma 15), .inl (E 0, 60, .inl mf15)), ((ma 16), .inl (E 0, 60, .inl mf16))] H := hP
              have hD := toW hP hD rfl
              refine lv_aload_n hx hb dX9_off_76 rfl (lv_at hl 0 rfl) ?_
              refine va_get (D := D) (ci := 9) (v := .ref (ma 14)) (C := RX9) (T := TX9) (N := 68) hx hb htb iX9 hown hK.1 hP 0 rfl rfl 14 (by decide) (htb _ k_972) (fun _ h9 => h9) rfl dX9_off_77 ?_
              refine lv_aload_n hx hb dX9_off_80 rfl (lv_at hl 0 rfl) ?_
              refine va_get (D := D) (ci := 9) (v := .int moffs) (C := RX9) (T := TX9) (N := 68) hx hb htb iX9 hown hK.1 hP 0 rfl rfl 11 (by decide) (htb _ k_969) (fun _ h9 => h9) rfl dX9_off_81 ?_
              refine lv_iload_n hx hb dX9_off_84 rfl (lv_at hl 3 rfl) ?_
              refine va_iast hx hb hK.1 hP hD hS 3 0 rfl rfl (g_in rfl (by omega) (by omega)) dX9_off_85 (fun H locs hP hD hS => ?_)
              have hP : va_P D vwCl [(mh, .inr (9, G9 ma mcode mtoday moffs mmany msumW msumA msumR msumWW msumWA msumAA msumWR msumAR mupper mlower mrates mtaped mlaid mat mtk mtkAt mtkNumber mwaits mlisted mdealtMany)), ((ma 12), .inl (E 0, 60, .inl (upd mf12 (moffs : Int32).toNatClampNeg p0))), ((ma 13), .inl (E 0, 60, .inl (upd mf13 (moffs : Int32).toNatClampNeg p1))), ((ma 14), .inl (E 0, 60, .inl (upd mf14 (moffs : Int32).toNatClampNeg p2))), ((ma 15), .inl (E 0, 60, .inl mf15)), ((ma 16), .inl (E 0, 60, .inl mf16))] H := hP
              have hD := toW hP hD rfl
              refine lv_aload_n hx hb dX9_off_86 rfl (lv_at hl 0 rfl) ?_
              refine va_get (D := D) (ci := 9) (v := .ref (ma 15)) (C := RX9) (T := TX9) (N := 68) hx hb htb iX9 hown hK.1 hP 0 rfl rfl 15 (by decide) (htb _ k_973) (fun _ h9 => h9) rfl dX9_off_87 ?_
              refine lv_aload_n hx hb dX9_off_90 rfl (lv_at hl 0 rfl) ?_
              refine va_get (D := D) (ci := 9) (v := .int moffs) (C := RX9) (T := TX9) (N := 68) hx hb htb iX9 hown hK.1 hP 0 rfl rfl 11 (by decide) (htb _ k_969) (fun _ h9 => h9) rfl dX9_off_91 ?_
              refine lv_iload hx hb dX9_off_94 (lv_at hl 4 rfl) ?_
              refine va_iast hx hb hK.1 hP hD hS 4 0 rfl rfl (g_in rfl (by omega) (by omega)) dX9_off_96 (fun H locs hP hD hS => ?_)
              have hP : va_P D vwCl [(mh, .inr (9, G9 ma mcode mtoday moffs mmany msumW msumA msumR msumWW msumWA msumAA msumWR msumAR mupper mlower mrates mtaped mlaid mat mtk mtkAt mtkNumber mwaits mlisted mdealtMany)), ((ma 12), .inl (E 0, 60, .inl (upd mf12 (moffs : Int32).toNatClampNeg p0))), ((ma 13), .inl (E 0, 60, .inl (upd mf13 (moffs : Int32).toNatClampNeg p1))), ((ma 14), .inl (E 0, 60, .inl (upd mf14 (moffs : Int32).toNatClampNeg p2))), ((ma 15), .inl (E 0, 60, .inl (upd mf15 (moffs : Int32).toNatClampNeg p3))), ((ma 16), .inl (E 0, 60, .inl mf16))] H := hP
              have hD := toW hP hD rfl
              refine lv_aload_n hx hb dX9_off_97 rfl (lv_at hl 0 rfl) ?_
              refine va_get (D := D) (ci := 9) (v := .ref (ma 16)) (C := RX9) (T := TX9) (N := 68) hx hb htb iX9 hown hK.1 hP 0 rfl rfl 16 (by decide) (htb _ k_974) (fun _ h9 => h9) rfl dX9_off_98 ?_
              refine lv_aload_n hx hb dX9_off_101 rfl (lv_at hl 0 rfl) ?_
              refine va_get (D := D) (ci := 9) (v := .int moffs) (C := RX9) (T := TX9) (N := 68) hx hb htb iX9 hown hK.1 hP 0 rfl rfl 11 (by decide) (htb _ k_969) (fun _ h9 => h9) rfl dX9_off_102 ?_
              refine lv_aload_n hx hb dX9_off_105 rfl (lv_at hl 0 rfl) ?_
              refine va_get (D := D) (ci := 9) (v := .int mtoday) (C := RX9) (T := TX9) (N := 68) hx hb htb iX9 hown hK.1 hP 0 rfl rfl 1 (by decide) (htb _ k_959) (fun _ h9 => h9) rfl dX9_off_106 ?_
              refine va_iast hx hb hK.1 hP hD hS 5 0 rfl rfl (g_in rfl (by omega) (by omega)) dX9_off_109 (fun H locs hP hD hS => ?_)
              have hP : va_P D vwCl [(mh, .inr (9, G9 ma mcode mtoday moffs mmany msumW msumA msumR msumWW msumWA msumAA msumWR msumAR mupper mlower mrates mtaped mlaid mat mtk mtkAt mtkNumber mwaits mlisted mdealtMany)), ((ma 12), .inl (E 0, 60, .inl (upd mf12 (moffs : Int32).toNatClampNeg p0))), ((ma 13), .inl (E 0, 60, .inl (upd mf13 (moffs : Int32).toNatClampNeg p1))), ((ma 14), .inl (E 0, 60, .inl (upd mf14 (moffs : Int32).toNatClampNeg p2))), ((ma 15), .inl (E 0, 60, .inl (upd mf15 (moffs : Int32).toNatClampNeg p3))), ((ma 16), .inl (E 0, 60, .inl (upd mf16 (moffs : Int32).toNatClampNeg mtoday)))] H := hP
              have hD := toW hP hD rfl
              refine lv_aload_n hx hb dX9_off_110 rfl (lv_at hl 0 rfl) ?_
              refine lv_dup hx hb dX9_off_111 rfl ?_
              refine va_get (D := D) (ci := 9) (v := .int moffs) (C := RX9) (T := TX9) (N := 68) hx hb htb iX9 hown hK.1 hP 0 rfl rfl 11 (by decide) (htb _ k_969) (fun _ h9 => h9) rfl dX9_off_112 ?_
              refine lv_iconst (v := 1) hx hb dX9_off_115 (by decide) ?_
              refine lv_iadd hx hb dX9_off_116 ?_
              refine lv_topi (fun z_19 ez_19 => ?_)
              have jz_19 : z_19.toInt = moffs.toInt + 1 := by rw [ez_19]; exact g_add rfl t_1 (by omega) (by omega)
              refine va_put (D := D) (ci := 9) (v := .int z_19) (ty := .int) (C := RX9) (T := TX9) (N := 68) hx hb htb iX9 tyX9 tyX9_ok nmX9 hown hK.1 hP hD hS 0 rfl rfl 11 (by decide) (htb _ k_969) (fun _ h9 => h9) rfl (by decide +kernel) rfl rfl (Nat.le_of_ble_eq_true rfl) dX9_off_117 (fun H locs hP hD hS => ?_)
              have hP : va_P D vwCl [(mh, .inr (9, G9 ma mcode mtoday z_19 mmany msumW msumA msumR msumWW msumWA msumAA msumWR msumAR mupper mlower mrates mtaped mlaid mat mtk mtkAt mtkNumber mwaits mlisted mdealtMany)), ((ma 12), .inl (E 0, 60, .inl (upd mf12 (moffs : Int32).toNatClampNeg p0))), ((ma 13), .inl (E 0, 60, .inl (upd mf13 (moffs : Int32).toNatClampNeg p1))), ((ma 14), .inl (E 0, 60, .inl (upd mf14 (moffs : Int32).toNatClampNeg p2))), ((ma 15), .inl (E 0, 60, .inl (upd mf15 (moffs : Int32).toNatClampNeg p3))), ((ma 16), .inl (E 0, 60, .inl (upd mf16 (moffs : Int32).toNatClampNeg mtoday)))] H := hP
              have hD := toW hP hD rfl
              refine lv_aload_n hx hb dX9_off_120 rfl (lv_at hl 0 rfl) ?_
              refine va_get (D := D) (ci := 9) (v := .int z_19) (C := RX9) (T := TX9) (N := 68) hx hb htb iX9 hown hK.1 hP 0 rfl rfl 11 (by decide) (htb _ k_969) (fun _ h9 => h9) rfl dX9_off_121 ?_
              have hP9 := hP.sub (ws' := [(mh, .inr (9, G9 ma mcode mtoday z_19 mmany msumW msumA msumR msumWW msumWA msumAA msumWR msumAR mupper mlower mrates mtaped mlaid mat mtk mtkAt mtkNumber mwaits mlisted mdealtMany)), ((ma 12), .inl (E 0, 60, .inl (upd mf12 (moffs : Int32).toNatClampNeg p0))), ((ma 13), .inl (E 0, 60, .inl (upd mf13 (moffs : Int32).toNatClampNeg p1))), ((ma 14), .inl (E 0, 60, .inl (upd mf14 (moffs : Int32).toNatClampNeg p2))), ((ma 15), .inl (E 0, 60, .inl (upd mf15 (moffs : Int32).toNatClampNeg p3))), ((ma 16), .inl (E 0, 60, .inl (upd mf16 (moffs : Int32).toNatClampNeg mtoday)))]) [0, 1, 2, 3, 4, 5] rfl
              have hD9 := hD.sub (ws' := [(mh, .inr (9, G9 ma mcode mtoday z_19 mmany msumW msumA msumR msumWW msumWA msumAA msumWR msumAR mupper mlower mrates mtaped mlaid mat mtk mtkAt mtkNumber mwaits mlisted mdealtMany)), ((ma 12), .inl (E 0, 60, .inl (upd mf12 (moffs : Int32).toNatClampNeg p0))), ((ma 13), .inl (E 0, 60, .inl (upd mf13 (moffs : Int32).toNatClampNeg p1))), ((ma 14), .inl (E 0, 60, .inl (upd mf14 (moffs : Int32).toNatClampNeg p2))), ((ma 15), .inl (E 0, 60, .inl (upd mf15 (moffs : Int32).toNatClampNeg p3))), ((ma 16), .inl (E 0, 60, .inl (upd mf16 (moffs : Int32).toNatClampNeg mtoday)))]) [0, 1, 2, 3, 4, 5] (by decide) rfl
              exact W.iret (v := z_19) hx hb hr (fun t ht hW => ⟨⟨z_19, ((upd mf12 (moffs : Int32).toNatClampNeg p0), (upd mf13 (moffs : Int32).toNatClampNeg p1), (upd mf14 (moffs : Int32).toNatClampNeg p2), (upd mf15 (moffs : Int32).toNatClampNeg p3), (upd mf16 (moffs : Int32).toNatClampNeg mtoday), z_19), rfl, ⟨(by (try dsimp only); omega), (by (try dsimp only); first | exact Or.inr (Or.inr ⟨by omega, by omega, by omega, by omega, rfl, rfl, rfl, rfl, rfl⟩) | exact Or.inl ⟨by omega, by omega, by omega, rfl, rfl, rfl, rfl, rfl⟩ | exact Or.inr (Or.inl ⟨by omega, by omega, by omega, by omega, rfl, rfl, rfl, rfl, rfl⟩))⟩, by rw [ht]; exact hP9, hD9⟩, hS.F ht⟩) hS.2.2 dX9_off_124
            ·
              have ic_18 : moffs.toInt = 60 := (g_eq rfl t_60).mp c_18
              clear c_18
              refine lv_bipush (v := (-5)) hx hb dX9_off_53 (by decide) ?_
              have hP9 := hP.sub (ws' := [(mh, .inr (9, G9 ma mcode mtoday moffs mmany msumW msumA msumR msumWW msumWA msumAA msumWR msumAR mupper mlower mrates mtaped mlaid mat mtk mtkAt mtkNumber mwaits mlisted mdealtMany)), ((ma 12), .inl (E 0, 60, .inl mf12)), ((ma 13), .inl (E 0, 60, .inl mf13)), ((ma 14), .inl (E 0, 60, .inl mf14)), ((ma 15), .inl (E 0, 60, .inl mf15)), ((ma 16), .inl (E 0, 60, .inl mf16))]) [0, 1, 2, 3, 4, 5] rfl
              have hD9 := hD.sub (ws' := [(mh, .inr (9, G9 ma mcode mtoday moffs mmany msumW msumA msumR msumWW msumWA msumAA msumWR msumAR mupper mlower mrates mtaped mlaid mat mtk mtkAt mtkNumber mwaits mlisted mdealtMany)), ((ma 12), .inl (E 0, 60, .inl mf12)), ((ma 13), .inl (E 0, 60, .inl mf13)), ((ma 14), .inl (E 0, 60, .inl mf14)), ((ma 15), .inl (E 0, 60, .inl mf15)), ((ma 16), .inl (E 0, 60, .inl mf16))]) [0, 1, 2, 3, 4, 5] (by decide) rfl
              exact W.iret (v := (-5)) hx hb hr (fun t ht hW => ⟨⟨(-5), (mf12, mf13, mf14, mf15, mf16, moffs), rfl, ⟨(by (try dsimp only); omega), (by have hl0 := t_m5; (try dsimp only); first | exact Or.inr (Or.inl ⟨by omega, by omega, by omega, by omega, rfl, rfl, rfl, rfl, rfl⟩) | exact Or.inr (Or.inr ⟨by omega, by omega, by omega, by omega, rfl, rfl, rfl, rfl, rfl⟩))⟩, by rw [ht]; exact hP9, hD9⟩, hS.F ht⟩) hS.2.2 dX9_off_55
          ·
            try simp only [t_m10000, t_10000] at hw_15
            refine W_top (y := .int 0) (by rw [hr_14]) ?_
            refine lv_if_ne (tgt := 44) hx hb dX9_off_39 (by decide) (fun c_20 => absurd (by decide) c_20) (fun c_20 => ?_)
            refine lv_iconst (v := (-1)) hx hb dX9_off_42 (by decide) ?_
            have hP9 := hP.sub (ws' := [(mh, .inr (9, G9 ma mcode mtoday moffs mmany msumW msumA msumR msumWW msumWA msumAA msumWR msumAR mupper mlower mrates mtaped mlaid mat mtk mtkAt mtkNumber mwaits mlisted mdealtMany)), ((ma 12), .inl (E 0, 60, .inl mf12)), ((ma 13), .inl (E 0, 60, .inl mf13)), ((ma 14), .inl (E 0, 60, .inl mf14)), ((ma 15), .inl (E 0, 60, .inl mf15)), ((ma 16), .inl (E 0, 60, .inl mf16))]) [0, 1, 2, 3, 4, 5] rfl
            have hD9 := hD.sub (ws' := [(mh, .inr (9, G9 ma mcode mtoday moffs mmany msumW msumA msumR msumWW msumWA msumAA msumWR msumAR mupper mlower mrates mtaped mlaid mat mtk mtkAt mtkNumber mwaits mlisted mdealtMany)), ((ma 12), .inl (E 0, 60, .inl mf12)), ((ma 13), .inl (E 0, 60, .inl mf13)), ((ma 14), .inl (E 0, 60, .inl mf14)), ((ma 15), .inl (E 0, 60, .inl mf15)), ((ma 16), .inl (E 0, 60, .inl mf16))]) [0, 1, 2, 3, 4, 5] (by decide) rfl
            exact W.iret (v := (-1)) hx hb hr (fun t ht hW => ⟨⟨(-1), (mf12, mf13, mf14, mf15, mf16, moffs), rfl, ⟨(by (try dsimp only); omega), (by have hl0 := t_m1; (try dsimp only); first | exact Or.inl ⟨by omega, by omega, by omega, rfl, rfl, rfl, rfl, rfl⟩ | exact Or.inr (Or.inr ⟨by omega, by omega, by omega, by omega, rfl, rfl, rfl, rfl, rfl⟩))⟩, by rw [ht]; exact hP9, hD9⟩, hS.F ht⟩) hS.2.2 dX9_off_43
      ·
        refine W_top (y := .int 0) (by rw [hr_9]) ?_
        refine lv_if_eq (tgt := 42) hx hb dX9_off_20 (by decide) (fun c_21 => ?_) (fun c_21 => absurd (by decide) c_21)
        refine lv_iconst (v := (-1)) hx hb dX9_off_42 (by decide) ?_
        have hP9 := hP.sub (ws' := [(mh, .inr (9, G9 ma mcode mtoday moffs mmany msumW msumA msumR msumWW msumWA msumAA msumWR msumAR mupper mlower mrates mtaped mlaid mat mtk mtkAt mtkNumber mwaits mlisted mdealtMany)), ((ma 12), .inl (E 0, 60, .inl mf12)), ((ma 13), .inl (E 0, 60, .inl mf13)), ((ma 14), .inl (E 0, 60, .inl mf14)), ((ma 15), .inl (E 0, 60, .inl mf15)), ((ma 16), .inl (E 0, 60, .inl mf16))]) [0, 1, 2, 3, 4, 5] rfl
        have hD9 := hD.sub (ws' := [(mh, .inr (9, G9 ma mcode mtoday moffs mmany msumW msumA msumR msumWW msumWA msumAA msumWR msumAR mupper mlower mrates mtaped mlaid mat mtk mtkAt mtkNumber mwaits mlisted mdealtMany)), ((ma 12), .inl (E 0, 60, .inl mf12)), ((ma 13), .inl (E 0, 60, .inl mf13)), ((ma 14), .inl (E 0, 60, .inl mf14)), ((ma 15), .inl (E 0, 60, .inl mf15)), ((ma 16), .inl (E 0, 60, .inl mf16))]) [0, 1, 2, 3, 4, 5] (by decide) rfl
        exact W.iret (v := (-1)) hx hb hr (fun t ht hW => ⟨⟨(-1), (mf12, mf13, mf14, mf15, mf16, moffs), rfl, ⟨(by (try dsimp only); omega), (by have hl0 := t_m1; (try dsimp only); first | exact Or.inl ⟨by omega, by omega, by omega, rfl, rfl, rfl, rfl, rfl⟩ | exact Or.inr (Or.inr ⟨by omega, by omega, by omega, by omega, rfl, rfl, rfl, rfl, rfl⟩))⟩, by rw [ht]; exact hP9, hD9⟩, hS.F ht⟩) hS.2.2 dX9_off_43
    ·
      refine W_top (y := .int 0) (by rw [hr_5]) ?_
      refine lv_if_eq (tgt := 42) hx hb dX9_off_13 (by decide) (fun c_22 => ?_) (fun c_22 => absurd (by decide) c_22)
      refine lv_iconst (v := (-1)) hx hb dX9_off_42 (by decide) ?_
      have hP9 := hP.sub (ws' := [(mh, .inr (9, G9 ma mcode mtoday moffs mmany msumW msumA msumR msumWW msumWA msumAA msumWR msumAR mupper mlower mrates mtaped mlaid mat mtk mtkAt mtkNumber mwaits mlisted mdealtMany)), ((ma 12), .inl (E 0, 60, .inl mf12)), ((ma 13), .inl (E 0, 60, .inl mf13)), ((ma 14), .inl (E 0, 60, .inl mf14)), ((ma 15), .inl (E 0, 60, .inl mf15)), ((ma 16), .inl (E 0, 60, .inl mf16))]) [0, 1, 2, 3, 4, 5] rfl
      have hD9 := hD.sub (ws' := [(mh, .inr (9, G9 ma mcode mtoday moffs mmany msumW msumA msumR msumWW msumWA msumAA msumWR msumAR mupper mlower mrates mtaped mlaid mat mtk mtkAt mtkNumber mwaits mlisted mdealtMany)), ((ma 12), .inl (E 0, 60, .inl mf12)), ((ma 13), .inl (E 0, 60, .inl mf13)), ((ma 14), .inl (E 0, 60, .inl mf14)), ((ma 15), .inl (E 0, 60, .inl mf15)), ((ma 16), .inl (E 0, 60, .inl mf16))]) [0, 1, 2, 3, 4, 5] (by decide) rfl
      exact W.iret (v := (-1)) hx hb hr (fun t ht hW => ⟨⟨(-1), (mf12, mf13, mf14, mf15, mf16, moffs), rfl, ⟨(by (try dsimp only); omega), (by have hl0 := t_m1; (try dsimp only); first | exact Or.inl ⟨by omega, by omega, by omega, rfl, rfl, rfl, rfl, rfl⟩ | exact Or.inr (Or.inr ⟨by omega, by omega, by omega, by omega, rfl, rfl, rfl, rfl, rfl⟩))⟩, by rw [ht]; exact hP9, hD9⟩, hS.F ht⟩) hS.2.2 dX9_off_43
  ·
    try simp only [t_1, t_5] at hw_2
    refine W_top (y := .int 0) (by rw [hr_1]) ?_
    refine lv_if_eq (tgt := 42) hx hb dX9_off_6 (by decide) (fun c_23 => ?_) (fun c_23 => absurd (by decide) c_23)
    refine lv_iconst (v := (-1)) hx hb dX9_off_42 (by decide) ?_
    have hP9 := hP.sub (ws' := [(mh, .inr (9, G9 ma mcode mtoday moffs mmany msumW msumA msumR msumWW msumWA msumAA msumWR msumAR mupper mlower mrates mtaped mlaid mat mtk mtkAt mtkNumber mwaits mlisted mdealtMany)), ((ma 12), .inl (E 0, 60, .inl mf12)), ((ma 13), .inl (E 0, 60, .inl mf13)), ((ma 14), .inl (E 0, 60, .inl mf14)), ((ma 15), .inl (E 0, 60, .inl mf15)), ((ma 16), .inl (E 0, 60, .inl mf16))]) [0, 1, 2, 3, 4, 5] rfl
    have hD9 := hD.sub (ws' := [(mh, .inr (9, G9 ma mcode mtoday moffs mmany msumW msumA msumR msumWW msumWA msumAA msumWR msumAR mupper mlower mrates mtaped mlaid mat mtk mtkAt mtkNumber mwaits mlisted mdealtMany)), ((ma 12), .inl (E 0, 60, .inl mf12)), ((ma 13), .inl (E 0, 60, .inl mf13)), ((ma 14), .inl (E 0, 60, .inl mf14)), ((ma 15), .inl (E 0, 60, .inl mf15)), ((ma 16), .inl (E 0, 60, .inl mf16))]) [0, 1, 2, 3, 4, 5] (by decide) rfl
    exact W.iret (v := (-1)) hx hb hr (fun t ht hW => ⟨⟨(-1), (mf12, mf13, mf14, mf15, mf16, moffs), rfl, ⟨(by (try dsimp only); omega), (by have hl0 := t_m1; (try dsimp only); first | exact Or.inl ⟨by omega, by omega, by omega, rfl, rfl, rfl, rfl, rfl⟩ | exact Or.inr (Or.inr ⟨by omega, by omega, by omega, by omega, rfl, rfl, rfl, rfl, rfl⟩))⟩, by rw [ht]; exact hP9, hD9⟩, hS.F ht⟩) hS.2.2 dX9_off_43
set_option maxHeartbeats 4000000 in
set_option maxRecDepth 100000 in
theorem g_X9_changed (l : Launch) (D : va_G) (E : Nat → Nat) (mh : Nat) (ma : Nat → Nat) (mcode : Int32) (mtoday : Int32) (moffs : Int32) (mmany : Int64) (msumW : Int64) (msumA : Int64) (msumR : Int64) (msumWW : Int64) (msumWA : Int64) (msumAA : Int64) (msumWR : Int64) (msumAR : Int64) (mupper : Int64) (mlower : Int64) (mrates : Int32) (mtaped : Int32) (mlaid : Int32) (mat : Int32) (mtk : Int32) (mtkAt : Int32) (mtkNumber : Int32) (mwaits : Int32) (mlisted : Int32) (mdealtMany : Int32) (mf3 : Nat → Int32) (mf5 : Nat → Int32) (mf6 : Nat → Int32) (mf7 : Nat → Int32) (mf8 : Nat → Int32) (mf9 : Nat → Int32) (mf12 : Nat → Int32) (mf13 : Nat → Int32) (mf14 : Nat → Int32) (mf15 : Nat → Int32) (mf16 : Nat → Int32) (p0 : Int32) (p1 : Int32) (p2 : Int32) (p3 : Int32) (hi_m : (0 ≤ mtoday.toInt ∧ mtoday.toInt ≤ 399) ∧ (0 ≤ moffs.toInt ∧ moffs.toInt ≤ 60) ∧ (0 ≤ mrates.toInt ∧ mrates.toInt ≤ 60) ∧ (0 ≤ mtaped.toInt ∧ mtaped.toInt ≤ 120) ∧ (0 ≤ mlisted.toInt ∧ mlisted.toInt ≤ 9) ∧ (0 ≤ mdealtMany.toInt ∧ mdealtMany.toInt ≤ 9)) : Met l yX9_changed (wl yX9_changed cX9_changed 8 (some .int)) (RM 3 0 0) (rd_P D E [.ref mh, .int p0, .int p1, .int p2, .int p3] [(mh, .inr (9, G9 ma mcode mtoday moffs mmany msumW msumA msumR msumWW msumWA msumAA msumWR msumAR mupper mlower mrates mtaped mlaid mat mtk mtkAt mtkNumber mwaits mlisted mdealtMany)), ((ma 3), .inl (E 0, 16, .inl mf3)), ((ma 5), .inl (E 1, 6400, .inl mf5)), ((ma 6), .inl (E 0, 6400, .inl mf6)), ((ma 7), .inl (E 0, 6400, .inl mf7)), ((ma 8), .inl (E 1, 6400, .inl mf8)), ((ma 9), .inl (E 1, 6400, .inl mf9)), ((ma 12), .inl (E 0, 60, .inl mf12)), ((ma 13), .inl (E 0, 60, .inl mf13)), ((ma 14), .inl (E 0, 60, .inl mf14)), ((ma 15), .inl (E 0, 60, .inl mf15)), ((ma 16), .inl (E 0, 60, .inl mf16))]) (rd_Q (fun r => ((r.toInt = -1 ∧ ¬ ((0 ≤ p0.toInt ∧ p0.toInt ≤ 15) ∧ (0 ≤ p1.toInt ∧ p2.toInt ≤ 399 ∧ p1.toInt < p2.toInt ∧ p2.toInt - p1.toInt ≤ 60) ∧ (-1 ≤ p3.toInt ∧ p3.toInt ≤ 399))) ∨ (((0 ≤ p0.toInt ∧ p0.toInt ≤ 15) ∧ (0 ≤ p1.toInt ∧ p2.toInt ≤ 399 ∧ p1.toInt < p2.toInt ∧ p2.toInt - p1.toInt ≤ 60) ∧ (-1 ≤ p3.toInt ∧ p3.toInt ≤ 399)) ∧ (((mf3 (p0).toNatClampNeg).toInt = -5 ∧ r.toInt = -2) ∨ ((mf3 (p0).toNatClampNeg).toInt = 2 ∧ r.toInt = -3))) ∨ (((0 ≤ p0.toInt ∧ p0.toInt ≤ 15) ∧ (0 ≤ p1.toInt ∧ p2.toInt ≤ 399 ∧ p1.toInt < p2.toInt ∧ p2.toInt - p1.toInt ≤ 60) ∧ (-1 ≤ p3.toInt ∧ p3.toInt ≤ 399)) ∧ ((mf3 (p0).toNatClampNeg).toInt ≠ -5 ∧ (mf3 (p0).toNatClampNeg).toInt ≠ 2) ∧ r.toInt = chN (fun d => ratF mf5 mf6 mf7 mf8 mf9 mf12 mf13 mf14 mf15 mf16 moffs p0 d p3) (fun d => ratF mf5 mf6 mf7 mf8 mf9 mf12 mf13 mf14 mf15 mf16 moffs p0 d (-1)) p1 (p2.toInt - p1.toInt).toNat)))) 0 0 (fun _ => False) := by
  refine Met.ofW (cc := cX9_changed) (maxL := 8) (ret := (some .int)) (by decide) rfl ?_
  intro p e s m args below meth c s₁ B hml hv
  obtain ⟨rfl, hP, hK⟩ := hv
  have hx := B.exec; have hb := B.bytes; have hr := B.returns
  have hts := atoms_spec (ws := wl yX9_changed cX9_changed 8 (some .int)) B.pre
  have htb : ∀ w ∈ tb, w.before _ s = true := fun w h => hts w (List.mem_cons_of_mem _ h)
  have hown : s.vm.findClass RX9 = some m.cls := findClass_of_methodNamed B.named
  have hlocks := B.notSynchronized
  have hP : va_P D vwCl [(mh, .inr (9, G9 ma mcode mtoday moffs mmany msumW msumA msumR msumWW msumWA msumAA msumWR msumAR mupper mlower mrates mtaped mlaid mat mtk mtkAt mtkNumber mwaits mlisted mdealtMany)), ((ma 3), .inl (E 0, 16, .inl mf3)), ((ma 5), .inl (E 1, 6400, .inl mf5)), ((ma 6), .inl (E 0, 6400, .inl mf6)), ((ma 7), .inl (E 0, 6400, .inl mf7)), ((ma 8), .inl (E 1, 6400, .inl mf8)), ((ma 9), .inl (E 1, 6400, .inl mf9)), ((ma 12), .inl (E 0, 60, .inl mf12)), ((ma 13), .inl (E 0, 60, .inl mf13)), ((ma 14), .inl (E 0, 60, .inl mf14)), ((ma 15), .inl (E 0, 60, .inl mf15)), ((ma 16), .inl (E 0, 60, .inl mf16))] s.heap := hP
  have hl := lv_entry ([.ref mh, .int p0, .int p1, .int p2, .int p3]) (n := 8) (Nat.le_of_ble_eq_true rfl)
  rw [lg_entry_eq]
  generalize (lg_sl ([.ref mh, .int p0, .int p1, .int p2, .int p3]) ++ List.replicate (8 - (lg_sl ([.ref mh, .int p0, .int p1, .int p2, .int p3])).length) Slot.unset).toArray = ls at hl ⊢
  have hl : lv_has ls 8 [(0, .ref mh), (1, .int p0), (2, .int p1), (3, .int p2), (4, .int p3)] := hl
  have lo_p0 := i_lo p0; have hi_p0 := i_hi p0
  have lo_p1 := i_lo p1; have hi_p1 := i_hi p1
  have lo_p2 := i_lo p2; have hi_p2 := i_hi p2
  have lo_p3 := i_lo p3; have hi_p3 := i_hi p3
  refine lv_iload_n hx hb dX9_changed_0 rfl (lv_at hl 1 rfl) ?_
  refine callRS (rest := []) (As := [.int p0]) hx hb hml hown htb hK (g_X9_isPlace l D E p0 ) ok_X9_isPlace k_1182 k_1183 k_9 k_1184 ⟨(Nat.le_of_ble_eq_true rfl), (Nat.le_of_ble_eq_true rfl)⟩ ⟨(Nat.le_of_ble_eq_true rfl), (Nat.le_of_ble_eq_true rfl)⟩ hl.1 (Nat.le_of_ble_eq_true rfl) rfl rfl dX9_changed_1 (hP.sub (ws' := ([] : va_W)) [] rfl) (fun r_1 hw_2 => ?_)
  rcases hw_2 with ⟨hr_1, hw_2⟩ | ⟨hr_1, hw_2⟩
  ·
    refine W_top (y := .int 1) (by rw [hr_1]) ?_
    refine lv_if_eq (tgt := 23) hx hb dX9_changed_4 (by decide) (fun c_4 => absurd c_4 (by decide)) (fun c_4 => ?_)
    refine lv_iload_n hx hb dX9_changed_7 rfl (lv_at hl 2 rfl) ?_
    refine lv_iload_n hx hb dX9_changed_8 rfl (lv_at hl 3 rfl) ?_
    refine callRS (rest := []) (As := [.int p1, .int p2]) hx hb hml hown htb hK (g_X9_areDays l D E p1 p2 ) ok_X9_areDays k_1262 k_1263 k_9 k_1264 ⟨(Nat.le_of_ble_eq_true rfl), (Nat.le_of_ble_eq_true rfl)⟩ ⟨(Nat.le_of_ble_eq_true rfl), (Nat.le_of_ble_eq_true rfl)⟩ hl.1 (Nat.le_of_ble_eq_true rfl) rfl rfl dX9_changed_9 (hP.sub (ws' := ([] : va_W)) [] rfl) (fun r_5 hw_6 => ?_)
    rcases hw_6 with ⟨hr_5, hw_6⟩ | ⟨hr_5, hw_6⟩
    ·
      refine W_top (y := .int 1) (by rw [hr_5]) ?_
      refine lv_if_eq (tgt := 23) hx hb dX9_changed_12 (by decide) (fun c_8 => absurd c_8 (by decide)) (fun c_8 => ?_)
      refine lv_iload hx hb dX9_changed_15 (lv_at hl 4 rfl) ?_
      refine callRS (rest := []) (As := [.int p3]) hx hb hml hown htb hK (g_X9_isKnown l D E p3 ) ok_X9_isKnown k_1220 k_1221 k_9 k_1222 ⟨(Nat.le_of_ble_eq_true rfl), (Nat.le_of_ble_eq_true rfl)⟩ ⟨(Nat.le_of_ble_eq_true rfl), (Nat.le_of_ble_eq_true rfl)⟩ hl.1 (Nat.le_of_ble_eq_true rfl) rfl rfl dX9_changed_17 (hP.sub (ws' := ([] : va_W)) [] rfl) (fun r_9 hw_10 => ?_)
      rcases hw_10 with ⟨hr_9, hw_10⟩ | ⟨hr_9, hw_10⟩
      ·
        refine W_top (y := .int 1) (by rw [hr_9]) ?_
        refine lv_if_ne (tgt := 25) hx hb dX9_changed_20 (by decide) (fun c_12 => ?_) (fun c_12 => absurd c_12 (by decide))
        refine lv_aload_n hx hb dX9_changed_25 rfl (lv_at hl 0 rfl) ?_
        refine lv_iload_n hx hb dX9_changed_26 rfl (lv_at hl 1 rfl) ?_
        refine callRV (rest := []) (As := [.int p0]) hx hb hml hown htb hK (g_X9_watchAt l D E mh ma mcode mtoday moffs mmany msumW msumA msumR msumWW msumWA msumAA msumWR msumAR mupper mlower mrates mtaped mlaid mat mtk mtkAt mtkNumber mwaits mlisted mdealtMany mf3 p0 (by (try dsimp only); omega)) ok_X9_watchAt k_1212 k_1214 ks_41 k_9 k_1215 ⟨(Nat.le_of_ble_eq_true rfl), (Nat.le_of_ble_eq_true rfl)⟩ ⟨(Nat.le_of_ble_eq_true rfl), (Nat.le_of_ble_eq_true rfl)⟩ hl.1 (Nat.le_of_ble_eq_true rfl) rfl rfl dX9_changed_27 (hP.sub (ws' := [(mh, .inr (9, G9 ma mcode mtoday moffs mmany msumW msumA msumR msumWW msumWA msumAA msumWR msumAR mupper mlower mrates mtaped mlaid mat mtk mtkAt mtkNumber mwaits mlisted mdealtMany)), ((ma 3), .inl (E 0, 16, .inl mf3))]) [0, 1] rfl) rfl rfl 0 rfl (fun r_13 hw_14 => ?_)
        refine lv_istore (lv' := [(5, .int r_13), (0, .ref mh), (1, .int p0), (2, .int p1), (3, .int p2), (4, .int p3)]) hx hb dX9_changed_30 hl (by decide) rfl (fun ls hl => ?_)
        refine lv_iload hx hb dX9_changed_32 (lv_at hl 0 rfl) ?_
        refine lv_if_ge (tgt := 40) hx hb dX9_changed_34 (by decide) (fun c_16 => ?_) (fun c_16 => ?_)
        ·
          have ic_16 : 0 ≤ r_13.toInt := by first | exact (g_le t_0 rfl).mp c_16 | (have h := mt (g_lt rfl t_0).mpr c_16; omega)
          clear c_16
          refine lv_iconst (v := 0) hx hb dX9_changed_40 (by decide) ?_
          refine lv_istore (lv' := [(6, .int 0), (5, .int r_13), (0, .ref mh), (1, .int p0), (2, .int p1), (3, .int p2), (4, .int p3)]) hx hb dX9_changed_41 hl (by decide) rfl (fun ls hl => ?_)
          refine lv_iload_n hx hb dX9_changed_43 rfl (lv_at hl 4 rfl) ?_
          refine lv_istore (lv' := [(7, .int p1), (6, .int 0), (5, .int r_13), (0, .ref mh), (1, .int p0), (2, .int p1), (3, .int p2), (4, .int p3)]) hx hb dX9_changed_44 hl (by decide) rfl (fun ls hl => ?_)
          have loop_17 : ∀ (N_19 : Nat) (L7_46 : Int32) (L6_46 : Int32)  (ls : Array Slot), p2.toInt - L7_46.toInt < (N_19 : Int) → (p1.toInt ≤ L7_46.toInt ∧ L7_46.toInt ≤ p2.toInt ∧ 0 ≤ L6_46.toInt ∧ L6_46.toInt ≤ L7_46.toInt - p1.toInt) → (L6_46.toInt = chN (fun d => ratF mf5 mf6 mf7 mf8 mf9 mf12 mf13 mf14 mf15 mf16 moffs p0 d p3) (fun d => ratF mf5 mf6 mf7 mf8 mf9 mf12 mf13 mf14 mf15 mf16 moffs p0 d (-1)) p1 (L7_46.toInt - p1.toInt).toNat) → lv_has ls 8 [(7, .int L7_46), (6, .int L6_46), (5, .int r_13), (0, .ref mh), (1, .int p0), (2, .int p1), (3, .int p2), (4, .int p3)] → W p l e (headSpec (wl yX9_changed cX9_changed 8 (some .int)) (RM 3 0 0)).room s m [Value.ref mh, .int p0, .int p1, .int p2, .int p3].toArray below meth c s.heap [] 0 0 (MQ below (rd_Q (fun r => ((r.toInt = -1 ∧ ¬ ((0 ≤ p0.toInt ∧ p0.toInt ≤ 15) ∧ (0 ≤ p1.toInt ∧ p2.toInt ≤ 399 ∧ p1.toInt < p2.toInt ∧ p2.toInt - p1.toInt ≤ 60) ∧ (-1 ≤ p3.toInt ∧ p3.toInt ≤ 399))) ∨ (((0 ≤ p0.toInt ∧ p0.toInt ≤ 15) ∧ (0 ≤ p1.toInt ∧ p2.toInt ≤ 399 ∧ p1.toInt < p2.toInt ∧ p2.toInt - p1.toInt ≤ 60) ∧ (-1 ≤ p3.toInt ∧ p3.toInt ≤ 399)) ∧ (((mf3 (p0).toNatClampNeg).toInt = -5 ∧ r.toInt = -2) ∨ ((mf3 (p0).toNatClampNeg).toInt = 2 ∧ r.toInt = -3))) ∨ (((0 ≤ p0.toInt ∧ p0.toInt ≤ 15) ∧ (0 ≤ p1.toInt ∧ p2.toInt ≤ 399 ∧ p1.toInt < p2.toInt ∧ p2.toInt - p1.toInt ≤ 60) ∧ (-1 ≤ p3.toInt ∧ p3.toInt ≤ 399)) ∧ ((mf3 (p0).toNatClampNeg).toInt ≠ -5 ∧ (mf3 (p0).toNatClampNeg).toInt ≠ 2) ∧ r.toInt = chN (fun d => ratF mf5 mf6 mf7 mf8 mf9 mf12 mf13 mf14 mf15 mf16 moffs p0 d p3) (fun d => ratF mf5 mf6 mf7 mf8 mf9 mf12 mf13 mf14 mf15 mf16 moffs p0 d (-1)) p1 (p2.toInt - p1.toInt).toNat)))) [Value.ref mh, .int p0, .int p1, .int p2, .int p3].toArray s 0 0 (fun _ => False)) (F0 m 46 ls []) := by
            intro N_19
            induction N_19 with
            | zero => intro L7_46 L6_46  ls hm v0_46 v1_46 _; exfalso; omega
            | succ N_19 ih_18 =>
              intro L7_46 L6_46 ls hm v0_46 v1_46 hl
              have lo_L7_46 := i_lo L7_46; have hi_L7_46 := i_hi L7_46
              have lo_L6_46 := i_lo L6_46; have hi_L6_46 := i_hi L6_46
              refine lv_iload hx hb dX9_changed_46 (lv_at hl 0 rfl) ?_
              refine lv_iload_n hx hb dX9_changed_48 rfl (lv_at hl 6 rfl) ?_
              refine lv_icmp_ge (tgt := 88) hx hb dX9_changed_49 (by decide) (fun c_20 => ?_) (fun c_20 => ?_)
              ·
                have ic_20 : p2.toInt ≤ L7_46.toInt := by first | exact (g_le rfl rfl).mp c_20 | (have h := mt (g_lt rfl rfl).mpr c_20; omega)
                clear c_20
                refine lv_iload hx hb dX9_changed_88 (lv_at hl 1 rfl) ?_
                exact W.iret (v := L6_46) hx hb hr (fun t ht hW => ⟨L6_46, rfl, (by (try dsimp only); first | exact Or.inr (Or.inl ⟨by omega, by omega⟩) | exact Or.inr (Or.inr ⟨by omega, by omega, by rw [show (p2.toInt - p1.toInt).toNat = (L7_46.toInt - p1.toInt).toNat by omega]; assumption⟩) | exact Or.inl ⟨by omega, by omega⟩), ht⟩) (fun q h => by cases h) dX9_changed_90
              ·
                have ic_20 : L7_46.toInt < p2.toInt := by first | exact (g_lt rfl rfl).mp c_20 | (have h := mt (g_le rfl rfl).mpr c_20; omega)
                clear c_20
                refine lv_iload hx hb dX9_changed_52 (lv_at hl 1 rfl) ?_
                refine lv_aload_n hx hb dX9_changed_54 rfl (lv_at hl 3 rfl) ?_
                refine lv_iload_n hx hb dX9_changed_55 rfl (lv_at hl 4 rfl) ?_
                refine lv_iload hx hb dX9_changed_56 (lv_at hl 0 rfl) ?_
                refine lv_iload hx hb dX9_changed_58 (lv_at hl 7 rfl) ?_
                refine callRV (rest := [.int L6_46]) (As := [.int p0, .int L7_46, .int p3]) hx hb hml hown htb hK (g_X9_rateOf l D E mh ma mcode mtoday moffs mmany msumW msumA msumR msumWW msumWA msumAA msumWR msumAR mupper mlower mrates mtaped mlaid mat mtk mtkAt mtkNumber mwaits mlisted mdealtMany mf5 mf6 mf7 mf8 mf9 mf12 mf13 mf14 mf15 mf16 p0 L7_46 p3 (by (try dsimp only); omega) (by (try dsimp only); omega) (by (try dsimp only); omega)) ok_X9_rateOf k_1231 k_1233 ks_43 k_9 k_1234 ⟨(Nat.le_of_ble_eq_true rfl), (Nat.le_of_ble_eq_true rfl)⟩ ⟨(Nat.le_of_ble_eq_true rfl), (Nat.le_of_ble_eq_true rfl)⟩ hl.1 (Nat.le_of_ble_eq_true rfl) rfl rfl dX9_changed_60 (hP.sub (ws' := [(mh, .inr (9, G9 ma mcode mtoday moffs mmany msumW msumA msumR msumWW msumWA msumAA msumWR msumAR mupper mlower mrates mtaped mlaid mat mtk mtkAt mtkNumber mwaits mlisted mdealtMany)), ((ma 5), .inl (E 1, 6400, .inl mf5)), ((ma 6), .inl (E 0, 6400, .inl mf6)), ((ma 7), .inl (E 0, 6400, .inl mf7)), ((ma 8), .inl (E 1, 6400, .inl mf8)), ((ma 9), .inl (E 1, 6400, .inl mf9)), ((ma 12), .inl (E 0, 60, .inl mf12)), ((ma 13), .inl (E 0, 60, .inl mf13)), ((ma 14), .inl (E 0, 60, .inl mf14)), ((ma 15), .inl (E 0, 60, .inl mf15)), ((ma 16), .inl (E 0, 60, .inl mf16))]) [0, 2, 3, 4, 5, 6, 7, 8, 9, 10, 11] rfl) rfl rfl 0 rfl (fun r_21 hw_22 => ?_)
                refine lv_aload_n hx hb dX9_changed_63 rfl (lv_at hl 3 rfl) ?_
                refine lv_iload_n hx hb dX9_changed_64 rfl (lv_at hl 4 rfl) ?_
                refine lv_iload hx hb dX9_changed_65 (lv_at hl 0 rfl) ?_
                refine lv_iconst (v := (-1)) hx hb dX9_changed_67 (by decide) ?_
                refine callRV (rest := [.int r_21, .int L6_46]) (As := [.int p0, .int L7_46, .int (-1)]) hx hb hml hown htb hK (g_X9_rateOf l D E mh ma mcode mtoday moffs mmany msumW msumA msumR msumWW msumWA msumAA msumWR msumAR mupper mlower mrates mtaped mlaid mat mtk mtkAt mtkNumber mwaits mlisted mdealtMany mf5 mf6 mf7 mf8 mf9 mf12 mf13 mf14 mf15 mf16 p0 L7_46 (-1) (by (try dsimp only); omega) (by have h0 := t_m1; (try dsimp only); omega) (by have h0 := t_m1; (try dsimp only); omega)) ok_X9_rateOf k_1231 k_1233 ks_43 k_9 k_1234 ⟨(Nat.le_of_ble_eq_true rfl), (Nat.le_of_ble_eq_true rfl)⟩ ⟨(Nat.le_of_ble_eq_true rfl), (Nat.le_of_ble_eq_true rfl)⟩ hl.1 (Nat.le_of_ble_eq_true rfl) rfl rfl dX9_changed_68 (hP.sub (ws' := [(mh, .inr (9, G9 ma mcode mtoday moffs mmany msumW msumA msumR msumWW msumWA msumAA msumWR msumAR mupper mlower mrates mtaped mlaid mat mtk mtkAt mtkNumber mwaits mlisted mdealtMany)), ((ma 5), .inl (E 1, 6400, .inl mf5)), ((ma 6), .inl (E 0, 6400, .inl mf6)), ((ma 7), .inl (E 0, 6400, .inl mf7)), ((ma 8), .inl (E 1, 6400, .inl mf8)), ((ma 9), .inl (E 1, 6400, .inl mf9)), ((ma 12), .inl (E 0, 60, .inl mf12)), ((ma 13), .inl (E 0, 60, .inl mf13)), ((ma 14), .inl (E 0, 60, .inl mf14)), ((ma 15), .inl (E 0, 60, .inl mf15)), ((ma 16), .inl (E 0, 60, .inl mf16))]) [0, 2, 3, 4, 5, 6, 7, 8, 9, 10, 11] rfl) rfl rfl 0 rfl (fun r_24 hw_25 => ?_)
                try simp only [t_m1] at hw_25
                refine lv_icmp_ne (tgt := 78) hx hb dX9_changed_71 (by decide) (fun c_27 => ?_) (fun c_27 => ?_)
                ·
                  have ic_27 : r_21.toInt ≠ r_24.toInt := mt (g_eq rfl rfl).mpr c_27
                  clear c_27
                  refine lv_iconst (v := 1) hx hb dX9_changed_78 (by decide) ?_
                  refine lv_iadd hx hb dX9_changed_79 ?_
                  refine lv_topi (fun z_28 ez_28 => ?_)
                  have jz_28 : z_28.toInt = L6_46.toInt + 1 := by rw [ez_28]; exact g_add rfl t_1 (by omega) (by omega)
                  refine lv_istore (lv' := [(6, .int z_28), (7, .int L7_46), (5, .int r_13), (0, .ref mh), (1, .int p0), (2, .int p1), (3, .int p2), (4, .int p3)]) hx hb dX9_changed_80 hl (by decide) rfl (fun ls hl => ?_)
                  obtain ⟨z_29, ez_29⟩ : ∃ y : Int32, y = L7_46 + 1 := ⟨_, rfl⟩
                  have jz_29 : z_29.toInt = L7_46.toInt + 1 := by rw [ez_29]; exact g_add rfl t_1 (by omega) (by omega)
                  refine lv_iinc (v := z_29) (lv' := [(7, .int z_29), (6, .int z_28), (5, .int r_13), (0, .ref mh), (1, .int p0), (2, .int p1), (3, .int p2), (4, .int p3)]) hx hb dX9_changed_82 hl (k := 1) rfl (by rw [ez_29]; rfl) (by decide) rfl (fun ls hl => ?_)
                  refine lv_goto (tgt := 46) hx hb dX9_changed_85 (by decide) ?_
                  exact ih_18 z_29 z_28 _ (by (try dsimp only); omega) (by (try dsimp only); omega) (by have hs := chN_step (A := (fun d => ratF mf5 mf6 mf7 mf8 mf9 mf12 mf13 mf14 mf15 mf16 moffs p0 d p3)) (B := (fun d => ratF mf5 mf6 mf7 mf8 mf9 mf12 mf13 mf14 mf15 mf16 moffs p0 d (-1))) (p := p1) (L := L7_46) (z := z_29) (by omega) (by omega) jz_29; rw [hs]; simp only [← hw_22, ← hw_25]; split <;> omega) (lv_sub hl [0, 1, 2, 3, 4, 5, 6, 7] rfl)
                ·
                  have ic_27 : r_21.toInt = r_24.toInt := (g_eq rfl rfl).mp c_27
                  clear c_27
                  refine lv_iconst (v := 0) hx hb dX9_changed_74 (by decide) ?_
                  refine lv_goto (tgt := 79) hx hb dX9_changed_75 (by decide) ?_
                  refine lv_iadd hx hb dX9_changed_79 ?_
                  refine lv_topi (fun z_30 ez_30 => ?_)
                  have jz_30 : z_30.toInt = L6_46.toInt + 0 := by rw [ez_30]; exact g_add rfl t_0 (by omega) (by omega)
                  refine lv_istore (lv' := [(6, .int z_30), (7, .int L7_46), (5, .int r_13), (0, .ref mh), (1, .int p0), (2, .int p1), (3, .int p2), (4, .int p3)]) hx hb dX9_changed_80 hl (by decide) rfl (fun ls hl => ?_)
                  obtain ⟨z_31, ez_31⟩ : ∃ y : Int32, y = L7_46 + 1 := ⟨_, rfl⟩
                  have jz_31 : z_31.toInt = L7_46.toInt + 1 := by rw [ez_31]; exact g_add rfl t_1 (by omega) (by omega)
                  refine lv_iinc (v := z_31) (lv' := [(7, .int z_31), (6, .int z_30), (5, .int r_13), (0, .ref mh), (1, .int p0), (2, .int p1), (3, .int p2), (4, .int p3)]) hx hb dX9_changed_82 hl (k := 1) rfl (by rw [ez_31]; rfl) (by decide) rfl (fun ls hl => ?_)
                  refine lv_goto (tgt := 46) hx hb dX9_changed_85 (by decide) ?_
                  exact ih_18 z_31 z_30 _ (by (try dsimp only); omega) (by (try dsimp only); omega) (by have hs := chN_step (A := (fun d => ratF mf5 mf6 mf7 mf8 mf9 mf12 mf13 mf14 mf15 mf16 moffs p0 d p3)) (B := (fun d => ratF mf5 mf6 mf7 mf8 mf9 mf12 mf13 mf14 mf15 mf16 moffs p0 d (-1))) (p := p1) (L := L7_46) (z := z_31) (by omega) (by omega) jz_31; rw [hs]; simp only [← hw_22, ← hw_25]; split <;> omega) (lv_sub hl [0, 1, 2, 3, 4, 5, 6, 7] rfl)
          exact loop_17 400 p1 0 _ (by have h0 := t_0; (try dsimp only); omega) (by have h0 := t_0; (try dsimp only); omega) (by have h0 := t_0; rw [show (p1.toInt - p1.toInt).toNat = 0 by omega, h0]; rfl)  (lv_sub hl [0, 1, 2, 3, 4, 5, 6, 7] rfl)
        ·
          have ic_16 : r_13.toInt < 0 := by first | exact (g_lt rfl t_0).mp c_16 | (have h := mt (g_le t_0 rfl).mpr c_16; omega)
          clear c_16
          refine lv_iload hx hb dX9_changed_37 (lv_at hl 0 rfl) ?_
          exact W.iret (v := r_13) hx hb hr (fun t ht hW => ⟨r_13, rfl, (by (try dsimp only); first | exact Or.inr (Or.inl ⟨by omega, by omega⟩) | exact Or.inr (Or.inr ⟨by omega, by omega, by rw [show (p2.toInt - p1.toInt).toNat = (L7_46.toInt - p1.toInt).toNat by omega]; assumption⟩) | exact Or.inl ⟨by omega, by omega⟩), ht⟩) (fun q h => by cases h) dX9_changed_39
      ·
        refine W_top (y := .int 0) (by rw [hr_9]) ?_
        refine lv_if_ne (tgt := 25) hx hb dX9_changed_20 (by decide) (fun c_32 => absurd (by decide) c_32) (fun c_32 => ?_)
        refine lv_iconst (v := (-1)) hx hb dX9_changed_23 (by decide) ?_
        exact W.iret (v := (-1)) hx hb hr (fun t ht hW => ⟨(-1), rfl, (by have hl0 := t_m1; (try dsimp only); first | exact Or.inl ⟨by omega, by omega⟩ | exact Or.inr (Or.inl ⟨by omega, by omega⟩) | exact Or.inr (Or.inr ⟨by omega, by omega, by rw [show (p2.toInt - p1.toInt).toNat = (L7_46.toInt - p1.toInt).toNat by omega]; assumption⟩)), ht⟩) (fun q h => by cases h) dX9_changed_24
    ·
      refine W_top (y := .int 0) (by rw [hr_5]) ?_
      refine lv_if_eq (tgt := 23) hx hb dX9_changed_12 (by decide) (fun c_33 => ?_) (fun c_33 => absurd (by decide) c_33)
      refine lv_iconst (v := (-1)) hx hb dX9_changed_23 (by decide) ?_
      exact W.iret (v := (-1)) hx hb hr (fun t ht hW => ⟨(-1), rfl, (by have hl0 := t_m1; (try dsimp only); first | exact Or.inl ⟨by omega, by omega⟩ | exact Or.inr (Or.inl ⟨by omega, by omega⟩) | exact Or.inr (Or.inr ⟨by omega, by omega, by rw [show (p2.toInt - p1.toInt).toNat = (L7_46.toInt - p1.toInt).toNat by omega]; assumption⟩)), ht⟩) (fun q h => by cases h) dX9_changed_24
  ·
    refine W_top (y := .int 0) (by rw [hr_1]) ?_
    refine lv_if_eq (tgt := 23) hx hb dX9_changed_4 (by decide) (fun c_34 => ?_) (fun c_34 => absurd (by decide) c_34)
    refine lv_iconst (v := (-1)) hx hb dX9_changed_23 (by decide) ?_
    exact W.iret (v := (-1)) hx hb hr (fun t ht hW => ⟨(-1), rfl, (by have hl0 := t_m1; (try dsimp only); first | exact Or.inl ⟨by omega, by omega⟩ | exact Or.inr (Or.inl ⟨by omega, by omega⟩) | exact Or.inr (Or.inr ⟨by omega, by omega, by rw [show (p2.toInt - p1.toInt).toNat = (L7_46.toInt - p1.toInt).toNat by omega]; assumption⟩)), ht⟩) (fun q h => by cases h) dX9_changed_24
set_option maxHeartbeats 4000000 in
set_option maxRecDepth 100000 in
theorem g_X9_warmthOf (l : Launch) (D : va_G) (E : Nat → Nat) (mh : Nat) (ma : Nat → Nat) (mcode : Int32) (mtoday : Int32) (moffs : Int32) (mmany : Int64) (msumW : Int64) (msumA : Int64) (msumR : Int64) (msumWW : Int64) (msumWA : Int64) (msumAA : Int64) (msumWR : Int64) (msumAR : Int64) (mupper : Int64) (mlower : Int64) (mrates : Int32) (mtaped : Int32) (mlaid : Int32) (mat : Int32) (mtk : Int32) (mtkAt : Int32) (mtkNumber : Int32) (mwaits : Int32) (mlisted : Int32) (mdealtMany : Int32) (mf2 : Nat → Int32) (mf3 : Nat → Int32) (mf4 : Nat → Int32) (p0 : Int32) (p1 : Int32) (hi_m : (0 ≤ mtoday.toInt ∧ mtoday.toInt ≤ 399) ∧ (0 ≤ moffs.toInt ∧ moffs.toInt ≤ 60) ∧ (0 ≤ mrates.toInt ∧ mrates.toInt ≤ 60) ∧ (0 ≤ mtaped.toInt ∧ mtaped.toInt ≤ 120) ∧ (0 ≤ mlisted.toInt ∧ mlisted.toInt ≤ 9) ∧ (0 ≤ mdealtMany.toInt ∧ mdealtMany.toInt ≤ 9)) (g0 : 0 ≤ p0.toInt ∧ p0.toInt ≤ 15) (g1 : 0 ≤ p1.toInt ∧ p1.toInt ≤ 399) : Met l yX9_warmthOf (wl yX9_warmthOf cX9_warmthOf 3 (some .int)) (RM 0 0 0) (rd_P D E [.ref mh, .int p0, .int p1] [(mh, .inr (9, G9 ma mcode mtoday moffs mmany msumW msumA msumR msumWW msumWA msumAA msumWR msumAR mupper mlower mrates mtaped mlaid mat mtk mtkAt mtkNumber mwaits mlisted mdealtMany)), ((ma 2), .inl (E 0, 400, .inl mf2)), ((ma 3), .inl (E 0, 16, .inl mf3)), ((ma 4), .inl (E 0, 16, .inl mf4))]) (rd_Q (fun r => (r = wmF mf3 mf4 mf2 p0 p1))) 0 0 (fun _ => False) := by
  refine Met.ofW (cc := cX9_warmthOf) (maxL := 3) (ret := (some .int)) (by decide) rfl ?_
  intro p e s m args below meth c s₁ B hml hv
  obtain ⟨rfl, hP, hK⟩ := hv
  have hx := B.exec; have hb := B.bytes; have hr := B.returns
  have hts := atoms_spec (ws := wl yX9_warmthOf cX9_warmthOf 3 (some .int)) B.pre
  have htb : ∀ w ∈ tb, w.before _ s = true := fun w h => hts w (List.mem_cons_of_mem _ h)
  have hown : s.vm.findClass RX9 = some m.cls := findClass_of_methodNamed B.named
  have hlocks := B.notSynchronized
  have hP : va_P D vwCl [(mh, .inr (9, G9 ma mcode mtoday moffs mmany msumW msumA msumR msumWW msumWA msumAA msumWR msumAR mupper mlower mrates mtaped mlaid mat mtk mtkAt mtkNumber mwaits mlisted mdealtMany)), ((ma 2), .inl (E 0, 400, .inl mf2)), ((ma 3), .inl (E 0, 16, .inl mf3)), ((ma 4), .inl (E 0, 16, .inl mf4))] s.heap := hP
  have hl := lv_entry ([.ref mh, .int p0, .int p1]) (n := 3) (Nat.le_of_ble_eq_true rfl)
  rw [lg_entry_eq]
  generalize (lg_sl ([.ref mh, .int p0, .int p1]) ++ List.replicate (3 - (lg_sl ([.ref mh, .int p0, .int p1])).length) Slot.unset).toArray = ls at hl ⊢
  have hl : lv_has ls 3 [(0, .ref mh), (1, .int p0), (2, .int p1)] := hl
  have lo_p0 := i_lo p0; have hi_p0 := i_hi p0
  have lo_p1 := i_lo p1; have hi_p1 := i_hi p1
  refine lv_aload_n hx hb dX9_warmthOf_0 rfl (lv_at hl 0 rfl) ?_
  refine va_get (D := D) (ci := 9) (v := .ref (ma 3)) (C := RX9) (T := TX9) (N := 68) hx hb htb iX9 hown hK.1 hP 0 rfl rfl 3 (by decide) (htb _ k_961) (fun _ h9 => h9) rfl dX9_warmthOf_1 ?_
  refine lv_iload_n hx hb dX9_warmthOf_4 rfl (lv_at hl 1 rfl) ?_
  refine va_iald hx hb hK.1 hP 2 0 rfl rfl (g_in rfl (by omega) (by omega)) dX9_warmthOf_5 ?_
  refine lv_topi (fun z_1 ez_1 => ?_)
  have kz_1 := congrArg Int32.toInt ez_1
  refine lv_iconst (v := 1) hx hb dX9_warmthOf_6 (by decide) ?_
  refine lv_icmp_ne (tgt := 19) hx hb dX9_warmthOf_7 (by decide) (fun c_2 => ?_) (fun c_2 => ?_)
  ·
    have ic_2 : z_1.toInt ≠ 1 := mt (g_eq rfl t_1).mpr c_2
    clear c_2
    refine lv_aload_n hx hb dX9_warmthOf_19 rfl (lv_at hl 0 rfl) ?_
    refine va_get (D := D) (ci := 9) (v := .ref (ma 2)) (C := RX9) (T := TX9) (N := 68) hx hb htb iX9 hown hK.1 hP 0 rfl rfl 2 (by decide) (htb _ k_960) (fun _ h9 => h9) rfl dX9_warmthOf_20 ?_
    refine lv_iload_n hx hb dX9_warmthOf_23 rfl (lv_at hl 2 rfl) ?_
    refine va_iald hx hb hK.1 hP 1 0 rfl rfl (g_in rfl (by omega) (by omega)) dX9_warmthOf_24 ?_
    refine lv_topi (fun z_3 ez_3 => ?_)
    have kz_3 := congrArg Int32.toInt ez_3
    exact W.iret (v := z_3) hx hb hr (fun t ht hW => ⟨z_3, rfl, (by unfold wmF; first | (rw [if_pos (by omega)]; assumption) | (rw [if_neg (by omega)]; assumption)), ht⟩) (fun q h => by cases h) dX9_warmthOf_25
  ·
    have ic_2 : z_1.toInt = 1 := (g_eq rfl t_1).mp c_2
    clear c_2
    refine lv_aload_n hx hb dX9_warmthOf_10 rfl (lv_at hl 0 rfl) ?_
    refine va_get (D := D) (ci := 9) (v := .ref (ma 4)) (C := RX9) (T := TX9) (N := 68) hx hb htb iX9 hown hK.1 hP 0 rfl rfl 4 (by decide) (htb _ k_962) (fun _ h9 => h9) rfl dX9_warmthOf_11 ?_
    refine lv_iload_n hx hb dX9_warmthOf_14 rfl (lv_at hl 1 rfl) ?_
    refine va_iald hx hb hK.1 hP 3 0 rfl rfl (g_in rfl (by omega) (by omega)) dX9_warmthOf_15 ?_
    refine lv_topi (fun z_4 ez_4 => ?_)
    have kz_4 := congrArg Int32.toInt ez_4
    refine lv_goto (tgt := 25) hx hb dX9_warmthOf_16 (by decide) ?_
    exact W.iret (v := z_4) hx hb hr (fun t ht hW => ⟨z_4, rfl, (by unfold wmF; first | (rw [if_pos (by omega)]; assumption) | (rw [if_neg (by omega)]; assumption)), ht⟩) (fun q h => by cases h) dX9_warmthOf_25
set_option maxHeartbeats 4000000 in
set_option maxRecDepth 100000 in
theorem g_X9_feed (l : Launch) (D : va_G) (E : Nat → Nat) (mh : Nat) (ma : Nat → Nat) (mcode : Int32) (mtoday : Int32) (moffs : Int32) (mmany : Int64) (msumW : Int64) (msumA : Int64) (msumR : Int64) (msumWW : Int64) (msumWA : Int64) (msumAA : Int64) (msumWR : Int64) (msumAR : Int64) (mupper : Int64) (mlower : Int64) (mrates : Int32) (mtaped : Int32) (mlaid : Int32) (mat : Int32) (mtk : Int32) (mtkAt : Int32) (mtkNumber : Int32) (mwaits : Int32) (mlisted : Int32) (mdealtMany : Int32) (mf32 : Nat → Int32) (p0 : Int32) (p1 : Int32) (sz : Nat) (hi_m : (0 ≤ mtoday.toInt ∧ mtoday.toInt ≤ 399) ∧ (0 ≤ moffs.toInt ∧ moffs.toInt ≤ 60) ∧ (0 ≤ mrates.toInt ∧ mrates.toInt ≤ 60) ∧ (0 ≤ mtaped.toInt ∧ mtaped.toInt ≤ 120) ∧ (0 ≤ mlisted.toInt ∧ mlisted.toInt ≤ 9) ∧ (0 ≤ mdealtMany.toInt ∧ mdealtMany.toInt ≤ 9)) : Met l yX9_feed (wl yX9_feed cX9_feed 4 (some .int)) (RM 1 0 0) (mu_P D E [.ref mh, .int p0, .int p1] [(mh, .inr (9, G9 ma mcode mtoday moffs mmany msumW msumA msumR msumWW msumWA msumAA msumWR msumAR mupper mlower mrates mtaped mlaid mat mtk mtkAt mtkNumber mwaits mlisted mdealtMany)), ((ma 32), .inl (E 2, 120, .inl mf32))] sz) (va_Qi (fun (r : Int32) (u : (Nat → Int32) × (Int32)) => (0 ≤ u.2.toInt ∧ u.2.toInt ≤ 120) ∧ ((¬ (1 ≤ p0.toInt ∧ p0.toInt ≤ 4) ∧ r.toInt = -1 ∧ u.2.toInt = mtaped.toInt ∧ u.1 = mf32) ∨ ((1 ≤ p0.toInt ∧ p0.toInt ≤ 4) ∧ 120 < mtaped.toInt + p0.toInt ∧ r.toInt = -5 ∧ u.2.toInt = mtaped.toInt ∧ u.1 = mf32) ∨ ((1 ≤ p0.toInt ∧ p0.toInt ≤ 4) ∧ mtaped.toInt + p0.toInt ≤ 120 ∧ r.toInt = mtaped.toInt + p0.toInt ∧ u.2.toInt = r.toInt ∧ FEDM mf32 u.1 (mtaped).toNatClampNeg (p0).toNatClampNeg p1))) (mu_B D (va_A [(mh, .inr (9, G9 ma mcode mtoday moffs mmany msumW msumA msumR msumWW msumWA msumAA msumWR msumAR mupper mlower mrates mtaped mlaid mat mtk mtkAt mtkNumber mwaits mlisted mdealtMany)), ((ma 32), .inl (E 2, 120, .inl mf32))] sz) (fun (u : (Nat → Int32) × (Int32)) => [(mh, .inr (9, G9 ma mcode mtoday moffs mmany msumW msumA msumR msumWW msumWA msumAA msumWR msumAR mupper mlower mrates u.2 mlaid mat mtk mtkAt mtkNumber mwaits mlisted mdealtMany)), ((ma 32), .inl (E 2, 120, .inl u.1))])) (va_A [(mh, .inr (9, G9 ma mcode mtoday moffs mmany msumW msumA msumR msumWW msumWA msumAA msumWR msumAR mupper mlower mrates mtaped mlaid mat mtk mtkAt mtkNumber mwaits mlisted mdealtMany)), ((ma 32), .inl (E 2, 120, .inl mf32))] sz)) 0 0 (va_A [(mh, .inr (9, G9 ma mcode mtoday moffs mmany msumW msumA msumR msumWW msumWA msumAA msumWR msumAR mupper mlower mrates mtaped mlaid mat mtk mtkAt mtkNumber mwaits mlisted mdealtMany)), ((ma 32), .inl (E 2, 120, .inl mf32))] sz) := by
  refine Met.ofW (cc := cX9_feed) (maxL := 4) (ret := (some .int)) (by decide) rfl ?_
  intro p e s m args below meth c s₁ B hml hv
  obtain ⟨rfl, hsz, hP, hK, hD0⟩ := hv
  have hx := B.exec; have hb := B.bytes; have hr := B.returns
  have hts := atoms_spec (ws := wl yX9_feed cX9_feed 4 (some .int)) B.pre
  have htb : ∀ w ∈ tb, w.before _ s = true := fun w h => hts w (List.mem_cons_of_mem _ h)
  have hown : s.vm.findClass RX9 = some m.cls := findClass_of_methodNamed B.named
  have hlocks := B.notSynchronized
  subst hsz
  have hD := hD0.self (sz := s.heap.size)
  generalize hAe : va_A [(mh, .inr (9, G9 ma mcode mtoday moffs mmany msumW msumA msumR msumWW msumWA msumAA msumWR msumAR mupper mlower mrates mtaped mlaid mat mtk mtkAt mtkNumber mwaits mlisted mdealtMany)), ((ma 32), .inl (E 2, 120, .inl mf32))] s.heap.size = A at hD ⊢
  have hA : ∀ q : Nat, s.heap.size ≤ q → A q := fun q h => by rw [← hAe]; exact Or.inr h
  have hS : va_S A s.heap s.heap [] := va_S.rf
  have hP : va_P D vwCl [(mh, .inr (9, G9 ma mcode mtoday moffs mmany msumW msumA msumR msumWW msumWA msumAA msumWR msumAR mupper mlower mrates mtaped mlaid mat mtk mtkAt mtkNumber mwaits mlisted mdealtMany)), ((ma 32), .inl (E 2, 120, .inl mf32))] s.heap := hP
  have hl := lv_entry ([.ref mh, .int p0, .int p1]) (n := 4) (Nat.le_of_ble_eq_true rfl)
  rw [lg_entry_eq]
  generalize (lg_sl ([.ref mh, .int p0, .int p1]) ++ List.replicate (4 - (lg_sl ([.ref mh, .int p0, .int p1])).length) Slot.unset).toArray = ls at hl ⊢
  have hl : lv_has ls 4 [(0, .ref mh), (1, .int p0), (2, .int p1)] := hl
  have lo_p0 := i_lo p0; have hi_p0 := i_hi p0
  have lo_p1 := i_lo p1; have hi_p1 := i_hi p1
  refine lv_iload_n hx hb dX9_feed_0 rfl (lv_at hl 1 rfl) ?_
  refine lv_iconst (v := 1) hx hb dX9_feed_1 (by decide) ?_
  refine lv_iconst (v := 4) hx hb dX9_feed_2 (by decide) ?_
  refine callRS (rest := []) (As := [.int p0, .int 1, .int 4]) hx hb hml hown htb hK (g_X9_in l D E p0 1 4 ) ok_X9_in k_1168 k_1169 k_9 k_1170 ⟨(Nat.le_of_ble_eq_true rfl), (Nat.le_of_ble_eq_true rfl)⟩ ⟨(Nat.le_of_ble_eq_true rfl), (Nat.le_of_ble_eq_true rfl)⟩ hl.1 (Nat.le_of_ble_eq_true rfl) rfl rfl dX9_feed_3 (hP.sub (ws' := ([] : va_W)) [] rfl) (fun r_1 hw_2 => ?_)
  try simp only [t_1, t_4] at hw_2
  rcases hw_2 with ⟨hr_1, hw_2⟩ | ⟨hr_1, hw_2⟩
  ·
    try simp only [t_1, t_4] at hw_2
    refine W_top (y := .int 1) (by rw [hr_1]) ?_
    refine lv_if_ne (tgt := 11) hx hb dX9_feed_6 (by decide) (fun c_4 => ?_) (fun c_4 => absurd c_4 (by decide))
    refine lv_aload_n hx hb dX9_feed_11 rfl (lv_at hl 0 rfl) ?_
    refine va_get (D := D) (ci := 9) (v := .int mtaped) (C := RX9) (T := TX9) (N := 68) hx hb htb iX9 hown hK.1 hP 0 rfl rfl 33 (by decide) (htb _ k_991) (fun _ h9 => h9) rfl dX9_feed_12 ?_
    refine lv_iload_n hx hb dX9_feed_15 rfl (lv_at hl 1 rfl) ?_
    refine lv_iadd hx hb dX9_feed_16 ?_
    refine lv_topi (fun z_5 ez_5 => ?_)
    have jz_5 : z_5.toInt = mtaped.toInt + p0.toInt := by rw [ez_5]; exact g_add rfl rfl (by omega) (by omega)
    refine lv_bipush (v := 120) hx hb dX9_feed_17 (by decide) ?_
    refine lv_icmp_le (tgt := 25) hx hb dX9_feed_19 (by decide) (fun c_6 => ?_) (fun c_6 => ?_)
    ·
      have ic_6 : z_5.toInt ≤ 120 := by first | exact (g_le rfl t_120).mp c_6 | (have h := mt (g_lt t_120 rfl).mpr c_6; omega)
      clear c_6
      refine lv_iconst (v := 0) hx hb dX9_feed_25 (by decide) ?_
      refine lv_istore_n (lv' := [(3, .int 0), (0, .ref mh), (1, .int p0), (2, .int p1)]) hx hb dX9_feed_26 rfl hl (by decide) rfl (fun ls hl => ?_)
      have loop_7 : ∀ (N_9 : Nat) (L3_27 : Int32) (mtaped_27 : Int32) (mf32_27 : Nat → Int32) (H : Heap) (locs : List Loc) (ls : Array Slot), p0.toInt - L3_27.toInt < (N_9 : Int) → (0 ≤ mtaped_27.toInt ∧ mtaped_27.toInt ≤ 120) → (0 ≤ L3_27.toInt ∧ L3_27.toInt ≤ p0.toInt) → (mtaped_27.toInt = mtaped.toInt + L3_27.toInt) → (FEDM mf32 mf32_27 (mtaped).toNatClampNeg (L3_27).toNatClampNeg p1) → va_P D vwCl [(mh, .inr (9, G9 ma mcode mtoday moffs mmany msumW msumA msumR msumWW msumWA msumAA msumWR msumAR mupper mlower mrates mtaped_27 mlaid mat mtk mtkAt mtkNumber mwaits mlisted mdealtMany)), ((ma 32), .inl (E 2, 120, .inl mf32_27))] H → va_D A [(mh, .inr (9, G9 ma mcode mtoday moffs mmany msumW msumA msumR msumWW msumWA msumAA msumWR msumAR mupper mlower mrates mtaped_27 mlaid mat mtk mtkAt mtkNumber mwaits mlisted mdealtMany)), ((ma 32), .inl (E 2, 120, .inl mf32_27))] → va_S A s.heap H locs → lv_has ls 4 [(3, .int L3_27), (0, .ref mh), (1, .int p0), (2, .int p1)] → W p l e (headSpec (wl yX9_feed cX9_feed 4 (some .int)) (RM 1 0 0)).room s m [Value.ref mh, .int p0, .int p1].toArray below meth c H locs 0 0 (MQ below (va_Qi (fun (r : Int32) (u : (Nat → Int32) × (Int32)) => (0 ≤ u.2.toInt ∧ u.2.toInt ≤ 120) ∧ ((¬ (1 ≤ p0.toInt ∧ p0.toInt ≤ 4) ∧ r.toInt = -1 ∧ u.2.toInt = mtaped.toInt ∧ u.1 = mf32) ∨ ((1 ≤ p0.toInt ∧ p0.toInt ≤ 4) ∧ 120 < mtaped.toInt + p0.toInt ∧ r.toInt = -5 ∧ u.2.toInt = mtaped.toInt ∧ u.1 = mf32) ∨ ((1 ≤ p0.toInt ∧ p0.toInt ≤ 4) ∧ mtaped.toInt + p0.toInt ≤ 120 ∧ r.toInt = mtaped.toInt + p0.toInt ∧ u.2.toInt = r.toInt ∧ FEDM mf32 u.1 (mtaped).toNatClampNeg (p0).toNatClampNeg p1))) (mu_B D A (fun (u : (Nat → Int32) × (Int32)) => [(mh, .inr (9, G9 ma mcode mtoday moffs mmany msumW msumA msumR msumWW msumWA msumAA msumWR msumAR mupper mlower mrates u.2 mlaid mat mtk mtkAt mtkNumber mwaits mlisted mdealtMany)), ((ma 32), .inl (E 2, 120, .inl u.1))])) A) [Value.ref mh, .int p0, .int p1].toArray s 0 0 A) (F0 m 27 ls []) := by
        intro N_9
        induction N_9 with
        | zero => intro L3_27 mtaped_27 mf32_27 H locs ls hm v_mtaped_27 v0_27 v1_27 v2_27 _ _ _ _; exfalso; omega
        | succ N_9 ih_8 =>
          intro L3_27 mtaped_27 mf32_27 H locs ls hm v_mtaped_27 v0_27 v1_27 v2_27 hP hD hS hl
          have lo_L3_27 := i_lo L3_27; have hi_L3_27 := i_hi L3_27
          have lo_mtaped_27 := i_lo mtaped_27; have hi_mtaped_27 := i_hi mtaped_27
          refine lv_iload_n hx hb dX9_feed_27 rfl (lv_at hl 0 rfl) ?_
          refine lv_iload_n hx hb dX9_feed_28 rfl (lv_at hl 2 rfl) ?_
          refine lv_icmp_ge (tgt := 64) hx hb dX9_feed_29 (by decide) (fun c_10 => ?_) (fun c_10 => ?_)
          ·
            have ic_10 : p0.toInt ≤ L3_27.toInt := by first | exact (g_le rfl rfl).mp c_10 | (have h := mt (g_lt rfl rfl).mpr c_10; omega)
            clear c_10
            refine lv_aload_n hx hb dX9_feed_64 rfl (lv_at hl 1 rfl) ?_
            refine va_get (D := D) (ci := 9) (v := .int mtaped_27) (C := RX9) (T := TX9) (N := 68) hx hb htb iX9 hown hK.1 hP 0 rfl rfl 33 (by decide) (htb _ k_991) (fun _ h9 => h9) rfl dX9_feed_65 ?_
            have hP9 := hP.sub (ws' := [(mh, .inr (9, G9 ma mcode mtoday moffs mmany msumW msumA msumR msumWW msumWA msumAA msumWR msumAR mupper mlower mrates mtaped_27 mlaid mat mtk mtkAt mtkNumber mwaits mlisted mdealtMany)), ((ma 32), .inl (E 2, 120, .inl mf32_27))]) [0, 1] rfl
            have hD9 := hD.sub (ws' := [(mh, .inr (9, G9 ma mcode mtoday moffs mmany msumW msumA msumR msumWW msumWA msumAA msumWR msumAR mupper mlower mrates mtaped_27 mlaid mat mtk mtkAt mtkNumber mwaits mlisted mdealtMany)), ((ma 32), .inl (E 2, 120, .inl mf32_27))]) [0, 1] (by decide) rfl
            exact W.iret (v := mtaped_27) hx hb hr (fun t ht hW => ⟨⟨mtaped_27, (mf32_27, mtaped_27), rfl, ⟨(by (try dsimp only); omega), (by (try dsimp only); first | exact Or.inl ⟨by omega, by omega, by omega, rfl⟩ | exact Or.inr (Or.inl ⟨by omega, by omega, by omega, by omega, rfl⟩) | exact Or.inr (Or.inr ⟨by omega, by omega, by omega, by omega, by rw [show (p0).toNatClampNeg = (L3_27).toNatClampNeg by have c0 := i_clamp0 (x := p0) (by omega); have c1 := i_clamp0 (x := L3_27) (by omega); omega]; exact v2_27⟩))⟩, by rw [ht]; exact hP9, hD9⟩, hS.F ht⟩) hS.2.2 dX9_feed_68
          ·
            have ic_10 : L3_27.toInt < p0.toInt := by first | exact (g_lt rfl rfl).mp c_10 | (have h := mt (g_le rfl rfl).mpr c_10; omega)
            clear c_10
            refine lv_aload_n hx hb dX9_feed_32 rfl (lv_at hl 1 rfl) ?_
            refine va_get (D := D) (ci := 9) (v := .ref (ma 32)) (C := RX9) (T := TX9) (N := 68) hx hb htb iX9 hown hK.1 hP 0 rfl rfl 32 (by decide) (htb _ k_990) (fun _ h9 => h9) rfl dX9_feed_33 ?_
            refine lv_aload_n hx hb dX9_feed_36 rfl (lv_at hl 1 rfl) ?_
            refine va_get (D := D) (ci := 9) (v := .int mtaped_27) (C := RX9) (T := TX9) (N := 68) hx hb htb iX9 hown hK.1 hP 0 rfl rfl 33 (by decide) (htb _ k_991) (fun _ h9 => h9) rfl dX9_feed_37 ?_
            refine lv_iload_n hx hb dX9_feed_40 rfl (lv_at hl 3 rfl) ?_
            refine lv_bipush (v := 8) hx hb dX9_feed_41 (by decide) ?_
            refine lv_iload_n hx hb dX9_feed_43 rfl (lv_at hl 0 rfl) ?_
            refine lv_imul hx hb dX9_feed_44 ?_
            refine lv_topi (fun z_11 ez_11 => ?_)
            have jz_11 : z_11.toInt = 8 * L3_27.toInt := by rw [ez_11]; exact g_mul t_8 rfl (by omega) (by omega)
            refine lv_ishr hx hb dX9_feed_45 ?_
            refine lv_topi (fun z_12 ez_12 => ?_)
            obtain ⟨z_13, ez_13⟩ : ∃ y : Int32, (z_12 : Int32).toInt8.toInt32 = y := ⟨_, rfl⟩
            refine lv_i2b hx hb dX9_feed_46 ez_13 ?_
            refine va_bast hx hb hK.1 hP hD hS 1 2 rfl rfl (g_in rfl (by omega) (by omega)) dX9_feed_47 (fun H locs hP hD hS => ?_)
            have hP : va_P D vwCl [(mh, .inr (9, G9 ma mcode mtoday moffs mmany msumW msumA msumR msumWW msumWA msumAA msumWR msumAR mupper mlower mrates mtaped_27 mlaid mat mtk mtkAt mtkNumber mwaits mlisted mdealtMany)), ((ma 32), .inl (E 2, 120, .inl (upd mf32_27 (mtaped_27 : Int32).toNatClampNeg (vp_nar .byte z_13))))] H := hP
            have hD := toW hP hD rfl
            refine lv_aload_n hx hb dX9_feed_48 rfl (lv_at hl 1 rfl) ?_
            refine lv_dup hx hb dX9_feed_49 rfl ?_
            refine va_get (D := D) (ci := 9) (v := .int mtaped_27) (C := RX9) (T := TX9) (N := 68) hx hb htb iX9 hown hK.1 hP 0 rfl rfl 33 (by decide) (htb _ k_991) (fun _ h9 => h9) rfl dX9_feed_50 ?_
            refine lv_iconst (v := 1) hx hb dX9_feed_53 (by decide) ?_
            refine lv_iadd hx hb dX9_feed_54 ?_
            refine lv_topi (fun z_14 ez_14 => ?_)
            have jz_14 : z_14.toInt = mtaped_27.toInt + 1 := by rw [ez_14]; exact g_add rfl t_1 (by omega) (by omega)
            refine va_put (D := D) (ci := 9) (v := .int z_14) (ty := .int) (C := RX9) (T := TX9) (N := 68) hx hb htb iX9 tyX9 tyX9_ok nmX9 hown hK.1 hP hD hS 0 rfl rfl 33 (by decide) (htb _ k_991) (fun _ h9 => h9) rfl (by decide +kernel) rfl rfl (Nat.le_of_ble_eq_true rfl) dX9_feed_55 (fun H locs hP hD hS => ?_)
            have hP : va_P D vwCl [(mh, .inr (9, G9 ma mcode mtoday moffs mmany msumW msumA msumR msumWW msumWA msumAA msumWR msumAR mupper mlower mrates z_14 mlaid mat mtk mtkAt mtkNumber mwaits mlisted mdealtMany)), ((ma 32), .inl (E 2, 120, .inl (upd mf32_27 (mtaped_27 : Int32).toNatClampNeg (vp_nar .byte z_13))))] H := hP
            have hD := toW hP hD rfl
            obtain ⟨z_15, ez_15⟩ : ∃ y : Int32, y = L3_27 + 1 := ⟨_, rfl⟩
            have jz_15 : z_15.toInt = L3_27.toInt + 1 := by rw [ez_15]; exact g_add rfl t_1 (by omega) (by omega)
            refine lv_iinc (v := z_15) (lv' := [(3, .int z_15), (0, .ref mh), (1, .int p0), (2, .int p1)]) hx hb dX9_feed_58 hl (k := 0) rfl (by rw [ez_15]; rfl) (by decide) rfl (fun ls hl => ?_)
            refine lv_goto (tgt := 27) hx hb dX9_feed_61 (by decide) ?_
            exact ih_8 z_15 z_14 (upd mf32_27 (mtaped_27 : Int32).toNatClampNeg (vp_nar .byte z_13)) _ _ _ (by (try dsimp only); omega) (by (try dsimp only); omega) (by (try dsimp only); omega) (by (try dsimp only); omega) (by have c0 := i_clamp0 (x := mtaped) (by omega); have c1 := i_clamp0 (x := L3_27) (by omega); have c2 := i_clamp0 (x := mtaped_27) (by omega); rw [clampS (by omega) jz_15, show (mtaped_27 : Int32).toNatClampNeg = (mtaped).toNatClampNeg + (L3_27).toNatClampNeg by omega]; exact FEDM_s v2_27 (s := z_11) (by omega) ez_12 ez_13) hP hD hS (lv_sub hl [0, 1, 2, 3] rfl)
      exact loop_7 5 0 mtaped mf32 _ _ _ (by have h0 := t_0; (try dsimp only); omega) (by (try dsimp only); omega) (by have h0 := t_0; (try dsimp only); omega) (by have h0 := t_0; (try dsimp only); omega) (FEDM_0 clamp_0) hP hD hS (lv_sub hl [0, 1, 2, 3] rfl)
    ·
      have ic_6 : 120 < z_5.toInt := by first | exact (g_lt t_120 rfl).mp c_6 | (have h := mt (g_le rfl t_120).mpr c_6; omega)
      clear c_6
      refine lv_bipush (v := (-5)) hx hb dX9_feed_22 (by decide) ?_
      have hP9 := hP.sub (ws' := [(mh, .inr (9, G9 ma mcode mtoday moffs mmany msumW msumA msumR msumWW msumWA msumAA msumWR msumAR mupper mlower mrates mtaped mlaid mat mtk mtkAt mtkNumber mwaits mlisted mdealtMany)), ((ma 32), .inl (E 2, 120, .inl mf32))]) [0, 1] rfl
      have hD9 := hD.sub (ws' := [(mh, .inr (9, G9 ma mcode mtoday moffs mmany msumW msumA msumR msumWW msumWA msumAA msumWR msumAR mupper mlower mrates mtaped mlaid mat mtk mtkAt mtkNumber mwaits mlisted mdealtMany)), ((ma 32), .inl (E 2, 120, .inl mf32))]) [0, 1] (by decide) rfl
      exact W.iret (v := (-5)) hx hb hr (fun t ht hW => ⟨⟨(-5), (mf32, mtaped), rfl, ⟨(by (try dsimp only); omega), (by have hl := t_m5; (try dsimp only); first | exact Or.inl ⟨by omega, by omega, by omega, rfl⟩ | exact Or.inr (Or.inl ⟨by omega, by omega, by omega, by omega, rfl⟩) | exact Or.inr (Or.inr ⟨by omega, by omega, by omega, by omega, by rw [show (p0).toNatClampNeg = (L3_27).toNatClampNeg by have c0 := i_clamp0 (x := p0) (by omega); have c1 := i_clamp0 (x := L3_27) (by omega); omega]; exact v2_27⟩))⟩, by rw [ht]; exact hP9, hD9⟩, hS.F ht⟩) hS.2.2 dX9_feed_24
  ·
    try simp only [t_1, t_4] at hw_2
    refine W_top (y := .int 0) (by rw [hr_1]) ?_
    refine lv_if_ne (tgt := 11) hx hb dX9_feed_6 (by decide) (fun c_16 => absurd (by decide) c_16) (fun c_16 => ?_)
    refine lv_iconst (v := (-1)) hx hb dX9_feed_9 (by decide) ?_
    have hP9 := hP.sub (ws' := [(mh, .inr (9, G9 ma mcode mtoday moffs mmany msumW msumA msumR msumWW msumWA msumAA msumWR msumAR mupper mlower mrates mtaped mlaid mat mtk mtkAt mtkNumber mwaits mlisted mdealtMany)), ((ma 32), .inl (E 2, 120, .inl mf32))]) [0, 1] rfl
    have hD9 := hD.sub (ws' := [(mh, .inr (9, G9 ma mcode mtoday moffs mmany msumW msumA msumR msumWW msumWA msumAA msumWR msumAR mupper mlower mrates mtaped mlaid mat mtk mtkAt mtkNumber mwaits mlisted mdealtMany)), ((ma 32), .inl (E 2, 120, .inl mf32))]) [0, 1] (by decide) rfl
    exact W.iret (v := (-1)) hx hb hr (fun t ht hW => ⟨⟨(-1), (mf32, mtaped), rfl, ⟨(by (try dsimp only); omega), (by have hl := t_m1; (try dsimp only); first | exact Or.inl ⟨by omega, by omega, by omega, rfl⟩ | exact Or.inr (Or.inl ⟨by omega, by omega, by omega, by omega, rfl⟩) | exact Or.inr (Or.inr ⟨by omega, by omega, by omega, by omega, by rw [show (p0).toNatClampNeg = (L3_27).toNatClampNeg by have c0 := i_clamp0 (x := p0) (by omega); have c1 := i_clamp0 (x := L3_27) (by omega); omega]; exact v2_27⟩))⟩, by rw [ht]; exact hP9, hD9⟩, hS.F ht⟩) hS.2.2 dX9_feed_10
