set_option maxHeartbeats 4000000 in
set_option maxRecDepth 100000 in
theorem g_X9_isWatch (l : Launch) (D : va_G) (E : Nat → Nat) (mh : Nat) (ma : Nat → Nat) (mcode : Int32) (mtoday : Int32) (moffs : Int32) (mmany : Int64) (msumW : Int64) (msumA : Int64) (msumR : Int64) (msumWW : Int64) (msumWA : Int64) (msumAA : Int64) (msumWR : Int64) (msumAR : Int64) (mupper : Int64) (mlower : Int64) (mrates : Int32) (mtaped : Int32) (mlaid : Int32) (mat : Int32) (mtk : Int32) (mtkAt : Int32) (mtkNumber : Int32) (mwaits : Int32) (mlisted : Int32) (mdealtMany : Int32) (mf3 : Nat → Int32) (p0 : Int32) (hi_m : (0 ≤ mtoday.toInt ∧ mtoday.toInt ≤ 399) ∧ (0 ≤ moffs.toInt ∧ moffs.toInt ≤ 60) ∧ (0 ≤ mrates.toInt ∧ mrates.toInt ≤ 60) ∧ (0 ≤ mtaped.toInt ∧ mtaped.toInt ≤ 120) ∧ (0 ≤ mlisted.toInt ∧ mlisted.toInt ≤ 9) ∧ (0 ≤ mdealtMany.toInt ∧ mdealtMany.toInt ≤ 9)) (g0 : 0 ≤ p0.toInt ∧ p0.toInt ≤ 15) : Met l yX9_isWatch (wl yX9_isWatch cX9_isWatch 2 (some .boolean)) (RM 0 0 0) (rd_P D E [.ref mh, .int p0] [(mh, .inr (9, G9 ma mcode mtoday moffs mmany msumW msumA msumR msumWW msumWA msumAA msumWR msumAR mupper mlower mrates mtaped mlaid mat mtk mtkAt mtkNumber mwaits mlisted mdealtMany)), ((ma 3), .inl (E 0, 16, .inl mf3))]) (rd_Q (fun r => ((r.toInt = 1 ∧ ((mf3 (p0).toNatClampNeg).toInt = 0 ∨ (mf3 (p0).toNatClampNeg).toInt = 1)) ∨ (r.toInt = 0 ∧ ¬ ((mf3 (p0).toNatClampNeg).toInt = 0 ∨ (mf3 (p0).toNatClampNeg).toInt = 1))))) 0 0 (fun _ => False) := by
  refine Met.ofW (cc := cX9_isWatch) (maxL := 2) (ret := (some .boolean)) (by decide) rfl ?_
  intro p e s m args below meth c s₁ B hml hv
  obtain ⟨rfl, hP, hK⟩ := hv
  have hx := B.exec; have hb := B.bytes; have hr := B.returns
  have hts := atoms_spec (ws := wl yX9_isWatch cX9_isWatch 2 (some .boolean)) B.pre
  have htb : ∀ w ∈ tb, w.before _ s = true := fun w h => hts w (List.mem_cons_of_mem _ h)
  have hown : s.vm.findClass RX9 = some m.cls := findClass_of_methodNamed B.named
  have hlocks := B.notSynchronized
  have hP : va_P D vwCl [(mh, .inr (9, G9 ma mcode mtoday moffs mmany msumW msumA msumR msumWW msumWA msumAA msumWR msumAR mupper mlower mrates mtaped mlaid mat mtk mtkAt mtkNumber mwaits mlisted mdealtMany)), ((ma 3), .inl (E 0, 16, .inl mf3))] s.heap := hP
  have hl := lv_entry ([.ref mh, .int p0]) (n := 2) (Nat.le_of_ble_eq_true rfl)
  rw [lg_entry_eq]
  generalize (lg_sl ([.ref mh, .int p0]) ++ List.replicate (2 - (lg_sl ([.ref mh, .int p0])).length) Slot.unset).toArray = ls at hl ⊢
  have hl : lv_has ls 2 [(0, .ref mh), (1, .int p0)] := hl
  have lo_p0 := i_lo p0; have hi_p0 := i_hi p0
  refine lv_aload_n hx hb dX9_isWatch_0 rfl (lv_at hl 0 rfl) ?_
  refine va_get (D := D) (ci := 9) (v := .ref (ma 3)) (C := RX9) (T := TX9) (N := 68) hx hb htb iX9 hown hK.1 hP 0 rfl rfl 3 (by decide) (htb _ k_961) (fun _ h9 => h9) rfl dX9_isWatch_1 ?_
  refine lv_iload_n hx hb dX9_isWatch_4 rfl (lv_at hl 1 rfl) ?_
  refine va_iald hx hb hK.1 hP 1 0 rfl rfl (g_in rfl (by omega) (by omega)) dX9_isWatch_5 ?_
  refine lv_topi (fun z_1 ez_1 => ?_)
  have kz_1 := congrArg Int32.toInt ez_1
  refine lv_if_eq (tgt := 19) hx hb dX9_isWatch_6 (by decide) (fun c_2 => ?_) (fun c_2 => ?_)
  ·
    have ic_2 : z_1.toInt = 0 := (g_eq rfl t_0).mp c_2
    clear c_2
    refine lv_iconst (v := 1) hx hb dX9_isWatch_19 (by decide) ?_
    refine lv_goto (tgt := 24) hx hb dX9_isWatch_20 (by decide) ?_
    exact W.zret (v := 1) hx hb hr rfl (fun t ht hW => ⟨1, rfl, (by have h0 := t_1; (try dsimp only); omega), ht⟩) (fun q h => by cases h) dX9_isWatch_24
  ·
    have ic_2 : z_1.toInt ≠ 0 := mt (g_eq rfl t_0).mpr c_2
    clear c_2
    refine lv_aload_n hx hb dX9_isWatch_9 rfl (lv_at hl 0 rfl) ?_
    refine va_get (D := D) (ci := 9) (v := .ref (ma 3)) (C := RX9) (T := TX9) (N := 68) hx hb htb iX9 hown hK.1 hP 0 rfl rfl 3 (by decide) (htb _ k_961) (fun _ h9 => h9) rfl dX9_isWatch_10 ?_
    refine lv_iload_n hx hb dX9_isWatch_13 rfl (lv_at hl 1 rfl) ?_
    refine va_iald hx hb hK.1 hP 1 0 rfl rfl (g_in rfl (by omega) (by omega)) dX9_isWatch_14 ?_
    refine lv_topi (fun z_3 ez_3 => ?_)
    have kz_3 := congrArg Int32.toInt ez_3
    refine lv_iconst (v := 1) hx hb dX9_isWatch_15 (by decide) ?_
    refine lv_icmp_ne (tgt := 23) hx hb dX9_isWatch_16 (by decide) (fun c_4 => ?_) (fun c_4 => ?_)
    ·
      have ic_4 : z_3.toInt ≠ 1 := mt (g_eq rfl t_1).mpr c_4
      clear c_4
      refine lv_iconst (v := 0) hx hb dX9_isWatch_23 (by decide) ?_
      exact W.zret (v := 0) hx hb hr rfl (fun t ht hW => ⟨0, rfl, (by have h0 := t_0; (try dsimp only); omega), ht⟩) (fun q h => by cases h) dX9_isWatch_24
    ·
      have ic_4 : z_3.toInt = 1 := (g_eq rfl t_1).mp c_4
      clear c_4
      refine lv_iconst (v := 1) hx hb dX9_isWatch_19 (by decide) ?_
      refine lv_goto (tgt := 24) hx hb dX9_isWatch_20 (by decide) ?_
      exact W.zret (v := 1) hx hb hr rfl (fun t ht hW => ⟨1, rfl, (by have h0 := t_1; (try dsimp only); omega), ht⟩) (fun q h => by cases h) dX9_isWatch_24
set_option maxHeartbeats 4000000 in
set_option maxRecDepth 100000 in
theorem g_X9_watchAt (l : Launch) (D : va_G) (E : Nat → Nat) (mh : Nat) (ma : Nat → Nat) (mcode : Int32) (mtoday : Int32) (moffs : Int32) (mmany : Int64) (msumW : Int64) (msumA : Int64) (msumR : Int64) (msumWW : Int64) (msumWA : Int64) (msumAA : Int64) (msumWR : Int64) (msumAR : Int64) (mupper : Int64) (mlower : Int64) (mrates : Int32) (mtaped : Int32) (mlaid : Int32) (mat : Int32) (mtk : Int32) (mtkAt : Int32) (mtkNumber : Int32) (mwaits : Int32) (mlisted : Int32) (mdealtMany : Int32) (mf3 : Nat → Int32) (p0 : Int32) (hi_m : (0 ≤ mtoday.toInt ∧ mtoday.toInt ≤ 399) ∧ (0 ≤ moffs.toInt ∧ moffs.toInt ≤ 60) ∧ (0 ≤ mrates.toInt ∧ mrates.toInt ≤ 60) ∧ (0 ≤ mtaped.toInt ∧ mtaped.toInt ≤ 120) ∧ (0 ≤ mlisted.toInt ∧ mlisted.toInt ≤ 9) ∧ (0 ≤ mdealtMany.toInt ∧ mdealtMany.toInt ≤ 9)) : Met l yX9_watchAt (wl yX9_watchAt cX9_watchAt 2 (some .int)) (RM 2 0 0) (rd_P D E [.ref mh, .int p0] [(mh, .inr (9, G9 ma mcode mtoday moffs mmany msumW msumA msumR msumWW msumWA msumAA msumWR msumAR mupper mlower mrates mtaped mlaid mat mtk mtkAt mtkNumber mwaits mlisted mdealtMany)), ((ma 3), .inl (E 0, 16, .inl mf3))]) (rd_Q (fun r => (((¬ (0 ≤ p0.toInt ∧ p0.toInt ≤ 15) ∧ r.toInt = -1) ∨ ((0 ≤ p0.toInt ∧ p0.toInt ≤ 15) ∧ (mf3 (p0).toNatClampNeg).toInt = -5 ∧ r.toInt = -2) ∨ ((0 ≤ p0.toInt ∧ p0.toInt ≤ 15) ∧ (mf3 (p0).toNatClampNeg).toInt = 2 ∧ r.toInt = -3) ∨ ((0 ≤ p0.toInt ∧ p0.toInt ≤ 15) ∧ (mf3 (p0).toNatClampNeg).toInt ≠ -5 ∧ (mf3 (p0).toNatClampNeg).toInt ≠ 2 ∧ r.toInt = 0))))) 0 0 (fun _ => False) := by
  refine Met.ofW (cc := cX9_watchAt) (maxL := 2) (ret := (some .int)) (by decide) rfl ?_
  intro p e s m args below meth c s₁ B hml hv
  obtain ⟨rfl, hP, hK⟩ := hv
  have hx := B.exec; have hb := B.bytes; have hr := B.returns
  have hts := atoms_spec (ws := wl yX9_watchAt cX9_watchAt 2 (some .int)) B.pre
  have htb : ∀ w ∈ tb, w.before _ s = true := fun w h => hts w (List.mem_cons_of_mem _ h)
  have hown : s.vm.findClass RX9 = some m.cls := findClass_of_methodNamed B.named
  have hlocks := B.notSynchronized
  have hP : va_P D vwCl [(mh, .inr (9, G9 ma mcode mtoday moffs mmany msumW msumA msumR msumWW msumWA msumAA msumWR msumAR mupper mlower mrates mtaped mlaid mat mtk mtkAt mtkNumber mwaits mlisted mdealtMany)), ((ma 3), .inl (E 0, 16, .inl mf3))] s.heap := hP
  have hl := lv_entry ([.ref mh, .int p0]) (n := 2) (Nat.le_of_ble_eq_true rfl)
  rw [lg_entry_eq]
  generalize (lg_sl ([.ref mh, .int p0]) ++ List.replicate (2 - (lg_sl ([.ref mh, .int p0])).length) Slot.unset).toArray = ls at hl ⊢
  have hl : lv_has ls 2 [(0, .ref mh), (1, .int p0)] := hl
  have lo_p0 := i_lo p0; have hi_p0 := i_hi p0
  refine lv_iload_n hx hb dX9_watchAt_0 rfl (lv_at hl 1 rfl) ?_
  refine callRS (rest := []) (As := [.int p0]) hx hb hml hown htb hK (g_X9_isPlace l D E p0 ) ok_X9_isPlace k_1182 k_1183 k_9 k_1184 ⟨(Nat.le_of_ble_eq_true rfl), (Nat.le_of_ble_eq_true rfl)⟩ ⟨(Nat.le_of_ble_eq_true rfl), (Nat.le_of_ble_eq_true rfl)⟩ hl.1 (Nat.le_of_ble_eq_true rfl) rfl rfl dX9_watchAt_1 (hP.sub (ws' := ([] : va_W)) [] rfl) (fun r_1 hw_2 => ?_)
  rcases hw_2 with ⟨hr_1, hw_2⟩ | ⟨hr_1, hw_2⟩
  ·
    refine W_top (y := .int 1) (by rw [hr_1]) ?_
    refine lv_if_ne (tgt := 11) hx hb dX9_watchAt_4 (by decide) (fun c_4 => ?_) (fun c_4 => absurd c_4 (by decide))
    refine lv_aload_n hx hb dX9_watchAt_11 rfl (lv_at hl 0 rfl) ?_
    refine va_get (D := D) (ci := 9) (v := .ref (ma 3)) (C := RX9) (T := TX9) (N := 68) hx hb htb iX9 hown hK.1 hP 0 rfl rfl 3 (by decide) (htb _ k_961) (fun _ h9 => h9) rfl dX9_watchAt_12 ?_
    refine lv_iload_n hx hb dX9_watchAt_15 rfl (lv_at hl 1 rfl) ?_
    refine va_iald hx hb hK.1 hP 1 0 rfl rfl (g_in rfl (by omega) (by omega)) dX9_watchAt_16 ?_
    refine lv_topi (fun z_5 ez_5 => ?_)
    have kz_5 := congrArg Int32.toInt ez_5
    refine lv_bipush (v := (-5)) hx hb dX9_watchAt_17 (by decide) ?_
    refine lv_icmp_ne (tgt := 27) hx hb dX9_watchAt_19 (by decide) (fun c_6 => ?_) (fun c_6 => ?_)
    ·
      have ic_6 : z_5.toInt ≠ -5 := mt (g_eq rfl t_m5).mpr c_6
      clear c_6
      refine lv_aload_n hx hb dX9_watchAt_27 rfl (lv_at hl 0 rfl) ?_
      refine va_get (D := D) (ci := 9) (v := .ref (ma 3)) (C := RX9) (T := TX9) (N := 68) hx hb htb iX9 hown hK.1 hP 0 rfl rfl 3 (by decide) (htb _ k_961) (fun _ h9 => h9) rfl dX9_watchAt_28 ?_
      refine lv_iload_n hx hb dX9_watchAt_31 rfl (lv_at hl 1 rfl) ?_
      refine va_iald hx hb hK.1 hP 1 0 rfl rfl (g_in rfl (by omega) (by omega)) dX9_watchAt_32 ?_
      refine lv_topi (fun z_7 ez_7 => ?_)
      have kz_7 := congrArg Int32.toInt ez_7
      refine lv_iconst (v := 2) hx hb dX9_watchAt_33 (by decide) ?_
      refine lv_icmp_ne (tgt := 42) hx hb dX9_watchAt_34 (by decide) (fun c_8 => ?_) (fun c_8 => ?_)
      ·
        have ic_8 : z_7.toInt ≠ 2 := mt (g_eq rfl t_2).mpr c_8
        clear c_8
        refine lv_iconst (v := 0) hx hb dX9_watchAt_42 (by decide) ?_
        exact W.iret (v := 0) hx hb hr (fun t ht hW => ⟨0, rfl, (by have h0 := t_0; (try dsimp only); omega), ht⟩) (fun q h => by cases h) dX9_watchAt_43
      ·
        have ic_8 : z_7.toInt = 2 := (g_eq rfl t_2).mp c_8
        clear c_8
        refine lv_bipush (v := (-3)) hx hb dX9_watchAt_37 (by decide) ?_
        refine lv_goto (tgt := 43) hx hb dX9_watchAt_39 (by decide) ?_
        exact W.iret (v := (-3)) hx hb hr (fun t ht hW => ⟨(-3), rfl, (by have h0 := t_m3; (try dsimp only); omega), ht⟩) (fun q h => by cases h) dX9_watchAt_43
    ·
      have ic_6 : z_5.toInt = -5 := (g_eq rfl t_m5).mp c_6
      clear c_6
      refine lv_bipush (v := (-2)) hx hb dX9_watchAt_22 (by decide) ?_
      refine lv_goto (tgt := 43) hx hb dX9_watchAt_24 (by decide) ?_
      exact W.iret (v := (-2)) hx hb hr (fun t ht hW => ⟨(-2), rfl, (by have h0 := t_m2; (try dsimp only); omega), ht⟩) (fun q h => by cases h) dX9_watchAt_43
  ·
    refine W_top (y := .int 0) (by rw [hr_1]) ?_
    refine lv_if_ne (tgt := 11) hx hb dX9_watchAt_4 (by decide) (fun c_9 => absurd (by decide) c_9) (fun c_9 => ?_)
    refine lv_iconst (v := (-1)) hx hb dX9_watchAt_7 (by decide) ?_
    refine lv_goto (tgt := 43) hx hb dX9_watchAt_8 (by decide) ?_
    exact W.iret (v := (-1)) hx hb hr (fun t ht hW => ⟨(-1), rfl, (by have h0 := t_m1; (try dsimp only); omega), ht⟩) (fun q h => by cases h) dX9_watchAt_43
set_option maxHeartbeats 4000000 in
set_option maxRecDepth 100000 in
theorem g_X9_holderNow (l : Launch) (D : va_G) (E : Nat → Nat) (mh : Nat) (ma : Nat → Nat) (mcode : Int32) (mtoday : Int32) (moffs : Int32) (mmany : Int64) (msumW : Int64) (msumA : Int64) (msumR : Int64) (msumWW : Int64) (msumWA : Int64) (msumAA : Int64) (msumWR : Int64) (msumAR : Int64) (mupper : Int64) (mlower : Int64) (mrates : Int32) (mtaped : Int32) (mlaid : Int32) (mat : Int32) (mtk : Int32) (mtkAt : Int32) (mtkNumber : Int32) (mwaits : Int32) (mlisted : Int32) (mdealtMany : Int32) (mf10 : Nat → Int32) (p0 : Int32) (hi_m : (0 ≤ mtoday.toInt ∧ mtoday.toInt ≤ 399) ∧ (0 ≤ moffs.toInt ∧ moffs.toInt ≤ 60) ∧ (0 ≤ mrates.toInt ∧ mrates.toInt ≤ 60) ∧ (0 ≤ mtaped.toInt ∧ mtaped.toInt ≤ 120) ∧ (0 ≤ mlisted.toInt ∧ mlisted.toInt ≤ 9) ∧ (0 ≤ mdealtMany.toInt ∧ mdealtMany.toInt ≤ 9)) (g0 : 0 ≤ p0.toInt ∧ p0.toInt ≤ 15) : Met l yX9_holderNow (wl yX9_holderNow cX9_holderNow 2 (some .int)) (RM 0 0 0) (rd_P D E [.ref mh, .int p0] [(mh, .inr (9, G9 ma mcode mtoday moffs mmany msumW msumA msumR msumWW msumWA msumAA msumWR msumAR mupper mlower mrates mtaped mlaid mat mtk mtkAt mtkNumber mwaits mlisted mdealtMany)), ((ma 10), .inl (E 0, 6400, .inl mf10))]) (rd_Q (fun r => (r = mf10 (400 * p0 + mtoday).toNatClampNeg))) 0 0 (fun _ => False) := by
  refine Met.ofW (cc := cX9_holderNow) (maxL := 2) (ret := (some .int)) (by decide) rfl ?_
  intro p e s m args below meth c s₁ B hml hv
  obtain ⟨rfl, hP, hK⟩ := hv
  have hx := B.exec; have hb := B.bytes; have hr := B.returns
  have hts := atoms_spec (ws := wl yX9_holderNow cX9_holderNow 2 (some .int)) B.pre
  have htb : ∀ w ∈ tb, w.before _ s = true := fun w h => hts w (List.mem_cons_of_mem _ h)
  have hown : s.vm.findClass RX9 = some m.cls := findClass_of_methodNamed B.named
  have hlocks := B.notSynchronized
  have hP : va_P D vwCl [(mh, .inr (9, G9 ma mcode mtoday moffs mmany msumW msumA msumR msumWW msumWA msumAA msumWR msumAR mupper mlower mrates mtaped mlaid mat mtk mtkAt mtkNumber mwaits mlisted mdealtMany)), ((ma 10), .inl (E 0, 6400, .inl mf10))] s.heap := hP
  have hl := lv_entry ([.ref mh, .int p0]) (n := 2) (Nat.le_of_ble_eq_true rfl)
  rw [lg_entry_eq]
  generalize (lg_sl ([.ref mh, .int p0]) ++ List.replicate (2 - (lg_sl ([.ref mh, .int p0])).length) Slot.unset).toArray = ls at hl ⊢
  have hl : lv_has ls 2 [(0, .ref mh), (1, .int p0)] := hl
  have lo_p0 := i_lo p0; have hi_p0 := i_hi p0
  refine lv_aload_n hx hb dX9_holderNow_0 rfl (lv_at hl 0 rfl) ?_
  refine va_get (D := D) (ci := 9) (v := .ref (ma 10)) (C := RX9) (T := TX9) (N := 68) hx hb htb iX9 hown hK.1 hP 0 rfl rfl 10 (by decide) (htb _ k_968) (fun _ h9 => h9) rfl dX9_holderNow_1 ?_
  refine lv_sipush (v := 400) hx hb dX9_holderNow_4 (by decide) ?_
  refine lv_iload_n hx hb dX9_holderNow_7 rfl (lv_at hl 1 rfl) ?_
  refine lv_imul hx hb dX9_holderNow_8 ?_
  refine lv_topi (fun z_1 ez_1 => ?_)
  have jz_1 : z_1.toInt = 400 * p0.toInt := by rw [ez_1]; exact g_mul t_400 rfl (by omega) (by omega)
  refine lv_aload_n hx hb dX9_holderNow_9 rfl (lv_at hl 0 rfl) ?_
  refine va_get (D := D) (ci := 9) (v := .int mtoday) (C := RX9) (T := TX9) (N := 68) hx hb htb iX9 hown hK.1 hP 0 rfl rfl 1 (by decide) (htb _ k_959) (fun _ h9 => h9) rfl dX9_holderNow_10 ?_
  refine lv_iadd hx hb dX9_holderNow_13 ?_
  refine lv_topi (fun z_2 ez_2 => ?_)
  have jz_2 : z_2.toInt = z_1.toInt + mtoday.toInt := by rw [ez_2]; exact g_add rfl rfl (by omega) (by omega)
  refine va_iald hx hb hK.1 hP 1 0 rfl rfl (g_in rfl (by omega) (by omega)) dX9_holderNow_14 ?_
  refine lv_topi (fun z_3 ez_3 => ?_)
  have kz_3 := congrArg Int32.toInt ez_3
  exact W.iret (v := z_3) hx hb hr (fun t ht hW => ⟨z_3, rfl, (by subst_vars; rfl), ht⟩) (fun q h => by cases h) dX9_holderNow_15
set_option maxHeartbeats 4000000 in
set_option maxRecDepth 100000 in
theorem g_X9_goesTo (l : Launch) (D : va_G) (E : Nat → Nat) (mh : Nat) (ma : Nat → Nat) (mcode : Int32) (mtoday : Int32) (moffs : Int32) (mmany : Int64) (msumW : Int64) (msumA : Int64) (msumR : Int64) (msumWW : Int64) (msumWA : Int64) (msumAA : Int64) (msumWR : Int64) (msumAR : Int64) (mupper : Int64) (mlower : Int64) (mrates : Int32) (mtaped : Int32) (mlaid : Int32) (mat : Int32) (mtk : Int32) (mtkAt : Int32) (mtkNumber : Int32) (mwaits : Int32) (mlisted : Int32) (mdealtMany : Int32) (mf10 : Nat → Int32) (p0 : Int32) (p1 : Int32) (sz : Nat) (hi_m : (0 ≤ mtoday.toInt ∧ mtoday.toInt ≤ 399) ∧ (0 ≤ moffs.toInt ∧ moffs.toInt ≤ 60) ∧ (0 ≤ mrates.toInt ∧ mrates.toInt ≤ 60) ∧ (0 ≤ mtaped.toInt ∧ mtaped.toInt ≤ 120) ∧ (0 ≤ mlisted.toInt ∧ mlisted.toInt ≤ 9) ∧ (0 ≤ mdealtMany.toInt ∧ mdealtMany.toInt ≤ 9)) (g0 : 0 ≤ p0.toInt ∧ p0.toInt ≤ 15) : Met l yX9_goesTo (wl yX9_goesTo cX9_goesTo 3 none) (RM 0 0 0) (mu_P D E [.ref mh, .int p0, .int p1] [(mh, .inr (9, G9 ma mcode mtoday moffs mmany msumW msumA msumR msumWW msumWA msumAA msumWR msumAR mupper mlower mrates mtaped mlaid mat mtk mtkAt mtkNumber mwaits mlisted mdealtMany)), ((ma 10), .inl (E 0, 6400, .inl mf10))] sz) (va_Qv (fun (u : (Nat → Int32)) => (u = upd mf10 (400 * p0 + mtoday).toNatClampNeg p1)) (mu_B D (va_A [(mh, .inr (9, G9 ma mcode mtoday moffs mmany msumW msumA msumR msumWW msumWA msumAA msumWR msumAR mupper mlower mrates mtaped mlaid mat mtk mtkAt mtkNumber mwaits mlisted mdealtMany)), ((ma 10), .inl (E 0, 6400, .inl mf10))] sz) (fun (u : (Nat → Int32)) => [(mh, .inr (9, G9 ma mcode mtoday moffs mmany msumW msumA msumR msumWW msumWA msumAA msumWR msumAR mupper mlower mrates mtaped mlaid mat mtk mtkAt mtkNumber mwaits mlisted mdealtMany)), ((ma 10), .inl (E 0, 6400, .inl u))])) (va_A [(mh, .inr (9, G9 ma mcode mtoday moffs mmany msumW msumA msumR msumWW msumWA msumAA msumWR msumAR mupper mlower mrates mtaped mlaid mat mtk mtkAt mtkNumber mwaits mlisted mdealtMany)), ((ma 10), .inl (E 0, 6400, .inl mf10))] sz)) 0 0 (va_A [(mh, .inr (9, G9 ma mcode mtoday moffs mmany msumW msumA msumR msumWW msumWA msumAA msumWR msumAR mupper mlower mrates mtaped mlaid mat mtk mtkAt mtkNumber mwaits mlisted mdealtMany)), ((ma 10), .inl (E 0, 6400, .inl mf10))] sz) := by
  refine Met.ofW (cc := cX9_goesTo) (maxL := 3) (ret := none) (by decide) rfl ?_
  intro p e s m args below meth c s₁ B hml hv
  obtain ⟨rfl, hsz, hP, hK, hD0⟩ := hv
  have hx := B.exec; have hb := B.bytes; have hr := B.returns
  have hts := atoms_spec (ws := wl yX9_goesTo cX9_goesTo 3 none) B.pre
  have htb : ∀ w ∈ tb, w.before _ s = true := fun w h => hts w (List.mem_cons_of_mem _ h)
  have hown : s.vm.findClass RX9 = some m.cls := findClass_of_methodNamed B.named
  have hlocks := B.notSynchronized
  subst hsz
  have hD := hD0.self (sz := s.heap.size)
  generalize hAe : va_A [(mh, .inr (9, G9 ma mcode mtoday moffs mmany msumW msumA msumR msumWW msumWA msumAA msumWR msumAR mupper mlower mrates mtaped mlaid mat mtk mtkAt mtkNumber mwaits mlisted mdealtMany)), ((ma 10), .inl (E 0, 6400, .inl mf10))] s.heap.size = A at hD ⊢
  have hA : ∀ q : Nat, s.heap.size ≤ q → A q := fun q h => by rw [← hAe]; exact Or.inr h
  have hS : va_S A s.heap s.heap [] := va_S.rf
  have hP : va_P D vwCl [(mh, .inr (9, G9 ma mcode mtoday moffs mmany msumW msumA msumR msumWW msumWA msumAA msumWR msumAR mupper mlower mrates mtaped mlaid mat mtk mtkAt mtkNumber mwaits mlisted mdealtMany)), ((ma 10), .inl (E 0, 6400, .inl mf10))] s.heap := hP
  have hl := lv_entry ([.ref mh, .int p0, .int p1]) (n := 3) (Nat.le_of_ble_eq_true rfl)
  rw [lg_entry_eq]
  generalize (lg_sl ([.ref mh, .int p0, .int p1]) ++ List.replicate (3 - (lg_sl ([.ref mh, .int p0, .int p1])).length) Slot.unset).toArray = ls at hl ⊢
  have hl : lv_has ls 3 [(0, .ref mh), (1, .int p0), (2, .int p1)] := hl
  have lo_p0 := i_lo p0; have hi_p0 := i_hi p0
  have lo_p1 := i_lo p1; have hi_p1 := i_hi p1
  refine lv_aload_n hx hb dX9_goesTo_0 rfl (lv_at hl 0 rfl) ?_
  refine va_get (D := D) (ci := 9) (v := .ref (ma 10)) (C := RX9) (T := TX9) (N := 68) hx hb htb iX9 hown hK.1 hP 0 rfl rfl 10 (by decide) (htb _ k_968) (fun _ h9 => h9) rfl dX9_goesTo_1 ?_
  refine lv_sipush (v := 400) hx hb dX9_goesTo_4 (by decide) ?_
  refine lv_iload_n hx hb dX9_goesTo_7 rfl (lv_at hl 1 rfl) ?_
  refine lv_imul hx hb dX9_goesTo_8 ?_
  refine lv_topi (fun z_1 ez_1 => ?_)
  have jz_1 : z_1.toInt = 400 * p0.toInt := by rw [ez_1]; exact g_mul t_400 rfl (by omega) (by omega)
  refine lv_aload_n hx hb dX9_goesTo_9 rfl (lv_at hl 0 rfl) ?_
  refine va_get (D := D) (ci := 9) (v := .int mtoday) (C := RX9) (T := TX9) (N := 68) hx hb htb iX9 hown hK.1 hP 0 rfl rfl 1 (by decide) (htb _ k_959) (fun _ h9 => h9) rfl dX9_goesTo_10 ?_
  refine lv_iadd hx hb dX9_goesTo_13 ?_
  refine lv_topi (fun z_2 ez_2 => ?_)
  have jz_2 : z_2.toInt = z_1.toInt + mtoday.toInt := by rw [ez_2]; exact g_add rfl rfl (by omega) (by omega)
  refine lv_iload_n hx hb dX9_goesTo_14 rfl (lv_at hl 2 rfl) ?_
  refine va_iast hx hb hK.1 hP hD hS 1 0 rfl rfl (g_in rfl (by omega) (by omega)) dX9_goesTo_15 (fun H locs hP hD hS => ?_)
  have hP : va_P D vwCl [(mh, .inr (9, G9 ma mcode mtoday moffs mmany msumW msumA msumR msumWW msumWA msumAA msumWR msumAR mupper mlower mrates mtaped mlaid mat mtk mtkAt mtkNumber mwaits mlisted mdealtMany)), ((ma 10), .inl (E 0, 6400, .inl (upd mf10 (z_2 : Int32).toNatClampNeg p1)))] H := hP
  have hD := toW hP hD rfl
  have hP9 := hP.sub (ws' := [(mh, .inr (9, G9 ma mcode mtoday moffs mmany msumW msumA msumR msumWW msumWA msumAA msumWR msumAR mupper mlower mrates mtaped mlaid mat mtk mtkAt mtkNumber mwaits mlisted mdealtMany)), ((ma 10), .inl (E 0, 6400, .inl (upd mf10 (z_2 : Int32).toNatClampNeg p1)))]) [0, 1] rfl
  have hD9 := hD.sub (ws' := [(mh, .inr (9, G9 ma mcode mtoday moffs mmany msumW msumA msumR msumWW msumWA msumAA msumWR msumAR mupper mlower mrates mtaped mlaid mat mtk mtkAt mtkNumber mwaits mlisted mdealtMany)), ((ma 10), .inl (E 0, 6400, .inl (upd mf10 (z_2 : Int32).toNatClampNeg p1)))]) [0, 1] (by decide) rfl
  exact W.vret hx hb hr (fun t ht hW => ⟨⟨(upd mf10 (z_2 : Int32).toNatClampNeg p1), rfl, (by (try dsimp only); subst_vars; rfl), by rw [ht]; exact hP9, hD9⟩, hS.F ht⟩) hS.2.2 dX9_goesTo_16
