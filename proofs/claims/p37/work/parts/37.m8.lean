set_option maxHeartbeats 4000000 in
set_option maxRecDepth 100000 in
theorem g_X9_lend (l : Launch) (D : va_G) (E : Nat → Nat) (mh : Nat) (ma : Nat → Nat) (mcode : Int32) (mtoday : Int32) (moffs : Int32) (mmany : Int64) (msumW : Int64) (msumA : Int64) (msumR : Int64) (msumWW : Int64) (msumWA : Int64) (msumAA : Int64) (msumWR : Int64) (msumAR : Int64) (mupper : Int64) (mlower : Int64) (mrates : Int32) (mtaped : Int32) (mlaid : Int32) (mat : Int32) (mtk : Int32) (mtkAt : Int32) (mtkNumber : Int32) (mwaits : Int32) (mlisted : Int32) (mdealtMany : Int32) (mf3 : Nat → Int32) (mf10 : Nat → Int32) (p0 : Int32) (p1 : Int32) (sz : Nat) (hi_m : (0 ≤ mtoday.toInt ∧ mtoday.toInt ≤ 399) ∧ (0 ≤ moffs.toInt ∧ moffs.toInt ≤ 60) ∧ (0 ≤ mrates.toInt ∧ mrates.toInt ≤ 60) ∧ (0 ≤ mtaped.toInt ∧ mtaped.toInt ≤ 120) ∧ (0 ≤ mlisted.toInt ∧ mlisted.toInt ≤ 9) ∧ (0 ≤ mdealtMany.toInt ∧ mdealtMany.toInt ≤ 9)) : Met l yX9_lend (wl yX9_lend cX9_lend 4 (some .int)) (RM 3 0 0) (mu_P D E [.ref mh, .int p0, .int p1] [(mh, .inr (9, G9 ma mcode mtoday moffs mmany msumW msumA msumR msumWW msumWA msumAA msumWR msumAR mupper mlower mrates mtaped mlaid mat mtk mtkAt mtkNumber mwaits mlisted mdealtMany)), ((ma 3), .inl (E 0, 16, .inl mf3)), ((ma 10), .inl (E 0, 6400, .inl mf10))] sz) (va_Qi (fun (r : Int32) (u : (Nat → Int32)) => ((r.toInt = -1 ∧ ¬ ((0 ≤ p0.toInt ∧ p0.toInt ≤ 15) ∧ (0 ≤ p1.toInt ∧ p1.toInt ≤ 19)) ∧ u = mf10) ∨ (((0 ≤ p0.toInt ∧ p0.toInt ≤ 15) ∧ (0 ≤ p1.toInt ∧ p1.toInt ≤ 19)) ∧ (((mf3 (p0).toNatClampNeg).toInt = -5 ∧ r.toInt = -2) ∨ ((mf3 (p0).toNatClampNeg).toInt = 2 ∧ r.toInt = -3)) ∧ u = mf10) ∨ (((0 ≤ p0.toInt ∧ p0.toInt ≤ 15) ∧ (0 ≤ p1.toInt ∧ p1.toInt ≤ 19)) ∧ ((mf3 (p0).toNatClampNeg).toInt ≠ -5 ∧ (mf3 (p0).toNatClampNeg).toInt ≠ 2) ∧ (mf10 (400 * p0 + mtoday).toNatClampNeg).toInt ≠ -1 ∧ r.toInt = -4 ∧ u = mf10) ∨ (((0 ≤ p0.toInt ∧ p0.toInt ≤ 15) ∧ (0 ≤ p1.toInt ∧ p1.toInt ≤ 19)) ∧ ((mf3 (p0).toNatClampNeg).toInt ≠ -5 ∧ (mf3 (p0).toNatClampNeg).toInt ≠ 2) ∧ (mf10 (400 * p0 + mtoday).toNatClampNeg).toInt = -1 ∧ r.toInt = 1 ∧ u = upd mf10 (400 * p0 + mtoday).toNatClampNeg p1))) (mu_B D (va_A [(mh, .inr (9, G9 ma mcode mtoday moffs mmany msumW msumA msumR msumWW msumWA msumAA msumWR msumAR mupper mlower mrates mtaped mlaid mat mtk mtkAt mtkNumber mwaits mlisted mdealtMany)), ((ma 3), .inl (E 0, 16, .inl mf3)), ((ma 10), .inl (E 0, 6400, .inl mf10))] sz) (fun (u : (Nat → Int32)) => [(mh, .inr (9, G9 ma mcode mtoday moffs mmany msumW msumA msumR msumWW msumWA msumAA msumWR msumAR mupper mlower mrates mtaped mlaid mat mtk mtkAt mtkNumber mwaits mlisted mdealtMany)), ((ma 3), .inl (E 0, 16, .inl mf3)), ((ma 10), .inl (E 0, 6400, .inl u))])) (va_A [(mh, .inr (9, G9 ma mcode mtoday moffs mmany msumW msumA msumR msumWW msumWA msumAA msumWR msumAR mupper mlower mrates mtaped mlaid mat mtk mtkAt mtkNumber mwaits mlisted mdealtMany)), ((ma 3), .inl (E 0, 16, .inl mf3)), ((ma 10), .inl (E 0, 6400, .inl mf10))] sz)) 0 0 (va_A [(mh, .inr (9, G9 ma mcode mtoday moffs mmany msumW msumA msumR msumWW msumWA msumAA msumWR msumAR mupper mlower mrates mtaped mlaid mat mtk mtkAt mtkNumber mwaits mlisted mdealtMany)), ((ma 3), .inl (E 0, 16, .inl mf3)), ((ma 10), .inl (E 0, 6400, .inl mf10))] sz) := by
  refine Met.ofW (cc := cX9_lend) (maxL := 4) (ret := (some .int)) (by decide) rfl ?_
  intro p e s m args below meth c s₁ B hml hv
  obtain ⟨rfl, hsz, hP, hK, hD0⟩ := hv
  have hx := B.exec; have hb := B.bytes; have hr := B.returns
  have hts := atoms_spec (ws := wl yX9_lend cX9_lend 4 (some .int)) B.pre
  have htb : ∀ w ∈ tb, w.before _ s = true := fun w h => hts w (List.mem_cons_of_mem _ h)
  have hown : s.vm.findClass RX9 = some m.cls := findClass_of_methodNamed B.named
  have hlocks := B.notSynchronized
  subst hsz
  have hD := hD0.self (sz := s.heap.size)
  generalize hAe : va_A [(mh, .inr (9, G9 ma mcode mtoday moffs mmany msumW msumA msumR msumWW msumWA msumAA msumWR msumAR mupper mlower mrates mtaped mlaid mat mtk mtkAt mtkNumber mwaits mlisted mdealtMany)), ((ma 3), .inl (E 0, 16, .inl mf3)), ((ma 10), .inl (E 0, 6400, .inl mf10))] s.heap.size = A at hD ⊢
  have hA : ∀ q : Nat, s.heap.size ≤ q → A q := fun q h => by rw [← hAe]; exact Or.inr h
  have hS : va_S A s.heap s.heap [] := va_S.rf
  have hP : va_P D vwCl [(mh, .inr (9, G9 ma mcode mtoday moffs mmany msumW msumA msumR msumWW msumWA msumAA msumWR msumAR mupper mlower mrates mtaped mlaid mat mtk mtkAt mtkNumber mwaits mlisted mdealtMany)), ((ma 3), .inl (E 0, 16, .inl mf3)), ((ma 10), .inl (E 0, 6400, .inl mf10))] s.heap := hP
  have hl := lv_entry ([.ref mh, .int p0, .int p1]) (n := 4) (Nat.le_of_ble_eq_true rfl)
  rw [lg_entry_eq]
  generalize (lg_sl ([.ref mh, .int p0, .int p1]) ++ List.replicate (4 - (lg_sl ([.ref mh, .int p0, .int p1])).length) Slot.unset).toArray = ls at hl ⊢
  have hl : lv_has ls 4 [(0, .ref mh), (1, .int p0), (2, .int p1)] := hl
  have lo_p0 := i_lo p0; have hi_p0 := i_hi p0
  have lo_p1 := i_lo p1; have hi_p1 := i_hi p1
  refine lv_iload_n hx hb dX9_lend_0 rfl (lv_at hl 1 rfl) ?_
  refine callRS (rest := []) (As := [.int p0]) hx hb hml hown htb hK (g_X9_isPlace l D E p0 ) ok_X9_isPlace k_1182 k_1183 k_9 k_1184 ⟨(Nat.le_of_ble_eq_true rfl), (Nat.le_of_ble_eq_true rfl)⟩ ⟨(Nat.le_of_ble_eq_true rfl), (Nat.le_of_ble_eq_true rfl)⟩ hl.1 (Nat.le_of_ble_eq_true rfl) rfl rfl dX9_lend_1 (hP.sub (ws' := ([] : va_W)) [] rfl) (fun r_1 hw_2 => ?_)
  rcases hw_2 with ⟨hr_1, hw_2⟩ | ⟨hr_1, hw_2⟩
  ·
    refine W_top (y := .int 1) (by rw [hr_1]) ?_
    refine lv_if_eq (tgt := 17) hx hb dX9_lend_4 (by decide) (fun c_4 => absurd c_4 (by decide)) (fun c_4 => ?_)
    refine lv_iload_n hx hb dX9_lend_7 rfl (lv_at hl 2 rfl) ?_
    refine lv_iconst (v := 0) hx hb dX9_lend_8 (by decide) ?_
    refine lv_bipush (v := 19) hx hb dX9_lend_9 (by decide) ?_
    refine callRS (rest := []) (As := [.int p1, .int 0, .int 19]) hx hb hml hown htb hK (g_X9_in l D E p1 0 19 ) ok_X9_in k_1168 k_1169 k_9 k_1170 ⟨(Nat.le_of_ble_eq_true rfl), (Nat.le_of_ble_eq_true rfl)⟩ ⟨(Nat.le_of_ble_eq_true rfl), (Nat.le_of_ble_eq_true rfl)⟩ hl.1 (Nat.le_of_ble_eq_true rfl) rfl rfl dX9_lend_11 (hP.sub (ws' := ([] : va_W)) [] rfl) (fun r_5 hw_6 => ?_)
    try simp only [t_0, t_19] at hw_6
    rcases hw_6 with ⟨hr_5, hw_6⟩ | ⟨hr_5, hw_6⟩
    ·
      try simp only [t_0, t_19] at hw_6
      refine W_top (y := .int 1) (by rw [hr_5]) ?_
      refine lv_if_ne (tgt := 19) hx hb dX9_lend_14 (by decide) (fun c_8 => ?_) (fun c_8 => absurd c_8 (by decide))
      refine lv_aload_n hx hb dX9_lend_19 rfl (lv_at hl 0 rfl) ?_
      refine lv_iload_n hx hb dX9_lend_20 rfl (lv_at hl 1 rfl) ?_
      refine callRV (rest := []) (As := [.int p0]) hx hb hml hown htb hK (g_X9_watchAt l D E mh ma mcode mtoday moffs mmany msumW msumA msumR msumWW msumWA msumAA msumWR msumAR mupper mlower mrates mtaped mlaid mat mtk mtkAt mtkNumber mwaits mlisted mdealtMany mf3 p0 (by (try dsimp only); omega)) ok_X9_watchAt k_1212 k_1214 ks_41 k_9 k_1215 ⟨(Nat.le_of_ble_eq_true rfl), (Nat.le_of_ble_eq_true rfl)⟩ ⟨(Nat.le_of_ble_eq_true rfl), (Nat.le_of_ble_eq_true rfl)⟩ hl.1 (Nat.le_of_ble_eq_true rfl) rfl rfl dX9_lend_21 (hP.sub (ws' := [(mh, .inr (9, G9 ma mcode mtoday moffs mmany msumW msumA msumR msumWW msumWA msumAA msumWR msumAR mupper mlower mrates mtaped mlaid mat mtk mtkAt mtkNumber mwaits mlisted mdealtMany)), ((ma 3), .inl (E 0, 16, .inl mf3))]) [0, 1] rfl) rfl rfl 0 rfl (fun r_9 hw_10 => ?_)
      refine lv_istore_n (lv' := [(3, .int r_9), (0, .ref mh), (1, .int p0), (2, .int p1)]) hx hb dX9_lend_24 rfl hl (by decide) rfl (fun ls hl => ?_)
      refine lv_iload_n hx hb dX9_lend_25 rfl (lv_at hl 0 rfl) ?_
      refine lv_if_ge (tgt := 31) hx hb dX9_lend_26 (by decide) (fun c_12 => ?_) (fun c_12 => ?_)
      ·
        have ic_12 : 0 ≤ r_9.toInt := by first | exact (g_le t_0 rfl).mp c_12 | (have h := mt (g_lt rfl t_0).mpr c_12; omega)
        clear c_12
        refine lv_aload_n hx hb dX9_lend_31 rfl (lv_at hl 1 rfl) ?_
        refine lv_iload_n hx hb dX9_lend_32 rfl (lv_at hl 2 rfl) ?_
        refine callRV (rest := []) (As := [.int p0]) hx hb hml hown htb hK (g_X9_holderNow l D E mh ma mcode mtoday moffs mmany msumW msumA msumR msumWW msumWA msumAA msumWR msumAR mupper mlower mrates mtaped mlaid mat mtk mtkAt mtkNumber mwaits mlisted mdealtMany mf10 p0 (by (try dsimp only); omega) (by (try dsimp only); omega)) ok_X9_holderNow k_1193 k_1195 ks_40 k_9 k_1196 ⟨(Nat.le_of_ble_eq_true rfl), (Nat.le_of_ble_eq_true rfl)⟩ ⟨(Nat.le_of_ble_eq_true rfl), (Nat.le_of_ble_eq_true rfl)⟩ hl.1 (Nat.le_of_ble_eq_true rfl) rfl rfl dX9_lend_33 (hP.sub (ws' := [(mh, .inr (9, G9 ma mcode mtoday moffs mmany msumW msumA msumR msumWW msumWA msumAA msumWR msumAR mupper mlower mrates mtaped mlaid mat mtk mtkAt mtkNumber mwaits mlisted mdealtMany)), ((ma 10), .inl (E 0, 6400, .inl mf10))]) [0, 2] rfl) rfl rfl 0 rfl (fun r_13 hw_14 => ?_)
        refine lv_iconst (v := (-1)) hx hb dX9_lend_36 (by decide) ?_
        refine lv_icmp_eq (tgt := 43) hx hb dX9_lend_37 (by decide) (fun c_16 => ?_) (fun c_16 => ?_)
        ·
          have ic_16 : r_13.toInt = -1 := (g_eq rfl t_m1).mp c_16
          clear c_16
          refine lv_aload_n hx hb dX9_lend_43 rfl (lv_at hl 1 rfl) ?_
          refine lv_iload_n hx hb dX9_lend_44 rfl (lv_at hl 2 rfl) ?_
          refine lv_iload_n hx hb dX9_lend_45 rfl (lv_at hl 3 rfl) ?_
          have hPc := hP.sub (ws' := [(mh, .inr (9, G9 ma mcode mtoday moffs mmany msumW msumA msumR msumWW msumWA msumAA msumWR msumAR mupper mlower mrates mtaped mlaid mat mtk mtkAt mtkNumber mwaits mlisted mdealtMany)), ((ma 10), .inl (E 0, 6400, .inl mf10))]) [0, 2] rfl
          have hDc := hD.sub (ws' := [(mh, .inr (9, G9 ma mcode mtoday moffs mmany msumW msumA msumR msumWW msumWA msumAA msumWR msumAR mupper mlower mrates mtaped mlaid mat mtk mtkAt mtkNumber mwaits mlisted mdealtMany)), ((ma 10), .inl (E 0, 6400, .inl mf10))]) [0, 2] (by decide) rfl
          refine aft_v (runMV (rest := []) (As := [.int p0, .int p1]) hx hb hml hown htb hK (g_X9_goesTo l D E mh ma mcode mtoday moffs mmany msumW msumA msumR msumWW msumWA msumAA msumWR msumAR mupper mlower mrates mtaped mlaid mat mtk mtkAt mtkNumber mwaits mlisted mdealtMany mf10 p0 p1 _ (by (try dsimp only); omega) (by (try dsimp only); omega)) ok_X9_goesTo k_1421 k_1423 ks_63 k_9 k_1424 ⟨(Nat.le_of_ble_eq_true rfl), (Nat.le_of_ble_eq_true rfl)⟩ ⟨(Nat.le_of_ble_eq_true rfl), (Nat.le_of_ble_eq_true rfl)⟩ hl.1 (Nat.le_of_ble_eq_true rfl) rfl rfl dX9_lend_46 hPc hDc rfl rfl 0 rfl) hP hD hS hA [0, 2] [1] (wr := [((ma 3), .inl (E 0, 16, .inl mf3))]) rfl rfl (by decide) (by decide) (fun u_19 H locs hw_18 hP hD hS => ?_)
          clear hPc hDc
          have hP : va_P D vwCl [((ma 3), .inl (E 0, 16, .inl mf3)), (mh, .inr (9, G9 ma mcode mtoday moffs mmany msumW msumA msumR msumWW msumWA msumAA msumWR msumAR mupper mlower mrates mtaped mlaid mat mtk mtkAt mtkNumber mwaits mlisted mdealtMany)), ((ma 10), .inl (E 0, 6400, .inl u_19))] H := hP
          have hD := toW hP hD rfl
          refine lv_iconst (v := 1) hx hb dX9_lend_49 (by decide) ?_
          have hP9 := hP.sub (ws' := [(mh, .inr (9, G9 ma mcode mtoday moffs mmany msumW msumA msumR msumWW msumWA msumAA msumWR msumAR mupper mlower mrates mtaped mlaid mat mtk mtkAt mtkNumber mwaits mlisted mdealtMany)), ((ma 3), .inl (E 0, 16, .inl mf3)), ((ma 10), .inl (E 0, 6400, .inl u_19))]) [1, 0, 2] rfl
          have hD9 := hD.sub (ws' := [(mh, .inr (9, G9 ma mcode mtoday moffs mmany msumW msumA msumR msumWW msumWA msumAA msumWR msumAR mupper mlower mrates mtaped mlaid mat mtk mtkAt mtkNumber mwaits mlisted mdealtMany)), ((ma 3), .inl (E 0, 16, .inl mf3)), ((ma 10), .inl (E 0, 6400, .inl u_19))]) [1, 0, 2] (by decide) rfl
          exact W.iret (v := 1) hx hb hr (fun t ht hW => ⟨⟨1, u_19, rfl, (by have hl0 := t_1; (try dsimp only); first | exact Or.inl ⟨by omega, by omega, rfl⟩ | exact Or.inr (Or.inl ⟨by omega, by omega, rfl⟩) | exact Or.inr (Or.inr (Or.inl ⟨by omega, by omega, by subst_vars; omega, by omega, rfl⟩)) | exact Or.inr (Or.inr (Or.inr ⟨by omega, by omega, by subst_vars; omega, by omega, by first | rfl | assumption⟩))), by rw [ht]; exact hP9, hD9⟩, hS.F ht⟩) hS.2.2 dX9_lend_50
        ·
          have ic_16 : r_13.toInt ≠ -1 := mt (g_eq rfl t_m1).mpr c_16
          clear c_16
          refine lv_bipush (v := (-4)) hx hb dX9_lend_40 (by decide) ?_
          have hP9 := hP.sub (ws' := [(mh, .inr (9, G9 ma mcode mtoday moffs mmany msumW msumA msumR msumWW msumWA msumAA msumWR msumAR mupper mlower mrates mtaped mlaid mat mtk mtkAt mtkNumber mwaits mlisted mdealtMany)), ((ma 3), .inl (E 0, 16, .inl mf3)), ((ma 10), .inl (E 0, 6400, .inl mf10))]) [0, 1, 2] rfl
          have hD9 := hD.sub (ws' := [(mh, .inr (9, G9 ma mcode mtoday moffs mmany msumW msumA msumR msumWW msumWA msumAA msumWR msumAR mupper mlower mrates mtaped mlaid mat mtk mtkAt mtkNumber mwaits mlisted mdealtMany)), ((ma 3), .inl (E 0, 16, .inl mf3)), ((ma 10), .inl (E 0, 6400, .inl mf10))]) [0, 1, 2] (by decide) rfl
          exact W.iret (v := (-4)) hx hb hr (fun t ht hW => ⟨⟨(-4), mf10, rfl, (by have hl0 := t_m4; (try dsimp only); first | exact Or.inl ⟨by omega, by omega, rfl⟩ | exact Or.inr (Or.inl ⟨by omega, by omega, rfl⟩) | exact Or.inr (Or.inr (Or.inl ⟨by omega, by omega, by subst_vars; omega, by omega, rfl⟩)) | exact Or.inr (Or.inr (Or.inr ⟨by omega, by omega, by subst_vars; omega, by omega, by first | rfl | assumption⟩))), by rw [ht]; exact hP9, hD9⟩, hS.F ht⟩) hS.2.2 dX9_lend_42
      ·
        have ic_12 : r_9.toInt < 0 := by first | exact (g_lt rfl t_0).mp c_12 | (have h := mt (g_le t_0 rfl).mpr c_12; omega)
        clear c_12
        refine lv_iload_n hx hb dX9_lend_29 rfl (lv_at hl 0 rfl) ?_
        have hP9 := hP.sub (ws' := [(mh, .inr (9, G9 ma mcode mtoday moffs mmany msumW msumA msumR msumWW msumWA msumAA msumWR msumAR mupper mlower mrates mtaped mlaid mat mtk mtkAt mtkNumber mwaits mlisted mdealtMany)), ((ma 3), .inl (E 0, 16, .inl mf3)), ((ma 10), .inl (E 0, 6400, .inl mf10))]) [0, 1, 2] rfl
        have hD9 := hD.sub (ws' := [(mh, .inr (9, G9 ma mcode mtoday moffs mmany msumW msumA msumR msumWW msumWA msumAA msumWR msumAR mupper mlower mrates mtaped mlaid mat mtk mtkAt mtkNumber mwaits mlisted mdealtMany)), ((ma 3), .inl (E 0, 16, .inl mf3)), ((ma 10), .inl (E 0, 6400, .inl mf10))]) [0, 1, 2] (by decide) rfl
        exact W.iret (v := r_9) hx hb hr (fun t ht hW => ⟨⟨r_9, mf10, rfl, (by (try dsimp only); first | exact Or.inl ⟨by omega, by omega, rfl⟩ | exact Or.inr (Or.inl ⟨by omega, by omega, rfl⟩) | exact Or.inr (Or.inr (Or.inl ⟨by omega, by omega, by subst_vars; omega, by omega, rfl⟩)) | exact Or.inr (Or.inr (Or.inr ⟨by omega, by omega, by subst_vars; omega, by omega, by first | rfl | assumption⟩))), by rw [ht]; exact hP9, hD9⟩, hS.F ht⟩) hS.2.2 dX9_lend_30
    ·
      try simp only [t_0, t_19] at hw_6
      refine W_top (y := .int 0) (by rw [hr_5]) ?_
      refine lv_if_ne (tgt := 19) hx hb dX9_lend_14 (by decide) (fun c_20 => absurd (by decide) c_20) (fun c_20 => ?_)
      refine lv_iconst (v := (-1)) hx hb dX9_lend_17 (by decide) ?_
      have hP9 := hP.sub (ws' := [(mh, .inr (9, G9 ma mcode mtoday moffs mmany msumW msumA msumR msumWW msumWA msumAA msumWR msumAR mupper mlower mrates mtaped mlaid mat mtk mtkAt mtkNumber mwaits mlisted mdealtMany)), ((ma 3), .inl (E 0, 16, .inl mf3)), ((ma 10), .inl (E 0, 6400, .inl mf10))]) [0, 1, 2] rfl
      have hD9 := hD.sub (ws' := [(mh, .inr (9, G9 ma mcode mtoday moffs mmany msumW msumA msumR msumWW msumWA msumAA msumWR msumAR mupper mlower mrates mtaped mlaid mat mtk mtkAt mtkNumber mwaits mlisted mdealtMany)), ((ma 3), .inl (E 0, 16, .inl mf3)), ((ma 10), .inl (E 0, 6400, .inl mf10))]) [0, 1, 2] (by decide) rfl
      exact W.iret (v := (-1)) hx hb hr (fun t ht hW => ⟨⟨(-1), mf10, rfl, (by have hl0 := t_m1; (try dsimp only); first | exact Or.inl ⟨by omega, by omega, rfl⟩ | exact Or.inr (Or.inl ⟨by omega, by omega, rfl⟩) | exact Or.inr (Or.inr (Or.inl ⟨by omega, by omega, by subst_vars; omega, by omega, rfl⟩)) | exact Or.inr (Or.inr (Or.inr ⟨by omega, by omega, by subst_vars; omega, by omega, by first | rfl | assumption⟩))), by rw [ht]; exact hP9, hD9⟩, hS.F ht⟩) hS.2.2 dX9_lend_18
  ·
    refine W_top (y := .int 0) (by rw [hr_1]) ?_
    refine lv_if_eq (tgt := 17) hx hb dX9_lend_4 (by decide) (fun c_21 => ?_) (fun c_21 => absurd (by decide) c_21)
    refine lv_iconst (v := (-1)) hx hb dX9_lend_17 (by decide) ?_
    have hP9 := hP.sub (ws' := [(mh, .inr (9, G9 ma mcode mtoday moffs mmany msumW msumA msumR msumWW msumWA msumAA msumWR msumAR mupper mlower mrates mtaped mlaid mat mtk mtkAt mtkNumber mwaits mlisted mdealtMany)), ((ma 3), .inl (E 0, 16, .inl mf3)), ((ma 10), .inl (E 0, 6400, .inl mf10))]) [0, 1, 2] rfl
    have hD9 := hD.sub (ws' := [(mh, .inr (9, G9 ma mcode mtoday moffs mmany msumW msumA msumR msumWW msumWA msumAA msumWR msumAR mupper mlower mrates mtaped mlaid mat mtk mtkAt mtkNumber mwaits mlisted mdealtMany)), ((ma 3), .inl (E 0, 16, .inl mf3)), ((ma 10), .inl (E 0, 6400, .inl mf10))]) [0, 1, 2] (by decide) rfl
    exact W.iret (v := (-1)) hx hb hr (fun t ht hW => ⟨⟨(-1), mf10, rfl, (by have hl0 := t_m1; (try dsimp only); first | exact Or.inl ⟨by omega, by omega, rfl⟩ | exact Or.inr (Or.inl ⟨by omega, by omega, rfl⟩) | exact Or.inr (Or.inr (Or.inl ⟨by omega, by omega, by subst_vars; omega, by omega, rfl⟩)) | exact Or.inr (Or.inr (Or.inr ⟨by omega, by omega, by subst_vars; omega, by omega, by first | rfl | assumption⟩))), by rw [ht]; exact hP9, hD9⟩, hS.F ht⟩) hS.2.2 dX9_lend_18
set_option maxHeartbeats 4000000 in
set_option maxRecDepth 100000 in
theorem g_X9_home (l : Launch) (D : va_G) (E : Nat → Nat) (mh : Nat) (ma : Nat → Nat) (mcode : Int32) (mtoday : Int32) (moffs : Int32) (mmany : Int64) (msumW : Int64) (msumA : Int64) (msumR : Int64) (msumWW : Int64) (msumWA : Int64) (msumAA : Int64) (msumWR : Int64) (msumAR : Int64) (mupper : Int64) (mlower : Int64) (mrates : Int32) (mtaped : Int32) (mlaid : Int32) (mat : Int32) (mtk : Int32) (mtkAt : Int32) (mtkNumber : Int32) (mwaits : Int32) (mlisted : Int32) (mdealtMany : Int32) (mf3 : Nat → Int32) (mf10 : Nat → Int32) (p0 : Int32) (sz : Nat) (hi_m : (0 ≤ mtoday.toInt ∧ mtoday.toInt ≤ 399) ∧ (0 ≤ moffs.toInt ∧ moffs.toInt ≤ 60) ∧ (0 ≤ mrates.toInt ∧ mrates.toInt ≤ 60) ∧ (0 ≤ mtaped.toInt ∧ mtaped.toInt ≤ 120) ∧ (0 ≤ mlisted.toInt ∧ mlisted.toInt ≤ 9) ∧ (0 ≤ mdealtMany.toInt ∧ mdealtMany.toInt ≤ 9)) : Met l yX9_home (wl yX9_home cX9_home 3 (some .int)) (RM 3 0 0) (mu_P D E [.ref mh, .int p0] [(mh, .inr (9, G9 ma mcode mtoday moffs mmany msumW msumA msumR msumWW msumWA msumAA msumWR msumAR mupper mlower mrates mtaped mlaid mat mtk mtkAt mtkNumber mwaits mlisted mdealtMany)), ((ma 3), .inl (E 0, 16, .inl mf3)), ((ma 10), .inl (E 0, 6400, .inl mf10))] sz) (va_Qi (fun (r : Int32) (u : (Nat → Int32)) => (((((¬ (0 ≤ p0.toInt ∧ p0.toInt ≤ 15) ∧ r.toInt = -1) ∨ ((0 ≤ p0.toInt ∧ p0.toInt ≤ 15) ∧ (mf3 (p0).toNatClampNeg).toInt = -5 ∧ r.toInt = -2) ∨ ((0 ≤ p0.toInt ∧ p0.toInt ≤ 15) ∧ (mf3 (p0).toNatClampNeg).toInt = 2 ∧ r.toInt = -3) ∨ ((0 ≤ p0.toInt ∧ p0.toInt ≤ 15) ∧ (mf3 (p0).toNatClampNeg).toInt ≠ -5 ∧ (mf3 (p0).toNatClampNeg).toInt ≠ 2 ∧ r.toInt = 0)) ∧ r.toInt < 0) ∧ u = mf10) ∨ ((0 ≤ p0.toInt ∧ p0.toInt ≤ 15) ∧ ((mf3 (p0).toNatClampNeg).toInt ≠ -5 ∧ (mf3 (p0).toNatClampNeg).toInt ≠ 2) ∧ ¬ (0 ≤ (mf10 (400 * p0 + mtoday).toNatClampNeg).toInt ∧ (mf10 (400 * p0 + mtoday).toNatClampNeg).toInt ≤ 19) ∧ r.toInt = -4 ∧ u = mf10) ∨ ((0 ≤ p0.toInt ∧ p0.toInt ≤ 15) ∧ ((mf3 (p0).toNatClampNeg).toInt ≠ -5 ∧ (mf3 (p0).toNatClampNeg).toInt ≠ 2) ∧ (0 ≤ (mf10 (400 * p0 + mtoday).toNatClampNeg).toInt ∧ (mf10 (400 * p0 + mtoday).toNatClampNeg).toInt ≤ 19) ∧ r.toInt = 1 ∧ u = upd mf10 (400 * p0 + mtoday).toNatClampNeg (-1)))) (mu_B D (va_A [(mh, .inr (9, G9 ma mcode mtoday moffs mmany msumW msumA msumR msumWW msumWA msumAA msumWR msumAR mupper mlower mrates mtaped mlaid mat mtk mtkAt mtkNumber mwaits mlisted mdealtMany)), ((ma 3), .inl (E 0, 16, .inl mf3)), ((ma 10), .inl (E 0, 6400, .inl mf10))] sz) (fun (u : (Nat → Int32)) => [(mh, .inr (9, G9 ma mcode mtoday moffs mmany msumW msumA msumR msumWW msumWA msumAA msumWR msumAR mupper mlower mrates mtaped mlaid mat mtk mtkAt mtkNumber mwaits mlisted mdealtMany)), ((ma 3), .inl (E 0, 16, .inl mf3)), ((ma 10), .inl (E 0, 6400, .inl u))])) (va_A [(mh, .inr (9, G9 ma mcode mtoday moffs mmany msumW msumA msumR msumWW msumWA msumAA msumWR msumAR mupper mlower mrates mtaped mlaid mat mtk mtkAt mtkNumber mwaits mlisted mdealtMany)), ((ma 3), .inl (E 0, 16, .inl mf3)), ((ma 10), .inl (E 0, 6400, .inl mf10))] sz)) 0 0 (va_A [(mh, .inr (9, G9 ma mcode mtoday moffs mmany msumW msumA msumR msumWW msumWA msumAA msumWR msumAR mupper mlower mrates mtaped mlaid mat mtk mtkAt mtkNumber mwaits mlisted mdealtMany)), ((ma 3), .inl (E 0, 16, .inl mf3)), ((ma 10), .inl (E 0, 6400, .inl mf10))] sz) := by
  refine Met.ofW (cc := cX9_home) (maxL := 3) (ret := (some .int)) (by decide) rfl ?_
  intro p e s m args below meth c s₁ B hml hv
  obtain ⟨rfl, hsz, hP, hK, hD0⟩ := hv
  have hx := B.exec; have hb := B.bytes; have hr := B.returns
  have hts := atoms_spec (ws := wl yX9_home cX9_home 3 (some .int)) B.pre
  have htb : ∀ w ∈ tb, w.before _ s = true := fun w h => hts w (List.mem_cons_of_mem _ h)
  have hown : s.vm.findClass RX9 = some m.cls := findClass_of_methodNamed B.named
  have hlocks := B.notSynchronized
  subst hsz
  have hD := hD0.self (sz := s.heap.size)
  generalize hAe : va_A [(mh, .inr (9, G9 ma mcode mtoday moffs mmany msumW msumA msumR msumWW msumWA msumAA msumWR msumAR mupper mlower mrates mtaped mlaid mat mtk mtkAt mtkNumber mwaits mlisted mdealtMany)), ((ma 3), .inl (E 0, 16, .inl mf3)), ((ma 10), .inl (E 0, 6400, .inl mf10))] s.heap.size = A at hD ⊢
  have hA : ∀ q : Nat, s.heap.size ≤ q → A q := fun q h => by rw [← hAe]; exact Or.inr h
  have hS : va_S A s.heap s.heap [] := va_S.rf
  have hP : va_P D vwCl [(mh, .inr (9, G9 ma mcode mtoday moffs mmany msumW msumA msumR msumWW msumWA msumAA msumWR msumAR mupper mlower mrates mtaped mlaid mat mtk mtkAt mtkNumber mwaits mlisted mdealtMany)), ((ma 3), .inl (E 0, 16, .inl mf3)), ((ma 10), .inl (E 0, 6400, .inl mf10))] s.heap := hP
  have hl := lv_entry ([.ref mh, .int p0]) (n := 3) (Nat.le_of_ble_eq_true rfl)
  rw [lg_entry_eq]
  generalize (lg_sl ([.ref mh, .int p0]) ++ List.replicate (3 - (lg_sl ([.ref mh, .int p0])).length) Slot.unset).toArray = ls at hl ⊢
  have hl : lv_has ls 3 [(0, .ref mh), (1, .int p0)] := hl
  have lo_p0 := i_lo p0; have hi_p0 := i_hi p0
  refine lv_aload_n hx hb dX9_home_0 rfl (lv_at hl 0 rfl) ?_
  refine lv_iload_n hx hb dX9_home_1 rfl (lv_at hl 1 rfl) ?_
  refine callRV (rest := []) (As := [.int p0]) hx hb hml hown htb hK (g_X9_watchAt l D E mh ma mcode mtoday moffs mmany msumW msumA msumR msumWW msumWA msumAA msumWR msumAR mupper mlower mrates mtaped mlaid mat mtk mtkAt mtkNumber mwaits mlisted mdealtMany mf3 p0 (by (try dsimp only); omega)) ok_X9_watchAt k_1212 k_1214 ks_41 k_9 k_1215 ⟨(Nat.le_of_ble_eq_true rfl), (Nat.le_of_ble_eq_true rfl)⟩ ⟨(Nat.le_of_ble_eq_true rfl), (Nat.le_of_ble_eq_true rfl)⟩ hl.1 (Nat.le_of_ble_eq_true rfl) rfl rfl dX9_home_2 (hP.sub (ws' := [(mh, .inr (9, G9 ma mcode mtoday moffs mmany msumW msumA msumR msumWW msumWA msumAA msumWR msumAR mupper mlower mrates mtaped mlaid mat mtk mtkAt mtkNumber mwaits mlisted mdealtMany)), ((ma 3), .inl (E 0, 16, .inl mf3))]) [0, 1] rfl) rfl rfl 0 rfl (fun r_1 hw_2 => ?_)
  refine lv_istore_n (lv' := [(2, .int r_1), (0, .ref mh), (1, .int p0)]) hx hb dX9_home_5 rfl hl (by decide) rfl (fun ls hl => ?_)
  refine lv_iload_n hx hb dX9_home_6 rfl (lv_at hl 0 rfl) ?_
  refine lv_if_ge (tgt := 12) hx hb dX9_home_7 (by decide) (fun c_4 => ?_) (fun c_4 => ?_)
  ·
    have ic_4 : 0 ≤ r_1.toInt := by first | exact (g_le t_0 rfl).mp c_4 | (have h := mt (g_lt rfl t_0).mpr c_4; omega)
    clear c_4
    refine lv_aload_n hx hb dX9_home_12 rfl (lv_at hl 1 rfl) ?_
    refine lv_iload_n hx hb dX9_home_13 rfl (lv_at hl 2 rfl) ?_
    refine callRV (rest := []) (As := [.int p0]) hx hb hml hown htb hK (g_X9_holderNow l D E mh ma mcode mtoday moffs mmany msumW msumA msumR msumWW msumWA msumAA msumWR msumAR mupper mlower mrates mtaped mlaid mat mtk mtkAt mtkNumber mwaits mlisted mdealtMany mf10 p0 (by (try dsimp only); omega) (by (try dsimp only); omega)) ok_X9_holderNow k_1193 k_1195 ks_40 k_9 k_1196 ⟨(Nat.le_of_ble_eq_true rfl), (Nat.le_of_ble_eq_true rfl)⟩ ⟨(Nat.le_of_ble_eq_true rfl), (Nat.le_of_ble_eq_true rfl)⟩ hl.1 (Nat.le_of_ble_eq_true rfl) rfl rfl dX9_home_14 (hP.sub (ws' := [(mh, .inr (9, G9 ma mcode mtoday moffs mmany msumW msumA msumR msumWW msumWA msumAA msumWR msumAR mupper mlower mrates mtaped mlaid mat mtk mtkAt mtkNumber mwaits mlisted mdealtMany)), ((ma 10), .inl (E 0, 6400, .inl mf10))]) [0, 2] rfl) rfl rfl 0 rfl (fun r_5 hw_6 => ?_)
    refine lv_iconst (v := 0) hx hb dX9_home_17 (by decide) ?_
    refine lv_bipush (v := 19) hx hb dX9_home_18 (by decide) ?_
    refine callRS (rest := []) (As := [.int r_5, .int 0, .int 19]) hx hb hml hown htb hK (g_X9_in l D E r_5 0 19 ) ok_X9_in k_1168 k_1169 k_9 k_1170 ⟨(Nat.le_of_ble_eq_true rfl), (Nat.le_of_ble_eq_true rfl)⟩ ⟨(Nat.le_of_ble_eq_true rfl), (Nat.le_of_ble_eq_true rfl)⟩ hl.1 (Nat.le_of_ble_eq_true rfl) rfl rfl dX9_home_20 (hP.sub (ws' := ([] : va_W)) [] rfl) (fun r_8 hw_9 => ?_)
    try simp only [t_0, t_19] at hw_9
    rcases hw_9 with ⟨hr_8, hw_9⟩ | ⟨hr_8, hw_9⟩
    ·
      try simp only [t_0, t_19] at hw_9
      refine W_top (y := .int 1) (by rw [hr_8]) ?_
      refine lv_if_ne (tgt := 29) hx hb dX9_home_23 (by decide) (fun c_11 => ?_) (fun c_11 => absurd c_11 (by decide))
      refine lv_aload_n hx hb dX9_home_29 rfl (lv_at hl 1 rfl) ?_
      refine lv_iload_n hx hb dX9_home_30 rfl (lv_at hl 2 rfl) ?_
      refine lv_iconst (v := (-1)) hx hb dX9_home_31 (by decide) ?_
      have hPc := hP.sub (ws' := [(mh, .inr (9, G9 ma mcode mtoday moffs mmany msumW msumA msumR msumWW msumWA msumAA msumWR msumAR mupper mlower mrates mtaped mlaid mat mtk mtkAt mtkNumber mwaits mlisted mdealtMany)), ((ma 10), .inl (E 0, 6400, .inl mf10))]) [0, 2] rfl
      have hDc := hD.sub (ws' := [(mh, .inr (9, G9 ma mcode mtoday moffs mmany msumW msumA msumR msumWW msumWA msumAA msumWR msumAR mupper mlower mrates mtaped mlaid mat mtk mtkAt mtkNumber mwaits mlisted mdealtMany)), ((ma 10), .inl (E 0, 6400, .inl mf10))]) [0, 2] (by decide) rfl
      refine aft_v (runMV (rest := []) (As := [.int p0, .int (-1)]) hx hb hml hown htb hK (g_X9_goesTo l D E mh ma mcode mtoday moffs mmany msumW msumA msumR msumWW msumWA msumAA msumWR msumAR mupper mlower mrates mtaped mlaid mat mtk mtkAt mtkNumber mwaits mlisted mdealtMany mf10 p0 (-1) _ (by (try dsimp only); omega) (by have h0 := t_m1; (try dsimp only); omega)) ok_X9_goesTo k_1421 k_1423 ks_63 k_9 k_1424 ⟨(Nat.le_of_ble_eq_true rfl), (Nat.le_of_ble_eq_true rfl)⟩ ⟨(Nat.le_of_ble_eq_true rfl), (Nat.le_of_ble_eq_true rfl)⟩ hl.1 (Nat.le_of_ble_eq_true rfl) rfl rfl dX9_home_32 hPc hDc rfl rfl 0 rfl) hP hD hS hA [0, 2] [1] (wr := [((ma 3), .inl (E 0, 16, .inl mf3))]) rfl rfl (by decide) (by decide) (fun u_14 H locs hw_13 hP hD hS => ?_)
      clear hPc hDc
      have hP : va_P D vwCl [((ma 3), .inl (E 0, 16, .inl mf3)), (mh, .inr (9, G9 ma mcode mtoday moffs mmany msumW msumA msumR msumWW msumWA msumAA msumWR msumAR mupper mlower mrates mtaped mlaid mat mtk mtkAt mtkNumber mwaits mlisted mdealtMany)), ((ma 10), .inl (E 0, 6400, .inl u_14))] H := hP
      have hD := toW hP hD rfl
      try simp only [t_m1] at hw_13
      refine lv_iconst (v := 1) hx hb dX9_home_35 (by decide) ?_
      have hP9 := hP.sub (ws' := [(mh, .inr (9, G9 ma mcode mtoday moffs mmany msumW msumA msumR msumWW msumWA msumAA msumWR msumAR mupper mlower mrates mtaped mlaid mat mtk mtkAt mtkNumber mwaits mlisted mdealtMany)), ((ma 3), .inl (E 0, 16, .inl mf3)), ((ma 10), .inl (E 0, 6400, .inl u_14))]) [1, 0, 2] rfl
      have hD9 := hD.sub (ws' := [(mh, .inr (9, G9 ma mcode mtoday moffs mmany msumW msumA msumR msumWW msumWA msumAA msumWR msumAR mupper mlower mrates mtaped mlaid mat mtk mtkAt mtkNumber mwaits mlisted mdealtMany)), ((ma 3), .inl (E 0, 16, .inl mf3)), ((ma 10), .inl (E 0, 6400, .inl u_14))]) [1, 0, 2] (by decide) rfl
      exact W.iret (v := 1) hx hb hr (fun t ht hW => ⟨⟨1, u_14, rfl, (by have hl0 := t_1; (try dsimp only); first | exact Or.inl ⟨by omega, rfl⟩ | exact Or.inr (Or.inl ⟨by omega, by omega, by subst_vars; omega, by omega, rfl⟩) | exact Or.inr (Or.inr ⟨by omega, by omega, by subst_vars; omega, by omega, by first | rfl | assumption⟩)), by rw [ht]; exact hP9, hD9⟩, hS.F ht⟩) hS.2.2 dX9_home_36
    ·
      try simp only [t_0, t_19] at hw_9
      refine W_top (y := .int 0) (by rw [hr_8]) ?_
      refine lv_if_ne (tgt := 29) hx hb dX9_home_23 (by decide) (fun c_15 => absurd (by decide) c_15) (fun c_15 => ?_)
      refine lv_bipush (v := (-4)) hx hb dX9_home_26 (by decide) ?_
      have hP9 := hP.sub (ws' := [(mh, .inr (9, G9 ma mcode mtoday moffs mmany msumW msumA msumR msumWW msumWA msumAA msumWR msumAR mupper mlower mrates mtaped mlaid mat mtk mtkAt mtkNumber mwaits mlisted mdealtMany)), ((ma 3), .inl (E 0, 16, .inl mf3)), ((ma 10), .inl (E 0, 6400, .inl mf10))]) [0, 1, 2] rfl
      have hD9 := hD.sub (ws' := [(mh, .inr (9, G9 ma mcode mtoday moffs mmany msumW msumA msumR msumWW msumWA msumAA msumWR msumAR mupper mlower mrates mtaped mlaid mat mtk mtkAt mtkNumber mwaits mlisted mdealtMany)), ((ma 3), .inl (E 0, 16, .inl mf3)), ((ma 10), .inl (E 0, 6400, .inl mf10))]) [0, 1, 2] (by decide) rfl
      exact W.iret (v := (-4)) hx hb hr (fun t ht hW => ⟨⟨(-4), mf10, rfl, (by have hl0 := t_m4; (try dsimp only); first | exact Or.inl ⟨by omega, rfl⟩ | exact Or.inr (Or.inl ⟨by omega, by omega, by subst_vars; omega, by omega, rfl⟩) | exact Or.inr (Or.inr ⟨by omega, by omega, by subst_vars; omega, by omega, by first | rfl | assumption⟩)), by rw [ht]; exact hP9, hD9⟩, hS.F ht⟩) hS.2.2 dX9_home_28
  ·
    have ic_4 : r_1.toInt < 0 := by first | exact (g_lt rfl t_0).mp c_4 | (have h := mt (g_le t_0 rfl).mpr c_4; omega)
    clear c_4
    refine lv_iload_n hx hb dX9_home_10 rfl (lv_at hl 0 rfl) ?_
    have hP9 := hP.sub (ws' := [(mh, .inr (9, G9 ma mcode mtoday moffs mmany msumW msumA msumR msumWW msumWA msumAA msumWR msumAR mupper mlower mrates mtaped mlaid mat mtk mtkAt mtkNumber mwaits mlisted mdealtMany)), ((ma 3), .inl (E 0, 16, .inl mf3)), ((ma 10), .inl (E 0, 6400, .inl mf10))]) [0, 1, 2] rfl
    have hD9 := hD.sub (ws' := [(mh, .inr (9, G9 ma mcode mtoday moffs mmany msumW msumA msumR msumWW msumWA msumAA msumWR msumAR mupper mlower mrates mtaped mlaid mat mtk mtkAt mtkNumber mwaits mlisted mdealtMany)), ((ma 3), .inl (E 0, 16, .inl mf3)), ((ma 10), .inl (E 0, 6400, .inl mf10))]) [0, 1, 2] (by decide) rfl
    exact W.iret (v := r_1) hx hb hr (fun t ht hW => ⟨⟨r_1, mf10, rfl, (by (try dsimp only); first | exact Or.inl ⟨by omega, rfl⟩ | exact Or.inr (Or.inl ⟨by omega, by omega, by subst_vars; omega, by omega, rfl⟩) | exact Or.inr (Or.inr ⟨by omega, by omega, by subst_vars; omega, by omega, by first | rfl | assumption⟩)), by rw [ht]; exact hP9, hD9⟩, hS.F ht⟩) hS.2.2 dX9_home_11
set_option maxHeartbeats 4000000 in
set_option maxRecDepth 100000 in
theorem g_X9_holder (l : Launch) (D : va_G) (E : Nat → Nat) (mh : Nat) (ma : Nat → Nat) (mcode : Int32) (mtoday : Int32) (moffs : Int32) (mmany : Int64) (msumW : Int64) (msumA : Int64) (msumR : Int64) (msumWW : Int64) (msumWA : Int64) (msumAA : Int64) (msumWR : Int64) (msumAR : Int64) (mupper : Int64) (mlower : Int64) (mrates : Int32) (mtaped : Int32) (mlaid : Int32) (mat : Int32) (mtk : Int32) (mtkAt : Int32) (mtkNumber : Int32) (mwaits : Int32) (mlisted : Int32) (mdealtMany : Int32) (mf3 : Nat → Int32) (mf10 : Nat → Int32) (p0 : Int32) (p1 : Int32) (hi_m : (0 ≤ mtoday.toInt ∧ mtoday.toInt ≤ 399) ∧ (0 ≤ moffs.toInt ∧ moffs.toInt ≤ 60) ∧ (0 ≤ mrates.toInt ∧ mrates.toInt ≤ 60) ∧ (0 ≤ mtaped.toInt ∧ mtaped.toInt ≤ 120) ∧ (0 ≤ mlisted.toInt ∧ mlisted.toInt ≤ 9) ∧ (0 ≤ mdealtMany.toInt ∧ mdealtMany.toInt ≤ 9)) : Met l yX9_holder (wl yX9_holder cX9_holder 3 (some .int)) (RM 3 0 0) (rd_P D E [.ref mh, .int p0, .int p1] [(mh, .inr (9, G9 ma mcode mtoday moffs mmany msumW msumA msumR msumWW msumWA msumAA msumWR msumAR mupper mlower mrates mtaped mlaid mat mtk mtkAt mtkNumber mwaits mlisted mdealtMany)), ((ma 3), .inl (E 0, 16, .inl mf3)), ((ma 10), .inl (E 0, 6400, .inl mf10))]) (rd_Q (fun r => ((((0 ≤ p0.toInt ∧ p0.toInt ≤ 15) ∧ ((mf3 (p0).toNatClampNeg).toInt ≠ -5 ∧ (mf3 (p0).toNatClampNeg).toInt ≠ 2) ∧ (0 ≤ p1.toInt ∧ p1.toInt ≤ mtoday.toInt)) ∧ r = mf10 (400 * p0 + p1).toNatClampNeg) ∨ (¬ ((0 ≤ p0.toInt ∧ p0.toInt ≤ 15) ∧ ((mf3 (p0).toNatClampNeg).toInt ≠ -5 ∧ (mf3 (p0).toNatClampNeg).toInt ≠ 2) ∧ (0 ≤ p1.toInt ∧ p1.toInt ≤ mtoday.toInt)) ∧ r.toInt = -2000000000)))) 0 0 (fun _ => False) := by
  refine Met.ofW (cc := cX9_holder) (maxL := 3) (ret := (some .int)) (by decide) rfl ?_
  intro p e s m args below meth c s₁ B hml hv
  obtain ⟨rfl, hP, hK⟩ := hv
  have hx := B.exec; have hb := B.bytes; have hr := B.returns
  have hts := atoms_spec (ws := wl yX9_holder cX9_holder 3 (some .int)) B.pre
  have htb : ∀ w ∈ tb, w.before _ s = true := fun w h => hts w (List.mem_cons_of_mem _ h)
  have hown : s.vm.findClass RX9 = some m.cls := findClass_of_methodNamed B.named
  have hlocks := B.notSynchronized
  have hP : va_P D vwCl [(mh, .inr (9, G9 ma mcode mtoday moffs mmany msumW msumA msumR msumWW msumWA msumAA msumWR msumAR mupper mlower mrates mtaped mlaid mat mtk mtkAt mtkNumber mwaits mlisted mdealtMany)), ((ma 3), .inl (E 0, 16, .inl mf3)), ((ma 10), .inl (E 0, 6400, .inl mf10))] s.heap := hP
  have hl := lv_entry ([.ref mh, .int p0, .int p1]) (n := 3) (Nat.le_of_ble_eq_true rfl)
  rw [lg_entry_eq]
  generalize (lg_sl ([.ref mh, .int p0, .int p1]) ++ List.replicate (3 - (lg_sl ([.ref mh, .int p0, .int p1])).length) Slot.unset).toArray = ls at hl ⊢
  have hl : lv_has ls 3 [(0, .ref mh), (1, .int p0), (2, .int p1)] := hl
  have lo_p0 := i_lo p0; have hi_p0 := i_hi p0
  have lo_p1 := i_lo p1; have hi_p1 := i_hi p1
  refine lv_aload_n hx hb dX9_holder_0 rfl (lv_at hl 0 rfl) ?_
  refine lv_iload_n hx hb dX9_holder_1 rfl (lv_at hl 1 rfl) ?_
  refine callRV (rest := []) (As := [.int p0]) hx hb hml hown htb hK (g_X9_watchAt l D E mh ma mcode mtoday moffs mmany msumW msumA msumR msumWW msumWA msumAA msumWR msumAR mupper mlower mrates mtaped mlaid mat mtk mtkAt mtkNumber mwaits mlisted mdealtMany mf3 p0 (by (try dsimp only); omega)) ok_X9_watchAt k_1212 k_1214 ks_41 k_9 k_1215 ⟨(Nat.le_of_ble_eq_true rfl), (Nat.le_of_ble_eq_true rfl)⟩ ⟨(Nat.le_of_ble_eq_true rfl), (Nat.le_of_ble_eq_true rfl)⟩ hl.1 (Nat.le_of_ble_eq_true rfl) rfl rfl dX9_holder_2 (hP.sub (ws' := [(mh, .inr (9, G9 ma mcode mtoday moffs mmany msumW msumA msumR msumWW msumWA msumAA msumWR msumAR mupper mlower mrates mtaped mlaid mat mtk mtkAt mtkNumber mwaits mlisted mdealtMany)), ((ma 3), .inl (E 0, 16, .inl mf3))]) [0, 1] rfl) rfl rfl 0 rfl (fun r_1 hw_2 => ?_)
  refine lv_if_lt (tgt := 20) hx hb dX9_holder_5 (by decide) (fun c_4 => ?_) (fun c_4 => ?_)
  ·
    have ic_4 : r_1.toInt < 0 := by first | exact (g_lt rfl t_0).mp c_4 | (have h := mt (g_le t_0 rfl).mpr c_4; omega)
    clear c_4
    refine lv_ldc hx hb hown (htb _ k_1205) dX9_holder_20 ?_
    refine lv_goto (tgt := 37) hx hb dX9_holder_22 (by decide) ?_
    exact W.iret (v := (-2000000000)) hx hb hr (fun t ht hW => ⟨(-2000000000), rfl, (by have hl0 := t_m2000000000; (try dsimp only); first | exact Or.inl ⟨by omega, by subst_vars; rfl⟩ | exact Or.inr ⟨by omega, by omega⟩), ht⟩) (fun q h => by cases h) dX9_holder_37
  ·
    have ic_4 : 0 ≤ r_1.toInt := by first | exact (g_le t_0 rfl).mp c_4 | (have h := mt (g_lt rfl t_0).mpr c_4; omega)
    clear c_4
    refine lv_iload_n hx hb dX9_holder_8 rfl (lv_at hl 2 rfl) ?_
    refine lv_iconst (v := 0) hx hb dX9_holder_9 (by decide) ?_
    refine lv_aload_n hx hb dX9_holder_10 rfl (lv_at hl 0 rfl) ?_
    refine va_get (D := D) (ci := 9) (v := .int mtoday) (C := RX9) (T := TX9) (N := 68) hx hb htb iX9 hown hK.1 hP 0 rfl rfl 1 (by decide) (htb _ k_959) (fun _ h9 => h9) rfl dX9_holder_11 ?_
    refine callRS (rest := []) (As := [.int p1, .int 0, .int mtoday]) hx hb hml hown htb hK (g_X9_in l D E p1 0 mtoday ) ok_X9_in k_1168 k_1169 k_9 k_1170 ⟨(Nat.le_of_ble_eq_true rfl), (Nat.le_of_ble_eq_true rfl)⟩ ⟨(Nat.le_of_ble_eq_true rfl), (Nat.le_of_ble_eq_true rfl)⟩ hl.1 (Nat.le_of_ble_eq_true rfl) rfl rfl dX9_holder_14 (hP.sub (ws' := ([] : va_W)) [] rfl) (fun r_5 hw_6 => ?_)
    try simp only [t_0] at hw_6
    rcases hw_6 with ⟨hr_5, hw_6⟩ | ⟨hr_5, hw_6⟩
    ·
      try simp only [t_0] at hw_6
      refine W_top (y := .int 1) (by rw [hr_5]) ?_
      refine lv_if_ne (tgt := 25) hx hb dX9_holder_17 (by decide) (fun c_8 => ?_) (fun c_8 => absurd c_8 (by decide))
      refine lv_aload_n hx hb dX9_holder_25 rfl (lv_at hl 0 rfl) ?_
      refine va_get (D := D) (ci := 9) (v := .ref (ma 10)) (C := RX9) (T := TX9) (N := 68) hx hb htb iX9 hown hK.1 hP 0 rfl rfl 10 (by decide) (htb _ k_968) (fun _ h9 => h9) rfl dX9_holder_26 ?_
      refine lv_sipush (v := 400) hx hb dX9_holder_29 (by decide) ?_
      refine lv_iload_n hx hb dX9_holder_32 rfl (lv_at hl 1 rfl) ?_
      refine lv_imul hx hb dX9_holder_33 ?_
      refine lv_topi (fun z_9 ez_9 => ?_)
      have jz_9 : z_9.toInt = 400 * p0.toInt := by rw [ez_9]; exact g_mul t_400 rfl (by omega) (by omega)
      refine lv_iload_n hx hb dX9_holder_34 rfl (lv_at hl 2 rfl) ?_
      refine lv_iadd hx hb dX9_holder_35 ?_
      refine lv_topi (fun z_10 ez_10 => ?_)
      have jz_10 : z_10.toInt = z_9.toInt + p1.toInt := by rw [ez_10]; exact g_add rfl rfl (by omega) (by omega)
      refine va_iald hx hb hK.1 hP 2 0 rfl rfl (g_in rfl (by omega) (by omega)) dX9_holder_36 ?_
      refine lv_topi (fun z_11 ez_11 => ?_)
      have kz_11 := congrArg Int32.toInt ez_11
      exact W.iret (v := z_11) hx hb hr (fun t ht hW => ⟨z_11, rfl, (by (try dsimp only); first | exact Or.inl ⟨by omega, by subst_vars; rfl⟩ | exact Or.inr ⟨by omega, by omega⟩), ht⟩) (fun q h => by cases h) dX9_holder_37
    ·
      try simp only [t_0] at hw_6
      refine W_top (y := .int 0) (by rw [hr_5]) ?_
      refine lv_if_ne (tgt := 25) hx hb dX9_holder_17 (by decide) (fun c_12 => absurd (by decide) c_12) (fun c_12 => ?_)
      refine lv_ldc hx hb hown (htb _ k_1205) dX9_holder_20 ?_
      refine lv_goto (tgt := 37) hx hb dX9_holder_22 (by decide) ?_
      exact W.iret (v := (-2000000000)) hx hb hr (fun t ht hW => ⟨(-2000000000), rfl, (by have hl0 := t_m2000000000; (try dsimp only); first | exact Or.inl ⟨by omega, by subst_vars; rfl⟩ | exact Or.inr ⟨by omega, by omega⟩), ht⟩) (fun q h => by cases h) dX9_holder_37
set_option maxHeartbeats 4000000 in
set_option maxRecDepth 100000 in
theorem g_X9_away (l : Launch) (D : va_G) (E : Nat → Nat) (mh : Nat) (ma : Nat → Nat) (mcode : Int32) (mtoday : Int32) (moffs : Int32) (mmany : Int64) (msumW : Int64) (msumA : Int64) (msumR : Int64) (msumWW : Int64) (msumWA : Int64) (msumAA : Int64) (msumWR : Int64) (msumAR : Int64) (mupper : Int64) (mlower : Int64) (mrates : Int32) (mtaped : Int32) (mlaid : Int32) (mat : Int32) (mtk : Int32) (mtkAt : Int32) (mtkNumber : Int32) (mwaits : Int32) (mlisted : Int32) (mdealtMany : Int32) (mf3 : Nat → Int32) (mf10 : Nat → Int32) (p0 : Int32) (hi_m : (0 ≤ mtoday.toInt ∧ mtoday.toInt ≤ 399) ∧ (0 ≤ moffs.toInt ∧ moffs.toInt ≤ 60) ∧ (0 ≤ mrates.toInt ∧ mrates.toInt ≤ 60) ∧ (0 ≤ mtaped.toInt ∧ mtaped.toInt ≤ 120) ∧ (0 ≤ mlisted.toInt ∧ mlisted.toInt ≤ 9) ∧ (0 ≤ mdealtMany.toInt ∧ mdealtMany.toInt ≤ 9)) : Met l yX9_away (wl yX9_away cX9_away 5 (some .int)) (RM 3 0 0) (rd_P D E [.ref mh, .int p0] [(mh, .inr (9, G9 ma mcode mtoday moffs mmany msumW msumA msumR msumWW msumWA msumAA msumWR msumAR mupper mlower mrates mtaped mlaid mat mtk mtkAt mtkNumber mwaits mlisted mdealtMany)), ((ma 3), .inl (E 0, 16, .inl mf3)), ((ma 10), .inl (E 0, 6400, .inl mf10))]) (rd_Q (fun r => (((((¬ (0 ≤ p0.toInt ∧ p0.toInt ≤ 15) ∧ r.toInt = -1) ∨ ((0 ≤ p0.toInt ∧ p0.toInt ≤ 15) ∧ (mf3 (p0).toNatClampNeg).toInt = -5 ∧ r.toInt = -2) ∨ ((0 ≤ p0.toInt ∧ p0.toInt ≤ 15) ∧ (mf3 (p0).toNatClampNeg).toInt = 2 ∧ r.toInt = -3) ∨ ((0 ≤ p0.toInt ∧ p0.toInt ≤ 15) ∧ (mf3 (p0).toNatClampNeg).toInt ≠ -5 ∧ (mf3 (p0).toNatClampNeg).toInt ≠ 2 ∧ r.toInt = 0)) ∧ r.toInt < 0)) ∨ ((0 ≤ p0.toInt ∧ p0.toInt ≤ 15) ∧ ((mf3 (p0).toNatClampNeg).toInt ≠ -5 ∧ (mf3 (p0).toNatClampNeg).toInt ≠ 2) ∧ r.toInt = awM mf10 (400 * p0.toInt).toNat (mtoday.toInt + 1).toNat)))) 0 0 (fun _ => False) := by
  refine Met.ofW (cc := cX9_away) (maxL := 5) (ret := (some .int)) (by decide) rfl ?_
  intro p e s m args below meth c s₁ B hml hv
  obtain ⟨rfl, hP, hK⟩ := hv
  have hx := B.exec; have hb := B.bytes; have hr := B.returns
  have hts := atoms_spec (ws := wl yX9_away cX9_away 5 (some .int)) B.pre
  have htb : ∀ w ∈ tb, w.before _ s = true := fun w h => hts w (List.mem_cons_of_mem _ h)
  have hown : s.vm.findClass RX9 = some m.cls := findClass_of_methodNamed B.named
  have hlocks := B.notSynchronized
  have hP : va_P D vwCl [(mh, .inr (9, G9 ma mcode mtoday moffs mmany msumW msumA msumR msumWW msumWA msumAA msumWR msumAR mupper mlower mrates mtaped mlaid mat mtk mtkAt mtkNumber mwaits mlisted mdealtMany)), ((ma 3), .inl (E 0, 16, .inl mf3)), ((ma 10), .inl (E 0, 6400, .inl mf10))] s.heap := hP
  have hl := lv_entry ([.ref mh, .int p0]) (n := 5) (Nat.le_of_ble_eq_true rfl)
  rw [lg_entry_eq]
  generalize (lg_sl ([.ref mh, .int p0]) ++ List.replicate (5 - (lg_sl ([.ref mh, .int p0])).length) Slot.unset).toArray = ls at hl ⊢
  have hl : lv_has ls 5 [(0, .ref mh), (1, .int p0)] := hl
  have lo_p0 := i_lo p0; have hi_p0 := i_hi p0
  refine lv_aload_n hx hb dX9_away_0 rfl (lv_at hl 0 rfl) ?_
  refine lv_iload_n hx hb dX9_away_1 rfl (lv_at hl 1 rfl) ?_
  refine callRV (rest := []) (As := [.int p0]) hx hb hml hown htb hK (g_X9_watchAt l D E mh ma mcode mtoday moffs mmany msumW msumA msumR msumWW msumWA msumAA msumWR msumAR mupper mlower mrates mtaped mlaid mat mtk mtkAt mtkNumber mwaits mlisted mdealtMany mf3 p0 (by (try dsimp only); omega)) ok_X9_watchAt k_1212 k_1214 ks_41 k_9 k_1215 ⟨(Nat.le_of_ble_eq_true rfl), (Nat.le_of_ble_eq_true rfl)⟩ ⟨(Nat.le_of_ble_eq_true rfl), (Nat.le_of_ble_eq_true rfl)⟩ hl.1 (Nat.le_of_ble_eq_true rfl) rfl rfl dX9_away_2 (hP.sub (ws' := [(mh, .inr (9, G9 ma mcode mtoday moffs mmany msumW msumA msumR msumWW msumWA msumAA msumWR msumAR mupper mlower mrates mtaped mlaid mat mtk mtkAt mtkNumber mwaits mlisted mdealtMany)), ((ma 3), .inl (E 0, 16, .inl mf3))]) [0, 1] rfl) rfl rfl 0 rfl (fun r_1 hw_2 => ?_)
  refine lv_istore_n (lv' := [(2, .int r_1), (0, .ref mh), (1, .int p0)]) hx hb dX9_away_5 rfl hl (by decide) rfl (fun ls hl => ?_)
  refine lv_iload_n hx hb dX9_away_6 rfl (lv_at hl 0 rfl) ?_
  refine lv_if_ge (tgt := 12) hx hb dX9_away_7 (by decide) (fun c_4 => ?_) (fun c_4 => ?_)
  ·
    have ic_4 : 0 ≤ r_1.toInt := by first | exact (g_le t_0 rfl).mp c_4 | (have h := mt (g_lt rfl t_0).mpr c_4; omega)
    clear c_4
    refine lv_iconst (v := 0) hx hb dX9_away_12 (by decide) ?_
    refine lv_istore_n (lv' := [(3, .int 0), (2, .int r_1), (0, .ref mh), (1, .int p0)]) hx hb dX9_away_13 rfl hl (by decide) rfl (fun ls hl => ?_)
    refine lv_iconst (v := 0) hx hb dX9_away_14 (by decide) ?_
    refine lv_istore (lv' := [(4, .int 0), (3, .int 0), (2, .int r_1), (0, .ref mh), (1, .int p0)]) hx hb dX9_away_15 hl (by decide) rfl (fun ls hl => ?_)
    have loop_5 : ∀ (N_7 : Nat) (L4_17 : Int32) (L3_17 : Int32)  (ls : Array Slot), mtoday.toInt + 1 - L4_17.toInt < (N_7 : Int) → (0 ≤ L4_17.toInt ∧ L4_17.toInt ≤ mtoday.toInt + 1 ∧ 0 ≤ L3_17.toInt ∧ L3_17.toInt ≤ L4_17.toInt) → (L3_17.toInt = awM mf10 (400 * p0.toInt).toNat (L4_17).toNatClampNeg) → lv_has ls 5 [(4, .int L4_17), (3, .int L3_17), (2, .int r_1), (0, .ref mh), (1, .int p0)] → W p l e (headSpec (wl yX9_away cX9_away 5 (some .int)) (RM 3 0 0)).room s m [Value.ref mh, .int p0].toArray below meth c s.heap [] 0 0 (MQ below (rd_Q (fun r => (((((¬ (0 ≤ p0.toInt ∧ p0.toInt ≤ 15) ∧ r.toInt = -1) ∨ ((0 ≤ p0.toInt ∧ p0.toInt ≤ 15) ∧ (mf3 (p0).toNatClampNeg).toInt = -5 ∧ r.toInt = -2) ∨ ((0 ≤ p0.toInt ∧ p0.toInt ≤ 15) ∧ (mf3 (p0).toNatClampNeg).toInt = 2 ∧ r.toInt = -3) ∨ ((0 ≤ p0.toInt ∧ p0.toInt ≤ 15) ∧ (mf3 (p0).toNatClampNeg).toInt ≠ -5 ∧ (mf3 (p0).toNatClampNeg).toInt ≠ 2 ∧ r.toInt = 0)) ∧ r.toInt < 0)) ∨ ((0 ≤ p0.toInt ∧ p0.toInt ≤ 15) ∧ ((mf3 (p0).toNatClampNeg).toInt ≠ -5 ∧ (mf3 (p0).toNatClampNeg).toInt ≠ 2) ∧ r.toInt = awM mf10 (400 * p0.toInt).toNat (mtoday.toInt + 1).toNat)))) [Value.ref mh, .int p0].toArray s 0 0 (fun _ => False)) (F0 m 17 ls []) := by
      intro N_7
      induction N_7 with
      | zero => intro L4_17 L3_17  ls hm v0_17 v1_17 _; exfalso; omega
      | succ N_7 ih_6 =>
        intro L4_17 L3_17 ls hm v0_17 v1_17 hl
        have lo_L4_17 := i_lo L4_17; have hi_L4_17 := i_hi L4_17
        have lo_L3_17 := i_lo L3_17; have hi_L3_17 := i_hi L3_17
        refine lv_iload hx hb dX9_away_17 (lv_at hl 0 rfl) ?_
        refine lv_aload_n hx hb dX9_away_19 rfl (lv_at hl 3 rfl) ?_
        refine va_get (D := D) (ci := 9) (v := .int mtoday) (C := RX9) (T := TX9) (N := 68) hx hb htb iX9 hown hK.1 hP 0 rfl rfl 1 (by decide) (htb _ k_959) (fun _ h9 => h9) rfl dX9_away_20 ?_
        refine lv_icmp_gt (tgt := 57) hx hb dX9_away_23 (by decide) (fun c_8 => ?_) (fun c_8 => ?_)
        ·
          have ic_8 : mtoday.toInt < L4_17.toInt := by first | exact (g_lt rfl rfl).mp c_8 | (have h := mt (g_le rfl rfl).mpr c_8; omega)
          clear c_8
          refine lv_iload_n hx hb dX9_away_57 rfl (lv_at hl 1 rfl) ?_
          exact W.iret (v := L3_17) hx hb hr (fun t ht hW => ⟨L3_17, rfl, (by (try dsimp only); first | exact Or.inl (by omega) | exact Or.inr ⟨by omega, by omega, by have c9 := i_clamp0 (x := L4_17) (by omega); rw [show (mtoday.toInt + 1).toNat = (L4_17).toNatClampNeg by omega]; assumption⟩), ht⟩) (fun q h => by cases h) dX9_away_58
        ·
          have ic_8 : L4_17.toInt ≤ mtoday.toInt := by first | exact (g_le rfl rfl).mp c_8 | (have h := mt (g_lt rfl rfl).mpr c_8; omega)
          clear c_8
          refine lv_iload_n hx hb dX9_away_26 rfl (lv_at hl 1 rfl) ?_
          refine lv_aload_n hx hb dX9_away_27 rfl (lv_at hl 3 rfl) ?_
          refine va_get (D := D) (ci := 9) (v := .ref (ma 10)) (C := RX9) (T := TX9) (N := 68) hx hb htb iX9 hown hK.1 hP 0 rfl rfl 10 (by decide) (htb _ k_968) (fun _ h9 => h9) rfl dX9_away_28 ?_
          refine lv_sipush (v := 400) hx hb dX9_away_31 (by decide) ?_
          refine lv_iload_n hx hb dX9_away_34 rfl (lv_at hl 4 rfl) ?_
          refine lv_imul hx hb dX9_away_35 ?_
          refine lv_topi (fun z_9 ez_9 => ?_)
          have jz_9 : z_9.toInt = 400 * p0.toInt := by rw [ez_9]; exact g_mul t_400 rfl (by omega) (by omega)
          refine lv_iload hx hb dX9_away_36 (lv_at hl 0 rfl) ?_
          refine lv_iadd hx hb dX9_away_38 ?_
          refine lv_topi (fun z_10 ez_10 => ?_)
          have jz_10 : z_10.toInt = z_9.toInt + L4_17.toInt := by rw [ez_10]; exact g_add rfl rfl (by omega) (by omega)
          refine va_iald hx hb hK.1 hP 2 0 rfl rfl (g_in rfl (by omega) (by omega)) dX9_away_39 ?_
          refine lv_topi (fun z_11 ez_11 => ?_)
          have kz_11 := congrArg Int32.toInt ez_11
          refine lv_iconst (v := (-1)) hx hb dX9_away_40 (by decide) ?_
          refine lv_icmp_ne (tgt := 48) hx hb dX9_away_41 (by decide) (fun c_12 => ?_) (fun c_12 => ?_)
          ·
            have ic_12 : z_11.toInt ≠ -1 := mt (g_eq rfl t_m1).mpr c_12
            clear c_12
            refine lv_iconst (v := 1) hx hb dX9_away_48 (by decide) ?_
            refine lv_iadd hx hb dX9_away_49 ?_
            refine lv_topi (fun z_13 ez_13 => ?_)
            have jz_13 : z_13.toInt = L3_17.toInt + 1 := by rw [ez_13]; exact g_add rfl t_1 (by omega) (by omega)
            refine lv_istore_n (lv' := [(3, .int z_13), (4, .int L4_17), (2, .int r_1), (0, .ref mh), (1, .int p0)]) hx hb dX9_away_50 rfl hl (by decide) rfl (fun ls hl => ?_)
            obtain ⟨z_14, ez_14⟩ : ∃ y : Int32, y = L4_17 + 1 := ⟨_, rfl⟩
            have jz_14 : z_14.toInt = L4_17.toInt + 1 := by rw [ez_14]; exact g_add rfl t_1 (by omega) (by omega)
            refine lv_iinc (v := z_14) (lv' := [(4, .int z_14), (3, .int z_13), (2, .int r_1), (0, .ref mh), (1, .int p0)]) hx hb dX9_away_51 hl (k := 1) rfl (by rw [ez_14]; rfl) (by decide) rfl (fun ls hl => ?_)
            refine lv_goto (tgt := 17) hx hb dX9_away_54 (by decide) ?_
            exact ih_6 z_14 z_13 _ (by (try dsimp only); omega) (by (try dsimp only); omega) (by have hcl := clampS (by omega) jz_14; have c1 := i_clamp0 (x := z_10) (by omega); have c2 := i_clamp0 (x := L4_17) (by omega); rw [hcl, awM_succ, show (400 * p0.toInt).toNat + (L4_17).toNatClampNeg = (z_10).toNatClampNeg by omega, ← ez_11]; split <;> omega) (lv_sub hl [0, 1, 2, 3, 4] rfl)
          ·
            have ic_12 : z_11.toInt = -1 := (g_eq rfl t_m1).mp c_12
            clear c_12
            refine lv_iconst (v := 0) hx hb dX9_away_44 (by decide) ?_
            refine lv_goto (tgt := 49) hx hb dX9_away_45 (by decide) ?_
            refine lv_iadd hx hb dX9_away_49 ?_
            refine lv_topi (fun z_15 ez_15 => ?_)
            have jz_15 : z_15.toInt = L3_17.toInt + 0 := by rw [ez_15]; exact g_add rfl t_0 (by omega) (by omega)
            refine lv_istore_n (lv' := [(3, .int z_15), (4, .int L4_17), (2, .int r_1), (0, .ref mh), (1, .int p0)]) hx hb dX9_away_50 rfl hl (by decide) rfl (fun ls hl => ?_)
            obtain ⟨z_16, ez_16⟩ : ∃ y : Int32, y = L4_17 + 1 := ⟨_, rfl⟩
            have jz_16 : z_16.toInt = L4_17.toInt + 1 := by rw [ez_16]; exact g_add rfl t_1 (by omega) (by omega)
            refine lv_iinc (v := z_16) (lv' := [(4, .int z_16), (3, .int z_15), (2, .int r_1), (0, .ref mh), (1, .int p0)]) hx hb dX9_away_51 hl (k := 1) rfl (by rw [ez_16]; rfl) (by decide) rfl (fun ls hl => ?_)
            refine lv_goto (tgt := 17) hx hb dX9_away_54 (by decide) ?_
            exact ih_6 z_16 z_15 _ (by (try dsimp only); omega) (by (try dsimp only); omega) (by have hcl := clampS (by omega) jz_16; have c1 := i_clamp0 (x := z_10) (by omega); have c2 := i_clamp0 (x := L4_17) (by omega); rw [hcl, awM_succ, show (400 * p0.toInt).toNat + (L4_17).toNatClampNeg = (z_10).toNatClampNeg by omega, ← ez_11]; split <;> omega) (lv_sub hl [0, 1, 2, 3, 4] rfl)
    exact loop_5 401 0 0 _ (by have h0 := t_0; (try dsimp only); omega) (by have h0 := t_0; (try dsimp only); omega) (by rfl)  (lv_sub hl [0, 1, 2, 3, 4] rfl)
  ·
    have ic_4 : r_1.toInt < 0 := by first | exact (g_lt rfl t_0).mp c_4 | (have h := mt (g_le t_0 rfl).mpr c_4; omega)
    clear c_4
    refine lv_iload_n hx hb dX9_away_10 rfl (lv_at hl 0 rfl) ?_
    exact W.iret (v := r_1) hx hb hr (fun t ht hW => ⟨r_1, rfl, (by (try dsimp only); first | exact Or.inl (by omega) | exact Or.inr ⟨by omega, by omega, by have c9 := i_clamp0 (x := L4_17) (by omega); rw [show (mtoday.toInt + 1).toNat = (L4_17).toNatClampNeg by omega]; assumption⟩), ht⟩) (fun q h => by cases h) dX9_away_11
set_option maxHeartbeats 4000000 in
set_option maxRecDepth 100000 in
theorem g_X9_count (l : Launch) (D : va_G) (E : Nat → Nat) (mh : Nat) (ma : Nat → Nat) (mcode : Int32) (mtoday : Int32) (moffs : Int32) (mmany : Int64) (msumW : Int64) (msumA : Int64) (msumR : Int64) (msumWW : Int64) (msumWA : Int64) (msumAA : Int64) (msumWR : Int64) (msumAR : Int64) (mupper : Int64) (mlower : Int64) (mrates : Int32) (mtaped : Int32) (mlaid : Int32) (mat : Int32) (mtk : Int32) (mtkAt : Int32) (mtkNumber : Int32) (mwaits : Int32) (mlisted : Int32) (mdealtMany : Int32) (mf3 : Nat → Int32) (mf47 : Nat → Int32) (p0 : Int32) (hi_m : (0 ≤ mtoday.toInt ∧ mtoday.toInt ≤ 399) ∧ (0 ≤ moffs.toInt ∧ moffs.toInt ≤ 60) ∧ (0 ≤ mrates.toInt ∧ mrates.toInt ≤ 60) ∧ (0 ≤ mtaped.toInt ∧ mtaped.toInt ≤ 120) ∧ (0 ≤ mlisted.toInt ∧ mlisted.toInt ≤ 9) ∧ (0 ≤ mdealtMany.toInt ∧ mdealtMany.toInt ≤ 9)) : Met l yX9_count (wl yX9_count cX9_count 4 (some .int)) (RM 1 0 0) (rd_P D E [.ref mh, .int p0] [(mh, .inr (9, G9 ma mcode mtoday moffs mmany msumW msumA msumR msumWW msumWA msumAA msumWR msumAR mupper mlower mrates mtaped mlaid mat mtk mtkAt mtkNumber mwaits mlisted mdealtMany)), ((ma 3), .inl (E 0, 16, .inl mf3)), ((ma 47), .inl (E 0, 5, .inl mf47))]) (rd_Q (fun r => ((p0.toInt = 0 ∧ r.toInt = cnW mf3 16) ∨ (p0.toInt = 1 ∧ r.toInt = mtoday.toInt) ∨ (p0.toInt = 2 ∧ r.toInt = moffs.toInt) ∨ (p0.toInt = 3 ∧ r.toInt = cnS mf47 5) ∨ (p0.toInt = 4 ∧ r.toInt = mtaped.toInt) ∨ (p0.toInt = 5 ∧ r.toInt = cnG mf3 16) ∨ (p0.toInt = 6 ∧ r.toInt = mlisted.toInt) ∨ (¬ (0 ≤ p0.toInt ∧ p0.toInt ≤ 6) ∧ r.toInt = -1)))) 0 0 (fun _ => False) := by
  refine Met.ofW (cc := cX9_count) (maxL := 4) (ret := (some .int)) (by decide) rfl ?_
  intro p e s m args below meth c s₁ B hml hv
  obtain ⟨rfl, hP, hK⟩ := hv
  have hx := B.exec; have hb := B.bytes; have hr := B.returns
  have hts := atoms_spec (ws := wl yX9_count cX9_count 4 (some .int)) B.pre
  have htb : ∀ w ∈ tb, w.before _ s = true := fun w h => hts w (List.mem_cons_of_mem _ h)
  have hown : s.vm.findClass RX9 = some m.cls := findClass_of_methodNamed B.named
  have hlocks := B.notSynchronized
  have hP : va_P D vwCl [(mh, .inr (9, G9 ma mcode mtoday moffs mmany msumW msumA msumR msumWW msumWA msumAA msumWR msumAR mupper mlower mrates mtaped mlaid mat mtk mtkAt mtkNumber mwaits mlisted mdealtMany)), ((ma 3), .inl (E 0, 16, .inl mf3)), ((ma 47), .inl (E 0, 5, .inl mf47))] s.heap := hP
  have hl := lv_entry ([.ref mh, .int p0]) (n := 4) (Nat.le_of_ble_eq_true rfl)
  rw [lg_entry_eq]
  generalize (lg_sl ([.ref mh, .int p0]) ++ List.replicate (4 - (lg_sl ([.ref mh, .int p0])).length) Slot.unset).toArray = ls at hl ⊢
  have hl : lv_has ls 4 [(0, .ref mh), (1, .int p0)] := hl
  have lo_p0 := i_lo p0; have hi_p0 := i_hi p0
  refine lv_iconst (v := 0) hx hb dX9_count_0 (by decide) ?_
  refine lv_istore_n (lv' := [(2, .int 0), (0, .ref mh), (1, .int p0)]) hx hb dX9_count_1 rfl hl (by decide) rfl (fun ls hl => ?_)
  refine lv_iload_n hx hb dX9_count_2 rfl (lv_at hl 2 rfl) ?_
  by_cases h_1 : p0.toInt < 0 ∨ 6 < p0.toInt
  ·
    refine lv_tableOut (tgt := 163) hx hb dX9_count_3 h_1 (by decide) ?_
    refine lv_iconst (v := (-1)) hx hb dX9_count_163 (by decide) ?_
    exact W.iret (v := (-1)) hx hb hr (fun t ht hW => ⟨(-1), rfl, (by have hl0 := t_m1; (try dsimp only); first | exact Or.inl ⟨by omega, by have c9 := i_clamp0 (x := L3_46) (by omega); rw [show (16 : Nat) = (L3_46).toNatClampNeg by omega]; assumption⟩ | exact Or.inr (Or.inl ⟨by omega, by omega⟩) | exact Or.inr (Or.inr (Or.inl ⟨by omega, by omega⟩)) | exact Or.inr (Or.inr (Or.inr (Or.inl ⟨by omega, by have c9 := i_clamp0 (x := L3_88) (by omega); rw [show (5 : Nat) = (L3_88).toNatClampNeg by omega]; assumption⟩))) | exact Or.inr (Or.inr (Or.inr (Or.inr (Or.inl ⟨by omega, by omega⟩)))) | exact Or.inr (Or.inr (Or.inr (Or.inr (Or.inr (Or.inl ⟨by omega, by have c9 := i_clamp0 (x := L3_126) (by omega); rw [show (16 : Nat) = (L3_126).toNatClampNeg by omega]; assumption⟩))))) | exact Or.inr (Or.inr (Or.inr (Or.inr (Or.inr (Or.inr (Or.inl ⟨by omega, by omega⟩)))))) | exact Or.inr (Or.inr (Or.inr (Or.inr (Or.inr (Or.inr (Or.inr ⟨by omega, by omega⟩))))))), ht⟩) (fun q h => by cases h) dX9_count_164
  ·
    have h_2 : p0.toInt = 0 ∨ p0.toInt = 1 ∨ p0.toInt = 2 ∨ p0.toInt = 3 ∨ p0.toInt = 4 ∨ p0.toInt = 5 ∨ p0.toInt = 6 := by omega
    rcases h_2 with h_2 | h_2 | h_2 | h_2 | h_2 | h_2 | h_2
    ·
      refine lv_tableIn (off := 41) (tgt := 44) hx hb dX9_count_3 (by omega) (by omega) (by rw [h_2]; decide) (by decide) ?_
      refine lv_iconst (v := 0) hx hb dX9_count_44 (by decide) ?_
      refine lv_istore_n (lv' := [(3, .int 0), (2, .int 0), (0, .ref mh), (1, .int p0)]) hx hb dX9_count_45 rfl hl (by decide) rfl (fun ls hl => ?_)
      have loop_3 : ∀ (N_5 : Nat) (L3_46 : Int32) (L2_46 : Int32)  (ls : Array Slot), 16 - L3_46.toInt < (N_5 : Int) → (0 ≤ L3_46.toInt ∧ L3_46.toInt ≤ 16 ∧ 0 ≤ L2_46.toInt ∧ L2_46.toInt ≤ L3_46.toInt) → (L2_46.toInt = cnW mf3 (L3_46).toNatClampNeg) → lv_has ls 4 [(3, .int L3_46), (2, .int L2_46), (0, .ref mh), (1, .int p0)] → W p l e (headSpec (wl yX9_count cX9_count 4 (some .int)) (RM 1 0 0)).room s m [Value.ref mh, .int p0].toArray below meth c s.heap [] 0 0 (MQ below (rd_Q (fun r => ((p0.toInt = 0 ∧ r.toInt = cnW mf3 16) ∨ (p0.toInt = 1 ∧ r.toInt = mtoday.toInt) ∨ (p0.toInt = 2 ∧ r.toInt = moffs.toInt) ∨ (p0.toInt = 3 ∧ r.toInt = cnS mf47 5) ∨ (p0.toInt = 4 ∧ r.toInt = mtaped.toInt) ∨ (p0.toInt = 5 ∧ r.toInt = cnG mf3 16) ∨ (p0.toInt = 6 ∧ r.toInt = mlisted.toInt) ∨ (¬ (0 ≤ p0.toInt ∧ p0.toInt ≤ 6) ∧ r.toInt = -1)))) [Value.ref mh, .int p0].toArray s 0 0 (fun _ => False)) (F0 m 46 ls []) := by
        intro N_5
        induction N_5 with
        | zero => intro L3_46 L2_46  ls hm v0_46 v1_46 _; exfalso; omega
        | succ N_5 ih_4 =>
          intro L3_46 L2_46 ls hm v0_46 v1_46 hl
          have lo_L3_46 := i_lo L3_46; have hi_L3_46 := i_hi L3_46
          have lo_L2_46 := i_lo L2_46; have hi_L2_46 := i_hi L2_46
          refine lv_iload_n hx hb dX9_count_46 rfl (lv_at hl 0 rfl) ?_
          refine lv_bipush (v := 16) hx hb dX9_count_47 (by decide) ?_
          refine lv_icmp_ge (tgt := 74) hx hb dX9_count_49 (by decide) (fun c_6 => ?_) (fun c_6 => ?_)
          ·
            have ic_6 : 16 ≤ L3_46.toInt := by first | exact (g_le t_16 rfl).mp c_6 | (have h := mt (g_lt rfl t_16).mpr c_6; omega)
            clear c_6
            refine lv_iload_n hx hb dX9_count_74 rfl (lv_at hl 1 rfl) ?_
            exact W.iret (v := L2_46) hx hb hr (fun t ht hW => ⟨L2_46, rfl, (by (try dsimp only); first | exact Or.inl ⟨by omega, by have c9 := i_clamp0 (x := L3_46) (by omega); rw [show (16 : Nat) = (L3_46).toNatClampNeg by omega]; assumption⟩ | exact Or.inr (Or.inl ⟨by omega, by omega⟩) | exact Or.inr (Or.inr (Or.inl ⟨by omega, by omega⟩)) | exact Or.inr (Or.inr (Or.inr (Or.inl ⟨by omega, by have c9 := i_clamp0 (x := L3_88) (by omega); rw [show (5 : Nat) = (L3_88).toNatClampNeg by omega]; assumption⟩))) | exact Or.inr (Or.inr (Or.inr (Or.inr (Or.inl ⟨by omega, by omega⟩)))) | exact Or.inr (Or.inr (Or.inr (Or.inr (Or.inr (Or.inl ⟨by omega, by have c9 := i_clamp0 (x := L3_126) (by omega); rw [show (16 : Nat) = (L3_126).toNatClampNeg by omega]; assumption⟩))))) | exact Or.inr (Or.inr (Or.inr (Or.inr (Or.inr (Or.inr (Or.inl ⟨by omega, by omega⟩)))))) | exact Or.inr (Or.inr (Or.inr (Or.inr (Or.inr (Or.inr (Or.inr ⟨by omega, by omega⟩))))))), ht⟩) (fun q h => by cases h) dX9_count_75
          ·
            have ic_6 : L3_46.toInt < 16 := by first | exact (g_lt rfl t_16).mp c_6 | (have h := mt (g_le t_16 rfl).mpr c_6; omega)
            clear c_6
            refine lv_iload_n hx hb dX9_count_52 rfl (lv_at hl 1 rfl) ?_
            refine lv_aload_n hx hb dX9_count_53 rfl (lv_at hl 2 rfl) ?_
            refine lv_iload_n hx hb dX9_count_54 rfl (lv_at hl 0 rfl) ?_
            refine callRV (rest := [.int L2_46]) (As := [.int L3_46]) hx hb hml hown htb hK (g_X9_isWatch l D E mh ma mcode mtoday moffs mmany msumW msumA msumR msumWW msumWA msumAA msumWR msumAR mupper mlower mrates mtaped mlaid mat mtk mtkAt mtkNumber mwaits mlisted mdealtMany mf3 L3_46 (by (try dsimp only); omega) (by (try dsimp only); omega)) ok_X9_isWatch k_1189 k_1191 ks_39 k_9 k_1192 ⟨(Nat.le_of_ble_eq_true rfl), (Nat.le_of_ble_eq_true rfl)⟩ ⟨(Nat.le_of_ble_eq_true rfl), (Nat.le_of_ble_eq_true rfl)⟩ hl.1 (Nat.le_of_ble_eq_true rfl) rfl rfl dX9_count_55 (hP.sub (ws' := [(mh, .inr (9, G9 ma mcode mtoday moffs mmany msumW msumA msumR msumWW msumWA msumAA msumWR msumAR mupper mlower mrates mtaped mlaid mat mtk mtkAt mtkNumber mwaits mlisted mdealtMany)), ((ma 3), .inl (E 0, 16, .inl mf3))]) [0, 1] rfl) rfl rfl 0 rfl (fun r_7 hw_8 => ?_)
            refine lv_if_eq (tgt := 65) hx hb dX9_count_58 (by decide) (fun c_10 => ?_) (fun c_10 => ?_)
            ·
              have ic_10 : r_7.toInt = 0 := (g_eq rfl t_0).mp c_10
              clear c_10
              refine lv_iconst (v := 0) hx hb dX9_count_65 (by decide) ?_
              refine lv_iadd hx hb dX9_count_66 ?_
              refine lv_topi (fun z_11 ez_11 => ?_)
              have jz_11 : z_11.toInt = L2_46.toInt + 0 := by rw [ez_11]; exact g_add rfl t_0 (by omega) (by omega)
              refine lv_istore_n (lv' := [(2, .int z_11), (3, .int L3_46), (0, .ref mh), (1, .int p0)]) hx hb dX9_count_67 rfl hl (by decide) rfl (fun ls hl => ?_)
              obtain ⟨z_12, ez_12⟩ : ∃ y : Int32, y = L3_46 + 1 := ⟨_, rfl⟩
              have jz_12 : z_12.toInt = L3_46.toInt + 1 := by rw [ez_12]; exact g_add rfl t_1 (by omega) (by omega)
              refine lv_iinc (v := z_12) (lv' := [(3, .int z_12), (2, .int z_11), (0, .ref mh), (1, .int p0)]) hx hb dX9_count_68 hl (k := 1) rfl (by rw [ez_12]; rfl) (by decide) rfl (fun ls hl => ?_)
              refine lv_goto (tgt := 46) hx hb dX9_count_71 (by decide) ?_
              exact ih_4 z_12 z_11 _ (by (try dsimp only); omega) (by (try dsimp only); omega) (by have hcl := clampS (by omega) jz_12; rw [hcl, cnW_succ]; split <;> omega) (lv_sub hl [0, 1, 2, 3] rfl)
            ·
              have ic_10 : r_7.toInt ≠ 0 := mt (g_eq rfl t_0).mpr c_10
              clear c_10
              refine lv_iconst (v := 1) hx hb dX9_count_61 (by decide) ?_
              refine lv_goto (tgt := 66) hx hb dX9_count_62 (by decide) ?_
              refine lv_iadd hx hb dX9_count_66 ?_
              refine lv_topi (fun z_13 ez_13 => ?_)
              have jz_13 : z_13.toInt = L2_46.toInt + 1 := by rw [ez_13]; exact g_add rfl t_1 (by omega) (by omega)
              refine lv_istore_n (lv' := [(2, .int z_13), (3, .int L3_46), (0, .ref mh), (1, .int p0)]) hx hb dX9_count_67 rfl hl (by decide) rfl (fun ls hl => ?_)
              obtain ⟨z_14, ez_14⟩ : ∃ y : Int32, y = L3_46 + 1 := ⟨_, rfl⟩
              have jz_14 : z_14.toInt = L3_46.toInt + 1 := by rw [ez_14]; exact g_add rfl t_1 (by omega) (by omega)
              refine lv_iinc (v := z_14) (lv' := [(3, .int z_14), (2, .int z_13), (0, .ref mh), (1, .int p0)]) hx hb dX9_count_68 hl (k := 1) rfl (by rw [ez_14]; rfl) (by decide) rfl (fun ls hl => ?_)
              refine lv_goto (tgt := 46) hx hb dX9_count_71 (by decide) ?_
              exact ih_4 z_14 z_13 _ (by (try dsimp only); omega) (by (try dsimp only); omega) (by have hcl := clampS (by omega) jz_14; rw [hcl, cnW_succ]; split <;> omega) (lv_sub hl [0, 1, 2, 3] rfl)
      exact loop_3 17 0 0 _ (by have h0 := t_0; (try dsimp only); omega) (by have h0 := t_0; (try dsimp only); omega) (by rfl)  (lv_sub hl [0, 1, 2, 3] rfl)
    ·
      refine lv_tableIn (off := 73) (tgt := 76) hx hb dX9_count_3 (by omega) (by omega) (by rw [h_2]; decide) (by decide) ?_
      refine lv_aload_n hx hb dX9_count_76 rfl (lv_at hl 1 rfl) ?_
      refine va_get (D := D) (ci := 9) (v := .int mtoday) (C := RX9) (T := TX9) (N := 68) hx hb htb iX9 hown hK.1 hP 0 rfl rfl 1 (by decide) (htb _ k_959) (fun _ h9 => h9) rfl dX9_count_77 ?_
      exact W.iret (v := mtoday) hx hb hr (fun t ht hW => ⟨mtoday, rfl, (by (try dsimp only); first | exact Or.inl ⟨by omega, by have c9 := i_clamp0 (x := L3_46) (by omega); rw [show (16 : Nat) = (L3_46).toNatClampNeg by omega]; assumption⟩ | exact Or.inr (Or.inl ⟨by omega, by omega⟩) | exact Or.inr (Or.inr (Or.inl ⟨by omega, by omega⟩)) | exact Or.inr (Or.inr (Or.inr (Or.inl ⟨by omega, by have c9 := i_clamp0 (x := L3_88) (by omega); rw [show (5 : Nat) = (L3_88).toNatClampNeg by omega]; assumption⟩))) | exact Or.inr (Or.inr (Or.inr (Or.inr (Or.inl ⟨by omega, by omega⟩)))) | exact Or.inr (Or.inr (Or.inr (Or.inr (Or.inr (Or.inl ⟨by omega, by have c9 := i_clamp0 (x := L3_126) (by omega); rw [show (16 : Nat) = (L3_126).toNatClampNeg by omega]; assumption⟩))))) | exact Or.inr (Or.inr (Or.inr (Or.inr (Or.inr (Or.inr (Or.inl ⟨by omega, by omega⟩)))))) | exact Or.inr (Or.inr (Or.inr (Or.inr (Or.inr (Or.inr (Or.inr ⟨by omega, by omega⟩))))))), ht⟩) (fun q h => by cases h) dX9_count_80
    ·
      refine lv_tableIn (off := 78) (tgt := 81) hx hb dX9_count_3 (by omega) (by omega) (by rw [h_2]; decide) (by decide) ?_
      refine lv_aload_n hx hb dX9_count_81 rfl (lv_at hl 1 rfl) ?_
      refine va_get (D := D) (ci := 9) (v := .int moffs) (C := RX9) (T := TX9) (N := 68) hx hb htb iX9 hown hK.1 hP 0 rfl rfl 11 (by decide) (htb _ k_969) (fun _ h9 => h9) rfl dX9_count_82 ?_
      exact W.iret (v := moffs) hx hb hr (fun t ht hW => ⟨moffs, rfl, (by (try dsimp only); first | exact Or.inl ⟨by omega, by have c9 := i_clamp0 (x := L3_46) (by omega); rw [show (16 : Nat) = (L3_46).toNatClampNeg by omega]; assumption⟩ | exact Or.inr (Or.inl ⟨by omega, by omega⟩) | exact Or.inr (Or.inr (Or.inl ⟨by omega, by omega⟩)) | exact Or.inr (Or.inr (Or.inr (Or.inl ⟨by omega, by have c9 := i_clamp0 (x := L3_88) (by omega); rw [show (5 : Nat) = (L3_88).toNatClampNeg by omega]; assumption⟩))) | exact Or.inr (Or.inr (Or.inr (Or.inr (Or.inl ⟨by omega, by omega⟩)))) | exact Or.inr (Or.inr (Or.inr (Or.inr (Or.inr (Or.inl ⟨by omega, by have c9 := i_clamp0 (x := L3_126) (by omega); rw [show (16 : Nat) = (L3_126).toNatClampNeg by omega]; assumption⟩))))) | exact Or.inr (Or.inr (Or.inr (Or.inr (Or.inr (Or.inr (Or.inl ⟨by omega, by omega⟩)))))) | exact Or.inr (Or.inr (Or.inr (Or.inr (Or.inr (Or.inr (Or.inr ⟨by omega, by omega⟩))))))), ht⟩) (fun q h => by cases h) dX9_count_85
    ·
      refine lv_tableIn (off := 83) (tgt := 86) hx hb dX9_count_3 (by omega) (by omega) (by rw [h_2]; decide) (by decide) ?_
      refine lv_iconst (v := 0) hx hb dX9_count_86 (by decide) ?_
      refine lv_istore_n (lv' := [(3, .int 0), (2, .int 0), (0, .ref mh), (1, .int p0)]) hx hb dX9_count_87 rfl hl (by decide) rfl (fun ls hl => ?_)
      have loop_15 : ∀ (N_17 : Nat) (L3_88 : Int32) (L2_88 : Int32)  (ls : Array Slot), 5 - L3_88.toInt < (N_17 : Int) → (0 ≤ L3_88.toInt ∧ L3_88.toInt ≤ 5 ∧ 0 ≤ L2_88.toInt ∧ L2_88.toInt ≤ L3_88.toInt) → (L2_88.toInt = cnS mf47 (L3_88).toNatClampNeg) → lv_has ls 4 [(3, .int L3_88), (2, .int L2_88), (0, .ref mh), (1, .int p0)] → W p l e (headSpec (wl yX9_count cX9_count 4 (some .int)) (RM 1 0 0)).room s m [Value.ref mh, .int p0].toArray below meth c s.heap [] 0 0 (MQ below (rd_Q (fun r => ((p0.toInt = 0 ∧ r.toInt = cnW mf3 16) ∨ (p0.toInt = 1 ∧ r.toInt = mtoday.toInt) ∨ (p0.toInt = 2 ∧ r.toInt = moffs.toInt) ∨ (p0.toInt = 3 ∧ r.toInt = cnS mf47 5) ∨ (p0.toInt = 4 ∧ r.toInt = mtaped.toInt) ∨ (p0.toInt = 5 ∧ r.toInt = cnG mf3 16) ∨ (p0.toInt = 6 ∧ r.toInt = mlisted.toInt) ∨ (¬ (0 ≤ p0.toInt ∧ p0.toInt ≤ 6) ∧ r.toInt = -1)))) [Value.ref mh, .int p0].toArray s 0 0 (fun _ => False)) (F0 m 88 ls []) := by
        intro N_17
        induction N_17 with
        | zero => intro L3_88 L2_88  ls hm v0_88 v1_88 _; exfalso; omega
        | succ N_17 ih_16 =>
          intro L3_88 L2_88 ls hm v0_88 v1_88 hl
          have lo_L3_88 := i_lo L3_88; have hi_L3_88 := i_hi L3_88
          have lo_L2_88 := i_lo L2_88; have hi_L2_88 := i_hi L2_88
          refine lv_iload_n hx hb dX9_count_88 rfl (lv_at hl 0 rfl) ?_
          refine lv_iconst (v := 5) hx hb dX9_count_89 (by decide) ?_
          refine lv_icmp_ge (tgt := 117) hx hb dX9_count_90 (by decide) (fun c_18 => ?_) (fun c_18 => ?_)
          ·
            have ic_18 : 5 ≤ L3_88.toInt := by first | exact (g_le t_5 rfl).mp c_18 | (have h := mt (g_lt rfl t_5).mpr c_18; omega)
            clear c_18
            refine lv_iload_n hx hb dX9_count_117 rfl (lv_at hl 1 rfl) ?_
            exact W.iret (v := L2_88) hx hb hr (fun t ht hW => ⟨L2_88, rfl, (by (try dsimp only); first | exact Or.inl ⟨by omega, by have c9 := i_clamp0 (x := L3_46) (by omega); rw [show (16 : Nat) = (L3_46).toNatClampNeg by omega]; assumption⟩ | exact Or.inr (Or.inl ⟨by omega, by omega⟩) | exact Or.inr (Or.inr (Or.inl ⟨by omega, by omega⟩)) | exact Or.inr (Or.inr (Or.inr (Or.inl ⟨by omega, by have c9 := i_clamp0 (x := L3_88) (by omega); rw [show (5 : Nat) = (L3_88).toNatClampNeg by omega]; assumption⟩))) | exact Or.inr (Or.inr (Or.inr (Or.inr (Or.inl ⟨by omega, by omega⟩)))) | exact Or.inr (Or.inr (Or.inr (Or.inr (Or.inr (Or.inl ⟨by omega, by have c9 := i_clamp0 (x := L3_126) (by omega); rw [show (16 : Nat) = (L3_126).toNatClampNeg by omega]; assumption⟩))))) | exact Or.inr (Or.inr (Or.inr (Or.inr (Or.inr (Or.inr (Or.inl ⟨by omega, by omega⟩)))))) | exact Or.inr (Or.inr (Or.inr (Or.inr (Or.inr (Or.inr (Or.inr ⟨by omega, by omega⟩))))))), ht⟩) (fun q h => by cases h) dX9_count_118
          ·
            have ic_18 : L3_88.toInt < 5 := by first | exact (g_lt rfl t_5).mp c_18 | (have h := mt (g_le t_5 rfl).mpr c_18; omega)
            clear c_18
            refine lv_iload_n hx hb dX9_count_93 rfl (lv_at hl 1 rfl) ?_
            refine lv_aload_n hx hb dX9_count_94 rfl (lv_at hl 2 rfl) ?_
            refine va_get (D := D) (ci := 9) (v := .ref (ma 47)) (C := RX9) (T := TX9) (N := 68) hx hb htb iX9 hown hK.1 hP 0 rfl rfl 47 (by decide) (htb _ k_1005) (fun _ h9 => h9) rfl dX9_count_95 ?_
            refine lv_iload_n hx hb dX9_count_98 rfl (lv_at hl 0 rfl) ?_
            refine va_iald hx hb hK.1 hP 2 0 rfl rfl (g_in rfl (by omega) (by omega)) dX9_count_99 ?_
            refine lv_topi (fun z_19 ez_19 => ?_)
            have kz_19 := congrArg Int32.toInt ez_19
            refine lv_iconst (v := 1) hx hb dX9_count_100 (by decide) ?_
            refine lv_icmp_ne (tgt := 108) hx hb dX9_count_101 (by decide) (fun c_20 => ?_) (fun c_20 => ?_)
            ·
              have ic_20 : z_19.toInt ≠ 1 := mt (g_eq rfl t_1).mpr c_20
              clear c_20
              refine lv_iconst (v := 0) hx hb dX9_count_108 (by decide) ?_
              refine lv_iadd hx hb dX9_count_109 ?_
              refine lv_topi (fun z_21 ez_21 => ?_)
              have jz_21 : z_21.toInt = L2_88.toInt + 0 := by rw [ez_21]; exact g_add rfl t_0 (by omega) (by omega)
              refine lv_istore_n (lv' := [(2, .int z_21), (3, .int L3_88), (0, .ref mh), (1, .int p0)]) hx hb dX9_count_110 rfl hl (by decide) rfl (fun ls hl => ?_)
              obtain ⟨z_22, ez_22⟩ : ∃ y : Int32, y = L3_88 + 1 := ⟨_, rfl⟩
              have jz_22 : z_22.toInt = L3_88.toInt + 1 := by rw [ez_22]; exact g_add rfl t_1 (by omega) (by omega)
              refine lv_iinc (v := z_22) (lv' := [(3, .int z_22), (2, .int z_21), (0, .ref mh), (1, .int p0)]) hx hb dX9_count_111 hl (k := 1) rfl (by rw [ez_22]; rfl) (by decide) rfl (fun ls hl => ?_)
              refine lv_goto (tgt := 88) hx hb dX9_count_114 (by decide) ?_
              exact ih_16 z_22 z_21 _ (by (try dsimp only); omega) (by (try dsimp only); omega) (by have hcl := clampS (by omega) jz_22; rw [hcl, cnS_succ]; split <;> omega) (lv_sub hl [0, 1, 2, 3] rfl)
            ·
              have ic_20 : z_19.toInt = 1 := (g_eq rfl t_1).mp c_20
              clear c_20
              refine lv_iconst (v := 1) hx hb dX9_count_104 (by decide) ?_
              refine lv_goto (tgt := 109) hx hb dX9_count_105 (by decide) ?_
              refine lv_iadd hx hb dX9_count_109 ?_
              refine lv_topi (fun z_23 ez_23 => ?_)
              have jz_23 : z_23.toInt = L2_88.toInt + 1 := by rw [ez_23]; exact g_add rfl t_1 (by omega) (by omega)
              refine lv_istore_n (lv' := [(2, .int z_23), (3, .int L3_88), (0, .ref mh), (1, .int p0)]) hx hb dX9_count_110 rfl hl (by decide) rfl (fun ls hl => ?_)
              obtain ⟨z_24, ez_24⟩ : ∃ y : Int32, y = L3_88 + 1 := ⟨_, rfl⟩
              have jz_24 : z_24.toInt = L3_88.toInt + 1 := by rw [ez_24]; exact g_add rfl t_1 (by omega) (by omega)
              refine lv_iinc (v := z_24) (lv' := [(3, .int z_24), (2, .int z_23), (0, .ref mh), (1, .int p0)]) hx hb dX9_count_111 hl (k := 1) rfl (by rw [ez_24]; rfl) (by decide) rfl (fun ls hl => ?_)
              refine lv_goto (tgt := 88) hx hb dX9_count_114 (by decide) ?_
              exact ih_16 z_24 z_23 _ (by (try dsimp only); omega) (by (try dsimp only); omega) (by have hcl := clampS (by omega) jz_24; rw [hcl, cnS_succ]; split <;> omega) (lv_sub hl [0, 1, 2, 3] rfl)
      exact loop_15 6 0 0 _ (by have h0 := t_0; (try dsimp only); omega) (by have h0 := t_0; (try dsimp only); omega) (by rfl)  (lv_sub hl [0, 1, 2, 3] rfl)
    ·
      refine lv_tableIn (off := 116) (tgt := 119) hx hb dX9_count_3 (by omega) (by omega) (by rw [h_2]; decide) (by decide) ?_
      refine lv_aload_n hx hb dX9_count_119 rfl (lv_at hl 1 rfl) ?_
      refine va_get (D := D) (ci := 9) (v := .int mtaped) (C := RX9) (T := TX9) (N := 68) hx hb htb iX9 hown hK.1 hP 0 rfl rfl 33 (by decide) (htb _ k_991) (fun _ h9 => h9) rfl dX9_count_120 ?_
      exact W.iret (v := mtaped) hx hb hr (fun t ht hW => ⟨mtaped, rfl, (by (try dsimp only); first | exact Or.inl ⟨by omega, by have c9 := i_clamp0 (x := L3_46) (by omega); rw [show (16 : Nat) = (L3_46).toNatClampNeg by omega]; assumption⟩ | exact Or.inr (Or.inl ⟨by omega, by omega⟩) | exact Or.inr (Or.inr (Or.inl ⟨by omega, by omega⟩)) | exact Or.inr (Or.inr (Or.inr (Or.inl ⟨by omega, by have c9 := i_clamp0 (x := L3_88) (by omega); rw [show (5 : Nat) = (L3_88).toNatClampNeg by omega]; assumption⟩))) | exact Or.inr (Or.inr (Or.inr (Or.inr (Or.inl ⟨by omega, by omega⟩)))) | exact Or.inr (Or.inr (Or.inr (Or.inr (Or.inr (Or.inl ⟨by omega, by have c9 := i_clamp0 (x := L3_126) (by omega); rw [show (16 : Nat) = (L3_126).toNatClampNeg by omega]; assumption⟩))))) | exact Or.inr (Or.inr (Or.inr (Or.inr (Or.inr (Or.inr (Or.inl ⟨by omega, by omega⟩)))))) | exact Or.inr (Or.inr (Or.inr (Or.inr (Or.inr (Or.inr (Or.inr ⟨by omega, by omega⟩))))))), ht⟩) (fun q h => by cases h) dX9_count_123
    ·
      refine lv_tableIn (off := 121) (tgt := 124) hx hb dX9_count_3 (by omega) (by omega) (by rw [h_2]; decide) (by decide) ?_
      refine lv_iconst (v := 0) hx hb dX9_count_124 (by decide) ?_
      refine lv_istore_n (lv' := [(3, .int 0), (2, .int 0), (0, .ref mh), (1, .int p0)]) hx hb dX9_count_125 rfl hl (by decide) rfl (fun ls hl => ?_)
      have loop_25 : ∀ (N_27 : Nat) (L3_126 : Int32) (L2_126 : Int32)  (ls : Array Slot), 16 - L3_126.toInt < (N_27 : Int) → (0 ≤ L3_126.toInt ∧ L3_126.toInt ≤ 16 ∧ 0 ≤ L2_126.toInt ∧ L2_126.toInt ≤ L3_126.toInt) → (L2_126.toInt = cnG mf3 (L3_126).toNatClampNeg) → lv_has ls 4 [(3, .int L3_126), (2, .int L2_126), (0, .ref mh), (1, .int p0)] → W p l e (headSpec (wl yX9_count cX9_count 4 (some .int)) (RM 1 0 0)).room s m [Value.ref mh, .int p0].toArray below meth c s.heap [] 0 0 (MQ below (rd_Q (fun r => ((p0.toInt = 0 ∧ r.toInt = cnW mf3 16) ∨ (p0.toInt = 1 ∧ r.toInt = mtoday.toInt) ∨ (p0.toInt = 2 ∧ r.toInt = moffs.toInt) ∨ (p0.toInt = 3 ∧ r.toInt = cnS mf47 5) ∨ (p0.toInt = 4 ∧ r.toInt = mtaped.toInt) ∨ (p0.toInt = 5 ∧ r.toInt = cnG mf3 16) ∨ (p0.toInt = 6 ∧ r.toInt = mlisted.toInt) ∨ (¬ (0 ≤ p0.toInt ∧ p0.toInt ≤ 6) ∧ r.toInt = -1)))) [Value.ref mh, .int p0].toArray s 0 0 (fun _ => False)) (F0 m 126 ls []) := by
        intro N_27
        induction N_27 with
        | zero => intro L3_126 L2_126  ls hm v0_126 v1_126 _; exfalso; omega
        | succ N_27 ih_26 =>
          intro L3_126 L2_126 ls hm v0_126 v1_126 hl
          have lo_L3_126 := i_lo L3_126; have hi_L3_126 := i_hi L3_126
          have lo_L2_126 := i_lo L2_126; have hi_L2_126 := i_hi L2_126
          refine lv_iload_n hx hb dX9_count_126 rfl (lv_at hl 0 rfl) ?_
          refine lv_bipush (v := 16) hx hb dX9_count_127 (by decide) ?_
          refine lv_icmp_ge (tgt := 156) hx hb dX9_count_129 (by decide) (fun c_28 => ?_) (fun c_28 => ?_)
          ·
            have ic_28 : 16 ≤ L3_126.toInt := by first | exact (g_le t_16 rfl).mp c_28 | (have h := mt (g_lt rfl t_16).mpr c_28; omega)
            clear c_28
            refine lv_iload_n hx hb dX9_count_156 rfl (lv_at hl 1 rfl) ?_
            exact W.iret (v := L2_126) hx hb hr (fun t ht hW => ⟨L2_126, rfl, (by (try dsimp only); first | exact Or.inl ⟨by omega, by have c9 := i_clamp0 (x := L3_46) (by omega); rw [show (16 : Nat) = (L3_46).toNatClampNeg by omega]; assumption⟩ | exact Or.inr (Or.inl ⟨by omega, by omega⟩) | exact Or.inr (Or.inr (Or.inl ⟨by omega, by omega⟩)) | exact Or.inr (Or.inr (Or.inr (Or.inl ⟨by omega, by have c9 := i_clamp0 (x := L3_88) (by omega); rw [show (5 : Nat) = (L3_88).toNatClampNeg by omega]; assumption⟩))) | exact Or.inr (Or.inr (Or.inr (Or.inr (Or.inl ⟨by omega, by omega⟩)))) | exact Or.inr (Or.inr (Or.inr (Or.inr (Or.inr (Or.inl ⟨by omega, by have c9 := i_clamp0 (x := L3_126) (by omega); rw [show (16 : Nat) = (L3_126).toNatClampNeg by omega]; assumption⟩))))) | exact Or.inr (Or.inr (Or.inr (Or.inr (Or.inr (Or.inr (Or.inl ⟨by omega, by omega⟩)))))) | exact Or.inr (Or.inr (Or.inr (Or.inr (Or.inr (Or.inr (Or.inr ⟨by omega, by omega⟩))))))), ht⟩) (fun q h => by cases h) dX9_count_157
          ·
            have ic_28 : L3_126.toInt < 16 := by first | exact (g_lt rfl t_16).mp c_28 | (have h := mt (g_le t_16 rfl).mpr c_28; omega)
            clear c_28
            refine lv_iload_n hx hb dX9_count_132 rfl (lv_at hl 1 rfl) ?_
            refine lv_aload_n hx hb dX9_count_133 rfl (lv_at hl 2 rfl) ?_
            refine va_get (D := D) (ci := 9) (v := .ref (ma 3)) (C := RX9) (T := TX9) (N := 68) hx hb htb iX9 hown hK.1 hP 0 rfl rfl 3 (by decide) (htb _ k_961) (fun _ h9 => h9) rfl dX9_count_134 ?_
            refine lv_iload_n hx hb dX9_count_137 rfl (lv_at hl 0 rfl) ?_
            refine va_iald hx hb hK.1 hP 1 0 rfl rfl (g_in rfl (by omega) (by omega)) dX9_count_138 ?_
            refine lv_topi (fun z_29 ez_29 => ?_)
            have kz_29 := congrArg Int32.toInt ez_29
            refine lv_iconst (v := 2) hx hb dX9_count_139 (by decide) ?_
            refine lv_icmp_ne (tgt := 147) hx hb dX9_count_140 (by decide) (fun c_30 => ?_) (fun c_30 => ?_)
            ·
              have ic_30 : z_29.toInt ≠ 2 := mt (g_eq rfl t_2).mpr c_30
              clear c_30
              refine lv_iconst (v := 0) hx hb dX9_count_147 (by decide) ?_
              refine lv_iadd hx hb dX9_count_148 ?_
              refine lv_topi (fun z_31 ez_31 => ?_)
              have jz_31 : z_31.toInt = L2_126.toInt + 0 := by rw [ez_31]; exact g_add rfl t_0 (by omega) (by omega)
              refine lv_istore_n (lv' := [(2, .int z_31), (3, .int L3_126), (0, .ref mh), (1, .int p0)]) hx hb dX9_count_149 rfl hl (by decide) rfl (fun ls hl => ?_)
              obtain ⟨z_32, ez_32⟩ : ∃ y : Int32, y = L3_126 + 1 := ⟨_, rfl⟩
              have jz_32 : z_32.toInt = L3_126.toInt + 1 := by rw [ez_32]; exact g_add rfl t_1 (by omega) (by omega)
              refine lv_iinc (v := z_32) (lv' := [(3, .int z_32), (2, .int z_31), (0, .ref mh), (1, .int p0)]) hx hb dX9_count_150 hl (k := 1) rfl (by rw [ez_32]; rfl) (by decide) rfl (fun ls hl => ?_)
              refine lv_goto (tgt := 126) hx hb dX9_count_153 (by decide) ?_
              exact ih_26 z_32 z_31 _ (by (try dsimp only); omega) (by (try dsimp only); omega) (by have hcl := clampS (by omega) jz_32; rw [hcl, cnG_succ]; split <;> omega) (lv_sub hl [0, 1, 2, 3] rfl)
            ·
              have ic_30 : z_29.toInt = 2 := (g_eq rfl t_2).mp c_30
              clear c_30
              refine lv_iconst (v := 1) hx hb dX9_count_143 (by decide) ?_
              refine lv_goto (tgt := 148) hx hb dX9_count_144 (by decide) ?_
              refine lv_iadd hx hb dX9_count_148 ?_
              refine lv_topi (fun z_33 ez_33 => ?_)
              have jz_33 : z_33.toInt = L2_126.toInt + 1 := by rw [ez_33]; exact g_add rfl t_1 (by omega) (by omega)
              refine lv_istore_n (lv' := [(2, .int z_33), (3, .int L3_126), (0, .ref mh), (1, .int p0)]) hx hb dX9_count_149 rfl hl (by decide) rfl (fun ls hl => ?_)
              obtain ⟨z_34, ez_34⟩ : ∃ y : Int32, y = L3_126 + 1 := ⟨_, rfl⟩
              have jz_34 : z_34.toInt = L3_126.toInt + 1 := by rw [ez_34]; exact g_add rfl t_1 (by omega) (by omega)
              refine lv_iinc (v := z_34) (lv' := [(3, .int z_34), (2, .int z_33), (0, .ref mh), (1, .int p0)]) hx hb dX9_count_150 hl (k := 1) rfl (by rw [ez_34]; rfl) (by decide) rfl (fun ls hl => ?_)
              refine lv_goto (tgt := 126) hx hb dX9_count_153 (by decide) ?_
              exact ih_26 z_34 z_33 _ (by (try dsimp only); omega) (by (try dsimp only); omega) (by have hcl := clampS (by omega) jz_34; rw [hcl, cnG_succ]; split <;> omega) (lv_sub hl [0, 1, 2, 3] rfl)
      exact loop_25 17 0 0 _ (by have h0 := t_0; (try dsimp only); omega) (by have h0 := t_0; (try dsimp only); omega) (by rfl)  (lv_sub hl [0, 1, 2, 3] rfl)
    ·
      refine lv_tableIn (off := 155) (tgt := 158) hx hb dX9_count_3 (by omega) (by omega) (by rw [h_2]; decide) (by decide) ?_
      refine lv_aload_n hx hb dX9_count_158 rfl (lv_at hl 1 rfl) ?_
      refine va_get (D := D) (ci := 9) (v := .int mlisted) (C := RX9) (T := TX9) (N := 68) hx hb htb iX9 hown hK.1 hP 0 rfl rfl 61 (by decide) (htb _ k_1019) (fun _ h9 => h9) rfl dX9_count_159 ?_
      exact W.iret (v := mlisted) hx hb hr (fun t ht hW => ⟨mlisted, rfl, (by (try dsimp only); first | exact Or.inl ⟨by omega, by have c9 := i_clamp0 (x := L3_46) (by omega); rw [show (16 : Nat) = (L3_46).toNatClampNeg by omega]; assumption⟩ | exact Or.inr (Or.inl ⟨by omega, by omega⟩) | exact Or.inr (Or.inr (Or.inl ⟨by omega, by omega⟩)) | exact Or.inr (Or.inr (Or.inr (Or.inl ⟨by omega, by have c9 := i_clamp0 (x := L3_88) (by omega); rw [show (5 : Nat) = (L3_88).toNatClampNeg by omega]; assumption⟩))) | exact Or.inr (Or.inr (Or.inr (Or.inr (Or.inl ⟨by omega, by omega⟩)))) | exact Or.inr (Or.inr (Or.inr (Or.inr (Or.inr (Or.inl ⟨by omega, by have c9 := i_clamp0 (x := L3_126) (by omega); rw [show (16 : Nat) = (L3_126).toNatClampNeg by omega]; assumption⟩))))) | exact Or.inr (Or.inr (Or.inr (Or.inr (Or.inr (Or.inr (Or.inl ⟨by omega, by omega⟩)))))) | exact Or.inr (Or.inr (Or.inr (Or.inr (Or.inr (Or.inr (Or.inr ⟨by omega, by omega⟩))))))), ht⟩) (fun q h => by cases h) dX9_count_162
set_option maxHeartbeats 4000000 in
set_option maxRecDepth 100000 in
theorem g_X9_carried (l : Launch) (D : va_G) (E : Nat → Nat) (mh : Nat) (ma : Nat → Nat) (mcode : Int32) (mtoday : Int32) (moffs : Int32) (mmany : Int64) (msumW : Int64) (msumA : Int64) (msumR : Int64) (msumWW : Int64) (msumWA : Int64) (msumAA : Int64) (msumWR : Int64) (msumAR : Int64) (mupper : Int64) (mlower : Int64) (mrates : Int32) (mtaped : Int32) (mlaid : Int32) (mat : Int32) (mtk : Int32) (mtkAt : Int32) (mtkNumber : Int32) (mwaits : Int32) (mlisted : Int32) (mdealtMany : Int32) (mf47 : Nat → Int32) (mf50 : Nat → Int32) (mf51 : Nat → Int32) (mf52 : Nat → Int32) (mf53 : Nat → Int32) (p0 : Int32) (p1 : Int32) (p2 : Int32) (hi_m : (0 ≤ mtoday.toInt ∧ mtoday.toInt ≤ 399) ∧ (0 ≤ moffs.toInt ∧ moffs.toInt ≤ 60) ∧ (0 ≤ mrates.toInt ∧ mrates.toInt ≤ 60) ∧ (0 ≤ mtaped.toInt ∧ mtaped.toInt ≤ 120) ∧ (0 ≤ mlisted.toInt ∧ mlisted.toInt ≤ 9) ∧ (0 ≤ mdealtMany.toInt ∧ mdealtMany.toInt ≤ 9)) (hr_m50 : ∀ k : Nat, k < 15 → 0 ≤ (mf50 k).toInt ∧ (mf50 k).toInt ≤ 15) : Met l yX9_carried (wl yX9_carried cX9_carried 5 (some .int)) (RM 2 0 0) (rd_P D E [.ref mh, .int p0, .int p1, .int p2] [(mh, .inr (9, G9 ma mcode mtoday moffs mmany msumW msumA msumR msumWW msumWA msumAA msumWR msumAR mupper mlower mrates mtaped mlaid mat mtk mtkAt mtkNumber mwaits mlisted mdealtMany)), ((ma 47), .inl (E 0, 5, .inl mf47)), ((ma 50), .inl (E 0, 15, .inl mf50)), ((ma 51), .inl (E 0, 15, .inl mf51)), ((ma 52), .inl (E 0, 15, .inl mf52)), ((ma 53), .inl (E 0, 15, .inl mf53))]) (rd_Q (fun r => ((((0 ≤ p0.toInt ∧ p0.toInt ≤ 4) ∧ (0 ≤ p1.toInt ∧ p1.toInt ≤ 2) ∧ (mf47 (p0).toNatClampNeg).toInt ≠ 0) ∧ p2.toInt = 0 ∧ r = mf50 (3 * p0 + p1).toNatClampNeg) ∨ (((0 ≤ p0.toInt ∧ p0.toInt ≤ 4) ∧ (0 ≤ p1.toInt ∧ p1.toInt ≤ 2) ∧ (mf47 (p0).toNatClampNeg).toInt ≠ 0) ∧ p2.toInt = 1 ∧ r = mf51 (3 * p0 + p1).toNatClampNeg) ∨ (((0 ≤ p0.toInt ∧ p0.toInt ≤ 4) ∧ (0 ≤ p1.toInt ∧ p1.toInt ≤ 2) ∧ (mf47 (p0).toNatClampNeg).toInt ≠ 0) ∧ p2.toInt = 2 ∧ r = mf52 (3 * p0 + p1).toNatClampNeg) ∨ (((0 ≤ p0.toInt ∧ p0.toInt ≤ 4) ∧ (0 ≤ p1.toInt ∧ p1.toInt ≤ 2) ∧ (mf47 (p0).toNatClampNeg).toInt ≠ 0) ∧ p2.toInt = 3 ∧ r = mf53 (3 * p0 + p1).toNatClampNeg) ∨ (¬ (((0 ≤ p0.toInt ∧ p0.toInt ≤ 4) ∧ (0 ≤ p1.toInt ∧ p1.toInt ≤ 2) ∧ (mf47 (p0).toNatClampNeg).toInt ≠ 0) ∧ (0 ≤ p2.toInt ∧ p2.toInt ≤ 3)) ∧ r.toInt = -2000000000)))) 0 0 (fun _ => False) := by
  refine Met.ofW (cc := cX9_carried) (maxL := 5) (ret := (some .int)) (by decide) rfl ?_
  intro p e s m args below meth c s₁ B hml hv
  obtain ⟨rfl, hP, hK⟩ := hv
  have hx := B.exec; have hb := B.bytes; have hr := B.returns
  have hts := atoms_spec (ws := wl yX9_carried cX9_carried 5 (some .int)) B.pre
  have htb : ∀ w ∈ tb, w.before _ s = true := fun w h => hts w (List.mem_cons_of_mem _ h)
  have hown : s.vm.findClass RX9 = some m.cls := findClass_of_methodNamed B.named
  have hlocks := B.notSynchronized
  have hP : va_P D vwCl [(mh, .inr (9, G9 ma mcode mtoday moffs mmany msumW msumA msumR msumWW msumWA msumAA msumWR msumAR mupper mlower mrates mtaped mlaid mat mtk mtkAt mtkNumber mwaits mlisted mdealtMany)), ((ma 47), .inl (E 0, 5, .inl mf47)), ((ma 50), .inl (E 0, 15, .inl mf50)), ((ma 51), .inl (E 0, 15, .inl mf51)), ((ma 52), .inl (E 0, 15, .inl mf52)), ((ma 53), .inl (E 0, 15, .inl mf53))] s.heap := hP
  have hl := lv_entry ([.ref mh, .int p0, .int p1, .int p2]) (n := 5) (Nat.le_of_ble_eq_true rfl)
  rw [lg_entry_eq]
  generalize (lg_sl ([.ref mh, .int p0, .int p1, .int p2]) ++ List.replicate (5 - (lg_sl ([.ref mh, .int p0, .int p1, .int p2])).length) Slot.unset).toArray = ls at hl ⊢
  have hl : lv_has ls 5 [(0, .ref mh), (1, .int p0), (2, .int p1), (3, .int p2)] := hl
  have lo_p0 := i_lo p0; have hi_p0 := i_hi p0
  have lo_p1 := i_lo p1; have hi_p1 := i_hi p1
  have lo_p2 := i_lo p2; have hi_p2 := i_hi p2
  refine lv_iload_n hx hb dX9_carried_0 rfl (lv_at hl 1 rfl) ?_
  refine callRS (rest := []) (As := [.int p0]) hx hb hml hown htb hK (g_X9_isShip l D E p0 ) ok_X9_isShip k_1414 k_1415 k_9 k_1416 ⟨(Nat.le_of_ble_eq_true rfl), (Nat.le_of_ble_eq_true rfl)⟩ ⟨(Nat.le_of_ble_eq_true rfl), (Nat.le_of_ble_eq_true rfl)⟩ hl.1 (Nat.le_of_ble_eq_true rfl) rfl rfl dX9_carried_1 (hP.sub (ws' := ([] : va_W)) [] rfl) (fun r_1 hw_2 => ?_)
  rcases hw_2 with ⟨hr_1, hw_2⟩ | ⟨hr_1, hw_2⟩
  ·
    refine W_top (y := .int 1) (by rw [hr_1]) ?_
    refine lv_if_eq (tgt := 25) hx hb dX9_carried_4 (by decide) (fun c_4 => absurd c_4 (by decide)) (fun c_4 => ?_)
    refine lv_iload_n hx hb dX9_carried_7 rfl (lv_at hl 2 rfl) ?_
    refine lv_iconst (v := 0) hx hb dX9_carried_8 (by decide) ?_
    refine lv_iconst (v := 2) hx hb dX9_carried_9 (by decide) ?_
    refine callRS (rest := []) (As := [.int p1, .int 0, .int 2]) hx hb hml hown htb hK (g_X9_in l D E p1 0 2 ) ok_X9_in k_1168 k_1169 k_9 k_1170 ⟨(Nat.le_of_ble_eq_true rfl), (Nat.le_of_ble_eq_true rfl)⟩ ⟨(Nat.le_of_ble_eq_true rfl), (Nat.le_of_ble_eq_true rfl)⟩ hl.1 (Nat.le_of_ble_eq_true rfl) rfl rfl dX9_carried_10 (hP.sub (ws' := ([] : va_W)) [] rfl) (fun r_5 hw_6 => ?_)
    try simp only [t_0, t_2] at hw_6
    rcases hw_6 with ⟨hr_5, hw_6⟩ | ⟨hr_5, hw_6⟩
    ·
      try simp only [t_0, t_2] at hw_6
      refine W_top (y := .int 1) (by rw [hr_5]) ?_
      refine lv_if_eq (tgt := 25) hx hb dX9_carried_13 (by decide) (fun c_8 => absurd c_8 (by decide)) (fun c_8 => ?_)
      refine lv_aload_n hx hb dX9_carried_16 rfl (lv_at hl 0 rfl) ?_
      refine va_get (D := D) (ci := 9) (v := .ref (ma 47)) (C := RX9) (T := TX9) (N := 68) hx hb htb iX9 hown hK.1 hP 0 rfl rfl 47 (by decide) (htb _ k_1005) (fun _ h9 => h9) rfl dX9_carried_17 ?_
      refine lv_iload_n hx hb dX9_carried_20 rfl (lv_at hl 1 rfl) ?_
      refine va_iald hx hb hK.1 hP 1 0 rfl rfl (g_in rfl (by omega) (by omega)) dX9_carried_21 ?_
      refine lv_topi (fun z_9 ez_9 => ?_)
      have kz_9 := congrArg Int32.toInt ez_9
      refine lv_if_ne (tgt := 28) hx hb dX9_carried_22 (by decide) (fun c_10 => ?_) (fun c_10 => ?_)
      ·
        have ic_10 : z_9.toInt ≠ 0 := mt (g_eq rfl t_0).mpr c_10
        clear c_10
        refine lv_iconst (v := 3) hx hb dX9_carried_28 (by decide) ?_
        refine lv_iload_n hx hb dX9_carried_29 rfl (lv_at hl 1 rfl) ?_
        refine lv_imul hx hb dX9_carried_30 ?_
        refine lv_topi (fun z_11 ez_11 => ?_)
        have jz_11 : z_11.toInt = 3 * p0.toInt := by rw [ez_11]; exact g_mul t_3 rfl (by omega) (by omega)
        refine lv_iload_n hx hb dX9_carried_31 rfl (lv_at hl 2 rfl) ?_
        refine lv_iadd hx hb dX9_carried_32 ?_
        refine lv_topi (fun z_12 ez_12 => ?_)
        have jz_12 : z_12.toInt = z_11.toInt + p1.toInt := by rw [ez_12]; exact g_add rfl rfl (by omega) (by omega)
        refine lv_istore (lv' := [(4, .int z_12), (0, .ref mh), (1, .int p0), (2, .int p1), (3, .int p2)]) hx hb dX9_carried_33 hl (by decide) rfl (fun ls hl => ?_)
        refine lv_iload_n hx hb dX9_carried_35 rfl (lv_at hl 4 rfl) ?_
        by_cases h_13 : p2.toInt < 0 ∨ 3 < p2.toInt
        ·
          refine lv_tableOut (tgt := 100) hx hb dX9_carried_36 h_13 (by decide) ?_
          refine lv_ldc hx hb hown (htb _ k_1205) dX9_carried_100 ?_
          exact W.iret (v := (-2000000000)) hx hb hr (fun t ht hW => ⟨(-2000000000), rfl, (by have hl0 := t_m2000000000; (try dsimp only); first | exact Or.inl ⟨by omega, by omega, by subst_vars; rfl⟩ | exact Or.inr (Or.inl ⟨by omega, by omega, by subst_vars; rfl⟩) | exact Or.inr (Or.inr (Or.inl ⟨by omega, by omega, by subst_vars; rfl⟩)) | exact Or.inr (Or.inr (Or.inr (Or.inl ⟨by omega, by omega, by subst_vars; rfl⟩))) | exact Or.inr (Or.inr (Or.inr (Or.inr ⟨by omega, by omega⟩)))), ht⟩) (fun q h => by cases h) dX9_carried_102
        ·
          have h_14 : p2.toInt = 0 ∨ p2.toInt = 1 ∨ p2.toInt = 2 ∨ p2.toInt = 3 := by omega
          rcases h_14 with h_14 | h_14 | h_14 | h_14
          ·
            refine lv_tableIn (off := 32) (tgt := 68) hx hb dX9_carried_36 (by omega) (by omega) (by rw [h_14]; decide) (by decide) ?_
            refine lv_aload_n hx hb dX9_carried_68 rfl (lv_at hl 1 rfl) ?_
            refine va_get (D := D) (ci := 9) (v := .ref (ma 50)) (C := RX9) (T := TX9) (N := 68) hx hb htb iX9 hown hK.1 hP 0 rfl rfl 50 (by decide) (htb _ k_1008) (fun _ h9 => h9) rfl dX9_carried_69 ?_
            refine lv_iload hx hb dX9_carried_72 (lv_at hl 0 rfl) ?_
            refine va_iald hx hb hK.1 hP 2 0 rfl rfl (g_in rfl (by omega) (by omega)) dX9_carried_74 ?_
            refine lv_topi (fun z_15 ez_15 => ?_)
            have kz_15 := congrArg Int32.toInt ez_15
            have jz_15 : 0 ≤ z_15.toInt ∧ z_15.toInt ≤ 15 := by rw [ez_15]; exact hr_m50 _ (g_ix rfl (by omega) (by omega))
            exact W.iret (v := z_15) hx hb hr (fun t ht hW => ⟨z_15, rfl, (by (try dsimp only); first | exact Or.inl ⟨by omega, by omega, by subst_vars; rfl⟩ | exact Or.inr (Or.inl ⟨by omega, by omega, by subst_vars; rfl⟩) | exact Or.inr (Or.inr (Or.inl ⟨by omega, by omega, by subst_vars; rfl⟩)) | exact Or.inr (Or.inr (Or.inr (Or.inl ⟨by omega, by omega, by subst_vars; rfl⟩))) | exact Or.inr (Or.inr (Or.inr (Or.inr ⟨by omega, by omega⟩)))), ht⟩) (fun q h => by cases h) dX9_carried_75
          ·
            refine lv_tableIn (off := 40) (tgt := 76) hx hb dX9_carried_36 (by omega) (by omega) (by rw [h_14]; decide) (by decide) ?_
            refine lv_aload_n hx hb dX9_carried_76 rfl (lv_at hl 1 rfl) ?_
            refine va_get (D := D) (ci := 9) (v := .ref (ma 51)) (C := RX9) (T := TX9) (N := 68) hx hb htb iX9 hown hK.1 hP 0 rfl rfl 51 (by decide) (htb _ k_1009) (fun _ h9 => h9) rfl dX9_carried_77 ?_
            refine lv_iload hx hb dX9_carried_80 (lv_at hl 0 rfl) ?_
            refine va_iald hx hb hK.1 hP 3 0 rfl rfl (g_in rfl (by omega) (by omega)) dX9_carried_82 ?_
            refine lv_topi (fun z_16 ez_16 => ?_)
            have kz_16 := congrArg Int32.toInt ez_16
            exact W.iret (v := z_16) hx hb hr (fun t ht hW => ⟨z_16, rfl, (by (try dsimp only); first | exact Or.inl ⟨by omega, by omega, by subst_vars; rfl⟩ | exact Or.inr (Or.inl ⟨by omega, by omega, by subst_vars; rfl⟩) | exact Or.inr (Or.inr (Or.inl ⟨by omega, by omega, by subst_vars; rfl⟩)) | exact Or.inr (Or.inr (Or.inr (Or.inl ⟨by omega, by omega, by subst_vars; rfl⟩))) | exact Or.inr (Or.inr (Or.inr (Or.inr ⟨by omega, by omega⟩)))), ht⟩) (fun q h => by cases h) dX9_carried_83
          ·
            refine lv_tableIn (off := 48) (tgt := 84) hx hb dX9_carried_36 (by omega) (by omega) (by rw [h_14]; decide) (by decide) ?_
            refine lv_aload_n hx hb dX9_carried_84 rfl (lv_at hl 1 rfl) ?_
            refine va_get (D := D) (ci := 9) (v := .ref (ma 52)) (C := RX9) (T := TX9) (N := 68) hx hb htb iX9 hown hK.1 hP 0 rfl rfl 52 (by decide) (htb _ k_1010) (fun _ h9 => h9) rfl dX9_carried_85 ?_
            refine lv_iload hx hb dX9_carried_88 (lv_at hl 0 rfl) ?_
            refine va_iald hx hb hK.1 hP 4 0 rfl rfl (g_in rfl (by omega) (by omega)) dX9_carried_90 ?_
            refine lv_topi (fun z_17 ez_17 => ?_)
            have kz_17 := congrArg Int32.toInt ez_17
            exact W.iret (v := z_17) hx hb hr (fun t ht hW => ⟨z_17, rfl, (by (try dsimp only); first | exact Or.inl ⟨by omega, by omega, by subst_vars; rfl⟩ | exact Or.inr (Or.inl ⟨by omega, by omega, by subst_vars; rfl⟩) | exact Or.inr (Or.inr (Or.inl ⟨by omega, by omega, by subst_vars; rfl⟩)) | exact Or.inr (Or.inr (Or.inr (Or.inl ⟨by omega, by omega, by subst_vars; rfl⟩))) | exact Or.inr (Or.inr (Or.inr (Or.inr ⟨by omega, by omega⟩)))), ht⟩) (fun q h => by cases h) dX9_carried_91
          ·
            refine lv_tableIn (off := 56) (tgt := 92) hx hb dX9_carried_36 (by omega) (by omega) (by rw [h_14]; decide) (by decide) ?_
            refine lv_aload_n hx hb dX9_carried_92 rfl (lv_at hl 1 rfl) ?_
            refine va_get (D := D) (ci := 9) (v := .ref (ma 53)) (C := RX9) (T := TX9) (N := 68) hx hb htb iX9 hown hK.1 hP 0 rfl rfl 53 (by decide) (htb _ k_1011) (fun _ h9 => h9) rfl dX9_carried_93 ?_
            refine lv_iload hx hb dX9_carried_96 (lv_at hl 0 rfl) ?_
            refine va_iald hx hb hK.1 hP 5 0 rfl rfl (g_in rfl (by omega) (by omega)) dX9_carried_98 ?_
            refine lv_topi (fun z_18 ez_18 => ?_)
            have kz_18 := congrArg Int32.toInt ez_18
            exact W.iret (v := z_18) hx hb hr (fun t ht hW => ⟨z_18, rfl, (by (try dsimp only); first | exact Or.inl ⟨by omega, by omega, by subst_vars; rfl⟩ | exact Or.inr (Or.inl ⟨by omega, by omega, by subst_vars; rfl⟩) | exact Or.inr (Or.inr (Or.inl ⟨by omega, by omega, by subst_vars; rfl⟩)) | exact Or.inr (Or.inr (Or.inr (Or.inl ⟨by omega, by omega, by subst_vars; rfl⟩))) | exact Or.inr (Or.inr (Or.inr (Or.inr ⟨by omega, by omega⟩)))), ht⟩) (fun q h => by cases h) dX9_carried_99
      ·
        have ic_10 : z_9.toInt = 0 := (g_eq rfl t_0).mp c_10
        clear c_10
        refine lv_ldc hx hb hown (htb _ k_1205) dX9_carried_25 ?_
        exact W.iret (v := (-2000000000)) hx hb hr (fun t ht hW => ⟨(-2000000000), rfl, (by have hl0 := t_m2000000000; (try dsimp only); first | exact Or.inl ⟨by omega, by omega, by subst_vars; rfl⟩ | exact Or.inr (Or.inl ⟨by omega, by omega, by subst_vars; rfl⟩) | exact Or.inr (Or.inr (Or.inl ⟨by omega, by omega, by subst_vars; rfl⟩)) | exact Or.inr (Or.inr (Or.inr (Or.inl ⟨by omega, by omega, by subst_vars; rfl⟩))) | exact Or.inr (Or.inr (Or.inr (Or.inr ⟨by omega, by omega⟩)))), ht⟩) (fun q h => by cases h) dX9_carried_27
    ·
      try simp only [t_0, t_2] at hw_6
      refine W_top (y := .int 0) (by rw [hr_5]) ?_
      refine lv_if_eq (tgt := 25) hx hb dX9_carried_13 (by decide) (fun c_19 => ?_) (fun c_19 => absurd (by decide) c_19)
      refine lv_ldc hx hb hown (htb _ k_1205) dX9_carried_25 ?_
      exact W.iret (v := (-2000000000)) hx hb hr (fun t ht hW => ⟨(-2000000000), rfl, (by have hl0 := t_m2000000000; (try dsimp only); first | exact Or.inl ⟨by omega, by omega, by subst_vars; rfl⟩ | exact Or.inr (Or.inl ⟨by omega, by omega, by subst_vars; rfl⟩) | exact Or.inr (Or.inr (Or.inl ⟨by omega, by omega, by subst_vars; rfl⟩)) | exact Or.inr (Or.inr (Or.inr (Or.inl ⟨by omega, by omega, by subst_vars; rfl⟩))) | exact Or.inr (Or.inr (Or.inr (Or.inr ⟨by omega, by omega⟩)))), ht⟩) (fun q h => by cases h) dX9_carried_27
  ·
    refine W_top (y := .int 0) (by rw [hr_1]) ?_
    refine lv_if_eq (tgt := 25) hx hb dX9_carried_4 (by decide) (fun c_20 => ?_) (fun c_20 => absurd (by decide) c_20)
    refine lv_ldc hx hb hown (htb _ k_1205) dX9_carried_25 ?_
    exact W.iret (v := (-2000000000)) hx hb hr (fun t ht hW => ⟨(-2000000000), rfl, (by have hl0 := t_m2000000000; (try dsimp only); first | exact Or.inl ⟨by omega, by omega, by subst_vars; rfl⟩ | exact Or.inr (Or.inl ⟨by omega, by omega, by subst_vars; rfl⟩) | exact Or.inr (Or.inr (Or.inl ⟨by omega, by omega, by subst_vars; rfl⟩)) | exact Or.inr (Or.inr (Or.inr (Or.inl ⟨by omega, by omega, by subst_vars; rfl⟩))) | exact Or.inr (Or.inr (Or.inr (Or.inr ⟨by omega, by omega⟩)))), ht⟩) (fun q h => by cases h) dX9_carried_27
set_option maxHeartbeats 4000000 in
set_option maxRecDepth 100000 in
theorem g_X9_state (l : Launch) (D : va_G) (E : Nat → Nat) (mh : Nat) (ma : Nat → Nat) (mcode : Int32) (mtoday : Int32) (moffs : Int32) (mmany : Int64) (msumW : Int64) (msumA : Int64) (msumR : Int64) (msumWW : Int64) (msumWA : Int64) (msumAA : Int64) (msumWR : Int64) (msumAR : Int64) (mupper : Int64) (mlower : Int64) (mrates : Int32) (mtaped : Int32) (mlaid : Int32) (mat : Int32) (mtk : Int32) (mtkAt : Int32) (mtkNumber : Int32) (mwaits : Int32) (mlisted : Int32) (mdealtMany : Int32) (mf47 : Nat → Int32) (p0 : Int32) (hi_m : (0 ≤ mtoday.toInt ∧ mtoday.toInt ≤ 399) ∧ (0 ≤ moffs.toInt ∧ moffs.toInt ≤ 60) ∧ (0 ≤ mrates.toInt ∧ mrates.toInt ≤ 60) ∧ (0 ≤ mtaped.toInt ∧ mtaped.toInt ≤ 120) ∧ (0 ≤ mlisted.toInt ∧ mlisted.toInt ≤ 9) ∧ (0 ≤ mdealtMany.toInt ∧ mdealtMany.toInt ≤ 9)) : Met l yX9_state (wl yX9_state cX9_state 2 (some .int)) (RM 2 0 0) (rd_P D E [.ref mh, .int p0] [(mh, .inr (9, G9 ma mcode mtoday moffs mmany msumW msumA msumR msumWW msumWA msumAA msumWR msumAR mupper mlower mrates mtaped mlaid mat mtk mtkAt mtkNumber mwaits mlisted mdealtMany)), ((ma 47), .inl (E 0, 5, .inl mf47))]) (rd_Q (fun r => (((0 ≤ p0.toInt ∧ p0.toInt ≤ 4) ∧ r = mf47 (p0).toNatClampNeg) ∨ (¬ (0 ≤ p0.toInt ∧ p0.toInt ≤ 4) ∧ r.toInt = -1)))) 0 0 (fun _ => False) := by
  refine Met.ofW (cc := cX9_state) (maxL := 2) (ret := (some .int)) (by decide) rfl ?_
  intro p e s m args below meth c s₁ B hml hv
  obtain ⟨rfl, hP, hK⟩ := hv
  have hx := B.exec; have hb := B.bytes; have hr := B.returns
  have hts := atoms_spec (ws := wl yX9_state cX9_state 2 (some .int)) B.pre
  have htb : ∀ w ∈ tb, w.before _ s = true := fun w h => hts w (List.mem_cons_of_mem _ h)
  have hown : s.vm.findClass RX9 = some m.cls := findClass_of_methodNamed B.named
  have hlocks := B.notSynchronized
  have hP : va_P D vwCl [(mh, .inr (9, G9 ma mcode mtoday moffs mmany msumW msumA msumR msumWW msumWA msumAA msumWR msumAR mupper mlower mrates mtaped mlaid mat mtk mtkAt mtkNumber mwaits mlisted mdealtMany)), ((ma 47), .inl (E 0, 5, .inl mf47))] s.heap := hP
  have hl := lv_entry ([.ref mh, .int p0]) (n := 2) (Nat.le_of_ble_eq_true rfl)
  rw [lg_entry_eq]
  generalize (lg_sl ([.ref mh, .int p0]) ++ List.replicate (2 - (lg_sl ([.ref mh, .int p0])).length) Slot.unset).toArray = ls at hl ⊢
  have hl : lv_has ls 2 [(0, .ref mh), (1, .int p0)] := hl
  have lo_p0 := i_lo p0; have hi_p0 := i_hi p0
  refine lv_iload_n hx hb dX9_state_0 rfl (lv_at hl 1 rfl) ?_
  refine callRS (rest := []) (As := [.int p0]) hx hb hml hown htb hK (g_X9_isShip l D E p0 ) ok_X9_isShip k_1414 k_1415 k_9 k_1416 ⟨(Nat.le_of_ble_eq_true rfl), (Nat.le_of_ble_eq_true rfl)⟩ ⟨(Nat.le_of_ble_eq_true rfl), (Nat.le_of_ble_eq_true rfl)⟩ hl.1 (Nat.le_of_ble_eq_true rfl) rfl rfl dX9_state_1 (hP.sub (ws' := ([] : va_W)) [] rfl) (fun r_1 hw_2 => ?_)
  rcases hw_2 with ⟨hr_1, hw_2⟩ | ⟨hr_1, hw_2⟩
  ·
    refine W_top (y := .int 1) (by rw [hr_1]) ?_
    refine lv_if_eq (tgt := 16) hx hb dX9_state_4 (by decide) (fun c_4 => absurd c_4 (by decide)) (fun c_4 => ?_)
    refine lv_aload_n hx hb dX9_state_7 rfl (lv_at hl 0 rfl) ?_
    refine va_get (D := D) (ci := 9) (v := .ref (ma 47)) (C := RX9) (T := TX9) (N := 68) hx hb htb iX9 hown hK.1 hP 0 rfl rfl 47 (by decide) (htb _ k_1005) (fun _ h9 => h9) rfl dX9_state_8 ?_
    refine lv_iload_n hx hb dX9_state_11 rfl (lv_at hl 1 rfl) ?_
    refine va_iald hx hb hK.1 hP 1 0 rfl rfl (g_in rfl (by omega) (by omega)) dX9_state_12 ?_
    refine lv_topi (fun z_5 ez_5 => ?_)
    have kz_5 := congrArg Int32.toInt ez_5
    refine lv_goto (tgt := 17) hx hb dX9_state_13 (by decide) ?_
    exact W.iret (v := z_5) hx hb hr (fun t ht hW => ⟨z_5, rfl, (by (try dsimp only); first | exact Or.inl ⟨by omega, by subst_vars; rfl⟩ | exact Or.inr ⟨by omega, by omega⟩), ht⟩) (fun q h => by cases h) dX9_state_17
  ·
    refine W_top (y := .int 0) (by rw [hr_1]) ?_
    refine lv_if_eq (tgt := 16) hx hb dX9_state_4 (by decide) (fun c_6 => ?_) (fun c_6 => absurd (by decide) c_6)
    refine lv_iconst (v := (-1)) hx hb dX9_state_16 (by decide) ?_
    exact W.iret (v := (-1)) hx hb hr (fun t ht hW => ⟨(-1), rfl, (by have hl0 := t_m1; (try dsimp only); first | exact Or.inl ⟨by omega, by subst_vars; rfl⟩ | exact Or.inr ⟨by omega, by omega⟩), ht⟩) (fun q h => by cases h) dX9_state_17
set_option maxHeartbeats 4000000 in
set_option maxRecDepth 100000 in
theorem g_X9_sight (l : Launch) (D : va_G) (E : Nat → Nat) (mh : Nat) (ma : Nat → Nat) (mcode : Int32) (mtoday : Int32) (moffs : Int32) (mmany : Int64) (msumW : Int64) (msumA : Int64) (msumR : Int64) (msumWW : Int64) (msumWA : Int64) (msumAA : Int64) (msumWR : Int64) (msumAR : Int64) (mupper : Int64) (mlower : Int64) (mrates : Int32) (mtaped : Int32) (mlaid : Int32) (mat : Int32) (mtk : Int32) (mtkAt : Int32) (mtkNumber : Int32) (mwaits : Int32) (mlisted : Int32) (mdealtMany : Int32) (mf47 : Nat → Int32) (mf48 : Nat → Int32) (mf55 : Nat → Int32) (mf56 : Nat → Int32) (mf57 : Nat → Int32) (p0 : Int32) (p1 : Int32) (p2 : Int32) (p3 : Int32) (p4 : Int32) (sz : Nat) (hi_m : (0 ≤ mtoday.toInt ∧ mtoday.toInt ≤ 399) ∧ (0 ≤ moffs.toInt ∧ moffs.toInt ≤ 60) ∧ (0 ≤ mrates.toInt ∧ mrates.toInt ≤ 60) ∧ (0 ≤ mtaped.toInt ∧ mtaped.toInt ≤ 120) ∧ (0 ≤ mlisted.toInt ∧ mlisted.toInt ≤ 9) ∧ (0 ≤ mdealtMany.toInt ∧ mdealtMany.toInt ≤ 9)) (hr_m55 : ∀ k : Nat, k < 5 → 0 ≤ (mf55 k).toInt ∧ (mf55 k).toInt ≤ 40) : Met l yX9_sight (wl yX9_sight cX9_sight 7 (some .int)) (RM 2 0 0) (mu_P D E [.ref mh, .int p0, .int p1, .int p2, .int p3, .int p4] [(mh, .inr (9, G9 ma mcode mtoday moffs mmany msumW msumA msumR msumWW msumWA msumAA msumWR msumAR mupper mlower mrates mtaped mlaid mat mtk mtkAt mtkNumber mwaits mlisted mdealtMany)), ((ma 47), .inl (E 0, 5, .inl mf47)), ((ma 48), .inl (E 0, 5, .inl mf48)), ((ma 55), .inl (E 0, 5, .inl mf55)), ((ma 56), .inl (E 0, 200, .inl mf56)), ((ma 57), .inl (E 0, 600, .inl mf57))] sz) (va_Qi (fun (r : Int32) (u : (Nat → Int32) × (Nat → Int32) × (Nat → Int32)) => (∀ k : Nat, k < 5 → 0 ≤ (u.1 k).toInt ∧ (u.1 k).toInt ≤ 40)) (mu_B D (va_A [(mh, .inr (9, G9 ma mcode mtoday moffs mmany msumW msumA msumR msumWW msumWA msumAA msumWR msumAR mupper mlower mrates mtaped mlaid mat mtk mtkAt mtkNumber mwaits mlisted mdealtMany)), ((ma 47), .inl (E 0, 5, .inl mf47)), ((ma 48), .inl (E 0, 5, .inl mf48)), ((ma 55), .inl (E 0, 5, .inl mf55)), ((ma 56), .inl (E 0, 200, .inl mf56)), ((ma 57), .inl (E 0, 600, .inl mf57))] sz) (fun (u : (Nat → Int32) × (Nat → Int32) × (Nat → Int32)) => [(mh, .inr (9, G9 ma mcode mtoday moffs mmany msumW msumA msumR msumWW msumWA msumAA msumWR msumAR mupper mlower mrates mtaped mlaid mat mtk mtkAt mtkNumber mwaits mlisted mdealtMany)), ((ma 47), .inl (E 0, 5, .inl mf47)), ((ma 48), .inl (E 0, 5, .inl mf48)), ((ma 55), .inl (E 0, 5, .inl u.1)), ((ma 56), .inl (E 0, 200, .inl u.2.1)), ((ma 57), .inl (E 0, 600, .inl u.2.2))])) (va_A [(mh, .inr (9, G9 ma mcode mtoday moffs mmany msumW msumA msumR msumWW msumWA msumAA msumWR msumAR mupper mlower mrates mtaped mlaid mat mtk mtkAt mtkNumber mwaits mlisted mdealtMany)), ((ma 47), .inl (E 0, 5, .inl mf47)), ((ma 48), .inl (E 0, 5, .inl mf48)), ((ma 55), .inl (E 0, 5, .inl mf55)), ((ma 56), .inl (E 0, 200, .inl mf56)), ((ma 57), .inl (E 0, 600, .inl mf57))] sz)) 0 0 (va_A [(mh, .inr (9, G9 ma mcode mtoday moffs mmany msumW msumA msumR msumWW msumWA msumAA msumWR msumAR mupper mlower mrates mtaped mlaid mat mtk mtkAt mtkNumber mwaits mlisted mdealtMany)), ((ma 47), .inl (E 0, 5, .inl mf47)), ((ma 48), .inl (E 0, 5, .inl mf48)), ((ma 55), .inl (E 0, 5, .inl mf55)), ((ma 56), .inl (E 0, 200, .inl mf56)), ((ma 57), .inl (E 0, 600, .inl mf57))] sz) := by
  refine Met.ofW (cc := cX9_sight) (maxL := 7) (ret := (some .int)) (by decide) rfl ?_
  intro p e s m args below meth c s₁ B hml hv
  obtain ⟨rfl, hsz, hP, hK, hD0⟩ := hv
  have hx := B.exec; have hb := B.bytes; have hr := B.returns
  have hts := atoms_spec (ws := wl yX9_sight cX9_sight 7 (some .int)) B.pre
  have htb : ∀ w ∈ tb, w.before _ s = true := fun w h => hts w (List.mem_cons_of_mem _ h)
  have hown : s.vm.findClass RX9 = some m.cls := findClass_of_methodNamed B.named
  have hlocks := B.notSynchronized
  subst hsz
  have hD := hD0.self (sz := s.heap.size)
  generalize hAe : va_A [(mh, .inr (9, G9 ma mcode mtoday moffs mmany msumW msumA msumR msumWW msumWA msumAA msumWR msumAR mupper mlower mrates mtaped mlaid mat mtk mtkAt mtkNumber mwaits mlisted mdealtMany)), ((ma 47), .inl (E 0, 5, .inl mf47)), ((ma 48), .inl (E 0, 5, .inl mf48)), ((ma 55), .inl (E 0, 5, .inl mf55)), ((ma 56), .inl (E 0, 200, .inl mf56)), ((ma 57), .inl (E 0, 600, .inl mf57))] s.heap.size = A at hD ⊢
  have hA : ∀ q : Nat, s.heap.size ≤ q → A q := fun q h => by rw [← hAe]; exact Or.inr h
  have hS : va_S A s.heap s.heap [] := va_S.rf
  have hP : va_P D vwCl [(mh, .inr (9, G9 ma mcode mtoday moffs mmany msumW msumA msumR msumWW msumWA msumAA msumWR msumAR mupper mlower mrates mtaped mlaid mat mtk mtkAt mtkNumber mwaits mlisted mdealtMany)), ((ma 47), .inl (E 0, 5, .inl mf47)), ((ma 48), .inl (E 0, 5, .inl mf48)), ((ma 55), .inl (E 0, 5, .inl mf55)), ((ma 56), .inl (E 0, 200, .inl mf56)), ((ma 57), .inl (E 0, 600, .inl mf57))] s.heap := hP
  have hl := lv_entry ([.ref mh, .int p0, .int p1, .int p2, .int p3, .int p4]) (n := 7) (Nat.le_of_ble_eq_true rfl)
  rw [lg_entry_eq]
  generalize (lg_sl ([.ref mh, .int p0, .int p1, .int p2, .int p3, .int p4]) ++ List.replicate (7 - (lg_sl ([.ref mh, .int p0, .int p1, .int p2, .int p3, .int p4])).length) Slot.unset).toArray = ls at hl ⊢
  have hl : lv_has ls 7 [(0, .ref mh), (1, .int p0), (2, .int p1), (3, .int p2), (4, .int p3), (5, .int p4)] := hl
  have lo_p0 := i_lo p0; have hi_p0 := i_hi p0
  have lo_p1 := i_lo p1; have hi_p1 := i_hi p1
  have lo_p2 := i_lo p2; have hi_p2 := i_hi p2
  have lo_p3 := i_lo p3; have hi_p3 := i_hi p3
  have lo_p4 := i_lo p4; have hi_p4 := i_hi p4
  refine lv_iload_n hx hb dX9_sight_0 rfl (lv_at hl 1 rfl) ?_
  refine callRS (rest := []) (As := [.int p0]) hx hb hml hown htb hK (g_X9_isShip l D E p0 ) ok_X9_isShip k_1414 k_1415 k_9 k_1416 ⟨(Nat.le_of_ble_eq_true rfl), (Nat.le_of_ble_eq_true rfl)⟩ ⟨(Nat.le_of_ble_eq_true rfl), (Nat.le_of_ble_eq_true rfl)⟩ hl.1 (Nat.le_of_ble_eq_true rfl) rfl rfl dX9_sight_1 (hP.sub (ws' := ([] : va_W)) [] rfl) (fun r_1 hw_2 => ?_)
  rcases hw_2 with ⟨hr_1, hw_2⟩ | ⟨hr_1, hw_2⟩
  ·
    refine W_top (y := .int 1) (by rw [hr_1]) ?_
    refine lv_if_eq (tgt := 42) hx hb dX9_sight_4 (by decide) (fun c_4 => absurd c_4 (by decide)) (fun c_4 => ?_)
    refine lv_iload_n hx hb dX9_sight_7 rfl (lv_at hl 2 rfl) ?_
    refine lv_iconst (v := 0) hx hb dX9_sight_8 (by decide) ?_
    refine lv_aload_n hx hb dX9_sight_9 rfl (lv_at hl 0 rfl) ?_
    refine va_get (D := D) (ci := 9) (v := .int mtoday) (C := RX9) (T := TX9) (N := 68) hx hb htb iX9 hown hK.1 hP 0 rfl rfl 1 (by decide) (htb _ k_959) (fun _ h9 => h9) rfl dX9_sight_10 ?_
    refine callRS (rest := []) (As := [.int p1, .int 0, .int mtoday]) hx hb hml hown htb hK (g_X9_in l D E p1 0 mtoday ) ok_X9_in k_1168 k_1169 k_9 k_1170 ⟨(Nat.le_of_ble_eq_true rfl), (Nat.le_of_ble_eq_true rfl)⟩ ⟨(Nat.le_of_ble_eq_true rfl), (Nat.le_of_ble_eq_true rfl)⟩ hl.1 (Nat.le_of_ble_eq_true rfl) rfl rfl dX9_sight_13 (hP.sub (ws' := ([] : va_W)) [] rfl) (fun r_5 hw_6 => ?_)
    try simp only [t_0] at hw_6
    rcases hw_6 with ⟨hr_5, hw_6⟩ | ⟨hr_5, hw_6⟩
    ·
      try simp only [t_0] at hw_6
      refine W_top (y := .int 1) (by rw [hr_5]) ?_
      refine lv_if_eq (tgt := 42) hx hb dX9_sight_16 (by decide) (fun c_8 => absurd c_8 (by decide)) (fun c_8 => ?_)
      refine lv_iload_n hx hb dX9_sight_19 rfl (lv_at hl 3 rfl) ?_
      refine callRS (rest := []) (As := [.int p2]) hx hb hml hown htb hK (g_X9_isShown l D E p2 ) ok_X9_isShown k_1433 k_1434 k_9 k_1435 ⟨(Nat.le_of_ble_eq_true rfl), (Nat.le_of_ble_eq_true rfl)⟩ ⟨(Nat.le_of_ble_eq_true rfl), (Nat.le_of_ble_eq_true rfl)⟩ hl.1 (Nat.le_of_ble_eq_true rfl) rfl rfl dX9_sight_20 (hP.sub (ws' := ([] : va_W)) [] rfl) (fun r_9 hw_10 => ?_)
      rcases hw_10 with ⟨hr_9, hw_10⟩ | ⟨hr_9, hw_10⟩
      ·
        refine W_top (y := .int 1) (by rw [hr_9]) ?_
        refine lv_if_eq (tgt := 42) hx hb dX9_sight_23 (by decide) (fun c_12 => absurd c_12 (by decide)) (fun c_12 => ?_)
        refine lv_iload hx hb dX9_sight_26 (lv_at hl 4 rfl) ?_
        refine callRS (rest := []) (As := [.int p3]) hx hb hml hown htb hK (g_X9_isShown l D E p3 ) ok_X9_isShown k_1433 k_1434 k_9 k_1435 ⟨(Nat.le_of_ble_eq_true rfl), (Nat.le_of_ble_eq_true rfl)⟩ ⟨(Nat.le_of_ble_eq_true rfl), (Nat.le_of_ble_eq_true rfl)⟩ hl.1 (Nat.le_of_ble_eq_true rfl) rfl rfl dX9_sight_28 (hP.sub (ws' := ([] : va_W)) [] rfl) (fun r_13 hw_14 => ?_)
        rcases hw_14 with ⟨hr_13, hw_14⟩ | ⟨hr_13, hw_14⟩
        ·
          refine W_top (y := .int 1) (by rw [hr_13]) ?_
          refine lv_if_eq (tgt := 42) hx hb dX9_sight_31 (by decide) (fun c_16 => absurd c_16 (by decide)) (fun c_16 => ?_)
          refine lv_iload hx hb dX9_sight_34 (lv_at hl 5 rfl) ?_
          refine callRS (rest := []) (As := [.int p4]) hx hb hml hown htb hK (g_X9_isShown l D E p4 ) ok_X9_isShown k_1433 k_1434 k_9 k_1435 ⟨(Nat.le_of_ble_eq_true rfl), (Nat.le_of_ble_eq_true rfl)⟩ ⟨(Nat.le_of_ble_eq_true rfl), (Nat.le_of_ble_eq_true rfl)⟩ hl.1 (Nat.le_of_ble_eq_true rfl) rfl rfl dX9_sight_36 (hP.sub (ws' := ([] : va_W)) [] rfl) (fun r_17 hw_18 => ?_)
          rcases hw_18 with ⟨hr_17, hw_18⟩ | ⟨hr_17, hw_18⟩
          ·
            refine W_top (y := .int 1) (by rw [hr_17]) ?_
            refine lv_if_ne (tgt := 44) hx hb dX9_sight_39 (by decide) (fun c_20 => ?_) (fun c_20 => absurd c_20 (by decide))
            refine lv_aload_n hx hb dX9_sight_44 rfl (lv_at hl 0 rfl) ?_
            refine va_get (D := D) (ci := 9) (v := .ref (ma 47)) (C := RX9) (T := TX9) (N := 68) hx hb htb iX9 hown hK.1 hP 0 rfl rfl 47 (by decide) (htb _ k_1005) (fun _ h9 => h9) rfl dX9_sight_45 ?_
            refine lv_iload_n hx hb dX9_sight_48 rfl (lv_at hl 1 rfl) ?_
            refine va_iald hx hb hK.1 hP 1 0 rfl rfl (g_in rfl (by omega) (by omega)) dX9_sight_49 ?_
            refine lv_topi (fun z_21 ez_21 => ?_)
            have kz_21 := congrArg Int32.toInt ez_21
            refine lv_iconst (v := 1) hx hb dX9_sight_50 (by decide) ?_
            refine lv_icmp_eq (tgt := 57) hx hb dX9_sight_51 (by decide) (fun c_22 => ?_) (fun c_22 => ?_)
            ·
              have ic_22 : z_21.toInt = 1 := (g_eq rfl t_1).mp c_22
              clear c_22
              refine lv_aload_n hx hb dX9_sight_57 rfl (lv_at hl 0 rfl) ?_
              refine va_get (D := D) (ci := 9) (v := .ref (ma 55)) (C := RX9) (T := TX9) (N := 68) hx hb htb iX9 hown hK.1 hP 0 rfl rfl 55 (by decide) (htb _ k_1013) (fun _ h9 => h9) rfl dX9_sight_58 ?_
              refine lv_iload_n hx hb dX9_sight_61 rfl (lv_at hl 1 rfl) ?_
              refine va_iald hx hb hK.1 hP 3 0 rfl rfl (g_in rfl (by omega) (by omega)) dX9_sight_62 ?_
              refine lv_topi (fun z_23 ez_23 => ?_)
              have kz_23 := congrArg Int32.toInt ez_23
              have jz_23 : 0 ≤ z_23.toInt ∧ z_23.toInt ≤ 40 := by rw [ez_23]; exact hr_m55 _ (g_ix rfl (by omega) (by omega))
              refine lv_istore (lv' := [(6, .int z_23), (0, .ref mh), (1, .int p0), (2, .int p1), (3, .int p2), (4, .int p3), (5, .int p4)]) hx hb dX9_sight_63 hl (by decide) rfl (fun ls hl => ?_)
              refine lv_iload_n hx hb dX9_sight_65 rfl (lv_at hl 3 rfl) ?_
              refine lv_aload_n hx hb dX9_sight_66 rfl (lv_at hl 1 rfl) ?_
              refine va_get (D := D) (ci := 9) (v := .ref (ma 48)) (C := RX9) (T := TX9) (N := 68) hx hb htb iX9 hown hK.1 hP 0 rfl rfl 48 (by decide) (htb _ k_1006) (fun _ h9 => h9) rfl dX9_sight_67 ?_
              refine lv_iload_n hx hb dX9_sight_70 rfl (lv_at hl 2 rfl) ?_
              refine va_iald hx hb hK.1 hP 2 0 rfl rfl (g_in rfl (by omega) (by omega)) dX9_sight_71 ?_
              refine lv_topi (fun z_24 ez_24 => ?_)
              have kz_24 := congrArg Int32.toInt ez_24
              refine lv_icmp_le (tgt := 98) hx hb dX9_sight_72 (by decide) (fun c_25 => ?_) (fun c_25 => ?_)
              ·
                have ic_25 : p1.toInt ≤ z_24.toInt := by first | exact (g_le rfl rfl).mp c_25 | (have h := mt (g_lt rfl rfl).mpr c_25; omega)
                clear c_25
                refine lv_iconst (v := (-1)) hx hb dX9_sight_98 (by decide) ?_
                have hP9 := hP.sub (ws' := [(mh, .inr (9, G9 ma mcode mtoday moffs mmany msumW msumA msumR msumWW msumWA msumAA msumWR msumAR mupper mlower mrates mtaped mlaid mat mtk mtkAt mtkNumber mwaits mlisted mdealtMany)), ((ma 47), .inl (E 0, 5, .inl mf47)), ((ma 48), .inl (E 0, 5, .inl mf48)), ((ma 55), .inl (E 0, 5, .inl mf55)), ((ma 56), .inl (E 0, 200, .inl mf56)), ((ma 57), .inl (E 0, 600, .inl mf57))]) [0, 1, 2, 3, 4, 5] rfl
                have hD9 := hD.sub (ws' := [(mh, .inr (9, G9 ma mcode mtoday moffs mmany msumW msumA msumR msumWW msumWA msumAA msumWR msumAR mupper mlower mrates mtaped mlaid mat mtk mtkAt mtkNumber mwaits mlisted mdealtMany)), ((ma 47), .inl (E 0, 5, .inl mf47)), ((ma 48), .inl (E 0, 5, .inl mf48)), ((ma 55), .inl (E 0, 5, .inl mf55)), ((ma 56), .inl (E 0, 200, .inl mf56)), ((ma 57), .inl (E 0, 600, .inl mf57))]) [0, 1, 2, 3, 4, 5] (by decide) rfl
                exact W.iret (v := (-1)) hx hb hr (fun t ht hW => ⟨⟨(-1), (mf55, mf56, mf57), rfl, hr_m55, by rw [ht]; exact hP9, hD9⟩, hS.F ht⟩) hS.2.2 dX9_sight_99
              ·
                have ic_25 : z_24.toInt < p1.toInt := by first | exact (g_lt rfl rfl).mp c_25 | (have h := mt (g_le rfl rfl).mpr c_25; omega)
                clear c_25
                refine lv_iload hx hb dX9_sight_75 (lv_at hl 0 rfl) ?_
                refine lv_if_le (tgt := 100) hx hb dX9_sight_77 (by decide) (fun c_26 => ?_) (fun c_26 => ?_)
                ·
                  have ic_26 : z_23.toInt ≤ 0 := by first | exact (g_le rfl t_0).mp c_26 | (have h := mt (g_lt t_0 rfl).mpr c_26; omega)
                  clear c_26
                  refine lv_iload hx hb dX9_sight_100 (lv_at hl 0 rfl) ?_
                  refine lv_bipush (v := 40) hx hb dX9_sight_102 (by decide) ?_
                  refine lv_icmp_ne (tgt := 110) hx hb dX9_sight_104 (by decide) (fun c_27 => ?_) (fun c_27 => absurd c_27 (by rw [g_eq rfl t_40]; omega))
                  refine lv_aload_n hx hb dX9_sight_110 rfl (lv_at hl 1 rfl) ?_
                  refine va_get (D := D) (ci := 9) (v := .ref (ma 56)) (C := RX9) (T := TX9) (N := 68) hx hb htb iX9 hown hK.1 hP 0 rfl rfl 56 (by decide) (htb _ k_1014) (fun _ h9 => h9) rfl dX9_sight_111 ?_
                  refine lv_bipush (v := 40) hx hb dX9_sight_114 (by decide) ?_
                  refine lv_iload_n hx hb dX9_sight_116 rfl (lv_at hl 2 rfl) ?_
                  refine lv_imul hx hb dX9_sight_117 ?_
                  refine lv_topi (fun z_28 ez_28 => ?_)
                  have jz_28 : z_28.toInt = 40 * p0.toInt := by rw [ez_28]; exact g_mul t_40 rfl (by omega) (by omega)
                  refine lv_iload hx hb dX9_sight_118 (lv_at hl 0 rfl) ?_
                  refine lv_iadd hx hb dX9_sight_120 ?_
                  refine lv_topi (fun z_29 ez_29 => ?_)
                  have jz_29 : z_29.toInt = z_28.toInt + z_23.toInt := by rw [ez_29]; exact g_add rfl rfl (by omega) (by omega)
                  refine lv_iload_n hx hb dX9_sight_121 rfl (lv_at hl 3 rfl) ?_
                  refine va_iast hx hb hK.1 hP hD hS 4 0 rfl rfl (g_in rfl (by omega) (by omega)) dX9_sight_122 (fun H locs hP hD hS => ?_)
                  have hP : va_P D vwCl [(mh, .inr (9, G9 ma mcode mtoday moffs mmany msumW msumA msumR msumWW msumWA msumAA msumWR msumAR mupper mlower mrates mtaped mlaid mat mtk mtkAt mtkNumber mwaits mlisted mdealtMany)), ((ma 47), .inl (E 0, 5, .inl mf47)), ((ma 48), .inl (E 0, 5, .inl mf48)), ((ma 55), .inl (E 0, 5, .inl mf55)), ((ma 56), .inl (E 0, 200, .inl (upd mf56 (z_29 : Int32).toNatClampNeg p1))), ((ma 57), .inl (E 0, 600, .inl mf57))] H := hP
                  have hD := toW hP hD rfl
                  refine lv_aload_n hx hb dX9_sight_123 rfl (lv_at hl 1 rfl) ?_
                  refine va_get (D := D) (ci := 9) (v := .ref (ma 57)) (C := RX9) (T := TX9) (N := 68) hx hb htb iX9 hown hK.1 hP 0 rfl rfl 57 (by decide) (htb _ k_1015) (fun _ h9 => h9) rfl dX9_sight_124 ?_
                  refine lv_iconst (v := 3) hx hb dX9_sight_127 (by decide) ?_
                  refine lv_bipush (v := 40) hx hb dX9_sight_128 (by decide) ?_
                  refine lv_iload_n hx hb dX9_sight_130 rfl (lv_at hl 2 rfl) ?_
                  refine lv_imul hx hb dX9_sight_131 ?_
                  refine lv_topi (fun z_30 ez_30 => ?_)
                  have jz_30 : z_30.toInt = 40 * p0.toInt := by rw [ez_30]; exact g_mul t_40 rfl (by omega) (by omega)
                  refine lv_iload hx hb dX9_sight_132 (lv_at hl 0 rfl) ?_
                  refine lv_iadd hx hb dX9_sight_134 ?_
                  refine lv_topi (fun z_31 ez_31 => ?_)
                  have jz_31 : z_31.toInt = z_30.toInt + z_23.toInt := by rw [ez_31]; exact g_add rfl rfl (by omega) (by omega)
                  refine lv_imul hx hb dX9_sight_135 ?_
                  refine lv_topi (fun z_32 ez_32 => ?_)
                  have jz_32 : z_32.toInt = 3 * z_31.toInt := by rw [ez_32]; exact g_mul t_3 rfl (by omega) (by omega)
                  refine lv_iload_n hx hb dX9_sight_136 rfl (lv_at hl 4 rfl) ?_
                  refine va_iast hx hb hK.1 hP hD hS 5 0 rfl rfl (g_in rfl (by omega) (by omega)) dX9_sight_137 (fun H locs hP hD hS => ?_)
                  have hP : va_P D vwCl [(mh, .inr (9, G9 ma mcode mtoday moffs mmany msumW msumA msumR msumWW msumWA msumAA msumWR msumAR mupper mlower mrates mtaped mlaid mat mtk mtkAt mtkNumber mwaits mlisted mdealtMany)), ((ma 47), .inl (E 0, 5, .inl mf47)), ((ma 48), .inl (E 0, 5, .inl mf48)), ((ma 55), .inl (E 0, 5, .inl mf55)), ((ma 56), .inl (E 0, 200, .inl (upd mf56 (z_29 : Int32).toNatClampNeg p1))), ((ma 57), .inl (E 0, 600, .inl (upd mf57 (z_32 : Int32).toNatClampNeg p2)))] H := hP
                  have hD := toW hP hD rfl
                  refine lv_aload_n hx hb dX9_sight_138 rfl (lv_at hl 1 rfl) ?_
                  refine va_get (D := D) (ci := 9) (v := .ref (ma 57)) (C := RX9) (T := TX9) (N := 68) hx hb htb iX9 hown hK.1 hP 0 rfl rfl 57 (by decide) (htb _ k_1015) (fun _ h9 => h9) rfl dX9_sight_139 ?_
                  refine lv_iconst (v := 3) hx hb dX9_sight_142 (by decide) ?_
                  refine lv_bipush (v := 40) hx hb dX9_sight_143 (by decide) ?_
                  refine lv_iload_n hx hb dX9_sight_145 rfl (lv_at hl 2 rfl) ?_
                  refine lv_imul hx hb dX9_sight_146 ?_
                  refine lv_topi (fun z_33 ez_33 => ?_)
                  have jz_33 : z_33.toInt = 40 * p0.toInt := by rw [ez_33]; exact g_mul t_40 rfl (by omega) (by omega)
                  refine lv_iload hx hb dX9_sight_147 (lv_at hl 0 rfl) ?_
                  refine lv_iadd hx hb dX9_sight_149 ?_
                  refine lv_topi (fun z_34 ez_34 => ?_)
                  have jz_34 : z_34.toInt = z_33.toInt + z_23.toInt := by rw [ez_34]; exact g_add rfl rfl (by omega) (by omega)
                  refine lv_imul hx hb dX9_sight_150 ?_
                  refine lv_topi (fun z_35 ez_35 => ?_)
                  have jz_35 : z_35.toInt = 3 * z_34.toInt := by rw [ez_35]; exact g_mul t_3 rfl (by omega) (by omega)
                  refine lv_iconst (v := 1) hx hb dX9_sight_151 (by decide) ?_
                  refine lv_iadd hx hb dX9_sight_152 ?_
                  refine lv_topi (fun z_36 ez_36 => ?_)
                  have jz_36 : z_36.toInt = z_35.toInt + 1 := by rw [ez_36]; exact g_add rfl t_1 (by omega) (by omega)
                  refine lv_iload hx hb dX9_sight_153 (lv_at hl 5 rfl) ?_
                  refine va_iast hx hb hK.1 hP hD hS 5 0 rfl rfl (g_in rfl (by omega) (by omega)) dX9_sight_155 (fun H locs hP hD hS => ?_)
                  have hP : va_P D vwCl [(mh, .inr (9, G9 ma mcode mtoday moffs mmany msumW msumA msumR msumWW msumWA msumAA msumWR msumAR mupper mlower mrates mtaped mlaid mat mtk mtkAt mtkNumber mwaits mlisted mdealtMany)), ((ma 47), .inl (E 0, 5, .inl mf47)), ((ma 48), .inl (E 0, 5, .inl mf48)), ((ma 55), .inl (E 0, 5, .inl mf55)), ((ma 56), .inl (E 0, 200, .inl (upd mf56 (z_29 : Int32).toNatClampNeg p1))), ((ma 57), .inl (E 0, 600, .inl (upd (upd mf57 (z_32 : Int32).toNatClampNeg p2) (z_36 : Int32).toNatClampNeg p3)))] H := hP
                  have hD := toW hP hD rfl
                  generalize (upd (upd mf57 (z_32 : Int32).toNatClampNeg p2) (z_36 : Int32).toNatClampNeg p3) = g_37 at hP hD
                  refine lv_aload_n hx hb dX9_sight_156 rfl (lv_at hl 1 rfl) ?_
                  refine va_get (D := D) (ci := 9) (v := .ref (ma 57)) (C := RX9) (T := TX9) (N := 68) hx hb htb iX9 hown hK.1 hP 0 rfl rfl 57 (by decide) (htb _ k_1015) (fun _ h9 => h9) rfl dX9_sight_157 ?_
                  refine lv_iconst (v := 3) hx hb dX9_sight_160 (by decide) ?_
                  refine lv_bipush (v := 40) hx hb dX9_sight_161 (by decide) ?_
                  refine lv_iload_n hx hb dX9_sight_163 rfl (lv_at hl 2 rfl) ?_
                  refine lv_imul hx hb dX9_sight_164 ?_
                  refine lv_topi (fun z_38 ez_38 => ?_)
                  have jz_38 : z_38.toInt = 40 * p0.toInt := by rw [ez_38]; exact g_mul t_40 rfl (by omega) (by omega)
                  refine lv_iload hx hb dX9_sight_165 (lv_at hl 0 rfl) ?_
                  refine lv_iadd hx hb dX9_sight_167 ?_
                  refine lv_topi (fun z_39 ez_39 => ?_)
                  have jz_39 : z_39.toInt = z_38.toInt + z_23.toInt := by rw [ez_39]; exact g_add rfl rfl (by omega) (by omega)
                  refine lv_imul hx hb dX9_sight_168 ?_
                  refine lv_topi (fun z_40 ez_40 => ?_)
                  have jz_40 : z_40.toInt = 3 * z_39.toInt := by rw [ez_40]; exact g_mul t_3 rfl (by omega) (by omega)
                  refine lv_iconst (v := 2) hx hb dX9_sight_169 (by decide) ?_
                  refine lv_iadd hx hb dX9_sight_170 ?_
                  refine lv_topi (fun z_41 ez_41 => ?_)
                  have jz_41 : z_41.toInt = z_40.toInt + 2 := by rw [ez_41]; exact g_add rfl t_2 (by omega) (by omega)
                  refine lv_iload hx hb dX9_sight_171 (lv_at hl 6 rfl) ?_
                  refine va_iast hx hb hK.1 hP hD hS 5 0 rfl rfl (g_in rfl (by omega) (by omega)) dX9_sight_173 (fun H locs hP hD hS => ?_)
                  have hP : va_P D vwCl [(mh, .inr (9, G9 ma mcode mtoday moffs mmany msumW msumA msumR msumWW msumWA msumAA msumWR msumAR mupper mlower mrates mtaped mlaid mat mtk mtkAt mtkNumber mwaits mlisted mdealtMany)), ((ma 47), .inl (E 0, 5, .inl mf47)), ((ma 48), .inl (E 0, 5, .inl mf48)), ((ma 55), .inl (E 0, 5, .inl mf55)), ((ma 56), .inl (E 0, 200, .inl (upd mf56 (z_29 : Int32).toNatClampNeg p1))), ((ma 57), .inl (E 0, 600, .inl (upd g_37 (z_41 : Int32).toNatClampNeg p4)))] H := hP
                  have hD := toW hP hD rfl
                  refine lv_aload_n hx hb dX9_sight_174 rfl (lv_at hl 1 rfl) ?_
                  refine va_get (D := D) (ci := 9) (v := .ref (ma 55)) (C := RX9) (T := TX9) (N := 68) hx hb htb iX9 hown hK.1 hP 0 rfl rfl 55 (by decide) (htb _ k_1013) (fun _ h9 => h9) rfl dX9_sight_175 ?_
                  refine lv_iload_n hx hb dX9_sight_178 rfl (lv_at hl 2 rfl) ?_
                  refine lv_dup2_11 hx hb dX9_sight_179 rfl rfl ?_
                  refine va_iald hx hb hK.1 hP 3 0 rfl rfl (g_in rfl (by omega) (by omega)) dX9_sight_180 ?_
                  refine lv_topi (fun z_42 ez_42 => ?_)
                  have kz_42 := congrArg Int32.toInt ez_42
                  have jz_42 : 0 ≤ z_42.toInt ∧ z_42.toInt ≤ 40 := by rw [ez_42]; exact hr_m55 _ (g_ix rfl (by omega) (by omega))
                  refine lv_iconst (v := 1) hx hb dX9_sight_181 (by decide) ?_
                  refine lv_iadd hx hb dX9_sight_182 ?_
                  refine lv_topi (fun z_43 ez_43 => ?_)
                  have jz_43 : z_43.toInt = z_42.toInt + 1 := by rw [ez_43]; exact g_add rfl t_1 (by omega) (by omega)
                  refine va_iast hx hb hK.1 hP hD hS 3 0 rfl rfl (g_in rfl (by omega) (by omega)) dX9_sight_183 (fun H locs hP hD hS => ?_)
                  have hP : va_P D vwCl [(mh, .inr (9, G9 ma mcode mtoday moffs mmany msumW msumA msumR msumWW msumWA msumAA msumWR msumAR mupper mlower mrates mtaped mlaid mat mtk mtkAt mtkNumber mwaits mlisted mdealtMany)), ((ma 47), .inl (E 0, 5, .inl mf47)), ((ma 48), .inl (E 0, 5, .inl mf48)), ((ma 55), .inl (E 0, 5, .inl (upd mf55 (p0 : Int32).toNatClampNeg z_43))), ((ma 56), .inl (E 0, 200, .inl (upd mf56 (z_29 : Int32).toNatClampNeg p1))), ((ma 57), .inl (E 0, 600, .inl (upd g_37 (z_41 : Int32).toNatClampNeg p4)))] H := hP
                  have hD := toW hP hD rfl
                  have hv_44 : ∀ k : Nat, k < 5 → 0 ≤ ((upd mf55 (p0 : Int32).toNatClampNeg z_43) k).toInt ∧ ((upd mf55 (p0 : Int32).toNatClampNeg z_43) k).toInt ≤ 40 := upd_r hr_m55 (by (try dsimp only); omega)
                  refine lv_iload hx hb dX9_sight_184 (lv_at hl 0 rfl) ?_
                  have hP9 := hP.sub (ws' := [(mh, .inr (9, G9 ma mcode mtoday moffs mmany msumW msumA msumR msumWW msumWA msumAA msumWR msumAR mupper mlower mrates mtaped mlaid mat mtk mtkAt mtkNumber mwaits mlisted mdealtMany)), ((ma 47), .inl (E 0, 5, .inl mf47)), ((ma 48), .inl (E 0, 5, .inl mf48)), ((ma 55), .inl (E 0, 5, .inl (upd mf55 (p0 : Int32).toNatClampNeg z_43))), ((ma 56), .inl (E 0, 200, .inl (upd mf56 (z_29 : Int32).toNatClampNeg p1))), ((ma 57), .inl (E 0, 600, .inl (upd g_37 (z_41 : Int32).toNatClampNeg p4)))]) [0, 1, 2, 3, 4, 5] rfl
                  have hD9 := hD.sub (ws' := [(mh, .inr (9, G9 ma mcode mtoday moffs mmany msumW msumA msumR msumWW msumWA msumAA msumWR msumAR mupper mlower mrates mtaped mlaid mat mtk mtkAt mtkNumber mwaits mlisted mdealtMany)), ((ma 47), .inl (E 0, 5, .inl mf47)), ((ma 48), .inl (E 0, 5, .inl mf48)), ((ma 55), .inl (E 0, 5, .inl (upd mf55 (p0 : Int32).toNatClampNeg z_43))), ((ma 56), .inl (E 0, 200, .inl (upd mf56 (z_29 : Int32).toNatClampNeg p1))), ((ma 57), .inl (E 0, 600, .inl (upd g_37 (z_41 : Int32).toNatClampNeg p4)))]) [0, 1, 2, 3, 4, 5] (by decide) rfl
                  exact W.iret (v := z_23) hx hb hr (fun t ht hW => ⟨⟨z_23, ((upd mf55 (p0 : Int32).toNatClampNeg z_43), (upd mf56 (z_29 : Int32).toNatClampNeg p1), (upd g_37 (z_41 : Int32).toNatClampNeg p4)), rfl, hv_44, by rw [ht]; exact hP9, hD9⟩, hS.F ht⟩) hS.2.2 dX9_sight_186
                ·
                  have ic_26 : 0 < z_23.toInt := by first | exact (g_lt t_0 rfl).mp c_26 | (have h := mt (g_le rfl t_0).mpr c_26; omega)
                  clear c_26
                  refine lv_iload_n hx hb dX9_sight_80 rfl (lv_at hl 3 rfl) ?_
                  refine lv_aload_n hx hb dX9_sight_81 rfl (lv_at hl 1 rfl) ?_
                  refine va_get (D := D) (ci := 9) (v := .ref (ma 56)) (C := RX9) (T := TX9) (N := 68) hx hb htb iX9 hown hK.1 hP 0 rfl rfl 56 (by decide) (htb _ k_1014) (fun _ h9 => h9) rfl dX9_sight_82 ?_
                  refine lv_bipush (v := 40) hx hb dX9_sight_85 (by decide) ?_
                  refine lv_iload_n hx hb dX9_sight_87 rfl (lv_at hl 2 rfl) ?_
                  refine lv_imul hx hb dX9_sight_88 ?_
                  refine lv_topi (fun z_45 ez_45 => ?_)
                  have jz_45 : z_45.toInt = 40 * p0.toInt := by rw [ez_45]; exact g_mul t_40 rfl (by omega) (by omega)
                  refine lv_iload hx hb dX9_sight_89 (lv_at hl 0 rfl) ?_
                  refine lv_iadd hx hb dX9_sight_91 ?_
                  refine lv_topi (fun z_46 ez_46 => ?_)
                  have jz_46 : z_46.toInt = z_45.toInt + z_23.toInt := by rw [ez_46]; exact g_add rfl rfl (by omega) (by omega)
                  refine lv_iconst (v := 1) hx hb dX9_sight_92 (by decide) ?_
                  refine lv_isub hx hb dX9_sight_93 ?_
                  refine lv_topi (fun z_47 ez_47 => ?_)
                  have jz_47 : z_47.toInt = z_46.toInt - 1 := by rw [ez_47]; exact g_sub rfl t_1 (by omega) (by omega)
                  refine va_iald hx hb hK.1 hP 4 0 rfl rfl (g_in rfl (by omega) (by omega)) dX9_sight_94 ?_
                  refine lv_topi (fun z_48 ez_48 => ?_)
                  have kz_48 := congrArg Int32.toInt ez_48
                  refine lv_icmp_ge (tgt := 100) hx hb dX9_sight_95 (by decide) (fun c_49 => ?_) (fun c_49 => ?_)
                  ·
                    have ic_49 : z_48.toInt ≤ p1.toInt := by first | exact (g_le rfl rfl).mp c_49 | (have h := mt (g_lt rfl rfl).mpr c_49; omega)
                    clear c_49
                    refine lv_iload hx hb dX9_sight_100 (lv_at hl 0 rfl) ?_
                    refine lv_bipush (v := 40) hx hb dX9_sight_102 (by decide) ?_
                    refine lv_icmp_ne (tgt := 110) hx hb dX9_sight_104 (by decide) (fun c_50 => ?_) (fun c_50 => ?_)
                    ·
                      have ic_50 : z_23.toInt ≠ 40 := mt (g_eq rfl t_40).mpr c_50
                      clear c_50
                      refine lv_aload_n hx hb dX9_sight_110 rfl (lv_at hl 1 rfl) ?_
                      refine va_get (D := D) (ci := 9) (v := .ref (ma 56)) (C := RX9) (T := TX9) (N := 68) hx hb htb iX9 hown hK.1 hP 0 rfl rfl 56 (by decide) (htb _ k_1014) (fun _ h9 => h9) rfl dX9_sight_111 ?_
                      refine lv_bipush (v := 40) hx hb dX9_sight_114 (by decide) ?_
                      refine lv_iload_n hx hb dX9_sight_116 rfl (lv_at hl 2 rfl) ?_
                      refine lv_imul hx hb dX9_sight_117 ?_
                      refine lv_topi (fun z_51 ez_51 => ?_)
                      have jz_51 : z_51.toInt = 40 * p0.toInt := by rw [ez_51]; exact g_mul t_40 rfl (by omega) (by omega)
                      refine lv_iload hx hb dX9_sight_118 (lv_at hl 0 rfl) ?_
                      refine lv_iadd hx hb dX9_sight_120 ?_
                      refine lv_topi (fun z_52 ez_52 => ?_)
                      have jz_52 : z_52.toInt = z_51.toInt + z_23.toInt := by rw [ez_52]; exact g_add rfl rfl (by omega) (by omega)
                      refine lv_iload_n hx hb dX9_sight_121 rfl (lv_at hl 3 rfl) ?_
                      refine va_iast hx hb hK.1 hP hD hS 4 0 rfl rfl (g_in rfl (by omega) (by omega)) dX9_sight_122 (fun H locs hP hD hS => ?_)
                      have hP : va_P D vwCl [(mh, .inr (9, G9 ma mcode mtoday moffs mmany msumW msumA msumR msumWW msumWA msumAA msumWR msumAR mupper mlower mrates mtaped mlaid mat mtk mtkAt mtkNumber mwaits mlisted mdealtMany)), ((ma 47), .inl (E 0, 5, .inl mf47)), ((ma 48), .inl (E 0, 5, .inl mf48)), ((ma 55), .inl (E 0, 5, .inl mf55)), ((ma 56), .inl (E 0, 200, .inl (upd mf56 (z_52 : Int32).toNatClampNeg p1))), ((ma 57), .inl (E 0, 600, .inl mf57))] H := hP
                      have hD := toW hP hD rfl
                      refine lv_aload_n hx hb dX9_sight_123 rfl (lv_at hl 1 rfl) ?_
                      refine va_get (D := D) (ci := 9) (v := .ref (ma 57)) (C := RX9) (T := TX9) (N := 68) hx hb htb iX9 hown hK.1 hP 0 rfl rfl 57 (by decide) (htb _ k_1015) (fun _ h9 => h9) rfl dX9_sight_124 ?_
                      refine lv_iconst (v := 3) hx hb dX9_sight_127 (by decide) ?_
                      refine lv_bipush (v := 40) hx hb dX9_sight_128 (by decide) ?_
                      refine lv_iload_n hx hb dX9_sight_130 rfl (lv_at hl 2 rfl) ?_
                      refine lv_imul hx hb dX9_sight_131 ?_
                      refine lv_topi (fun z_53 ez_53 => ?_)
                      have jz_53 : z_53.toInt = 40 * p0.toInt := by rw [ez_53]; exact g_mul t_40 rfl (by omega) (by omega)
                      refine lv_iload hx hb dX9_sight_132 (lv_at hl 0 rfl) ?_
                      refine lv_iadd hx hb dX9_sight_134 ?_
                      refine lv_topi (fun z_54 ez_54 => ?_)
                      have jz_54 : z_54.toInt = z_53.toInt + z_23.toInt := by rw [ez_54]; exact g_add rfl rfl (by omega) (by omega)
                      refine lv_imul hx hb dX9_sight_135 ?_
                      refine lv_topi (fun z_55 ez_55 => ?_)
                      have jz_55 : z_55.toInt = 3 * z_54.toInt := by rw [ez_55]; exact g_mul t_3 rfl (by omega) (by omega)
                      refine lv_iload_n hx hb dX9_sight_136 rfl (lv_at hl 4 rfl) ?_
                      refine va_iast hx hb hK.1 hP hD hS 5 0 rfl rfl (g_in rfl (by omega) (by omega)) dX9_sight_137 (fun H locs hP hD hS => ?_)
                      have hP : va_P D vwCl [(mh, .inr (9, G9 ma mcode mtoday moffs mmany msumW msumA msumR msumWW msumWA msumAA msumWR msumAR mupper mlower mrates mtaped mlaid mat mtk mtkAt mtkNumber mwaits mlisted mdealtMany)), ((ma 47), .inl (E 0, 5, .inl mf47)), ((ma 48), .inl (E 0, 5, .inl mf48)), ((ma 55), .inl (E 0, 5, .inl mf55)), ((ma 56), .inl (E 0, 200, .inl (upd mf56 (z_52 : Int32).toNatClampNeg p1))), ((ma 57), .inl (E 0, 600, .inl (upd mf57 (z_55 : Int32).toNatClampNeg p2)))] H := hP
                      have hD := toW hP hD rfl
                      refine lv_aload_n hx hb dX9_sight_138 rfl (lv_at hl 1 rfl) ?_
                      refine va_get (D := D) (ci := 9) (v := .ref (ma 57)) (C := RX9) (T := TX9) (N := 68) hx hb htb iX9 hown hK.1 hP 0 rfl rfl 57 (by decide) (htb _ k_1015) (fun _ h9 => h9) rfl dX9_sight_139 ?_
                      refine lv_iconst (v := 3) hx hb dX9_sight_142 (by decide) ?_
                      refine lv_bipush (v := 40) hx hb dX9_sight_143 (by decide) ?_
                      refine lv_iload_n hx hb dX9_sight_145 rfl (lv_at hl 2 rfl) ?_
                      refine lv_imul hx hb dX9_sight_146 ?_
                      refine lv_topi (fun z_56 ez_56 => ?_)
                      have jz_56 : z_56.toInt = 40 * p0.toInt := by rw [ez_56]; exact g_mul t_40 rfl (by omega) (by omega)
                      refine lv_iload hx hb dX9_sight_147 (lv_at hl 0 rfl) ?_
                      refine lv_iadd hx hb dX9_sight_149 ?_
                      refine lv_topi (fun z_57 ez_57 => ?_)
                      have jz_57 : z_57.toInt = z_56.toInt + z_23.toInt := by rw [ez_57]; exact g_add rfl rfl (by omega) (by omega)
                      refine lv_imul hx hb dX9_sight_150 ?_
                      refine lv_topi (fun z_58 ez_58 => ?_)
                      have jz_58 : z_58.toInt = 3 * z_57.toInt := by rw [ez_58]; exact g_mul t_3 rfl (by omega) (by omega)
                      refine lv_iconst (v := 1) hx hb dX9_sight_151 (by decide) ?_
                      refine lv_iadd hx hb dX9_sight_152 ?_
                      refine lv_topi (fun z_59 ez_59 => ?_)
                      have jz_59 : z_59.toInt = z_58.toInt + 1 := by rw [ez_59]; exact g_add rfl t_1 (by omega) (by omega)
                      refine lv_iload hx hb dX9_sight_153 (lv_at hl 5 rfl) ?_
                      refine va_iast hx hb hK.1 hP hD hS 5 0 rfl rfl (g_in rfl (by omega) (by omega)) dX9_sight_155 (fun H locs hP hD hS => ?_)
                      have hP : va_P D vwCl [(mh, .inr (9, G9 ma mcode mtoday moffs mmany msumW msumA msumR msumWW msumWA msumAA msumWR msumAR mupper mlower mrates mtaped mlaid mat mtk mtkAt mtkNumber mwaits mlisted mdealtMany)), ((ma 47), .inl (E 0, 5, .inl mf47)), ((ma 48), .inl (E 0, 5, .inl mf48)), ((ma 55), .inl (E 0, 5, .inl mf55)), ((ma 56), .inl (E 0, 200, .inl (upd mf56 (z_52 : Int32).toNatClampNeg p1))), ((ma 57), .inl (E 0, 600, .inl (upd (upd mf57 (z_55 : Int32).toNatClampNeg p2) (z_59 : Int32).toNatClampNeg p3)))] H := hP
                      have hD := toW hP hD rfl
                      generalize (upd (upd mf57 (z_55 : Int32).toNatClampNeg p2) (z_59 : Int32).toNatClampNeg p3) = g_60 at hP hD
                      refine lv_aload_n hx hb dX9_sight_156 rfl (lv_at hl 1 rfl) ?_
                      refine va_get (D := D) (ci := 9) (v := .ref (ma 57)) (C := RX9) (T := TX9) (N := 68) hx hb htb iX9 hown hK.1 hP 0 rfl rfl 57 (by decide) (htb _ k_1015) (fun _ h9 => h9) rfl dX9_sight_157 ?_
                      refine lv_iconst (v := 3) hx hb dX9_sight_160 (by decide) ?_
                      refine lv_bipush (v := 40) hx hb dX9_sight_161 (by decide) ?_
                      refine lv_iload_n hx hb dX9_sight_163 rfl (lv_at hl 2 rfl) ?_
                      refine lv_imul hx hb dX9_sight_164 ?_
                      refine lv_topi (fun z_61 ez_61 => ?_)
                      have jz_61 : z_61.toInt = 40 * p0.toInt := by rw [ez_61]; exact g_mul t_40 rfl (by omega) (by omega)
                      refine lv_iload hx hb dX9_sight_165 (lv_at hl 0 rfl) ?_
                      refine lv_iadd hx hb dX9_sight_167 ?_
                      refine lv_topi (fun z_62 ez_62 => ?_)
                      have jz_62 : z_62.toInt = z_61.toInt + z_23.toInt := by rw [ez_62]; exact g_add rfl rfl (by omega) (by omega)
                      refine lv_imul hx hb dX9_sight_168 ?_
                      refine lv_topi (fun z_63 ez_63 => ?_)
                      have jz_63 : z_63.toInt = 3 * z_62.toInt := by rw [ez_63]; exact g_mul t_3 rfl (by omega) (by omega)
                      refine lv_iconst (v := 2) hx hb dX9_sight_169 (by decide) ?_
                      refine lv_iadd hx hb dX9_sight_170 ?_
                      refine lv_topi (fun z_64 ez_64 => ?_)
                      have jz_64 : z_64.toInt = z_63.toInt + 2 := by rw [ez_64]; exact g_add rfl t_2 (by omega) (by omega)
                      refine lv_iload hx hb dX9_sight_171 (lv_at hl 6 rfl) ?_
                      refine va_iast hx hb hK.1 hP hD hS 5 0 rfl rfl (g_in rfl (by omega) (by omega)) dX9_sight_173 (fun H locs hP hD hS => ?_)
                      have hP : va_P D vwCl [(mh, .inr (9, G9 ma mcode mtoday moffs mmany msumW msumA msumR msumWW msumWA msumAA msumWR msumAR mupper mlower mrates mtaped mlaid mat mtk mtkAt mtkNumber mwaits mlisted mdealtMany)), ((ma 47), .inl (E 0, 5, .inl mf47)), ((ma 48), .inl (E 0, 5, .inl mf48)), ((ma 55), .inl (E 0, 5, .inl mf55)), ((ma 56), .inl (E 0, 200, .inl (upd mf56 (z_52 : Int32).toNatClampNeg p1))), ((ma 57), .inl (E 0, 600, .inl (upd g_60 (z_64 : Int32).toNatClampNeg p4)))] H := hP
                      have hD := toW hP hD rfl
                      refine lv_aload_n hx hb dX9_sight_174 rfl (lv_at hl 1 rfl) ?_
                      refine va_get (D := D) (ci := 9) (v := .ref (ma 55)) (C := RX9) (T := TX9) (N := 68) hx hb htb iX9 hown hK.1 hP 0 rfl rfl 55 (by decide) (htb _ k_1013) (fun _ h9 => h9) rfl dX9_sight_175 ?_
                      refine lv_iload_n hx hb dX9_sight_178 rfl (lv_at hl 2 rfl) ?_
                      refine lv_dup2_11 hx hb dX9_sight_179 rfl rfl ?_
                      refine va_iald hx hb hK.1 hP 3 0 rfl rfl (g_in rfl (by omega) (by omega)) dX9_sight_180 ?_
                      refine lv_topi (fun z_65 ez_65 => ?_)
                      have kz_65 := congrArg Int32.toInt ez_65
                      have jz_65 : 0 ≤ z_65.toInt ∧ z_65.toInt ≤ 40 := by rw [ez_65]; exact hr_m55 _ (g_ix rfl (by omega) (by omega))
                      refine lv_iconst (v := 1) hx hb dX9_sight_181 (by decide) ?_
                      refine lv_iadd hx hb dX9_sight_182 ?_
                      refine lv_topi (fun z_66 ez_66 => ?_)
                      have jz_66 : z_66.toInt = z_65.toInt + 1 := by rw [ez_66]; exact g_add rfl t_1 (by omega) (by omega)
                      refine va_iast hx hb hK.1 hP hD hS 3 0 rfl rfl (g_in rfl (by omega) (by omega)) dX9_sight_183 (fun H locs hP hD hS => ?_)
                      have hP : va_P D vwCl [(mh, .inr (9, G9 ma mcode mtoday moffs mmany msumW msumA msumR msumWW msumWA msumAA msumWR msumAR mupper mlower mrates mtaped mlaid mat mtk mtkAt mtkNumber mwaits mlisted mdealtMany)), ((ma 47), .inl (E 0, 5, .inl mf47)), ((ma 48), .inl (E 0, 5, .inl mf48)), ((ma 55), .inl (E 0, 5, .inl (upd mf55 (p0 : Int32).toNatClampNeg z_66))), ((ma 56), .inl (E 0, 200, .inl (upd mf56 (z_52 : Int32).toNatClampNeg p1))), ((ma 57), .inl (E 0, 600, .inl (upd g_60 (z_64 : Int32).toNatClampNeg p4)))] H := hP
                      have hD := toW hP hD rfl
                      have hv_67 : ∀ k : Nat, k < 5 → 0 ≤ ((upd mf55 (p0 : Int32).toNatClampNeg z_66) k).toInt ∧ ((upd mf55 (p0 : Int32).toNatClampNeg z_66) k).toInt ≤ 40 := upd_r hr_m55 (by (try dsimp only); omega)
                      refine lv_iload hx hb dX9_sight_184 (lv_at hl 0 rfl) ?_
                      have hP9 := hP.sub (ws' := [(mh, .inr (9, G9 ma mcode mtoday moffs mmany msumW msumA msumR msumWW msumWA msumAA msumWR msumAR mupper mlower mrates mtaped mlaid mat mtk mtkAt mtkNumber mwaits mlisted mdealtMany)), ((ma 47), .inl (E 0, 5, .inl mf47)), ((ma 48), .inl (E 0, 5, .inl mf48)), ((ma 55), .inl (E 0, 5, .inl (upd mf55 (p0 : Int32).toNatClampNeg z_66))), ((ma 56), .inl (E 0, 200, .inl (upd mf56 (z_52 : Int32).toNatClampNeg p1))), ((ma 57), .inl (E 0, 600, .inl (upd g_60 (z_64 : Int32).toNatClampNeg p4)))]) [0, 1, 2, 3, 4, 5] rfl
                      have hD9 := hD.sub (ws' := [(mh, .inr (9, G9 ma mcode mtoday moffs mmany msumW msumA msumR msumWW msumWA msumAA msumWR msumAR mupper mlower mrates mtaped mlaid mat mtk mtkAt mtkNumber mwaits mlisted mdealtMany)), ((ma 47), .inl (E 0, 5, .inl mf47)), ((ma 48), .inl (E 0, 5, .inl mf48)), ((ma 55), .inl (E 0, 5, .inl (upd mf55 (p0 : Int32).toNatClampNeg z_66))), ((ma 56), .inl (E 0, 200, .inl (upd mf56 (z_52 : Int32).toNatClampNeg p1))), ((ma 57), .inl (E 0, 600, .inl (upd g_60 (z_64 : Int32).toNatClampNeg p4)))]) [0, 1, 2, 3, 4, 5] (by decide) rfl
                      exact W.iret (v := z_23) hx hb hr (fun t ht hW => ⟨⟨z_23, ((upd mf55 (p0 : Int32).toNatClampNeg z_66), (upd mf56 (z_52 : Int32).toNatClampNeg p1), (upd g_60 (z_64 : Int32).toNatClampNeg p4)), rfl, hv_67, by rw [ht]; exact hP9, hD9⟩, hS.F ht⟩) hS.2.2 dX9_sight_186
                    ·
                      have ic_50 : z_23.toInt = 40 := (g_eq rfl t_40).mp c_50
                      clear c_50
                      refine lv_bipush (v := (-5)) hx hb dX9_sight_107 (by decide) ?_
                      have hP9 := hP.sub (ws' := [(mh, .inr (9, G9 ma mcode mtoday moffs mmany msumW msumA msumR msumWW msumWA msumAA msumWR msumAR mupper mlower mrates mtaped mlaid mat mtk mtkAt mtkNumber mwaits mlisted mdealtMany)), ((ma 47), .inl (E 0, 5, .inl mf47)), ((ma 48), .inl (E 0, 5, .inl mf48)), ((ma 55), .inl (E 0, 5, .inl mf55)), ((ma 56), .inl (E 0, 200, .inl mf56)), ((ma 57), .inl (E 0, 600, .inl mf57))]) [0, 1, 2, 3, 4, 5] rfl
                      have hD9 := hD.sub (ws' := [(mh, .inr (9, G9 ma mcode mtoday moffs mmany msumW msumA msumR msumWW msumWA msumAA msumWR msumAR mupper mlower mrates mtaped mlaid mat mtk mtkAt mtkNumber mwaits mlisted mdealtMany)), ((ma 47), .inl (E 0, 5, .inl mf47)), ((ma 48), .inl (E 0, 5, .inl mf48)), ((ma 55), .inl (E 0, 5, .inl mf55)), ((ma 56), .inl (E 0, 200, .inl mf56)), ((ma 57), .inl (E 0, 600, .inl mf57))]) [0, 1, 2, 3, 4, 5] (by decide) rfl
                      exact W.iret (v := (-5)) hx hb hr (fun t ht hW => ⟨⟨(-5), (mf55, mf56, mf57), rfl, hr_m55, by rw [ht]; exact hP9, hD9⟩, hS.F ht⟩) hS.2.2 dX9_sight_109
                  ·
                    have ic_49 : p1.toInt < z_48.toInt := by first | exact (g_lt rfl rfl).mp c_49 | (have h := mt (g_le rfl rfl).mpr c_49; omega)
                    clear c_49
                    refine lv_iconst (v := (-1)) hx hb dX9_sight_98 (by decide) ?_
                    have hP9 := hP.sub (ws' := [(mh, .inr (9, G9 ma mcode mtoday moffs mmany msumW msumA msumR msumWW msumWA msumAA msumWR msumAR mupper mlower mrates mtaped mlaid mat mtk mtkAt mtkNumber mwaits mlisted mdealtMany)), ((ma 47), .inl (E 0, 5, .inl mf47)), ((ma 48), .inl (E 0, 5, .inl mf48)), ((ma 55), .inl (E 0, 5, .inl mf55)), ((ma 56), .inl (E 0, 200, .inl mf56)), ((ma 57), .inl (E 0, 600, .inl mf57))]) [0, 1, 2, 3, 4, 5] rfl
                    have hD9 := hD.sub (ws' := [(mh, .inr (9, G9 ma mcode mtoday moffs mmany msumW msumA msumR msumWW msumWA msumAA msumWR msumAR mupper mlower mrates mtaped mlaid mat mtk mtkAt mtkNumber mwaits mlisted mdealtMany)), ((ma 47), .inl (E 0, 5, .inl mf47)), ((ma 48), .inl (E 0, 5, .inl mf48)), ((ma 55), .inl (E 0, 5, .inl mf55)), ((ma 56), .inl (E 0, 200, .inl mf56)), ((ma 57), .inl (E 0, 600, .inl mf57))]) [0, 1, 2, 3, 4, 5] (by decide) rfl
                    exact W.iret (v := (-1)) hx hb hr (fun t ht hW => ⟨⟨(-1), (mf55, mf56, mf57), rfl, hr_m55, by rw [ht]; exact hP9, hD9⟩, hS.F ht⟩) hS.2.2 dX9_sight_99
            ·
              have ic_22 : z_21.toInt ≠ 1 := mt (g_eq rfl t_1).mpr c_22
              clear c_22
              refine lv_bipush (v := (-4)) hx hb dX9_sight_54 (by decide) ?_
              have hP9 := hP.sub (ws' := [(mh, .inr (9, G9 ma mcode mtoday moffs mmany msumW msumA msumR msumWW msumWA msumAA msumWR msumAR mupper mlower mrates mtaped mlaid mat mtk mtkAt mtkNumber mwaits mlisted mdealtMany)), ((ma 47), .inl (E 0, 5, .inl mf47)), ((ma 48), .inl (E 0, 5, .inl mf48)), ((ma 55), .inl (E 0, 5, .inl mf55)), ((ma 56), .inl (E 0, 200, .inl mf56)), ((ma 57), .inl (E 0, 600, .inl mf57))]) [0, 1, 2, 3, 4, 5] rfl
              have hD9 := hD.sub (ws' := [(mh, .inr (9, G9 ma mcode mtoday moffs mmany msumW msumA msumR msumWW msumWA msumAA msumWR msumAR mupper mlower mrates mtaped mlaid mat mtk mtkAt mtkNumber mwaits mlisted mdealtMany)), ((ma 47), .inl (E 0, 5, .inl mf47)), ((ma 48), .inl (E 0, 5, .inl mf48)), ((ma 55), .inl (E 0, 5, .inl mf55)), ((ma 56), .inl (E 0, 200, .inl mf56)), ((ma 57), .inl (E 0, 600, .inl mf57))]) [0, 1, 2, 3, 4, 5] (by decide) rfl
              exact W.iret (v := (-4)) hx hb hr (fun t ht hW => ⟨⟨(-4), (mf55, mf56, mf57), rfl, hr_m55, by rw [ht]; exact hP9, hD9⟩, hS.F ht⟩) hS.2.2 dX9_sight_56
          ·
            refine W_top (y := .int 0) (by rw [hr_17]) ?_
            refine lv_if_ne (tgt := 44) hx hb dX9_sight_39 (by decide) (fun c_68 => absurd (by decide) c_68) (fun c_68 => ?_)
            refine lv_iconst (v := (-1)) hx hb dX9_sight_42 (by decide) ?_
            have hP9 := hP.sub (ws' := [(mh, .inr (9, G9 ma mcode mtoday moffs mmany msumW msumA msumR msumWW msumWA msumAA msumWR msumAR mupper mlower mrates mtaped mlaid mat mtk mtkAt mtkNumber mwaits mlisted mdealtMany)), ((ma 47), .inl (E 0, 5, .inl mf47)), ((ma 48), .inl (E 0, 5, .inl mf48)), ((ma 55), .inl (E 0, 5, .inl mf55)), ((ma 56), .inl (E 0, 200, .inl mf56)), ((ma 57), .inl (E 0, 600, .inl mf57))]) [0, 1, 2, 3, 4, 5] rfl
            have hD9 := hD.sub (ws' := [(mh, .inr (9, G9 ma mcode mtoday moffs mmany msumW msumA msumR msumWW msumWA msumAA msumWR msumAR mupper mlower mrates mtaped mlaid mat mtk mtkAt mtkNumber mwaits mlisted mdealtMany)), ((ma 47), .inl (E 0, 5, .inl mf47)), ((ma 48), .inl (E 0, 5, .inl mf48)), ((ma 55), .inl (E 0, 5, .inl mf55)), ((ma 56), .inl (E 0, 200, .inl mf56)), ((ma 57), .inl (E 0, 600, .inl mf57))]) [0, 1, 2, 3, 4, 5] (by decide) rfl
            exact W.iret (v := (-1)) hx hb hr (fun t ht hW => ⟨⟨(-1), (mf55, mf56, mf57), rfl, hr_m55, by rw [ht]; exact hP9, hD9⟩, hS.F ht⟩) hS.2.2 dX9_sight_43
        ·
          refine W_top (y := .int 0) (by rw [hr_13]) ?_
          refine lv_if_eq (tgt := 42) hx hb dX9_sight_31 (by decide) (fun c_69 => ?_) (fun c_69 => absurd (by decide) c_69)
          refine lv_iconst (v := (-1)) hx hb dX9_sight_42 (by decide) ?_
          have hP9 := hP.sub (ws' := [(mh, .inr (9, G9 ma mcode mtoday moffs mmany msumW msumA msumR msumWW msumWA msumAA msumWR msumAR mupper mlower mrates mtaped mlaid mat mtk mtkAt mtkNumber mwaits mlisted mdealtMany)), ((ma 47), .inl (E 0, 5, .inl mf47)), ((ma 48), .inl (E 0, 5, .inl mf48)), ((ma 55), .inl (E 0, 5, .inl mf55)), ((ma 56), .inl (E 0, 200, .inl mf56)), ((ma 57), .inl (E 0, 600, .inl mf57))]) [0, 1, 2, 3, 4, 5] rfl
          have hD9 := hD.sub (ws' := [(mh, .inr (9, G9 ma mcode mtoday moffs mmany msumW msumA msumR msumWW msumWA msumAA msumWR msumAR mupper mlower mrates mtaped mlaid mat mtk mtkAt mtkNumber mwaits mlisted mdealtMany)), ((ma 47), .inl (E 0, 5, .inl mf47)), ((ma 48), .inl (E 0, 5, .inl mf48)), ((ma 55), .inl (E 0, 5, .inl mf55)), ((ma 56), .inl (E 0, 200, .inl mf56)), ((ma 57), .inl (E 0, 600, .inl mf57))]) [0, 1, 2, 3, 4, 5] (by decide) rfl
          exact W.iret (v := (-1)) hx hb hr (fun t ht hW => ⟨⟨(-1), (mf55, mf56, mf57), rfl, hr_m55, by rw [ht]; exact hP9, hD9⟩, hS.F ht⟩) hS.2.2 dX9_sight_43
      ·
        refine W_top (y := .int 0) (by rw [hr_9]) ?_
        refine lv_if_eq (tgt := 42) hx hb dX9_sight_23 (by decide) (fun c_70 => ?_) (fun c_70 => absurd (by decide) c_70)
        refine lv_iconst (v := (-1)) hx hb dX9_sight_42 (by decide) ?_
        have hP9 := hP.sub (ws' := [(mh, .inr (9, G9 ma mcode mtoday moffs mmany msumW msumA msumR msumWW msumWA msumAA msumWR msumAR mupper mlower mrates mtaped mlaid mat mtk mtkAt mtkNumber mwaits mlisted mdealtMany)), ((ma 47), .inl (E 0, 5, .inl mf47)), ((ma 48), .inl (E 0, 5, .inl mf48)), ((ma 55), .inl (E 0, 5, .inl mf55)), ((ma 56), .inl (E 0, 200, .inl mf56)), ((ma 57), .inl (E 0, 600, .inl mf57))]) [0, 1, 2, 3, 4, 5] rfl
        have hD9 := hD.sub (ws' := [(mh, .inr (9, G9 ma mcode mtoday moffs mmany msumW msumA msumR msumWW msumWA msumAA msumWR msumAR mupper mlower mrates mtaped mlaid mat mtk mtkAt mtkNumber mwaits mlisted mdealtMany)), ((ma 47), .inl (E 0, 5, .inl mf47)), ((ma 48), .inl (E 0, 5, .inl mf48)), ((ma 55), .inl (E 0, 5, .inl mf55)), ((ma 56), .inl (E 0, 200, .inl mf56)), ((ma 57), .inl (E 0, 600, .inl mf57))]) [0, 1, 2, 3, 4, 5] (by decide) rfl
        exact W.iret (v := (-1)) hx hb hr (fun t ht hW => ⟨⟨(-1), (mf55, mf56, mf57), rfl, hr_m55, by rw [ht]; exact hP9, hD9⟩, hS.F ht⟩) hS.2.2 dX9_sight_43
    ·
      try simp only [t_0] at hw_6
      refine W_top (y := .int 0) (by rw [hr_5]) ?_
      refine lv_if_eq (tgt := 42) hx hb dX9_sight_16 (by decide) (fun c_71 => ?_) (fun c_71 => absurd (by decide) c_71)
      refine lv_iconst (v := (-1)) hx hb dX9_sight_42 (by decide) ?_
      have hP9 := hP.sub (ws' := [(mh, .inr (9, G9 ma mcode mtoday moffs mmany msumW msumA msumR msumWW msumWA msumAA msumWR msumAR mupper mlower mrates mtaped mlaid mat mtk mtkAt mtkNumber mwaits mlisted mdealtMany)), ((ma 47), .inl (E 0, 5, .inl mf47)), ((ma 48), .inl (E 0, 5, .inl mf48)), ((ma 55), .inl (E 0, 5, .inl mf55)), ((ma 56), .inl (E 0, 200, .inl mf56)), ((ma 57), .inl (E 0, 600, .inl mf57))]) [0, 1, 2, 3, 4, 5] rfl
      have hD9 := hD.sub (ws' := [(mh, .inr (9, G9 ma mcode mtoday moffs mmany msumW msumA msumR msumWW msumWA msumAA msumWR msumAR mupper mlower mrates mtaped mlaid mat mtk mtkAt mtkNumber mwaits mlisted mdealtMany)), ((ma 47), .inl (E 0, 5, .inl mf47)), ((ma 48), .inl (E 0, 5, .inl mf48)), ((ma 55), .inl (E 0, 5, .inl mf55)), ((ma 56), .inl (E 0, 200, .inl mf56)), ((ma 57), .inl (E 0, 600, .inl mf57))]) [0, 1, 2, 3, 4, 5] (by decide) rfl
      exact W.iret (v := (-1)) hx hb hr (fun t ht hW => ⟨⟨(-1), (mf55, mf56, mf57), rfl, hr_m55, by rw [ht]; exact hP9, hD9⟩, hS.F ht⟩) hS.2.2 dX9_sight_43
  ·
    refine W_top (y := .int 0) (by rw [hr_1]) ?_
    refine lv_if_eq (tgt := 42) hx hb dX9_sight_4 (by decide) (fun c_72 => ?_) (fun c_72 => absurd (by decide) c_72)
    refine lv_iconst (v := (-1)) hx hb dX9_sight_42 (by decide) ?_
    have hP9 := hP.sub (ws' := [(mh, .inr (9, G9 ma mcode mtoday moffs mmany msumW msumA msumR msumWW msumWA msumAA msumWR msumAR mupper mlower mrates mtaped mlaid mat mtk mtkAt mtkNumber mwaits mlisted mdealtMany)), ((ma 47), .inl (E 0, 5, .inl mf47)), ((ma 48), .inl (E 0, 5, .inl mf48)), ((ma 55), .inl (E 0, 5, .inl mf55)), ((ma 56), .inl (E 0, 200, .inl mf56)), ((ma 57), .inl (E 0, 600, .inl mf57))]) [0, 1, 2, 3, 4, 5] rfl
    have hD9 := hD.sub (ws' := [(mh, .inr (9, G9 ma mcode mtoday moffs mmany msumW msumA msumR msumWW msumWA msumAA msumWR msumAR mupper mlower mrates mtaped mlaid mat mtk mtkAt mtkNumber mwaits mlisted mdealtMany)), ((ma 47), .inl (E 0, 5, .inl mf47)), ((ma 48), .inl (E 0, 5, .inl mf48)), ((ma 55), .inl (E 0, 5, .inl mf55)), ((ma 56), .inl (E 0, 200, .inl mf56)), ((ma 57), .inl (E 0, 600, .inl mf57))]) [0, 1, 2, 3, 4, 5] (by decide) rfl
    exact W.iret (v := (-1)) hx hb hr (fun t ht hW => ⟨⟨(-1), (mf55, mf56, mf57), rfl, hr_m55, by rw [ht]; exact hP9, hD9⟩, hS.F ht⟩) hS.2.2 dX9_sight_43
set_option maxHeartbeats 4000000 in
set_option maxRecDepth 100000 in
theorem g_X9_doubt (l : Launch) (D : va_G) (E : Nat → Nat) (mh : Nat) (ma : Nat → Nat) (mcode : Int32) (mtoday : Int32) (moffs : Int32) (mmany : Int64) (msumW : Int64) (msumA : Int64) (msumR : Int64) (msumWW : Int64) (msumWA : Int64) (msumAA : Int64) (msumWR : Int64) (msumAR : Int64) (mupper : Int64) (mlower : Int64) (mrates : Int32) (mtaped : Int32) (mlaid : Int32) (mat : Int32) (mtk : Int32) (mtkAt : Int32) (mtkNumber : Int32) (mwaits : Int32) (mlisted : Int32) (mdealtMany : Int32) (mf62 : Nat → Int32) (p0 : Int32) (sz : Nat) (hi_m : (0 ≤ mtoday.toInt ∧ mtoday.toInt ≤ 399) ∧ (0 ≤ moffs.toInt ∧ moffs.toInt ≤ 60) ∧ (0 ≤ mrates.toInt ∧ mrates.toInt ≤ 60) ∧ (0 ≤ mtaped.toInt ∧ mtaped.toInt ≤ 120) ∧ (0 ≤ mlisted.toInt ∧ mlisted.toInt ≤ 9) ∧ (0 ≤ mdealtMany.toInt ∧ mdealtMany.toInt ≤ 9)) : Met l yX9_doubt (wl yX9_doubt cX9_doubt 2 (some .int)) (RM 1 0 0) (mu_P D E [.ref mh, .int p0] [(mh, .inr (9, G9 ma mcode mtoday moffs mmany msumW msumA msumR msumWW msumWA msumAA msumWR msumAR mupper mlower mrates mtaped mlaid mat mtk mtkAt mtkNumber mwaits mlisted mdealtMany)), ((ma 62), .inl (E 0, 9, .inl mf62))] sz) (va_Qi (fun (r : Int32) (u : (Nat → Int32) × (Int32)) => (0 ≤ u.2.toInt ∧ u.2.toInt ≤ 9) ∧ ((¬ (1 ≤ p0.toInt ∧ p0.toInt ≤ 9999) ∧ r.toInt = -1 ∧ u.2.toInt = mlisted.toInt) ∨ ((1 ≤ p0.toInt ∧ p0.toInt ≤ 9999) ∧ mlisted.toInt = 9 ∧ r.toInt = -5 ∧ u.2.toInt = mlisted.toInt) ∨ ((1 ≤ p0.toInt ∧ p0.toInt ≤ 9999) ∧ mlisted.toInt < 9 ∧ r.toInt = mlisted.toInt + 1 ∧ u.2.toInt = r.toInt))) (mu_B D (va_A [(mh, .inr (9, G9 ma mcode mtoday moffs mmany msumW msumA msumR msumWW msumWA msumAA msumWR msumAR mupper mlower mrates mtaped mlaid mat mtk mtkAt mtkNumber mwaits mlisted mdealtMany)), ((ma 62), .inl (E 0, 9, .inl mf62))] sz) (fun (u : (Nat → Int32) × (Int32)) => [(mh, .inr (9, G9 ma mcode mtoday moffs mmany msumW msumA msumR msumWW msumWA msumAA msumWR msumAR mupper mlower mrates mtaped mlaid mat mtk mtkAt mtkNumber mwaits u.2 mdealtMany)), ((ma 62), .inl (E 0, 9, .inl u.1))])) (va_A [(mh, .inr (9, G9 ma mcode mtoday moffs mmany msumW msumA msumR msumWW msumWA msumAA msumWR msumAR mupper mlower mrates mtaped mlaid mat mtk mtkAt mtkNumber mwaits mlisted mdealtMany)), ((ma 62), .inl (E 0, 9, .inl mf62))] sz)) 0 0 (va_A [(mh, .inr (9, G9 ma mcode mtoday moffs mmany msumW msumA msumR msumWW msumWA msumAA msumWR msumAR mupper mlower mrates mtaped mlaid mat mtk mtkAt mtkNumber mwaits mlisted mdealtMany)), ((ma 62), .inl (E 0, 9, .inl mf62))] sz) := by
  refine Met.ofW (cc := cX9_doubt) (maxL := 2) (ret := (some .int)) (by decide) rfl ?_
  intro p e s m args below meth c s₁ B hml hv
  obtain ⟨rfl, hsz, hP, hK, hD0⟩ := hv
  have hx := B.exec; have hb := B.bytes; have hr := B.returns
  have hts := atoms_spec (ws := wl yX9_doubt cX9_doubt 2 (some .int)) B.pre
  have htb : ∀ w ∈ tb, w.before _ s = true := fun w h => hts w (List.mem_cons_of_mem _ h)
  have hown : s.vm.findClass RX9 = some m.cls := findClass_of_methodNamed B.named
  have hlocks := B.notSynchronized
  subst hsz
  have hD := hD0.self (sz := s.heap.size)
  generalize hAe : va_A [(mh, .inr (9, G9 ma mcode mtoday moffs mmany msumW msumA msumR msumWW msumWA msumAA msumWR msumAR mupper mlower mrates mtaped mlaid mat mtk mtkAt mtkNumber mwaits mlisted mdealtMany)), ((ma 62), .inl (E 0, 9, .inl mf62))] s.heap.size = A at hD ⊢
  have hA : ∀ q : Nat, s.heap.size ≤ q → A q := fun q h => by rw [← hAe]; exact Or.inr h
  have hS : va_S A s.heap s.heap [] := va_S.rf
  have hP : va_P D vwCl [(mh, .inr (9, G9 ma mcode mtoday moffs mmany msumW msumA msumR msumWW msumWA msumAA msumWR msumAR mupper mlower mrates mtaped mlaid mat mtk mtkAt mtkNumber mwaits mlisted mdealtMany)), ((ma 62), .inl (E 0, 9, .inl mf62))] s.heap := hP
  have hl := lv_entry ([.ref mh, .int p0]) (n := 2) (Nat.le_of_ble_eq_true rfl)
  rw [lg_entry_eq]
  generalize (lg_sl ([.ref mh, .int p0]) ++ List.replicate (2 - (lg_sl ([.ref mh, .int p0])).length) Slot.unset).toArray = ls at hl ⊢
  have hl : lv_has ls 2 [(0, .ref mh), (1, .int p0)] := hl
  have lo_p0 := i_lo p0; have hi_p0 := i_hi p0
  refine lv_iload_n hx hb dX9_doubt_0 rfl (lv_at hl 1 rfl) ?_
  refine lv_iconst (v := 1) hx hb dX9_doubt_1 (by decide) ?_
  refine lv_sipush (v := 9999) hx hb dX9_doubt_2 (by decide) ?_
  refine callRS (rest := []) (As := [.int p0, .int 1, .int 9999]) hx hb hml hown htb hK (g_X9_in l D E p0 1 9999 ) ok_X9_in k_1168 k_1169 k_9 k_1170 ⟨(Nat.le_of_ble_eq_true rfl), (Nat.le_of_ble_eq_true rfl)⟩ ⟨(Nat.le_of_ble_eq_true rfl), (Nat.le_of_ble_eq_true rfl)⟩ hl.1 (Nat.le_of_ble_eq_true rfl) rfl rfl dX9_doubt_5 (hP.sub (ws' := ([] : va_W)) [] rfl) (fun r_1 hw_2 => ?_)
  try simp only [t_1, t_9999] at hw_2
  rcases hw_2 with ⟨hr_1, hw_2⟩ | ⟨hr_1, hw_2⟩
  ·
    try simp only [t_1, t_9999] at hw_2
    refine W_top (y := .int 1) (by rw [hr_1]) ?_
    refine lv_if_ne (tgt := 13) hx hb dX9_doubt_8 (by decide) (fun c_4 => ?_) (fun c_4 => absurd c_4 (by decide))
    refine lv_aload_n hx hb dX9_doubt_13 rfl (lv_at hl 0 rfl) ?_
    refine va_get (D := D) (ci := 9) (v := .int mlisted) (C := RX9) (T := TX9) (N := 68) hx hb htb iX9 hown hK.1 hP 0 rfl rfl 61 (by decide) (htb _ k_1019) (fun _ h9 => h9) rfl dX9_doubt_14 ?_
    refine lv_bipush (v := 9) hx hb dX9_doubt_17 (by decide) ?_
    refine lv_icmp_ne (tgt := 25) hx hb dX9_doubt_19 (by decide) (fun c_5 => ?_) (fun c_5 => ?_)
    ·
      have ic_5 : mlisted.toInt ≠ 9 := mt (g_eq rfl t_9).mpr c_5
      clear c_5
      refine lv_aload_n hx hb dX9_doubt_25 rfl (lv_at hl 0 rfl) ?_
      refine va_get (D := D) (ci := 9) (v := .ref (ma 62)) (C := RX9) (T := TX9) (N := 68) hx hb htb iX9 hown hK.1 hP 0 rfl rfl 62 (by decide) (htb _ k_1020) (fun _ h9 => h9) rfl dX9_doubt_26 ?_
      refine lv_aload_n hx hb dX9_doubt_29 rfl (lv_at hl 0 rfl) ?_
      refine va_get (D := D) (ci := 9) (v := .int mlisted) (C := RX9) (T := TX9) (N := 68) hx hb htb iX9 hown hK.1 hP 0 rfl rfl 61 (by decide) (htb _ k_1019) (fun _ h9 => h9) rfl dX9_doubt_30 ?_
      refine lv_iload_n hx hb dX9_doubt_33 rfl (lv_at hl 1 rfl) ?_
      refine va_iast hx hb hK.1 hP hD hS 1 0 rfl rfl (g_in rfl (by omega) (by omega)) dX9_doubt_34 (fun H locs hP hD hS => ?_)
      have hP : va_P D vwCl [(mh, .inr (9, G9 ma mcode mtoday moffs mmany msumW msumA msumR msumWW msumWA msumAA msumWR msumAR mupper mlower mrates mtaped mlaid mat mtk mtkAt mtkNumber mwaits mlisted mdealtMany)), ((ma 62), .inl (E 0, 9, .inl (upd mf62 (mlisted : Int32).toNatClampNeg p0)))] H := hP
      have hD := toW hP hD rfl
      refine lv_aload_n hx hb dX9_doubt_35 rfl (lv_at hl 0 rfl) ?_
      refine lv_dup hx hb dX9_doubt_36 rfl ?_
      refine va_get (D := D) (ci := 9) (v := .int mlisted) (C := RX9) (T := TX9) (N := 68) hx hb htb iX9 hown hK.1 hP 0 rfl rfl 61 (by decide) (htb _ k_1019) (fun _ h9 => h9) rfl dX9_doubt_37 ?_
      refine lv_iconst (v := 1) hx hb dX9_doubt_40 (by decide) ?_
      refine lv_iadd hx hb dX9_doubt_41 ?_
      refine lv_topi (fun z_6 ez_6 => ?_)
      have jz_6 : z_6.toInt = mlisted.toInt + 1 := by rw [ez_6]; exact g_add rfl t_1 (by omega) (by omega)
      refine va_put (D := D) (ci := 9) (v := .int z_6) (ty := .int) (C := RX9) (T := TX9) (N := 68) hx hb htb iX9 tyX9 tyX9_ok nmX9 hown hK.1 hP hD hS 0 rfl rfl 61 (by decide) (htb _ k_1019) (fun _ h9 => h9) rfl (by decide +kernel) rfl rfl (Nat.le_of_ble_eq_true rfl) dX9_doubt_42 (fun H locs hP hD hS => ?_)
      have hP : va_P D vwCl [(mh, .inr (9, G9 ma mcode mtoday moffs mmany msumW msumA msumR msumWW msumWA msumAA msumWR msumAR mupper mlower mrates mtaped mlaid mat mtk mtkAt mtkNumber mwaits z_6 mdealtMany)), ((ma 62), .inl (E 0, 9, .inl (upd mf62 (mlisted : Int32).toNatClampNeg p0)))] H := hP
      have hD := toW hP hD rfl
      refine lv_aload_n hx hb dX9_doubt_45 rfl (lv_at hl 0 rfl) ?_
      refine va_get (D := D) (ci := 9) (v := .int z_6) (C := RX9) (T := TX9) (N := 68) hx hb htb iX9 hown hK.1 hP 0 rfl rfl 61 (by decide) (htb _ k_1019) (fun _ h9 => h9) rfl dX9_doubt_46 ?_
      have hP9 := hP.sub (ws' := [(mh, .inr (9, G9 ma mcode mtoday moffs mmany msumW msumA msumR msumWW msumWA msumAA msumWR msumAR mupper mlower mrates mtaped mlaid mat mtk mtkAt mtkNumber mwaits z_6 mdealtMany)), ((ma 62), .inl (E 0, 9, .inl (upd mf62 (mlisted : Int32).toNatClampNeg p0)))]) [0, 1] rfl
      have hD9 := hD.sub (ws' := [(mh, .inr (9, G9 ma mcode mtoday moffs mmany msumW msumA msumR msumWW msumWA msumAA msumWR msumAR mupper mlower mrates mtaped mlaid mat mtk mtkAt mtkNumber mwaits z_6 mdealtMany)), ((ma 62), .inl (E 0, 9, .inl (upd mf62 (mlisted : Int32).toNatClampNeg p0)))]) [0, 1] (by decide) rfl
      exact W.iret (v := z_6) hx hb hr (fun t ht hW => ⟨⟨z_6, ((upd mf62 (mlisted : Int32).toNatClampNeg p0), z_6), rfl, ⟨(by (try dsimp only); omega), (by (try dsimp only); omega)⟩, by rw [ht]; exact hP9, hD9⟩, hS.F ht⟩) hS.2.2 dX9_doubt_49
    ·
      have ic_5 : mlisted.toInt = 9 := (g_eq rfl t_9).mp c_5
      clear c_5
      refine lv_bipush (v := (-5)) hx hb dX9_doubt_22 (by decide) ?_
      have hP9 := hP.sub (ws' := [(mh, .inr (9, G9 ma mcode mtoday moffs mmany msumW msumA msumR msumWW msumWA msumAA msumWR msumAR mupper mlower mrates mtaped mlaid mat mtk mtkAt mtkNumber mwaits mlisted mdealtMany)), ((ma 62), .inl (E 0, 9, .inl mf62))]) [0, 1] rfl
      have hD9 := hD.sub (ws' := [(mh, .inr (9, G9 ma mcode mtoday moffs mmany msumW msumA msumR msumWW msumWA msumAA msumWR msumAR mupper mlower mrates mtaped mlaid mat mtk mtkAt mtkNumber mwaits mlisted mdealtMany)), ((ma 62), .inl (E 0, 9, .inl mf62))]) [0, 1] (by decide) rfl
      exact W.iret (v := (-5)) hx hb hr (fun t ht hW => ⟨⟨(-5), (mf62, mlisted), rfl, ⟨(by (try dsimp only); omega), (by have h0 := t_m5; (try dsimp only); omega)⟩, by rw [ht]; exact hP9, hD9⟩, hS.F ht⟩) hS.2.2 dX9_doubt_24
  ·
    try simp only [t_1, t_9999] at hw_2
    refine W_top (y := .int 0) (by rw [hr_1]) ?_
    refine lv_if_ne (tgt := 13) hx hb dX9_doubt_8 (by decide) (fun c_7 => absurd (by decide) c_7) (fun c_7 => ?_)
    refine lv_iconst (v := (-1)) hx hb dX9_doubt_11 (by decide) ?_
    have hP9 := hP.sub (ws' := [(mh, .inr (9, G9 ma mcode mtoday moffs mmany msumW msumA msumR msumWW msumWA msumAA msumWR msumAR mupper mlower mrates mtaped mlaid mat mtk mtkAt mtkNumber mwaits mlisted mdealtMany)), ((ma 62), .inl (E 0, 9, .inl mf62))]) [0, 1] rfl
    have hD9 := hD.sub (ws' := [(mh, .inr (9, G9 ma mcode mtoday moffs mmany msumW msumA msumR msumWW msumWA msumAA msumWR msumAR mupper mlower mrates mtaped mlaid mat mtk mtkAt mtkNumber mwaits mlisted mdealtMany)), ((ma 62), .inl (E 0, 9, .inl mf62))]) [0, 1] (by decide) rfl
    exact W.iret (v := (-1)) hx hb hr (fun t ht hW => ⟨⟨(-1), (mf62, mlisted), rfl, ⟨(by (try dsimp only); omega), (by have h0 := t_m1; (try dsimp only); omega)⟩, by rw [ht]; exact hP9, hD9⟩, hS.F ht⟩) hS.2.2 dX9_doubt_12
set_option maxHeartbeats 4000000 in
set_option maxRecDepth 100000 in
theorem g_X9_dealt (l : Launch) (D : va_G) (E : Nat → Nat) (mh : Nat) (ma : Nat → Nat) (mcode : Int32) (mtoday : Int32) (moffs : Int32) (mmany : Int64) (msumW : Int64) (msumA : Int64) (msumR : Int64) (msumWW : Int64) (msumWA : Int64) (msumAA : Int64) (msumWR : Int64) (msumAR : Int64) (mupper : Int64) (mlower : Int64) (mrates : Int32) (mtaped : Int32) (mlaid : Int32) (mat : Int32) (mtk : Int32) (mtkAt : Int32) (mtkNumber : Int32) (mwaits : Int32) (mlisted : Int32) (mdealtMany : Int32) (mf63 : Nat → Int32) (p0 : Int32) (hi_m : (0 ≤ mtoday.toInt ∧ mtoday.toInt ≤ 399) ∧ (0 ≤ moffs.toInt ∧ moffs.toInt ≤ 60) ∧ (0 ≤ mrates.toInt ∧ mrates.toInt ≤ 60) ∧ (0 ≤ mtaped.toInt ∧ mtaped.toInt ≤ 120) ∧ (0 ≤ mlisted.toInt ∧ mlisted.toInt ≤ 9) ∧ (0 ≤ mdealtMany.toInt ∧ mdealtMany.toInt ≤ 9)) : Met l yX9_dealt (wl yX9_dealt cX9_dealt 2 (some .int)) (RM 1 0 0) (rd_P D E [.ref mh, .int p0] [(mh, .inr (9, G9 ma mcode mtoday moffs mmany msumW msumA msumR msumWW msumWA msumAA msumWR msumAR mupper mlower mrates mtaped mlaid mat mtk mtkAt mtkNumber mwaits mlisted mdealtMany)), ((ma 63), .inl (E 0, 9, .inl mf63))]) (rd_Q (fun r => True)) 0 0 (fun _ => False) := by
  refine Met.ofW (cc := cX9_dealt) (maxL := 2) (ret := (some .int)) (by decide) rfl ?_
  intro p e s m args below meth c s₁ B hml hv
  obtain ⟨rfl, hP, hK⟩ := hv
  have hx := B.exec; have hb := B.bytes; have hr := B.returns
  have hts := atoms_spec (ws := wl yX9_dealt cX9_dealt 2 (some .int)) B.pre
  have htb : ∀ w ∈ tb, w.before _ s = true := fun w h => hts w (List.mem_cons_of_mem _ h)
  have hown : s.vm.findClass RX9 = some m.cls := findClass_of_methodNamed B.named
  have hlocks := B.notSynchronized
  have hP : va_P D vwCl [(mh, .inr (9, G9 ma mcode mtoday moffs mmany msumW msumA msumR msumWW msumWA msumAA msumWR msumAR mupper mlower mrates mtaped mlaid mat mtk mtkAt mtkNumber mwaits mlisted mdealtMany)), ((ma 63), .inl (E 0, 9, .inl mf63))] s.heap := hP
  have hl := lv_entry ([.ref mh, .int p0]) (n := 2) (Nat.le_of_ble_eq_true rfl)
  rw [lg_entry_eq]
  generalize (lg_sl ([.ref mh, .int p0]) ++ List.replicate (2 - (lg_sl ([.ref mh, .int p0])).length) Slot.unset).toArray = ls at hl ⊢
  have hl : lv_has ls 2 [(0, .ref mh), (1, .int p0)] := hl
  have lo_p0 := i_lo p0; have hi_p0 := i_hi p0
  refine lv_iload_n hx hb dX9_dealt_0 rfl (lv_at hl 1 rfl) ?_
  refine lv_iconst (v := 0) hx hb dX9_dealt_1 (by decide) ?_
  refine lv_aload_n hx hb dX9_dealt_2 rfl (lv_at hl 0 rfl) ?_
  refine va_get (D := D) (ci := 9) (v := .int mdealtMany) (C := RX9) (T := TX9) (N := 68) hx hb htb iX9 hown hK.1 hP 0 rfl rfl 64 (by decide) (htb _ k_1022) (fun _ h9 => h9) rfl dX9_dealt_3 ?_
  refine lv_iconst (v := 1) hx hb dX9_dealt_6 (by decide) ?_
  refine lv_isub hx hb dX9_dealt_7 ?_
  refine lv_topi (fun z_1 ez_1 => ?_)
  have jz_1 : z_1.toInt = mdealtMany.toInt - 1 := by rw [ez_1]; exact g_sub rfl t_1 (by omega) (by omega)
  refine callRS (rest := []) (As := [.int p0, .int 0, .int z_1]) hx hb hml hown htb hK (g_X9_in l D E p0 0 z_1 ) ok_X9_in k_1168 k_1169 k_9 k_1170 ⟨(Nat.le_of_ble_eq_true rfl), (Nat.le_of_ble_eq_true rfl)⟩ ⟨(Nat.le_of_ble_eq_true rfl), (Nat.le_of_ble_eq_true rfl)⟩ hl.1 (Nat.le_of_ble_eq_true rfl) rfl rfl dX9_dealt_8 (hP.sub (ws' := ([] : va_W)) [] rfl) (fun r_2 hw_3 => ?_)
  try simp only [t_0] at hw_3
  rcases hw_3 with ⟨hr_2, hw_3⟩ | ⟨hr_2, hw_3⟩
  ·
    try simp only [t_0] at hw_3
    refine W_top (y := .int 1) (by rw [hr_2]) ?_
    refine lv_if_ne (tgt := 19) hx hb dX9_dealt_11 (by decide) (fun c_5 => ?_) (fun c_5 => absurd c_5 (by decide))
    refine lv_aload_n hx hb dX9_dealt_19 rfl (lv_at hl 0 rfl) ?_
    refine va_get (D := D) (ci := 9) (v := .ref (ma 63)) (C := RX9) (T := TX9) (N := 68) hx hb htb iX9 hown hK.1 hP 0 rfl rfl 63 (by decide) (htb _ k_1021) (fun _ h9 => h9) rfl dX9_dealt_20 ?_
    refine lv_iload_n hx hb dX9_dealt_23 rfl (lv_at hl 1 rfl) ?_
    refine va_iald hx hb hK.1 hP 1 0 rfl rfl (g_in rfl (by omega) (by omega)) dX9_dealt_24 ?_
    refine lv_topi (fun z_6 ez_6 => ?_)
    have kz_6 := congrArg Int32.toInt ez_6
    refine lv_iconst (v := 3) hx hb dX9_dealt_25 (by decide) ?_
    refine lv_icmp_ne (tgt := 33) hx hb dX9_dealt_26 (by decide) (fun c_7 => ?_) (fun c_7 => ?_)
    ·
      have ic_7 : z_6.toInt ≠ 3 := mt (g_eq rfl t_3).mpr c_7
      clear c_7
      refine lv_aload_n hx hb dX9_dealt_33 rfl (lv_at hl 0 rfl) ?_
      refine va_get (D := D) (ci := 9) (v := .ref (ma 63)) (C := RX9) (T := TX9) (N := 68) hx hb htb iX9 hown hK.1 hP 0 rfl rfl 63 (by decide) (htb _ k_1021) (fun _ h9 => h9) rfl dX9_dealt_34 ?_
      refine lv_iload_n hx hb dX9_dealt_37 rfl (lv_at hl 1 rfl) ?_
      refine va_iald hx hb hK.1 hP 1 0 rfl rfl (g_in rfl (by omega) (by omega)) dX9_dealt_38 ?_
      refine lv_topi (fun z_8 ez_8 => ?_)
      have kz_8 := congrArg Int32.toInt ez_8
      exact W.iret (v := z_8) hx hb hr (fun t ht hW => ⟨z_8, rfl, trivial, ht⟩) (fun q h => by cases h) dX9_dealt_39
    ·
      have ic_7 : z_6.toInt = 3 := (g_eq rfl t_3).mp c_7
      clear c_7
      refine lv_iconst (v := (-1)) hx hb dX9_dealt_29 (by decide) ?_
      refine lv_goto (tgt := 39) hx hb dX9_dealt_30 (by decide) ?_
      exact W.iret (v := (-1)) hx hb hr (fun t ht hW => ⟨(-1), rfl, trivial, ht⟩) (fun q h => by cases h) dX9_dealt_39
  ·
    try simp only [t_0] at hw_3
    refine W_top (y := .int 0) (by rw [hr_2]) ?_
    refine lv_if_ne (tgt := 19) hx hb dX9_dealt_11 (by decide) (fun c_9 => absurd (by decide) c_9) (fun c_9 => ?_)
    refine lv_ldc hx hb hown (htb _ k_1205) dX9_dealt_14 ?_
    refine lv_goto (tgt := 39) hx hb dX9_dealt_16 (by decide) ?_
    exact W.iret (v := (-2000000000)) hx hb hr (fun t ht hW => ⟨(-2000000000), rfl, trivial, ht⟩) (fun q h => by cases h) dX9_dealt_39
set_option maxHeartbeats 4000000 in
set_option maxRecDepth 100000 in
theorem g_X9_back (l : Launch) (D : va_G) (E : Nat → Nat) (mh : Nat) (ma : Nat → Nat) (mcode : Int32) (mtoday : Int32) (moffs : Int32) (mmany : Int64) (msumW : Int64) (msumA : Int64) (msumR : Int64) (msumWW : Int64) (msumWA : Int64) (msumAA : Int64) (msumWR : Int64) (msumAR : Int64) (mupper : Int64) (mlower : Int64) (mrates : Int32) (mtaped : Int32) (mlaid : Int32) (mat : Int32) (mtk : Int32) (mtkAt : Int32) (mtkNumber : Int32) (mwaits : Int32) (mlisted : Int32) (mdealtMany : Int32) (mf5 : Nat → Int32) (mf6 : Nat → Int32) (mf7 : Nat → Int32) (mf10 : Nat → Int32) (mf47 : Nat → Int32) (mf48 : Nat → Int32) (mf49 : Nat → Int32) (mf50 : Nat → Int32) (mf54 : Nat → Int32) (mf58 : Nat → Int32) (p0 : Int32) (p1 : Int32) (p2 : Int32) (p3 : Int32) (sz : Nat) (hi_m : (0 ≤ mtoday.toInt ∧ mtoday.toInt ≤ 399) ∧ (0 ≤ moffs.toInt ∧ moffs.toInt ≤ 60) ∧ (0 ≤ mrates.toInt ∧ mrates.toInt ≤ 60) ∧ (0 ≤ mtaped.toInt ∧ mtaped.toInt ≤ 120) ∧ (0 ≤ mlisted.toInt ∧ mlisted.toInt ≤ 9) ∧ (0 ≤ mdealtMany.toInt ∧ mdealtMany.toInt ≤ 9)) (hr_m50 : ∀ k : Nat, k < 15 → 0 ≤ (mf50 k).toInt ∧ (mf50 k).toInt ≤ 15) (j49 : J49 mf47 mf49) : Met l yX9_back (wl yX9_back cX9_back 8 (some .int)) (RM 2 0 0) (mu_P D E [.ref mh, .int p0, .int p1, .int p2, .int p3] [(mh, .inr (9, G9 ma mcode mtoday moffs mmany msumW msumA msumR msumWW msumWA msumAA msumWR msumAR mupper mlower mrates mtaped mlaid mat mtk mtkAt mtkNumber mwaits mlisted mdealtMany)), ((ma 5), .inl (E 1, 6400, .inl mf5)), ((ma 6), .inl (E 0, 6400, .inl mf6)), ((ma 7), .inl (E 0, 6400, .inl mf7)), ((ma 10), .inl (E 0, 6400, .inl mf10)), ((ma 47), .inl (E 0, 5, .inl mf47)), ((ma 48), .inl (E 0, 5, .inl mf48)), ((ma 49), .inl (E 0, 5, .inl mf49)), ((ma 50), .inl (E 0, 15, .inl mf50)), ((ma 54), .inl (E 0, 15, .inl mf54)), ((ma 58), .inl (E 0, 3, .inl mf58))] sz) (va_Qi (fun (r : Int32) (u : (Nat → Int32) × (Nat → Int32) × (Nat → Int32) × (Nat → Int32) × (Nat → Int32) × (Nat → Int32) × (Nat → Int32) × (Nat → Int32)) => (J49 u.2.1 u.2.2.1) ∧ ((r.toInt = -1 ∧ ¬ ((0 ≤ p0.toInt ∧ p0.toInt ≤ 4) ∧ (-100000 ≤ p1.toInt ∧ p1.toInt ≤ 100000) ∧ (-100000 ≤ p2.toInt ∧ p2.toInt ≤ 100000) ∧ (-100000 ≤ p3.toInt ∧ p3.toInt ≤ 100000)) ∧ u.2.2.2.1 = mf5 ∧ u.2.2.2.2.2.2.1 = mf6 ∧ u.2.2.2.2.2.2.2 = mf7 ∧ u.1 = mf10 ∧ u.2.1 = mf47 ∧ u.2.2.1 = mf49) ∨ (((0 ≤ p0.toInt ∧ p0.toInt ≤ 4) ∧ (-100000 ≤ p1.toInt ∧ p1.toInt ≤ 100000) ∧ (-100000 ≤ p2.toInt ∧ p2.toInt ≤ 100000) ∧ (-100000 ≤ p3.toInt ∧ p3.toInt ≤ 100000)) ∧ ((mf47 (p0).toNatClampNeg).toInt ≠ 1 ∨ (mf48 (p0).toNatClampNeg).toInt = mtoday.toInt) ∧ r.toInt = -4 ∧ u.2.2.2.1 = mf5 ∧ u.2.2.2.2.2.2.1 = mf6 ∧ u.2.2.2.2.2.2.2 = mf7 ∧ u.1 = mf10 ∧ u.2.1 = mf47 ∧ u.2.2.1 = mf49) ∨ (((0 ≤ p0.toInt ∧ p0.toInt ≤ 4) ∧ (-100000 ≤ p1.toInt ∧ p1.toInt ≤ 100000) ∧ (-100000 ≤ p2.toInt ∧ p2.toInt ≤ 100000) ∧ (-100000 ≤ p3.toInt ∧ p3.toInt ≤ 100000)) ∧ ¬ ((mf47 (p0).toNatClampNeg).toInt ≠ 1 ∨ (mf48 (p0).toNatClampNeg).toInt = mtoday.toInt) ∧ u.2.2.2.1 = upd (upd (upd (mf5) (400 * (mf50 (3 * p0 + 0).toNatClampNeg) + mtoday).toNatClampNeg 1) (400 * (mf50 (3 * p0 + 1).toNatClampNeg) + mtoday).toNatClampNeg 1) (400 * (mf50 (3 * p0 + 2).toNatClampNeg) + mtoday).toNatClampNeg 1 ∧ u.2.2.2.2.2.2.1 = upd (upd (upd (mf6) (400 * (mf50 (3 * p0 + 0).toNatClampNeg) + mtoday).toNatClampNeg p1) (400 * (mf50 (3 * p0 + 1).toNatClampNeg) + mtoday).toNatClampNeg p2) (400 * (mf50 (3 * p0 + 2).toNatClampNeg) + mtoday).toNatClampNeg p3 ∧ u.2.2.2.2.2.2.2 = upd (upd (upd (mf7) (400 * (mf50 (3 * p0 + 0).toNatClampNeg) + mtoday).toNatClampNeg 0) (400 * (mf50 (3 * p0 + 1).toNatClampNeg) + mtoday).toNatClampNeg 0) (400 * (mf50 (3 * p0 + 2).toNatClampNeg) + mtoday).toNatClampNeg 0 ∧ u.1 = upd (upd (upd (mf10) (400 * (mf50 (3 * p0 + 0).toNatClampNeg) + mtoday).toNatClampNeg (-1)) (400 * (mf50 (3 * p0 + 1).toNatClampNeg) + mtoday).toNatClampNeg (-1)) (400 * (mf50 (3 * p0 + 2).toNatClampNeg) + mtoday).toNatClampNeg (-1) ∧ u.2.1 = upd mf47 (p0).toNatClampNeg 2 ∧ r = mtoday - mf48 (p0).toNatClampNeg))) (mu_B D (va_A [(mh, .inr (9, G9 ma mcode mtoday moffs mmany msumW msumA msumR msumWW msumWA msumAA msumWR msumAR mupper mlower mrates mtaped mlaid mat mtk mtkAt mtkNumber mwaits mlisted mdealtMany)), ((ma 5), .inl (E 1, 6400, .inl mf5)), ((ma 6), .inl (E 0, 6400, .inl mf6)), ((ma 7), .inl (E 0, 6400, .inl mf7)), ((ma 10), .inl (E 0, 6400, .inl mf10)), ((ma 47), .inl (E 0, 5, .inl mf47)), ((ma 48), .inl (E 0, 5, .inl mf48)), ((ma 49), .inl (E 0, 5, .inl mf49)), ((ma 50), .inl (E 0, 15, .inl mf50)), ((ma 54), .inl (E 0, 15, .inl mf54)), ((ma 58), .inl (E 0, 3, .inl mf58))] sz) (fun (u : (Nat → Int32) × (Nat → Int32) × (Nat → Int32) × (Nat → Int32) × (Nat → Int32) × (Nat → Int32) × (Nat → Int32) × (Nat → Int32)) => [(mh, .inr (9, G9 ma mcode mtoday moffs mmany msumW msumA msumR msumWW msumWA msumAA msumWR msumAR mupper mlower mrates mtaped mlaid mat mtk mtkAt mtkNumber mwaits mlisted mdealtMany)), ((ma 5), .inl (E 1, 6400, .inl u.2.2.2.1)), ((ma 6), .inl (E 0, 6400, .inl u.2.2.2.2.2.2.1)), ((ma 7), .inl (E 0, 6400, .inl u.2.2.2.2.2.2.2)), ((ma 10), .inl (E 0, 6400, .inl u.1)), ((ma 47), .inl (E 0, 5, .inl u.2.1)), ((ma 48), .inl (E 0, 5, .inl mf48)), ((ma 49), .inl (E 0, 5, .inl u.2.2.1)), ((ma 50), .inl (E 0, 15, .inl mf50)), ((ma 54), .inl (E 0, 15, .inl u.2.2.2.2.1)), ((ma 58), .inl (E 0, 3, .inl u.2.2.2.2.2.1))])) (va_A [(mh, .inr (9, G9 ma mcode mtoday moffs mmany msumW msumA msumR msumWW msumWA msumAA msumWR msumAR mupper mlower mrates mtaped mlaid mat mtk mtkAt mtkNumber mwaits mlisted mdealtMany)), ((ma 5), .inl (E 1, 6400, .inl mf5)), ((ma 6), .inl (E 0, 6400, .inl mf6)), ((ma 7), .inl (E 0, 6400, .inl mf7)), ((ma 10), .inl (E 0, 6400, .inl mf10)), ((ma 47), .inl (E 0, 5, .inl mf47)), ((ma 48), .inl (E 0, 5, .inl mf48)), ((ma 49), .inl (E 0, 5, .inl mf49)), ((ma 50), .inl (E 0, 15, .inl mf50)), ((ma 54), .inl (E 0, 15, .inl mf54)), ((ma 58), .inl (E 0, 3, .inl mf58))] sz)) 0 0 (va_A [(mh, .inr (9, G9 ma mcode mtoday moffs mmany msumW msumA msumR msumWW msumWA msumAA msumWR msumAR mupper mlower mrates mtaped mlaid mat mtk mtkAt mtkNumber mwaits mlisted mdealtMany)), ((ma 5), .inl (E 1, 6400, .inl mf5)), ((ma 6), .inl (E 0, 6400, .inl mf6)), ((ma 7), .inl (E 0, 6400, .inl mf7)), ((ma 10), .inl (E 0, 6400, .inl mf10)), ((ma 47), .inl (E 0, 5, .inl mf47)), ((ma 48), .inl (E 0, 5, .inl mf48)), ((ma 49), .inl (E 0, 5, .inl mf49)), ((ma 50), .inl (E 0, 15, .inl mf50)), ((ma 54), .inl (E 0, 15, .inl mf54)), ((ma 58), .inl (E 0, 3, .inl mf58))] sz) := by
  refine Met.ofW (cc := cX9_back) (maxL := 8) (ret := (some .int)) (by decide) rfl ?_
  intro p e s m args below meth c s₁ B hml hv
  obtain ⟨rfl, hsz, hP, hK, hD0⟩ := hv
  have hx := B.exec; have hb := B.bytes; have hr := B.returns
  have hts := atoms_spec (ws := wl yX9_back cX9_back 8 (some .int)) B.pre
  have htb : ∀ w ∈ tb, w.before _ s = true := fun w h => hts w (List.mem_cons_of_mem _ h)
  have hown : s.vm.findClass RX9 = some m.cls := findClass_of_methodNamed B.named
  have hlocks := B.notSynchronized
  subst hsz
  have hD := hD0.self (sz := s.heap.size)
  generalize hAe : va_A [(mh, .inr (9, G9 ma mcode mtoday moffs mmany msumW msumA msumR msumWW msumWA msumAA msumWR msumAR mupper mlower mrates mtaped mlaid mat mtk mtkAt mtkNumber mwaits mlisted mdealtMany)), ((ma 5), .inl (E 1, 6400, .inl mf5)), ((ma 6), .inl (E 0, 6400, .inl mf6)), ((ma 7), .inl (E 0, 6400, .inl mf7)), ((ma 10), .inl (E 0, 6400, .inl mf10)), ((ma 47), .inl (E 0, 5, .inl mf47)), ((ma 48), .inl (E 0, 5, .inl mf48)), ((ma 49), .inl (E 0, 5, .inl mf49)), ((ma 50), .inl (E 0, 15, .inl mf50)), ((ma 54), .inl (E 0, 15, .inl mf54)), ((ma 58), .inl (E 0, 3, .inl mf58))] s.heap.size = A at hD ⊢
  have hA : ∀ q : Nat, s.heap.size ≤ q → A q := fun q h => by rw [← hAe]; exact Or.inr h
  have hS : va_S A s.heap s.heap [] := va_S.rf
  have hP : va_P D vwCl [(mh, .inr (9, G9 ma mcode mtoday moffs mmany msumW msumA msumR msumWW msumWA msumAA msumWR msumAR mupper mlower mrates mtaped mlaid mat mtk mtkAt mtkNumber mwaits mlisted mdealtMany)), ((ma 5), .inl (E 1, 6400, .inl mf5)), ((ma 6), .inl (E 0, 6400, .inl mf6)), ((ma 7), .inl (E 0, 6400, .inl mf7)), ((ma 10), .inl (E 0, 6400, .inl mf10)), ((ma 47), .inl (E 0, 5, .inl mf47)), ((ma 48), .inl (E 0, 5, .inl mf48)), ((ma 49), .inl (E 0, 5, .inl mf49)), ((ma 50), .inl (E 0, 15, .inl mf50)), ((ma 54), .inl (E 0, 15, .inl mf54)), ((ma 58), .inl (E 0, 3, .inl mf58))] s.heap := hP
  have hl := lv_entry ([.ref mh, .int p0, .int p1, .int p2, .int p3]) (n := 8) (Nat.le_of_ble_eq_true rfl)
  rw [lg_entry_eq]
  generalize (lg_sl ([.ref mh, .int p0, .int p1, .int p2, .int p3]) ++ List.replicate (8 - (lg_sl ([.ref mh, .int p0, .int p1, .int p2, .int p3])).length) Slot.unset).toArray = ls at hl ⊢
  have hl : lv_has ls 8 [(0, .ref mh), (1, .int p0), (2, .int p1), (3, .int p2), (4, .int p3)] := hl
  have lo_p0 := i_lo p0; have hi_p0 := i_hi p0
  have lo_p1 := i_lo p1; have hi_p1 := i_hi p1
  have lo_p2 := i_lo p2; have hi_p2 := i_hi p2
  have lo_p3 := i_lo p3; have hi_p3 := i_hi p3
  refine lv_iload_n hx hb dX9_back_0 rfl (lv_at hl 1 rfl) ?_
  refine callRS (rest := []) (As := [.int p0]) hx hb hml hown htb hK (g_X9_isShip l D E p0 ) ok_X9_isShip k_1414 k_1415 k_9 k_1416 ⟨(Nat.le_of_ble_eq_true rfl), (Nat.le_of_ble_eq_true rfl)⟩ ⟨(Nat.le_of_ble_eq_true rfl), (Nat.le_of_ble_eq_true rfl)⟩ hl.1 (Nat.le_of_ble_eq_true rfl) rfl rfl dX9_back_1 (hP.sub (ws' := ([] : va_W)) [] rfl) (fun r_1 hw_2 => ?_)
  rcases hw_2 with ⟨hr_1, hw_2⟩ | ⟨hr_1, hw_2⟩
  ·
    refine W_top (y := .int 1) (by rw [hr_1]) ?_
    refine lv_if_eq (tgt := 41) hx hb dX9_back_4 (by decide) (fun c_4 => absurd c_4 (by decide)) (fun c_4 => ?_)
    refine lv_iload_n hx hb dX9_back_7 rfl (lv_at hl 2 rfl) ?_
    refine lv_ldc hx hb hown (htb _ k_1210) dX9_back_8 ?_
    refine lv_ldc hx hb hown (htb _ k_1211) dX9_back_10 ?_
    refine callRS (rest := []) (As := [.int p1, .int (-100000), .int 100000]) hx hb hml hown htb hK (g_X9_in l D E p1 (-100000) 100000 ) ok_X9_in k_1168 k_1169 k_9 k_1170 ⟨(Nat.le_of_ble_eq_true rfl), (Nat.le_of_ble_eq_true rfl)⟩ ⟨(Nat.le_of_ble_eq_true rfl), (Nat.le_of_ble_eq_true rfl)⟩ hl.1 (Nat.le_of_ble_eq_true rfl) rfl rfl dX9_back_12 (hP.sub (ws' := ([] : va_W)) [] rfl) (fun r_5 hw_6 => ?_)
    try simp only [t_m100000, t_100000] at hw_6
    rcases hw_6 with ⟨hr_5, hw_6⟩ | ⟨hr_5, hw_6⟩
    ·
      try simp only [t_m100000, t_100000] at hw_6
      refine W_top (y := .int 1) (by rw [hr_5]) ?_
      refine lv_if_eq (tgt := 41) hx hb dX9_back_15 (by decide) (fun c_8 => absurd c_8 (by decide)) (fun c_8 => ?_)
      refine lv_iload_n hx hb dX9_back_18 rfl (lv_at hl 3 rfl) ?_
      refine lv_ldc hx hb hown (htb _ k_1210) dX9_back_19 ?_
      refine lv_ldc hx hb hown (htb _ k_1211) dX9_back_21 ?_
      refine callRS (rest := []) (As := [.int p2, .int (-100000), .int 100000]) hx hb hml hown htb hK (g_X9_in l D E p2 (-100000) 100000 ) ok_X9_in k_1168 k_1169 k_9 k_1170 ⟨(Nat.le_of_ble_eq_true rfl), (Nat.le_of_ble_eq_true rfl)⟩ ⟨(Nat.le_of_ble_eq_true rfl), (Nat.le_of_ble_eq_true rfl)⟩ hl.1 (Nat.le_of_ble_eq_true rfl) rfl rfl dX9_back_23 (hP.sub (ws' := ([] : va_W)) [] rfl) (fun r_9 hw_10 => ?_)
      try simp only [t_m100000, t_100000] at hw_10
      rcases hw_10 with ⟨hr_9, hw_10⟩ | ⟨hr_9, hw_10⟩
      ·
        try simp only [t_m100000, t_100000] at hw_10
        refine W_top (y := .int 1) (by rw [hr_9]) ?_
        refine lv_if_eq (tgt := 41) hx hb dX9_back_26 (by decide) (fun c_12 => absurd c_12 (by decide)) (fun c_12 => ?_)
        refine lv_iload hx hb dX9_back_29 (lv_at hl 4 rfl) ?_
        refine lv_ldc hx hb hown (htb _ k_1210) dX9_back_31 ?_
        refine lv_ldc hx hb hown (htb _ k_1211) dX9_back_33 ?_
        refine callRS (rest := []) (As := [.int p3, .int (-100000), .int 100000]) hx hb hml hown htb hK (g_X9_in l D E p3 (-100000) 100000 ) ok_X9_in k_1168 k_1169 k_9 k_1170 ⟨(Nat.le_of_ble_eq_true rfl), (Nat.le_of_ble_eq_true rfl)⟩ ⟨(Nat.le_of_ble_eq_true rfl), (Nat.le_of_ble_eq_true rfl)⟩ hl.1 (Nat.le_of_ble_eq_true rfl) rfl rfl dX9_back_35 (hP.sub (ws' := ([] : va_W)) [] rfl) (fun r_13 hw_14 => ?_)
        try simp only [t_m100000, t_100000] at hw_14
        rcases hw_14 with ⟨hr_13, hw_14⟩ | ⟨hr_13, hw_14⟩
        ·
          try simp only [t_m100000, t_100000] at hw_14
          refine W_top (y := .int 1) (by rw [hr_13]) ?_
          refine lv_if_ne (tgt := 43) hx hb dX9_back_38 (by decide) (fun c_16 => ?_) (fun c_16 => absurd c_16 (by decide))
          refine lv_aload_n hx hb dX9_back_43 rfl (lv_at hl 0 rfl) ?_
          refine va_get (D := D) (ci := 9) (v := .ref (ma 47)) (C := RX9) (T := TX9) (N := 68) hx hb htb iX9 hown hK.1 hP 0 rfl rfl 47 (by decide) (htb _ k_1005) (fun _ h9 => h9) rfl dX9_back_44 ?_
          refine lv_iload_n hx hb dX9_back_47 rfl (lv_at hl 1 rfl) ?_
          refine va_iald hx hb hK.1 hP 5 0 rfl rfl (g_in rfl (by omega) (by omega)) dX9_back_48 ?_
          refine lv_topi (fun z_17 ez_17 => ?_)
          have kz_17 := congrArg Int32.toInt ez_17
          refine lv_iconst (v := 1) hx hb dX9_back_49 (by decide) ?_
          refine lv_icmp_ne (tgt := 66) hx hb dX9_back_50 (by decide) (fun c_18 => ?_) (fun c_18 => ?_)
          ·
            have ic_18 : z_17.toInt ≠ 1 := mt (g_eq rfl t_1).mpr c_18
            clear c_18
            refine lv_bipush (v := (-4)) hx hb dX9_back_66 (by decide) ?_
            have hP9 := hP.sub (ws' := [(mh, .inr (9, G9 ma mcode mtoday moffs mmany msumW msumA msumR msumWW msumWA msumAA msumWR msumAR mupper mlower mrates mtaped mlaid mat mtk mtkAt mtkNumber mwaits mlisted mdealtMany)), ((ma 5), .inl (E 1, 6400, .inl mf5)), ((ma 6), .inl (E 0, 6400, .inl mf6)), ((ma 7), .inl (E 0, 6400, .inl mf7)), ((ma 10), .inl (E 0, 6400, .inl mf10)), ((ma 47), .inl (E 0, 5, .inl mf47)), ((ma 48), .inl (E 0, 5, .inl mf48)), ((ma 49), .inl (E 0, 5, .inl mf49)), ((ma 50), .inl (E 0, 15, .inl mf50)), ((ma 54), .inl (E 0, 15, .inl mf54)), ((ma 58), .inl (E 0, 3, .inl mf58))]) [0, 1, 2, 3, 4, 5, 6, 7, 8, 9, 10] rfl
            have hD9 := hD.sub (ws' := [(mh, .inr (9, G9 ma mcode mtoday moffs mmany msumW msumA msumR msumWW msumWA msumAA msumWR msumAR mupper mlower mrates mtaped mlaid mat mtk mtkAt mtkNumber mwaits mlisted mdealtMany)), ((ma 5), .inl (E 1, 6400, .inl mf5)), ((ma 6), .inl (E 0, 6400, .inl mf6)), ((ma 7), .inl (E 0, 6400, .inl mf7)), ((ma 10), .inl (E 0, 6400, .inl mf10)), ((ma 47), .inl (E 0, 5, .inl mf47)), ((ma 48), .inl (E 0, 5, .inl mf48)), ((ma 49), .inl (E 0, 5, .inl mf49)), ((ma 50), .inl (E 0, 15, .inl mf50)), ((ma 54), .inl (E 0, 15, .inl mf54)), ((ma 58), .inl (E 0, 3, .inl mf58))]) [0, 1, 2, 3, 4, 5, 6, 7, 8, 9, 10] (by decide) rfl
            exact W.iret (v := (-4)) hx hb hr (fun t ht hW => ⟨⟨(-4), (mf10, mf47, mf49, mf5, mf54, mf58, mf6, mf7), rfl, ⟨j49, (by have hl0 := t_m4; (try dsimp only); first | exact Or.inl ⟨by omega, by omega, rfl, rfl, rfl, rfl, rfl, rfl⟩ | exact Or.inr (Or.inl ⟨by omega, by subst_vars; omega, by omega, rfl, rfl, rfl, rfl, rfl, rfl⟩))⟩, by rw [ht]; exact hP9, hD9⟩, hS.F ht⟩) hS.2.2 dX9_back_68
          ·
            have ic_18 : z_17.toInt = 1 := (g_eq rfl t_1).mp c_18
            clear c_18
            refine lv_aload_n hx hb dX9_back_53 rfl (lv_at hl 0 rfl) ?_
            refine va_get (D := D) (ci := 9) (v := .ref (ma 48)) (C := RX9) (T := TX9) (N := 68) hx hb htb iX9 hown hK.1 hP 0 rfl rfl 48 (by decide) (htb _ k_1006) (fun _ h9 => h9) rfl dX9_back_54 ?_
            refine lv_iload_n hx hb dX9_back_57 rfl (lv_at hl 1 rfl) ?_
            refine va_iald hx hb hK.1 hP 6 0 rfl rfl (g_in rfl (by omega) (by omega)) dX9_back_58 ?_
            refine lv_topi (fun z_19 ez_19 => ?_)
            have kz_19 := congrArg Int32.toInt ez_19
            refine lv_aload_n hx hb dX9_back_59 rfl (lv_at hl 0 rfl) ?_
            refine va_get (D := D) (ci := 9) (v := .int mtoday) (C := RX9) (T := TX9) (N := 68) hx hb htb iX9 hown hK.1 hP 0 rfl rfl 1 (by decide) (htb _ k_959) (fun _ h9 => h9) rfl dX9_back_60 ?_
            refine lv_icmp_ne (tgt := 69) hx hb dX9_back_63 (by decide) (fun c_20 => ?_) (fun c_20 => ?_)
            ·
              have ic_20 : z_19.toInt ≠ mtoday.toInt := mt (g_eq rfl rfl).mpr c_20
              clear c_20
              refine lv_aload_n hx hb dX9_back_69 rfl (lv_at hl 0 rfl) ?_
              refine va_get (D := D) (ci := 9) (v := .ref (ma 58)) (C := RX9) (T := TX9) (N := 68) hx hb htb iX9 hown hK.1 hP 0 rfl rfl 58 (by decide) (htb _ k_1016) (fun _ h9 => h9) rfl dX9_back_70 ?_
              refine lv_iconst (v := 0) hx hb dX9_back_73 (by decide) ?_
              refine lv_iload_n hx hb dX9_back_74 rfl (lv_at hl 2 rfl) ?_
              refine va_iast hx hb hK.1 hP hD hS 10 0 rfl rfl (g_in t_0 (by decide) (by decide)) dX9_back_75 (fun H locs hP hD hS => ?_)
              have hP : va_P D vwCl [(mh, .inr (9, G9 ma mcode mtoday moffs mmany msumW msumA msumR msumWW msumWA msumAA msumWR msumAR mupper mlower mrates mtaped mlaid mat mtk mtkAt mtkNumber mwaits mlisted mdealtMany)), ((ma 5), .inl (E 1, 6400, .inl mf5)), ((ma 6), .inl (E 0, 6400, .inl mf6)), ((ma 7), .inl (E 0, 6400, .inl mf7)), ((ma 10), .inl (E 0, 6400, .inl mf10)), ((ma 47), .inl (E 0, 5, .inl mf47)), ((ma 48), .inl (E 0, 5, .inl mf48)), ((ma 49), .inl (E 0, 5, .inl mf49)), ((ma 50), .inl (E 0, 15, .inl mf50)), ((ma 54), .inl (E 0, 15, .inl mf54)), ((ma 58), .inl (E 0, 3, .inl (upd mf58 (0 : Int32).toNatClampNeg p1)))] H := hP
              have hD := toW hP hD rfl
              refine lv_aload_n hx hb dX9_back_76 rfl (lv_at hl 0 rfl) ?_
              refine va_get (D := D) (ci := 9) (v := .ref (ma 58)) (C := RX9) (T := TX9) (N := 68) hx hb htb iX9 hown hK.1 hP 0 rfl rfl 58 (by decide) (htb _ k_1016) (fun _ h9 => h9) rfl dX9_back_77 ?_
              refine lv_iconst (v := 1) hx hb dX9_back_80 (by decide) ?_
              refine lv_iload_n hx hb dX9_back_81 rfl (lv_at hl 3 rfl) ?_
              refine va_iast hx hb hK.1 hP hD hS 10 0 rfl rfl (g_in t_1 (by decide) (by decide)) dX9_back_82 (fun H locs hP hD hS => ?_)
              have hP : va_P D vwCl [(mh, .inr (9, G9 ma mcode mtoday moffs mmany msumW msumA msumR msumWW msumWA msumAA msumWR msumAR mupper mlower mrates mtaped mlaid mat mtk mtkAt mtkNumber mwaits mlisted mdealtMany)), ((ma 5), .inl (E 1, 6400, .inl mf5)), ((ma 6), .inl (E 0, 6400, .inl mf6)), ((ma 7), .inl (E 0, 6400, .inl mf7)), ((ma 10), .inl (E 0, 6400, .inl mf10)), ((ma 47), .inl (E 0, 5, .inl mf47)), ((ma 48), .inl (E 0, 5, .inl mf48)), ((ma 49), .inl (E 0, 5, .inl mf49)), ((ma 50), .inl (E 0, 15, .inl mf50)), ((ma 54), .inl (E 0, 15, .inl mf54)), ((ma 58), .inl (E 0, 3, .inl (upd (upd mf58 (0 : Int32).toNatClampNeg p1) (1 : Int32).toNatClampNeg p2)))] H := hP
              have hD := toW hP hD rfl
              refine lv_aload_n hx hb dX9_back_83 rfl (lv_at hl 0 rfl) ?_
              refine va_get (D := D) (ci := 9) (v := .ref (ma 58)) (C := RX9) (T := TX9) (N := 68) hx hb htb iX9 hown hK.1 hP 0 rfl rfl 58 (by decide) (htb _ k_1016) (fun _ h9 => h9) rfl dX9_back_84 ?_
              refine lv_iconst (v := 2) hx hb dX9_back_87 (by decide) ?_
              refine lv_iload hx hb dX9_back_88 (lv_at hl 4 rfl) ?_
              refine va_iast hx hb hK.1 hP hD hS 10 0 rfl rfl (g_in t_2 (by decide) (by decide)) dX9_back_90 (fun H locs hP hD hS => ?_)
              have hP : va_P D vwCl [(mh, .inr (9, G9 ma mcode mtoday moffs mmany msumW msumA msumR msumWW msumWA msumAA msumWR msumAR mupper mlower mrates mtaped mlaid mat mtk mtkAt mtkNumber mwaits mlisted mdealtMany)), ((ma 5), .inl (E 1, 6400, .inl mf5)), ((ma 6), .inl (E 0, 6400, .inl mf6)), ((ma 7), .inl (E 0, 6400, .inl mf7)), ((ma 10), .inl (E 0, 6400, .inl mf10)), ((ma 47), .inl (E 0, 5, .inl mf47)), ((ma 48), .inl (E 0, 5, .inl mf48)), ((ma 49), .inl (E 0, 5, .inl mf49)), ((ma 50), .inl (E 0, 15, .inl mf50)), ((ma 54), .inl (E 0, 15, .inl mf54)), ((ma 58), .inl (E 0, 3, .inl (upd (upd (upd mf58 (0 : Int32).toNatClampNeg p1) (1 : Int32).toNatClampNeg p2) (2 : Int32).toNatClampNeg p3)))] H := hP
              have hD := toW hP hD rfl
              refine lv_iconst (v := 0) hx hb dX9_back_91 (by decide) ?_
              refine lv_istore (lv' := [(5, .int 0), (0, .ref mh), (1, .int p0), (2, .int p1), (3, .int p2), (4, .int p3)]) hx hb dX9_back_92 hl (by decide) rfl (fun ls hl => ?_)
              refine lv_iload hx hb dX9_back_94 (lv_at hl 0 rfl) ?_
              refine lv_iconst (v := 3) hx hb dX9_back_96 (by decide) ?_
              refine lv_icmp_ge (tgt := 188) hx hb dX9_back_97 (by decide) (fun c_21 => absurd c_21 (by decide)) (fun c_21 => ?_)
              refine lv_iconst (v := 3) hx hb dX9_back_100 (by decide) ?_
              refine lv_iload_n hx hb dX9_back_101 rfl (lv_at hl 2 rfl) ?_
              refine lv_imul hx hb dX9_back_102 ?_
              refine lv_topi (fun z_22 ez_22 => ?_)
              have jz_22 : z_22.toInt = 3 * p0.toInt := by rw [ez_22]; exact g_mul t_3 rfl (by omega) (by omega)
              refine lv_iload hx hb dX9_back_103 (lv_at hl 0 rfl) ?_
              refine lv_iadd hx hb dX9_back_105 ?_
              refine lv_topi (fun z_23 ez_23 => ?_)
              have jz_23 : z_23.toInt = z_22.toInt + 0 := by rw [ez_23]; exact g_add rfl t_0 (by omega) (by omega)
              refine lv_istore (lv' := [(6, .int z_23), (5, .int 0), (0, .ref mh), (1, .int p0), (2, .int p1), (3, .int p2), (4, .int p3)]) hx hb dX9_back_106 hl (by decide) rfl (fun ls hl => ?_)
              refine lv_sipush (v := 400) hx hb dX9_back_108 (by decide) ?_
              refine lv_aload_n hx hb dX9_back_111 rfl (lv_at hl 2 rfl) ?_
              refine va_get (D := D) (ci := 9) (v := .ref (ma 50)) (C := RX9) (T := TX9) (N := 68) hx hb htb iX9 hown hK.1 hP 0 rfl rfl 50 (by decide) (htb _ k_1008) (fun _ h9 => h9) rfl dX9_back_112 ?_
              refine lv_iload hx hb dX9_back_115 (lv_at hl 0 rfl) ?_
              refine va_iald hx hb hK.1 hP 8 0 rfl rfl (g_in rfl (by omega) (by omega)) dX9_back_117 ?_
              refine lv_topi (fun z_24 ez_24 => ?_)
              have kz_24 := congrArg Int32.toInt ez_24
              have jz_24 : 0 ≤ z_24.toInt ∧ z_24.toInt ≤ 15 := by rw [ez_24]; exact hr_m50 _ (g_ix rfl (by omega) (by omega))
              refine lv_imul hx hb dX9_back_118 ?_
              refine lv_topi (fun z_25 ez_25 => ?_)
              have jz_25 : z_25.toInt = 400 * z_24.toInt := by rw [ez_25]; exact g_mul t_400 rfl (by omega) (by omega)
              refine lv_aload_n hx hb dX9_back_119 rfl (lv_at hl 2 rfl) ?_
              refine va_get (D := D) (ci := 9) (v := .int mtoday) (C := RX9) (T := TX9) (N := 68) hx hb htb iX9 hown hK.1 hP 0 rfl rfl 1 (by decide) (htb _ k_959) (fun _ h9 => h9) rfl dX9_back_120 ?_
              refine lv_iadd hx hb dX9_back_123 ?_
              refine lv_topi (fun z_26 ez_26 => ?_)
              have jz_26 : z_26.toInt = z_25.toInt + mtoday.toInt := by rw [ez_26]; exact g_add rfl rfl (by omega) (by omega)
              refine lv_istore (lv' := [(7, .int z_26), (6, .int z_23), (5, .int 0), (0, .ref mh), (1, .int p0), (2, .int p1), (3, .int p2), (4, .int p3)]) hx hb dX9_back_124 hl (by decide) rfl (fun ls hl => ?_)
              refine lv_aload_n hx hb dX9_back_126 rfl (lv_at hl 3 rfl) ?_
              refine va_get (D := D) (ci := 9) (v := .ref (ma 54)) (C := RX9) (T := TX9) (N := 68) hx hb htb iX9 hown hK.1 hP 0 rfl rfl 54 (by decide) (htb _ k_1012) (fun _ h9 => h9) rfl dX9_back_127 ?_
              refine lv_iload hx hb dX9_back_130 (lv_at hl 1 rfl) ?_
              refine lv_aload_n hx hb dX9_back_132 rfl (lv_at hl 3 rfl) ?_
              refine va_get (D := D) (ci := 9) (v := .ref (ma 58)) (C := RX9) (T := TX9) (N := 68) hx hb htb iX9 hown hK.1 hP 0 rfl rfl 58 (by decide) (htb _ k_1016) (fun _ h9 => h9) rfl dX9_back_133 ?_
              refine lv_iload hx hb dX9_back_136 (lv_at hl 2 rfl) ?_
              refine va_iald hx hb hK.1 hP 10 0 rfl rfl (g_in t_0 (by decide) (by decide)) dX9_back_138 ?_
              refine W_top (y := .int p1) (by first | rfl | simp [upd]) ?_
              refine va_iast hx hb hK.1 hP hD hS 9 0 rfl rfl (g_in rfl (by omega) (by omega)) dX9_back_139 (fun H locs hP hD hS => ?_)
              have hP : va_P D vwCl [(mh, .inr (9, G9 ma mcode mtoday moffs mmany msumW msumA msumR msumWW msumWA msumAA msumWR msumAR mupper mlower mrates mtaped mlaid mat mtk mtkAt mtkNumber mwaits mlisted mdealtMany)), ((ma 5), .inl (E 1, 6400, .inl mf5)), ((ma 6), .inl (E 0, 6400, .inl mf6)), ((ma 7), .inl (E 0, 6400, .inl mf7)), ((ma 10), .inl (E 0, 6400, .inl mf10)), ((ma 47), .inl (E 0, 5, .inl mf47)), ((ma 48), .inl (E 0, 5, .inl mf48)), ((ma 49), .inl (E 0, 5, .inl mf49)), ((ma 50), .inl (E 0, 15, .inl mf50)), ((ma 54), .inl (E 0, 15, .inl (upd mf54 (z_23 : Int32).toNatClampNeg p1))), ((ma 58), .inl (E 0, 3, .inl (upd (upd (upd mf58 (0 : Int32).toNatClampNeg p1) (1 : Int32).toNatClampNeg p2) (2 : Int32).toNatClampNeg p3)))] H := hP
              have hD := toW hP hD rfl
              refine lv_aload_n hx hb dX9_back_140 rfl (lv_at hl 3 rfl) ?_
              refine va_get (D := D) (ci := 9) (v := .ref (ma 5)) (C := RX9) (T := TX9) (N := 68) hx hb htb iX9 hown hK.1 hP 0 rfl rfl 5 (by decide) (htb _ k_963) (fun _ h9 => h9) rfl dX9_back_141 ?_
              refine lv_iload hx hb dX9_back_144 (lv_at hl 0 rfl) ?_
              refine lv_iconst (v := 1) hx hb dX9_back_146 (by decide) ?_
              refine va_zast hx hb hK.1 hP hD hS 1 1 rfl rfl (g_in rfl (by omega) (by omega)) dX9_back_147 (fun H locs hP hD hS => ?_)
              have hP : va_P D vwCl [(mh, .inr (9, G9 ma mcode mtoday moffs mmany msumW msumA msumR msumWW msumWA msumAA msumWR msumAR mupper mlower mrates mtaped mlaid mat mtk mtkAt mtkNumber mwaits mlisted mdealtMany)), ((ma 5), .inl (E 1, 6400, .inl (upd mf5 (z_26 : Int32).toNatClampNeg (vp_nar .boolean 1)))), ((ma 6), .inl (E 0, 6400, .inl mf6)), ((ma 7), .inl (E 0, 6400, .inl mf7)), ((ma 10), .inl (E 0, 6400, .inl mf10)), ((ma 47), .inl (E 0, 5, .inl mf47)), ((ma 48), .inl (E 0, 5, .inl mf48)), ((ma 49), .inl (E 0, 5, .inl mf49)), ((ma 50), .inl (E 0, 15, .inl mf50)), ((ma 54), .inl (E 0, 15, .inl (upd mf54 (z_23 : Int32).toNatClampNeg p1))), ((ma 58), .inl (E 0, 3, .inl (upd (upd (upd mf58 (0 : Int32).toNatClampNeg p1) (1 : Int32).toNatClampNeg p2) (2 : Int32).toNatClampNeg p3)))] H := hP
              have hD := toW hP hD rfl
              refine lv_aload_n hx hb dX9_back_148 rfl (lv_at hl 3 rfl) ?_
              refine va_get (D := D) (ci := 9) (v := .ref (ma 6)) (C := RX9) (T := TX9) (N := 68) hx hb htb iX9 hown hK.1 hP 0 rfl rfl 6 (by decide) (htb _ k_964) (fun _ h9 => h9) rfl dX9_back_149 ?_
              refine lv_iload hx hb dX9_back_152 (lv_at hl 0 rfl) ?_
              refine lv_aload_n hx hb dX9_back_154 rfl (lv_at hl 3 rfl) ?_
              refine va_get (D := D) (ci := 9) (v := .ref (ma 58)) (C := RX9) (T := TX9) (N := 68) hx hb htb iX9 hown hK.1 hP 0 rfl rfl 58 (by decide) (htb _ k_1016) (fun _ h9 => h9) rfl dX9_back_155 ?_
              refine lv_iload hx hb dX9_back_158 (lv_at hl 2 rfl) ?_
              refine va_iald hx hb hK.1 hP 10 0 rfl rfl (g_in t_0 (by decide) (by decide)) dX9_back_160 ?_
              refine W_top (y := .int p1) (by first | rfl | simp [upd]) ?_
              refine va_iast hx hb hK.1 hP hD hS 2 0 rfl rfl (g_in rfl (by omega) (by omega)) dX9_back_161 (fun H locs hP hD hS => ?_)
              have hP : va_P D vwCl [(mh, .inr (9, G9 ma mcode mtoday moffs mmany msumW msumA msumR msumWW msumWA msumAA msumWR msumAR mupper mlower mrates mtaped mlaid mat mtk mtkAt mtkNumber mwaits mlisted mdealtMany)), ((ma 5), .inl (E 1, 6400, .inl (upd mf5 (z_26 : Int32).toNatClampNeg (vp_nar .boolean 1)))), ((ma 6), .inl (E 0, 6400, .inl (upd mf6 (z_26 : Int32).toNatClampNeg p1))), ((ma 7), .inl (E 0, 6400, .inl mf7)), ((ma 10), .inl (E 0, 6400, .inl mf10)), ((ma 47), .inl (E 0, 5, .inl mf47)), ((ma 48), .inl (E 0, 5, .inl mf48)), ((ma 49), .inl (E 0, 5, .inl mf49)), ((ma 50), .inl (E 0, 15, .inl mf50)), ((ma 54), .inl (E 0, 15, .inl (upd mf54 (z_23 : Int32).toNatClampNeg p1))), ((ma 58), .inl (E 0, 3, .inl (upd (upd (upd mf58 (0 : Int32).toNatClampNeg p1) (1 : Int32).toNatClampNeg p2) (2 : Int32).toNatClampNeg p3)))] H := hP
              have hD := toW hP hD rfl
              refine lv_aload_n hx hb dX9_back_162 rfl (lv_at hl 3 rfl) ?_
              refine va_get (D := D) (ci := 9) (v := .ref (ma 7)) (C := RX9) (T := TX9) (N := 68) hx hb htb iX9 hown hK.1 hP 0 rfl rfl 7 (by decide) (htb _ k_965) (fun _ h9 => h9) rfl dX9_back_163 ?_
              refine lv_iload hx hb dX9_back_166 (lv_at hl 0 rfl) ?_
              refine lv_iconst (v := 0) hx hb dX9_back_168 (by decide) ?_
              refine va_iast hx hb hK.1 hP hD hS 3 0 rfl rfl (g_in rfl (by omega) (by omega)) dX9_back_169 (fun H locs hP hD hS => ?_)
              have hP : va_P D vwCl [(mh, .inr (9, G9 ma mcode mtoday moffs mmany msumW msumA msumR msumWW msumWA msumAA msumWR msumAR mupper mlower mrates mtaped mlaid mat mtk mtkAt mtkNumber mwaits mlisted mdealtMany)), ((ma 5), .inl (E 1, 6400, .inl (upd mf5 (z_26 : Int32).toNatClampNeg (vp_nar .boolean 1)))), ((ma 6), .inl (E 0, 6400, .inl (upd mf6 (z_26 : Int32).toNatClampNeg p1))), ((ma 7), .inl (E 0, 6400, .inl (upd mf7 (z_26 : Int32).toNatClampNeg 0))), ((ma 10), .inl (E 0, 6400, .inl mf10)), ((ma 47), .inl (E 0, 5, .inl mf47)), ((ma 48), .inl (E 0, 5, .inl mf48)), ((ma 49), .inl (E 0, 5, .inl mf49)), ((ma 50), .inl (E 0, 15, .inl mf50)), ((ma 54), .inl (E 0, 15, .inl (upd mf54 (z_23 : Int32).toNatClampNeg p1))), ((ma 58), .inl (E 0, 3, .inl (upd (upd (upd mf58 (0 : Int32).toNatClampNeg p1) (1 : Int32).toNatClampNeg p2) (2 : Int32).toNatClampNeg p3)))] H := hP
              have hD := toW hP hD rfl
              refine lv_aload_n hx hb dX9_back_170 rfl (lv_at hl 3 rfl) ?_
              refine lv_aload_n hx hb dX9_back_171 rfl (lv_at hl 3 rfl) ?_
              refine va_get (D := D) (ci := 9) (v := .ref (ma 50)) (C := RX9) (T := TX9) (N := 68) hx hb htb iX9 hown hK.1 hP 0 rfl rfl 50 (by decide) (htb _ k_1008) (fun _ h9 => h9) rfl dX9_back_172 ?_
              refine lv_iload hx hb dX9_back_175 (lv_at hl 1 rfl) ?_
              refine va_iald hx hb hK.1 hP 8 0 rfl rfl (g_in rfl (by omega) (by omega)) dX9_back_177 ?_
              refine lv_topi (fun z_27 ez_27 => ?_)
              have kz_27 := congrArg Int32.toInt ez_27
              have jz_27 : 0 ≤ z_27.toInt ∧ z_27.toInt ≤ 15 := by rw [ez_27]; exact hr_m50 _ (g_ix rfl (by omega) (by omega))
              refine lv_iconst (v := (-1)) hx hb dX9_back_178 (by decide) ?_
              have hPc := hP.sub (ws' := [(mh, .inr (9, G9 ma mcode mtoday moffs mmany msumW msumA msumR msumWW msumWA msumAA msumWR msumAR mupper mlower mrates mtaped mlaid mat mtk mtkAt mtkNumber mwaits mlisted mdealtMany)), ((ma 10), .inl (E 0, 6400, .inl mf10))]) [0, 4] rfl
              have hDc := hD.sub (ws' := [(mh, .inr (9, G9 ma mcode mtoday moffs mmany msumW msumA msumR msumWW msumWA msumAA msumWR msumAR mupper mlower mrates mtaped mlaid mat mtk mtkAt mtkNumber mwaits mlisted mdealtMany)), ((ma 10), .inl (E 0, 6400, .inl mf10))]) [0, 4] (by decide) rfl
              refine aft_v (runMV (rest := []) (As := [.int z_27, .int (-1)]) hx hb hml hown htb hK (g_X9_goesTo l D E mh ma mcode mtoday moffs mmany msumW msumA msumR msumWW msumWA msumAA msumWR msumAR mupper mlower mrates mtaped mlaid mat mtk mtkAt mtkNumber mwaits mlisted mdealtMany mf10 z_27 (-1) _ (by (try dsimp only); omega) (by have h0 := t_m1; (try dsimp only); omega)) ok_X9_goesTo k_1421 k_1423 ks_63 k_9 k_1424 ⟨(Nat.le_of_ble_eq_true rfl), (Nat.le_of_ble_eq_true rfl)⟩ ⟨(Nat.le_of_ble_eq_true rfl), (Nat.le_of_ble_eq_true rfl)⟩ hl.1 (Nat.le_of_ble_eq_true rfl) rfl rfl dX9_back_179 hPc hDc rfl rfl 0 rfl) hP hD hS hA [0, 4] [1, 2, 3, 5, 6, 7, 8, 9, 10] (wr := [((ma 5), .inl (E 1, 6400, .inl (upd mf5 (z_26 : Int32).toNatClampNeg (vp_nar .boolean 1)))), ((ma 6), .inl (E 0, 6400, .inl (upd mf6 (z_26 : Int32).toNatClampNeg p1))), ((ma 7), .inl (E 0, 6400, .inl (upd mf7 (z_26 : Int32).toNatClampNeg 0))), ((ma 47), .inl (E 0, 5, .inl mf47)), ((ma 48), .inl (E 0, 5, .inl mf48)), ((ma 49), .inl (E 0, 5, .inl mf49)), ((ma 50), .inl (E 0, 15, .inl mf50)), ((ma 54), .inl (E 0, 15, .inl (upd mf54 (z_23 : Int32).toNatClampNeg p1))), ((ma 58), .inl (E 0, 3, .inl (upd (upd (upd mf58 (0 : Int32).toNatClampNeg p1) (1 : Int32).toNatClampNeg p2) (2 : Int32).toNatClampNeg p3)))]) rfl rfl (by decide) (by decide) (fun u_30 H locs hw_29 hP hD hS => ?_)
              clear hPc hDc
              have hP : va_P D vwCl [((ma 5), .inl (E 1, 6400, .inl (upd mf5 (z_26 : Int32).toNatClampNeg (vp_nar .boolean 1)))), ((ma 6), .inl (E 0, 6400, .inl (upd mf6 (z_26 : Int32).toNatClampNeg p1))), ((ma 7), .inl (E 0, 6400, .inl (upd mf7 (z_26 : Int32).toNatClampNeg 0))), ((ma 47), .inl (E 0, 5, .inl mf47)), ((ma 48), .inl (E 0, 5, .inl mf48)), ((ma 49), .inl (E 0, 5, .inl mf49)), ((ma 50), .inl (E 0, 15, .inl mf50)), ((ma 54), .inl (E 0, 15, .inl (upd mf54 (z_23 : Int32).toNatClampNeg p1))), ((ma 58), .inl (E 0, 3, .inl (upd (upd (upd mf58 (0 : Int32).toNatClampNeg p1) (1 : Int32).toNatClampNeg p2) (2 : Int32).toNatClampNeg p3))), (mh, .inr (9, G9 ma mcode mtoday moffs mmany msumW msumA msumR msumWW msumWA msumAA msumWR msumAR mupper mlower mrates mtaped mlaid mat mtk mtkAt mtkNumber mwaits mlisted mdealtMany)), ((ma 10), .inl (E 0, 6400, .inl u_30))] H := hP
              have hD := toW hP hD rfl
              try simp only [t_m1] at hw_29
              refine lv_iinc (v := 1) (lv' := [(5, .int 1), (7, .int z_26), (6, .int z_23), (0, .ref mh), (1, .int p0), (2, .int p1), (3, .int p2), (4, .int p3)]) hx hb dX9_back_182 hl (k := 2) rfl (by decide) (by decide) rfl (fun ls hl => ?_)
              refine lv_goto (tgt := 94) hx hb dX9_back_185 (by decide) ?_
              refine lv_iload hx hb dX9_back_94 (lv_at hl 0 rfl) ?_
              refine lv_iconst (v := 3) hx hb dX9_back_96 (by decide) ?_
              refine lv_icmp_ge (tgt := 188) hx hb dX9_back_97 (by decide) (fun c_31 => absurd c_31 (by decide)) (fun c_31 => ?_)
              refine lv_iconst (v := 3) hx hb dX9_back_100 (by decide) ?_
              refine lv_iload_n hx hb dX9_back_101 rfl (lv_at hl 4 rfl) ?_
              refine lv_imul hx hb dX9_back_102 ?_
              refine lv_topi (fun z_32 ez_32 => ?_)
              have jz_32 : z_32.toInt = 3 * p0.toInt := by rw [ez_32]; exact g_mul t_3 rfl (by omega) (by omega)
              refine lv_iload hx hb dX9_back_103 (lv_at hl 0 rfl) ?_
              refine lv_iadd hx hb dX9_back_105 ?_
              refine lv_topi (fun z_33 ez_33 => ?_)
              have jz_33 : z_33.toInt = z_32.toInt + 1 := by rw [ez_33]; exact g_add rfl t_1 (by omega) (by omega)
              refine lv_istore (lv' := [(6, .int z_33), (5, .int 1), (7, .int z_26), (0, .ref mh), (1, .int p0), (2, .int p1), (3, .int p2), (4, .int p3)]) hx hb dX9_back_106 hl (by decide) rfl (fun ls hl => ?_)
              refine lv_sipush (v := 400) hx hb dX9_back_108 (by decide) ?_
              refine lv_aload_n hx hb dX9_back_111 rfl (lv_at hl 3 rfl) ?_
              refine va_get (D := D) (ci := 9) (v := .ref (ma 50)) (C := RX9) (T := TX9) (N := 68) hx hb htb iX9 hown hK.1 hP 9 rfl rfl 50 (by decide) (htb _ k_1008) (fun _ h9 => h9) rfl dX9_back_112 ?_
              refine lv_iload hx hb dX9_back_115 (lv_at hl 0 rfl) ?_
              refine va_iald hx hb hK.1 hP 6 0 rfl rfl (g_in rfl (by omega) (by omega)) dX9_back_117 ?_
              refine lv_topi (fun z_34 ez_34 => ?_)
              have kz_34 := congrArg Int32.toInt ez_34
              have jz_34 : 0 ≤ z_34.toInt ∧ z_34.toInt ≤ 15 := by rw [ez_34]; exact hr_m50 _ (g_ix rfl (by omega) (by omega))
              refine lv_imul hx hb dX9_back_118 ?_
              refine lv_topi (fun z_35 ez_35 => ?_)
              have jz_35 : z_35.toInt = 400 * z_34.toInt := by rw [ez_35]; exact g_mul t_400 rfl (by omega) (by omega)
              refine lv_aload_n hx hb dX9_back_119 rfl (lv_at hl 3 rfl) ?_
              refine va_get (D := D) (ci := 9) (v := .int mtoday) (C := RX9) (T := TX9) (N := 68) hx hb htb iX9 hown hK.1 hP 9 rfl rfl 1 (by decide) (htb _ k_959) (fun _ h9 => h9) rfl dX9_back_120 ?_
              refine lv_iadd hx hb dX9_back_123 ?_
              refine lv_topi (fun z_36 ez_36 => ?_)
              have jz_36 : z_36.toInt = z_35.toInt + mtoday.toInt := by rw [ez_36]; exact g_add rfl rfl (by omega) (by omega)
              refine lv_istore (lv' := [(7, .int z_36), (6, .int z_33), (5, .int 1), (0, .ref mh), (1, .int p0), (2, .int p1), (3, .int p2), (4, .int p3)]) hx hb dX9_back_124 hl (by decide) rfl (fun ls hl => ?_)
              refine lv_aload_n hx hb dX9_back_126 rfl (lv_at hl 3 rfl) ?_
              refine va_get (D := D) (ci := 9) (v := .ref (ma 54)) (C := RX9) (T := TX9) (N := 68) hx hb htb iX9 hown hK.1 hP 9 rfl rfl 54 (by decide) (htb _ k_1012) (fun _ h9 => h9) rfl dX9_back_127 ?_
              refine lv_iload hx hb dX9_back_130 (lv_at hl 1 rfl) ?_
              refine lv_aload_n hx hb dX9_back_132 rfl (lv_at hl 3 rfl) ?_
              refine va_get (D := D) (ci := 9) (v := .ref (ma 58)) (C := RX9) (T := TX9) (N := 68) hx hb htb iX9 hown hK.1 hP 9 rfl rfl 58 (by decide) (htb _ k_1016) (fun _ h9 => h9) rfl dX9_back_133 ?_
              refine lv_iload hx hb dX9_back_136 (lv_at hl 2 rfl) ?_
              refine va_iald hx hb hK.1 hP 8 0 rfl rfl (g_in t_1 (by decide) (by decide)) dX9_back_138 ?_
              refine W_top (y := .int p2) (by first | rfl | simp [upd]) ?_
              refine va_iast hx hb hK.1 hP hD hS 7 0 rfl rfl (g_in rfl (by omega) (by omega)) dX9_back_139 (fun H locs hP hD hS => ?_)
              have hP : va_P D vwCl [((ma 5), .inl (E 1, 6400, .inl (upd mf5 (z_26 : Int32).toNatClampNeg (vp_nar .boolean 1)))), ((ma 6), .inl (E 0, 6400, .inl (upd mf6 (z_26 : Int32).toNatClampNeg p1))), ((ma 7), .inl (E 0, 6400, .inl (upd mf7 (z_26 : Int32).toNatClampNeg 0))), ((ma 47), .inl (E 0, 5, .inl mf47)), ((ma 48), .inl (E 0, 5, .inl mf48)), ((ma 49), .inl (E 0, 5, .inl mf49)), ((ma 50), .inl (E 0, 15, .inl mf50)), ((ma 54), .inl (E 0, 15, .inl (upd (upd mf54 (z_23 : Int32).toNatClampNeg p1) (z_33 : Int32).toNatClampNeg p2))), ((ma 58), .inl (E 0, 3, .inl (upd (upd (upd mf58 (0 : Int32).toNatClampNeg p1) (1 : Int32).toNatClampNeg p2) (2 : Int32).toNatClampNeg p3))), (mh, .inr (9, G9 ma mcode mtoday moffs mmany msumW msumA msumR msumWW msumWA msumAA msumWR msumAR mupper mlower mrates mtaped mlaid mat mtk mtkAt mtkNumber mwaits mlisted mdealtMany)), ((ma 10), .inl (E 0, 6400, .inl u_30))] H := hP
              have hD := toW hP hD rfl
              refine lv_aload_n hx hb dX9_back_140 rfl (lv_at hl 3 rfl) ?_
              refine va_get (D := D) (ci := 9) (v := .ref (ma 5)) (C := RX9) (T := TX9) (N := 68) hx hb htb iX9 hown hK.1 hP 9 rfl rfl 5 (by decide) (htb _ k_963) (fun _ h9 => h9) rfl dX9_back_141 ?_
              refine lv_iload hx hb dX9_back_144 (lv_at hl 0 rfl) ?_
              refine lv_iconst (v := 1) hx hb dX9_back_146 (by decide) ?_
              refine va_zast hx hb hK.1 hP hD hS 0 1 rfl rfl (g_in rfl (by omega) (by omega)) dX9_back_147 (fun H locs hP hD hS => ?_)
              have hP : va_P D vwCl [((ma 5), .inl (E 1, 6400, .inl (upd (upd mf5 (z_26 : Int32).toNatClampNeg (vp_nar .boolean 1)) (z_36 : Int32).toNatClampNeg (vp_nar .boolean 1)))), ((ma 6), .inl (E 0, 6400, .inl (upd mf6 (z_26 : Int32).toNatClampNeg p1))), ((ma 7), .inl (E 0, 6400, .inl (upd mf7 (z_26 : Int32).toNatClampNeg 0))), ((ma 47), .inl (E 0, 5, .inl mf47)), ((ma 48), .inl (E 0, 5, .inl mf48)), ((ma 49), .inl (E 0, 5, .inl mf49)), ((ma 50), .inl (E 0, 15, .inl mf50)), ((ma 54), .inl (E 0, 15, .inl (upd (upd mf54 (z_23 : Int32).toNatClampNeg p1) (z_33 : Int32).toNatClampNeg p2))), ((ma 58), .inl (E 0, 3, .inl (upd (upd (upd mf58 (0 : Int32).toNatClampNeg p1) (1 : Int32).toNatClampNeg p2) (2 : Int32).toNatClampNeg p3))), (mh, .inr (9, G9 ma mcode mtoday moffs mmany msumW msumA msumR msumWW msumWA msumAA msumWR msumAR mupper mlower mrates mtaped mlaid mat mtk mtkAt mtkNumber mwaits mlisted mdealtMany)), ((ma 10), .inl (E 0, 6400, .inl u_30))] H := hP
              have hD := toW hP hD rfl
              refine lv_aload_n hx hb dX9_back_148 rfl (lv_at hl 3 rfl) ?_
              refine va_get (D := D) (ci := 9) (v := .ref (ma 6)) (C := RX9) (T := TX9) (N := 68) hx hb htb iX9 hown hK.1 hP 9 rfl rfl 6 (by decide) (htb _ k_964) (fun _ h9 => h9) rfl dX9_back_149 ?_
              refine lv_iload hx hb dX9_back_152 (lv_at hl 0 rfl) ?_
              refine lv_aload_n hx hb dX9_back_154 rfl (lv_at hl 3 rfl) ?_
              refine va_get (D := D) (ci := 9) (v := .ref (ma 58)) (C := RX9) (T := TX9) (N := 68) hx hb htb iX9 hown hK.1 hP 9 rfl rfl 58 (by decide) (htb _ k_1016) (fun _ h9 => h9) rfl dX9_back_155 ?_
              refine lv_iload hx hb dX9_back_158 (lv_at hl 2 rfl) ?_
              refine va_iald hx hb hK.1 hP 8 0 rfl rfl (g_in t_1 (by decide) (by decide)) dX9_back_160 ?_
              refine W_top (y := .int p2) (by first | rfl | simp [upd]) ?_
              refine va_iast hx hb hK.1 hP hD hS 1 0 rfl rfl (g_in rfl (by omega) (by omega)) dX9_back_161 (fun H locs hP hD hS => ?_)
              have hP : va_P D vwCl [((ma 5), .inl (E 1, 6400, .inl (upd (upd mf5 (z_26 : Int32).toNatClampNeg (vp_nar .boolean 1)) (z_36 : Int32).toNatClampNeg (vp_nar .boolean 1)))), ((ma 6), .inl (E 0, 6400, .inl (upd (upd mf6 (z_26 : Int32).toNatClampNeg p1) (z_36 : Int32).toNatClampNeg p2))), ((ma 7), .inl (E 0, 6400, .inl (upd mf7 (z_26 : Int32).toNatClampNeg 0))), ((ma 47), .inl (E 0, 5, .inl mf47)), ((ma 48), .inl (E 0, 5, .inl mf48)), ((ma 49), .inl (E 0, 5, .inl mf49)), ((ma 50), .inl (E 0, 15, .inl mf50)), ((ma 54), .inl (E 0, 15, .inl (upd (upd mf54 (z_23 : Int32).toNatClampNeg p1) (z_33 : Int32).toNatClampNeg p2))), ((ma 58), .inl (E 0, 3, .inl (upd (upd (upd mf58 (0 : Int32).toNatClampNeg p1) (1 : Int32).toNatClampNeg p2) (2 : Int32).toNatClampNeg p3))), (mh, .inr (9, G9 ma mcode mtoday moffs mmany msumW msumA msumR msumWW msumWA msumAA msumWR msumAR mupper mlower mrates mtaped mlaid mat mtk mtkAt mtkNumber mwaits mlisted mdealtMany)), ((ma 10), .inl (E 0, 6400, .inl u_30))] H := hP
              have hD := toW hP hD rfl
              refine lv_aload_n hx hb dX9_back_162 rfl (lv_at hl 3 rfl) ?_
              refine va_get (D := D) (ci := 9) (v := .ref (ma 7)) (C := RX9) (T := TX9) (N := 68) hx hb htb iX9 hown hK.1 hP 9 rfl rfl 7 (by decide) (htb _ k_965) (fun _ h9 => h9) rfl dX9_back_163 ?_
              refine lv_iload hx hb dX9_back_166 (lv_at hl 0 rfl) ?_
              refine lv_iconst (v := 0) hx hb dX9_back_168 (by decide) ?_
              refine va_iast hx hb hK.1 hP hD hS 2 0 rfl rfl (g_in rfl (by omega) (by omega)) dX9_back_169 (fun H locs hP hD hS => ?_)
              have hP : va_P D vwCl [((ma 5), .inl (E 1, 6400, .inl (upd (upd mf5 (z_26 : Int32).toNatClampNeg (vp_nar .boolean 1)) (z_36 : Int32).toNatClampNeg (vp_nar .boolean 1)))), ((ma 6), .inl (E 0, 6400, .inl (upd (upd mf6 (z_26 : Int32).toNatClampNeg p1) (z_36 : Int32).toNatClampNeg p2))), ((ma 7), .inl (E 0, 6400, .inl (upd (upd mf7 (z_26 : Int32).toNatClampNeg 0) (z_36 : Int32).toNatClampNeg 0))), ((ma 47), .inl (E 0, 5, .inl mf47)), ((ma 48), .inl (E 0, 5, .inl mf48)), ((ma 49), .inl (E 0, 5, .inl mf49)), ((ma 50), .inl (E 0, 15, .inl mf50)), ((ma 54), .inl (E 0, 15, .inl (upd (upd mf54 (z_23 : Int32).toNatClampNeg p1) (z_33 : Int32).toNatClampNeg p2))), ((ma 58), .inl (E 0, 3, .inl (upd (upd (upd mf58 (0 : Int32).toNatClampNeg p1) (1 : Int32).toNatClampNeg p2) (2 : Int32).toNatClampNeg p3))), (mh, .inr (9, G9 ma mcode mtoday moffs mmany msumW msumA msumR msumWW msumWA msumAA msumWR msumAR mupper mlower mrates mtaped mlaid mat mtk mtkAt mtkNumber mwaits mlisted mdealtMany)), ((ma 10), .inl (E 0, 6400, .inl u_30))] H := hP
              have hD := toW hP hD rfl
              refine lv_aload_n hx hb dX9_back_170 rfl (lv_at hl 3 rfl) ?_
              refine lv_aload_n hx hb dX9_back_171 rfl (lv_at hl 3 rfl) ?_
              refine va_get (D := D) (ci := 9) (v := .ref (ma 50)) (C := RX9) (T := TX9) (N := 68) hx hb htb iX9 hown hK.1 hP 9 rfl rfl 50 (by decide) (htb _ k_1008) (fun _ h9 => h9) rfl dX9_back_172 ?_
              refine lv_iload hx hb dX9_back_175 (lv_at hl 1 rfl) ?_
              refine va_iald hx hb hK.1 hP 6 0 rfl rfl (g_in rfl (by omega) (by omega)) dX9_back_177 ?_
              refine lv_topi (fun z_37 ez_37 => ?_)
              have kz_37 := congrArg Int32.toInt ez_37
              have jz_37 : 0 ≤ z_37.toInt ∧ z_37.toInt ≤ 15 := by rw [ez_37]; exact hr_m50 _ (g_ix rfl (by omega) (by omega))
              refine lv_iconst (v := (-1)) hx hb dX9_back_178 (by decide) ?_
              have hPc := hP.sub (ws' := [(mh, .inr (9, G9 ma mcode mtoday moffs mmany msumW msumA msumR msumWW msumWA msumAA msumWR msumAR mupper mlower mrates mtaped mlaid mat mtk mtkAt mtkNumber mwaits mlisted mdealtMany)), ((ma 10), .inl (E 0, 6400, .inl u_30))]) [9, 10] rfl
              have hDc := hD.sub (ws' := [(mh, .inr (9, G9 ma mcode mtoday moffs mmany msumW msumA msumR msumWW msumWA msumAA msumWR msumAR mupper mlower mrates mtaped mlaid mat mtk mtkAt mtkNumber mwaits mlisted mdealtMany)), ((ma 10), .inl (E 0, 6400, .inl u_30))]) [9, 10] (by decide) rfl
              refine aft_v (runMV (rest := []) (As := [.int z_37, .int (-1)]) hx hb hml hown htb hK (g_X9_goesTo l D E mh ma mcode mtoday moffs mmany msumW msumA msumR msumWW msumWA msumAA msumWR msumAR mupper mlower mrates mtaped mlaid mat mtk mtkAt mtkNumber mwaits mlisted mdealtMany u_30 z_37 (-1) _ (by (try dsimp only); omega) (by have h0 := t_m1; (try dsimp only); omega)) ok_X9_goesTo k_1421 k_1423 ks_63 k_9 k_1424 ⟨(Nat.le_of_ble_eq_true rfl), (Nat.le_of_ble_eq_true rfl)⟩ ⟨(Nat.le_of_ble_eq_true rfl), (Nat.le_of_ble_eq_true rfl)⟩ hl.1 (Nat.le_of_ble_eq_true rfl) rfl rfl dX9_back_179 hPc hDc rfl rfl 0 rfl) hP hD hS hA [9, 10] [0, 1, 2, 3, 4, 5, 6, 7, 8] (wr := [((ma 5), .inl (E 1, 6400, .inl (upd (upd mf5 (z_26 : Int32).toNatClampNeg (vp_nar .boolean 1)) (z_36 : Int32).toNatClampNeg (vp_nar .boolean 1)))), ((ma 6), .inl (E 0, 6400, .inl (upd (upd mf6 (z_26 : Int32).toNatClampNeg p1) (z_36 : Int32).toNatClampNeg p2))), ((ma 7), .inl (E 0, 6400, .inl (upd (upd mf7 (z_26 : Int32).toNatClampNeg 0) (z_36 : Int32).toNatClampNeg 0))), ((ma 47), .inl (E 0, 5, .inl mf47)), ((ma 48), .inl (E 0, 5, .inl mf48)), ((ma 49), .inl (E 0, 5, .inl mf49)), ((ma 50), .inl (E 0, 15, .inl mf50)), ((ma 54), .inl (E 0, 15, .inl (upd (upd mf54 (z_23 : Int32).toNatClampNeg p1) (z_33 : Int32).toNatClampNeg p2))), ((ma 58), .inl (E 0, 3, .inl (upd (upd (upd mf58 (0 : Int32).toNatClampNeg p1) (1 : Int32).toNatClampNeg p2) (2 : Int32).toNatClampNeg p3)))]) rfl rfl (by decide) (by decide) (fun u_40 H locs hw_39 hP hD hS => ?_)
              clear hPc hDc
              have hP : va_P D vwCl [((ma 5), .inl (E 1, 6400, .inl (upd (upd mf5 (z_26 : Int32).toNatClampNeg (vp_nar .boolean 1)) (z_36 : Int32).toNatClampNeg (vp_nar .boolean 1)))), ((ma 6), .inl (E 0, 6400, .inl (upd (upd mf6 (z_26 : Int32).toNatClampNeg p1) (z_36 : Int32).toNatClampNeg p2))), ((ma 7), .inl (E 0, 6400, .inl (upd (upd mf7 (z_26 : Int32).toNatClampNeg 0) (z_36 : Int32).toNatClampNeg 0))), ((ma 47), .inl (E 0, 5, .inl mf47)), ((ma 48), .inl (E 0, 5, .inl mf48)), ((ma 49), .inl (E 0, 5, .inl mf49)), ((ma 50), .inl (E 0, 15, .inl mf50)), ((ma 54), .inl (E 0, 15, .inl (upd (upd mf54 (z_23 : Int32).toNatClampNeg p1) (z_33 : Int32).toNatClampNeg p2))), ((ma 58), .inl (E 0, 3, .inl (upd (upd (upd mf58 (0 : Int32).toNatClampNeg p1) (1 : Int32).toNatClampNeg p2) (2 : Int32).toNatClampNeg p3))), (mh, .inr (9, G9 ma mcode mtoday moffs mmany msumW msumA msumR msumWW msumWA msumAA msumWR msumAR mupper mlower mrates mtaped mlaid mat mtk mtkAt mtkNumber mwaits mlisted mdealtMany)), ((ma 10), .inl (E 0, 6400, .inl u_40))] H := hP
              have hD := toW hP hD rfl
              try simp only [t_m1] at hw_39
              refine lv_iinc (v := 2) (lv' := [(5, .int 2), (7, .int z_36), (6, .int z_33), (0, .ref mh), (1, .int p0), (2, .int p1), (3, .int p2), (4, .int p3)]) hx hb dX9_back_182 hl (k := 2) rfl (by decide) (by decide) rfl (fun ls hl => ?_)
              refine lv_goto (tgt := 94) hx hb dX9_back_185 (by decide) ?_
              refine lv_iload hx hb dX9_back_94 (lv_at hl 0 rfl) ?_
              refine lv_iconst (v := 3) hx hb dX9_back_96 (by decide) ?_
              refine lv_icmp_ge (tgt := 188) hx hb dX9_back_97 (by decide) (fun c_41 => absurd c_41 (by decide)) (fun c_41 => ?_)
              refine lv_iconst (v := 3) hx hb dX9_back_100 (by decide) ?_
              refine lv_iload_n hx hb dX9_back_101 rfl (lv_at hl 4 rfl) ?_
              refine lv_imul hx hb dX9_back_102 ?_
              refine lv_topi (fun z_42 ez_42 => ?_)
              have jz_42 : z_42.toInt = 3 * p0.toInt := by rw [ez_42]; exact g_mul t_3 rfl (by omega) (by omega)
              refine lv_iload hx hb dX9_back_103 (lv_at hl 0 rfl) ?_
              refine lv_iadd hx hb dX9_back_105 ?_
              refine lv_topi (fun z_43 ez_43 => ?_)
              have jz_43 : z_43.toInt = z_42.toInt + 2 := by rw [ez_43]; exact g_add rfl t_2 (by omega) (by omega)
              refine lv_istore (lv' := [(6, .int z_43), (5, .int 2), (7, .int z_36), (0, .ref mh), (1, .int p0), (2, .int p1), (3, .int p2), (4, .int p3)]) hx hb dX9_back_106 hl (by decide) rfl (fun ls hl => ?_)
              refine lv_sipush (v := 400) hx hb dX9_back_108 (by decide) ?_
              refine lv_aload_n hx hb dX9_back_111 rfl (lv_at hl 3 rfl) ?_
              refine va_get (D := D) (ci := 9) (v := .ref (ma 50)) (C := RX9) (T := TX9) (N := 68) hx hb htb iX9 hown hK.1 hP 9 rfl rfl 50 (by decide) (htb _ k_1008) (fun _ h9 => h9) rfl dX9_back_112 ?_
              refine lv_iload hx hb dX9_back_115 (lv_at hl 0 rfl) ?_
              refine va_iald hx hb hK.1 hP 6 0 rfl rfl (g_in rfl (by omega) (by omega)) dX9_back_117 ?_
              refine lv_topi (fun z_44 ez_44 => ?_)
              have kz_44 := congrArg Int32.toInt ez_44
              have jz_44 : 0 ≤ z_44.toInt ∧ z_44.toInt ≤ 15 := by rw [ez_44]; exact hr_m50 _ (g_ix rfl (by omega) (by omega))
              refine lv_imul hx hb dX9_back_118 ?_
              refine lv_topi (fun z_45 ez_45 => ?_)
              have jz_45 : z_45.toInt = 400 * z_44.toInt := by rw [ez_45]; exact g_mul t_400 rfl (by omega) (by omega)
              refine lv_aload_n hx hb dX9_back_119 rfl (lv_at hl 3 rfl) ?_
              refine va_get (D := D) (ci := 9) (v := .int mtoday) (C := RX9) (T := TX9) (N := 68) hx hb htb iX9 hown hK.1 hP 9 rfl rfl 1 (by decide) (htb _ k_959) (fun _ h9 => h9) rfl dX9_back_120 ?_
              refine lv_iadd hx hb dX9_back_123 ?_
              refine lv_topi (fun z_46 ez_46 => ?_)
              have jz_46 : z_46.toInt = z_45.toInt + mtoday.toInt := by rw [ez_46]; exact g_add rfl rfl (by omega) (by omega)
              refine lv_istore (lv' := [(7, .int z_46), (6, .int z_43), (5, .int 2), (0, .ref mh), (1, .int p0), (2, .int p1), (3, .int p2), (4, .int p3)]) hx hb dX9_back_124 hl (by decide) rfl (fun ls hl => ?_)
              refine lv_aload_n hx hb dX9_back_126 rfl (lv_at hl 3 rfl) ?_
              refine va_get (D := D) (ci := 9) (v := .ref (ma 54)) (C := RX9) (T := TX9) (N := 68) hx hb htb iX9 hown hK.1 hP 9 rfl rfl 54 (by decide) (htb _ k_1012) (fun _ h9 => h9) rfl dX9_back_127 ?_
              refine lv_iload hx hb dX9_back_130 (lv_at hl 1 rfl) ?_
              refine lv_aload_n hx hb dX9_back_132 rfl (lv_at hl 3 rfl) ?_
              refine va_get (D := D) (ci := 9) (v := .ref (ma 58)) (C := RX9) (T := TX9) (N := 68) hx hb htb iX9 hown hK.1 hP 9 rfl rfl 58 (by decide) (htb _ k_1016) (fun _ h9 => h9) rfl dX9_back_133 ?_
              refine lv_iload hx hb dX9_back_136 (lv_at hl 2 rfl) ?_
              refine va_iald hx hb hK.1 hP 8 0 rfl rfl (g_in t_2 (by decide) (by decide)) dX9_back_138 ?_
              refine W_top (y := .int p3) (by first | rfl | simp [upd]) ?_
              refine va_iast hx hb hK.1 hP hD hS 7 0 rfl rfl (g_in rfl (by omega) (by omega)) dX9_back_139 (fun H locs hP hD hS => ?_)
              have hP : va_P D vwCl [((ma 5), .inl (E 1, 6400, .inl (upd (upd mf5 (z_26 : Int32).toNatClampNeg (vp_nar .boolean 1)) (z_36 : Int32).toNatClampNeg (vp_nar .boolean 1)))), ((ma 6), .inl (E 0, 6400, .inl (upd (upd mf6 (z_26 : Int32).toNatClampNeg p1) (z_36 : Int32).toNatClampNeg p2))), ((ma 7), .inl (E 0, 6400, .inl (upd (upd mf7 (z_26 : Int32).toNatClampNeg 0) (z_36 : Int32).toNatClampNeg 0))), ((ma 47), .inl (E 0, 5, .inl mf47)), ((ma 48), .inl (E 0, 5, .inl mf48)), ((ma 49), .inl (E 0, 5, .inl mf49)), ((ma 50), .inl (E 0, 15, .inl mf50)), ((ma 54), .inl (E 0, 15, .inl (upd (upd (upd mf54 (z_23 : Int32).toNatClampNeg p1) (z_33 : Int32).toNatClampNeg p2) (z_43 : Int32).toNatClampNeg p3))), ((ma 58), .inl (E 0, 3, .inl (upd (upd (upd mf58 (0 : Int32).toNatClampNeg p1) (1 : Int32).toNatClampNeg p2) (2 : Int32).toNatClampNeg p3))), (mh, .inr (9, G9 ma mcode mtoday moffs mmany msumW msumA msumR msumWW msumWA msumAA msumWR msumAR mupper mlower mrates mtaped mlaid mat mtk mtkAt mtkNumber mwaits mlisted mdealtMany)), ((ma 10), .inl (E 0, 6400, .inl u_40))] H := hP
              have hD := toW hP hD rfl
              refine lv_aload_n hx hb dX9_back_140 rfl (lv_at hl 3 rfl) ?_
              refine va_get (D := D) (ci := 9) (v := .ref (ma 5)) (C := RX9) (T := TX9) (N := 68) hx hb htb iX9 hown hK.1 hP 9 rfl rfl 5 (by decide) (htb _ k_963) (fun _ h9 => h9) rfl dX9_back_141 ?_
              refine lv_iload hx hb dX9_back_144 (lv_at hl 0 rfl) ?_
              refine lv_iconst (v := 1) hx hb dX9_back_146 (by decide) ?_
              refine va_zast hx hb hK.1 hP hD hS 0 1 rfl rfl (g_in rfl (by omega) (by omega)) dX9_back_147 (fun H locs hP hD hS => ?_)
              have hP : va_P D vwCl [((ma 5), .inl (E 1, 6400, .inl (upd (upd (upd mf5 (z_26 : Int32).toNatClampNeg (vp_nar .boolean 1)) (z_36 : Int32).toNatClampNeg (vp_nar .boolean 1)) (z_46 : Int32).toNatClampNeg (vp_nar .boolean 1)))), ((ma 6), .inl (E 0, 6400, .inl (upd (upd mf6 (z_26 : Int32).toNatClampNeg p1) (z_36 : Int32).toNatClampNeg p2))), ((ma 7), .inl (E 0, 6400, .inl (upd (upd mf7 (z_26 : Int32).toNatClampNeg 0) (z_36 : Int32).toNatClampNeg 0))), ((ma 47), .inl (E 0, 5, .inl mf47)), ((ma 48), .inl (E 0, 5, .inl mf48)), ((ma 49), .inl (E 0, 5, .inl mf49)), ((ma 50), .inl (E 0, 15, .inl mf50)), ((ma 54), .inl (E 0, 15, .inl (upd (upd (upd mf54 (z_23 : Int32).toNatClampNeg p1) (z_33 : Int32).toNatClampNeg p2) (z_43 : Int32).toNatClampNeg p3))), ((ma 58), .inl (E 0, 3, .inl (upd (upd (upd mf58 (0 : Int32).toNatClampNeg p1) (1 : Int32).toNatClampNeg p2) (2 : Int32).toNatClampNeg p3))), (mh, .inr (9, G9 ma mcode mtoday moffs mmany msumW msumA msumR msumWW msumWA msumAA msumWR msumAR mupper mlower mrates mtaped mlaid mat mtk mtkAt mtkNumber mwaits mlisted mdealtMany)), ((ma 10), .inl (E 0, 6400, .inl u_40))] H := hP
              have hD := toW hP hD rfl
              refine lv_aload_n hx hb dX9_back_148 rfl (lv_at hl 3 rfl) ?_
              refine va_get (D := D) (ci := 9) (v := .ref (ma 6)) (C := RX9) (T := TX9) (N := 68) hx hb htb iX9 hown hK.1 hP 9 rfl rfl 6 (by decide) (htb _ k_964) (fun _ h9 => h9) rfl dX9_back_149 ?_
              refine lv_iload hx hb dX9_back_152 (lv_at hl 0 rfl) ?_
              refine lv_aload_n hx hb dX9_back_154 rfl (lv_at hl 3 rfl) ?_
              refine va_get (D := D) (ci := 9) (v := .ref (ma 58)) (C := RX9) (T := TX9) (N := 68) hx hb htb iX9 hown hK.1 hP 9 rfl rfl 58 (by decide) (htb _ k_1016) (fun _ h9 => h9) rfl dX9_back_155 ?_
              refine lv_iload hx hb dX9_back_158 (lv_at hl 2 rfl) ?_
              refine va_iald hx hb hK.1 hP 8 0 rfl rfl (g_in t_2 (by decide) (by decide)) dX9_back_160 ?_
              refine W_top (y := .int p3) (by first | rfl | simp [upd]) ?_
              refine va_iast hx hb hK.1 hP hD hS 1 0 rfl rfl (g_in rfl (by omega) (by omega)) dX9_back_161 (fun H locs hP hD hS => ?_)
              have hP : va_P D vwCl [((ma 5), .inl (E 1, 6400, .inl (upd (upd (upd mf5 (z_26 : Int32).toNatClampNeg (vp_nar .boolean 1)) (z_36 : Int32).toNatClampNeg (vp_nar .boolean 1)) (z_46 : Int32).toNatClampNeg (vp_nar .boolean 1)))), ((ma 6), .inl (E 0, 6400, .inl (upd (upd (upd mf6 (z_26 : Int32).toNatClampNeg p1) (z_36 : Int32).toNatClampNeg p2) (z_46 : Int32).toNatClampNeg p3))), ((ma 7), .inl (E 0, 6400, .inl (upd (upd mf7 (z_26 : Int32).toNatClampNeg 0) (z_36 : Int32).toNatClampNeg 0))), ((ma 47), .inl (E 0, 5, .inl mf47)), ((ma 48), .inl (E 0, 5, .inl mf48)), ((ma 49), .inl (E 0, 5, .inl mf49)), ((ma 50), .inl (E 0, 15, .inl mf50)), ((ma 54), .inl (E 0, 15, .inl (upd (upd (upd mf54 (z_23 : Int32).toNatClampNeg p1) (z_33 : Int32).toNatClampNeg p2) (z_43 : Int32).toNatClampNeg p3))), ((ma 58), .inl (E 0, 3, .inl (upd (upd (upd mf58 (0 : Int32).toNatClampNeg p1) (1 : Int32).toNatClampNeg p2) (2 : Int32).toNatClampNeg p3))), (mh, .inr (9, G9 ma mcode mtoday moffs mmany msumW msumA msumR msumWW msumWA msumAA msumWR msumAR mupper mlower mrates mtaped mlaid mat mtk mtkAt mtkNumber mwaits mlisted mdealtMany)), ((ma 10), .inl (E 0, 6400, .inl u_40))] H := hP
              have hD := toW hP hD rfl
              refine lv_aload_n hx hb dX9_back_162 rfl (lv_at hl 3 rfl) ?_
              refine va_get (D := D) (ci := 9) (v := .ref (ma 7)) (C := RX9) (T := TX9) (N := 68) hx hb htb iX9 hown hK.1 hP 9 rfl rfl 7 (by decide) (htb _ k_965) (fun _ h9 => h9) rfl dX9_back_163 ?_
              refine lv_iload hx hb dX9_back_166 (lv_at hl 0 rfl) ?_
              refine lv_iconst (v := 0) hx hb dX9_back_168 (by decide) ?_
              refine va_iast hx hb hK.1 hP hD hS 2 0 rfl rfl (g_in rfl (by omega) (by omega)) dX9_back_169 (fun H locs hP hD hS => ?_)
              have hP : va_P D vwCl [((ma 5), .inl (E 1, 6400, .inl (upd (upd (upd mf5 (z_26 : Int32).toNatClampNeg (vp_nar .boolean 1)) (z_36 : Int32).toNatClampNeg (vp_nar .boolean 1)) (z_46 : Int32).toNatClampNeg (vp_nar .boolean 1)))), ((ma 6), .inl (E 0, 6400, .inl (upd (upd (upd mf6 (z_26 : Int32).toNatClampNeg p1) (z_36 : Int32).toNatClampNeg p2) (z_46 : Int32).toNatClampNeg p3))), ((ma 7), .inl (E 0, 6400, .inl (upd (upd (upd mf7 (z_26 : Int32).toNatClampNeg 0) (z_36 : Int32).toNatClampNeg 0) (z_46 : Int32).toNatClampNeg 0))), ((ma 47), .inl (E 0, 5, .inl mf47)), ((ma 48), .inl (E 0, 5, .inl mf48)), ((ma 49), .inl (E 0, 5, .inl mf49)), ((ma 50), .inl (E 0, 15, .inl mf50)), ((ma 54), .inl (E 0, 15, .inl (upd (upd (upd mf54 (z_23 : Int32).toNatClampNeg p1) (z_33 : Int32).toNatClampNeg p2) (z_43 : Int32).toNatClampNeg p3))), ((ma 58), .inl (E 0, 3, .inl (upd (upd (upd mf58 (0 : Int32).toNatClampNeg p1) (1 : Int32).toNatClampNeg p2) (2 : Int32).toNatClampNeg p3))), (mh, .inr (9, G9 ma mcode mtoday moffs mmany msumW msumA msumR msumWW msumWA msumAA msumWR msumAR mupper mlower mrates mtaped mlaid mat mtk mtkAt mtkNumber mwaits mlisted mdealtMany)), ((ma 10), .inl (E 0, 6400, .inl u_40))] H := hP
              have hD := toW hP hD rfl
              refine lv_aload_n hx hb dX9_back_170 rfl (lv_at hl 3 rfl) ?_
              refine lv_aload_n hx hb dX9_back_171 rfl (lv_at hl 3 rfl) ?_
              refine va_get (D := D) (ci := 9) (v := .ref (ma 50)) (C := RX9) (T := TX9) (N := 68) hx hb htb iX9 hown hK.1 hP 9 rfl rfl 50 (by decide) (htb _ k_1008) (fun _ h9 => h9) rfl dX9_back_172 ?_
              refine lv_iload hx hb dX9_back_175 (lv_at hl 1 rfl) ?_
              refine va_iald hx hb hK.1 hP 6 0 rfl rfl (g_in rfl (by omega) (by omega)) dX9_back_177 ?_
              refine lv_topi (fun z_47 ez_47 => ?_)
              have kz_47 := congrArg Int32.toInt ez_47
              have jz_47 : 0 ≤ z_47.toInt ∧ z_47.toInt ≤ 15 := by rw [ez_47]; exact hr_m50 _ (g_ix rfl (by omega) (by omega))
              refine lv_iconst (v := (-1)) hx hb dX9_back_178 (by decide) ?_
              have hPc := hP.sub (ws' := [(mh, .inr (9, G9 ma mcode mtoday moffs mmany msumW msumA msumR msumWW msumWA msumAA msumWR msumAR mupper mlower mrates mtaped mlaid mat mtk mtkAt mtkNumber mwaits mlisted mdealtMany)), ((ma 10), .inl (E 0, 6400, .inl u_40))]) [9, 10] rfl
              have hDc := hD.sub (ws' := [(mh, .inr (9, G9 ma mcode mtoday moffs mmany msumW msumA msumR msumWW msumWA msumAA msumWR msumAR mupper mlower mrates mtaped mlaid mat mtk mtkAt mtkNumber mwaits mlisted mdealtMany)), ((ma 10), .inl (E 0, 6400, .inl u_40))]) [9, 10] (by decide) rfl
              refine aft_v (runMV (rest := []) (As := [.int z_47, .int (-1)]) hx hb hml hown htb hK (g_X9_goesTo l D E mh ma mcode mtoday moffs mmany msumW msumA msumR msumWW msumWA msumAA msumWR msumAR mupper mlower mrates mtaped mlaid mat mtk mtkAt mtkNumber mwaits mlisted mdealtMany u_40 z_47 (-1) _ (by (try dsimp only); omega) (by have h0 := t_m1; (try dsimp only); omega)) ok_X9_goesTo k_1421 k_1423 ks_63 k_9 k_1424 ⟨(Nat.le_of_ble_eq_true rfl), (Nat.le_of_ble_eq_true rfl)⟩ ⟨(Nat.le_of_ble_eq_true rfl), (Nat.le_of_ble_eq_true rfl)⟩ hl.1 (Nat.le_of_ble_eq_true rfl) rfl rfl dX9_back_179 hPc hDc rfl rfl 0 rfl) hP hD hS hA [9, 10] [0, 1, 2, 3, 4, 5, 6, 7, 8] (wr := [((ma 5), .inl (E 1, 6400, .inl (upd (upd (upd mf5 (z_26 : Int32).toNatClampNeg (vp_nar .boolean 1)) (z_36 : Int32).toNatClampNeg (vp_nar .boolean 1)) (z_46 : Int32).toNatClampNeg (vp_nar .boolean 1)))), ((ma 6), .inl (E 0, 6400, .inl (upd (upd (upd mf6 (z_26 : Int32).toNatClampNeg p1) (z_36 : Int32).toNatClampNeg p2) (z_46 : Int32).toNatClampNeg p3))), ((ma 7), .inl (E 0, 6400, .inl (upd (upd (upd mf7 (z_26 : Int32).toNatClampNeg 0) (z_36 : Int32).toNatClampNeg 0) (z_46 : Int32).toNatClampNeg 0))), ((ma 47), .inl (E 0, 5, .inl mf47)), ((ma 48), .inl (E 0, 5, .inl mf48)), ((ma 49), .inl (E 0, 5, .inl mf49)), ((ma 50), .inl (E 0, 15, .inl mf50)), ((ma 54), .inl (E 0, 15, .inl (upd (upd (upd mf54 (z_23 : Int32).toNatClampNeg p1) (z_33 : Int32).toNatClampNeg p2) (z_43 : Int32).toNatClampNeg p3))), ((ma 58), .inl (E 0, 3, .inl (upd (upd (upd mf58 (0 : Int32).toNatClampNeg p1) (1 : Int32).toNatClampNeg p2) (2 : Int32).toNatClampNeg p3)))]) rfl rfl (by decide) (by decide) (fun u_50 H locs hw_49 hP hD hS => ?_)
              clear hPc hDc
              have hP : va_P D vwCl [((ma 5), .inl (E 1, 6400, .inl (upd (upd (upd mf5 (z_26 : Int32).toNatClampNeg (vp_nar .boolean 1)) (z_36 : Int32).toNatClampNeg (vp_nar .boolean 1)) (z_46 : Int32).toNatClampNeg (vp_nar .boolean 1)))), ((ma 6), .inl (E 0, 6400, .inl (upd (upd (upd mf6 (z_26 : Int32).toNatClampNeg p1) (z_36 : Int32).toNatClampNeg p2) (z_46 : Int32).toNatClampNeg p3))), ((ma 7), .inl (E 0, 6400, .inl (upd (upd (upd mf7 (z_26 : Int32).toNatClampNeg 0) (z_36 : Int32).toNatClampNeg 0) (z_46 : Int32).toNatClampNeg 0))), ((ma 47), .inl (E 0, 5, .inl mf47)), ((ma 48), .inl (E 0, 5, .inl mf48)), ((ma 49), .inl (E 0, 5, .inl mf49)), ((ma 50), .inl (E 0, 15, .inl mf50)), ((ma 54), .inl (E 0, 15, .inl (upd (upd (upd mf54 (z_23 : Int32).toNatClampNeg p1) (z_33 : Int32).toNatClampNeg p2) (z_43 : Int32).toNatClampNeg p3))), ((ma 58), .inl (E 0, 3, .inl (upd (upd (upd mf58 (0 : Int32).toNatClampNeg p1) (1 : Int32).toNatClampNeg p2) (2 : Int32).toNatClampNeg p3))), (mh, .inr (9, G9 ma mcode mtoday moffs mmany msumW msumA msumR msumWW msumWA msumAA msumWR msumAR mupper mlower mrates mtaped mlaid mat mtk mtkAt mtkNumber mwaits mlisted mdealtMany)), ((ma 10), .inl (E 0, 6400, .inl u_50))] H := hP
              have hD := toW hP hD rfl
              try simp only [t_m1] at hw_49
              refine lv_iinc (v := 3) (lv' := [(5, .int 3), (7, .int z_46), (6, .int z_43), (0, .ref mh), (1, .int p0), (2, .int p1), (3, .int p2), (4, .int p3)]) hx hb dX9_back_182 hl (k := 2) rfl (by decide) (by decide) rfl (fun ls hl => ?_)
              refine lv_goto (tgt := 94) hx hb dX9_back_185 (by decide) ?_
              refine lv_iload hx hb dX9_back_94 (lv_at hl 0 rfl) ?_
              refine lv_iconst (v := 3) hx hb dX9_back_96 (by decide) ?_
              refine lv_icmp_ge (tgt := 188) hx hb dX9_back_97 (by decide) (fun c_51 => ?_) (fun c_51 => absurd (by decide) c_51)
              refine lv_aload_n hx hb dX9_back_188 rfl (lv_at hl 3 rfl) ?_
              refine va_get (D := D) (ci := 9) (v := .ref (ma 49)) (C := RX9) (T := TX9) (N := 68) hx hb htb iX9 hown hK.1 hP 9 rfl rfl 49 (by decide) (htb _ k_1007) (fun _ h9 => h9) rfl dX9_back_189 ?_
              refine lv_iload_n hx hb dX9_back_192 rfl (lv_at hl 4 rfl) ?_
              refine lv_aload_n hx hb dX9_back_193 rfl (lv_at hl 3 rfl) ?_
              refine va_get (D := D) (ci := 9) (v := .int mtoday) (C := RX9) (T := TX9) (N := 68) hx hb htb iX9 hown hK.1 hP 9 rfl rfl 1 (by decide) (htb _ k_959) (fun _ h9 => h9) rfl dX9_back_194 ?_
              refine lv_aload_n hx hb dX9_back_197 rfl (lv_at hl 3 rfl) ?_
              refine va_get (D := D) (ci := 9) (v := .ref (ma 48)) (C := RX9) (T := TX9) (N := 68) hx hb htb iX9 hown hK.1 hP 9 rfl rfl 48 (by decide) (htb _ k_1006) (fun _ h9 => h9) rfl dX9_back_198 ?_
              refine lv_iload_n hx hb dX9_back_201 rfl (lv_at hl 4 rfl) ?_
              refine va_iald hx hb hK.1 hP 4 0 rfl rfl (g_in rfl (by omega) (by omega)) dX9_back_202 ?_
              refine lv_topi (fun z_52 ez_52 => ?_)
              have kz_52 := congrArg Int32.toInt ez_52
              refine lv_isub hx hb dX9_back_203 ?_
              refine lv_topi (fun z_53 ez_53 => ?_)
              refine va_iast hx hb hK.1 hP hD hS 5 0 rfl rfl (g_in rfl (by omega) (by omega)) dX9_back_204 (fun H locs hP hD hS => ?_)
              have hP : va_P D vwCl [((ma 5), .inl (E 1, 6400, .inl (upd (upd (upd mf5 (z_26 : Int32).toNatClampNeg (vp_nar .boolean 1)) (z_36 : Int32).toNatClampNeg (vp_nar .boolean 1)) (z_46 : Int32).toNatClampNeg (vp_nar .boolean 1)))), ((ma 6), .inl (E 0, 6400, .inl (upd (upd (upd mf6 (z_26 : Int32).toNatClampNeg p1) (z_36 : Int32).toNatClampNeg p2) (z_46 : Int32).toNatClampNeg p3))), ((ma 7), .inl (E 0, 6400, .inl (upd (upd (upd mf7 (z_26 : Int32).toNatClampNeg 0) (z_36 : Int32).toNatClampNeg 0) (z_46 : Int32).toNatClampNeg 0))), ((ma 47), .inl (E 0, 5, .inl mf47)), ((ma 48), .inl (E 0, 5, .inl mf48)), ((ma 49), .inl (E 0, 5, .inl (upd mf49 (p0 : Int32).toNatClampNeg z_53))), ((ma 50), .inl (E 0, 15, .inl mf50)), ((ma 54), .inl (E 0, 15, .inl (upd (upd (upd mf54 (z_23 : Int32).toNatClampNeg p1) (z_33 : Int32).toNatClampNeg p2) (z_43 : Int32).toNatClampNeg p3))), ((ma 58), .inl (E 0, 3, .inl (upd (upd (upd mf58 (0 : Int32).toNatClampNeg p1) (1 : Int32).toNatClampNeg p2) (2 : Int32).toNatClampNeg p3))), (mh, .inr (9, G9 ma mcode mtoday moffs mmany msumW msumA msumR msumWW msumWA msumAA msumWR msumAR mupper mlower mrates mtaped mlaid mat mtk mtkAt mtkNumber mwaits mlisted mdealtMany)), ((ma 10), .inl (E 0, 6400, .inl u_50))] H := hP
              have hD := toW hP hD rfl
              refine lv_aload_n hx hb dX9_back_205 rfl (lv_at hl 3 rfl) ?_
              refine va_get (D := D) (ci := 9) (v := .ref (ma 47)) (C := RX9) (T := TX9) (N := 68) hx hb htb iX9 hown hK.1 hP 9 rfl rfl 47 (by decide) (htb _ k_1005) (fun _ h9 => h9) rfl dX9_back_206 ?_
              refine lv_iload_n hx hb dX9_back_209 rfl (lv_at hl 4 rfl) ?_
              refine lv_iconst (v := 2) hx hb dX9_back_210 (by decide) ?_
              refine va_iast hx hb hK.1 hP hD hS 3 0 rfl rfl (g_in rfl (by omega) (by omega)) dX9_back_211 (fun H locs hP hD hS => ?_)
              have hP : va_P D vwCl [((ma 5), .inl (E 1, 6400, .inl (upd (upd (upd mf5 (z_26 : Int32).toNatClampNeg (vp_nar .boolean 1)) (z_36 : Int32).toNatClampNeg (vp_nar .boolean 1)) (z_46 : Int32).toNatClampNeg (vp_nar .boolean 1)))), ((ma 6), .inl (E 0, 6400, .inl (upd (upd (upd mf6 (z_26 : Int32).toNatClampNeg p1) (z_36 : Int32).toNatClampNeg p2) (z_46 : Int32).toNatClampNeg p3))), ((ma 7), .inl (E 0, 6400, .inl (upd (upd (upd mf7 (z_26 : Int32).toNatClampNeg 0) (z_36 : Int32).toNatClampNeg 0) (z_46 : Int32).toNatClampNeg 0))), ((ma 47), .inl (E 0, 5, .inl (upd mf47 (p0 : Int32).toNatClampNeg 2))), ((ma 48), .inl (E 0, 5, .inl mf48)), ((ma 49), .inl (E 0, 5, .inl (upd mf49 (p0 : Int32).toNatClampNeg z_53))), ((ma 50), .inl (E 0, 15, .inl mf50)), ((ma 54), .inl (E 0, 15, .inl (upd (upd (upd mf54 (z_23 : Int32).toNatClampNeg p1) (z_33 : Int32).toNatClampNeg p2) (z_43 : Int32).toNatClampNeg p3))), ((ma 58), .inl (E 0, 3, .inl (upd (upd (upd mf58 (0 : Int32).toNatClampNeg p1) (1 : Int32).toNatClampNeg p2) (2 : Int32).toNatClampNeg p3))), (mh, .inr (9, G9 ma mcode mtoday moffs mmany msumW msumA msumR msumWW msumWA msumAA msumWR msumAR mupper mlower mrates mtaped mlaid mat mtk mtkAt mtkNumber mwaits mlisted mdealtMany)), ((ma 10), .inl (E 0, 6400, .inl u_50))] H := hP
              have hD := toW hP hD rfl
              refine lv_aload_n hx hb dX9_back_212 rfl (lv_at hl 3 rfl) ?_
              refine va_get (D := D) (ci := 9) (v := .ref (ma 49)) (C := RX9) (T := TX9) (N := 68) hx hb htb iX9 hown hK.1 hP 9 rfl rfl 49 (by decide) (htb _ k_1007) (fun _ h9 => h9) rfl dX9_back_213 ?_
              refine lv_iload_n hx hb dX9_back_216 rfl (lv_at hl 4 rfl) ?_
              refine va_iald hx hb hK.1 hP 5 0 rfl rfl (g_in rfl (by omega) (by omega)) dX9_back_217 ?_
              refine lv_topi (fun z_54 ez_54 => ?_)
              have kz_54 := congrArg Int32.toInt ez_54
              have hP9 := hP.sub (ws' := [(mh, .inr (9, G9 ma mcode mtoday moffs mmany msumW msumA msumR msumWW msumWA msumAA msumWR msumAR mupper mlower mrates mtaped mlaid mat mtk mtkAt mtkNumber mwaits mlisted mdealtMany)), ((ma 5), .inl (E 1, 6400, .inl (upd (upd (upd mf5 (z_26 : Int32).toNatClampNeg (vp_nar .boolean 1)) (z_36 : Int32).toNatClampNeg (vp_nar .boolean 1)) (z_46 : Int32).toNatClampNeg (vp_nar .boolean 1)))), ((ma 6), .inl (E 0, 6400, .inl (upd (upd (upd mf6 (z_26 : Int32).toNatClampNeg p1) (z_36 : Int32).toNatClampNeg p2) (z_46 : Int32).toNatClampNeg p3))), ((ma 7), .inl (E 0, 6400, .inl (upd (upd (upd mf7 (z_26 : Int32).toNatClampNeg 0) (z_36 : Int32).toNatClampNeg 0) (z_46 : Int32).toNatClampNeg 0))), ((ma 10), .inl (E 0, 6400, .inl u_50)), ((ma 47), .inl (E 0, 5, .inl (upd mf47 (p0 : Int32).toNatClampNeg 2))), ((ma 48), .inl (E 0, 5, .inl mf48)), ((ma 49), .inl (E 0, 5, .inl (upd mf49 (p0 : Int32).toNatClampNeg z_53))), ((ma 50), .inl (E 0, 15, .inl mf50)), ((ma 54), .inl (E 0, 15, .inl (upd (upd (upd mf54 (z_23 : Int32).toNatClampNeg p1) (z_33 : Int32).toNatClampNeg p2) (z_43 : Int32).toNatClampNeg p3))), ((ma 58), .inl (E 0, 3, .inl (upd (upd (upd mf58 (0 : Int32).toNatClampNeg p1) (1 : Int32).toNatClampNeg p2) (2 : Int32).toNatClampNeg p3)))]) [9, 0, 1, 2, 10, 3, 4, 5, 6, 7, 8] rfl
              have hD9 := hD.sub (ws' := [(mh, .inr (9, G9 ma mcode mtoday moffs mmany msumW msumA msumR msumWW msumWA msumAA msumWR msumAR mupper mlower mrates mtaped mlaid mat mtk mtkAt mtkNumber mwaits mlisted mdealtMany)), ((ma 5), .inl (E 1, 6400, .inl (upd (upd (upd mf5 (z_26 : Int32).toNatClampNeg (vp_nar .boolean 1)) (z_36 : Int32).toNatClampNeg (vp_nar .boolean 1)) (z_46 : Int32).toNatClampNeg (vp_nar .boolean 1)))), ((ma 6), .inl (E 0, 6400, .inl (upd (upd (upd mf6 (z_26 : Int32).toNatClampNeg p1) (z_36 : Int32).toNatClampNeg p2) (z_46 : Int32).toNatClampNeg p3))), ((ma 7), .inl (E 0, 6400, .inl (upd (upd (upd mf7 (z_26 : Int32).toNatClampNeg 0) (z_36 : Int32).toNatClampNeg 0) (z_46 : Int32).toNatClampNeg 0))), ((ma 10), .inl (E 0, 6400, .inl u_50)), ((ma 47), .inl (E 0, 5, .inl (upd mf47 (p0 : Int32).toNatClampNeg 2))), ((ma 48), .inl (E 0, 5, .inl mf48)), ((ma 49), .inl (E 0, 5, .inl (upd mf49 (p0 : Int32).toNatClampNeg z_53))), ((ma 50), .inl (E 0, 15, .inl mf50)), ((ma 54), .inl (E 0, 15, .inl (upd (upd (upd mf54 (z_23 : Int32).toNatClampNeg p1) (z_33 : Int32).toNatClampNeg p2) (z_43 : Int32).toNatClampNeg p3))), ((ma 58), .inl (E 0, 3, .inl (upd (upd (upd mf58 (0 : Int32).toNatClampNeg p1) (1 : Int32).toNatClampNeg p2) (2 : Int32).toNatClampNeg p3)))]) [9, 0, 1, 2, 10, 3, 4, 5, 6, 7, 8] (by decide) rfl
              exact W.iret (v := z_54) hx hb hr (fun t ht hW => ⟨⟨z_54, (u_50, (upd mf47 (p0 : Int32).toNatClampNeg 2), (upd mf49 (p0 : Int32).toNatClampNeg z_53), (upd (upd (upd mf5 (z_26 : Int32).toNatClampNeg (vp_nar .boolean 1)) (z_36 : Int32).toNatClampNeg (vp_nar .boolean 1)) (z_46 : Int32).toNatClampNeg (vp_nar .boolean 1)), (upd (upd (upd mf54 (z_23 : Int32).toNatClampNeg p1) (z_33 : Int32).toNatClampNeg p2) (z_43 : Int32).toNatClampNeg p3), (upd (upd (upd mf58 (0 : Int32).toNatClampNeg p1) (1 : Int32).toNatClampNeg p2) (2 : Int32).toNatClampNeg p3), (upd (upd (upd mf6 (z_26 : Int32).toNatClampNeg p1) (z_36 : Int32).toNatClampNeg p2) (z_46 : Int32).toNatClampNeg p3), (upd (upd (upd mf7 (z_26 : Int32).toNatClampNeg 0) (z_36 : Int32).toNatClampNeg 0) (z_46 : Int32).toNatClampNeg 0)), rfl, ⟨(J49_back j49 rfl (sub_nz ez_53 (by omega))), (by (try dsimp only); exact Or.inr (Or.inr ⟨by omega, by subst_vars; omega, by subst_vars; rfl, by subst_vars; rfl, by subst_vars; rfl, by subst_vars; rfl, rfl, by subst_vars; simp [upd]⟩))⟩, by rw [ht]; exact hP9, hD9⟩, hS.F ht⟩) hS.2.2 dX9_back_218
            ·
              have ic_20 : z_19.toInt = mtoday.toInt := (g_eq rfl rfl).mp c_20
              clear c_20
              refine lv_bipush (v := (-4)) hx hb dX9_back_66 (by decide) ?_
              have hP9 := hP.sub (ws' := [(mh, .inr (9, G9 ma mcode mtoday moffs mmany msumW msumA msumR msumWW msumWA msumAA msumWR msumAR mupper mlower mrates mtaped mlaid mat mtk mtkAt mtkNumber mwaits mlisted mdealtMany)), ((ma 5), .inl (E 1, 6400, .inl mf5)), ((ma 6), .inl (E 0, 6400, .inl mf6)), ((ma 7), .inl (E 0, 6400, .inl mf7)), ((ma 10), .inl (E 0, 6400, .inl mf10)), ((ma 47), .inl (E 0, 5, .inl mf47)), ((ma 48), .inl (E 0, 5, .inl mf48)), ((ma 49), .inl (E 0, 5, .inl mf49)), ((ma 50), .inl (E 0, 15, .inl mf50)), ((ma 54), .inl (E 0, 15, .inl mf54)), ((ma 58), .inl (E 0, 3, .inl mf58))]) [0, 1, 2, 3, 4, 5, 6, 7, 8, 9, 10] rfl
              have hD9 := hD.sub (ws' := [(mh, .inr (9, G9 ma mcode mtoday moffs mmany msumW msumA msumR msumWW msumWA msumAA msumWR msumAR mupper mlower mrates mtaped mlaid mat mtk mtkAt mtkNumber mwaits mlisted mdealtMany)), ((ma 5), .inl (E 1, 6400, .inl mf5)), ((ma 6), .inl (E 0, 6400, .inl mf6)), ((ma 7), .inl (E 0, 6400, .inl mf7)), ((ma 10), .inl (E 0, 6400, .inl mf10)), ((ma 47), .inl (E 0, 5, .inl mf47)), ((ma 48), .inl (E 0, 5, .inl mf48)), ((ma 49), .inl (E 0, 5, .inl mf49)), ((ma 50), .inl (E 0, 15, .inl mf50)), ((ma 54), .inl (E 0, 15, .inl mf54)), ((ma 58), .inl (E 0, 3, .inl mf58))]) [0, 1, 2, 3, 4, 5, 6, 7, 8, 9, 10] (by decide) rfl
              exact W.iret (v := (-4)) hx hb hr (fun t ht hW => ⟨⟨(-4), (mf10, mf47, mf49, mf5, mf54, mf58, mf6, mf7), rfl, ⟨j49, (by have hl0 := t_m4; (try dsimp only); first | exact Or.inl ⟨by omega, by omega, rfl, rfl, rfl, rfl, rfl, rfl⟩ | exact Or.inr (Or.inl ⟨by omega, by subst_vars; omega, by omega, rfl, rfl, rfl, rfl, rfl, rfl⟩))⟩, by rw [ht]; exact hP9, hD9⟩, hS.F ht⟩) hS.2.2 dX9_back_68
        ·
          try simp only [t_m100000, t_100000] at hw_14
          refine W_top (y := .int 0) (by rw [hr_13]) ?_
          refine lv_if_ne (tgt := 43) hx hb dX9_back_38 (by decide) (fun c_55 => absurd (by decide) c_55) (fun c_55 => ?_)
          refine lv_iconst (v := (-1)) hx hb dX9_back_41 (by decide) ?_
          have hP9 := hP.sub (ws' := [(mh, .inr (9, G9 ma mcode mtoday moffs mmany msumW msumA msumR msumWW msumWA msumAA msumWR msumAR mupper mlower mrates mtaped mlaid mat mtk mtkAt mtkNumber mwaits mlisted mdealtMany)), ((ma 5), .inl (E 1, 6400, .inl mf5)), ((ma 6), .inl (E 0, 6400, .inl mf6)), ((ma 7), .inl (E 0, 6400, .inl mf7)), ((ma 10), .inl (E 0, 6400, .inl mf10)), ((ma 47), .inl (E 0, 5, .inl mf47)), ((ma 48), .inl (E 0, 5, .inl mf48)), ((ma 49), .inl (E 0, 5, .inl mf49)), ((ma 50), .inl (E 0, 15, .inl mf50)), ((ma 54), .inl (E 0, 15, .inl mf54)), ((ma 58), .inl (E 0, 3, .inl mf58))]) [0, 1, 2, 3, 4, 5, 6, 7, 8, 9, 10] rfl
          have hD9 := hD.sub (ws' := [(mh, .inr (9, G9 ma mcode mtoday moffs mmany msumW msumA msumR msumWW msumWA msumAA msumWR msumAR mupper mlower mrates mtaped mlaid mat mtk mtkAt mtkNumber mwaits mlisted mdealtMany)), ((ma 5), .inl (E 1, 6400, .inl mf5)), ((ma 6), .inl (E 0, 6400, .inl mf6)), ((ma 7), .inl (E 0, 6400, .inl mf7)), ((ma 10), .inl (E 0, 6400, .inl mf10)), ((ma 47), .inl (E 0, 5, .inl mf47)), ((ma 48), .inl (E 0, 5, .inl mf48)), ((ma 49), .inl (E 0, 5, .inl mf49)), ((ma 50), .inl (E 0, 15, .inl mf50)), ((ma 54), .inl (E 0, 15, .inl mf54)), ((ma 58), .inl (E 0, 3, .inl mf58))]) [0, 1, 2, 3, 4, 5, 6, 7, 8, 9, 10] (by decide) rfl
          exact W.iret (v := (-1)) hx hb hr (fun t ht hW => ⟨⟨(-1), (mf10, mf47, mf49, mf5, mf54, mf58, mf6, mf7), rfl, ⟨j49, (by have hl0 := t_m1; (try dsimp only); first | exact Or.inl ⟨by omega, by omega, rfl, rfl, rfl, rfl, rfl, rfl⟩ | exact Or.inr (Or.inl ⟨by omega, by subst_vars; omega, by omega, rfl, rfl, rfl, rfl, rfl, rfl⟩))⟩, by rw [ht]; exact hP9, hD9⟩, hS.F ht⟩) hS.2.2 dX9_back_42
      ·
        try simp only [t_m100000, t_100000] at hw_10
        refine W_top (y := .int 0) (by rw [hr_9]) ?_
        refine lv_if_eq (tgt := 41) hx hb dX9_back_26 (by decide) (fun c_56 => ?_) (fun c_56 => absurd (by decide) c_56)
        refine lv_iconst (v := (-1)) hx hb dX9_back_41 (by decide) ?_
        have hP9 := hP.sub (ws' := [(mh, .inr (9, G9 ma mcode mtoday moffs mmany msumW msumA msumR msumWW msumWA msumAA msumWR msumAR mupper mlower mrates mtaped mlaid mat mtk mtkAt mtkNumber mwaits mlisted mdealtMany)), ((ma 5), .inl (E 1, 6400, .inl mf5)), ((ma 6), .inl (E 0, 6400, .inl mf6)), ((ma 7), .inl (E 0, 6400, .inl mf7)), ((ma 10), .inl (E 0, 6400, .inl mf10)), ((ma 47), .inl (E 0, 5, .inl mf47)), ((ma 48), .inl (E 0, 5, .inl mf48)), ((ma 49), .inl (E 0, 5, .inl mf49)), ((ma 50), .inl (E 0, 15, .inl mf50)), ((ma 54), .inl (E 0, 15, .inl mf54)), ((ma 58), .inl (E 0, 3, .inl mf58))]) [0, 1, 2, 3, 4, 5, 6, 7, 8, 9, 10] rfl
        have hD9 := hD.sub (ws' := [(mh, .inr (9, G9 ma mcode mtoday moffs mmany msumW msumA msumR msumWW msumWA msumAA msumWR msumAR mupper mlower mrates mtaped mlaid mat mtk mtkAt mtkNumber mwaits mlisted mdealtMany)), ((ma 5), .inl (E 1, 6400, .inl mf5)), ((ma 6), .inl (E 0, 6400, .inl mf6)), ((ma 7), .inl (E 0, 6400, .inl mf7)), ((ma 10), .inl (E 0, 6400, .inl mf10)), ((ma 47), .inl (E 0, 5, .inl mf47)), ((ma 48), .inl (E 0, 5, .inl mf48)), ((ma 49), .inl (E 0, 5, .inl mf49)), ((ma 50), .inl (E 0, 15, .inl mf50)), ((ma 54), .inl (E 0, 15, .inl mf54)), ((ma 58), .inl (E 0, 3, .inl mf58))]) [0, 1, 2, 3, 4, 5, 6, 7, 8, 9, 10] (by decide) rfl
        exact W.iret (v := (-1)) hx hb hr (fun t ht hW => ⟨⟨(-1), (mf10, mf47, mf49, mf5, mf54, mf58, mf6, mf7), rfl, ⟨j49, (by have hl0 := t_m1; (try dsimp only); first | exact Or.inl ⟨by omega, by omega, rfl, rfl, rfl, rfl, rfl, rfl⟩ | exact Or.inr (Or.inl ⟨by omega, by subst_vars; omega, by omega, rfl, rfl, rfl, rfl, rfl, rfl⟩))⟩, by rw [ht]; exact hP9, hD9⟩, hS.F ht⟩) hS.2.2 dX9_back_42
    ·
      try simp only [t_m100000, t_100000] at hw_6
      refine W_top (y := .int 0) (by rw [hr_5]) ?_
      refine lv_if_eq (tgt := 41) hx hb dX9_back_15 (by decide) (fun c_57 => ?_) (fun c_57 => absurd (by decide) c_57)
      refine lv_iconst (v := (-1)) hx hb dX9_back_41 (by decide) ?_
      have hP9 := hP.sub (ws' := [(mh, .inr (9, G9 ma mcode mtoday moffs mmany msumW msumA msumR msumWW msumWA msumAA msumWR msumAR mupper mlower mrates mtaped mlaid mat mtk mtkAt mtkNumber mwaits mlisted mdealtMany)), ((ma 5), .inl (E 1, 6400, .inl mf5)), ((ma 6), .inl (E 0, 6400, .inl mf6)), ((ma 7), .inl (E 0, 6400, .inl mf7)), ((ma 10), .inl (E 0, 6400, .inl mf10)), ((ma 47), .inl (E 0, 5, .inl mf47)), ((ma 48), .inl (E 0, 5, .inl mf48)), ((ma 49), .inl (E 0, 5, .inl mf49)), ((ma 50), .inl (E 0, 15, .inl mf50)), ((ma 54), .inl (E 0, 15, .inl mf54)), ((ma 58), .inl (E 0, 3, .inl mf58))]) [0, 1, 2, 3, 4, 5, 6, 7, 8, 9, 10] rfl
      have hD9 := hD.sub (ws' := [(mh, .inr (9, G9 ma mcode mtoday moffs mmany msumW msumA msumR msumWW msumWA msumAA msumWR msumAR mupper mlower mrates mtaped mlaid mat mtk mtkAt mtkNumber mwaits mlisted mdealtMany)), ((ma 5), .inl (E 1, 6400, .inl mf5)), ((ma 6), .inl (E 0, 6400, .inl mf6)), ((ma 7), .inl (E 0, 6400, .inl mf7)), ((ma 10), .inl (E 0, 6400, .inl mf10)), ((ma 47), .inl (E 0, 5, .inl mf47)), ((ma 48), .inl (E 0, 5, .inl mf48)), ((ma 49), .inl (E 0, 5, .inl mf49)), ((ma 50), .inl (E 0, 15, .inl mf50)), ((ma 54), .inl (E 0, 15, .inl mf54)), ((ma 58), .inl (E 0, 3, .inl mf58))]) [0, 1, 2, 3, 4, 5, 6, 7, 8, 9, 10] (by decide) rfl
      exact W.iret (v := (-1)) hx hb hr (fun t ht hW => ⟨⟨(-1), (mf10, mf47, mf49, mf5, mf54, mf58, mf6, mf7), rfl, ⟨j49, (by have hl0 := t_m1; (try dsimp only); first | exact Or.inl ⟨by omega, by omega, rfl, rfl, rfl, rfl, rfl, rfl⟩ | exact Or.inr (Or.inl ⟨by omega, by subst_vars; omega, by omega, rfl, rfl, rfl, rfl, rfl, rfl⟩))⟩, by rw [ht]; exact hP9, hD9⟩, hS.F ht⟩) hS.2.2 dX9_back_42
  ·
    refine W_top (y := .int 0) (by rw [hr_1]) ?_
    refine lv_if_eq (tgt := 41) hx hb dX9_back_4 (by decide) (fun c_58 => ?_) (fun c_58 => absurd (by decide) c_58)
    refine lv_iconst (v := (-1)) hx hb dX9_back_41 (by decide) ?_
    have hP9 := hP.sub (ws' := [(mh, .inr (9, G9 ma mcode mtoday moffs mmany msumW msumA msumR msumWW msumWA msumAA msumWR msumAR mupper mlower mrates mtaped mlaid mat mtk mtkAt mtkNumber mwaits mlisted mdealtMany)), ((ma 5), .inl (E 1, 6400, .inl mf5)), ((ma 6), .inl (E 0, 6400, .inl mf6)), ((ma 7), .inl (E 0, 6400, .inl mf7)), ((ma 10), .inl (E 0, 6400, .inl mf10)), ((ma 47), .inl (E 0, 5, .inl mf47)), ((ma 48), .inl (E 0, 5, .inl mf48)), ((ma 49), .inl (E 0, 5, .inl mf49)), ((ma 50), .inl (E 0, 15, .inl mf50)), ((ma 54), .inl (E 0, 15, .inl mf54)), ((ma 58), .inl (E 0, 3, .inl mf58))]) [0, 1, 2, 3, 4, 5, 6, 7, 8, 9, 10] rfl
    have hD9 := hD.sub (ws' := [(mh, .inr (9, G9 ma mcode mtoday moffs mmany msumW msumA msumR msumWW msumWA msumAA msumWR msumAR mupper mlower mrates mtaped mlaid mat mtk mtkAt mtkNumber mwaits mlisted mdealtMany)), ((ma 5), .inl (E 1, 6400, .inl mf5)), ((ma 6), .inl (E 0, 6400, .inl mf6)), ((ma 7), .inl (E 0, 6400, .inl mf7)), ((ma 10), .inl (E 0, 6400, .inl mf10)), ((ma 47), .inl (E 0, 5, .inl mf47)), ((ma 48), .inl (E 0, 5, .inl mf48)), ((ma 49), .inl (E 0, 5, .inl mf49)), ((ma 50), .inl (E 0, 15, .inl mf50)), ((ma 54), .inl (E 0, 15, .inl mf54)), ((ma 58), .inl (E 0, 3, .inl mf58))]) [0, 1, 2, 3, 4, 5, 6, 7, 8, 9, 10] (by decide) rfl
    exact W.iret (v := (-1)) hx hb hr (fun t ht hW => ⟨⟨(-1), (mf10, mf47, mf49, mf5, mf54, mf58, mf6, mf7), rfl, ⟨j49, (by have hl0 := t_m1; (try dsimp only); first | exact Or.inl ⟨by omega, by omega, rfl, rfl, rfl, rfl, rfl, rfl⟩ | exact Or.inr (Or.inl ⟨by omega, by subst_vars; omega, by omega, rfl, rfl, rfl, rfl, rfl, rfl⟩))⟩, by rw [ht]; exact hP9, hD9⟩, hS.F ht⟩) hS.2.2 dX9_back_42
set_option maxHeartbeats 4000000 in
set_option maxRecDepth 100000 in
theorem g_X9_secondOf (l : Launch) (D : va_G) (E : Nat → Nat) (mh : Nat) (ma : Nat → Nat) (mcode : Int32) (mtoday : Int32) (moffs : Int32) (mmany : Int64) (msumW : Int64) (msumA : Int64) (msumR : Int64) (msumWW : Int64) (msumWA : Int64) (msumAA : Int64) (msumWR : Int64) (msumAR : Int64) (mupper : Int64) (mlower : Int64) (mrates : Int32) (mtaped : Int32) (mlaid : Int32) (mat : Int32) (mtk : Int32) (mtkAt : Int32) (mtkNumber : Int32) (mwaits : Int32) (mlisted : Int32) (mdealtMany : Int32) (mf62 : Nat → Int32) (mf65 : Nat → Int32) (p0 : Int32) (hi_m : (0 ≤ mtoday.toInt ∧ mtoday.toInt ≤ 399) ∧ (0 ≤ moffs.toInt ∧ moffs.toInt ≤ 60) ∧ (0 ≤ mrates.toInt ∧ mrates.toInt ≤ 60) ∧ (0 ≤ mtaped.toInt ∧ mtaped.toInt ≤ 120) ∧ (0 ≤ mlisted.toInt ∧ mlisted.toInt ≤ 9) ∧ (0 ≤ mdealtMany.toInt ∧ mdealtMany.toInt ≤ 9)) (hr_m65 : ∀ k : Nat, k < 9 → 0 ≤ (mf65 k).toInt ∧ (mf65 k).toInt ≤ 3) : Met l yX9_secondOf (wl yX9_secondOf cX9_secondOf 5 (some .int)) (RM 0 0 0) (rd_P D E [.ref mh, .int p0] [(mh, .inr (9, G9 ma mcode mtoday moffs mmany msumW msumA msumR msumWW msumWA msumAA msumWR msumAR mupper mlower mrates mtaped mlaid mat mtk mtkAt mtkNumber mwaits mlisted mdealtMany)), ((ma 62), .inl (E 0, 9, .inl mf62)), ((ma 65), .inl (E 0, 9, .inl mf65))]) (rd_Q (fun r => True)) 0 0 (fun _ => False) := by
  refine Met.ofW (cc := cX9_secondOf) (maxL := 5) (ret := (some .int)) (by decide) rfl ?_
  intro p e s m args below meth c s₁ B hml hv
  obtain ⟨rfl, hP, hK⟩ := hv
  have hx := B.exec; have hb := B.bytes; have hr := B.returns
  have hts := atoms_spec (ws := wl yX9_secondOf cX9_secondOf 5 (some .int)) B.pre
  have htb : ∀ w ∈ tb, w.before _ s = true := fun w h => hts w (List.mem_cons_of_mem _ h)
  have hown : s.vm.findClass RX9 = some m.cls := findClass_of_methodNamed B.named
  have hlocks := B.notSynchronized
  have hP : va_P D vwCl [(mh, .inr (9, G9 ma mcode mtoday moffs mmany msumW msumA msumR msumWW msumWA msumAA msumWR msumAR mupper mlower mrates mtaped mlaid mat mtk mtkAt mtkNumber mwaits mlisted mdealtMany)), ((ma 62), .inl (E 0, 9, .inl mf62)), ((ma 65), .inl (E 0, 9, .inl mf65))] s.heap := hP
  have hl := lv_entry ([.ref mh, .int p0]) (n := 5) (Nat.le_of_ble_eq_true rfl)
  rw [lg_entry_eq]
  generalize (lg_sl ([.ref mh, .int p0]) ++ List.replicate (5 - (lg_sl ([.ref mh, .int p0])).length) Slot.unset).toArray = ls at hl ⊢
  have hl : lv_has ls 5 [(0, .ref mh), (1, .int p0)] := hl
  have lo_p0 := i_lo p0; have hi_p0 := i_hi p0
  refine lv_sipush (v := 10000) hx hb dX9_secondOf_0 (by decide) ?_
  refine lv_istore_n (lv' := [(2, .int 10000), (0, .ref mh), (1, .int p0)]) hx hb dX9_secondOf_3 rfl hl (by decide) rfl (fun ls hl => ?_)
  refine lv_sipush (v := 10000) hx hb dX9_secondOf_4 (by decide) ?_
  refine lv_istore_n (lv' := [(3, .int 10000), (2, .int 10000), (0, .ref mh), (1, .int p0)]) hx hb dX9_secondOf_7 rfl hl (by decide) rfl (fun ls hl => ?_)
  refine lv_iconst (v := 0) hx hb dX9_secondOf_8 (by decide) ?_
  refine lv_istore (lv' := [(4, .int 0), (3, .int 10000), (2, .int 10000), (0, .ref mh), (1, .int p0)]) hx hb dX9_secondOf_9 hl (by decide) rfl (fun ls hl => ?_)
  have loop_1 : ∀ (N_3 : Nat) (L4_11 : Int32) (L3_11 : Int32) (L2_11 : Int32)  (ls : Array Slot), mlisted.toInt - L4_11.toInt < (N_3 : Int) → (0 ≤ L4_11.toInt ∧ L4_11.toInt ≤ mlisted.toInt) → lv_has ls 5 [(4, .int L4_11), (3, .int L3_11), (2, .int L2_11), (0, .ref mh), (1, .int p0)] → W p l e (headSpec (wl yX9_secondOf cX9_secondOf 5 (some .int)) (RM 0 0 0)).room s m [Value.ref mh, .int p0].toArray below meth c s.heap [] 0 0 (MQ below (rd_Q (fun r => True)) [Value.ref mh, .int p0].toArray s 0 0 (fun _ => False)) (F0 m 11 ls []) := by
    intro N_3
    induction N_3 with
    | zero => intro L4_11 L3_11 L2_11  ls hm v0_11 _; exfalso; omega
    | succ N_3 ih_2 =>
      intro L4_11 L3_11 L2_11 ls hm v0_11 hl
      have lo_L4_11 := i_lo L4_11; have hi_L4_11 := i_hi L4_11
      have lo_L3_11 := i_lo L3_11; have hi_L3_11 := i_hi L3_11
      have lo_L2_11 := i_lo L2_11; have hi_L2_11 := i_hi L2_11
      refine lv_iload hx hb dX9_secondOf_11 (lv_at hl 0 rfl) ?_
      refine lv_aload_n hx hb dX9_secondOf_13 rfl (lv_at hl 3 rfl) ?_
      refine va_get (D := D) (ci := 9) (v := .int mlisted) (C := RX9) (T := TX9) (N := 68) hx hb htb iX9 hown hK.1 hP 0 rfl rfl 61 (by decide) (htb _ k_1019) (fun _ h9 => h9) rfl dX9_secondOf_14 ?_
      refine lv_icmp_ge (tgt := 83) hx hb dX9_secondOf_17 (by decide) (fun c_4 => ?_) (fun c_4 => ?_)
      ·
        have ic_4 : mlisted.toInt ≤ L4_11.toInt := by first | exact (g_le rfl rfl).mp c_4 | (have h := mt (g_lt rfl rfl).mpr c_4; omega)
        clear c_4
        refine lv_iload_n hx hb dX9_secondOf_83 rfl (lv_at hl 1 rfl) ?_
        exact W.iret (v := L3_11) hx hb hr (fun t ht hW => ⟨L3_11, rfl, trivial, ht⟩) (fun q h => by cases h) dX9_secondOf_84
      ·
        have ic_4 : L4_11.toInt < mlisted.toInt := by first | exact (g_lt rfl rfl).mp c_4 | (have h := mt (g_le rfl rfl).mpr c_4; omega)
        clear c_4
        refine lv_aload_n hx hb dX9_secondOf_20 rfl (lv_at hl 3 rfl) ?_
        refine va_get (D := D) (ci := 9) (v := .ref (ma 65)) (C := RX9) (T := TX9) (N := 68) hx hb htb iX9 hown hK.1 hP 0 rfl rfl 65 (by decide) (htb _ k_1023) (fun _ h9 => h9) rfl dX9_secondOf_21 ?_
        refine lv_iload hx hb dX9_secondOf_24 (lv_at hl 0 rfl) ?_
        refine va_iald hx hb hK.1 hP 2 0 rfl rfl (g_in rfl (by omega) (by omega)) dX9_secondOf_26 ?_
        refine lv_topi (fun z_5 ez_5 => ?_)
        have kz_5 := congrArg Int32.toInt ez_5
        have jz_5 : 0 ≤ z_5.toInt ∧ z_5.toInt ≤ 3 := by rw [ez_5]; exact hr_m65 _ (g_ix rfl (by omega) (by omega))
        refine lv_iload_n hx hb dX9_secondOf_27 rfl (lv_at hl 4 rfl) ?_
        refine lv_icmp_eq (tgt := 34) hx hb dX9_secondOf_28 (by decide) (fun c_6 => ?_) (fun c_6 => ?_)
        ·
          have ic_6 : z_5.toInt = p0.toInt := (g_eq rfl rfl).mp c_6
          clear c_6
          refine lv_aload_n hx hb dX9_secondOf_34 rfl (lv_at hl 3 rfl) ?_
          refine va_get (D := D) (ci := 9) (v := .ref (ma 62)) (C := RX9) (T := TX9) (N := 68) hx hb htb iX9 hown hK.1 hP 0 rfl rfl 62 (by decide) (htb _ k_1020) (fun _ h9 => h9) rfl dX9_secondOf_35 ?_
          refine lv_iload hx hb dX9_secondOf_38 (lv_at hl 0 rfl) ?_
          refine va_iald hx hb hK.1 hP 1 0 rfl rfl (g_in rfl (by omega) (by omega)) dX9_secondOf_40 ?_
          refine lv_topi (fun z_7 ez_7 => ?_)
          have kz_7 := congrArg Int32.toInt ez_7
          refine lv_iload_n hx hb dX9_secondOf_41 rfl (lv_at hl 2 rfl) ?_
          refine lv_icmp_ge (tgt := 58) hx hb dX9_secondOf_42 (by decide) (fun c_8 => ?_) (fun c_8 => ?_)
          ·
            have ic_8 : L2_11.toInt ≤ z_7.toInt := by first | exact (g_le rfl rfl).mp c_8 | (have h := mt (g_lt rfl rfl).mpr c_8; omega)
            clear c_8
            refine lv_aload_n hx hb dX9_secondOf_58 rfl (lv_at hl 3 rfl) ?_
            refine va_get (D := D) (ci := 9) (v := .ref (ma 62)) (C := RX9) (T := TX9) (N := 68) hx hb htb iX9 hown hK.1 hP 0 rfl rfl 62 (by decide) (htb _ k_1020) (fun _ h9 => h9) rfl dX9_secondOf_59 ?_
            refine lv_iload hx hb dX9_secondOf_62 (lv_at hl 0 rfl) ?_
            refine va_iald hx hb hK.1 hP 1 0 rfl rfl (g_in rfl (by omega) (by omega)) dX9_secondOf_64 ?_
            refine lv_topi (fun z_9 ez_9 => ?_)
            have kz_9 := congrArg Int32.toInt ez_9
            refine lv_iload_n hx hb dX9_secondOf_65 rfl (lv_at hl 1 rfl) ?_
            refine lv_icmp_ge (tgt := 77) hx hb dX9_secondOf_66 (by decide) (fun c_10 => ?_) (fun c_10 => ?_)
            ·
              have ic_10 : L3_11.toInt ≤ z_9.toInt := by first | exact (g_le rfl rfl).mp c_10 | (have h := mt (g_lt rfl rfl).mpr c_10; omega)
              clear c_10
              obtain ⟨z_11, ez_11⟩ : ∃ y : Int32, y = L4_11 + 1 := ⟨_, rfl⟩
              have jz_11 : z_11.toInt = L4_11.toInt + 1 := by rw [ez_11]; exact g_add rfl t_1 (by omega) (by omega)
              refine lv_iinc (v := z_11) (lv' := [(4, .int z_11), (3, .int L3_11), (2, .int L2_11), (0, .ref mh), (1, .int p0)]) hx hb dX9_secondOf_77 hl (k := 0) rfl (by rw [ez_11]; rfl) (by decide) rfl (fun ls hl => ?_)
              refine lv_goto (tgt := 11) hx hb dX9_secondOf_80 (by decide) ?_
              exact ih_2 z_11 L3_11 L2_11 _ (by (try dsimp only); omega) (by (try dsimp only); omega) (lv_sub hl [0, 1, 2, 3, 4] rfl)
            ·
              have ic_10 : z_9.toInt < L3_11.toInt := by first | exact (g_lt rfl rfl).mp c_10 | (have h := mt (g_le rfl rfl).mpr c_10; omega)
              clear c_10
              refine lv_aload_n hx hb dX9_secondOf_69 rfl (lv_at hl 3 rfl) ?_
              refine va_get (D := D) (ci := 9) (v := .ref (ma 62)) (C := RX9) (T := TX9) (N := 68) hx hb htb iX9 hown hK.1 hP 0 rfl rfl 62 (by decide) (htb _ k_1020) (fun _ h9 => h9) rfl dX9_secondOf_70 ?_
              refine lv_iload hx hb dX9_secondOf_73 (lv_at hl 0 rfl) ?_
              refine va_iald hx hb hK.1 hP 1 0 rfl rfl (g_in rfl (by omega) (by omega)) dX9_secondOf_75 ?_
              refine lv_topi (fun z_12 ez_12 => ?_)
              have kz_12 := congrArg Int32.toInt ez_12
              refine lv_istore_n (lv' := [(3, .int z_12), (4, .int L4_11), (2, .int L2_11), (0, .ref mh), (1, .int p0)]) hx hb dX9_secondOf_76 rfl hl (by decide) rfl (fun ls hl => ?_)
              obtain ⟨z_13, ez_13⟩ : ∃ y : Int32, y = L4_11 + 1 := ⟨_, rfl⟩
              have jz_13 : z_13.toInt = L4_11.toInt + 1 := by rw [ez_13]; exact g_add rfl t_1 (by omega) (by omega)
              refine lv_iinc (v := z_13) (lv' := [(4, .int z_13), (3, .int z_12), (2, .int L2_11), (0, .ref mh), (1, .int p0)]) hx hb dX9_secondOf_77 hl (k := 1) rfl (by rw [ez_13]; rfl) (by decide) rfl (fun ls hl => ?_)
              refine lv_goto (tgt := 11) hx hb dX9_secondOf_80 (by decide) ?_
              exact ih_2 z_13 z_12 L2_11 _ (by (try dsimp only); omega) (by (try dsimp only); omega) (lv_sub hl [0, 1, 2, 3, 4] rfl)
          ·
            have ic_8 : z_7.toInt < L2_11.toInt := by first | exact (g_lt rfl rfl).mp c_8 | (have h := mt (g_le rfl rfl).mpr c_8; omega)
            clear c_8
            refine lv_iload_n hx hb dX9_secondOf_45 rfl (lv_at hl 2 rfl) ?_
            refine lv_istore_n (lv' := [(3, .int L2_11), (4, .int L4_11), (2, .int L2_11), (0, .ref mh), (1, .int p0)]) hx hb dX9_secondOf_46 rfl hl (by decide) rfl (fun ls hl => ?_)
            refine lv_aload_n hx hb dX9_secondOf_47 rfl (lv_at hl 3 rfl) ?_
            refine va_get (D := D) (ci := 9) (v := .ref (ma 62)) (C := RX9) (T := TX9) (N := 68) hx hb htb iX9 hown hK.1 hP 0 rfl rfl 62 (by decide) (htb _ k_1020) (fun _ h9 => h9) rfl dX9_secondOf_48 ?_
            refine lv_iload hx hb dX9_secondOf_51 (lv_at hl 1 rfl) ?_
            refine va_iald hx hb hK.1 hP 1 0 rfl rfl (g_in rfl (by omega) (by omega)) dX9_secondOf_53 ?_
            refine lv_topi (fun z_14 ez_14 => ?_)
            have kz_14 := congrArg Int32.toInt ez_14
            refine lv_istore_n (lv' := [(2, .int z_14), (3, .int L2_11), (4, .int L4_11), (0, .ref mh), (1, .int p0)]) hx hb dX9_secondOf_54 rfl hl (by decide) rfl (fun ls hl => ?_)
            refine lv_goto (tgt := 77) hx hb dX9_secondOf_55 (by decide) ?_
            obtain ⟨z_15, ez_15⟩ : ∃ y : Int32, y = L4_11 + 1 := ⟨_, rfl⟩
            have jz_15 : z_15.toInt = L4_11.toInt + 1 := by rw [ez_15]; exact g_add rfl t_1 (by omega) (by omega)
            refine lv_iinc (v := z_15) (lv' := [(4, .int z_15), (2, .int z_14), (3, .int L2_11), (0, .ref mh), (1, .int p0)]) hx hb dX9_secondOf_77 hl (k := 2) rfl (by rw [ez_15]; rfl) (by decide) rfl (fun ls hl => ?_)
            refine lv_goto (tgt := 11) hx hb dX9_secondOf_80 (by decide) ?_
            exact ih_2 z_15 L2_11 z_14 _ (by (try dsimp only); omega) (by (try dsimp only); omega) (lv_sub hl [0, 2, 1, 3, 4] rfl)
        ·
          have ic_6 : z_5.toInt ≠ p0.toInt := mt (g_eq rfl rfl).mpr c_6
          clear c_6
          refine lv_goto (tgt := 77) hx hb dX9_secondOf_31 (by decide) ?_
          obtain ⟨z_16, ez_16⟩ : ∃ y : Int32, y = L4_11 + 1 := ⟨_, rfl⟩
          have jz_16 : z_16.toInt = L4_11.toInt + 1 := by rw [ez_16]; exact g_add rfl t_1 (by omega) (by omega)
          refine lv_iinc (v := z_16) (lv' := [(4, .int z_16), (3, .int L3_11), (2, .int L2_11), (0, .ref mh), (1, .int p0)]) hx hb dX9_secondOf_77 hl (k := 0) rfl (by rw [ez_16]; rfl) (by decide) rfl (fun ls hl => ?_)
          refine lv_goto (tgt := 11) hx hb dX9_secondOf_80 (by decide) ?_
          exact ih_2 z_16 L3_11 L2_11 _ (by (try dsimp only); omega) (by (try dsimp only); omega) (lv_sub hl [0, 1, 2, 3, 4] rfl)
  exact loop_1 10 0 10000 10000 _ (by have h0 := t_0; have h1 := t_10000; (try dsimp only); omega) (by have h0 := t_0; have h1 := t_10000; (try dsimp only); omega)  (lv_sub hl [0, 1, 2, 3, 4] rfl)
