set_option maxHeartbeats 4000000 in
set_option maxRecDepth 100000 in
theorem g_X9_days (l : Launch) (D : va_G) (E : Nat → Nat) (mh : Nat) (ma : Nat → Nat) (mcode : Int32) (mtoday : Int32) (moffs : Int32) (mmany : Int64) (msumW : Int64) (msumA : Int64) (msumR : Int64) (msumWW : Int64) (msumWA : Int64) (msumAA : Int64) (msumWR : Int64) (msumAR : Int64) (mupper : Int64) (mlower : Int64) (mrates : Int32) (mtaped : Int32) (mlaid : Int32) (mat : Int32) (mtk : Int32) (mtkAt : Int32) (mtkNumber : Int32) (mwaits : Int32) (mlisted : Int32) (mdealtMany : Int32) (mf10 : Nat → Int32) (p0 : Int32) (sz : Nat) (hi_m : (0 ≤ mtoday.toInt ∧ mtoday.toInt ≤ 399) ∧ (0 ≤ moffs.toInt ∧ moffs.toInt ≤ 60) ∧ (0 ≤ mrates.toInt ∧ mrates.toInt ≤ 60) ∧ (0 ≤ mtaped.toInt ∧ mtaped.toInt ≤ 120) ∧ (0 ≤ mlisted.toInt ∧ mlisted.toInt ≤ 9) ∧ (0 ≤ mdealtMany.toInt ∧ mdealtMany.toInt ≤ 9)) : Met l yX9_days (wl yX9_days cX9_days 4 (some .int)) (RM 1 0 0) (mu_P D E [.ref mh, .int p0] [(mh, .inr (9, G9 ma mcode mtoday moffs mmany msumW msumA msumR msumWW msumWA msumAA msumWR msumAR mupper mlower mrates mtaped mlaid mat mtk mtkAt mtkNumber mwaits mlisted mdealtMany)), ((ma 10), .inl (E 0, 6400, .inl mf10))] sz) (va_Qi (fun (r : Int32) (u : (Nat → Int32) × (Int32)) => (0 ≤ u.2.toInt ∧ u.2.toInt ≤ 399) ∧ (((1 ≤ p0.toInt ∧ p0.toInt ≤ 100 ∧ mtoday.toInt + p0.toInt ≤ 399) ∧ r.toInt = mtoday.toInt + p0.toInt ∧ u.2.toInt = r.toInt ∧ HD2 mf10 u.1 mtoday.toInt u.2.toInt 0) ∨ (¬ (1 ≤ p0.toInt ∧ p0.toInt ≤ 100 ∧ mtoday.toInt + p0.toInt ≤ 399) ∧ r.toInt = -1 ∧ u.2.toInt = mtoday.toInt ∧ u.1 = mf10))) (mu_B D (va_A [(mh, .inr (9, G9 ma mcode mtoday moffs mmany msumW msumA msumR msumWW msumWA msumAA msumWR msumAR mupper mlower mrates mtaped mlaid mat mtk mtkAt mtkNumber mwaits mlisted mdealtMany)), ((ma 10), .inl (E 0, 6400, .inl mf10))] sz) (fun (u : (Nat → Int32) × (Int32)) => [(mh, .inr (9, G9 ma mcode u.2 moffs mmany msumW msumA msumR msumWW msumWA msumAA msumWR msumAR mupper mlower mrates mtaped mlaid mat mtk mtkAt mtkNumber mwaits mlisted mdealtMany)), ((ma 10), .inl (E 0, 6400, .inl u.1))])) (va_A [(mh, .inr (9, G9 ma mcode mtoday moffs mmany msumW msumA msumR msumWW msumWA msumAA msumWR msumAR mupper mlower mrates mtaped mlaid mat mtk mtkAt mtkNumber mwaits mlisted mdealtMany)), ((ma 10), .inl (E 0, 6400, .inl mf10))] sz)) 0 0 (va_A [(mh, .inr (9, G9 ma mcode mtoday moffs mmany msumW msumA msumR msumWW msumWA msumAA msumWR msumAR mupper mlower mrates mtaped mlaid mat mtk mtkAt mtkNumber mwaits mlisted mdealtMany)), ((ma 10), .inl (E 0, 6400, .inl mf10))] sz) := by
  refine Met.ofW (cc := cX9_days) (maxL := 4) (ret := (some .int)) (by decide) rfl ?_
  intro p e s m args below meth c s₁ B hml hv
  obtain ⟨rfl, hsz, hP, hK, hD0⟩ := hv
  have hx := B.exec; have hb := B.bytes; have hr := B.returns
  have hts := atoms_spec (ws := wl yX9_days cX9_days 4 (some .int)) B.pre
  have htb : ∀ w ∈ tb, w.before _ s = true := fun w h => hts w (List.mem_cons_of_mem _ h)
  have hown : s.vm.findClass RX9 = some m.cls := findClass_of_methodNamed B.named
  have hlocks := B.notSynchronized
  subst hsz
  have hD := hD0.self (sz := s.heap.size)
  generalize hAe : va_A [(mh, .inr (9, G9 ma mcode mtoday moffs mmany msumW msumA msumR msumWW msumWA msumAA msumWR msumAR mupper mlower mrates mtaped mlaid mat mtk mtkAt mtkNumber mwaits mlisted mdealtMany)), ((ma 10), .inl (E 0, 6400, .inl mf10))] s.heap.size = A at hD ⊢
  have hA : ∀ q : Nat, s.heap.size ≤ q → A q := fun q h => by rw [← hAe]; exact Or.inr h
  have hS : va_S A s.heap s.heap [] := va_S.rf
  have hP : va_P D vwCl [(mh, .inr (9, G9 ma mcode mtoday moffs mmany msumW msumA msumR msumWW msumWA msumAA msumWR msumAR mupper mlower mrates mtaped mlaid mat mtk mtkAt mtkNumber mwaits mlisted mdealtMany)), ((ma 10), .inl (E 0, 6400, .inl mf10))] s.heap := hP
  have hl := lv_entry ([.ref mh, .int p0]) (n := 4) (Nat.le_of_ble_eq_true rfl)
  rw [lg_entry_eq]
  generalize (lg_sl ([.ref mh, .int p0]) ++ List.replicate (4 - (lg_sl ([.ref mh, .int p0])).length) Slot.unset).toArray = ls at hl ⊢
  have hl : lv_has ls 4 [(0, .ref mh), (1, .int p0)] := hl
  have lo_p0 := i_lo p0; have hi_p0 := i_hi p0
  refine lv_iload_n hx hb dX9_days_0 rfl (lv_at hl 1 rfl) ?_
  refine lv_iconst (v := 1) hx hb dX9_days_1 (by decide) ?_
  refine lv_bipush (v := 100) hx hb dX9_days_2 (by decide) ?_
  refine callRS (rest := []) (As := [.int p0, .int 1, .int 100]) hx hb hml hown htb hK (g_X9_in l D E p0 1 100 ) ok_X9_in k_1168 k_1169 k_9 k_1170 ⟨(Nat.le_of_ble_eq_true rfl), (Nat.le_of_ble_eq_true rfl)⟩ ⟨(Nat.le_of_ble_eq_true rfl), (Nat.le_of_ble_eq_true rfl)⟩ hl.1 (Nat.le_of_ble_eq_true rfl) rfl rfl dX9_days_4 (hP.sub (ws' := ([] : va_W)) [] rfl) (fun r_1 hw_2 => ?_)
  try simp only [t_1, t_100] at hw_2
  rcases hw_2 with ⟨hr_1, hw_2⟩ | ⟨hr_1, hw_2⟩
  ·
    try simp only [t_1, t_100] at hw_2
    refine W_top (y := .int 1) (by rw [hr_1]) ?_
    refine lv_if_eq (tgt := 22) hx hb dX9_days_7 (by decide) (fun c_4 => absurd c_4 (by decide)) (fun c_4 => ?_)
    refine lv_aload_n hx hb dX9_days_10 rfl (lv_at hl 0 rfl) ?_
    refine va_get (D := D) (ci := 9) (v := .int mtoday) (C := RX9) (T := TX9) (N := 68) hx hb htb iX9 hown hK.1 hP 0 rfl rfl 1 (by decide) (htb _ k_959) (fun _ h9 => h9) rfl dX9_days_11 ?_
    refine lv_iload_n hx hb dX9_days_14 rfl (lv_at hl 1 rfl) ?_
    refine lv_iadd hx hb dX9_days_15 ?_
    refine lv_topi (fun z_5 ez_5 => ?_)
    have jz_5 : z_5.toInt = mtoday.toInt + p0.toInt := by rw [ez_5]; exact g_add rfl rfl (by omega) (by omega)
    refine lv_sipush (v := 399) hx hb dX9_days_16 (by decide) ?_
    refine lv_icmp_le (tgt := 24) hx hb dX9_days_19 (by decide) (fun c_6 => ?_) (fun c_6 => ?_)
    ·
      have ic_6 : z_5.toInt ≤ 399 := by first | exact (g_le rfl t_399).mp c_6 | (have h := mt (g_lt t_399 rfl).mpr c_6; omega)
      clear c_6
      refine lv_iconst (v := 0) hx hb dX9_days_24 (by decide) ?_
      refine lv_istore_n (lv' := [(2, .int 0), (0, .ref mh), (1, .int p0)]) hx hb dX9_days_25 rfl hl (by decide) rfl (fun ls hl => ?_)
      have loop_7 : ∀ (N_9 : Nat) (L2_26 : Int32) (mtoday_26 : Int32) (mf10_26 : Nat → Int32) (H : Heap) (locs : List Loc) (ls : Array Slot), p0.toInt - L2_26.toInt < (N_9 : Int) → (0 ≤ mtoday_26.toInt ∧ mtoday_26.toInt ≤ 399) → (0 ≤ L2_26.toInt) → (mtoday_26.toInt = mtoday.toInt + L2_26.toInt) → (L2_26.toInt ≤ p0.toInt) → (HD2 mf10 mf10_26 mtoday.toInt mtoday_26.toInt 0) → va_P D vwCl [(mh, .inr (9, G9 ma mcode mtoday_26 moffs mmany msumW msumA msumR msumWW msumWA msumAA msumWR msumAR mupper mlower mrates mtaped mlaid mat mtk mtkAt mtkNumber mwaits mlisted mdealtMany)), ((ma 10), .inl (E 0, 6400, .inl mf10_26))] H → va_D A [(mh, .inr (9, G9 ma mcode mtoday_26 moffs mmany msumW msumA msumR msumWW msumWA msumAA msumWR msumAR mupper mlower mrates mtaped mlaid mat mtk mtkAt mtkNumber mwaits mlisted mdealtMany)), ((ma 10), .inl (E 0, 6400, .inl mf10_26))] → va_S A s.heap H locs → lv_has ls 4 [(2, .int L2_26), (0, .ref mh), (1, .int p0)] → W p l e (headSpec (wl yX9_days cX9_days 4 (some .int)) (RM 1 0 0)).room s m [Value.ref mh, .int p0].toArray below meth c H locs 0 0 (MQ below (va_Qi (fun (r : Int32) (u : (Nat → Int32) × (Int32)) => (0 ≤ u.2.toInt ∧ u.2.toInt ≤ 399) ∧ (((1 ≤ p0.toInt ∧ p0.toInt ≤ 100 ∧ mtoday.toInt + p0.toInt ≤ 399) ∧ r.toInt = mtoday.toInt + p0.toInt ∧ u.2.toInt = r.toInt ∧ HD2 mf10 u.1 mtoday.toInt u.2.toInt 0) ∨ (¬ (1 ≤ p0.toInt ∧ p0.toInt ≤ 100 ∧ mtoday.toInt + p0.toInt ≤ 399) ∧ r.toInt = -1 ∧ u.2.toInt = mtoday.toInt ∧ u.1 = mf10))) (mu_B D A (fun (u : (Nat → Int32) × (Int32)) => [(mh, .inr (9, G9 ma mcode u.2 moffs mmany msumW msumA msumR msumWW msumWA msumAA msumWR msumAR mupper mlower mrates mtaped mlaid mat mtk mtkAt mtkNumber mwaits mlisted mdealtMany)), ((ma 10), .inl (E 0, 6400, .inl u.1))])) A) [Value.ref mh, .int p0].toArray s 0 0 A) (F0 m 26 ls []) := by
        intro N_9
        induction N_9 with
        | zero => intro L2_26 mtoday_26 mf10_26 H locs ls hm v_mtoday_26 v0_26 v1_26 v2_26 v3_26 _ _ _ _; exfalso; omega
        | succ N_9 ih_8 =>
          intro L2_26 mtoday_26 mf10_26 H locs ls hm v_mtoday_26 v0_26 v1_26 v2_26 v3_26 hP hD hS hl
          have lo_L2_26 := i_lo L2_26; have hi_L2_26 := i_hi L2_26
          have lo_mtoday_26 := i_lo mtoday_26; have hi_mtoday_26 := i_hi mtoday_26
          refine lv_iload_n hx hb dX9_days_26 rfl (lv_at hl 0 rfl) ?_
          refine lv_iload_n hx hb dX9_days_27 rfl (lv_at hl 2 rfl) ?_
          refine lv_icmp_ge (tgt := 93) hx hb dX9_days_28 (by decide) (fun c_10 => ?_) (fun c_10 => ?_)
          ·
            have ic_10 : p0.toInt ≤ L2_26.toInt := by first | exact (g_le rfl rfl).mp c_10 | (have h := mt (g_lt rfl rfl).mpr c_10; omega)
            clear c_10
            refine lv_aload_n hx hb dX9_days_93 rfl (lv_at hl 1 rfl) ?_
            refine va_get (D := D) (ci := 9) (v := .int mtoday_26) (C := RX9) (T := TX9) (N := 68) hx hb htb iX9 hown hK.1 hP 0 rfl rfl 1 (by decide) (htb _ k_959) (fun _ h9 => h9) rfl dX9_days_94 ?_
            have hP9 := hP.sub (ws' := [(mh, .inr (9, G9 ma mcode mtoday_26 moffs mmany msumW msumA msumR msumWW msumWA msumAA msumWR msumAR mupper mlower mrates mtaped mlaid mat mtk mtkAt mtkNumber mwaits mlisted mdealtMany)), ((ma 10), .inl (E 0, 6400, .inl mf10_26))]) [0, 1] rfl
            have hD9 := hD.sub (ws' := [(mh, .inr (9, G9 ma mcode mtoday_26 moffs mmany msumW msumA msumR msumWW msumWA msumAA msumWR msumAR mupper mlower mrates mtaped mlaid mat mtk mtkAt mtkNumber mwaits mlisted mdealtMany)), ((ma 10), .inl (E 0, 6400, .inl mf10_26))]) [0, 1] (by decide) rfl
            exact W.iret (v := mtoday_26) hx hb hr (fun t ht hW => ⟨⟨mtoday_26, (mf10_26, mtoday_26), rfl, ⟨(by (try dsimp only); omega), (by (try dsimp only); first | exact Or.inl ⟨by omega, by omega, by omega, by assumption⟩ | exact Or.inr ⟨by omega, by omega, by omega, rfl⟩)⟩, by rw [ht]; exact hP9, hD9⟩, hS.F ht⟩) hS.2.2 dX9_days_97
          ·
            have ic_10 : L2_26.toInt < p0.toInt := by first | exact (g_lt rfl rfl).mp c_10 | (have h := mt (g_le rfl rfl).mpr c_10; omega)
            clear c_10
            refine lv_iconst (v := 0) hx hb dX9_days_31 (by decide) ?_
            refine lv_istore_n (lv' := [(3, .int 0), (2, .int L2_26), (0, .ref mh), (1, .int p0)]) hx hb dX9_days_32 rfl hl (by decide) rfl (fun ls hl => ?_)
            have loop_11 : ∀ (N_13 : Nat) (L3_33 : Int32) (mf10_33 : Nat → Int32) (H : Heap) (locs : List Loc) (ls : Array Slot), 16 - L3_33.toInt < (N_13 : Int) → (0 ≤ L3_33.toInt ∧ L3_33.toInt ≤ 16) → (HD2 mf10 mf10_33 mtoday.toInt mtoday_26.toInt L3_33.toInt) → va_P D vwCl [(mh, .inr (9, G9 ma mcode mtoday_26 moffs mmany msumW msumA msumR msumWW msumWA msumAA msumWR msumAR mupper mlower mrates mtaped mlaid mat mtk mtkAt mtkNumber mwaits mlisted mdealtMany)), ((ma 10), .inl (E 0, 6400, .inl mf10_33))] H → va_D A [(mh, .inr (9, G9 ma mcode mtoday_26 moffs mmany msumW msumA msumR msumWW msumWA msumAA msumWR msumAR mupper mlower mrates mtaped mlaid mat mtk mtkAt mtkNumber mwaits mlisted mdealtMany)), ((ma 10), .inl (E 0, 6400, .inl mf10_33))] → va_S A s.heap H locs → lv_has ls 4 [(3, .int L3_33), (2, .int L2_26), (0, .ref mh), (1, .int p0)] → W p l e (headSpec (wl yX9_days cX9_days 4 (some .int)) (RM 1 0 0)).room s m [Value.ref mh, .int p0].toArray below meth c H locs 0 0 (MQ below (va_Qi (fun (r : Int32) (u : (Nat → Int32) × (Int32)) => (0 ≤ u.2.toInt ∧ u.2.toInt ≤ 399) ∧ (((1 ≤ p0.toInt ∧ p0.toInt ≤ 100 ∧ mtoday.toInt + p0.toInt ≤ 399) ∧ r.toInt = mtoday.toInt + p0.toInt ∧ u.2.toInt = r.toInt ∧ HD2 mf10 u.1 mtoday.toInt u.2.toInt 0) ∨ (¬ (1 ≤ p0.toInt ∧ p0.toInt ≤ 100 ∧ mtoday.toInt + p0.toInt ≤ 399) ∧ r.toInt = -1 ∧ u.2.toInt = mtoday.toInt ∧ u.1 = mf10))) (mu_B D A (fun (u : (Nat → Int32) × (Int32)) => [(mh, .inr (9, G9 ma mcode u.2 moffs mmany msumW msumA msumR msumWW msumWA msumAA msumWR msumAR mupper mlower mrates mtaped mlaid mat mtk mtkAt mtkNumber mwaits mlisted mdealtMany)), ((ma 10), .inl (E 0, 6400, .inl u.1))])) A) [Value.ref mh, .int p0].toArray s 0 0 A) (F0 m 33 ls []) := by
              intro N_13
              induction N_13 with
              | zero => intro L3_33 mf10_33 H locs ls hm v0_33 v1_33 _ _ _ _; exfalso; omega
              | succ N_13 ih_12 =>
                intro L3_33 mf10_33 H locs ls hm v0_33 v1_33 hP hD hS hl
                have lo_L3_33 := i_lo L3_33; have hi_L3_33 := i_hi L3_33
                refine lv_iload_n hx hb dX9_days_33 rfl (lv_at hl 0 rfl) ?_
                refine lv_bipush (v := 16) hx hb dX9_days_34 (by decide) ?_
                refine lv_icmp_ge (tgt := 77) hx hb dX9_days_36 (by decide) (fun c_14 => ?_) (fun c_14 => ?_)
                ·
                  have ic_14 : 16 ≤ L3_33.toInt := by first | exact (g_le t_16 rfl).mp c_14 | (have h := mt (g_lt rfl t_16).mpr c_14; omega)
                  clear c_14
                  refine lv_aload_n hx hb dX9_days_77 rfl (lv_at hl 2 rfl) ?_
                  refine lv_dup hx hb dX9_days_78 rfl ?_
                  refine va_get (D := D) (ci := 9) (v := .int mtoday_26) (C := RX9) (T := TX9) (N := 68) hx hb htb iX9 hown hK.1 hP 0 rfl rfl 1 (by decide) (htb _ k_959) (fun _ h9 => h9) rfl dX9_days_79 ?_
                  refine lv_iconst (v := 1) hx hb dX9_days_82 (by decide) ?_
                  refine lv_iadd hx hb dX9_days_83 ?_
                  refine lv_topi (fun z_15 ez_15 => ?_)
                  have jz_15 : z_15.toInt = mtoday_26.toInt + 1 := by rw [ez_15]; exact g_add rfl t_1 (by omega) (by omega)
                  refine va_put (D := D) (ci := 9) (v := .int z_15) (ty := .int) (C := RX9) (T := TX9) (N := 68) hx hb htb iX9 tyX9 tyX9_ok nmX9 hown hK.1 hP hD hS 0 rfl rfl 1 (by decide) (htb _ k_959) (fun _ h9 => h9) rfl (by decide +kernel) rfl rfl (Nat.le_of_ble_eq_true rfl) dX9_days_84 (fun H locs hP hD hS => ?_)
                  have hP : va_P D vwCl [(mh, .inr (9, G9 ma mcode z_15 moffs mmany msumW msumA msumR msumWW msumWA msumAA msumWR msumAR mupper mlower mrates mtaped mlaid mat mtk mtkAt mtkNumber mwaits mlisted mdealtMany)), ((ma 10), .inl (E 0, 6400, .inl mf10_33))] H := hP
                  have hD := toW hP hD rfl
                  obtain ⟨z_16, ez_16⟩ : ∃ y : Int32, y = L2_26 + 1 := ⟨_, rfl⟩
                  have jz_16 : z_16.toInt = L2_26.toInt + 1 := by rw [ez_16]; exact g_add rfl t_1 (by omega) (by omega)
                  refine lv_iinc (v := z_16) (lv' := [(2, .int z_16), (3, .int L3_33), (0, .ref mh), (1, .int p0)]) hx hb dX9_days_87 hl (k := 1) rfl (by rw [ez_16]; rfl) (by decide) rfl (fun ls hl => ?_)
                  refine lv_goto (tgt := 26) hx hb dX9_days_90 (by decide) ?_
                  exact ih_8 z_16 z_15 mf10_33 _ _ _ (by (try dsimp only); omega) (by (try dsimp only); omega) (by (try dsimp only); omega) (by (try dsimp only); omega) (by (try dsimp only); omega) (HD2_e v1_33 (by omega) (by omega)) hP hD hS (lv_sub hl [0, 2, 3] rfl)
                ·
                  have ic_14 : L3_33.toInt < 16 := by first | exact (g_lt rfl t_16).mp c_14 | (have h := mt (g_le t_16 rfl).mpr c_14; omega)
                  clear c_14
                  refine lv_aload_n hx hb dX9_days_39 rfl (lv_at hl 2 rfl) ?_
                  refine va_get (D := D) (ci := 9) (v := .ref (ma 10)) (C := RX9) (T := TX9) (N := 68) hx hb htb iX9 hown hK.1 hP 0 rfl rfl 10 (by decide) (htb _ k_968) (fun _ h9 => h9) rfl dX9_days_40 ?_
                  refine lv_sipush (v := 400) hx hb dX9_days_43 (by decide) ?_
                  refine lv_iload_n hx hb dX9_days_46 rfl (lv_at hl 0 rfl) ?_
                  refine lv_imul hx hb dX9_days_47 ?_
                  refine lv_topi (fun z_17 ez_17 => ?_)
                  have jz_17 : z_17.toInt = 400 * L3_33.toInt := by rw [ez_17]; exact g_mul t_400 rfl (by omega) (by omega)
                  refine lv_aload_n hx hb dX9_days_48 rfl (lv_at hl 2 rfl) ?_
                  refine va_get (D := D) (ci := 9) (v := .int mtoday_26) (C := RX9) (T := TX9) (N := 68) hx hb htb iX9 hown hK.1 hP 0 rfl rfl 1 (by decide) (htb _ k_959) (fun _ h9 => h9) rfl dX9_days_49 ?_
                  refine lv_iadd hx hb dX9_days_52 ?_
                  refine lv_topi (fun z_18 ez_18 => ?_)
                  have jz_18 : z_18.toInt = z_17.toInt + mtoday_26.toInt := by rw [ez_18]; exact g_add rfl rfl (by omega) (by omega)
                  refine lv_iconst (v := 1) hx hb dX9_days_53 (by decide) ?_
                  refine lv_iadd hx hb dX9_days_54 ?_
                  refine lv_topi (fun z_19 ez_19 => ?_)
                  have jz_19 : z_19.toInt = z_18.toInt + 1 := by rw [ez_19]; exact g_add rfl t_1 (by omega) (by omega)
                  refine lv_aload_n hx hb dX9_days_55 rfl (lv_at hl 2 rfl) ?_
                  refine va_get (D := D) (ci := 9) (v := .ref (ma 10)) (C := RX9) (T := TX9) (N := 68) hx hb htb iX9 hown hK.1 hP 0 rfl rfl 10 (by decide) (htb _ k_968) (fun _ h9 => h9) rfl dX9_days_56 ?_
                  refine lv_sipush (v := 400) hx hb dX9_days_59 (by decide) ?_
                  refine lv_iload_n hx hb dX9_days_62 rfl (lv_at hl 0 rfl) ?_
                  refine lv_imul hx hb dX9_days_63 ?_
                  refine lv_topi (fun z_20 ez_20 => ?_)
                  have jz_20 : z_20.toInt = 400 * L3_33.toInt := by rw [ez_20]; exact g_mul t_400 rfl (by omega) (by omega)
                  refine lv_aload_n hx hb dX9_days_64 rfl (lv_at hl 2 rfl) ?_
                  refine va_get (D := D) (ci := 9) (v := .int mtoday_26) (C := RX9) (T := TX9) (N := 68) hx hb htb iX9 hown hK.1 hP 0 rfl rfl 1 (by decide) (htb _ k_959) (fun _ h9 => h9) rfl dX9_days_65 ?_
                  refine lv_iadd hx hb dX9_days_68 ?_
                  refine lv_topi (fun z_21 ez_21 => ?_)
                  have jz_21 : z_21.toInt = z_20.toInt + mtoday_26.toInt := by rw [ez_21]; exact g_add rfl rfl (by omega) (by omega)
                  refine va_iald hx hb hK.1 hP 1 0 rfl rfl (g_in rfl (by omega) (by omega)) dX9_days_69 ?_
                  refine lv_topi (fun z_22 ez_22 => ?_)
                  have kz_22 := congrArg Int32.toInt ez_22
                  refine va_iast hx hb hK.1 hP hD hS 1 0 rfl rfl (g_in rfl (by omega) (by omega)) dX9_days_70 (fun H locs hP hD hS => ?_)
                  have hP : va_P D vwCl [(mh, .inr (9, G9 ma mcode mtoday_26 moffs mmany msumW msumA msumR msumWW msumWA msumAA msumWR msumAR mupper mlower mrates mtaped mlaid mat mtk mtkAt mtkNumber mwaits mlisted mdealtMany)), ((ma 10), .inl (E 0, 6400, .inl (upd mf10_33 (z_19 : Int32).toNatClampNeg z_22)))] H := hP
                  have hD := toW hP hD rfl
                  obtain ⟨z_23, ez_23⟩ : ∃ y : Int32, y = L3_33 + 1 := ⟨_, rfl⟩
                  have jz_23 : z_23.toInt = L3_33.toInt + 1 := by rw [ez_23]; exact g_add rfl t_1 (by omega) (by omega)
                  refine lv_iinc (v := z_23) (lv' := [(3, .int z_23), (2, .int L2_26), (0, .ref mh), (1, .int p0)]) hx hb dX9_days_71 hl (k := 0) rfl (by rw [ez_23]; rfl) (by decide) rfl (fun ls hl => ?_)
                  refine lv_goto (tgt := 33) hx hb dX9_days_74 (by decide) ?_
                  exact ih_12 z_23 (upd mf10_33 (z_19 : Int32).toNatClampNeg z_22) _ _ _ (by (try dsimp only); omega) (by (try dsimp only); omega) (HD2_s (t1 := mtoday_26) v1_33 (by omega) (by omega) (by omega) (by omega) (by have c1 := i_clamp0 (x := z_19) (by omega); omega) (by rw [ez_22]; congr 1; have c2 := i_clamp0 (x := z_21) (by omega); omega) (by omega)) hP hD hS (lv_sub hl [0, 1, 2, 3] rfl)
            exact loop_11 17 0 mf10_26 _ _ _ (by have h0 := t_0; (try dsimp only); omega) (by have h0 := t_0; (try dsimp only); omega) v3_26 hP hD hS (lv_sub hl [0, 1, 2, 3] rfl)
      exact loop_7 101 0 mtoday mf10 _ _ _ (by have h0 := t_0; (try dsimp only); omega) (by (try dsimp only); omega) (by have h0 := t_0; (try dsimp only); omega) (by have h0 := t_0; (try dsimp only); omega) (by have h0 := t_0; (try dsimp only); omega) (HD2_0 rfl) hP hD hS (lv_sub hl [0, 1, 2] rfl)
    ·
      have ic_6 : 399 < z_5.toInt := by first | exact (g_lt t_399 rfl).mp c_6 | (have h := mt (g_le rfl t_399).mpr c_6; omega)
      clear c_6
      refine lv_iconst (v := (-1)) hx hb dX9_days_22 (by decide) ?_
      have hP9 := hP.sub (ws' := [(mh, .inr (9, G9 ma mcode mtoday moffs mmany msumW msumA msumR msumWW msumWA msumAA msumWR msumAR mupper mlower mrates mtaped mlaid mat mtk mtkAt mtkNumber mwaits mlisted mdealtMany)), ((ma 10), .inl (E 0, 6400, .inl mf10))]) [0, 1] rfl
      have hD9 := hD.sub (ws' := [(mh, .inr (9, G9 ma mcode mtoday moffs mmany msumW msumA msumR msumWW msumWA msumAA msumWR msumAR mupper mlower mrates mtaped mlaid mat mtk mtkAt mtkNumber mwaits mlisted mdealtMany)), ((ma 10), .inl (E 0, 6400, .inl mf10))]) [0, 1] (by decide) rfl
      exact W.iret (v := (-1)) hx hb hr (fun t ht hW => ⟨⟨(-1), (mf10, mtoday), rfl, ⟨(by (try dsimp only); omega), (by have hl0 := t_m1; (try dsimp only); first | exact Or.inl ⟨by omega, by omega, by omega, by assumption⟩ | exact Or.inr ⟨by omega, by omega, by omega, rfl⟩)⟩, by rw [ht]; exact hP9, hD9⟩, hS.F ht⟩) hS.2.2 dX9_days_23
  ·
    try simp only [t_1, t_100] at hw_2
    refine W_top (y := .int 0) (by rw [hr_1]) ?_
    refine lv_if_eq (tgt := 22) hx hb dX9_days_7 (by decide) (fun c_24 => ?_) (fun c_24 => absurd (by decide) c_24)
    refine lv_iconst (v := (-1)) hx hb dX9_days_22 (by decide) ?_
    have hP9 := hP.sub (ws' := [(mh, .inr (9, G9 ma mcode mtoday moffs mmany msumW msumA msumR msumWW msumWA msumAA msumWR msumAR mupper mlower mrates mtaped mlaid mat mtk mtkAt mtkNumber mwaits mlisted mdealtMany)), ((ma 10), .inl (E 0, 6400, .inl mf10))]) [0, 1] rfl
    have hD9 := hD.sub (ws' := [(mh, .inr (9, G9 ma mcode mtoday moffs mmany msumW msumA msumR msumWW msumWA msumAA msumWR msumAR mupper mlower mrates mtaped mlaid mat mtk mtkAt mtkNumber mwaits mlisted mdealtMany)), ((ma 10), .inl (E 0, 6400, .inl mf10))]) [0, 1] (by decide) rfl
    exact W.iret (v := (-1)) hx hb hr (fun t ht hW => ⟨⟨(-1), (mf10, mtoday), rfl, ⟨(by (try dsimp only); omega), (by have hl0 := t_m1; (try dsimp only); first | exact Or.inl ⟨by omega, by omega, by omega, by assumption⟩ | exact Or.inr ⟨by omega, by omega, by omega, rfl⟩)⟩, by rw [ht]; exact hP9, hD9⟩, hS.F ht⟩) hS.2.2 dX9_days_23
set_option maxHeartbeats 4000000 in
set_option maxRecDepth 100000 in
theorem g_X9_warmth (l : Launch) (D : va_G) (E : Nat → Nat) (mh : Nat) (ma : Nat → Nat) (mcode : Int32) (mtoday : Int32) (moffs : Int32) (mmany : Int64) (msumW : Int64) (msumA : Int64) (msumR : Int64) (msumWW : Int64) (msumWA : Int64) (msumAA : Int64) (msumWR : Int64) (msumAR : Int64) (mupper : Int64) (mlower : Int64) (mrates : Int32) (mtaped : Int32) (mlaid : Int32) (mat : Int32) (mtk : Int32) (mtkAt : Int32) (mtkNumber : Int32) (mwaits : Int32) (mlisted : Int32) (mdealtMany : Int32) (mf2 : Nat → Int32) (p0 : Int32) (p1 : Int32) (sz : Nat) (hi_m : (0 ≤ mtoday.toInt ∧ mtoday.toInt ≤ 399) ∧ (0 ≤ moffs.toInt ∧ moffs.toInt ≤ 60) ∧ (0 ≤ mrates.toInt ∧ mrates.toInt ≤ 60) ∧ (0 ≤ mtaped.toInt ∧ mtaped.toInt ≤ 120) ∧ (0 ≤ mlisted.toInt ∧ mlisted.toInt ≤ 9) ∧ (0 ≤ mdealtMany.toInt ∧ mdealtMany.toInt ≤ 9)) : Met l yX9_warmth (wl yX9_warmth cX9_warmth 3 (some .int)) (RM 2 0 0) (mu_P D E [.ref mh, .int p0, .int p1] [(mh, .inr (9, G9 ma mcode mtoday moffs mmany msumW msumA msumR msumWW msumWA msumAA msumWR msumAR mupper mlower mrates mtaped mlaid mat mtk mtkAt mtkNumber mwaits mlisted mdealtMany)), ((ma 2), .inl (E 0, 400, .inl mf2))] sz) (va_Qi (fun (r : Int32) (u : (Nat → Int32)) => ((r.toInt = 1 ∧ ((0 ≤ p0.toInt ∧ p0.toInt ≤ 399) ∧ (p1.toInt = -100 ∨ (-50 ≤ p1.toInt ∧ p1.toInt ≤ 50))) ∧ ((p1.toInt = -100 ∧ u = upd mf2 (p0).toNatClampNeg (-1000)) ∨ (p1.toInt ≠ -100 ∧ u = upd mf2 (p0).toNatClampNeg p1))) ∨ (r.toInt = -1 ∧ ¬ ((0 ≤ p0.toInt ∧ p0.toInt ≤ 399) ∧ (p1.toInt = -100 ∨ (-50 ≤ p1.toInt ∧ p1.toInt ≤ 50))) ∧ u = mf2))) (mu_B D (va_A [(mh, .inr (9, G9 ma mcode mtoday moffs mmany msumW msumA msumR msumWW msumWA msumAA msumWR msumAR mupper mlower mrates mtaped mlaid mat mtk mtkAt mtkNumber mwaits mlisted mdealtMany)), ((ma 2), .inl (E 0, 400, .inl mf2))] sz) (fun (u : (Nat → Int32)) => [(mh, .inr (9, G9 ma mcode mtoday moffs mmany msumW msumA msumR msumWW msumWA msumAA msumWR msumAR mupper mlower mrates mtaped mlaid mat mtk mtkAt mtkNumber mwaits mlisted mdealtMany)), ((ma 2), .inl (E 0, 400, .inl u))])) (va_A [(mh, .inr (9, G9 ma mcode mtoday moffs mmany msumW msumA msumR msumWW msumWA msumAA msumWR msumAR mupper mlower mrates mtaped mlaid mat mtk mtkAt mtkNumber mwaits mlisted mdealtMany)), ((ma 2), .inl (E 0, 400, .inl mf2))] sz)) 0 0 (va_A [(mh, .inr (9, G9 ma mcode mtoday moffs mmany msumW msumA msumR msumWW msumWA msumAA msumWR msumAR mupper mlower mrates mtaped mlaid mat mtk mtkAt mtkNumber mwaits mlisted mdealtMany)), ((ma 2), .inl (E 0, 400, .inl mf2))] sz) := by
  refine Met.ofW (cc := cX9_warmth) (maxL := 3) (ret := (some .int)) (by decide) rfl ?_
  intro p e s m args below meth c s₁ B hml hv
  obtain ⟨rfl, hsz, hP, hK, hD0⟩ := hv
  have hx := B.exec; have hb := B.bytes; have hr := B.returns
  have hts := atoms_spec (ws := wl yX9_warmth cX9_warmth 3 (some .int)) B.pre
  have htb : ∀ w ∈ tb, w.before _ s = true := fun w h => hts w (List.mem_cons_of_mem _ h)
  have hown : s.vm.findClass RX9 = some m.cls := findClass_of_methodNamed B.named
  have hlocks := B.notSynchronized
  subst hsz
  have hD := hD0.self (sz := s.heap.size)
  generalize hAe : va_A [(mh, .inr (9, G9 ma mcode mtoday moffs mmany msumW msumA msumR msumWW msumWA msumAA msumWR msumAR mupper mlower mrates mtaped mlaid mat mtk mtkAt mtkNumber mwaits mlisted mdealtMany)), ((ma 2), .inl (E 0, 400, .inl mf2))] s.heap.size = A at hD ⊢
  have hA : ∀ q : Nat, s.heap.size ≤ q → A q := fun q h => by rw [← hAe]; exact Or.inr h
  have hS : va_S A s.heap s.heap [] := va_S.rf
  have hP : va_P D vwCl [(mh, .inr (9, G9 ma mcode mtoday moffs mmany msumW msumA msumR msumWW msumWA msumAA msumWR msumAR mupper mlower mrates mtaped mlaid mat mtk mtkAt mtkNumber mwaits mlisted mdealtMany)), ((ma 2), .inl (E 0, 400, .inl mf2))] s.heap := hP
  have hl := lv_entry ([.ref mh, .int p0, .int p1]) (n := 3) (Nat.le_of_ble_eq_true rfl)
  rw [lg_entry_eq]
  generalize (lg_sl ([.ref mh, .int p0, .int p1]) ++ List.replicate (3 - (lg_sl ([.ref mh, .int p0, .int p1])).length) Slot.unset).toArray = ls at hl ⊢
  have hl : lv_has ls 3 [(0, .ref mh), (1, .int p0), (2, .int p1)] := hl
  have lo_p0 := i_lo p0; have hi_p0 := i_hi p0
  have lo_p1 := i_lo p1; have hi_p1 := i_hi p1
  refine lv_iload_n hx hb dX9_warmth_0 rfl (lv_at hl 1 rfl) ?_
  refine callRS (rest := []) (As := [.int p0]) hx hb hml hown htb hK (g_X9_isDay l D E p0 ) ok_X9_isDay k_1175 k_1176 k_9 k_1177 ⟨(Nat.le_of_ble_eq_true rfl), (Nat.le_of_ble_eq_true rfl)⟩ ⟨(Nat.le_of_ble_eq_true rfl), (Nat.le_of_ble_eq_true rfl)⟩ hl.1 (Nat.le_of_ble_eq_true rfl) rfl rfl dX9_warmth_1 (hP.sub (ws' := ([] : va_W)) [] rfl) (fun r_1 hw_2 => ?_)
  rcases hw_2 with ⟨hr_1, hw_2⟩ | ⟨hr_1, hw_2⟩
  ·
    refine W_top (y := .int 1) (by rw [hr_1]) ?_
    refine lv_if_eq (tgt := 24) hx hb dX9_warmth_4 (by decide) (fun c_4 => absurd c_4 (by decide)) (fun c_4 => ?_)
    refine lv_iload_n hx hb dX9_warmth_7 rfl (lv_at hl 2 rfl) ?_
    refine lv_bipush (v := (-100)) hx hb dX9_warmth_8 (by decide) ?_
    refine lv_icmp_eq (tgt := 26) hx hb dX9_warmth_10 (by decide) (fun c_5 => ?_) (fun c_5 => ?_)
    ·
      have ic_5 : p1.toInt = -100 := (g_eq rfl t_m100).mp c_5
      clear c_5
      refine lv_aload_n hx hb dX9_warmth_26 rfl (lv_at hl 0 rfl) ?_
      refine va_get (D := D) (ci := 9) (v := .ref (ma 2)) (C := RX9) (T := TX9) (N := 68) hx hb htb iX9 hown hK.1 hP 0 rfl rfl 2 (by decide) (htb _ k_960) (fun _ h9 => h9) rfl dX9_warmth_27 ?_
      refine lv_iload_n hx hb dX9_warmth_30 rfl (lv_at hl 1 rfl) ?_
      refine lv_iload_n hx hb dX9_warmth_31 rfl (lv_at hl 2 rfl) ?_
      refine lv_bipush (v := (-100)) hx hb dX9_warmth_32 (by decide) ?_
      refine lv_icmp_ne (tgt := 43) hx hb dX9_warmth_34 (by decide) (fun c_6 => absurd (by rw [g_eq rfl t_m100]; omega) c_6) (fun c_6 => ?_)
      refine lv_sipush (v := (-1000)) hx hb dX9_warmth_37 (by decide) ?_
      refine lv_goto (tgt := 44) hx hb dX9_warmth_40 (by decide) ?_
      refine va_iast hx hb hK.1 hP hD hS 1 0 rfl rfl (g_in rfl (by omega) (by omega)) dX9_warmth_44 (fun H locs hP hD hS => ?_)
      have hP : va_P D vwCl [(mh, .inr (9, G9 ma mcode mtoday moffs mmany msumW msumA msumR msumWW msumWA msumAA msumWR msumAR mupper mlower mrates mtaped mlaid mat mtk mtkAt mtkNumber mwaits mlisted mdealtMany)), ((ma 2), .inl (E 0, 400, .inl (upd mf2 (p0 : Int32).toNatClampNeg (-1000))))] H := hP
      have hD := toW hP hD rfl
      refine lv_iconst (v := 1) hx hb dX9_warmth_45 (by decide) ?_
      have hP9 := hP.sub (ws' := [(mh, .inr (9, G9 ma mcode mtoday moffs mmany msumW msumA msumR msumWW msumWA msumAA msumWR msumAR mupper mlower mrates mtaped mlaid mat mtk mtkAt mtkNumber mwaits mlisted mdealtMany)), ((ma 2), .inl (E 0, 400, .inl (upd mf2 (p0 : Int32).toNatClampNeg (-1000))))]) [0, 1] rfl
      have hD9 := hD.sub (ws' := [(mh, .inr (9, G9 ma mcode mtoday moffs mmany msumW msumA msumR msumWW msumWA msumAA msumWR msumAR mupper mlower mrates mtaped mlaid mat mtk mtkAt mtkNumber mwaits mlisted mdealtMany)), ((ma 2), .inl (E 0, 400, .inl (upd mf2 (p0 : Int32).toNatClampNeg (-1000))))]) [0, 1] (by decide) rfl
      exact W.iret (v := 1) hx hb hr (fun t ht hW => ⟨⟨1, (upd mf2 (p0 : Int32).toNatClampNeg (-1000)), rfl, (by have hl0 := t_1; (try dsimp only); first | exact Or.inl ⟨by omega, by omega, by first | exact Or.inl ⟨by omega, rfl⟩ | exact Or.inr ⟨by omega, rfl⟩⟩), by rw [ht]; exact hP9, hD9⟩, hS.F ht⟩) hS.2.2 dX9_warmth_46
    ·
      have ic_5 : p1.toInt ≠ -100 := mt (g_eq rfl t_m100).mpr c_5
      clear c_5
      refine lv_iload_n hx hb dX9_warmth_13 rfl (lv_at hl 2 rfl) ?_
      refine lv_bipush (v := (-50)) hx hb dX9_warmth_14 (by decide) ?_
      refine lv_bipush (v := 50) hx hb dX9_warmth_16 (by decide) ?_
      refine callRS (rest := []) (As := [.int p1, .int (-50), .int 50]) hx hb hml hown htb hK (g_X9_in l D E p1 (-50) 50 ) ok_X9_in k_1168 k_1169 k_9 k_1170 ⟨(Nat.le_of_ble_eq_true rfl), (Nat.le_of_ble_eq_true rfl)⟩ ⟨(Nat.le_of_ble_eq_true rfl), (Nat.le_of_ble_eq_true rfl)⟩ hl.1 (Nat.le_of_ble_eq_true rfl) rfl rfl dX9_warmth_18 (hP.sub (ws' := ([] : va_W)) [] rfl) (fun r_7 hw_8 => ?_)
      try simp only [t_m50, t_50] at hw_8
      rcases hw_8 with ⟨hr_7, hw_8⟩ | ⟨hr_7, hw_8⟩
      ·
        try simp only [t_m50, t_50] at hw_8
        refine W_top (y := .int 1) (by rw [hr_7]) ?_
        refine lv_if_ne (tgt := 26) hx hb dX9_warmth_21 (by decide) (fun c_10 => ?_) (fun c_10 => absurd c_10 (by decide))
        refine lv_aload_n hx hb dX9_warmth_26 rfl (lv_at hl 0 rfl) ?_
        refine va_get (D := D) (ci := 9) (v := .ref (ma 2)) (C := RX9) (T := TX9) (N := 68) hx hb htb iX9 hown hK.1 hP 0 rfl rfl 2 (by decide) (htb _ k_960) (fun _ h9 => h9) rfl dX9_warmth_27 ?_
        refine lv_iload_n hx hb dX9_warmth_30 rfl (lv_at hl 1 rfl) ?_
        refine lv_iload_n hx hb dX9_warmth_31 rfl (lv_at hl 2 rfl) ?_
        refine lv_bipush (v := (-100)) hx hb dX9_warmth_32 (by decide) ?_
        refine lv_icmp_ne (tgt := 43) hx hb dX9_warmth_34 (by decide) (fun c_11 => ?_) (fun c_11 => absurd c_11 (by rw [g_eq rfl t_m100]; omega))
        refine lv_iload_n hx hb dX9_warmth_43 rfl (lv_at hl 2 rfl) ?_
        refine va_iast hx hb hK.1 hP hD hS 1 0 rfl rfl (g_in rfl (by omega) (by omega)) dX9_warmth_44 (fun H locs hP hD hS => ?_)
        have hP : va_P D vwCl [(mh, .inr (9, G9 ma mcode mtoday moffs mmany msumW msumA msumR msumWW msumWA msumAA msumWR msumAR mupper mlower mrates mtaped mlaid mat mtk mtkAt mtkNumber mwaits mlisted mdealtMany)), ((ma 2), .inl (E 0, 400, .inl (upd mf2 (p0 : Int32).toNatClampNeg p1)))] H := hP
        have hD := toW hP hD rfl
        refine lv_iconst (v := 1) hx hb dX9_warmth_45 (by decide) ?_
        have hP9 := hP.sub (ws' := [(mh, .inr (9, G9 ma mcode mtoday moffs mmany msumW msumA msumR msumWW msumWA msumAA msumWR msumAR mupper mlower mrates mtaped mlaid mat mtk mtkAt mtkNumber mwaits mlisted mdealtMany)), ((ma 2), .inl (E 0, 400, .inl (upd mf2 (p0 : Int32).toNatClampNeg p1)))]) [0, 1] rfl
        have hD9 := hD.sub (ws' := [(mh, .inr (9, G9 ma mcode mtoday moffs mmany msumW msumA msumR msumWW msumWA msumAA msumWR msumAR mupper mlower mrates mtaped mlaid mat mtk mtkAt mtkNumber mwaits mlisted mdealtMany)), ((ma 2), .inl (E 0, 400, .inl (upd mf2 (p0 : Int32).toNatClampNeg p1)))]) [0, 1] (by decide) rfl
        exact W.iret (v := 1) hx hb hr (fun t ht hW => ⟨⟨1, (upd mf2 (p0 : Int32).toNatClampNeg p1), rfl, (by have hl0 := t_1; (try dsimp only); first | exact Or.inl ⟨by omega, by omega, by first | exact Or.inl ⟨by omega, rfl⟩ | exact Or.inr ⟨by omega, rfl⟩⟩), by rw [ht]; exact hP9, hD9⟩, hS.F ht⟩) hS.2.2 dX9_warmth_46
      ·
        try simp only [t_m50, t_50] at hw_8
        refine W_top (y := .int 0) (by rw [hr_7]) ?_
        refine lv_if_ne (tgt := 26) hx hb dX9_warmth_21 (by decide) (fun c_12 => absurd (by decide) c_12) (fun c_12 => ?_)
        refine lv_iconst (v := (-1)) hx hb dX9_warmth_24 (by decide) ?_
        have hP9 := hP.sub (ws' := [(mh, .inr (9, G9 ma mcode mtoday moffs mmany msumW msumA msumR msumWW msumWA msumAA msumWR msumAR mupper mlower mrates mtaped mlaid mat mtk mtkAt mtkNumber mwaits mlisted mdealtMany)), ((ma 2), .inl (E 0, 400, .inl mf2))]) [0, 1] rfl
        have hD9 := hD.sub (ws' := [(mh, .inr (9, G9 ma mcode mtoday moffs mmany msumW msumA msumR msumWW msumWA msumAA msumWR msumAR mupper mlower mrates mtaped mlaid mat mtk mtkAt mtkNumber mwaits mlisted mdealtMany)), ((ma 2), .inl (E 0, 400, .inl mf2))]) [0, 1] (by decide) rfl
        exact W.iret (v := (-1)) hx hb hr (fun t ht hW => ⟨⟨(-1), mf2, rfl, (by have hl0 := t_m1; (try dsimp only); first | exact Or.inr ⟨by omega, by omega, rfl⟩), by rw [ht]; exact hP9, hD9⟩, hS.F ht⟩) hS.2.2 dX9_warmth_25
  ·
    refine W_top (y := .int 0) (by rw [hr_1]) ?_
    refine lv_if_eq (tgt := 24) hx hb dX9_warmth_4 (by decide) (fun c_13 => ?_) (fun c_13 => absurd (by decide) c_13)
    refine lv_iconst (v := (-1)) hx hb dX9_warmth_24 (by decide) ?_
    have hP9 := hP.sub (ws' := [(mh, .inr (9, G9 ma mcode mtoday moffs mmany msumW msumA msumR msumWW msumWA msumAA msumWR msumAR mupper mlower mrates mtaped mlaid mat mtk mtkAt mtkNumber mwaits mlisted mdealtMany)), ((ma 2), .inl (E 0, 400, .inl mf2))]) [0, 1] rfl
    have hD9 := hD.sub (ws' := [(mh, .inr (9, G9 ma mcode mtoday moffs mmany msumW msumA msumR msumWW msumWA msumAA msumWR msumAR mupper mlower mrates mtaped mlaid mat mtk mtkAt mtkNumber mwaits mlisted mdealtMany)), ((ma 2), .inl (E 0, 400, .inl mf2))]) [0, 1] (by decide) rfl
    exact W.iret (v := (-1)) hx hb hr (fun t ht hW => ⟨⟨(-1), mf2, rfl, (by have hl0 := t_m1; (try dsimp only); first | exact Or.inr ⟨by omega, by omega, rfl⟩), by rw [ht]; exact hP9, hD9⟩, hS.F ht⟩) hS.2.2 dX9_warmth_25
set_option maxHeartbeats 4000000 in
set_option maxRecDepth 100000 in
theorem g_X9_put (l : Launch) (D : va_G) (E : Nat → Nat) (mh : Nat) (ma : Nat → Nat) (mcode : Int32) (mtoday : Int32) (moffs : Int32) (mmany : Int64) (msumW : Int64) (msumA : Int64) (msumR : Int64) (msumWW : Int64) (msumWA : Int64) (msumAA : Int64) (msumWR : Int64) (msumAR : Int64) (mupper : Int64) (mlower : Int64) (mrates : Int32) (mtaped : Int32) (mlaid : Int32) (mat : Int32) (mtk : Int32) (mtkAt : Int32) (mtkNumber : Int32) (mwaits : Int32) (mlisted : Int32) (mdealtMany : Int32) (mf3 : Nat → Int32) (mf4 : Nat → Int32) (mf5 : Nat → Int32) (mf8 : Nat → Int32) (mf9 : Nat → Int32) (mf10 : Nat → Int32) (p0 : Int32) (p1 : Int32) (p2 : Int32) (sz : Nat) (hi_m : (0 ≤ mtoday.toInt ∧ mtoday.toInt ≤ 399) ∧ (0 ≤ moffs.toInt ∧ moffs.toInt ≤ 60) ∧ (0 ≤ mrates.toInt ∧ mrates.toInt ≤ 60) ∧ (0 ≤ mtaped.toInt ∧ mtaped.toInt ≤ 120) ∧ (0 ≤ mlisted.toInt ∧ mlisted.toInt ≤ 9) ∧ (0 ≤ mdealtMany.toInt ∧ mdealtMany.toInt ≤ 9)) : Met l yX9_put (wl yX9_put cX9_put 5 (some .int)) (RM 2 0 0) (mu_P D E [.ref mh, .int p0, .int p1, .int p2] [(mh, .inr (9, G9 ma mcode mtoday moffs mmany msumW msumA msumR msumWW msumWA msumAA msumWR msumAR mupper mlower mrates mtaped mlaid mat mtk mtkAt mtkNumber mwaits mlisted mdealtMany)), ((ma 3), .inl (E 0, 16, .inl mf3)), ((ma 4), .inl (E 0, 16, .inl mf4)), ((ma 5), .inl (E 1, 6400, .inl mf5)), ((ma 8), .inl (E 1, 6400, .inl mf8)), ((ma 9), .inl (E 1, 6400, .inl mf9)), ((ma 10), .inl (E 0, 6400, .inl mf10))] sz) (va_Qi (fun (r : Int32) (u : (Nat → Int32) × (Nat → Int32) × (Nat → Int32) × (Nat → Int32) × (Nat → Int32) × (Nat → Int32)) => ((r.toInt = 1 ∧ (0 ≤ p0.toInt ∧ p0.toInt ≤ 15) ∧ ((p1.toInt = 0 ∧ p2.toInt = 0) ∨ (p1.toInt = 1 ∧ -50 ≤ p2.toInt ∧ p2.toInt ≤ 50) ∨ p1.toInt = 2) ∧ (mf3 (p0).toNatClampNeg).toInt = -5 ∧ u.2.1 = upd mf3 (p0).toNatClampNeg p1 ∧ u.2.2.1 = upd mf4 (p0).toNatClampNeg p2 ∧ FIL mf5 u.2.2.2.1 (400 * p0.toInt) (400 * p0.toInt + 400) 0 ∧ FIL mf8 u.2.2.2.2.1 (400 * p0.toInt) (400 * p0.toInt + 400) 0 ∧ FIL mf9 u.2.2.2.2.2 (400 * p0.toInt) (400 * p0.toInt + 400) 0 ∧ FIL mf10 u.1 (400 * p0.toInt) (400 * p0.toInt + 400) (-1)) ∨ (r.toInt = -1 ∧ ¬ ((0 ≤ p0.toInt ∧ p0.toInt ≤ 15) ∧ ((p1.toInt = 0 ∧ p2.toInt = 0) ∨ (p1.toInt = 1 ∧ -50 ≤ p2.toInt ∧ p2.toInt ≤ 50) ∨ p1.toInt = 2)) ∧ u.2.1 = mf3 ∧ u.2.2.1 = mf4 ∧ u.2.2.2.1 = mf5 ∧ u.2.2.2.2.1 = mf8 ∧ u.2.2.2.2.2 = mf9 ∧ u.1 = mf10) ∨ (r.toInt = -4 ∧ (0 ≤ p0.toInt ∧ p0.toInt ≤ 15) ∧ ((p1.toInt = 0 ∧ p2.toInt = 0) ∨ (p1.toInt = 1 ∧ -50 ≤ p2.toInt ∧ p2.toInt ≤ 50) ∨ p1.toInt = 2) ∧ (mf3 (p0).toNatClampNeg).toInt ≠ -5 ∧ u.2.1 = mf3 ∧ u.2.2.1 = mf4 ∧ u.2.2.2.1 = mf5 ∧ u.2.2.2.2.1 = mf8 ∧ u.2.2.2.2.2 = mf9 ∧ u.1 = mf10))) (mu_B D (va_A [(mh, .inr (9, G9 ma mcode mtoday moffs mmany msumW msumA msumR msumWW msumWA msumAA msumWR msumAR mupper mlower mrates mtaped mlaid mat mtk mtkAt mtkNumber mwaits mlisted mdealtMany)), ((ma 3), .inl (E 0, 16, .inl mf3)), ((ma 4), .inl (E 0, 16, .inl mf4)), ((ma 5), .inl (E 1, 6400, .inl mf5)), ((ma 8), .inl (E 1, 6400, .inl mf8)), ((ma 9), .inl (E 1, 6400, .inl mf9)), ((ma 10), .inl (E 0, 6400, .inl mf10))] sz) (fun (u : (Nat → Int32) × (Nat → Int32) × (Nat → Int32) × (Nat → Int32) × (Nat → Int32) × (Nat → Int32)) => [(mh, .inr (9, G9 ma mcode mtoday moffs mmany msumW msumA msumR msumWW msumWA msumAA msumWR msumAR mupper mlower mrates mtaped mlaid mat mtk mtkAt mtkNumber mwaits mlisted mdealtMany)), ((ma 3), .inl (E 0, 16, .inl u.2.1)), ((ma 4), .inl (E 0, 16, .inl u.2.2.1)), ((ma 5), .inl (E 1, 6400, .inl u.2.2.2.1)), ((ma 8), .inl (E 1, 6400, .inl u.2.2.2.2.1)), ((ma 9), .inl (E 1, 6400, .inl u.2.2.2.2.2)), ((ma 10), .inl (E 0, 6400, .inl u.1))])) (va_A [(mh, .inr (9, G9 ma mcode mtoday moffs mmany msumW msumA msumR msumWW msumWA msumAA msumWR msumAR mupper mlower mrates mtaped mlaid mat mtk mtkAt mtkNumber mwaits mlisted mdealtMany)), ((ma 3), .inl (E 0, 16, .inl mf3)), ((ma 4), .inl (E 0, 16, .inl mf4)), ((ma 5), .inl (E 1, 6400, .inl mf5)), ((ma 8), .inl (E 1, 6400, .inl mf8)), ((ma 9), .inl (E 1, 6400, .inl mf9)), ((ma 10), .inl (E 0, 6400, .inl mf10))] sz)) 0 0 (va_A [(mh, .inr (9, G9 ma mcode mtoday moffs mmany msumW msumA msumR msumWW msumWA msumAA msumWR msumAR mupper mlower mrates mtaped mlaid mat mtk mtkAt mtkNumber mwaits mlisted mdealtMany)), ((ma 3), .inl (E 0, 16, .inl mf3)), ((ma 4), .inl (E 0, 16, .inl mf4)), ((ma 5), .inl (E 1, 6400, .inl mf5)), ((ma 8), .inl (E 1, 6400, .inl mf8)), ((ma 9), .inl (E 1, 6400, .inl mf9)), ((ma 10), .inl (E 0, 6400, .inl mf10))] sz) := by
  refine Met.ofW (cc := cX9_put) (maxL := 5) (ret := (some .int)) (by decide) rfl ?_
  intro p e s m args below meth c s₁ B hml hv
  obtain ⟨rfl, hsz, hP, hK, hD0⟩ := hv
  have hx := B.exec; have hb := B.bytes; have hr := B.returns
  have hts := atoms_spec (ws := wl yX9_put cX9_put 5 (some .int)) B.pre
  have htb : ∀ w ∈ tb, w.before _ s = true := fun w h => hts w (List.mem_cons_of_mem _ h)
  have hown : s.vm.findClass RX9 = some m.cls := findClass_of_methodNamed B.named
  have hlocks := B.notSynchronized
  subst hsz
  have hD := hD0.self (sz := s.heap.size)
  generalize hAe : va_A [(mh, .inr (9, G9 ma mcode mtoday moffs mmany msumW msumA msumR msumWW msumWA msumAA msumWR msumAR mupper mlower mrates mtaped mlaid mat mtk mtkAt mtkNumber mwaits mlisted mdealtMany)), ((ma 3), .inl (E 0, 16, .inl mf3)), ((ma 4), .inl (E 0, 16, .inl mf4)), ((ma 5), .inl (E 1, 6400, .inl mf5)), ((ma 8), .inl (E 1, 6400, .inl mf8)), ((ma 9), .inl (E 1, 6400, .inl mf9)), ((ma 10), .inl (E 0, 6400, .inl mf10))] s.heap.size = A at hD ⊢
  have hA : ∀ q : Nat, s.heap.size ≤ q → A q := fun q h => by rw [← hAe]; exact Or.inr h
  have hS : va_S A s.heap s.heap [] := va_S.rf
  have hP : va_P D vwCl [(mh, .inr (9, G9 ma mcode mtoday moffs mmany msumW msumA msumR msumWW msumWA msumAA msumWR msumAR mupper mlower mrates mtaped mlaid mat mtk mtkAt mtkNumber mwaits mlisted mdealtMany)), ((ma 3), .inl (E 0, 16, .inl mf3)), ((ma 4), .inl (E 0, 16, .inl mf4)), ((ma 5), .inl (E 1, 6400, .inl mf5)), ((ma 8), .inl (E 1, 6400, .inl mf8)), ((ma 9), .inl (E 1, 6400, .inl mf9)), ((ma 10), .inl (E 0, 6400, .inl mf10))] s.heap := hP
  have hl := lv_entry ([.ref mh, .int p0, .int p1, .int p2]) (n := 5) (Nat.le_of_ble_eq_true rfl)
  rw [lg_entry_eq]
  generalize (lg_sl ([.ref mh, .int p0, .int p1, .int p2]) ++ List.replicate (5 - (lg_sl ([.ref mh, .int p0, .int p1, .int p2])).length) Slot.unset).toArray = ls at hl ⊢
  have hl : lv_has ls 5 [(0, .ref mh), (1, .int p0), (2, .int p1), (3, .int p2)] := hl
  have lo_p0 := i_lo p0; have hi_p0 := i_hi p0
  have lo_p1 := i_lo p1; have hi_p1 := i_hi p1
  have lo_p2 := i_lo p2; have hi_p2 := i_hi p2
  refine lv_iload_n hx hb dX9_put_0 rfl (lv_at hl 1 rfl) ?_
  refine callRS (rest := []) (As := [.int p0]) hx hb hml hown htb hK (g_X9_isPlace l D E p0 ) ok_X9_isPlace k_1182 k_1183 k_9 k_1184 ⟨(Nat.le_of_ble_eq_true rfl), (Nat.le_of_ble_eq_true rfl)⟩ ⟨(Nat.le_of_ble_eq_true rfl), (Nat.le_of_ble_eq_true rfl)⟩ hl.1 (Nat.le_of_ble_eq_true rfl) rfl rfl dX9_put_1 (hP.sub (ws' := ([] : va_W)) [] rfl) (fun r_1 hw_2 => ?_)
  rcases hw_2 with ⟨hr_1, hw_2⟩ | ⟨hr_1, hw_2⟩
  ·
    refine W_top (y := .int 1) (by rw [hr_1]) ?_
    refine lv_if_eq (tgt := 40) hx hb dX9_put_4 (by decide) (fun c_4 => absurd c_4 (by decide)) (fun c_4 => ?_)
    refine lv_iload_n hx hb dX9_put_7 rfl (lv_at hl 2 rfl) ?_
    refine lv_iconst (v := 0) hx hb dX9_put_8 (by decide) ?_
    refine lv_iconst (v := 2) hx hb dX9_put_9 (by decide) ?_
    refine callRS (rest := []) (As := [.int p1, .int 0, .int 2]) hx hb hml hown htb hK (g_X9_in l D E p1 0 2 ) ok_X9_in k_1168 k_1169 k_9 k_1170 ⟨(Nat.le_of_ble_eq_true rfl), (Nat.le_of_ble_eq_true rfl)⟩ ⟨(Nat.le_of_ble_eq_true rfl), (Nat.le_of_ble_eq_true rfl)⟩ hl.1 (Nat.le_of_ble_eq_true rfl) rfl rfl dX9_put_10 (hP.sub (ws' := ([] : va_W)) [] rfl) (fun r_5 hw_6 => ?_)
    try simp only [t_0, t_2] at hw_6
    rcases hw_6 with ⟨hr_5, hw_6⟩ | ⟨hr_5, hw_6⟩
    ·
      try simp only [t_0, t_2] at hw_6
      refine W_top (y := .int 1) (by rw [hr_5]) ?_
      refine lv_if_eq (tgt := 40) hx hb dX9_put_13 (by decide) (fun c_8 => absurd c_8 (by decide)) (fun c_8 => ?_)
      refine lv_iload_n hx hb dX9_put_16 rfl (lv_at hl 2 rfl) ?_
      refine lv_if_ne (tgt := 24) hx hb dX9_put_17 (by decide) (fun c_9 => ?_) (fun c_9 => ?_)
      ·
        have ic_9 : p1.toInt ≠ 0 := mt (g_eq rfl t_0).mpr c_9
        clear c_9
        refine lv_iload_n hx hb dX9_put_24 rfl (lv_at hl 2 rfl) ?_
        refine lv_iconst (v := 1) hx hb dX9_put_25 (by decide) ?_
        refine lv_icmp_ne (tgt := 42) hx hb dX9_put_26 (by decide) (fun c_10 => ?_) (fun c_10 => ?_)
        ·
          have ic_10 : p1.toInt ≠ 1 := mt (g_eq rfl t_1).mpr c_10
          clear c_10
          refine lv_aload_n hx hb dX9_put_42 rfl (lv_at hl 0 rfl) ?_
          refine va_get (D := D) (ci := 9) (v := .ref (ma 3)) (C := RX9) (T := TX9) (N := 68) hx hb htb iX9 hown hK.1 hP 0 rfl rfl 3 (by decide) (htb _ k_961) (fun _ h9 => h9) rfl dX9_put_43 ?_
          refine lv_iload_n hx hb dX9_put_46 rfl (lv_at hl 1 rfl) ?_
          refine va_iald hx hb hK.1 hP 1 0 rfl rfl (g_in rfl (by omega) (by omega)) dX9_put_47 ?_
          refine lv_topi (fun z_11 ez_11 => ?_)
          have kz_11 := congrArg Int32.toInt ez_11
          refine lv_bipush (v := (-5)) hx hb dX9_put_48 (by decide) ?_
          refine lv_icmp_eq (tgt := 56) hx hb dX9_put_50 (by decide) (fun c_12 => ?_) (fun c_12 => ?_)
          ·
            have ic_12 : z_11.toInt = -5 := (g_eq rfl t_m5).mp c_12
            clear c_12
            refine lv_aload_n hx hb dX9_put_56 rfl (lv_at hl 0 rfl) ?_
            refine va_get (D := D) (ci := 9) (v := .ref (ma 3)) (C := RX9) (T := TX9) (N := 68) hx hb htb iX9 hown hK.1 hP 0 rfl rfl 3 (by decide) (htb _ k_961) (fun _ h9 => h9) rfl dX9_put_57 ?_
            refine lv_iload_n hx hb dX9_put_60 rfl (lv_at hl 1 rfl) ?_
            refine lv_iload_n hx hb dX9_put_61 rfl (lv_at hl 2 rfl) ?_
            refine va_iast hx hb hK.1 hP hD hS 1 0 rfl rfl (g_in rfl (by omega) (by omega)) dX9_put_62 (fun H locs hP hD hS => ?_)
            have hP : va_P D vwCl [(mh, .inr (9, G9 ma mcode mtoday moffs mmany msumW msumA msumR msumWW msumWA msumAA msumWR msumAR mupper mlower mrates mtaped mlaid mat mtk mtkAt mtkNumber mwaits mlisted mdealtMany)), ((ma 3), .inl (E 0, 16, .inl (upd mf3 (p0 : Int32).toNatClampNeg p1))), ((ma 4), .inl (E 0, 16, .inl mf4)), ((ma 5), .inl (E 1, 6400, .inl mf5)), ((ma 8), .inl (E 1, 6400, .inl mf8)), ((ma 9), .inl (E 1, 6400, .inl mf9)), ((ma 10), .inl (E 0, 6400, .inl mf10))] H := hP
            have hD := toW hP hD rfl
            refine lv_aload_n hx hb dX9_put_63 rfl (lv_at hl 0 rfl) ?_
            refine va_get (D := D) (ci := 9) (v := .ref (ma 4)) (C := RX9) (T := TX9) (N := 68) hx hb htb iX9 hown hK.1 hP 0 rfl rfl 4 (by decide) (htb _ k_962) (fun _ h9 => h9) rfl dX9_put_64 ?_
            refine lv_iload_n hx hb dX9_put_67 rfl (lv_at hl 1 rfl) ?_
            refine lv_iload_n hx hb dX9_put_68 rfl (lv_at hl 3 rfl) ?_
            refine va_iast hx hb hK.1 hP hD hS 2 0 rfl rfl (g_in rfl (by omega) (by omega)) dX9_put_69 (fun H locs hP hD hS => ?_)
            have hP : va_P D vwCl [(mh, .inr (9, G9 ma mcode mtoday moffs mmany msumW msumA msumR msumWW msumWA msumAA msumWR msumAR mupper mlower mrates mtaped mlaid mat mtk mtkAt mtkNumber mwaits mlisted mdealtMany)), ((ma 3), .inl (E 0, 16, .inl (upd mf3 (p0 : Int32).toNatClampNeg p1))), ((ma 4), .inl (E 0, 16, .inl (upd mf4 (p0 : Int32).toNatClampNeg p2))), ((ma 5), .inl (E 1, 6400, .inl mf5)), ((ma 8), .inl (E 1, 6400, .inl mf8)), ((ma 9), .inl (E 1, 6400, .inl mf9)), ((ma 10), .inl (E 0, 6400, .inl mf10))] H := hP
            have hD := toW hP hD rfl
            refine lv_iconst (v := 0) hx hb dX9_put_70 (by decide) ?_
            refine lv_istore (lv' := [(4, .int 0), (0, .ref mh), (1, .int p0), (2, .int p1), (3, .int p2)]) hx hb dX9_put_71 hl (by decide) rfl (fun ls hl => ?_)
            have loop_13 : ∀ (N_15 : Nat) (L4_73 : Int32) (mf5_73 : Nat → Int32) (mf8_73 : Nat → Int32) (mf9_73 : Nat → Int32) (mf10_73 : Nat → Int32) (H : Heap) (locs : List Loc) (ls : Array Slot), 400 - L4_73.toInt < (N_15 : Int) → (0 ≤ L4_73.toInt ∧ L4_73.toInt ≤ 400) → (FIL mf5 mf5_73 (400 * p0.toInt) (400 * p0.toInt + L4_73.toInt) 0) → (FIL mf8 mf8_73 (400 * p0.toInt) (400 * p0.toInt + L4_73.toInt) 0) → (FIL mf9 mf9_73 (400 * p0.toInt) (400 * p0.toInt + L4_73.toInt) 0) → (FIL mf10 mf10_73 (400 * p0.toInt) (400 * p0.toInt + L4_73.toInt) (-1)) → va_P D vwCl [(mh, .inr (9, G9 ma mcode mtoday moffs mmany msumW msumA msumR msumWW msumWA msumAA msumWR msumAR mupper mlower mrates mtaped mlaid mat mtk mtkAt mtkNumber mwaits mlisted mdealtMany)), ((ma 3), .inl (E 0, 16, .inl (upd mf3 (p0 : Int32).toNatClampNeg p1))), ((ma 4), .inl (E 0, 16, .inl (upd mf4 (p0 : Int32).toNatClampNeg p2))), ((ma 5), .inl (E 1, 6400, .inl mf5_73)), ((ma 8), .inl (E 1, 6400, .inl mf8_73)), ((ma 9), .inl (E 1, 6400, .inl mf9_73)), ((ma 10), .inl (E 0, 6400, .inl mf10_73))] H → va_D A [(mh, .inr (9, G9 ma mcode mtoday moffs mmany msumW msumA msumR msumWW msumWA msumAA msumWR msumAR mupper mlower mrates mtaped mlaid mat mtk mtkAt mtkNumber mwaits mlisted mdealtMany)), ((ma 3), .inl (E 0, 16, .inl (upd mf3 (p0 : Int32).toNatClampNeg p1))), ((ma 4), .inl (E 0, 16, .inl (upd mf4 (p0 : Int32).toNatClampNeg p2))), ((ma 5), .inl (E 1, 6400, .inl mf5_73)), ((ma 8), .inl (E 1, 6400, .inl mf8_73)), ((ma 9), .inl (E 1, 6400, .inl mf9_73)), ((ma 10), .inl (E 0, 6400, .inl mf10_73))] → va_S A s.heap H locs → lv_has ls 5 [(4, .int L4_73), (0, .ref mh), (1, .int p0), (2, .int p1), (3, .int p2)] → W p l e (headSpec (wl yX9_put cX9_put 5 (some .int)) (RM 2 0 0)).room s m [Value.ref mh, .int p0, .int p1, .int p2].toArray below meth c H locs 0 0 (MQ below (va_Qi (fun (r : Int32) (u : (Nat → Int32) × (Nat → Int32) × (Nat → Int32) × (Nat → Int32) × (Nat → Int32) × (Nat → Int32)) => ((r.toInt = 1 ∧ (0 ≤ p0.toInt ∧ p0.toInt ≤ 15) ∧ ((p1.toInt = 0 ∧ p2.toInt = 0) ∨ (p1.toInt = 1 ∧ -50 ≤ p2.toInt ∧ p2.toInt ≤ 50) ∨ p1.toInt = 2) ∧ (mf3 (p0).toNatClampNeg).toInt = -5 ∧ u.2.1 = upd mf3 (p0).toNatClampNeg p1 ∧ u.2.2.1 = upd mf4 (p0).toNatClampNeg p2 ∧ FIL mf5 u.2.2.2.1 (400 * p0.toInt) (400 * p0.toInt + 400) 0 ∧ FIL mf8 u.2.2.2.2.1 (400 * p0.toInt) (400 * p0.toInt + 400) 0 ∧ FIL mf9 u.2.2.2.2.2 (400 * p0.toInt) (400 * p0.toInt + 400) 0 ∧ FIL mf10 u.1 (400 * p0.toInt) (400 * p0.toInt + 400) (-1)) ∨ (r.toInt = -1 ∧ ¬ ((0 ≤ p0.toInt ∧ p0.toInt ≤ 15) ∧ ((p1.toInt = 0 ∧ p2.toInt = 0) ∨ (p1.toInt = 1 ∧ -50 ≤ p2.toInt ∧ p2.toInt ≤ 50) ∨ p1.toInt = 2)) ∧ u.2.1 = mf3 ∧ u.2.2.1 = mf4 ∧ u.2.2.2.1 = mf5 ∧ u.2.2.2.2.1 = mf8 ∧ u.2.2.2.2.2 = mf9 ∧ u.1 = mf10) ∨ (r.toInt = -4 ∧ (0 ≤ p0.toInt ∧ p0.toInt ≤ 15) ∧ ((p1.toInt = 0 ∧ p2.toInt = 0) ∨ (p1.toInt = 1 ∧ -50 ≤ p2.toInt ∧ p2.toInt ≤ 50) ∨ p1.toInt = 2) ∧ (mf3 (p0).toNatClampNeg).toInt ≠ -5 ∧ u.2.1 = mf3 ∧ u.2.2.1 = mf4 ∧ u.2.2.2.1 = mf5 ∧ u.2.2.2.2.1 = mf8 ∧ u.2.2.2.2.2 = mf9 ∧ u.1 = mf10))) (mu_B D A (fun (u : (Nat → Int32) × (Nat → Int32) × (Nat → Int32) × (Nat → Int32) × (Nat → Int32) × (Nat → Int32)) => [(mh, .inr (9, G9 ma mcode mtoday moffs mmany msumW msumA msumR msumWW msumWA msumAA msumWR msumAR mupper mlower mrates mtaped mlaid mat mtk mtkAt mtkNumber mwaits mlisted mdealtMany)), ((ma 3), .inl (E 0, 16, .inl u.2.1)), ((ma 4), .inl (E 0, 16, .inl u.2.2.1)), ((ma 5), .inl (E 1, 6400, .inl u.2.2.2.1)), ((ma 8), .inl (E 1, 6400, .inl u.2.2.2.2.1)), ((ma 9), .inl (E 1, 6400, .inl u.2.2.2.2.2)), ((ma 10), .inl (E 0, 6400, .inl u.1))])) A) [Value.ref mh, .int p0, .int p1, .int p2].toArray s 0 0 A) (F0 m 73 ls []) := by
              intro N_15
              induction N_15 with
              | zero => intro L4_73 mf5_73 mf8_73 mf9_73 mf10_73 H locs ls hm v0_73 v1_73 v2_73 v3_73 v4_73 _ _ _ _; exfalso; omega
              | succ N_15 ih_14 =>
                intro L4_73 mf5_73 mf8_73 mf9_73 mf10_73 H locs ls hm v0_73 v1_73 v2_73 v3_73 v4_73 hP hD hS hl
                have lo_L4_73 := i_lo L4_73; have hi_L4_73 := i_hi L4_73
                refine lv_iload hx hb dX9_put_73 (lv_at hl 0 rfl) ?_
                refine lv_sipush (v := 400) hx hb dX9_put_75 (by decide) ?_
                refine lv_icmp_ge (tgt := 143) hx hb dX9_put_78 (by decide) (fun c_16 => ?_) (fun c_16 => ?_)
                ·
                  have ic_16 : 400 ≤ L4_73.toInt := by first | exact (g_le t_400 rfl).mp c_16 | (have h := mt (g_lt rfl t_400).mpr c_16; omega)
                  clear c_16
                  refine lv_iconst (v := 1) hx hb dX9_put_143 (by decide) ?_
                  have hP9 := hP.sub (ws' := [(mh, .inr (9, G9 ma mcode mtoday moffs mmany msumW msumA msumR msumWW msumWA msumAA msumWR msumAR mupper mlower mrates mtaped mlaid mat mtk mtkAt mtkNumber mwaits mlisted mdealtMany)), ((ma 3), .inl (E 0, 16, .inl (upd mf3 (p0 : Int32).toNatClampNeg p1))), ((ma 4), .inl (E 0, 16, .inl (upd mf4 (p0 : Int32).toNatClampNeg p2))), ((ma 5), .inl (E 1, 6400, .inl mf5_73)), ((ma 8), .inl (E 1, 6400, .inl mf8_73)), ((ma 9), .inl (E 1, 6400, .inl mf9_73)), ((ma 10), .inl (E 0, 6400, .inl mf10_73))]) [0, 1, 2, 3, 4, 5, 6] rfl
                  have hD9 := hD.sub (ws' := [(mh, .inr (9, G9 ma mcode mtoday moffs mmany msumW msumA msumR msumWW msumWA msumAA msumWR msumAR mupper mlower mrates mtaped mlaid mat mtk mtkAt mtkNumber mwaits mlisted mdealtMany)), ((ma 3), .inl (E 0, 16, .inl (upd mf3 (p0 : Int32).toNatClampNeg p1))), ((ma 4), .inl (E 0, 16, .inl (upd mf4 (p0 : Int32).toNatClampNeg p2))), ((ma 5), .inl (E 1, 6400, .inl mf5_73)), ((ma 8), .inl (E 1, 6400, .inl mf8_73)), ((ma 9), .inl (E 1, 6400, .inl mf9_73)), ((ma 10), .inl (E 0, 6400, .inl mf10_73))]) [0, 1, 2, 3, 4, 5, 6] (by decide) rfl
                  exact W.iret (v := 1) hx hb hr (fun t ht hW => ⟨⟨1, (mf10_73, (upd mf3 (p0 : Int32).toNatClampNeg p1), (upd mf4 (p0 : Int32).toNatClampNeg p2), mf5_73, mf8_73, mf9_73), rfl, (by have hl0 := t_1; (try dsimp only); first | exact Or.inl ⟨by omega, by omega, by omega, by omega, rfl, rfl, FIL_c v1_73 (by omega), FIL_c v2_73 (by omega), FIL_c v3_73 (by omega), FIL_c v4_73 (by omega)⟩), by rw [ht]; exact hP9, hD9⟩, hS.F ht⟩) hS.2.2 dX9_put_144
                ·
                  have ic_16 : L4_73.toInt < 400 := by first | exact (g_lt rfl t_400).mp c_16 | (have h := mt (g_le t_400 rfl).mpr c_16; omega)
                  clear c_16
                  refine lv_aload_n hx hb dX9_put_81 rfl (lv_at hl 1 rfl) ?_
                  refine va_get (D := D) (ci := 9) (v := .ref (ma 5)) (C := RX9) (T := TX9) (N := 68) hx hb htb iX9 hown hK.1 hP 0 rfl rfl 5 (by decide) (htb _ k_963) (fun _ h9 => h9) rfl dX9_put_82 ?_
                  refine lv_sipush (v := 400) hx hb dX9_put_85 (by decide) ?_
                  refine lv_iload_n hx hb dX9_put_88 rfl (lv_at hl 2 rfl) ?_
                  refine lv_imul hx hb dX9_put_89 ?_
                  refine lv_topi (fun z_17 ez_17 => ?_)
                  have jz_17 : z_17.toInt = 400 * p0.toInt := by rw [ez_17]; exact g_mul t_400 rfl (by omega) (by omega)
                  refine lv_iload hx hb dX9_put_90 (lv_at hl 0 rfl) ?_
                  refine lv_iadd hx hb dX9_put_92 ?_
                  refine lv_topi (fun z_18 ez_18 => ?_)
                  have jz_18 : z_18.toInt = z_17.toInt + L4_73.toInt := by rw [ez_18]; exact g_add rfl rfl (by omega) (by omega)
                  refine lv_iconst (v := 0) hx hb dX9_put_93 (by decide) ?_
                  refine va_zast hx hb hK.1 hP hD hS 3 1 rfl rfl (g_in rfl (by omega) (by omega)) dX9_put_94 (fun H locs hP hD hS => ?_)
                  have hP : va_P D vwCl [(mh, .inr (9, G9 ma mcode mtoday moffs mmany msumW msumA msumR msumWW msumWA msumAA msumWR msumAR mupper mlower mrates mtaped mlaid mat mtk mtkAt mtkNumber mwaits mlisted mdealtMany)), ((ma 3), .inl (E 0, 16, .inl (upd mf3 (p0 : Int32).toNatClampNeg p1))), ((ma 4), .inl (E 0, 16, .inl (upd mf4 (p0 : Int32).toNatClampNeg p2))), ((ma 5), .inl (E 1, 6400, .inl (upd mf5_73 (z_18 : Int32).toNatClampNeg (vp_nar .boolean 0)))), ((ma 8), .inl (E 1, 6400, .inl mf8_73)), ((ma 9), .inl (E 1, 6400, .inl mf9_73)), ((ma 10), .inl (E 0, 6400, .inl mf10_73))] H := hP
                  have hD := toW hP hD rfl
                  refine lv_aload_n hx hb dX9_put_95 rfl (lv_at hl 1 rfl) ?_
                  refine va_get (D := D) (ci := 9) (v := .ref (ma 8)) (C := RX9) (T := TX9) (N := 68) hx hb htb iX9 hown hK.1 hP 0 rfl rfl 8 (by decide) (htb _ k_966) (fun _ h9 => h9) rfl dX9_put_96 ?_
                  refine lv_sipush (v := 400) hx hb dX9_put_99 (by decide) ?_
                  refine lv_iload_n hx hb dX9_put_102 rfl (lv_at hl 2 rfl) ?_
                  refine lv_imul hx hb dX9_put_103 ?_
                  refine lv_topi (fun z_19 ez_19 => ?_)
                  have jz_19 : z_19.toInt = 400 * p0.toInt := by rw [ez_19]; exact g_mul t_400 rfl (by omega) (by omega)
                  refine lv_iload hx hb dX9_put_104 (lv_at hl 0 rfl) ?_
                  refine lv_iadd hx hb dX9_put_106 ?_
                  refine lv_topi (fun z_20 ez_20 => ?_)
                  have jz_20 : z_20.toInt = z_19.toInt + L4_73.toInt := by rw [ez_20]; exact g_add rfl rfl (by omega) (by omega)
                  refine lv_iconst (v := 0) hx hb dX9_put_107 (by decide) ?_
                  refine va_zast hx hb hK.1 hP hD hS 4 1 rfl rfl (g_in rfl (by omega) (by omega)) dX9_put_108 (fun H locs hP hD hS => ?_)
                  have hP : va_P D vwCl [(mh, .inr (9, G9 ma mcode mtoday moffs mmany msumW msumA msumR msumWW msumWA msumAA msumWR msumAR mupper mlower mrates mtaped mlaid mat mtk mtkAt mtkNumber mwaits mlisted mdealtMany)), ((ma 3), .inl (E 0, 16, .inl (upd mf3 (p0 : Int32).toNatClampNeg p1))), ((ma 4), .inl (E 0, 16, .inl (upd mf4 (p0 : Int32).toNatClampNeg p2))), ((ma 5), .inl (E 1, 6400, .inl (upd mf5_73 (z_18 : Int32).toNatClampNeg (vp_nar .boolean 0)))), ((ma 8), .inl (E 1, 6400, .inl (upd mf8_73 (z_20 : Int32).toNatClampNeg (vp_nar .boolean 0)))), ((ma 9), .inl (E 1, 6400, .inl mf9_73)), ((ma 10), .inl (E 0, 6400, .inl mf10_73))] H := hP
                  have hD := toW hP hD rfl
                  refine lv_aload_n hx hb dX9_put_109 rfl (lv_at hl 1 rfl) ?_
                  refine va_get (D := D) (ci := 9) (v := .ref (ma 9)) (C := RX9) (T := TX9) (N := 68) hx hb htb iX9 hown hK.1 hP 0 rfl rfl 9 (by decide) (htb _ k_967) (fun _ h9 => h9) rfl dX9_put_110 ?_
                  refine lv_sipush (v := 400) hx hb dX9_put_113 (by decide) ?_
                  refine lv_iload_n hx hb dX9_put_116 rfl (lv_at hl 2 rfl) ?_
                  refine lv_imul hx hb dX9_put_117 ?_
                  refine lv_topi (fun z_21 ez_21 => ?_)
                  have jz_21 : z_21.toInt = 400 * p0.toInt := by rw [ez_21]; exact g_mul t_400 rfl (by omega) (by omega)
                  refine lv_iload hx hb dX9_put_118 (lv_at hl 0 rfl) ?_
                  refine lv_iadd hx hb dX9_put_120 ?_
                  refine lv_topi (fun z_22 ez_22 => ?_)
                  have jz_22 : z_22.toInt = z_21.toInt + L4_73.toInt := by rw [ez_22]; exact g_add rfl rfl (by omega) (by omega)
                  refine lv_iconst (v := 0) hx hb dX9_put_121 (by decide) ?_
                  refine va_zast hx hb hK.1 hP hD hS 5 1 rfl rfl (g_in rfl (by omega) (by omega)) dX9_put_122 (fun H locs hP hD hS => ?_)
                  have hP : va_P D vwCl [(mh, .inr (9, G9 ma mcode mtoday moffs mmany msumW msumA msumR msumWW msumWA msumAA msumWR msumAR mupper mlower mrates mtaped mlaid mat mtk mtkAt mtkNumber mwaits mlisted mdealtMany)), ((ma 3), .inl (E 0, 16, .inl (upd mf3 (p0 : Int32).toNatClampNeg p1))), ((ma 4), .inl (E 0, 16, .inl (upd mf4 (p0 : Int32).toNatClampNeg p2))), ((ma 5), .inl (E 1, 6400, .inl (upd mf5_73 (z_18 : Int32).toNatClampNeg (vp_nar .boolean 0)))), ((ma 8), .inl (E 1, 6400, .inl (upd mf8_73 (z_20 : Int32).toNatClampNeg (vp_nar .boolean 0)))), ((ma 9), .inl (E 1, 6400, .inl (upd mf9_73 (z_22 : Int32).toNatClampNeg (vp_nar .boolean 0)))), ((ma 10), .inl (E 0, 6400, .inl mf10_73))] H := hP
                  have hD := toW hP hD rfl
                  refine lv_aload_n hx hb dX9_put_123 rfl (lv_at hl 1 rfl) ?_
                  refine va_get (D := D) (ci := 9) (v := .ref (ma 10)) (C := RX9) (T := TX9) (N := 68) hx hb htb iX9 hown hK.1 hP 0 rfl rfl 10 (by decide) (htb _ k_968) (fun _ h9 => h9) rfl dX9_put_124 ?_
                  refine lv_sipush (v := 400) hx hb dX9_put_127 (by decide) ?_
                  refine lv_iload_n hx hb dX9_put_130 rfl (lv_at hl 2 rfl) ?_
                  refine lv_imul hx hb dX9_put_131 ?_
                  refine lv_topi (fun z_23 ez_23 => ?_)
                  have jz_23 : z_23.toInt = 400 * p0.toInt := by rw [ez_23]; exact g_mul t_400 rfl (by omega) (by omega)
                  refine lv_iload hx hb dX9_put_132 (lv_at hl 0 rfl) ?_
                  refine lv_iadd hx hb dX9_put_134 ?_
                  refine lv_topi (fun z_24 ez_24 => ?_)
                  have jz_24 : z_24.toInt = z_23.toInt + L4_73.toInt := by rw [ez_24]; exact g_add rfl rfl (by omega) (by omega)
                  refine lv_iconst (v := (-1)) hx hb dX9_put_135 (by decide) ?_
                  refine va_iast hx hb hK.1 hP hD hS 6 0 rfl rfl (g_in rfl (by omega) (by omega)) dX9_put_136 (fun H locs hP hD hS => ?_)
                  have hP : va_P D vwCl [(mh, .inr (9, G9 ma mcode mtoday moffs mmany msumW msumA msumR msumWW msumWA msumAA msumWR msumAR mupper mlower mrates mtaped mlaid mat mtk mtkAt mtkNumber mwaits mlisted mdealtMany)), ((ma 3), .inl (E 0, 16, .inl (upd mf3 (p0 : Int32).toNatClampNeg p1))), ((ma 4), .inl (E 0, 16, .inl (upd mf4 (p0 : Int32).toNatClampNeg p2))), ((ma 5), .inl (E 1, 6400, .inl (upd mf5_73 (z_18 : Int32).toNatClampNeg (vp_nar .boolean 0)))), ((ma 8), .inl (E 1, 6400, .inl (upd mf8_73 (z_20 : Int32).toNatClampNeg (vp_nar .boolean 0)))), ((ma 9), .inl (E 1, 6400, .inl (upd mf9_73 (z_22 : Int32).toNatClampNeg (vp_nar .boolean 0)))), ((ma 10), .inl (E 0, 6400, .inl (upd mf10_73 (z_24 : Int32).toNatClampNeg (-1))))] H := hP
                  have hD := toW hP hD rfl
                  obtain ⟨z_25, ez_25⟩ : ∃ y : Int32, y = L4_73 + 1 := ⟨_, rfl⟩
                  have jz_25 : z_25.toInt = L4_73.toInt + 1 := by rw [ez_25]; exact g_add rfl t_1 (by omega) (by omega)
                  refine lv_iinc (v := z_25) (lv' := [(4, .int z_25), (0, .ref mh), (1, .int p0), (2, .int p1), (3, .int p2)]) hx hb dX9_put_137 hl (k := 0) rfl (by rw [ez_25]; rfl) (by decide) rfl (fun ls hl => ?_)
                  refine lv_goto (tgt := 73) hx hb dX9_put_140 (by decide) ?_
                  exact ih_14 z_25 (upd mf5_73 (z_18 : Int32).toNatClampNeg (vp_nar .boolean 0)) (upd mf8_73 (z_20 : Int32).toNatClampNeg (vp_nar .boolean 0)) (upd mf9_73 (z_22 : Int32).toNatClampNeg (vp_nar .boolean 0)) (upd mf10_73 (z_24 : Int32).toNatClampNeg (-1)) _ _ _ (by (try dsimp only); omega) (by (try dsimp only); omega) (FIL_s v1_73 (i := z_18) (by omega) (by omega) (by omega) (by omega) (by decide)) (FIL_s v2_73 (i := z_20) (by omega) (by omega) (by omega) (by omega) (by decide)) (FIL_s v3_73 (i := z_22) (by omega) (by omega) (by omega) (by omega) (by decide)) (FIL_s v4_73 (i := z_24) (by omega) (by omega) (by omega) (by omega) (by decide)) hP hD hS (lv_sub hl [0, 1, 2, 3, 4] rfl)
            exact loop_13 401 0 mf5 mf8 mf9 mf10 _ _ _ (by have h0 := t_0; (try dsimp only); omega) (by have h0 := t_0; (try dsimp only); omega) (FIL_0 (by have h0 := t_0; omega)) (FIL_0 (by have h0 := t_0; omega)) (FIL_0 (by have h0 := t_0; omega)) (FIL_0 (by have h0 := t_0; omega)) hP hD hS (lv_sub hl [0, 1, 2, 3, 4] rfl)
          ·
            have ic_12 : z_11.toInt ≠ -5 := mt (g_eq rfl t_m5).mpr c_12
            clear c_12
            refine lv_bipush (v := (-4)) hx hb dX9_put_53 (by decide) ?_
            have hP9 := hP.sub (ws' := [(mh, .inr (9, G9 ma mcode mtoday moffs mmany msumW msumA msumR msumWW msumWA msumAA msumWR msumAR mupper mlower mrates mtaped mlaid mat mtk mtkAt mtkNumber mwaits mlisted mdealtMany)), ((ma 3), .inl (E 0, 16, .inl mf3)), ((ma 4), .inl (E 0, 16, .inl mf4)), ((ma 5), .inl (E 1, 6400, .inl mf5)), ((ma 8), .inl (E 1, 6400, .inl mf8)), ((ma 9), .inl (E 1, 6400, .inl mf9)), ((ma 10), .inl (E 0, 6400, .inl mf10))]) [0, 1, 2, 3, 4, 5, 6] rfl
            have hD9 := hD.sub (ws' := [(mh, .inr (9, G9 ma mcode mtoday moffs mmany msumW msumA msumR msumWW msumWA msumAA msumWR msumAR mupper mlower mrates mtaped mlaid mat mtk mtkAt mtkNumber mwaits mlisted mdealtMany)), ((ma 3), .inl (E 0, 16, .inl mf3)), ((ma 4), .inl (E 0, 16, .inl mf4)), ((ma 5), .inl (E 1, 6400, .inl mf5)), ((ma 8), .inl (E 1, 6400, .inl mf8)), ((ma 9), .inl (E 1, 6400, .inl mf9)), ((ma 10), .inl (E 0, 6400, .inl mf10))]) [0, 1, 2, 3, 4, 5, 6] (by decide) rfl
            exact W.iret (v := (-4)) hx hb hr (fun t ht hW => ⟨⟨(-4), (mf10, mf3, mf4, mf5, mf8, mf9), rfl, (by have hl0 := t_m4; (try dsimp only); first | exact Or.inr (Or.inr ⟨by omega, by omega, by omega, by omega, rfl, rfl, rfl, rfl, rfl, rfl⟩)), by rw [ht]; exact hP9, hD9⟩, hS.F ht⟩) hS.2.2 dX9_put_55
        ·
          have ic_10 : p1.toInt = 1 := (g_eq rfl t_1).mp c_10
          clear c_10
          refine lv_iload_n hx hb dX9_put_29 rfl (lv_at hl 3 rfl) ?_
          refine lv_bipush (v := (-50)) hx hb dX9_put_30 (by decide) ?_
          refine lv_bipush (v := 50) hx hb dX9_put_32 (by decide) ?_
          refine callRS (rest := []) (As := [.int p2, .int (-50), .int 50]) hx hb hml hown htb hK (g_X9_in l D E p2 (-50) 50 ) ok_X9_in k_1168 k_1169 k_9 k_1170 ⟨(Nat.le_of_ble_eq_true rfl), (Nat.le_of_ble_eq_true rfl)⟩ ⟨(Nat.le_of_ble_eq_true rfl), (Nat.le_of_ble_eq_true rfl)⟩ hl.1 (Nat.le_of_ble_eq_true rfl) rfl rfl dX9_put_34 (hP.sub (ws' := ([] : va_W)) [] rfl) (fun r_26 hw_27 => ?_)
          try simp only [t_m50, t_50] at hw_27
          rcases hw_27 with ⟨hr_26, hw_27⟩ | ⟨hr_26, hw_27⟩
          ·
            try simp only [t_m50, t_50] at hw_27
            refine W_top (y := .int 1) (by rw [hr_26]) ?_
            refine lv_if_ne (tgt := 42) hx hb dX9_put_37 (by decide) (fun c_29 => ?_) (fun c_29 => absurd c_29 (by decide))
            refine lv_aload_n hx hb dX9_put_42 rfl (lv_at hl 0 rfl) ?_
            refine va_get (D := D) (ci := 9) (v := .ref (ma 3)) (C := RX9) (T := TX9) (N := 68) hx hb htb iX9 hown hK.1 hP 0 rfl rfl 3 (by decide) (htb _ k_961) (fun _ h9 => h9) rfl dX9_put_43 ?_
            refine lv_iload_n hx hb dX9_put_46 rfl (lv_at hl 1 rfl) ?_
            refine va_iald hx hb hK.1 hP 1 0 rfl rfl (g_in rfl (by omega) (by omega)) dX9_put_47 ?_
            refine lv_topi (fun z_30 ez_30 => ?_)
            have kz_30 := congrArg Int32.toInt ez_30
            refine lv_bipush (v := (-5)) hx hb dX9_put_48 (by decide) ?_
            refine lv_icmp_eq (tgt := 56) hx hb dX9_put_50 (by decide) (fun c_31 => ?_) (fun c_31 => ?_)
            ·
              have ic_31 : z_30.toInt = -5 := (g_eq rfl t_m5).mp c_31
              clear c_31
              refine lv_aload_n hx hb dX9_put_56 rfl (lv_at hl 0 rfl) ?_
              refine va_get (D := D) (ci := 9) (v := .ref (ma 3)) (C := RX9) (T := TX9) (N := 68) hx hb htb iX9 hown hK.1 hP 0 rfl rfl 3 (by decide) (htb _ k_961) (fun _ h9 => h9) rfl dX9_put_57 ?_
              refine lv_iload_n hx hb dX9_put_60 rfl (lv_at hl 1 rfl) ?_
              refine lv_iload_n hx hb dX9_put_61 rfl (lv_at hl 2 rfl) ?_
              refine va_iast hx hb hK.1 hP hD hS 1 0 rfl rfl (g_in rfl (by omega) (by omega)) dX9_put_62 (fun H locs hP hD hS => ?_)
              have hP : va_P D vwCl [(mh, .inr (9, G9 ma mcode mtoday moffs mmany msumW msumA msumR msumWW msumWA msumAA msumWR msumAR mupper mlower mrates mtaped mlaid mat mtk mtkAt mtkNumber mwaits mlisted mdealtMany)), ((ma 3), .inl (E 0, 16, .inl (upd mf3 (p0 : Int32).toNatClampNeg p1))), ((ma 4), .inl (E 0, 16, .inl mf4)), ((ma 5), .inl (E 1, 6400, .inl mf5)), ((ma 8), .inl (E 1, 6400, .inl mf8)), ((ma 9), .inl (E 1, 6400, .inl mf9)), ((ma 10), .inl (E 0, 6400, .inl mf10))] H := hP
              have hD := toW hP hD rfl
              refine lv_aload_n hx hb dX9_put_63 rfl (lv_at hl 0 rfl) ?_
              refine va_get (D := D) (ci := 9) (v := .ref (ma 4)) (C := RX9) (T := TX9) (N := 68) hx hb htb iX9 hown hK.1 hP 0 rfl rfl 4 (by decide) (htb _ k_962) (fun _ h9 => h9) rfl dX9_put_64 ?_
              refine lv_iload_n hx hb dX9_put_67 rfl (lv_at hl 1 rfl) ?_
              refine lv_iload_n hx hb dX9_put_68 rfl (lv_at hl 3 rfl) ?_
              refine va_iast hx hb hK.1 hP hD hS 2 0 rfl rfl (g_in rfl (by omega) (by omega)) dX9_put_69 (fun H locs hP hD hS => ?_)
              have hP : va_P D vwCl [(mh, .inr (9, G9 ma mcode mtoday moffs mmany msumW msumA msumR msumWW msumWA msumAA msumWR msumAR mupper mlower mrates mtaped mlaid mat mtk mtkAt mtkNumber mwaits mlisted mdealtMany)), ((ma 3), .inl (E 0, 16, .inl (upd mf3 (p0 : Int32).toNatClampNeg p1))), ((ma 4), .inl (E 0, 16, .inl (upd mf4 (p0 : Int32).toNatClampNeg p2))), ((ma 5), .inl (E 1, 6400, .inl mf5)), ((ma 8), .inl (E 1, 6400, .inl mf8)), ((ma 9), .inl (E 1, 6400, .inl mf9)), ((ma 10), .inl (E 0, 6400, .inl mf10))] H := hP
              have hD := toW hP hD rfl
              refine lv_iconst (v := 0) hx hb dX9_put_70 (by decide) ?_
              refine lv_istore (lv' := [(4, .int 0), (0, .ref mh), (1, .int p0), (2, .int p1), (3, .int p2)]) hx hb dX9_put_71 hl (by decide) rfl (fun ls hl => ?_)
              have loop_32 : ∀ (N_34 : Nat) (L4_73 : Int32) (mf5_73 : Nat → Int32) (mf8_73 : Nat → Int32) (mf9_73 : Nat → Int32) (mf10_73 : Nat → Int32) (H : Heap) (locs : List Loc) (ls : Array Slot), 400 - L4_73.toInt < (N_34 : Int) → (0 ≤ L4_73.toInt ∧ L4_73.toInt ≤ 400) → (FIL mf5 mf5_73 (400 * p0.toInt) (400 * p0.toInt + L4_73.toInt) 0) → (FIL mf8 mf8_73 (400 * p0.toInt) (400 * p0.toInt + L4_73.toInt) 0) → (FIL mf9 mf9_73 (400 * p0.toInt) (400 * p0.toInt + L4_73.toInt) 0) → (FIL mf10 mf10_73 (400 * p0.toInt) (400 * p0.toInt + L4_73.toInt) (-1)) → va_P D vwCl [(mh, .inr (9, G9 ma mcode mtoday moffs mmany msumW msumA msumR msumWW msumWA msumAA msumWR msumAR mupper mlower mrates mtaped mlaid mat mtk mtkAt mtkNumber mwaits mlisted mdealtMany)), ((ma 3), .inl (E 0, 16, .inl (upd mf3 (p0 : Int32).toNatClampNeg p1))), ((ma 4), .inl (E 0, 16, .inl (upd mf4 (p0 : Int32).toNatClampNeg p2))), ((ma 5), .inl (E 1, 6400, .inl mf5_73)), ((ma 8), .inl (E 1, 6400, .inl mf8_73)), ((ma 9), .inl (E 1, 6400, .inl mf9_73)), ((ma 10), .inl (E 0, 6400, .inl mf10_73))] H → va_D A [(mh, .inr (9, G9 ma mcode mtoday moffs mmany msumW msumA msumR msumWW msumWA msumAA msumWR msumAR mupper mlower mrates mtaped mlaid mat mtk mtkAt mtkNumber mwaits mlisted mdealtMany)), ((ma 3), .inl (E 0, 16, .inl (upd mf3 (p0 : Int32).toNatClampNeg p1))), ((ma 4), .inl (E 0, 16, .inl (upd mf4 (p0 : Int32).toNatClampNeg p2))), ((ma 5), .inl (E 1, 6400, .inl mf5_73)), ((ma 8), .inl (E 1, 6400, .inl mf8_73)), ((ma 9), .inl (E 1, 6400, .inl mf9_73)), ((ma 10), .inl (E 0, 6400, .inl mf10_73))] → va_S A s.heap H locs → lv_has ls 5 [(4, .int L4_73), (0, .ref mh), (1, .int p0), (2, .int p1), (3, .int p2)] → W p l e (headSpec (wl yX9_put cX9_put 5 (some .int)) (RM 2 0 0)).room s m [Value.ref mh, .int p0, .int p1, .int p2].toArray below meth c H locs 0 0 (MQ below (va_Qi (fun (r : Int32) (u : (Nat → Int32) × (Nat → Int32) × (Nat → Int32) × (Nat → Int32) × (Nat → Int32) × (Nat → Int32)) => ((r.toInt = 1 ∧ (0 ≤ p0.toInt ∧ p0.toInt ≤ 15) ∧ ((p1.toInt = 0 ∧ p2.toInt = 0) ∨ (p1.toInt = 1 ∧ -50 ≤ p2.toInt ∧ p2.toInt ≤ 50) ∨ p1.toInt = 2) ∧ (mf3 (p0).toNatClampNeg).toInt = -5 ∧ u.2.1 = upd mf3 (p0).toNatClampNeg p1 ∧ u.2.2.1 = upd mf4 (p0).toNatClampNeg p2 ∧ FIL mf5 u.2.2.2.1 (400 * p0.toInt) (400 * p0.toInt + 400) 0 ∧ FIL mf8 u.2.2.2.2.1 (400 * p0.toInt) (400 * p0.toInt + 400) 0 ∧ FIL mf9 u.2.2.2.2.2 (400 * p0.toInt) (400 * p0.toInt + 400) 0 ∧ FIL mf10 u.1 (400 * p0.toInt) (400 * p0.toInt + 400) (-1)) ∨ (r.toInt = -1 ∧ ¬ ((0 ≤ p0.toInt ∧ p0.toInt ≤ 15) ∧ ((p1.toInt = 0 ∧ p2.toInt = 0) ∨ (p1.toInt = 1 ∧ -50 ≤ p2.toInt ∧ p2.toInt ≤ 50) ∨ p1.toInt = 2)) ∧ u.2.1 = mf3 ∧ u.2.2.1 = mf4 ∧ u.2.2.2.1 = mf5 ∧ u.2.2.2.2.1 = mf8 ∧ u.2.2.2.2.2 = mf9 ∧ u.1 = mf10) ∨ (r.toInt = -4 ∧ (0 ≤ p0.toInt ∧ p0.toInt ≤ 15) ∧ ((p1.toInt = 0 ∧ p2.toInt = 0) ∨ (p1.toInt = 1 ∧ -50 ≤ p2.toInt ∧ p2.toInt ≤ 50) ∨ p1.toInt = 2) ∧ (mf3 (p0).toNatClampNeg).toInt ≠ -5 ∧ u.2.1 = mf3 ∧ u.2.2.1 = mf4 ∧ u.2.2.2.1 = mf5 ∧ u.2.2.2.2.1 = mf8 ∧ u.2.2.2.2.2 = mf9 ∧ u.1 = mf10))) (mu_B D A (fun (u : (Nat → Int32) × (Nat → Int32) × (Nat → Int32) × (Nat → Int32) × (Nat → Int32) × (Nat → Int32)) => [(mh, .inr (9, G9 ma mcode mtoday moffs mmany msumW msumA msumR msumWW msumWA msumAA msumWR msumAR mupper mlower mrates mtaped mlaid mat mtk mtkAt mtkNumber mwaits mlisted mdealtMany)), ((ma 3), .inl (E 0, 16, .inl u.2.1)), ((ma 4), .inl (E 0, 16, .inl u.2.2.1)), ((ma 5), .inl (E 1, 6400, .inl u.2.2.2.1)), ((ma 8), .inl (E 1, 6400, .inl u.2.2.2.2.1)), ((ma 9), .inl (E 1, 6400, .inl u.2.2.2.2.2)), ((ma 10), .inl (E 0, 6400, .inl u.1))])) A) [Value.ref mh, .int p0, .int p1, .int p2].toArray s 0 0 A) (F0 m 73 ls []) := by
                intro N_34
                induction N_34 with
                | zero => intro L4_73 mf5_73 mf8_73 mf9_73 mf10_73 H locs ls hm v0_73 v1_73 v2_73 v3_73 v4_73 _ _ _ _; exfalso; omega
                | succ N_34 ih_33 =>
                  intro L4_73 mf5_73 mf8_73 mf9_73 mf10_73 H locs ls hm v0_73 v1_73 v2_73 v3_73 v4_73 hP hD hS hl
                  have lo_L4_73 := i_lo L4_73; have hi_L4_73 := i_hi L4_73
                  refine lv_iload hx hb dX9_put_73 (lv_at hl 0 rfl) ?_
                  refine lv_sipush (v := 400) hx hb dX9_put_75 (by decide) ?_
                  refine lv_icmp_ge (tgt := 143) hx hb dX9_put_78 (by decide) (fun c_35 => ?_) (fun c_35 => ?_)
                  ·
                    have ic_35 : 400 ≤ L4_73.toInt := by first | exact (g_le t_400 rfl).mp c_35 | (have h := mt (g_lt rfl t_400).mpr c_35; omega)
                    clear c_35
                    refine lv_iconst (v := 1) hx hb dX9_put_143 (by decide) ?_
                    have hP9 := hP.sub (ws' := [(mh, .inr (9, G9 ma mcode mtoday moffs mmany msumW msumA msumR msumWW msumWA msumAA msumWR msumAR mupper mlower mrates mtaped mlaid mat mtk mtkAt mtkNumber mwaits mlisted mdealtMany)), ((ma 3), .inl (E 0, 16, .inl (upd mf3 (p0 : Int32).toNatClampNeg p1))), ((ma 4), .inl (E 0, 16, .inl (upd mf4 (p0 : Int32).toNatClampNeg p2))), ((ma 5), .inl (E 1, 6400, .inl mf5_73)), ((ma 8), .inl (E 1, 6400, .inl mf8_73)), ((ma 9), .inl (E 1, 6400, .inl mf9_73)), ((ma 10), .inl (E 0, 6400, .inl mf10_73))]) [0, 1, 2, 3, 4, 5, 6] rfl
                    have hD9 := hD.sub (ws' := [(mh, .inr (9, G9 ma mcode mtoday moffs mmany msumW msumA msumR msumWW msumWA msumAA msumWR msumAR mupper mlower mrates mtaped mlaid mat mtk mtkAt mtkNumber mwaits mlisted mdealtMany)), ((ma 3), .inl (E 0, 16, .inl (upd mf3 (p0 : Int32).toNatClampNeg p1))), ((ma 4), .inl (E 0, 16, .inl (upd mf4 (p0 : Int32).toNatClampNeg p2))), ((ma 5), .inl (E 1, 6400, .inl mf5_73)), ((ma 8), .inl (E 1, 6400, .inl mf8_73)), ((ma 9), .inl (E 1, 6400, .inl mf9_73)), ((ma 10), .inl (E 0, 6400, .inl mf10_73))]) [0, 1, 2, 3, 4, 5, 6] (by decide) rfl
                    exact W.iret (v := 1) hx hb hr (fun t ht hW => ⟨⟨1, (mf10_73, (upd mf3 (p0 : Int32).toNatClampNeg p1), (upd mf4 (p0 : Int32).toNatClampNeg p2), mf5_73, mf8_73, mf9_73), rfl, (by have hl0 := t_1; (try dsimp only); first | exact Or.inl ⟨by omega, by omega, by omega, by omega, rfl, rfl, FIL_c v1_73 (by omega), FIL_c v2_73 (by omega), FIL_c v3_73 (by omega), FIL_c v4_73 (by omega)⟩), by rw [ht]; exact hP9, hD9⟩, hS.F ht⟩) hS.2.2 dX9_put_144
                  ·
                    have ic_35 : L4_73.toInt < 400 := by first | exact (g_lt rfl t_400).mp c_35 | (have h := mt (g_le t_400 rfl).mpr c_35; omega)
                    clear c_35
                    refine lv_aload_n hx hb dX9_put_81 rfl (lv_at hl 1 rfl) ?_
                    refine va_get (D := D) (ci := 9) (v := .ref (ma 5)) (C := RX9) (T := TX9) (N := 68) hx hb htb iX9 hown hK.1 hP 0 rfl rfl 5 (by decide) (htb _ k_963) (fun _ h9 => h9) rfl dX9_put_82 ?_
                    refine lv_sipush (v := 400) hx hb dX9_put_85 (by decide) ?_
                    refine lv_iload_n hx hb dX9_put_88 rfl (lv_at hl 2 rfl) ?_
                    refine lv_imul hx hb dX9_put_89 ?_
                    refine lv_topi (fun z_36 ez_36 => ?_)
                    have jz_36 : z_36.toInt = 400 * p0.toInt := by rw [ez_36]; exact g_mul t_400 rfl (by omega) (by omega)
                    refine lv_iload hx hb dX9_put_90 (lv_at hl 0 rfl) ?_
                    refine lv_iadd hx hb dX9_put_92 ?_
                    refine lv_topi (fun z_37 ez_37 => ?_)
                    have jz_37 : z_37.toInt = z_36.toInt + L4_73.toInt := by rw [ez_37]; exact g_add rfl rfl (by omega) (by omega)
                    refine lv_iconst (v := 0) hx hb dX9_put_93 (by decide) ?_
                    refine va_zast hx hb hK.1 hP hD hS 3 1 rfl rfl (g_in rfl (by omega) (by omega)) dX9_put_94 (fun H locs hP hD hS => ?_)
                    have hP : va_P D vwCl [(mh, .inr (9, G9 ma mcode mtoday moffs mmany msumW msumA msumR msumWW msumWA msumAA msumWR msumAR mupper mlower mrates mtaped mlaid mat mtk mtkAt mtkNumber mwaits mlisted mdealtMany)), ((ma 3), .inl (E 0, 16, .inl (upd mf3 (p0 : Int32).toNatClampNeg p1))), ((ma 4), .inl (E 0, 16, .inl (upd mf4 (p0 : Int32).toNatClampNeg p2))), ((ma 5), .inl (E 1, 6400, .inl (upd mf5_73 (z_37 : Int32).toNatClampNeg (vp_nar .boolean 0)))), ((ma 8), .inl (E 1, 6400, .inl mf8_73)), ((ma 9), .inl (E 1, 6400, .inl mf9_73)), ((ma 10), .inl (E 0, 6400, .inl mf10_73))] H := hP
                    have hD := toW hP hD rfl
                    refine lv_aload_n hx hb dX9_put_95 rfl (lv_at hl 1 rfl) ?_
                    refine va_get (D := D) (ci := 9) (v := .ref (ma 8)) (C := RX9) (T := TX9) (N := 68) hx hb htb iX9 hown hK.1 hP 0 rfl rfl 8 (by decide) (htb _ k_966) (fun _ h9 => h9) rfl dX9_put_96 ?_
                    refine lv_sipush (v := 400) hx hb dX9_put_99 (by decide) ?_
                    refine lv_iload_n hx hb dX9_put_102 rfl (lv_at hl 2 rfl) ?_
                    refine lv_imul hx hb dX9_put_103 ?_
                    refine lv_topi (fun z_38 ez_38 => ?_)
                    have jz_38 : z_38.toInt = 400 * p0.toInt := by rw [ez_38]; exact g_mul t_400 rfl (by omega) (by omega)
                    refine lv_iload hx hb dX9_put_104 (lv_at hl 0 rfl) ?_
                    refine lv_iadd hx hb dX9_put_106 ?_
                    refine lv_topi (fun z_39 ez_39 => ?_)
                    have jz_39 : z_39.toInt = z_38.toInt + L4_73.toInt := by rw [ez_39]; exact g_add rfl rfl (by omega) (by omega)
                    refine lv_iconst (v := 0) hx hb dX9_put_107 (by decide) ?_
                    refine va_zast hx hb hK.1 hP hD hS 4 1 rfl rfl (g_in rfl (by omega) (by omega)) dX9_put_108 (fun H locs hP hD hS => ?_)
                    have hP : va_P D vwCl [(mh, .inr (9, G9 ma mcode mtoday moffs mmany msumW msumA msumR msumWW msumWA msumAA msumWR msumAR mupper mlower mrates mtaped mlaid mat mtk mtkAt mtkNumber mwaits mlisted mdealtMany)), ((ma 3), .inl (E 0, 16, .inl (upd mf3 (p0 : Int32).toNatClampNeg p1))), ((ma 4), .inl (E 0, 16, .inl (upd mf4 (p0 : Int32).toNatClampNeg p2))), ((ma 5), .inl (E 1, 6400, .inl (upd mf5_73 (z_37 : Int32).toNatClampNeg (vp_nar .boolean 0)))), ((ma 8), .inl (E 1, 6400, .inl (upd mf8_73 (z_39 : Int32).toNatClampNeg (vp_nar .boolean 0)))), ((ma 9), .inl (E 1, 6400, .inl mf9_73)), ((ma 10), .inl (E 0, 6400, .inl mf10_73))] H := hP
                    have hD := toW hP hD rfl
                    refine lv_aload_n hx hb dX9_put_109 rfl (lv_at hl 1 rfl) ?_
                    refine va_get (D := D) (ci := 9) (v := .ref (ma 9)) (C := RX9) (T := TX9) (N := 68) hx hb htb iX9 hown hK.1 hP 0 rfl rfl 9 (by decide) (htb _ k_967) (fun _ h9 => h9) rfl dX9_put_110 ?_
                    refine lv_sipush (v := 400) hx hb dX9_put_113 (by decide) ?_
                    refine lv_iload_n hx hb dX9_put_116 rfl (lv_at hl 2 rfl) ?_
                    refine lv_imul hx hb dX9_put_117 ?_
                    refine lv_topi (fun z_40 ez_40 => ?_)
                    have jz_40 : z_40.toInt = 400 * p0.toInt := by rw [ez_40]; exact g_mul t_400 rfl (by omega) (by omega)
                    refine lv_iload hx hb dX9_put_118 (lv_at hl 0 rfl) ?_
                    refine lv_iadd hx hb dX9_put_120 ?_
                    refine lv_topi (fun z_41 ez_41 => ?_)
                    have jz_41 : z_41.toInt = z_40.toInt + L4_73.toInt := by rw [ez_41]; exact g_add rfl rfl (by omega) (by omega)
                    refine lv_iconst (v := 0) hx hb dX9_put_121 (by decide) ?_
                    refine va_zast hx hb hK.1 hP hD hS 5 1 rfl rfl (g_in rfl (by omega) (by omega)) dX9_put_122 (fun H locs hP hD hS => ?_)
                    have hP : va_P D vwCl [(mh, .inr (9, G9 ma mcode mtoday moffs mmany msumW msumA msumR msumWW msumWA msumAA msumWR msumAR mupper mlower mrates mtaped mlaid mat mtk mtkAt mtkNumber mwaits mlisted mdealtMany)), ((ma 3), .inl (E 0, 16, .inl (upd mf3 (p0 : Int32).toNatClampNeg p1))), ((ma 4), .inl (E 0, 16, .inl (upd mf4 (p0 : Int32).toNatClampNeg p2))), ((ma 5), .inl (E 1, 6400, .inl (upd mf5_73 (z_37 : Int32).toNatClampNeg (vp_nar .boolean 0)))), ((ma 8), .inl (E 1, 6400, .inl (upd mf8_73 (z_39 : Int32).toNatClampNeg (vp_nar .boolean 0)))), ((ma 9), .inl (E 1, 6400, .inl (upd mf9_73 (z_41 : Int32).toNatClampNeg (vp_nar .boolean 0)))), ((ma 10), .inl (E 0, 6400, .inl mf10_73))] H := hP
                    have hD := toW hP hD rfl
                    refine lv_aload_n hx hb dX9_put_123 rfl (lv_at hl 1 rfl) ?_
                    refine va_get (D := D) (ci := 9) (v := .ref (ma 10)) (C := RX9) (T := TX9) (N := 68) hx hb htb iX9 hown hK.1 hP 0 rfl rfl 10 (by decide) (htb _ k_968) (fun _ h9 => h9) rfl dX9_put_124 ?_
                    refine lv_sipush (v := 400) hx hb dX9_put_127 (by decide) ?_
                    refine lv_iload_n hx hb dX9_put_130 rfl (lv_at hl 2 rfl) ?_
                    refine lv_imul hx hb dX9_put_131 ?_
                    refine lv_topi (fun z_42 ez_42 => ?_)
                    have jz_42 : z_42.toInt = 400 * p0.toInt := by rw [ez_42]; exact g_mul t_400 rfl (by omega) (by omega)
                    refine lv_iload hx hb dX9_put_132 (lv_at hl 0 rfl) ?_
                    refine lv_iadd hx hb dX9_put_134 ?_
                    refine lv_topi (fun z_43 ez_43 => ?_)
                    have jz_43 : z_43.toInt = z_42.toInt + L4_73.toInt := by rw [ez_43]; exact g_add rfl rfl (by omega) (by omega)
                    refine lv_iconst (v := (-1)) hx hb dX9_put_135 (by decide) ?_
                    refine va_iast hx hb hK.1 hP hD hS 6 0 rfl rfl (g_in rfl (by omega) (by omega)) dX9_put_136 (fun H locs hP hD hS => ?_)
                    have hP : va_P D vwCl [(mh, .inr (9, G9 ma mcode mtoday moffs mmany msumW msumA msumR msumWW msumWA msumAA msumWR msumAR mupper mlower mrates mtaped mlaid mat mtk mtkAt mtkNumber mwaits mlisted mdealtMany)), ((ma 3), .inl (E 0, 16, .inl (upd mf3 (p0 : Int32).toNatClampNeg p1))), ((ma 4), .inl (E 0, 16, .inl (upd mf4 (p0 : Int32).toNatClampNeg p2))), ((ma 5), .inl (E 1, 6400, .inl (upd mf5_73 (z_37 : Int32).toNatClampNeg (vp_nar .boolean 0)))), ((ma 8), .inl (E 1, 6400, .inl (upd mf8_73 (z_39 : Int32).toNatClampNeg (vp_nar .boolean 0)))), ((ma 9), .inl (E 1, 6400, .inl (upd mf9_73 (z_41 : Int32).toNatClampNeg (vp_nar .boolean 0)))), ((ma 10), .inl (E 0, 6400, .inl (upd mf10_73 (z_43 : Int32).toNatClampNeg (-1))))] H := hP
                    have hD := toW hP hD rfl
                    obtain ⟨z_44, ez_44⟩ : ∃ y : Int32, y = L4_73 + 1 := ⟨_, rfl⟩
                    have jz_44 : z_44.toInt = L4_73.toInt + 1 := by rw [ez_44]; exact g_add rfl t_1 (by omega) (by omega)
                    refine lv_iinc (v := z_44) (lv' := [(4, .int z_44), (0, .ref mh), (1, .int p0), (2, .int p1), (3, .int p2)]) hx hb dX9_put_137 hl (k := 0) rfl (by rw [ez_44]; rfl) (by decide) rfl (fun ls hl => ?_)
                    refine lv_goto (tgt := 73) hx hb dX9_put_140 (by decide) ?_
                    exact ih_33 z_44 (upd mf5_73 (z_37 : Int32).toNatClampNeg (vp_nar .boolean 0)) (upd mf8_73 (z_39 : Int32).toNatClampNeg (vp_nar .boolean 0)) (upd mf9_73 (z_41 : Int32).toNatClampNeg (vp_nar .boolean 0)) (upd mf10_73 (z_43 : Int32).toNatClampNeg (-1)) _ _ _ (by (try dsimp only); omega) (by (try dsimp only); omega) (FIL_s v1_73 (i := z_37) (by omega) (by omega) (by omega) (by omega) (by decide)) (FIL_s v2_73 (i := z_39) (by omega) (by omega) (by omega) (by omega) (by decide)) (FIL_s v3_73 (i := z_41) (by omega) (by omega) (by omega) (by omega) (by decide)) (FIL_s v4_73 (i := z_43) (by omega) (by omega) (by omega) (by omega) (by decide)) hP hD hS (lv_sub hl [0, 1, 2, 3, 4] rfl)
              exact loop_32 401 0 mf5 mf8 mf9 mf10 _ _ _ (by have h0 := t_0; (try dsimp only); omega) (by have h0 := t_0; (try dsimp only); omega) (FIL_0 (by have h0 := t_0; omega)) (FIL_0 (by have h0 := t_0; omega)) (FIL_0 (by have h0 := t_0; omega)) (FIL_0 (by have h0 := t_0; omega)) hP hD hS (lv_sub hl [0, 1, 2, 3, 4] rfl)
            ·
              have ic_31 : z_30.toInt ≠ -5 := mt (g_eq rfl t_m5).mpr c_31
              clear c_31
              refine lv_bipush (v := (-4)) hx hb dX9_put_53 (by decide) ?_
              have hP9 := hP.sub (ws' := [(mh, .inr (9, G9 ma mcode mtoday moffs mmany msumW msumA msumR msumWW msumWA msumAA msumWR msumAR mupper mlower mrates mtaped mlaid mat mtk mtkAt mtkNumber mwaits mlisted mdealtMany)), ((ma 3), .inl (E 0, 16, .inl mf3)), ((ma 4), .inl (E 0, 16, .inl mf4)), ((ma 5), .inl (E 1, 6400, .inl mf5)), ((ma 8), .inl (E 1, 6400, .inl mf8)), ((ma 9), .inl (E 1, 6400, .inl mf9)), ((ma 10), .inl (E 0, 6400, .inl mf10))]) [0, 1, 2, 3, 4, 5, 6] rfl
              have hD9 := hD.sub (ws' := [(mh, .inr (9, G9 ma mcode mtoday moffs mmany msumW msumA msumR msumWW msumWA msumAA msumWR msumAR mupper mlower mrates mtaped mlaid mat mtk mtkAt mtkNumber mwaits mlisted mdealtMany)), ((ma 3), .inl (E 0, 16, .inl mf3)), ((ma 4), .inl (E 0, 16, .inl mf4)), ((ma 5), .inl (E 1, 6400, .inl mf5)), ((ma 8), .inl (E 1, 6400, .inl mf8)), ((ma 9), .inl (E 1, 6400, .inl mf9)), ((ma 10), .inl (E 0, 6400, .inl mf10))]) [0, 1, 2, 3, 4, 5, 6] (by decide) rfl
              exact W.iret (v := (-4)) hx hb hr (fun t ht hW => ⟨⟨(-4), (mf10, mf3, mf4, mf5, mf8, mf9), rfl, (by have hl0 := t_m4; (try dsimp only); first | exact Or.inr (Or.inr ⟨by omega, by omega, by omega, by omega, rfl, rfl, rfl, rfl, rfl, rfl⟩)), by rw [ht]; exact hP9, hD9⟩, hS.F ht⟩) hS.2.2 dX9_put_55
          ·
            try simp only [t_m50, t_50] at hw_27
            refine W_top (y := .int 0) (by rw [hr_26]) ?_
            refine lv_if_ne (tgt := 42) hx hb dX9_put_37 (by decide) (fun c_45 => absurd (by decide) c_45) (fun c_45 => ?_)
            refine lv_iconst (v := (-1)) hx hb dX9_put_40 (by decide) ?_
            have hP9 := hP.sub (ws' := [(mh, .inr (9, G9 ma mcode mtoday moffs mmany msumW msumA msumR msumWW msumWA msumAA msumWR msumAR mupper mlower mrates mtaped mlaid mat mtk mtkAt mtkNumber mwaits mlisted mdealtMany)), ((ma 3), .inl (E 0, 16, .inl mf3)), ((ma 4), .inl (E 0, 16, .inl mf4)), ((ma 5), .inl (E 1, 6400, .inl mf5)), ((ma 8), .inl (E 1, 6400, .inl mf8)), ((ma 9), .inl (E 1, 6400, .inl mf9)), ((ma 10), .inl (E 0, 6400, .inl mf10))]) [0, 1, 2, 3, 4, 5, 6] rfl
            have hD9 := hD.sub (ws' := [(mh, .inr (9, G9 ma mcode mtoday moffs mmany msumW msumA msumR msumWW msumWA msumAA msumWR msumAR mupper mlower mrates mtaped mlaid mat mtk mtkAt mtkNumber mwaits mlisted mdealtMany)), ((ma 3), .inl (E 0, 16, .inl mf3)), ((ma 4), .inl (E 0, 16, .inl mf4)), ((ma 5), .inl (E 1, 6400, .inl mf5)), ((ma 8), .inl (E 1, 6400, .inl mf8)), ((ma 9), .inl (E 1, 6400, .inl mf9)), ((ma 10), .inl (E 0, 6400, .inl mf10))]) [0, 1, 2, 3, 4, 5, 6] (by decide) rfl
            exact W.iret (v := (-1)) hx hb hr (fun t ht hW => ⟨⟨(-1), (mf10, mf3, mf4, mf5, mf8, mf9), rfl, (by have hl0 := t_m1; (try dsimp only); first | exact Or.inr (Or.inl ⟨by omega, by omega, rfl, rfl, rfl, rfl, rfl, rfl⟩)), by rw [ht]; exact hP9, hD9⟩, hS.F ht⟩) hS.2.2 dX9_put_41
      ·
        have ic_9 : p1.toInt = 0 := (g_eq rfl t_0).mp c_9
        clear c_9
        refine lv_iload_n hx hb dX9_put_20 rfl (lv_at hl 3 rfl) ?_
        refine lv_if_ne (tgt := 40) hx hb dX9_put_21 (by decide) (fun c_46 => ?_) (fun c_46 => ?_)
        ·
          have ic_46 : p2.toInt ≠ 0 := mt (g_eq rfl t_0).mpr c_46
          clear c_46
          refine lv_iconst (v := (-1)) hx hb dX9_put_40 (by decide) ?_
          have hP9 := hP.sub (ws' := [(mh, .inr (9, G9 ma mcode mtoday moffs mmany msumW msumA msumR msumWW msumWA msumAA msumWR msumAR mupper mlower mrates mtaped mlaid mat mtk mtkAt mtkNumber mwaits mlisted mdealtMany)), ((ma 3), .inl (E 0, 16, .inl mf3)), ((ma 4), .inl (E 0, 16, .inl mf4)), ((ma 5), .inl (E 1, 6400, .inl mf5)), ((ma 8), .inl (E 1, 6400, .inl mf8)), ((ma 9), .inl (E 1, 6400, .inl mf9)), ((ma 10), .inl (E 0, 6400, .inl mf10))]) [0, 1, 2, 3, 4, 5, 6] rfl
          have hD9 := hD.sub (ws' := [(mh, .inr (9, G9 ma mcode mtoday moffs mmany msumW msumA msumR msumWW msumWA msumAA msumWR msumAR mupper mlower mrates mtaped mlaid mat mtk mtkAt mtkNumber mwaits mlisted mdealtMany)), ((ma 3), .inl (E 0, 16, .inl mf3)), ((ma 4), .inl (E 0, 16, .inl mf4)), ((ma 5), .inl (E 1, 6400, .inl mf5)), ((ma 8), .inl (E 1, 6400, .inl mf8)), ((ma 9), .inl (E 1, 6400, .inl mf9)), ((ma 10), .inl (E 0, 6400, .inl mf10))]) [0, 1, 2, 3, 4, 5, 6] (by decide) rfl
          exact W.iret (v := (-1)) hx hb hr (fun t ht hW => ⟨⟨(-1), (mf10, mf3, mf4, mf5, mf8, mf9), rfl, (by have hl0 := t_m1; (try dsimp only); first | exact Or.inr (Or.inl ⟨by omega, by omega, rfl, rfl, rfl, rfl, rfl, rfl⟩)), by rw [ht]; exact hP9, hD9⟩, hS.F ht⟩) hS.2.2 dX9_put_41
        ·
          have ic_46 : p2.toInt = 0 := (g_eq rfl t_0).mp c_46
          clear c_46
          refine lv_iload_n hx hb dX9_put_24 rfl (lv_at hl 2 rfl) ?_
          refine lv_iconst (v := 1) hx hb dX9_put_25 (by decide) ?_
          refine lv_icmp_ne (tgt := 42) hx hb dX9_put_26 (by decide) (fun c_47 => ?_) (fun c_47 => absurd c_47 (by rw [g_eq rfl t_1]; omega))
          refine lv_aload_n hx hb dX9_put_42 rfl (lv_at hl 0 rfl) ?_
          refine va_get (D := D) (ci := 9) (v := .ref (ma 3)) (C := RX9) (T := TX9) (N := 68) hx hb htb iX9 hown hK.1 hP 0 rfl rfl 3 (by decide) (htb _ k_961) (fun _ h9 => h9) rfl dX9_put_43 ?_
          refine lv_iload_n hx hb dX9_put_46 rfl (lv_at hl 1 rfl) ?_
          refine va_iald hx hb hK.1 hP 1 0 rfl rfl (g_in rfl (by omega) (by omega)) dX9_put_47 ?_
          refine lv_topi (fun z_48 ez_48 => ?_)
          have kz_48 := congrArg Int32.toInt ez_48
          refine lv_bipush (v := (-5)) hx hb dX9_put_48 (by decide) ?_
          refine lv_icmp_eq (tgt := 56) hx hb dX9_put_50 (by decide) (fun c_49 => ?_) (fun c_49 => ?_)
          ·
            have ic_49 : z_48.toInt = -5 := (g_eq rfl t_m5).mp c_49
            clear c_49
            refine lv_aload_n hx hb dX9_put_56 rfl (lv_at hl 0 rfl) ?_
            refine va_get (D := D) (ci := 9) (v := .ref (ma 3)) (C := RX9) (T := TX9) (N := 68) hx hb htb iX9 hown hK.1 hP 0 rfl rfl 3 (by decide) (htb _ k_961) (fun _ h9 => h9) rfl dX9_put_57 ?_
            refine lv_iload_n hx hb dX9_put_60 rfl (lv_at hl 1 rfl) ?_
            refine lv_iload_n hx hb dX9_put_61 rfl (lv_at hl 2 rfl) ?_
            refine va_iast hx hb hK.1 hP hD hS 1 0 rfl rfl (g_in rfl (by omega) (by omega)) dX9_put_62 (fun H locs hP hD hS => ?_)
            have hP : va_P D vwCl [(mh, .inr (9, G9 ma mcode mtoday moffs mmany msumW msumA msumR msumWW msumWA msumAA msumWR msumAR mupper mlower mrates mtaped mlaid mat mtk mtkAt mtkNumber mwaits mlisted mdealtMany)), ((ma 3), .inl (E 0, 16, .inl (upd mf3 (p0 : Int32).toNatClampNeg p1))), ((ma 4), .inl (E 0, 16, .inl mf4)), ((ma 5), .inl (E 1, 6400, .inl mf5)), ((ma 8), .inl (E 1, 6400, .inl mf8)), ((ma 9), .inl (E 1, 6400, .inl mf9)), ((ma 10), .inl (E 0, 6400, .inl mf10))] H := hP
            have hD := toW hP hD rfl
            refine lv_aload_n hx hb dX9_put_63 rfl (lv_at hl 0 rfl) ?_
            refine va_get (D := D) (ci := 9) (v := .ref (ma 4)) (C := RX9) (T := TX9) (N := 68) hx hb htb iX9 hown hK.1 hP 0 rfl rfl 4 (by decide) (htb _ k_962) (fun _ h9 => h9) rfl dX9_put_64 ?_
            refine lv_iload_n hx hb dX9_put_67 rfl (lv_at hl 1 rfl) ?_
            refine lv_iload_n hx hb dX9_put_68 rfl (lv_at hl 3 rfl) ?_
            refine va_iast hx hb hK.1 hP hD hS 2 0 rfl rfl (g_in rfl (by omega) (by omega)) dX9_put_69 (fun H locs hP hD hS => ?_)
            have hP : va_P D vwCl [(mh, .inr (9, G9 ma mcode mtoday moffs mmany msumW msumA msumR msumWW msumWA msumAA msumWR msumAR mupper mlower mrates mtaped mlaid mat mtk mtkAt mtkNumber mwaits mlisted mdealtMany)), ((ma 3), .inl (E 0, 16, .inl (upd mf3 (p0 : Int32).toNatClampNeg p1))), ((ma 4), .inl (E 0, 16, .inl (upd mf4 (p0 : Int32).toNatClampNeg p2))), ((ma 5), .inl (E 1, 6400, .inl mf5)), ((ma 8), .inl (E 1, 6400, .inl mf8)), ((ma 9), .inl (E 1, 6400, .inl mf9)), ((ma 10), .inl (E 0, 6400, .inl mf10))] H := hP
            have hD := toW hP hD rfl
            refine lv_iconst (v := 0) hx hb dX9_put_70 (by decide) ?_
            refine lv_istore (lv' := [(4, .int 0), (0, .ref mh), (1, .int p0), (2, .int p1), (3, .int p2)]) hx hb dX9_put_71 hl (by decide) rfl (fun ls hl => ?_)
            have loop_50 : ∀ (N_52 : Nat) (L4_73 : Int32) (mf5_73 : Nat → Int32) (mf8_73 : Nat → Int32) (mf9_73 : Nat → Int32) (mf10_73 : Nat → Int32) (H : Heap) (locs : List Loc) (ls : Array Slot), 400 - L4_73.toInt < (N_52 : Int) → (0 ≤ L4_73.toInt ∧ L4_73.toInt ≤ 400) → (FIL mf5 mf5_73 (400 * p0.toInt) (400 * p0.toInt + L4_73.toInt) 0) → (FIL mf8 mf8_73 (400 * p0.toInt) (400 * p0.toInt + L4_73.toInt) 0) → (FIL mf9 mf9_73 (400 * p0.toInt) (400 * p0.toInt + L4_73.toInt) 0) → (FIL mf10 mf10_73 (400 * p0.toInt) (400 * p0.toInt + L4_73.toInt) (-1)) → va_P D vwCl [(mh, .inr (9, G9 ma mcode mtoday moffs mmany msumW msumA msumR msumWW msumWA msumAA msumWR msumAR mupper mlower mrates mtaped mlaid mat mtk mtkAt mtkNumber mwaits mlisted mdealtMany)), ((ma 3), .inl (E 0, 16, .inl (upd mf3 (p0 : Int32).toNatClampNeg p1))), ((ma 4), .inl (E 0, 16, .inl (upd mf4 (p0 : Int32).toNatClampNeg p2))), ((ma 5), .inl (E 1, 6400, .inl mf5_73)), ((ma 8), .inl (E 1, 6400, .inl mf8_73)), ((ma 9), .inl (E 1, 6400, .inl mf9_73)), ((ma 10), .inl (E 0, 6400, .inl mf10_73))] H → va_D A [(mh, .inr (9, G9 ma mcode mtoday moffs mmany msumW msumA msumR msumWW msumWA msumAA msumWR msumAR mupper mlower mrates mtaped mlaid mat mtk mtkAt mtkNumber mwaits mlisted mdealtMany)), ((ma 3), .inl (E 0, 16, .inl (upd mf3 (p0 : Int32).toNatClampNeg p1))), ((ma 4), .inl (E 0, 16, .inl (upd mf4 (p0 : Int32).toNatClampNeg p2))), ((ma 5), .inl (E 1, 6400, .inl mf5_73)), ((ma 8), .inl (E 1, 6400, .inl mf8_73)), ((ma 9), .inl (E 1, 6400, .inl mf9_73)), ((ma 10), .inl (E 0, 6400, .inl mf10_73))] → va_S A s.heap H locs → lv_has ls 5 [(4, .int L4_73), (0, .ref mh), (1, .int p0), (2, .int p1), (3, .int p2)] → W p l e (headSpec (wl yX9_put cX9_put 5 (some .int)) (RM 2 0 0)).room s m [Value.ref mh, .int p0, .int p1, .int p2].toArray below meth c H locs 0 0 (MQ below (va_Qi (fun (r : Int32) (u : (Nat → Int32) × (Nat → Int32) × (Nat → Int32) × (Nat → Int32) × (Nat → Int32) × (Nat → Int32)) => ((r.toInt = 1 ∧ (0 ≤ p0.toInt ∧ p0.toInt ≤ 15) ∧ ((p1.toInt = 0 ∧ p2.toInt = 0) ∨ (p1.toInt = 1 ∧ -50 ≤ p2.toInt ∧ p2.toInt ≤ 50) ∨ p1.toInt = 2) ∧ (mf3 (p0).toNatClampNeg).toInt = -5 ∧ u.2.1 = upd mf3 (p0).toNatClampNeg p1 ∧ u.2.2.1 = upd mf4 (p0).toNatClampNeg p2 ∧ FIL mf5 u.2.2.2.1 (400 * p0.toInt) (400 * p0.toInt + 400) 0 ∧ FIL mf8 u.2.2.2.2.1 (400 * p0.toInt) (400 * p0.toInt + 400) 0 ∧ FIL mf9 u.2.2.2.2.2 (400 * p0.toInt) (400 * p0.toInt + 400) 0 ∧ FIL mf10 u.1 (400 * p0.toInt) (400 * p0.toInt + 400) (-1)) ∨ (r.toInt = -1 ∧ ¬ ((0 ≤ p0.toInt ∧ p0.toInt ≤ 15) ∧ ((p1.toInt = 0 ∧ p2.toInt = 0) ∨ (p1.toInt = 1 ∧ -50 ≤ p2.toInt ∧ p2.toInt ≤ 50) ∨ p1.toInt = 2)) ∧ u.2.1 = mf3 ∧ u.2.2.1 = mf4 ∧ u.2.2.2.1 = mf5 ∧ u.2.2.2.2.1 = mf8 ∧ u.2.2.2.2.2 = mf9 ∧ u.1 = mf10) ∨ (r.toInt = -4 ∧ (0 ≤ p0.toInt ∧ p0.toInt ≤ 15) ∧ ((p1.toInt = 0 ∧ p2.toInt = 0) ∨ (p1.toInt = 1 ∧ -50 ≤ p2.toInt ∧ p2.toInt ≤ 50) ∨ p1.toInt = 2) ∧ (mf3 (p0).toNatClampNeg).toInt ≠ -5 ∧ u.2.1 = mf3 ∧ u.2.2.1 = mf4 ∧ u.2.2.2.1 = mf5 ∧ u.2.2.2.2.1 = mf8 ∧ u.2.2.2.2.2 = mf9 ∧ u.1 = mf10))) (mu_B D A (fun (u : (Nat → Int32) × (Nat → Int32) × (Nat → Int32) × (Nat → Int32) × (Nat → Int32) × (Nat → Int32)) => [(mh, .inr (9, G9 ma mcode mtoday moffs mmany msumW msumA msumR msumWW msumWA msumAA msumWR msumAR mupper mlower mrates mtaped mlaid mat mtk mtkAt mtkNumber mwaits mlisted mdealtMany)), ((ma 3), .inl (E 0, 16, .inl u.2.1)), ((ma 4), .inl (E 0, 16, .inl u.2.2.1)), ((ma 5), .inl (E 1, 6400, .inl u.2.2.2.1)), ((ma 8), .inl (E 1, 6400, .inl u.2.2.2.2.1)), ((ma 9), .inl (E 1, 6400, .inl u.2.2.2.2.2)), ((ma 10), .inl (E 0, 6400, .inl u.1))])) A) [Value.ref mh, .int p0, .int p1, .int p2].toArray s 0 0 A) (F0 m 73 ls []) := by
              intro N_52
              induction N_52 with
              | zero => intro L4_73 mf5_73 mf8_73 mf9_73 mf10_73 H locs ls hm v0_73 v1_73 v2_73 v3_73 v4_73 _ _ _ _; exfalso; omega
              | succ N_52 ih_51 =>
                intro L4_73 mf5_73 mf8_73 mf9_73 mf10_73 H locs ls hm v0_73 v1_73 v2_73 v3_73 v4_73 hP hD hS hl
                have lo_L4_73 := i_lo L4_73; have hi_L4_73 := i_hi L4_73
                refine lv_iload hx hb dX9_put_73 (lv_at hl 0 rfl) ?_
                refine lv_sipush (v := 400) hx hb dX9_put_75 (by decide) ?_
                refine lv_icmp_ge (tgt := 143) hx hb dX9_put_78 (by decide) (fun c_53 => ?_) (fun c_53 => ?_)
                ·
                  have ic_53 : 400 ≤ L4_73.toInt := by first | exact (g_le t_400 rfl).mp c_53 | (have h := mt (g_lt rfl t_400).mpr c_53; omega)
                  clear c_53
                  refine lv_iconst (v := 1) hx hb dX9_put_143 (by decide) ?_
                  have hP9 := hP.sub (ws' := [(mh, .inr (9, G9 ma mcode mtoday moffs mmany msumW msumA msumR msumWW msumWA msumAA msumWR msumAR mupper mlower mrates mtaped mlaid mat mtk mtkAt mtkNumber mwaits mlisted mdealtMany)), ((ma 3), .inl (E 0, 16, .inl (upd mf3 (p0 : Int32).toNatClampNeg p1))), ((ma 4), .inl (E 0, 16, .inl (upd mf4 (p0 : Int32).toNatClampNeg p2))), ((ma 5), .inl (E 1, 6400, .inl mf5_73)), ((ma 8), .inl (E 1, 6400, .inl mf8_73)), ((ma 9), .inl (E 1, 6400, .inl mf9_73)), ((ma 10), .inl (E 0, 6400, .inl mf10_73))]) [0, 1, 2, 3, 4, 5, 6] rfl
                  have hD9 := hD.sub (ws' := [(mh, .inr (9, G9 ma mcode mtoday moffs mmany msumW msumA msumR msumWW msumWA msumAA msumWR msumAR mupper mlower mrates mtaped mlaid mat mtk mtkAt mtkNumber mwaits mlisted mdealtMany)), ((ma 3), .inl (E 0, 16, .inl (upd mf3 (p0 : Int32).toNatClampNeg p1))), ((ma 4), .inl (E 0, 16, .inl (upd mf4 (p0 : Int32).toNatClampNeg p2))), ((ma 5), .inl (E 1, 6400, .inl mf5_73)), ((ma 8), .inl (E 1, 6400, .inl mf8_73)), ((ma 9), .inl (E 1, 6400, .inl mf9_73)), ((ma 10), .inl (E 0, 6400, .inl mf10_73))]) [0, 1, 2, 3, 4, 5, 6] (by decide) rfl
                  exact W.iret (v := 1) hx hb hr (fun t ht hW => ⟨⟨1, (mf10_73, (upd mf3 (p0 : Int32).toNatClampNeg p1), (upd mf4 (p0 : Int32).toNatClampNeg p2), mf5_73, mf8_73, mf9_73), rfl, (by have hl0 := t_1; (try dsimp only); first | exact Or.inl ⟨by omega, by omega, by omega, by omega, rfl, rfl, FIL_c v1_73 (by omega), FIL_c v2_73 (by omega), FIL_c v3_73 (by omega), FIL_c v4_73 (by omega)⟩), by rw [ht]; exact hP9, hD9⟩, hS.F ht⟩) hS.2.2 dX9_put_144
                ·
                  have ic_53 : L4_73.toInt < 400 := by first | exact (g_lt rfl t_400).mp c_53 | (have h := mt (g_le t_400 rfl).mpr c_53; omega)
                  clear c_53
                  refine lv_aload_n hx hb dX9_put_81 rfl (lv_at hl 1 rfl) ?_
                  refine va_get (D := D) (ci := 9) (v := .ref (ma 5)) (C := RX9) (T := TX9) (N := 68) hx hb htb iX9 hown hK.1 hP 0 rfl rfl 5 (by decide) (htb _ k_963) (fun _ h9 => h9) rfl dX9_put_82 ?_
                  refine lv_sipush (v := 400) hx hb dX9_put_85 (by decide) ?_
                  refine lv_iload_n hx hb dX9_put_88 rfl (lv_at hl 2 rfl) ?_
                  refine lv_imul hx hb dX9_put_89 ?_
                  refine lv_topi (fun z_54 ez_54 => ?_)
                  have jz_54 : z_54.toInt = 400 * p0.toInt := by rw [ez_54]; exact g_mul t_400 rfl (by omega) (by omega)
                  refine lv_iload hx hb dX9_put_90 (lv_at hl 0 rfl) ?_
                  refine lv_iadd hx hb dX9_put_92 ?_
                  refine lv_topi (fun z_55 ez_55 => ?_)
                  have jz_55 : z_55.toInt = z_54.toInt + L4_73.toInt := by rw [ez_55]; exact g_add rfl rfl (by omega) (by omega)
                  refine lv_iconst (v := 0) hx hb dX9_put_93 (by decide) ?_
                  refine va_zast hx hb hK.1 hP hD hS 3 1 rfl rfl (g_in rfl (by omega) (by omega)) dX9_put_94 (fun H locs hP hD hS => ?_)
                  have hP : va_P D vwCl [(mh, .inr (9, G9 ma mcode mtoday moffs mmany msumW msumA msumR msumWW msumWA msumAA msumWR msumAR mupper mlower mrates mtaped mlaid mat mtk mtkAt mtkNumber mwaits mlisted mdealtMany)), ((ma 3), .inl (E 0, 16, .inl (upd mf3 (p0 : Int32).toNatClampNeg p1))), ((ma 4), .inl (E 0, 16, .inl (upd mf4 (p0 : Int32).toNatClampNeg p2))), ((ma 5), .inl (E 1, 6400, .inl (upd mf5_73 (z_55 : Int32).toNatClampNeg (vp_nar .boolean 0)))), ((ma 8), .inl (E 1, 6400, .inl mf8_73)), ((ma 9), .inl (E 1, 6400, .inl mf9_73)), ((ma 10), .inl (E 0, 6400, .inl mf10_73))] H := hP
                  have hD := toW hP hD rfl
                  refine lv_aload_n hx hb dX9_put_95 rfl (lv_at hl 1 rfl) ?_
                  refine va_get (D := D) (ci := 9) (v := .ref (ma 8)) (C := RX9) (T := TX9) (N := 68) hx hb htb iX9 hown hK.1 hP 0 rfl rfl 8 (by decide) (htb _ k_966) (fun _ h9 => h9) rfl dX9_put_96 ?_
                  refine lv_sipush (v := 400) hx hb dX9_put_99 (by decide) ?_
                  refine lv_iload_n hx hb dX9_put_102 rfl (lv_at hl 2 rfl) ?_
                  refine lv_imul hx hb dX9_put_103 ?_
                  refine lv_topi (fun z_56 ez_56 => ?_)
                  have jz_56 : z_56.toInt = 400 * p0.toInt := by rw [ez_56]; exact g_mul t_400 rfl (by omega) (by omega)
                  refine lv_iload hx hb dX9_put_104 (lv_at hl 0 rfl) ?_
                  refine lv_iadd hx hb dX9_put_106 ?_
                  refine lv_topi (fun z_57 ez_57 => ?_)
                  have jz_57 : z_57.toInt = z_56.toInt + L4_73.toInt := by rw [ez_57]; exact g_add rfl rfl (by omega) (by omega)
                  refine lv_iconst (v := 0) hx hb dX9_put_107 (by decide) ?_
                  refine va_zast hx hb hK.1 hP hD hS 4 1 rfl rfl (g_in rfl (by omega) (by omega)) dX9_put_108 (fun H locs hP hD hS => ?_)
                  have hP : va_P D vwCl [(mh, .inr (9, G9 ma mcode mtoday moffs mmany msumW msumA msumR msumWW msumWA msumAA msumWR msumAR mupper mlower mrates mtaped mlaid mat mtk mtkAt mtkNumber mwaits mlisted mdealtMany)), ((ma 3), .inl (E 0, 16, .inl (upd mf3 (p0 : Int32).toNatClampNeg p1))), ((ma 4), .inl (E 0, 16, .inl (upd mf4 (p0 : Int32).toNatClampNeg p2))), ((ma 5), .inl (E 1, 6400, .inl (upd mf5_73 (z_55 : Int32).toNatClampNeg (vp_nar .boolean 0)))), ((ma 8), .inl (E 1, 6400, .inl (upd mf8_73 (z_57 : Int32).toNatClampNeg (vp_nar .boolean 0)))), ((ma 9), .inl (E 1, 6400, .inl mf9_73)), ((ma 10), .inl (E 0, 6400, .inl mf10_73))] H := hP
                  have hD := toW hP hD rfl
                  refine lv_aload_n hx hb dX9_put_109 rfl (lv_at hl 1 rfl) ?_
                  refine va_get (D := D) (ci := 9) (v := .ref (ma 9)) (C := RX9) (T := TX9) (N := 68) hx hb htb iX9 hown hK.1 hP 0 rfl rfl 9 (by decide) (htb _ k_967) (fun _ h9 => h9) rfl dX9_put_110 ?_
                  refine lv_sipush (v := 400) hx hb dX9_put_113 (by decide) ?_
                  refine lv_iload_n hx hb dX9_put_116 rfl (lv_at hl 2 rfl) ?_
                  refine lv_imul hx hb dX9_put_117 ?_
                  refine lv_topi (fun z_58 ez_58 => ?_)
                  have jz_58 : z_58.toInt = 400 * p0.toInt := by rw [ez_58]; exact g_mul t_400 rfl (by omega) (by omega)
                  refine lv_iload hx hb dX9_put_118 (lv_at hl 0 rfl) ?_
                  refine lv_iadd hx hb dX9_put_120 ?_
                  refine lv_topi (fun z_59 ez_59 => ?_)
                  have jz_59 : z_59.toInt = z_58.toInt + L4_73.toInt := by rw [ez_59]; exact g_add rfl rfl (by omega) (by omega)
                  refine lv_iconst (v := 0) hx hb dX9_put_121 (by decide) ?_
                  refine va_zast hx hb hK.1 hP hD hS 5 1 rfl rfl (g_in rfl (by omega) (by omega)) dX9_put_122 (fun H locs hP hD hS => ?_)
                  have hP : va_P D vwCl [(mh, .inr (9, G9 ma mcode mtoday moffs mmany msumW msumA msumR msumWW msumWA msumAA msumWR msumAR mupper mlower mrates mtaped mlaid mat mtk mtkAt mtkNumber mwaits mlisted mdealtMany)), ((ma 3), .inl (E 0, 16, .inl (upd mf3 (p0 : Int32).toNatClampNeg p1))), ((ma 4), .inl (E 0, 16, .inl (upd mf4 (p0 : Int32).toNatClampNeg p2))), ((ma 5), .inl (E 1, 6400, .inl (upd mf5_73 (z_55 : Int32).toNatClampNeg (vp_nar .boolean 0)))), ((ma 8), .inl (E 1, 6400, .inl (upd mf8_73 (z_57 : Int32).toNatClampNeg (vp_nar .boolean 0)))), ((ma 9), .inl (E 1, 6400, .inl (upd mf9_73 (z_59 : Int32).toNatClampNeg (vp_nar .boolean 0)))), ((ma 10), .inl (E 0, 6400, .inl mf10_73))] H := hP
                  have hD := toW hP hD rfl
                  refine lv_aload_n hx hb dX9_put_123 rfl (lv_at hl 1 rfl) ?_
                  refine va_get (D := D) (ci := 9) (v := .ref (ma 10)) (C := RX9) (T := TX9) (N := 68) hx hb htb iX9 hown hK.1 hP 0 rfl rfl 10 (by decide) (htb _ k_968) (fun _ h9 => h9) rfl dX9_put_124 ?_
                  refine lv_sipush (v := 400) hx hb dX9_put_127 (by decide) ?_
                  refine lv_iload_n hx hb dX9_put_130 rfl (lv_at hl 2 rfl) ?_
                  refine lv_imul hx hb dX9_put_131 ?_
                  refine lv_topi (fun z_60 ez_60 => ?_)
                  have jz_60 : z_60.toInt = 400 * p0.toInt := by rw [ez_60]; exact g_mul t_400 rfl (by omega) (by omega)
                  refine lv_iload hx hb dX9_put_132 (lv_at hl 0 rfl) ?_
                  refine lv_iadd hx hb dX9_put_134 ?_
                  refine lv_topi (fun z_61 ez_61 => ?_)
                  have jz_61 : z_61.toInt = z_60.toInt + L4_73.toInt := by rw [ez_61]; exact g_add rfl rfl (by omega) (by omega)
                  refine lv_iconst (v := (-1)) hx hb dX9_put_135 (by decide) ?_
                  refine va_iast hx hb hK.1 hP hD hS 6 0 rfl rfl (g_in rfl (by omega) (by omega)) dX9_put_136 (fun H locs hP hD hS => ?_)
                  have hP : va_P D vwCl [(mh, .inr (9, G9 ma mcode mtoday moffs mmany msumW msumA msumR msumWW msumWA msumAA msumWR msumAR mupper mlower mrates mtaped mlaid mat mtk mtkAt mtkNumber mwaits mlisted mdealtMany)), ((ma 3), .inl (E 0, 16, .inl (upd mf3 (p0 : Int32).toNatClampNeg p1))), ((ma 4), .inl (E 0, 16, .inl (upd mf4 (p0 : Int32).toNatClampNeg p2))), ((ma 5), .inl (E 1, 6400, .inl (upd mf5_73 (z_55 : Int32).toNatClampNeg (vp_nar .boolean 0)))), ((ma 8), .inl (E 1, 6400, .inl (upd mf8_73 (z_57 : Int32).toNatClampNeg (vp_nar .boolean 0)))), ((ma 9), .inl (E 1, 6400, .inl (upd mf9_73 (z_59 : Int32).toNatClampNeg (vp_nar .boolean 0)))), ((ma 10), .inl (E 0, 6400, .inl (upd mf10_73 (z_61 : Int32).toNatClampNeg (-1))))] H := hP
                  have hD := toW hP hD rfl
                  obtain ⟨z_62, ez_62⟩ : ∃ y : Int32, y = L4_73 + 1 := ⟨_, rfl⟩
                  have jz_62 : z_62.toInt = L4_73.toInt + 1 := by rw [ez_62]; exact g_add rfl t_1 (by omega) (by omega)
                  refine lv_iinc (v := z_62) (lv' := [(4, .int z_62), (0, .ref mh), (1, .int p0), (2, .int p1), (3, .int p2)]) hx hb dX9_put_137 hl (k := 0) rfl (by rw [ez_62]; rfl) (by decide) rfl (fun ls hl => ?_)
                  refine lv_goto (tgt := 73) hx hb dX9_put_140 (by decide) ?_
                  exact ih_51 z_62 (upd mf5_73 (z_55 : Int32).toNatClampNeg (vp_nar .boolean 0)) (upd mf8_73 (z_57 : Int32).toNatClampNeg (vp_nar .boolean 0)) (upd mf9_73 (z_59 : Int32).toNatClampNeg (vp_nar .boolean 0)) (upd mf10_73 (z_61 : Int32).toNatClampNeg (-1)) _ _ _ (by (try dsimp only); omega) (by (try dsimp only); omega) (FIL_s v1_73 (i := z_55) (by omega) (by omega) (by omega) (by omega) (by decide)) (FIL_s v2_73 (i := z_57) (by omega) (by omega) (by omega) (by omega) (by decide)) (FIL_s v3_73 (i := z_59) (by omega) (by omega) (by omega) (by omega) (by decide)) (FIL_s v4_73 (i := z_61) (by omega) (by omega) (by omega) (by omega) (by decide)) hP hD hS (lv_sub hl [0, 1, 2, 3, 4] rfl)
            exact loop_50 401 0 mf5 mf8 mf9 mf10 _ _ _ (by have h0 := t_0; (try dsimp only); omega) (by have h0 := t_0; (try dsimp only); omega) (FIL_0 (by have h0 := t_0; omega)) (FIL_0 (by have h0 := t_0; omega)) (FIL_0 (by have h0 := t_0; omega)) (FIL_0 (by have h0 := t_0; omega)) hP hD hS (lv_sub hl [0, 1, 2, 3, 4] rfl)
          ·
            have ic_49 : z_48.toInt ≠ -5 := mt (g_eq rfl t_m5).mpr c_49
            clear c_49
            refine lv_bipush (v := (-4)) hx hb dX9_put_53 (by decide) ?_
            have hP9 := hP.sub (ws' := [(mh, .inr (9, G9 ma mcode mtoday moffs mmany msumW msumA msumR msumWW msumWA msumAA msumWR msumAR mupper mlower mrates mtaped mlaid mat mtk mtkAt mtkNumber mwaits mlisted mdealtMany)), ((ma 3), .inl (E 0, 16, .inl mf3)), ((ma 4), .inl (E 0, 16, .inl mf4)), ((ma 5), .inl (E 1, 6400, .inl mf5)), ((ma 8), .inl (E 1, 6400, .inl mf8)), ((ma 9), .inl (E 1, 6400, .inl mf9)), ((ma 10), .inl (E 0, 6400, .inl mf10))]) [0, 1, 2, 3, 4, 5, 6] rfl
            have hD9 := hD.sub (ws' := [(mh, .inr (9, G9 ma mcode mtoday moffs mmany msumW msumA msumR msumWW msumWA msumAA msumWR msumAR mupper mlower mrates mtaped mlaid mat mtk mtkAt mtkNumber mwaits mlisted mdealtMany)), ((ma 3), .inl (E 0, 16, .inl mf3)), ((ma 4), .inl (E 0, 16, .inl mf4)), ((ma 5), .inl (E 1, 6400, .inl mf5)), ((ma 8), .inl (E 1, 6400, .inl mf8)), ((ma 9), .inl (E 1, 6400, .inl mf9)), ((ma 10), .inl (E 0, 6400, .inl mf10))]) [0, 1, 2, 3, 4, 5, 6] (by decide) rfl
            exact W.iret (v := (-4)) hx hb hr (fun t ht hW => ⟨⟨(-4), (mf10, mf3, mf4, mf5, mf8, mf9), rfl, (by have hl0 := t_m4; (try dsimp only); first | exact Or.inr (Or.inr ⟨by omega, by omega, by omega, by omega, rfl, rfl, rfl, rfl, rfl, rfl⟩)), by rw [ht]; exact hP9, hD9⟩, hS.F ht⟩) hS.2.2 dX9_put_55
    ·
      try simp only [t_0, t_2] at hw_6
      refine W_top (y := .int 0) (by rw [hr_5]) ?_
      refine lv_if_eq (tgt := 40) hx hb dX9_put_13 (by decide) (fun c_63 => ?_) (fun c_63 => absurd (by decide) c_63)
      refine lv_iconst (v := (-1)) hx hb dX9_put_40 (by decide) ?_
      have hP9 := hP.sub (ws' := [(mh, .inr (9, G9 ma mcode mtoday moffs mmany msumW msumA msumR msumWW msumWA msumAA msumWR msumAR mupper mlower mrates mtaped mlaid mat mtk mtkAt mtkNumber mwaits mlisted mdealtMany)), ((ma 3), .inl (E 0, 16, .inl mf3)), ((ma 4), .inl (E 0, 16, .inl mf4)), ((ma 5), .inl (E 1, 6400, .inl mf5)), ((ma 8), .inl (E 1, 6400, .inl mf8)), ((ma 9), .inl (E 1, 6400, .inl mf9)), ((ma 10), .inl (E 0, 6400, .inl mf10))]) [0, 1, 2, 3, 4, 5, 6] rfl
      have hD9 := hD.sub (ws' := [(mh, .inr (9, G9 ma mcode mtoday moffs mmany msumW msumA msumR msumWW msumWA msumAA msumWR msumAR mupper mlower mrates mtaped mlaid mat mtk mtkAt mtkNumber mwaits mlisted mdealtMany)), ((ma 3), .inl (E 0, 16, .inl mf3)), ((ma 4), .inl (E 0, 16, .inl mf4)), ((ma 5), .inl (E 1, 6400, .inl mf5)), ((ma 8), .inl (E 1, 6400, .inl mf8)), ((ma 9), .inl (E 1, 6400, .inl mf9)), ((ma 10), .inl (E 0, 6400, .inl mf10))]) [0, 1, 2, 3, 4, 5, 6] (by decide) rfl
      exact W.iret (v := (-1)) hx hb hr (fun t ht hW => ⟨⟨(-1), (mf10, mf3, mf4, mf5, mf8, mf9), rfl, (by have hl0 := t_m1; (try dsimp only); first | exact Or.inr (Or.inl ⟨by omega, by omega, rfl, rfl, rfl, rfl, rfl, rfl⟩)), by rw [ht]; exact hP9, hD9⟩, hS.F ht⟩) hS.2.2 dX9_put_41
  ·
    refine W_top (y := .int 0) (by rw [hr_1]) ?_
    refine lv_if_eq (tgt := 40) hx hb dX9_put_4 (by decide) (fun c_64 => ?_) (fun c_64 => absurd (by decide) c_64)
    refine lv_iconst (v := (-1)) hx hb dX9_put_40 (by decide) ?_
    have hP9 := hP.sub (ws' := [(mh, .inr (9, G9 ma mcode mtoday moffs mmany msumW msumA msumR msumWW msumWA msumAA msumWR msumAR mupper mlower mrates mtaped mlaid mat mtk mtkAt mtkNumber mwaits mlisted mdealtMany)), ((ma 3), .inl (E 0, 16, .inl mf3)), ((ma 4), .inl (E 0, 16, .inl mf4)), ((ma 5), .inl (E 1, 6400, .inl mf5)), ((ma 8), .inl (E 1, 6400, .inl mf8)), ((ma 9), .inl (E 1, 6400, .inl mf9)), ((ma 10), .inl (E 0, 6400, .inl mf10))]) [0, 1, 2, 3, 4, 5, 6] rfl
    have hD9 := hD.sub (ws' := [(mh, .inr (9, G9 ma mcode mtoday moffs mmany msumW msumA msumR msumWW msumWA msumAA msumWR msumAR mupper mlower mrates mtaped mlaid mat mtk mtkAt mtkNumber mwaits mlisted mdealtMany)), ((ma 3), .inl (E 0, 16, .inl mf3)), ((ma 4), .inl (E 0, 16, .inl mf4)), ((ma 5), .inl (E 1, 6400, .inl mf5)), ((ma 8), .inl (E 1, 6400, .inl mf8)), ((ma 9), .inl (E 1, 6400, .inl mf9)), ((ma 10), .inl (E 0, 6400, .inl mf10))]) [0, 1, 2, 3, 4, 5, 6] (by decide) rfl
    exact W.iret (v := (-1)) hx hb hr (fun t ht hW => ⟨⟨(-1), (mf10, mf3, mf4, mf5, mf8, mf9), rfl, (by have hl0 := t_m1; (try dsimp only); first | exact Or.inr (Or.inl ⟨by omega, by omega, rfl, rfl, rfl, rfl, rfl, rfl⟩)), by rw [ht]; exact hP9, hD9⟩, hS.F ht⟩) hS.2.2 dX9_put_41
set_option maxHeartbeats 4000000 in
set_option maxRecDepth 100000 in
theorem g_X9_take (l : Launch) (D : va_G) (E : Nat → Nat) (mh : Nat) (ma : Nat → Nat) (mcode : Int32) (mtoday : Int32) (moffs : Int32) (mmany : Int64) (msumW : Int64) (msumA : Int64) (msumR : Int64) (msumWW : Int64) (msumWA : Int64) (msumAA : Int64) (msumWR : Int64) (msumAR : Int64) (mupper : Int64) (mlower : Int64) (mrates : Int32) (mtaped : Int32) (mlaid : Int32) (mat : Int32) (mtk : Int32) (mtkAt : Int32) (mtkNumber : Int32) (mwaits : Int32) (mlisted : Int32) (mdealtMany : Int32) (mf3 : Nat → Int32) (mf10 : Nat → Int32) (p0 : Int32) (sz : Nat) (hi_m : (0 ≤ mtoday.toInt ∧ mtoday.toInt ≤ 399) ∧ (0 ≤ moffs.toInt ∧ moffs.toInt ≤ 60) ∧ (0 ≤ mrates.toInt ∧ mrates.toInt ≤ 60) ∧ (0 ≤ mtaped.toInt ∧ mtaped.toInt ≤ 120) ∧ (0 ≤ mlisted.toInt ∧ mlisted.toInt ≤ 9) ∧ (0 ≤ mdealtMany.toInt ∧ mdealtMany.toInt ≤ 9)) : Met l yX9_take (wl yX9_take cX9_take 2 (some .int)) (RM 2 0 0) (mu_P D E [.ref mh, .int p0] [(mh, .inr (9, G9 ma mcode mtoday moffs mmany msumW msumA msumR msumWW msumWA msumAA msumWR msumAR mupper mlower mrates mtaped mlaid mat mtk mtkAt mtkNumber mwaits mlisted mdealtMany)), ((ma 3), .inl (E 0, 16, .inl mf3)), ((ma 10), .inl (E 0, 6400, .inl mf10))] sz) (va_Qi (fun (r : Int32) (u : (Nat → Int32)) => ((r.toInt = 1 ∧ (0 ≤ p0.toInt ∧ p0.toInt ≤ 15) ∧ (mf3 (p0).toNatClampNeg).toInt ≠ -5 ∧ ¬ (((mf3 (p0).toNatClampNeg).toInt = 0 ∨ (mf3 (p0).toNatClampNeg).toInt = 1) ∧ (mf10 (400 * p0 + mtoday).toNatClampNeg).toInt ≠ -1) ∧ u = upd mf3 (p0).toNatClampNeg (-5)) ∨ (r.toInt = -1 ∧ ¬ (0 ≤ p0.toInt ∧ p0.toInt ≤ 15) ∧ u = mf3) ∨ (r.toInt = -2 ∧ (0 ≤ p0.toInt ∧ p0.toInt ≤ 15) ∧ (mf3 (p0).toNatClampNeg).toInt = -5 ∧ u = mf3) ∨ (r.toInt = -4 ∧ (0 ≤ p0.toInt ∧ p0.toInt ≤ 15) ∧ (((mf3 (p0).toNatClampNeg).toInt = 0 ∨ (mf3 (p0).toNatClampNeg).toInt = 1) ∧ (mf10 (400 * p0 + mtoday).toNatClampNeg).toInt ≠ -1) ∧ u = mf3))) (mu_B D (va_A [(mh, .inr (9, G9 ma mcode mtoday moffs mmany msumW msumA msumR msumWW msumWA msumAA msumWR msumAR mupper mlower mrates mtaped mlaid mat mtk mtkAt mtkNumber mwaits mlisted mdealtMany)), ((ma 3), .inl (E 0, 16, .inl mf3)), ((ma 10), .inl (E 0, 6400, .inl mf10))] sz) (fun (u : (Nat → Int32)) => [(mh, .inr (9, G9 ma mcode mtoday moffs mmany msumW msumA msumR msumWW msumWA msumAA msumWR msumAR mupper mlower mrates mtaped mlaid mat mtk mtkAt mtkNumber mwaits mlisted mdealtMany)), ((ma 3), .inl (E 0, 16, .inl u)), ((ma 10), .inl (E 0, 6400, .inl mf10))])) (va_A [(mh, .inr (9, G9 ma mcode mtoday moffs mmany msumW msumA msumR msumWW msumWA msumAA msumWR msumAR mupper mlower mrates mtaped mlaid mat mtk mtkAt mtkNumber mwaits mlisted mdealtMany)), ((ma 3), .inl (E 0, 16, .inl mf3)), ((ma 10), .inl (E 0, 6400, .inl mf10))] sz)) 0 0 (va_A [(mh, .inr (9, G9 ma mcode mtoday moffs mmany msumW msumA msumR msumWW msumWA msumAA msumWR msumAR mupper mlower mrates mtaped mlaid mat mtk mtkAt mtkNumber mwaits mlisted mdealtMany)), ((ma 3), .inl (E 0, 16, .inl mf3)), ((ma 10), .inl (E 0, 6400, .inl mf10))] sz) := by
  refine Met.ofW (cc := cX9_take) (maxL := 2) (ret := (some .int)) (by decide) rfl ?_
  intro p e s m args below meth c s₁ B hml hv
  obtain ⟨rfl, hsz, hP, hK, hD0⟩ := hv
  have hx := B.exec; have hb := B.bytes; have hr := B.returns
  have hts := atoms_spec (ws := wl yX9_take cX9_take 2 (some .int)) B.pre
  have htb : ∀ w ∈ tb, w.before _ s = true := fun w h => hts w (List.mem_cons_of_mem _ h)
  have hown : s.vm.findClass RX9 = some m.cls := findClass_of_methodNamed B.named
  have hlocks := B.notSynchronized
  subst hsz
  have hD := hD0.self (sz := s.heap.size)
  generalize hAe : va_A [(mh, .inr (9, G9 ma mcode mtoday moffs mmany msumW msumA msumR msumWW msumWA msumAA msumWR msumAR mupper mlower mrates mtaped mlaid mat mtk mtkAt mtkNumber mwaits mlisted mdealtMany)), ((ma 3), .inl (E 0, 16, .inl mf3)), ((ma 10), .inl (E 0, 6400, .inl mf10))] s.heap.size = A at hD ⊢
  have hA : ∀ q : Nat, s.heap.size ≤ q → A q := fun q h => by rw [← hAe]; exact Or.inr h
  have hS : va_S A s.heap s.heap [] := va_S.rf
  have hP : va_P D vwCl [(mh, .inr (9, G9 ma mcode mtoday moffs mmany msumW msumA msumR msumWW msumWA msumAA msumWR msumAR mupper mlower mrates mtaped mlaid mat mtk mtkAt mtkNumber mwaits mlisted mdealtMany)), ((ma 3), .inl (E 0, 16, .inl mf3)), ((ma 10), .inl (E 0, 6400, .inl mf10))] s.heap := hP
  have hl := lv_entry ([.ref mh, .int p0]) (n := 2) (Nat.le_of_ble_eq_true rfl)
  rw [lg_entry_eq]
  generalize (lg_sl ([.ref mh, .int p0]) ++ List.replicate (2 - (lg_sl ([.ref mh, .int p0])).length) Slot.unset).toArray = ls at hl ⊢
  have hl : lv_has ls 2 [(0, .ref mh), (1, .int p0)] := hl
  have lo_p0 := i_lo p0; have hi_p0 := i_hi p0
  refine lv_iload_n hx hb dX9_take_0 rfl (lv_at hl 1 rfl) ?_
  refine callRS (rest := []) (As := [.int p0]) hx hb hml hown htb hK (g_X9_isPlace l D E p0 ) ok_X9_isPlace k_1182 k_1183 k_9 k_1184 ⟨(Nat.le_of_ble_eq_true rfl), (Nat.le_of_ble_eq_true rfl)⟩ ⟨(Nat.le_of_ble_eq_true rfl), (Nat.le_of_ble_eq_true rfl)⟩ hl.1 (Nat.le_of_ble_eq_true rfl) rfl rfl dX9_take_1 (hP.sub (ws' := ([] : va_W)) [] rfl) (fun r_1 hw_2 => ?_)
  rcases hw_2 with ⟨hr_1, hw_2⟩ | ⟨hr_1, hw_2⟩
  ·
    refine W_top (y := .int 1) (by rw [hr_1]) ?_
    refine lv_if_ne (tgt := 9) hx hb dX9_take_4 (by decide) (fun c_4 => ?_) (fun c_4 => absurd c_4 (by decide))
    refine lv_aload_n hx hb dX9_take_9 rfl (lv_at hl 0 rfl) ?_
    refine va_get (D := D) (ci := 9) (v := .ref (ma 3)) (C := RX9) (T := TX9) (N := 68) hx hb htb iX9 hown hK.1 hP 0 rfl rfl 3 (by decide) (htb _ k_961) (fun _ h9 => h9) rfl dX9_take_10 ?_
    refine lv_iload_n hx hb dX9_take_13 rfl (lv_at hl 1 rfl) ?_
    refine va_iald hx hb hK.1 hP 1 0 rfl rfl (g_in rfl (by omega) (by omega)) dX9_take_14 ?_
    refine lv_topi (fun z_5 ez_5 => ?_)
    have kz_5 := congrArg Int32.toInt ez_5
    refine lv_bipush (v := (-5)) hx hb dX9_take_15 (by decide) ?_
    refine lv_icmp_ne (tgt := 23) hx hb dX9_take_17 (by decide) (fun c_6 => ?_) (fun c_6 => ?_)
    ·
      have ic_6 : z_5.toInt ≠ -5 := mt (g_eq rfl t_m5).mpr c_6
      clear c_6
      refine lv_aload_n hx hb dX9_take_23 rfl (lv_at hl 0 rfl) ?_
      refine lv_iload_n hx hb dX9_take_24 rfl (lv_at hl 1 rfl) ?_
      refine callRV (rest := []) (As := [.int p0]) hx hb hml hown htb hK (g_X9_isWatch l D E mh ma mcode mtoday moffs mmany msumW msumA msumR msumWW msumWA msumAA msumWR msumAR mupper mlower mrates mtaped mlaid mat mtk mtkAt mtkNumber mwaits mlisted mdealtMany mf3 p0 (by (try dsimp only); omega) (by (try dsimp only); omega)) ok_X9_isWatch k_1189 k_1191 ks_39 k_9 k_1192 ⟨(Nat.le_of_ble_eq_true rfl), (Nat.le_of_ble_eq_true rfl)⟩ ⟨(Nat.le_of_ble_eq_true rfl), (Nat.le_of_ble_eq_true rfl)⟩ hl.1 (Nat.le_of_ble_eq_true rfl) rfl rfl dX9_take_25 (hP.sub (ws' := [(mh, .inr (9, G9 ma mcode mtoday moffs mmany msumW msumA msumR msumWW msumWA msumAA msumWR msumAR mupper mlower mrates mtaped mlaid mat mtk mtkAt mtkNumber mwaits mlisted mdealtMany)), ((ma 3), .inl (E 0, 16, .inl mf3))]) [0, 1] rfl) rfl rfl 0 rfl (fun r_7 hw_8 => ?_)
      refine lv_if_eq (tgt := 43) hx hb dX9_take_28 (by decide) (fun c_10 => ?_) (fun c_10 => ?_)
      ·
        have ic_10 : r_7.toInt = 0 := (g_eq rfl t_0).mp c_10
        clear c_10
        refine lv_aload_n hx hb dX9_take_43 rfl (lv_at hl 0 rfl) ?_
        refine va_get (D := D) (ci := 9) (v := .ref (ma 3)) (C := RX9) (T := TX9) (N := 68) hx hb htb iX9 hown hK.1 hP 0 rfl rfl 3 (by decide) (htb _ k_961) (fun _ h9 => h9) rfl dX9_take_44 ?_
        refine lv_iload_n hx hb dX9_take_47 rfl (lv_at hl 1 rfl) ?_
        refine lv_bipush (v := (-5)) hx hb dX9_take_48 (by decide) ?_
        refine va_iast hx hb hK.1 hP hD hS 1 0 rfl rfl (g_in rfl (by omega) (by omega)) dX9_take_50 (fun H locs hP hD hS => ?_)
        have hP : va_P D vwCl [(mh, .inr (9, G9 ma mcode mtoday moffs mmany msumW msumA msumR msumWW msumWA msumAA msumWR msumAR mupper mlower mrates mtaped mlaid mat mtk mtkAt mtkNumber mwaits mlisted mdealtMany)), ((ma 3), .inl (E 0, 16, .inl (upd mf3 (p0 : Int32).toNatClampNeg (-5)))), ((ma 10), .inl (E 0, 6400, .inl mf10))] H := hP
        have hD := toW hP hD rfl
        refine lv_iconst (v := 1) hx hb dX9_take_51 (by decide) ?_
        have hP9 := hP.sub (ws' := [(mh, .inr (9, G9 ma mcode mtoday moffs mmany msumW msumA msumR msumWW msumWA msumAA msumWR msumAR mupper mlower mrates mtaped mlaid mat mtk mtkAt mtkNumber mwaits mlisted mdealtMany)), ((ma 3), .inl (E 0, 16, .inl (upd mf3 (p0 : Int32).toNatClampNeg (-5)))), ((ma 10), .inl (E 0, 6400, .inl mf10))]) [0, 1, 2] rfl
        have hD9 := hD.sub (ws' := [(mh, .inr (9, G9 ma mcode mtoday moffs mmany msumW msumA msumR msumWW msumWA msumAA msumWR msumAR mupper mlower mrates mtaped mlaid mat mtk mtkAt mtkNumber mwaits mlisted mdealtMany)), ((ma 3), .inl (E 0, 16, .inl (upd mf3 (p0 : Int32).toNatClampNeg (-5)))), ((ma 10), .inl (E 0, 6400, .inl mf10))]) [0, 1, 2] (by decide) rfl
        exact W.iret (v := 1) hx hb hr (fun t ht hW => ⟨⟨1, (upd mf3 (p0 : Int32).toNatClampNeg (-5)), rfl, (by have hl0 := t_1; (try dsimp only); first | exact Or.inl ⟨by omega, by omega, by omega, by subst_vars; omega, rfl⟩), by rw [ht]; exact hP9, hD9⟩, hS.F ht⟩) hS.2.2 dX9_take_52
      ·
        have ic_10 : r_7.toInt ≠ 0 := mt (g_eq rfl t_0).mpr c_10
        clear c_10
        refine lv_aload_n hx hb dX9_take_31 rfl (lv_at hl 0 rfl) ?_
        refine lv_iload_n hx hb dX9_take_32 rfl (lv_at hl 1 rfl) ?_
        refine callRV (rest := []) (As := [.int p0]) hx hb hml hown htb hK (g_X9_holderNow l D E mh ma mcode mtoday moffs mmany msumW msumA msumR msumWW msumWA msumAA msumWR msumAR mupper mlower mrates mtaped mlaid mat mtk mtkAt mtkNumber mwaits mlisted mdealtMany mf10 p0 (by (try dsimp only); omega) (by (try dsimp only); omega)) ok_X9_holderNow k_1193 k_1195 ks_40 k_9 k_1196 ⟨(Nat.le_of_ble_eq_true rfl), (Nat.le_of_ble_eq_true rfl)⟩ ⟨(Nat.le_of_ble_eq_true rfl), (Nat.le_of_ble_eq_true rfl)⟩ hl.1 (Nat.le_of_ble_eq_true rfl) rfl rfl dX9_take_33 (hP.sub (ws' := [(mh, .inr (9, G9 ma mcode mtoday moffs mmany msumW msumA msumR msumWW msumWA msumAA msumWR msumAR mupper mlower mrates mtaped mlaid mat mtk mtkAt mtkNumber mwaits mlisted mdealtMany)), ((ma 10), .inl (E 0, 6400, .inl mf10))]) [0, 2] rfl) rfl rfl 0 rfl (fun r_11 hw_12 => ?_)
        refine lv_iconst (v := (-1)) hx hb dX9_take_36 (by decide) ?_
        refine lv_icmp_eq (tgt := 43) hx hb dX9_take_37 (by decide) (fun c_14 => ?_) (fun c_14 => ?_)
        ·
          have ic_14 : r_11.toInt = -1 := (g_eq rfl t_m1).mp c_14
          clear c_14
          refine lv_aload_n hx hb dX9_take_43 rfl (lv_at hl 0 rfl) ?_
          refine va_get (D := D) (ci := 9) (v := .ref (ma 3)) (C := RX9) (T := TX9) (N := 68) hx hb htb iX9 hown hK.1 hP 0 rfl rfl 3 (by decide) (htb _ k_961) (fun _ h9 => h9) rfl dX9_take_44 ?_
          refine lv_iload_n hx hb dX9_take_47 rfl (lv_at hl 1 rfl) ?_
          refine lv_bipush (v := (-5)) hx hb dX9_take_48 (by decide) ?_
          refine va_iast hx hb hK.1 hP hD hS 1 0 rfl rfl (g_in rfl (by omega) (by omega)) dX9_take_50 (fun H locs hP hD hS => ?_)
          have hP : va_P D vwCl [(mh, .inr (9, G9 ma mcode mtoday moffs mmany msumW msumA msumR msumWW msumWA msumAA msumWR msumAR mupper mlower mrates mtaped mlaid mat mtk mtkAt mtkNumber mwaits mlisted mdealtMany)), ((ma 3), .inl (E 0, 16, .inl (upd mf3 (p0 : Int32).toNatClampNeg (-5)))), ((ma 10), .inl (E 0, 6400, .inl mf10))] H := hP
          have hD := toW hP hD rfl
          refine lv_iconst (v := 1) hx hb dX9_take_51 (by decide) ?_
          have hP9 := hP.sub (ws' := [(mh, .inr (9, G9 ma mcode mtoday moffs mmany msumW msumA msumR msumWW msumWA msumAA msumWR msumAR mupper mlower mrates mtaped mlaid mat mtk mtkAt mtkNumber mwaits mlisted mdealtMany)), ((ma 3), .inl (E 0, 16, .inl (upd mf3 (p0 : Int32).toNatClampNeg (-5)))), ((ma 10), .inl (E 0, 6400, .inl mf10))]) [0, 1, 2] rfl
          have hD9 := hD.sub (ws' := [(mh, .inr (9, G9 ma mcode mtoday moffs mmany msumW msumA msumR msumWW msumWA msumAA msumWR msumAR mupper mlower mrates mtaped mlaid mat mtk mtkAt mtkNumber mwaits mlisted mdealtMany)), ((ma 3), .inl (E 0, 16, .inl (upd mf3 (p0 : Int32).toNatClampNeg (-5)))), ((ma 10), .inl (E 0, 6400, .inl mf10))]) [0, 1, 2] (by decide) rfl
          exact W.iret (v := 1) hx hb hr (fun t ht hW => ⟨⟨1, (upd mf3 (p0 : Int32).toNatClampNeg (-5)), rfl, (by have hl0 := t_1; (try dsimp only); first | exact Or.inl ⟨by omega, by omega, by omega, by subst_vars; omega, rfl⟩), by rw [ht]; exact hP9, hD9⟩, hS.F ht⟩) hS.2.2 dX9_take_52
        ·
          have ic_14 : r_11.toInt ≠ -1 := mt (g_eq rfl t_m1).mpr c_14
          clear c_14
          refine lv_bipush (v := (-4)) hx hb dX9_take_40 (by decide) ?_
          have hP9 := hP.sub (ws' := [(mh, .inr (9, G9 ma mcode mtoday moffs mmany msumW msumA msumR msumWW msumWA msumAA msumWR msumAR mupper mlower mrates mtaped mlaid mat mtk mtkAt mtkNumber mwaits mlisted mdealtMany)), ((ma 3), .inl (E 0, 16, .inl mf3)), ((ma 10), .inl (E 0, 6400, .inl mf10))]) [0, 1, 2] rfl
          have hD9 := hD.sub (ws' := [(mh, .inr (9, G9 ma mcode mtoday moffs mmany msumW msumA msumR msumWW msumWA msumAA msumWR msumAR mupper mlower mrates mtaped mlaid mat mtk mtkAt mtkNumber mwaits mlisted mdealtMany)), ((ma 3), .inl (E 0, 16, .inl mf3)), ((ma 10), .inl (E 0, 6400, .inl mf10))]) [0, 1, 2] (by decide) rfl
          exact W.iret (v := (-4)) hx hb hr (fun t ht hW => ⟨⟨(-4), mf3, rfl, (by have hl0 := t_m4; (try dsimp only); first | exact Or.inr (Or.inr (Or.inr ⟨by omega, by omega, by subst_vars; omega, rfl⟩))), by rw [ht]; exact hP9, hD9⟩, hS.F ht⟩) hS.2.2 dX9_take_42
    ·
      have ic_6 : z_5.toInt = -5 := (g_eq rfl t_m5).mp c_6
      clear c_6
      refine lv_bipush (v := (-2)) hx hb dX9_take_20 (by decide) ?_
      have hP9 := hP.sub (ws' := [(mh, .inr (9, G9 ma mcode mtoday moffs mmany msumW msumA msumR msumWW msumWA msumAA msumWR msumAR mupper mlower mrates mtaped mlaid mat mtk mtkAt mtkNumber mwaits mlisted mdealtMany)), ((ma 3), .inl (E 0, 16, .inl mf3)), ((ma 10), .inl (E 0, 6400, .inl mf10))]) [0, 1, 2] rfl
      have hD9 := hD.sub (ws' := [(mh, .inr (9, G9 ma mcode mtoday moffs mmany msumW msumA msumR msumWW msumWA msumAA msumWR msumAR mupper mlower mrates mtaped mlaid mat mtk mtkAt mtkNumber mwaits mlisted mdealtMany)), ((ma 3), .inl (E 0, 16, .inl mf3)), ((ma 10), .inl (E 0, 6400, .inl mf10))]) [0, 1, 2] (by decide) rfl
      exact W.iret (v := (-2)) hx hb hr (fun t ht hW => ⟨⟨(-2), mf3, rfl, (by have hl0 := t_m2; (try dsimp only); first | exact Or.inr (Or.inr (Or.inl ⟨by omega, by omega, by omega, rfl⟩))), by rw [ht]; exact hP9, hD9⟩, hS.F ht⟩) hS.2.2 dX9_take_22
  ·
    refine W_top (y := .int 0) (by rw [hr_1]) ?_
    refine lv_if_ne (tgt := 9) hx hb dX9_take_4 (by decide) (fun c_15 => absurd (by decide) c_15) (fun c_15 => ?_)
    refine lv_iconst (v := (-1)) hx hb dX9_take_7 (by decide) ?_
    have hP9 := hP.sub (ws' := [(mh, .inr (9, G9 ma mcode mtoday moffs mmany msumW msumA msumR msumWW msumWA msumAA msumWR msumAR mupper mlower mrates mtaped mlaid mat mtk mtkAt mtkNumber mwaits mlisted mdealtMany)), ((ma 3), .inl (E 0, 16, .inl mf3)), ((ma 10), .inl (E 0, 6400, .inl mf10))]) [0, 1, 2] rfl
    have hD9 := hD.sub (ws' := [(mh, .inr (9, G9 ma mcode mtoday moffs mmany msumW msumA msumR msumWW msumWA msumAA msumWR msumAR mupper mlower mrates mtaped mlaid mat mtk mtkAt mtkNumber mwaits mlisted mdealtMany)), ((ma 3), .inl (E 0, 16, .inl mf3)), ((ma 10), .inl (E 0, 6400, .inl mf10))]) [0, 1, 2] (by decide) rfl
    exact W.iret (v := (-1)) hx hb hr (fun t ht hW => ⟨⟨(-1), mf3, rfl, (by have hl0 := t_m1; (try dsimp only); first | exact Or.inr (Or.inl ⟨by omega, by omega, rfl⟩)), by rw [ht]; exact hP9, hD9⟩, hS.F ht⟩) hS.2.2 dX9_take_8
set_option maxHeartbeats 4000000 in
set_option maxRecDepth 100000 in
theorem g_X9_holds (l : Launch) (D : va_G) (E : Nat → Nat) (mh : Nat) (ma : Nat → Nat) (mcode : Int32) (mtoday : Int32) (moffs : Int32) (mmany : Int64) (msumW : Int64) (msumA : Int64) (msumR : Int64) (msumWW : Int64) (msumWA : Int64) (msumAA : Int64) (msumWR : Int64) (msumAR : Int64) (mupper : Int64) (mlower : Int64) (mrates : Int32) (mtaped : Int32) (mlaid : Int32) (mat : Int32) (mtk : Int32) (mtkAt : Int32) (mtkNumber : Int32) (mwaits : Int32) (mlisted : Int32) (mdealtMany : Int32) (mf3 : Nat → Int32) (p0 : Int32) (hi_m : (0 ≤ mtoday.toInt ∧ mtoday.toInt ≤ 399) ∧ (0 ≤ moffs.toInt ∧ moffs.toInt ≤ 60) ∧ (0 ≤ mrates.toInt ∧ mrates.toInt ≤ 60) ∧ (0 ≤ mtaped.toInt ∧ mtaped.toInt ≤ 120) ∧ (0 ≤ mlisted.toInt ∧ mlisted.toInt ≤ 9) ∧ (0 ≤ mdealtMany.toInt ∧ mdealtMany.toInt ≤ 9)) : Met l yX9_holds (wl yX9_holds cX9_holds 2 (some .int)) (RM 2 0 0) (rd_P D E [.ref mh, .int p0] [(mh, .inr (9, G9 ma mcode mtoday moffs mmany msumW msumA msumR msumWW msumWA msumAA msumWR msumAR mupper mlower mrates mtaped mlaid mat mtk mtkAt mtkNumber mwaits mlisted mdealtMany)), ((ma 3), .inl (E 0, 16, .inl mf3))]) (rd_Q (fun r => (((0 ≤ p0.toInt ∧ p0.toInt ≤ 15) ∧ r = mf3 (p0).toNatClampNeg) ∨ (¬ (0 ≤ p0.toInt ∧ p0.toInt ≤ 15) ∧ r.toInt = -1)))) 0 0 (fun _ => False) := by
  refine Met.ofW (cc := cX9_holds) (maxL := 2) (ret := (some .int)) (by decide) rfl ?_
  intro p e s m args below meth c s₁ B hml hv
  obtain ⟨rfl, hP, hK⟩ := hv
  have hx := B.exec; have hb := B.bytes; have hr := B.returns
  have hts := atoms_spec (ws := wl yX9_holds cX9_holds 2 (some .int)) B.pre
  have htb : ∀ w ∈ tb, w.before _ s = true := fun w h => hts w (List.mem_cons_of_mem _ h)
  have hown : s.vm.findClass RX9 = some m.cls := findClass_of_methodNamed B.named
  have hlocks := B.notSynchronized
  have hP : va_P D vwCl [(mh, .inr (9, G9 ma mcode mtoday moffs mmany msumW msumA msumR msumWW msumWA msumAA msumWR msumAR mupper mlower mrates mtaped mlaid mat mtk mtkAt mtkNumber mwaits mlisted mdealtMany)), ((ma 3), .inl (E 0, 16, .inl mf3))] s.heap := hP
  have hl := lv_entry ([.ref mh, .int p0]) (n := 2) (Nat.le_of_ble_eq_true rfl)
  rw [lg_entry_eq]
  generalize (lg_sl ([.ref mh, .int p0]) ++ List.replicate (2 - (lg_sl ([.ref mh, .int p0])).length) Slot.unset).toArray = ls at hl ⊢
  have hl : lv_has ls 2 [(0, .ref mh), (1, .int p0)] := hl
  have lo_p0 := i_lo p0; have hi_p0 := i_hi p0
  refine lv_iload_n hx hb dX9_holds_0 rfl (lv_at hl 1 rfl) ?_
  refine callRS (rest := []) (As := [.int p0]) hx hb hml hown htb hK (g_X9_isPlace l D E p0 ) ok_X9_isPlace k_1182 k_1183 k_9 k_1184 ⟨(Nat.le_of_ble_eq_true rfl), (Nat.le_of_ble_eq_true rfl)⟩ ⟨(Nat.le_of_ble_eq_true rfl), (Nat.le_of_ble_eq_true rfl)⟩ hl.1 (Nat.le_of_ble_eq_true rfl) rfl rfl dX9_holds_1 (hP.sub (ws' := ([] : va_W)) [] rfl) (fun r_1 hw_2 => ?_)
  rcases hw_2 with ⟨hr_1, hw_2⟩ | ⟨hr_1, hw_2⟩
  ·
    refine W_top (y := .int 1) (by rw [hr_1]) ?_
    refine lv_if_eq (tgt := 16) hx hb dX9_holds_4 (by decide) (fun c_4 => absurd c_4 (by decide)) (fun c_4 => ?_)
    refine lv_aload_n hx hb dX9_holds_7 rfl (lv_at hl 0 rfl) ?_
    refine va_get (D := D) (ci := 9) (v := .ref (ma 3)) (C := RX9) (T := TX9) (N := 68) hx hb htb iX9 hown hK.1 hP 0 rfl rfl 3 (by decide) (htb _ k_961) (fun _ h9 => h9) rfl dX9_holds_8 ?_
    refine lv_iload_n hx hb dX9_holds_11 rfl (lv_at hl 1 rfl) ?_
    refine va_iald hx hb hK.1 hP 1 0 rfl rfl (g_in rfl (by omega) (by omega)) dX9_holds_12 ?_
    refine lv_topi (fun z_5 ez_5 => ?_)
    have kz_5 := congrArg Int32.toInt ez_5
    refine lv_goto (tgt := 17) hx hb dX9_holds_13 (by decide) ?_
    exact W.iret (v := z_5) hx hb hr (fun t ht hW => ⟨z_5, rfl, (by (try dsimp only); first | exact Or.inl ⟨by omega, by subst_vars; rfl⟩ | exact Or.inr ⟨by omega, by omega⟩), ht⟩) (fun q h => by cases h) dX9_holds_17
  ·
    refine W_top (y := .int 0) (by rw [hr_1]) ?_
    refine lv_if_eq (tgt := 16) hx hb dX9_holds_4 (by decide) (fun c_6 => ?_) (fun c_6 => absurd (by decide) c_6)
    refine lv_iconst (v := (-1)) hx hb dX9_holds_16 (by decide) ?_
    exact W.iret (v := (-1)) hx hb hr (fun t ht hW => ⟨(-1), rfl, (by have hl0 := t_m1; (try dsimp only); first | exact Or.inl ⟨by omega, by subst_vars; rfl⟩ | exact Or.inr ⟨by omega, by omega⟩), ht⟩) (fun q h => by cases h) dX9_holds_17
set_option maxHeartbeats 4000000 in
set_option maxRecDepth 100000 in
theorem g_X9_read (l : Launch) (D : va_G) (E : Nat → Nat) (mh : Nat) (ma : Nat → Nat) (mcode : Int32) (mtoday : Int32) (moffs : Int32) (mmany : Int64) (msumW : Int64) (msumA : Int64) (msumR : Int64) (msumWW : Int64) (msumWA : Int64) (msumAA : Int64) (msumWR : Int64) (msumAR : Int64) (mupper : Int64) (mlower : Int64) (mrates : Int32) (mtaped : Int32) (mlaid : Int32) (mat : Int32) (mtk : Int32) (mtkAt : Int32) (mtkNumber : Int32) (mwaits : Int32) (mlisted : Int32) (mdealtMany : Int32) (mf3 : Nat → Int32) (mf4 : Nat → Int32) (p0 : Int32) (hi_m : (0 ≤ mtoday.toInt ∧ mtoday.toInt ≤ 399) ∧ (0 ≤ moffs.toInt ∧ moffs.toInt ≤ 60) ∧ (0 ≤ mrates.toInt ∧ mrates.toInt ≤ 60) ∧ (0 ≤ mtaped.toInt ∧ mtaped.toInt ≤ 120) ∧ (0 ≤ mlisted.toInt ∧ mlisted.toInt ≤ 9) ∧ (0 ≤ mdealtMany.toInt ∧ mdealtMany.toInt ≤ 9)) : Met l yX9_read (wl yX9_read cX9_read 2 (some .int)) (RM 2 0 0) (rd_P D E [.ref mh, .int p0] [(mh, .inr (9, G9 ma mcode mtoday moffs mmany msumW msumA msumR msumWW msumWA msumAA msumWR msumAR mupper mlower mrates mtaped mlaid mat mtk mtkAt mtkNumber mwaits mlisted mdealtMany)), ((ma 3), .inl (E 0, 16, .inl mf3)), ((ma 4), .inl (E 0, 16, .inl mf4))]) (rd_Q (fun r => ((((0 ≤ p0.toInt ∧ p0.toInt ≤ 15) ∧ ((mf3 (p0).toNatClampNeg).toInt = 1 ∨ (mf3 (p0).toNatClampNeg).toInt = 2)) ∧ r = mf4 (p0).toNatClampNeg) ∨ (¬ ((0 ≤ p0.toInt ∧ p0.toInt ≤ 15) ∧ ((mf3 (p0).toNatClampNeg).toInt = 1 ∨ (mf3 (p0).toNatClampNeg).toInt = 2)) ∧ r.toInt = -2000000000)))) 0 0 (fun _ => False) := by
  refine Met.ofW (cc := cX9_read) (maxL := 2) (ret := (some .int)) (by decide) rfl ?_
  intro p e s m args below meth c s₁ B hml hv
  obtain ⟨rfl, hP, hK⟩ := hv
  have hx := B.exec; have hb := B.bytes; have hr := B.returns
  have hts := atoms_spec (ws := wl yX9_read cX9_read 2 (some .int)) B.pre
  have htb : ∀ w ∈ tb, w.before _ s = true := fun w h => hts w (List.mem_cons_of_mem _ h)
  have hown : s.vm.findClass RX9 = some m.cls := findClass_of_methodNamed B.named
  have hlocks := B.notSynchronized
  have hP : va_P D vwCl [(mh, .inr (9, G9 ma mcode mtoday moffs mmany msumW msumA msumR msumWW msumWA msumAA msumWR msumAR mupper mlower mrates mtaped mlaid mat mtk mtkAt mtkNumber mwaits mlisted mdealtMany)), ((ma 3), .inl (E 0, 16, .inl mf3)), ((ma 4), .inl (E 0, 16, .inl mf4))] s.heap := hP
  have hl := lv_entry ([.ref mh, .int p0]) (n := 2) (Nat.le_of_ble_eq_true rfl)
  rw [lg_entry_eq]
  generalize (lg_sl ([.ref mh, .int p0]) ++ List.replicate (2 - (lg_sl ([.ref mh, .int p0])).length) Slot.unset).toArray = ls at hl ⊢
  have hl : lv_has ls 2 [(0, .ref mh), (1, .int p0)] := hl
  have lo_p0 := i_lo p0; have hi_p0 := i_hi p0
  refine lv_iload_n hx hb dX9_read_0 rfl (lv_at hl 1 rfl) ?_
  refine callRS (rest := []) (As := [.int p0]) hx hb hml hown htb hK (g_X9_isPlace l D E p0 ) ok_X9_isPlace k_1182 k_1183 k_9 k_1184 ⟨(Nat.le_of_ble_eq_true rfl), (Nat.le_of_ble_eq_true rfl)⟩ ⟨(Nat.le_of_ble_eq_true rfl), (Nat.le_of_ble_eq_true rfl)⟩ hl.1 (Nat.le_of_ble_eq_true rfl) rfl rfl dX9_read_1 (hP.sub (ws' := ([] : va_W)) [] rfl) (fun r_1 hw_2 => ?_)
  rcases hw_2 with ⟨hr_1, hw_2⟩ | ⟨hr_1, hw_2⟩
  ·
    refine W_top (y := .int 1) (by rw [hr_1]) ?_
    refine lv_if_eq (tgt := 27) hx hb dX9_read_4 (by decide) (fun c_4 => absurd c_4 (by decide)) (fun c_4 => ?_)
    refine lv_aload_n hx hb dX9_read_7 rfl (lv_at hl 0 rfl) ?_
    refine va_get (D := D) (ci := 9) (v := .ref (ma 3)) (C := RX9) (T := TX9) (N := 68) hx hb htb iX9 hown hK.1 hP 0 rfl rfl 3 (by decide) (htb _ k_961) (fun _ h9 => h9) rfl dX9_read_8 ?_
    refine lv_iload_n hx hb dX9_read_11 rfl (lv_at hl 1 rfl) ?_
    refine va_iald hx hb hK.1 hP 1 0 rfl rfl (g_in rfl (by omega) (by omega)) dX9_read_12 ?_
    refine lv_topi (fun z_5 ez_5 => ?_)
    have kz_5 := congrArg Int32.toInt ez_5
    refine lv_iconst (v := 1) hx hb dX9_read_13 (by decide) ?_
    refine lv_icmp_eq (tgt := 32) hx hb dX9_read_14 (by decide) (fun c_6 => ?_) (fun c_6 => ?_)
    ·
      have ic_6 : z_5.toInt = 1 := (g_eq rfl t_1).mp c_6
      clear c_6
      refine lv_aload_n hx hb dX9_read_32 rfl (lv_at hl 0 rfl) ?_
      refine va_get (D := D) (ci := 9) (v := .ref (ma 4)) (C := RX9) (T := TX9) (N := 68) hx hb htb iX9 hown hK.1 hP 0 rfl rfl 4 (by decide) (htb _ k_962) (fun _ h9 => h9) rfl dX9_read_33 ?_
      refine lv_iload_n hx hb dX9_read_36 rfl (lv_at hl 1 rfl) ?_
      refine va_iald hx hb hK.1 hP 2 0 rfl rfl (g_in rfl (by omega) (by omega)) dX9_read_37 ?_
      refine lv_topi (fun z_7 ez_7 => ?_)
      have kz_7 := congrArg Int32.toInt ez_7
      exact W.iret (v := z_7) hx hb hr (fun t ht hW => ⟨z_7, rfl, (by (try dsimp only); first | exact Or.inl ⟨by omega, by subst_vars; rfl⟩ | exact Or.inr ⟨by omega, by omega⟩), ht⟩) (fun q h => by cases h) dX9_read_38
    ·
      have ic_6 : z_5.toInt ≠ 1 := mt (g_eq rfl t_1).mpr c_6
      clear c_6
      refine lv_aload_n hx hb dX9_read_17 rfl (lv_at hl 0 rfl) ?_
      refine va_get (D := D) (ci := 9) (v := .ref (ma 3)) (C := RX9) (T := TX9) (N := 68) hx hb htb iX9 hown hK.1 hP 0 rfl rfl 3 (by decide) (htb _ k_961) (fun _ h9 => h9) rfl dX9_read_18 ?_
      refine lv_iload_n hx hb dX9_read_21 rfl (lv_at hl 1 rfl) ?_
      refine va_iald hx hb hK.1 hP 1 0 rfl rfl (g_in rfl (by omega) (by omega)) dX9_read_22 ?_
      refine lv_topi (fun z_8 ez_8 => ?_)
      have kz_8 := congrArg Int32.toInt ez_8
      refine lv_iconst (v := 2) hx hb dX9_read_23 (by decide) ?_
      refine lv_icmp_eq (tgt := 32) hx hb dX9_read_24 (by decide) (fun c_9 => ?_) (fun c_9 => ?_)
      ·
        have ic_9 : z_8.toInt = 2 := (g_eq rfl t_2).mp c_9
        clear c_9
        refine lv_aload_n hx hb dX9_read_32 rfl (lv_at hl 0 rfl) ?_
        refine va_get (D := D) (ci := 9) (v := .ref (ma 4)) (C := RX9) (T := TX9) (N := 68) hx hb htb iX9 hown hK.1 hP 0 rfl rfl 4 (by decide) (htb _ k_962) (fun _ h9 => h9) rfl dX9_read_33 ?_
        refine lv_iload_n hx hb dX9_read_36 rfl (lv_at hl 1 rfl) ?_
        refine va_iald hx hb hK.1 hP 2 0 rfl rfl (g_in rfl (by omega) (by omega)) dX9_read_37 ?_
        refine lv_topi (fun z_10 ez_10 => ?_)
        have kz_10 := congrArg Int32.toInt ez_10
        exact W.iret (v := z_10) hx hb hr (fun t ht hW => ⟨z_10, rfl, (by (try dsimp only); first | exact Or.inl ⟨by omega, by subst_vars; rfl⟩ | exact Or.inr ⟨by omega, by omega⟩), ht⟩) (fun q h => by cases h) dX9_read_38
      ·
        have ic_9 : z_8.toInt ≠ 2 := mt (g_eq rfl t_2).mpr c_9
        clear c_9
        refine lv_ldc hx hb hown (htb _ k_1205) dX9_read_27 ?_
        refine lv_goto (tgt := 38) hx hb dX9_read_29 (by decide) ?_
        exact W.iret (v := (-2000000000)) hx hb hr (fun t ht hW => ⟨(-2000000000), rfl, (by have hl0 := t_m2000000000; (try dsimp only); first | exact Or.inl ⟨by omega, by subst_vars; rfl⟩ | exact Or.inr ⟨by omega, by omega⟩), ht⟩) (fun q h => by cases h) dX9_read_38
  ·
    refine W_top (y := .int 0) (by rw [hr_1]) ?_
    refine lv_if_eq (tgt := 27) hx hb dX9_read_4 (by decide) (fun c_11 => ?_) (fun c_11 => absurd (by decide) c_11)
    refine lv_ldc hx hb hown (htb _ k_1205) dX9_read_27 ?_
    refine lv_goto (tgt := 38) hx hb dX9_read_29 (by decide) ?_
    exact W.iret (v := (-2000000000)) hx hb hr (fun t ht hW => ⟨(-2000000000), rfl, (by have hl0 := t_m2000000000; (try dsimp only); first | exact Or.inl ⟨by omega, by subst_vars; rfl⟩ | exact Or.inr ⟨by omega, by omega⟩), ht⟩) (fun q h => by cases h) dX9_read_38
set_option maxHeartbeats 4000000 in
set_option maxRecDepth 100000 in
theorem g_X9_compare (l : Launch) (D : va_G) (E : Nat → Nat) (mh : Nat) (ma : Nat → Nat) (mcode : Int32) (mtoday : Int32) (moffs : Int32) (mmany : Int64) (msumW : Int64) (msumA : Int64) (msumR : Int64) (msumWW : Int64) (msumWA : Int64) (msumAA : Int64) (msumWR : Int64) (msumAR : Int64) (mupper : Int64) (mlower : Int64) (mrates : Int32) (mtaped : Int32) (mlaid : Int32) (mat : Int32) (mtk : Int32) (mtkAt : Int32) (mtkNumber : Int32) (mwaits : Int32) (mlisted : Int32) (mdealtMany : Int32) (mf3 : Nat → Int32) (mf5 : Nat → Int32) (mf6 : Nat → Int32) (mf7 : Nat → Int32) (mf10 : Nat → Int32) (p0 : Int32) (p1 : Int32) (p2 : Int32) (p3 : Int32) (sz : Nat) (hi_m : (0 ≤ mtoday.toInt ∧ mtoday.toInt ≤ 399) ∧ (0 ≤ moffs.toInt ∧ moffs.toInt ≤ 60) ∧ (0 ≤ mrates.toInt ∧ mrates.toInt ≤ 60) ∧ (0 ≤ mtaped.toInt ∧ mtaped.toInt ≤ 120) ∧ (0 ≤ mlisted.toInt ∧ mlisted.toInt ≤ 9) ∧ (0 ≤ mdealtMany.toInt ∧ mdealtMany.toInt ≤ 9)) : Met l yX9_compare (wl yX9_compare cX9_compare 7 (some .int)) (RM 3 0 0) (mu_P D E [.ref mh, .int p0, .int p1, .int p2, .int p3] [(mh, .inr (9, G9 ma mcode mtoday moffs mmany msumW msumA msumR msumWW msumWA msumAA msumWR msumAR mupper mlower mrates mtaped mlaid mat mtk mtkAt mtkNumber mwaits mlisted mdealtMany)), ((ma 3), .inl (E 0, 16, .inl mf3)), ((ma 5), .inl (E 1, 6400, .inl mf5)), ((ma 6), .inl (E 0, 6400, .inl mf6)), ((ma 7), .inl (E 0, 6400, .inl mf7)), ((ma 10), .inl (E 0, 6400, .inl mf10))] sz) (va_Qi (fun (r : Int32) (u : (Nat → Int32) × (Nat → Int32) × (Nat → Int32)) => ((r.toInt = -1 ∧ ¬ ((0 ≤ p0.toInt ∧ p0.toInt ≤ 15) ∧ (0 ≤ p1.toInt ∧ p1.toInt ≤ mtoday.toInt) ∧ (-100000 ≤ p2.toInt ∧ p2.toInt ≤ 100000) ∧ (0 ≤ p3.toInt ∧ p3.toInt ≤ 5)) ∧ u.1 = mf5 ∧ u.2.1 = mf6 ∧ u.2.2 = mf7) ∨ (((0 ≤ p0.toInt ∧ p0.toInt ≤ 15) ∧ (0 ≤ p1.toInt ∧ p1.toInt ≤ mtoday.toInt) ∧ (-100000 ≤ p2.toInt ∧ p2.toInt ≤ 100000) ∧ (0 ≤ p3.toInt ∧ p3.toInt ≤ 5)) ∧ (((mf3 (p0).toNatClampNeg).toInt = -5 ∧ r.toInt = -2) ∨ ((mf3 (p0).toNatClampNeg).toInt = 2 ∧ r.toInt = -3)) ∧ u.1 = mf5 ∧ u.2.1 = mf6 ∧ u.2.2 = mf7) ∨ (((0 ≤ p0.toInt ∧ p0.toInt ≤ 15) ∧ (0 ≤ p1.toInt ∧ p1.toInt ≤ mtoday.toInt) ∧ (-100000 ≤ p2.toInt ∧ p2.toInt ≤ 100000) ∧ (0 ≤ p3.toInt ∧ p3.toInt ≤ 5)) ∧ ((mf3 (p0).toNatClampNeg).toInt ≠ -5 ∧ (mf3 (p0).toNatClampNeg).toInt ≠ 2) ∧ ((mf5 (400 * p0 + p1).toNatClampNeg).toInt ≠ 0 ∨ (mf10 (400 * p0 + p1).toNatClampNeg).toInt ≠ -1) ∧ r.toInt = -4 ∧ u.1 = mf5 ∧ u.2.1 = mf6 ∧ u.2.2 = mf7) ∨ (((0 ≤ p0.toInt ∧ p0.toInt ≤ 15) ∧ (0 ≤ p1.toInt ∧ p1.toInt ≤ mtoday.toInt) ∧ (-100000 ≤ p2.toInt ∧ p2.toInt ≤ 100000) ∧ (0 ≤ p3.toInt ∧ p3.toInt ≤ 5)) ∧ ((mf3 (p0).toNatClampNeg).toInt ≠ -5 ∧ (mf3 (p0).toNatClampNeg).toInt ≠ 2) ∧ ¬ ((mf5 (400 * p0 + p1).toNatClampNeg).toInt ≠ 0 ∨ (mf10 (400 * p0 + p1).toNatClampNeg).toInt ≠ -1) ∧ r.toInt = 1 ∧ u.1 = upd mf5 (400 * p0 + p1).toNatClampNeg 1 ∧ u.2.1 = upd mf6 (400 * p0 + p1).toNatClampNeg p2 ∧ u.2.2 = upd mf7 (400 * p0 + p1).toNatClampNeg p3))) (mu_B D (va_A [(mh, .inr (9, G9 ma mcode mtoday moffs mmany msumW msumA msumR msumWW msumWA msumAA msumWR msumAR mupper mlower mrates mtaped mlaid mat mtk mtkAt mtkNumber mwaits mlisted mdealtMany)), ((ma 3), .inl (E 0, 16, .inl mf3)), ((ma 5), .inl (E 1, 6400, .inl mf5)), ((ma 6), .inl (E 0, 6400, .inl mf6)), ((ma 7), .inl (E 0, 6400, .inl mf7)), ((ma 10), .inl (E 0, 6400, .inl mf10))] sz) (fun (u : (Nat → Int32) × (Nat → Int32) × (Nat → Int32)) => [(mh, .inr (9, G9 ma mcode mtoday moffs mmany msumW msumA msumR msumWW msumWA msumAA msumWR msumAR mupper mlower mrates mtaped mlaid mat mtk mtkAt mtkNumber mwaits mlisted mdealtMany)), ((ma 3), .inl (E 0, 16, .inl mf3)), ((ma 5), .inl (E 1, 6400, .inl u.1)), ((ma 6), .inl (E 0, 6400, .inl u.2.1)), ((ma 7), .inl (E 0, 6400, .inl u.2.2)), ((ma 10), .inl (E 0, 6400, .inl mf10))])) (va_A [(mh, .inr (9, G9 ma mcode mtoday moffs mmany msumW msumA msumR msumWW msumWA msumAA msumWR msumAR mupper mlower mrates mtaped mlaid mat mtk mtkAt mtkNumber mwaits mlisted mdealtMany)), ((ma 3), .inl (E 0, 16, .inl mf3)), ((ma 5), .inl (E 1, 6400, .inl mf5)), ((ma 6), .inl (E 0, 6400, .inl mf6)), ((ma 7), .inl (E 0, 6400, .inl mf7)), ((ma 10), .inl (E 0, 6400, .inl mf10))] sz)) 0 0 (va_A [(mh, .inr (9, G9 ma mcode mtoday moffs mmany msumW msumA msumR msumWW msumWA msumAA msumWR msumAR mupper mlower mrates mtaped mlaid mat mtk mtkAt mtkNumber mwaits mlisted mdealtMany)), ((ma 3), .inl (E 0, 16, .inl mf3)), ((ma 5), .inl (E 1, 6400, .inl mf5)), ((ma 6), .inl (E 0, 6400, .inl mf6)), ((ma 7), .inl (E 0, 6400, .inl mf7)), ((ma 10), .inl (E 0, 6400, .inl mf10))] sz) := by
  refine Met.ofW (cc := cX9_compare) (maxL := 7) (ret := (some .int)) (by decide) rfl ?_
  intro p e s m args below meth c s₁ B hml hv
  obtain ⟨rfl, hsz, hP, hK, hD0⟩ := hv
  have hx := B.exec; have hb := B.bytes; have hr := B.returns
  have hts := atoms_spec (ws := wl yX9_compare cX9_compare 7 (some .int)) B.pre
  have htb : ∀ w ∈ tb, w.before _ s = true := fun w h => hts w (List.mem_cons_of_mem _ h)
  have hown : s.vm.findClass RX9 = some m.cls := findClass_of_methodNamed B.named
  have hlocks := B.notSynchronized
  subst hsz
  have hD := hD0.self (sz := s.heap.size)
  generalize hAe : va_A [(mh, .inr (9, G9 ma mcode mtoday moffs mmany msumW msumA msumR msumWW msumWA msumAA msumWR msumAR mupper mlower mrates mtaped mlaid mat mtk mtkAt mtkNumber mwaits mlisted mdealtMany)), ((ma 3), .inl (E 0, 16, .inl mf3)), ((ma 5), .inl (E 1, 6400, .inl mf5)), ((ma 6), .inl (E 0, 6400, .inl mf6)), ((ma 7), .inl (E 0, 6400, .inl mf7)), ((ma 10), .inl (E 0, 6400, .inl mf10))] s.heap.size = A at hD ⊢
  have hA : ∀ q : Nat, s.heap.size ≤ q → A q := fun q h => by rw [← hAe]; exact Or.inr h
  have hS : va_S A s.heap s.heap [] := va_S.rf
  have hP : va_P D vwCl [(mh, .inr (9, G9 ma mcode mtoday moffs mmany msumW msumA msumR msumWW msumWA msumAA msumWR msumAR mupper mlower mrates mtaped mlaid mat mtk mtkAt mtkNumber mwaits mlisted mdealtMany)), ((ma 3), .inl (E 0, 16, .inl mf3)), ((ma 5), .inl (E 1, 6400, .inl mf5)), ((ma 6), .inl (E 0, 6400, .inl mf6)), ((ma 7), .inl (E 0, 6400, .inl mf7)), ((ma 10), .inl (E 0, 6400, .inl mf10))] s.heap := hP
  have hl := lv_entry ([.ref mh, .int p0, .int p1, .int p2, .int p3]) (n := 7) (Nat.le_of_ble_eq_true rfl)
  rw [lg_entry_eq]
  generalize (lg_sl ([.ref mh, .int p0, .int p1, .int p2, .int p3]) ++ List.replicate (7 - (lg_sl ([.ref mh, .int p0, .int p1, .int p2, .int p3])).length) Slot.unset).toArray = ls at hl ⊢
  have hl : lv_has ls 7 [(0, .ref mh), (1, .int p0), (2, .int p1), (3, .int p2), (4, .int p3)] := hl
  have lo_p0 := i_lo p0; have hi_p0 := i_hi p0
  have lo_p1 := i_lo p1; have hi_p1 := i_hi p1
  have lo_p2 := i_lo p2; have hi_p2 := i_hi p2
  have lo_p3 := i_lo p3; have hi_p3 := i_hi p3
  refine lv_iload_n hx hb dX9_compare_0 rfl (lv_at hl 1 rfl) ?_
  refine callRS (rest := []) (As := [.int p0]) hx hb hml hown htb hK (g_X9_isPlace l D E p0 ) ok_X9_isPlace k_1182 k_1183 k_9 k_1184 ⟨(Nat.le_of_ble_eq_true rfl), (Nat.le_of_ble_eq_true rfl)⟩ ⟨(Nat.le_of_ble_eq_true rfl), (Nat.le_of_ble_eq_true rfl)⟩ hl.1 (Nat.le_of_ble_eq_true rfl) rfl rfl dX9_compare_1 (hP.sub (ws' := ([] : va_W)) [] rfl) (fun r_1 hw_2 => ?_)
  rcases hw_2 with ⟨hr_1, hw_2⟩ | ⟨hr_1, hw_2⟩
  ·
    refine W_top (y := .int 1) (by rw [hr_1]) ?_
    refine lv_if_eq (tgt := 40) hx hb dX9_compare_4 (by decide) (fun c_4 => absurd c_4 (by decide)) (fun c_4 => ?_)
    refine lv_iload_n hx hb dX9_compare_7 rfl (lv_at hl 2 rfl) ?_
    refine lv_iconst (v := 0) hx hb dX9_compare_8 (by decide) ?_
    refine lv_aload_n hx hb dX9_compare_9 rfl (lv_at hl 0 rfl) ?_
    refine va_get (D := D) (ci := 9) (v := .int mtoday) (C := RX9) (T := TX9) (N := 68) hx hb htb iX9 hown hK.1 hP 0 rfl rfl 1 (by decide) (htb _ k_959) (fun _ h9 => h9) rfl dX9_compare_10 ?_
    refine callRS (rest := []) (As := [.int p1, .int 0, .int mtoday]) hx hb hml hown htb hK (g_X9_in l D E p1 0 mtoday ) ok_X9_in k_1168 k_1169 k_9 k_1170 ⟨(Nat.le_of_ble_eq_true rfl), (Nat.le_of_ble_eq_true rfl)⟩ ⟨(Nat.le_of_ble_eq_true rfl), (Nat.le_of_ble_eq_true rfl)⟩ hl.1 (Nat.le_of_ble_eq_true rfl) rfl rfl dX9_compare_13 (hP.sub (ws' := ([] : va_W)) [] rfl) (fun r_5 hw_6 => ?_)
    try simp only [t_0] at hw_6
    rcases hw_6 with ⟨hr_5, hw_6⟩ | ⟨hr_5, hw_6⟩
    ·
      try simp only [t_0] at hw_6
      refine W_top (y := .int 1) (by rw [hr_5]) ?_
      refine lv_if_eq (tgt := 40) hx hb dX9_compare_16 (by decide) (fun c_8 => absurd c_8 (by decide)) (fun c_8 => ?_)
      refine lv_iload_n hx hb dX9_compare_19 rfl (lv_at hl 3 rfl) ?_
      refine lv_ldc hx hb hown (htb _ k_1210) dX9_compare_20 ?_
      refine lv_ldc hx hb hown (htb _ k_1211) dX9_compare_22 ?_
      refine callRS (rest := []) (As := [.int p2, .int (-100000), .int 100000]) hx hb hml hown htb hK (g_X9_in l D E p2 (-100000) 100000 ) ok_X9_in k_1168 k_1169 k_9 k_1170 ⟨(Nat.le_of_ble_eq_true rfl), (Nat.le_of_ble_eq_true rfl)⟩ ⟨(Nat.le_of_ble_eq_true rfl), (Nat.le_of_ble_eq_true rfl)⟩ hl.1 (Nat.le_of_ble_eq_true rfl) rfl rfl dX9_compare_24 (hP.sub (ws' := ([] : va_W)) [] rfl) (fun r_9 hw_10 => ?_)
      try simp only [t_m100000, t_100000] at hw_10
      rcases hw_10 with ⟨hr_9, hw_10⟩ | ⟨hr_9, hw_10⟩
      ·
        try simp only [t_m100000, t_100000] at hw_10
        refine W_top (y := .int 1) (by rw [hr_9]) ?_
        refine lv_if_eq (tgt := 40) hx hb dX9_compare_27 (by decide) (fun c_12 => absurd c_12 (by decide)) (fun c_12 => ?_)
        refine lv_iload hx hb dX9_compare_30 (lv_at hl 4 rfl) ?_
        refine lv_iconst (v := 0) hx hb dX9_compare_32 (by decide) ?_
        refine lv_iconst (v := 5) hx hb dX9_compare_33 (by decide) ?_
        refine callRS (rest := []) (As := [.int p3, .int 0, .int 5]) hx hb hml hown htb hK (g_X9_in l D E p3 0 5 ) ok_X9_in k_1168 k_1169 k_9 k_1170 ⟨(Nat.le_of_ble_eq_true rfl), (Nat.le_of_ble_eq_true rfl)⟩ ⟨(Nat.le_of_ble_eq_true rfl), (Nat.le_of_ble_eq_true rfl)⟩ hl.1 (Nat.le_of_ble_eq_true rfl) rfl rfl dX9_compare_34 (hP.sub (ws' := ([] : va_W)) [] rfl) (fun r_13 hw_14 => ?_)
        try simp only [t_0, t_5] at hw_14
        rcases hw_14 with ⟨hr_13, hw_14⟩ | ⟨hr_13, hw_14⟩
        ·
          try simp only [t_0, t_5] at hw_14
          refine W_top (y := .int 1) (by rw [hr_13]) ?_
          refine lv_if_ne (tgt := 42) hx hb dX9_compare_37 (by decide) (fun c_16 => ?_) (fun c_16 => absurd c_16 (by decide))
          refine lv_aload_n hx hb dX9_compare_42 rfl (lv_at hl 0 rfl) ?_
          refine lv_iload_n hx hb dX9_compare_43 rfl (lv_at hl 1 rfl) ?_
          refine callRV (rest := []) (As := [.int p0]) hx hb hml hown htb hK (g_X9_watchAt l D E mh ma mcode mtoday moffs mmany msumW msumA msumR msumWW msumWA msumAA msumWR msumAR mupper mlower mrates mtaped mlaid mat mtk mtkAt mtkNumber mwaits mlisted mdealtMany mf3 p0 (by (try dsimp only); omega)) ok_X9_watchAt k_1212 k_1214 ks_41 k_9 k_1215 ⟨(Nat.le_of_ble_eq_true rfl), (Nat.le_of_ble_eq_true rfl)⟩ ⟨(Nat.le_of_ble_eq_true rfl), (Nat.le_of_ble_eq_true rfl)⟩ hl.1 (Nat.le_of_ble_eq_true rfl) rfl rfl dX9_compare_44 (hP.sub (ws' := [(mh, .inr (9, G9 ma mcode mtoday moffs mmany msumW msumA msumR msumWW msumWA msumAA msumWR msumAR mupper mlower mrates mtaped mlaid mat mtk mtkAt mtkNumber mwaits mlisted mdealtMany)), ((ma 3), .inl (E 0, 16, .inl mf3))]) [0, 1] rfl) rfl rfl 0 rfl (fun r_17 hw_18 => ?_)
          refine lv_istore (lv' := [(5, .int r_17), (0, .ref mh), (1, .int p0), (2, .int p1), (3, .int p2), (4, .int p3)]) hx hb dX9_compare_47 hl (by decide) rfl (fun ls hl => ?_)
          refine lv_iload hx hb dX9_compare_49 (lv_at hl 0 rfl) ?_
          refine lv_if_ge (tgt := 57) hx hb dX9_compare_51 (by decide) (fun c_20 => ?_) (fun c_20 => ?_)
          ·
            have ic_20 : 0 ≤ r_17.toInt := by first | exact (g_le t_0 rfl).mp c_20 | (have h := mt (g_lt rfl t_0).mpr c_20; omega)
            clear c_20
            refine lv_sipush (v := 400) hx hb dX9_compare_57 (by decide) ?_
            refine lv_iload_n hx hb dX9_compare_60 rfl (lv_at hl 2 rfl) ?_
            refine lv_imul hx hb dX9_compare_61 ?_
            refine lv_topi (fun z_21 ez_21 => ?_)
            have jz_21 : z_21.toInt = 400 * p0.toInt := by rw [ez_21]; exact g_mul t_400 rfl (by omega) (by omega)
            refine lv_iload_n hx hb dX9_compare_62 rfl (lv_at hl 3 rfl) ?_
            refine lv_iadd hx hb dX9_compare_63 ?_
            refine lv_topi (fun z_22 ez_22 => ?_)
            have jz_22 : z_22.toInt = z_21.toInt + p1.toInt := by rw [ez_22]; exact g_add rfl rfl (by omega) (by omega)
            refine lv_istore (lv' := [(6, .int z_22), (5, .int r_17), (0, .ref mh), (1, .int p0), (2, .int p1), (3, .int p2), (4, .int p3)]) hx hb dX9_compare_64 hl (by decide) rfl (fun ls hl => ?_)
            refine lv_aload_n hx hb dX9_compare_66 rfl (lv_at hl 2 rfl) ?_
            refine va_get (D := D) (ci := 9) (v := .ref (ma 5)) (C := RX9) (T := TX9) (N := 68) hx hb htb iX9 hown hK.1 hP 0 rfl rfl 5 (by decide) (htb _ k_963) (fun _ h9 => h9) rfl dX9_compare_67 ?_
            refine lv_iload hx hb dX9_compare_70 (lv_at hl 0 rfl) ?_
            refine va_zald hx hb hK.1 hP 2 1 rfl rfl (g_in rfl (by omega) (by omega)) dX9_compare_72 ?_
            refine lv_topi (fun z_23 ez_23 => ?_)
            have kz_23 := congrArg Int32.toInt ez_23
            refine lv_if_ne (tgt := 87) hx hb dX9_compare_73 (by decide) (fun c_24 => ?_) (fun c_24 => ?_)
            ·
              have ic_24 : z_23.toInt ≠ 0 := mt (g_eq rfl t_0).mpr c_24
              clear c_24
              refine lv_bipush (v := (-4)) hx hb dX9_compare_87 (by decide) ?_
              have hP9 := hP.sub (ws' := [(mh, .inr (9, G9 ma mcode mtoday moffs mmany msumW msumA msumR msumWW msumWA msumAA msumWR msumAR mupper mlower mrates mtaped mlaid mat mtk mtkAt mtkNumber mwaits mlisted mdealtMany)), ((ma 3), .inl (E 0, 16, .inl mf3)), ((ma 5), .inl (E 1, 6400, .inl mf5)), ((ma 6), .inl (E 0, 6400, .inl mf6)), ((ma 7), .inl (E 0, 6400, .inl mf7)), ((ma 10), .inl (E 0, 6400, .inl mf10))]) [0, 1, 2, 3, 4, 5] rfl
              have hD9 := hD.sub (ws' := [(mh, .inr (9, G9 ma mcode mtoday moffs mmany msumW msumA msumR msumWW msumWA msumAA msumWR msumAR mupper mlower mrates mtaped mlaid mat mtk mtkAt mtkNumber mwaits mlisted mdealtMany)), ((ma 3), .inl (E 0, 16, .inl mf3)), ((ma 5), .inl (E 1, 6400, .inl mf5)), ((ma 6), .inl (E 0, 6400, .inl mf6)), ((ma 7), .inl (E 0, 6400, .inl mf7)), ((ma 10), .inl (E 0, 6400, .inl mf10))]) [0, 1, 2, 3, 4, 5] (by decide) rfl
              exact W.iret (v := (-4)) hx hb hr (fun t ht hW => ⟨⟨(-4), (mf5, mf6, mf7), rfl, (by have hl0 := t_m4; (try dsimp only); first | exact Or.inr (Or.inl ⟨by omega, by omega, rfl, rfl, rfl⟩) | exact Or.inr (Or.inr (Or.inl ⟨by omega, by omega, by subst_vars; omega, by omega, rfl, rfl, rfl⟩))), by rw [ht]; exact hP9, hD9⟩, hS.F ht⟩) hS.2.2 dX9_compare_89
            ·
              have ic_24 : z_23.toInt = 0 := (g_eq rfl t_0).mp c_24
              clear c_24
              refine lv_aload_n hx hb dX9_compare_76 rfl (lv_at hl 2 rfl) ?_
              refine va_get (D := D) (ci := 9) (v := .ref (ma 10)) (C := RX9) (T := TX9) (N := 68) hx hb htb iX9 hown hK.1 hP 0 rfl rfl 10 (by decide) (htb _ k_968) (fun _ h9 => h9) rfl dX9_compare_77 ?_
              refine lv_iload hx hb dX9_compare_80 (lv_at hl 0 rfl) ?_
              refine va_iald hx hb hK.1 hP 5 0 rfl rfl (g_in rfl (by omega) (by omega)) dX9_compare_82 ?_
              refine lv_topi (fun z_25 ez_25 => ?_)
              have kz_25 := congrArg Int32.toInt ez_25
              refine lv_iconst (v := (-1)) hx hb dX9_compare_83 (by decide) ?_
              refine lv_icmp_eq (tgt := 90) hx hb dX9_compare_84 (by decide) (fun c_26 => ?_) (fun c_26 => ?_)
              ·
                have ic_26 : z_25.toInt = -1 := (g_eq rfl t_m1).mp c_26
                clear c_26
                refine lv_aload_n hx hb dX9_compare_90 rfl (lv_at hl 2 rfl) ?_
                refine va_get (D := D) (ci := 9) (v := .ref (ma 5)) (C := RX9) (T := TX9) (N := 68) hx hb htb iX9 hown hK.1 hP 0 rfl rfl 5 (by decide) (htb _ k_963) (fun _ h9 => h9) rfl dX9_compare_91 ?_
                refine lv_iload hx hb dX9_compare_94 (lv_at hl 0 rfl) ?_
                refine lv_iconst (v := 1) hx hb dX9_compare_96 (by decide) ?_
                refine va_zast hx hb hK.1 hP hD hS 2 1 rfl rfl (g_in rfl (by omega) (by omega)) dX9_compare_97 (fun H locs hP hD hS => ?_)
                have hP : va_P D vwCl [(mh, .inr (9, G9 ma mcode mtoday moffs mmany msumW msumA msumR msumWW msumWA msumAA msumWR msumAR mupper mlower mrates mtaped mlaid mat mtk mtkAt mtkNumber mwaits mlisted mdealtMany)), ((ma 3), .inl (E 0, 16, .inl mf3)), ((ma 5), .inl (E 1, 6400, .inl (upd mf5 (z_22 : Int32).toNatClampNeg (vp_nar .boolean 1)))), ((ma 6), .inl (E 0, 6400, .inl mf6)), ((ma 7), .inl (E 0, 6400, .inl mf7)), ((ma 10), .inl (E 0, 6400, .inl mf10))] H := hP
                have hD := toW hP hD rfl
                refine lv_aload_n hx hb dX9_compare_98 rfl (lv_at hl 2 rfl) ?_
                refine va_get (D := D) (ci := 9) (v := .ref (ma 6)) (C := RX9) (T := TX9) (N := 68) hx hb htb iX9 hown hK.1 hP 0 rfl rfl 6 (by decide) (htb _ k_964) (fun _ h9 => h9) rfl dX9_compare_99 ?_
                refine lv_iload hx hb dX9_compare_102 (lv_at hl 0 rfl) ?_
                refine lv_iload_n hx hb dX9_compare_104 rfl (lv_at hl 5 rfl) ?_
                refine va_iast hx hb hK.1 hP hD hS 3 0 rfl rfl (g_in rfl (by omega) (by omega)) dX9_compare_105 (fun H locs hP hD hS => ?_)
                have hP : va_P D vwCl [(mh, .inr (9, G9 ma mcode mtoday moffs mmany msumW msumA msumR msumWW msumWA msumAA msumWR msumAR mupper mlower mrates mtaped mlaid mat mtk mtkAt mtkNumber mwaits mlisted mdealtMany)), ((ma 3), .inl (E 0, 16, .inl mf3)), ((ma 5), .inl (E 1, 6400, .inl (upd mf5 (z_22 : Int32).toNatClampNeg (vp_nar .boolean 1)))), ((ma 6), .inl (E 0, 6400, .inl (upd mf6 (z_22 : Int32).toNatClampNeg p2))), ((ma 7), .inl (E 0, 6400, .inl mf7)), ((ma 10), .inl (E 0, 6400, .inl mf10))] H := hP
                have hD := toW hP hD rfl
                refine lv_aload_n hx hb dX9_compare_106 rfl (lv_at hl 2 rfl) ?_
                refine va_get (D := D) (ci := 9) (v := .ref (ma 7)) (C := RX9) (T := TX9) (N := 68) hx hb htb iX9 hown hK.1 hP 0 rfl rfl 7 (by decide) (htb _ k_965) (fun _ h9 => h9) rfl dX9_compare_107 ?_
                refine lv_iload hx hb dX9_compare_110 (lv_at hl 0 rfl) ?_
                refine lv_iload hx hb dX9_compare_112 (lv_at hl 6 rfl) ?_
                refine va_iast hx hb hK.1 hP hD hS 4 0 rfl rfl (g_in rfl (by omega) (by omega)) dX9_compare_114 (fun H locs hP hD hS => ?_)
                have hP : va_P D vwCl [(mh, .inr (9, G9 ma mcode mtoday moffs mmany msumW msumA msumR msumWW msumWA msumAA msumWR msumAR mupper mlower mrates mtaped mlaid mat mtk mtkAt mtkNumber mwaits mlisted mdealtMany)), ((ma 3), .inl (E 0, 16, .inl mf3)), ((ma 5), .inl (E 1, 6400, .inl (upd mf5 (z_22 : Int32).toNatClampNeg (vp_nar .boolean 1)))), ((ma 6), .inl (E 0, 6400, .inl (upd mf6 (z_22 : Int32).toNatClampNeg p2))), ((ma 7), .inl (E 0, 6400, .inl (upd mf7 (z_22 : Int32).toNatClampNeg p3))), ((ma 10), .inl (E 0, 6400, .inl mf10))] H := hP
                have hD := toW hP hD rfl
                refine lv_iconst (v := 1) hx hb dX9_compare_115 (by decide) ?_
                have hP9 := hP.sub (ws' := [(mh, .inr (9, G9 ma mcode mtoday moffs mmany msumW msumA msumR msumWW msumWA msumAA msumWR msumAR mupper mlower mrates mtaped mlaid mat mtk mtkAt mtkNumber mwaits mlisted mdealtMany)), ((ma 3), .inl (E 0, 16, .inl mf3)), ((ma 5), .inl (E 1, 6400, .inl (upd mf5 (z_22 : Int32).toNatClampNeg (vp_nar .boolean 1)))), ((ma 6), .inl (E 0, 6400, .inl (upd mf6 (z_22 : Int32).toNatClampNeg p2))), ((ma 7), .inl (E 0, 6400, .inl (upd mf7 (z_22 : Int32).toNatClampNeg p3))), ((ma 10), .inl (E 0, 6400, .inl mf10))]) [0, 1, 2, 3, 4, 5] rfl
                have hD9 := hD.sub (ws' := [(mh, .inr (9, G9 ma mcode mtoday moffs mmany msumW msumA msumR msumWW msumWA msumAA msumWR msumAR mupper mlower mrates mtaped mlaid mat mtk mtkAt mtkNumber mwaits mlisted mdealtMany)), ((ma 3), .inl (E 0, 16, .inl mf3)), ((ma 5), .inl (E 1, 6400, .inl (upd mf5 (z_22 : Int32).toNatClampNeg (vp_nar .boolean 1)))), ((ma 6), .inl (E 0, 6400, .inl (upd mf6 (z_22 : Int32).toNatClampNeg p2))), ((ma 7), .inl (E 0, 6400, .inl (upd mf7 (z_22 : Int32).toNatClampNeg p3))), ((ma 10), .inl (E 0, 6400, .inl mf10))]) [0, 1, 2, 3, 4, 5] (by decide) rfl
                exact W.iret (v := 1) hx hb hr (fun t ht hW => ⟨⟨1, ((upd mf5 (z_22 : Int32).toNatClampNeg (vp_nar .boolean 1)), (upd mf6 (z_22 : Int32).toNatClampNeg p2), (upd mf7 (z_22 : Int32).toNatClampNeg p3)), rfl, (by have hl0 := t_1; (try dsimp only); first | exact Or.inr (Or.inl ⟨by omega, by omega, rfl, rfl, rfl⟩) | exact Or.inr (Or.inr (Or.inr ⟨by omega, by omega, by subst_vars; omega, by omega, by subst_vars; rfl, by subst_vars; rfl, by subst_vars; rfl⟩))), by rw [ht]; exact hP9, hD9⟩, hS.F ht⟩) hS.2.2 dX9_compare_116
              ·
                have ic_26 : z_25.toInt ≠ -1 := mt (g_eq rfl t_m1).mpr c_26
                clear c_26
                refine lv_bipush (v := (-4)) hx hb dX9_compare_87 (by decide) ?_
                have hP9 := hP.sub (ws' := [(mh, .inr (9, G9 ma mcode mtoday moffs mmany msumW msumA msumR msumWW msumWA msumAA msumWR msumAR mupper mlower mrates mtaped mlaid mat mtk mtkAt mtkNumber mwaits mlisted mdealtMany)), ((ma 3), .inl (E 0, 16, .inl mf3)), ((ma 5), .inl (E 1, 6400, .inl mf5)), ((ma 6), .inl (E 0, 6400, .inl mf6)), ((ma 7), .inl (E 0, 6400, .inl mf7)), ((ma 10), .inl (E 0, 6400, .inl mf10))]) [0, 1, 2, 3, 4, 5] rfl
                have hD9 := hD.sub (ws' := [(mh, .inr (9, G9 ma mcode mtoday moffs mmany msumW msumA msumR msumWW msumWA msumAA msumWR msumAR mupper mlower mrates mtaped mlaid mat mtk mtkAt mtkNumber mwaits mlisted mdealtMany)), ((ma 3), .inl (E 0, 16, .inl mf3)), ((ma 5), .inl (E 1, 6400, .inl mf5)), ((ma 6), .inl (E 0, 6400, .inl mf6)), ((ma 7), .inl (E 0, 6400, .inl mf7)), ((ma 10), .inl (E 0, 6400, .inl mf10))]) [0, 1, 2, 3, 4, 5] (by decide) rfl
                exact W.iret (v := (-4)) hx hb hr (fun t ht hW => ⟨⟨(-4), (mf5, mf6, mf7), rfl, (by have hl0 := t_m4; (try dsimp only); first | exact Or.inr (Or.inl ⟨by omega, by omega, rfl, rfl, rfl⟩) | exact Or.inr (Or.inr (Or.inl ⟨by omega, by omega, by subst_vars; omega, by omega, rfl, rfl, rfl⟩))), by rw [ht]; exact hP9, hD9⟩, hS.F ht⟩) hS.2.2 dX9_compare_89
          ·
            have ic_20 : r_17.toInt < 0 := by first | exact (g_lt rfl t_0).mp c_20 | (have h := mt (g_le t_0 rfl).mpr c_20; omega)
            clear c_20
            refine lv_iload hx hb dX9_compare_54 (lv_at hl 0 rfl) ?_
            have hP9 := hP.sub (ws' := [(mh, .inr (9, G9 ma mcode mtoday moffs mmany msumW msumA msumR msumWW msumWA msumAA msumWR msumAR mupper mlower mrates mtaped mlaid mat mtk mtkAt mtkNumber mwaits mlisted mdealtMany)), ((ma 3), .inl (E 0, 16, .inl mf3)), ((ma 5), .inl (E 1, 6400, .inl mf5)), ((ma 6), .inl (E 0, 6400, .inl mf6)), ((ma 7), .inl (E 0, 6400, .inl mf7)), ((ma 10), .inl (E 0, 6400, .inl mf10))]) [0, 1, 2, 3, 4, 5] rfl
            have hD9 := hD.sub (ws' := [(mh, .inr (9, G9 ma mcode mtoday moffs mmany msumW msumA msumR msumWW msumWA msumAA msumWR msumAR mupper mlower mrates mtaped mlaid mat mtk mtkAt mtkNumber mwaits mlisted mdealtMany)), ((ma 3), .inl (E 0, 16, .inl mf3)), ((ma 5), .inl (E 1, 6400, .inl mf5)), ((ma 6), .inl (E 0, 6400, .inl mf6)), ((ma 7), .inl (E 0, 6400, .inl mf7)), ((ma 10), .inl (E 0, 6400, .inl mf10))]) [0, 1, 2, 3, 4, 5] (by decide) rfl
            exact W.iret (v := r_17) hx hb hr (fun t ht hW => ⟨⟨r_17, (mf5, mf6, mf7), rfl, (by (try dsimp only); first | exact Or.inr (Or.inl ⟨by omega, by omega, rfl, rfl, rfl⟩) | exact Or.inl ⟨by omega, by omega, rfl, rfl, rfl⟩ | exact Or.inr (Or.inr (Or.inl ⟨by omega, by omega, by subst_vars; omega, by omega, rfl, rfl, rfl⟩)) | exact Or.inr (Or.inr (Or.inr ⟨by omega, by omega, by subst_vars; omega, by omega, by subst_vars; rfl, by subst_vars; rfl, by subst_vars; rfl⟩))), by rw [ht]; exact hP9, hD9⟩, hS.F ht⟩) hS.2.2 dX9_compare_56
        ·
          try simp only [t_0, t_5] at hw_14
          refine W_top (y := .int 0) (by rw [hr_13]) ?_
          refine lv_if_ne (tgt := 42) hx hb dX9_compare_37 (by decide) (fun c_27 => absurd (by decide) c_27) (fun c_27 => ?_)
          refine lv_iconst (v := (-1)) hx hb dX9_compare_40 (by decide) ?_
          have hP9 := hP.sub (ws' := [(mh, .inr (9, G9 ma mcode mtoday moffs mmany msumW msumA msumR msumWW msumWA msumAA msumWR msumAR mupper mlower mrates mtaped mlaid mat mtk mtkAt mtkNumber mwaits mlisted mdealtMany)), ((ma 3), .inl (E 0, 16, .inl mf3)), ((ma 5), .inl (E 1, 6400, .inl mf5)), ((ma 6), .inl (E 0, 6400, .inl mf6)), ((ma 7), .inl (E 0, 6400, .inl mf7)), ((ma 10), .inl (E 0, 6400, .inl mf10))]) [0, 1, 2, 3, 4, 5] rfl
          have hD9 := hD.sub (ws' := [(mh, .inr (9, G9 ma mcode mtoday moffs mmany msumW msumA msumR msumWW msumWA msumAA msumWR msumAR mupper mlower mrates mtaped mlaid mat mtk mtkAt mtkNumber mwaits mlisted mdealtMany)), ((ma 3), .inl (E 0, 16, .inl mf3)), ((ma 5), .inl (E 1, 6400, .inl mf5)), ((ma 6), .inl (E 0, 6400, .inl mf6)), ((ma 7), .inl (E 0, 6400, .inl mf7)), ((ma 10), .inl (E 0, 6400, .inl mf10))]) [0, 1, 2, 3, 4, 5] (by decide) rfl
          exact W.iret (v := (-1)) hx hb hr (fun t ht hW => ⟨⟨(-1), (mf5, mf6, mf7), rfl, (by have hl0 := t_m1; (try dsimp only); first | exact Or.inl ⟨by omega, by omega, rfl, rfl, rfl⟩ | exact Or.inr (Or.inl ⟨by omega, by omega, rfl, rfl, rfl⟩)), by rw [ht]; exact hP9, hD9⟩, hS.F ht⟩) hS.2.2 dX9_compare_41
      ·
        try simp only [t_m100000, t_100000] at hw_10
        refine W_top (y := .int 0) (by rw [hr_9]) ?_
        refine lv_if_eq (tgt := 40) hx hb dX9_compare_27 (by decide) (fun c_28 => ?_) (fun c_28 => absurd (by decide) c_28)
        refine lv_iconst (v := (-1)) hx hb dX9_compare_40 (by decide) ?_
        have hP9 := hP.sub (ws' := [(mh, .inr (9, G9 ma mcode mtoday moffs mmany msumW msumA msumR msumWW msumWA msumAA msumWR msumAR mupper mlower mrates mtaped mlaid mat mtk mtkAt mtkNumber mwaits mlisted mdealtMany)), ((ma 3), .inl (E 0, 16, .inl mf3)), ((ma 5), .inl (E 1, 6400, .inl mf5)), ((ma 6), .inl (E 0, 6400, .inl mf6)), ((ma 7), .inl (E 0, 6400, .inl mf7)), ((ma 10), .inl (E 0, 6400, .inl mf10))]) [0, 1, 2, 3, 4, 5] rfl
        have hD9 := hD.sub (ws' := [(mh, .inr (9, G9 ma mcode mtoday moffs mmany msumW msumA msumR msumWW msumWA msumAA msumWR msumAR mupper mlower mrates mtaped mlaid mat mtk mtkAt mtkNumber mwaits mlisted mdealtMany)), ((ma 3), .inl (E 0, 16, .inl mf3)), ((ma 5), .inl (E 1, 6400, .inl mf5)), ((ma 6), .inl (E 0, 6400, .inl mf6)), ((ma 7), .inl (E 0, 6400, .inl mf7)), ((ma 10), .inl (E 0, 6400, .inl mf10))]) [0, 1, 2, 3, 4, 5] (by decide) rfl
        exact W.iret (v := (-1)) hx hb hr (fun t ht hW => ⟨⟨(-1), (mf5, mf6, mf7), rfl, (by have hl0 := t_m1; (try dsimp only); first | exact Or.inl ⟨by omega, by omega, rfl, rfl, rfl⟩ | exact Or.inr (Or.inl ⟨by omega, by omega, rfl, rfl, rfl⟩)), by rw [ht]; exact hP9, hD9⟩, hS.F ht⟩) hS.2.2 dX9_compare_41
    ·
      try simp only [t_0] at hw_6
      refine W_top (y := .int 0) (by rw [hr_5]) ?_
      refine lv_if_eq (tgt := 40) hx hb dX9_compare_16 (by decide) (fun c_29 => ?_) (fun c_29 => absurd (by decide) c_29)
      refine lv_iconst (v := (-1)) hx hb dX9_compare_40 (by decide) ?_
      have hP9 := hP.sub (ws' := [(mh, .inr (9, G9 ma mcode mtoday moffs mmany msumW msumA msumR msumWW msumWA msumAA msumWR msumAR mupper mlower mrates mtaped mlaid mat mtk mtkAt mtkNumber mwaits mlisted mdealtMany)), ((ma 3), .inl (E 0, 16, .inl mf3)), ((ma 5), .inl (E 1, 6400, .inl mf5)), ((ma 6), .inl (E 0, 6400, .inl mf6)), ((ma 7), .inl (E 0, 6400, .inl mf7)), ((ma 10), .inl (E 0, 6400, .inl mf10))]) [0, 1, 2, 3, 4, 5] rfl
      have hD9 := hD.sub (ws' := [(mh, .inr (9, G9 ma mcode mtoday moffs mmany msumW msumA msumR msumWW msumWA msumAA msumWR msumAR mupper mlower mrates mtaped mlaid mat mtk mtkAt mtkNumber mwaits mlisted mdealtMany)), ((ma 3), .inl (E 0, 16, .inl mf3)), ((ma 5), .inl (E 1, 6400, .inl mf5)), ((ma 6), .inl (E 0, 6400, .inl mf6)), ((ma 7), .inl (E 0, 6400, .inl mf7)), ((ma 10), .inl (E 0, 6400, .inl mf10))]) [0, 1, 2, 3, 4, 5] (by decide) rfl
      exact W.iret (v := (-1)) hx hb hr (fun t ht hW => ⟨⟨(-1), (mf5, mf6, mf7), rfl, (by have hl0 := t_m1; (try dsimp only); first | exact Or.inl ⟨by omega, by omega, rfl, rfl, rfl⟩ | exact Or.inr (Or.inl ⟨by omega, by omega, rfl, rfl, rfl⟩)), by rw [ht]; exact hP9, hD9⟩, hS.F ht⟩) hS.2.2 dX9_compare_41
  ·
    refine W_top (y := .int 0) (by rw [hr_1]) ?_
    refine lv_if_eq (tgt := 40) hx hb dX9_compare_4 (by decide) (fun c_30 => ?_) (fun c_30 => absurd (by decide) c_30)
    refine lv_iconst (v := (-1)) hx hb dX9_compare_40 (by decide) ?_
    have hP9 := hP.sub (ws' := [(mh, .inr (9, G9 ma mcode mtoday moffs mmany msumW msumA msumR msumWW msumWA msumAA msumWR msumAR mupper mlower mrates mtaped mlaid mat mtk mtkAt mtkNumber mwaits mlisted mdealtMany)), ((ma 3), .inl (E 0, 16, .inl mf3)), ((ma 5), .inl (E 1, 6400, .inl mf5)), ((ma 6), .inl (E 0, 6400, .inl mf6)), ((ma 7), .inl (E 0, 6400, .inl mf7)), ((ma 10), .inl (E 0, 6400, .inl mf10))]) [0, 1, 2, 3, 4, 5] rfl
    have hD9 := hD.sub (ws' := [(mh, .inr (9, G9 ma mcode mtoday moffs mmany msumW msumA msumR msumWW msumWA msumAA msumWR msumAR mupper mlower mrates mtaped mlaid mat mtk mtkAt mtkNumber mwaits mlisted mdealtMany)), ((ma 3), .inl (E 0, 16, .inl mf3)), ((ma 5), .inl (E 1, 6400, .inl mf5)), ((ma 6), .inl (E 0, 6400, .inl mf6)), ((ma 7), .inl (E 0, 6400, .inl mf7)), ((ma 10), .inl (E 0, 6400, .inl mf10))]) [0, 1, 2, 3, 4, 5] (by decide) rfl
    exact W.iret (v := (-1)) hx hb hr (fun t ht hW => ⟨⟨(-1), (mf5, mf6, mf7), rfl, (by have hl0 := t_m1; (try dsimp only); first | exact Or.inl ⟨by omega, by omega, rfl, rfl, rfl⟩ | exact Or.inr (Or.inl ⟨by omega, by omega, rfl, rfl, rfl⟩)), by rw [ht]; exact hP9, hD9⟩, hS.F ht⟩) hS.2.2 dX9_compare_41
