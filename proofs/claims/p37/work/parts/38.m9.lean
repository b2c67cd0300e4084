set_option maxHeartbeats 4000000 in
set_option maxRecDepth 100000 in
theorem g_X9_isWay (l : Launch) (D : va_G) (E : Nat → Nat) (mh : Nat) (ma : Nat → Nat) (mcode : Int32) (mtoday : Int32) (moffs : Int32) (mmany : Int64) (msumW : Int64) (msumA : Int64) (msumR : Int64) (msumWW : Int64) (msumWA : Int64) (msumAA : Int64) (msumWR : Int64) (msumAR : Int64) (mupper : Int64) (mlower : Int64) (mrates : Int32) (mtaped : Int32) (mlaid : Int32) (mat : Int32) (mtk : Int32) (mtkAt : Int32) (mtkNumber : Int32) (mwaits : Int32) (mlisted : Int32) (mdealtMany : Int32) (mf65 : Nat → Int32) (mf67 : Nat → Int32) (p0 : Int32) (sz : Nat) (hi_m : (0 ≤ mtoday.toInt ∧ mtoday.toInt ≤ 399) ∧ (0 ≤ moffs.toInt ∧ moffs.toInt ≤ 60) ∧ (0 ≤ mrates.toInt ∧ mrates.toInt ≤ 60) ∧ (0 ≤ mtaped.toInt ∧ mtaped.toInt ≤ 120) ∧ (0 ≤ mlisted.toInt ∧ mlisted.toInt ≤ 9) ∧ (0 ≤ mdealtMany.toInt ∧ mdealtMany.toInt ≤ 9)) (hr_m65 : ∀ k : Nat, k < 9 → 0 ≤ (mf65 k).toInt ∧ (mf65 k).toInt ≤ 3) (g0 : 1 ≤ p0.toInt ∧ p0.toInt ≤ 3) : Met l yX9_isWay (wl yX9_isWay cX9_isWay 3 (some .boolean)) (RM 0 0 0) (mu_P D E [.ref mh, .int p0] [(mh, .inr (9, G9 ma mcode mtoday moffs mmany msumW msumA msumR msumWW msumWA msumAA msumWR msumAR mupper mlower mrates mtaped mlaid mat mtk mtkAt mtkNumber mwaits mlisted mdealtMany)), ((ma 65), .inl (E 0, 9, .inl mf65)), ((ma 67), .inl (E 0, 3, .inl mf67))] sz) (va_Qi (fun (r : Int32) (u : (Nat → Int32)) => True) (mu_B D (va_A [(mh, .inr (9, G9 ma mcode mtoday moffs mmany msumW msumA msumR msumWW msumWA msumAA msumWR msumAR mupper mlower mrates mtaped mlaid mat mtk mtkAt mtkNumber mwaits mlisted mdealtMany)), ((ma 65), .inl (E 0, 9, .inl mf65)), ((ma 67), .inl (E 0, 3, .inl mf67))] sz) (fun (u : (Nat → Int32)) => [(mh, .inr (9, G9 ma mcode mtoday moffs mmany msumW msumA msumR msumWW msumWA msumAA msumWR msumAR mupper mlower mrates mtaped mlaid mat mtk mtkAt mtkNumber mwaits mlisted mdealtMany)), ((ma 65), .inl (E 0, 9, .inl mf65)), ((ma 67), .inl (E 0, 3, .inl u))])) (va_A [(mh, .inr (9, G9 ma mcode mtoday moffs mmany msumW msumA msumR msumWW msumWA msumAA msumWR msumAR mupper mlower mrates mtaped mlaid mat mtk mtkAt mtkNumber mwaits mlisted mdealtMany)), ((ma 65), .inl (E 0, 9, .inl mf65)), ((ma 67), .inl (E 0, 3, .inl mf67))] sz)) 0 0 (va_A [(mh, .inr (9, G9 ma mcode mtoday moffs mmany msumW msumA msumR msumWW msumWA msumAA msumWR msumAR mupper mlower mrates mtaped mlaid mat mtk mtkAt mtkNumber mwaits mlisted mdealtMany)), ((ma 65), .inl (E 0, 9, .inl mf65)), ((ma 67), .inl (E 0, 3, .inl mf67))] sz) := by
  refine Met.ofW (cc := cX9_isWay) (maxL := 3) (ret := (some .boolean)) (by decide) rfl ?_
  intro p e s m args below meth c s₁ B hml hv
  obtain ⟨rfl, hsz, hP, hK, hD0⟩ := hv
  have hx := B.exec; have hb := B.bytes; have hr := B.returns
  have hts := atoms_spec (ws := wl yX9_isWay cX9_isWay 3 (some .boolean)) B.pre
  have htb : ∀ w ∈ tb, w.before _ s = true := fun w h => hts w (List.mem_cons_of_mem _ h)
  have hown : s.vm.findClass RX9 = some m.cls := findClass_of_methodNamed B.named
  have hlocks := B.notSynchronized
  subst hsz
  have hD := hD0.self (sz := s.heap.size)
  generalize hAe : va_A [(mh, .inr (9, G9 ma mcode mtoday moffs mmany msumW msumA msumR msumWW msumWA msumAA msumWR msumAR mupper mlower mrates mtaped mlaid mat mtk mtkAt mtkNumber mwaits mlisted mdealtMany)), ((ma 65), .inl (E 0, 9, .inl mf65)), ((ma 67), .inl (E 0, 3, .inl mf67))] s.heap.size = A at hD ⊢
  have hA : ∀ q : Nat, s.heap.size ≤ q → A q := fun q h => by rw [← hAe]; exact Or.inr h
  have hS : va_S A s.heap s.heap [] := va_S.rf
  have hP : va_P D vwCl [(mh, .inr (9, G9 ma mcode mtoday moffs mmany msumW msumA msumR msumWW msumWA msumAA msumWR msumAR mupper mlower mrates mtaped mlaid mat mtk mtkAt mtkNumber mwaits mlisted mdealtMany)), ((ma 65), .inl (E 0, 9, .inl mf65)), ((ma 67), .inl (E 0, 3, .inl mf67))] s.heap := hP
  have hl := lv_entry ([.ref mh, .int p0]) (n := 3) (Nat.le_of_ble_eq_true rfl)
  rw [lg_entry_eq]
  generalize (lg_sl ([.ref mh, .int p0]) ++ List.replicate (3 - (lg_sl ([.ref mh, .int p0])).length) Slot.unset).toArray = ls at hl ⊢
  have hl : lv_has ls 3 [(0, .ref mh), (1, .int p0)] := hl
  have lo_p0 := i_lo p0; have hi_p0 := i_hi p0
  refine lv_iconst (v := 0) hx hb dX9_isWay_0 (by decide) ?_
  refine lv_istore_n (lv' := [(2, .int 0), (0, .ref mh), (1, .int p0)]) hx hb dX9_isWay_1 rfl hl (by decide) rfl (fun ls hl => ?_)
  have loop_1 : ∀ (N_3 : Nat) (L2_2 : Int32) (mf67_2 : Nat → Int32) (H : Heap) (locs : List Loc) (ls : Array Slot), 3 - L2_2.toInt < (N_3 : Int) → (0 ≤ L2_2.toInt ∧ L2_2.toInt ≤ 3) → va_P D vwCl [(mh, .inr (9, G9 ma mcode mtoday moffs mmany msumW msumA msumR msumWW msumWA msumAA msumWR msumAR mupper mlower mrates mtaped mlaid mat mtk mtkAt mtkNumber mwaits mlisted mdealtMany)), ((ma 65), .inl (E 0, 9, .inl mf65)), ((ma 67), .inl (E 0, 3, .inl mf67_2))] H → va_D A [(mh, .inr (9, G9 ma mcode mtoday moffs mmany msumW msumA msumR msumWW msumWA msumAA msumWR msumAR mupper mlower mrates mtaped mlaid mat mtk mtkAt mtkNumber mwaits mlisted mdealtMany)), ((ma 65), .inl (E 0, 9, .inl mf65)), ((ma 67), .inl (E 0, 3, .inl mf67_2))] → va_S A s.heap H locs → lv_has ls 3 [(2, .int L2_2), (0, .ref mh), (1, .int p0)] → W p l e (headSpec (wl yX9_isWay cX9_isWay 3 (some .boolean)) (RM 0 0 0)).room s m [Value.ref mh, .int p0].toArray below meth c H locs 0 0 (MQ below (va_Qi (fun (r : Int32) (u : (Nat → Int32)) => True) (mu_B D A (fun (u : (Nat → Int32)) => [(mh, .inr (9, G9 ma mcode mtoday moffs mmany msumW msumA msumR msumWW msumWA msumAA msumWR msumAR mupper mlower mrates mtaped mlaid mat mtk mtkAt mtkNumber mwaits mlisted mdealtMany)), ((ma 65), .inl (E 0, 9, .inl mf65)), ((ma 67), .inl (E 0, 3, .inl u))])) A) [Value.ref mh, .int p0].toArray s 0 0 A) (F0 m 2 ls []) := by
    intro N_3
    induction N_3 with
    | zero => intro L2_2 mf67_2 H locs ls hm v0_2 _ _ _ _; exfalso; omega
    | succ N_3 ih_2 =>
      intro L2_2 mf67_2 H locs ls hm v0_2 hP hD hS hl
      have lo_L2_2 := i_lo L2_2; have hi_L2_2 := i_hi L2_2
      refine lv_iload_n hx hb dX9_isWay_2 rfl (lv_at hl 0 rfl) ?_
      refine lv_iconst (v := 3) hx hb dX9_isWay_3 (by decide) ?_
      refine lv_icmp_ge (tgt := 20) hx hb dX9_isWay_4 (by decide) (fun c_4 => ?_) (fun c_4 => ?_)
      ·
        have ic_4 : 3 ≤ L2_2.toInt := by first | exact (g_le t_3 rfl).mp c_4 | (have h := mt (g_lt rfl t_3).mpr c_4; omega)
        clear c_4
        refine lv_iconst (v := 0) hx hb dX9_isWay_20 (by decide) ?_
        refine lv_istore_n (lv' := [(2, .int 0), (0, .ref mh), (1, .int p0)]) hx hb dX9_isWay_21 rfl hl (by decide) rfl (fun ls hl => ?_)
        have loop_5 : ∀ (N_7 : Nat) (L2_22 : Int32) (mf67_22 : Nat → Int32) (H : Heap) (locs : List Loc) (ls : Array Slot), mlisted.toInt - L2_22.toInt < (N_7 : Int) → (0 ≤ L2_22.toInt ∧ L2_22.toInt ≤ mlisted.toInt) → va_P D vwCl [(mh, .inr (9, G9 ma mcode mtoday moffs mmany msumW msumA msumR msumWW msumWA msumAA msumWR msumAR mupper mlower mrates mtaped mlaid mat mtk mtkAt mtkNumber mwaits mlisted mdealtMany)), ((ma 65), .inl (E 0, 9, .inl mf65)), ((ma 67), .inl (E 0, 3, .inl mf67_22))] H → va_D A [(mh, .inr (9, G9 ma mcode mtoday moffs mmany msumW msumA msumR msumWW msumWA msumAA msumWR msumAR mupper mlower mrates mtaped mlaid mat mtk mtkAt mtkNumber mwaits mlisted mdealtMany)), ((ma 65), .inl (E 0, 9, .inl mf65)), ((ma 67), .inl (E 0, 3, .inl mf67_22))] → va_S A s.heap H locs → lv_has ls 3 [(2, .int L2_22), (0, .ref mh), (1, .int p0)] → W p l e (headSpec (wl yX9_isWay cX9_isWay 3 (some .boolean)) (RM 0 0 0)).room s m [Value.ref mh, .int p0].toArray below meth c H locs 0 0 (MQ below (va_Qi (fun (r : Int32) (u : (Nat → Int32)) => True) (mu_B D A (fun (u : (Nat → Int32)) => [(mh, .inr (9, G9 ma mcode mtoday moffs mmany msumW msumA msumR msumWW msumWA msumAA msumWR msumAR mupper mlower mrates mtaped mlaid mat mtk mtkAt mtkNumber mwaits mlisted mdealtMany)), ((ma 65), .inl (E 0, 9, .inl mf65)), ((ma 67), .inl (E 0, 3, .inl u))])) A) [Value.ref mh, .int p0].toArray s 0 0 A) (F0 m 22 ls []) := by
          intro N_7
          induction N_7 with
          | zero => intro L2_22 mf67_22 H locs ls hm v0_22 _ _ _ _; exfalso; omega
          | succ N_7 ih_6 =>
            intro L2_22 mf67_22 H locs ls hm v0_22 hP hD hS hl
            have lo_L2_22 := i_lo L2_22; have hi_L2_22 := i_hi L2_22
            refine lv_iload_n hx hb dX9_isWay_22 rfl (lv_at hl 0 rfl) ?_
            refine lv_aload_n hx hb dX9_isWay_23 rfl (lv_at hl 1 rfl) ?_
            refine va_get (D := D) (ci := 9) (v := .int mlisted) (C := RX9) (T := TX9) (N := 68) hx hb htb iX9 hown hK.1 hP 0 rfl rfl 61 (by decide) (htb _ k_1019) (fun _ h9 => h9) rfl dX9_isWay_24 ?_
            refine lv_icmp_ge (tgt := 76) hx hb dX9_isWay_27 (by decide) (fun c_8 => ?_) (fun c_8 => ?_)
            ·
              have ic_8 : mlisted.toInt ≤ L2_22.toInt := by first | exact (g_le rfl rfl).mp c_8 | (have h := mt (g_lt rfl rfl).mpr c_8; omega)
              clear c_8
              refine lv_iconst (v := 0) hx hb dX9_isWay_76 (by decide) ?_
              refine lv_istore_n (lv' := [(2, .int 0), (0, .ref mh), (1, .int p0)]) hx hb dX9_isWay_77 rfl hl (by decide) rfl (fun ls hl => ?_)
              have loop_9 : ∀ (N_11 : Nat) (L2_78 : Int32) (H : Heap) (locs : List Loc) (ls : Array Slot), p0.toInt - L2_78.toInt < (N_11 : Int) → (0 ≤ L2_78.toInt ∧ L2_78.toInt ≤ p0.toInt) → va_P D vwCl [(mh, .inr (9, G9 ma mcode mtoday moffs mmany msumW msumA msumR msumWW msumWA msumAA msumWR msumAR mupper mlower mrates mtaped mlaid mat mtk mtkAt mtkNumber mwaits mlisted mdealtMany)), ((ma 65), .inl (E 0, 9, .inl mf65)), ((ma 67), .inl (E 0, 3, .inl mf67_22))] H → va_D A [(mh, .inr (9, G9 ma mcode mtoday moffs mmany msumW msumA msumR msumWW msumWA msumAA msumWR msumAR mupper mlower mrates mtaped mlaid mat mtk mtkAt mtkNumber mwaits mlisted mdealtMany)), ((ma 65), .inl (E 0, 9, .inl mf65)), ((ma 67), .inl (E 0, 3, .inl mf67_22))] → va_S A s.heap H locs → lv_has ls 3 [(2, .int L2_78), (0, .ref mh), (1, .int p0)] → W p l e (headSpec (wl yX9_isWay cX9_isWay 3 (some .boolean)) (RM 0 0 0)).room s m [Value.ref mh, .int p0].toArray below meth c H locs 0 0 (MQ below (va_Qi (fun (r : Int32) (u : (Nat → Int32)) => True) (mu_B D A (fun (u : (Nat → Int32)) => [(mh, .inr (9, G9 ma mcode mtoday moffs mmany msumW msumA msumR msumWW msumWA msumAA msumWR msumAR mupper mlower mrates mtaped mlaid mat mtk mtkAt mtkNumber mwaits mlisted mdealtMany)), ((ma 65), .inl (E 0, 9, .inl mf65)), ((ma 67), .inl (E 0, 3, .inl u))])) A) [Value.ref mh, .int p0].toArray s 0 0 A) (F0 m 78 ls []) := by
                intro N_11
                induction N_11 with
                | zero => intro L2_78 H locs ls hm v0_78 _ _ _ _; exfalso; omega
                | succ N_11 ih_10 =>
                  intro L2_78 H locs ls hm v0_78 hP hD hS hl
                  have lo_L2_78 := i_lo L2_78; have hi_L2_78 := i_hi L2_78
                  refine lv_iload_n hx hb dX9_isWay_78 rfl (lv_at hl 0 rfl) ?_
                  refine lv_iload_n hx hb dX9_isWay_79 rfl (lv_at hl 2 rfl) ?_
                  refine lv_icmp_ge (tgt := 101) hx hb dX9_isWay_80 (by decide) (fun c_12 => ?_) (fun c_12 => ?_)
                  ·
                    have ic_12 : p0.toInt ≤ L2_78.toInt := by first | exact (g_le rfl rfl).mp c_12 | (have h := mt (g_lt rfl rfl).mpr c_12; omega)
                    clear c_12
                    refine lv_iconst (v := 1) hx hb dX9_isWay_101 (by decide) ?_
                    have hP9 := hP.sub (ws' := [(mh, .inr (9, G9 ma mcode mtoday moffs mmany msumW msumA msumR msumWW msumWA msumAA msumWR msumAR mupper mlower mrates mtaped mlaid mat mtk mtkAt mtkNumber mwaits mlisted mdealtMany)), ((ma 65), .inl (E 0, 9, .inl mf65)), ((ma 67), .inl (E 0, 3, .inl mf67_22))]) [0, 1, 2] rfl
                    have hD9 := hD.sub (ws' := [(mh, .inr (9, G9 ma mcode mtoday moffs mmany msumW msumA msumR msumWW msumWA msumAA msumWR msumAR mupper mlower mrates mtaped mlaid mat mtk mtkAt mtkNumber mwaits mlisted mdealtMany)), ((ma 65), .inl (E 0, 9, .inl mf65)), ((ma 67), .inl (E 0, 3, .inl mf67_22))]) [0, 1, 2] (by decide) rfl
                    exact W.zret (v := 1) hx hb hr rfl (fun t ht hW => ⟨⟨1, mf67_22, rfl, trivial, by rw [ht]; exact hP9, hD9⟩, hS.F ht⟩) hS.2.2 dX9_isWay_102
                  ·
                    have ic_12 : L2_78.toInt < p0.toInt := by first | exact (g_lt rfl rfl).mp c_12 | (have h := mt (g_le rfl rfl).mpr c_12; omega)
                    clear c_12
                    refine lv_aload_n hx hb dX9_isWay_83 rfl (lv_at hl 1 rfl) ?_
                    refine va_get (D := D) (ci := 9) (v := .ref (ma 67)) (C := RX9) (T := TX9) (N := 68) hx hb htb iX9 hown hK.1 hP 0 rfl rfl 67 (by decide) (htb _ k_1025) (fun _ h9 => h9) rfl dX9_isWay_84 ?_
                    refine lv_iload_n hx hb dX9_isWay_87 rfl (lv_at hl 0 rfl) ?_
                    refine va_iald hx hb hK.1 hP 2 0 rfl rfl (g_in rfl (by omega) (by omega)) dX9_isWay_88 ?_
                    refine lv_topi (fun z_13 ez_13 => ?_)
                    have kz_13 := congrArg Int32.toInt ez_13
                    refine lv_iconst (v := 3) hx hb dX9_isWay_89 (by decide) ?_
                    refine lv_icmp_eq (tgt := 95) hx hb dX9_isWay_90 (by decide) (fun c_14 => ?_) (fun c_14 => ?_)
                    ·
                      have ic_14 : z_13.toInt = 3 := (g_eq rfl t_3).mp c_14
                      clear c_14
                      obtain ⟨z_15, ez_15⟩ : ∃ y : Int32, y = L2_78 + 1 := ⟨_, rfl⟩
                      have jz_15 : z_15.toInt = L2_78.toInt + 1 := by rw [ez_15]; exact g_add rfl t_1 (by omega) (by omega)
                      refine lv_iinc (v := z_15) (lv' := [(2, .int z_15), (0, .ref mh), (1, .int p0)]) hx hb dX9_isWay_95 hl (k := 0) rfl (by rw [ez_15]; rfl) (by decide) rfl (fun ls hl => ?_)
                      refine lv_goto (tgt := 78) hx hb dX9_isWay_98 (by decide) ?_
                      exact ih_10 z_15 _ _ _ (by (try dsimp only); omega) (by (try dsimp only); omega) hP hD hS (lv_sub hl [0, 1, 2] rfl)
                    ·
                      have ic_14 : z_13.toInt ≠ 3 := mt (g_eq rfl t_3).mpr c_14
                      clear c_14
                      refine lv_iconst (v := 0) hx hb dX9_isWay_93 (by decide) ?_
                      have hP9 := hP.sub (ws' := [(mh, .inr (9, G9 ma mcode mtoday moffs mmany msumW msumA msumR msumWW msumWA msumAA msumWR msumAR mupper mlower mrates mtaped mlaid mat mtk mtkAt mtkNumber mwaits mlisted mdealtMany)), ((ma 65), .inl (E 0, 9, .inl mf65)), ((ma 67), .inl (E 0, 3, .inl mf67_22))]) [0, 1, 2] rfl
                      have hD9 := hD.sub (ws' := [(mh, .inr (9, G9 ma mcode mtoday moffs mmany msumW msumA msumR msumWW msumWA msumAA msumWR msumAR mupper mlower mrates mtaped mlaid mat mtk mtkAt mtkNumber mwaits mlisted mdealtMany)), ((ma 65), .inl (E 0, 9, .inl mf65)), ((ma 67), .inl (E 0, 3, .inl mf67_22))]) [0, 1, 2] (by decide) rfl
                      exact W.zret (v := 0) hx hb hr rfl (fun t ht hW => ⟨⟨0, mf67_22, rfl, trivial, by rw [ht]; exact hP9, hD9⟩, hS.F ht⟩) hS.2.2 dX9_isWay_94
              exact loop_9 4 0 _ _ _ (by have h0 := t_0; (try dsimp only); omega) (by have h0 := t_0; (try dsimp only); omega) hP hD hS (lv_sub hl [0, 1, 2] rfl)
            ·
              have ic_8 : L2_22.toInt < mlisted.toInt := by first | exact (g_lt rfl rfl).mp c_8 | (have h := mt (g_le rfl rfl).mpr c_8; omega)
              clear c_8
              refine lv_aload_n hx hb dX9_isWay_30 rfl (lv_at hl 1 rfl) ?_
              refine va_get (D := D) (ci := 9) (v := .ref (ma 65)) (C := RX9) (T := TX9) (N := 68) hx hb htb iX9 hown hK.1 hP 0 rfl rfl 65 (by decide) (htb _ k_1023) (fun _ h9 => h9) rfl dX9_isWay_31 ?_
              refine lv_iload_n hx hb dX9_isWay_34 rfl (lv_at hl 0 rfl) ?_
              refine va_iald hx hb hK.1 hP 1 0 rfl rfl (g_in rfl (by omega) (by omega)) dX9_isWay_35 ?_
              refine lv_topi (fun z_16 ez_16 => ?_)
              have kz_16 := congrArg Int32.toInt ez_16
              have jz_16 : 0 ≤ z_16.toInt ∧ z_16.toInt ≤ 3 := by rw [ez_16]; exact hr_m65 _ (g_ix rfl (by omega) (by omega))
              refine lv_iconst (v := 3) hx hb dX9_isWay_36 (by decide) ?_
              refine lv_icmp_ne (tgt := 43) hx hb dX9_isWay_37 (by decide) (fun c_17 => ?_) (fun c_17 => ?_)
              ·
                have ic_17 : z_16.toInt ≠ 3 := mt (g_eq rfl t_3).mpr c_17
                clear c_17
                refine lv_aload_n hx hb dX9_isWay_43 rfl (lv_at hl 1 rfl) ?_
                refine va_get (D := D) (ci := 9) (v := .ref (ma 65)) (C := RX9) (T := TX9) (N := 68) hx hb htb iX9 hown hK.1 hP 0 rfl rfl 65 (by decide) (htb _ k_1023) (fun _ h9 => h9) rfl dX9_isWay_44 ?_
                refine lv_iload_n hx hb dX9_isWay_47 rfl (lv_at hl 0 rfl) ?_
                refine va_iald hx hb hK.1 hP 1 0 rfl rfl (g_in rfl (by omega) (by omega)) dX9_isWay_48 ?_
                refine lv_topi (fun z_18 ez_18 => ?_)
                have kz_18 := congrArg Int32.toInt ez_18
                have jz_18 : 0 ≤ z_18.toInt ∧ z_18.toInt ≤ 3 := by rw [ez_18]; exact hr_m65 _ (g_ix rfl (by omega) (by omega))
                refine lv_iload_n hx hb dX9_isWay_49 rfl (lv_at hl 2 rfl) ?_
                refine lv_icmp_lt (tgt := 55) hx hb dX9_isWay_50 (by decide) (fun c_19 => ?_) (fun c_19 => ?_)
                ·
                  have ic_19 : z_18.toInt < p0.toInt := by first | exact (g_lt rfl rfl).mp c_19 | (have h := mt (g_le rfl rfl).mpr c_19; omega)
                  clear c_19
                  refine lv_aload_n hx hb dX9_isWay_55 rfl (lv_at hl 1 rfl) ?_
                  refine va_get (D := D) (ci := 9) (v := .ref (ma 67)) (C := RX9) (T := TX9) (N := 68) hx hb htb iX9 hown hK.1 hP 0 rfl rfl 67 (by decide) (htb _ k_1025) (fun _ h9 => h9) rfl dX9_isWay_56 ?_
                  refine lv_aload_n hx hb dX9_isWay_59 rfl (lv_at hl 1 rfl) ?_
                  refine va_get (D := D) (ci := 9) (v := .ref (ma 65)) (C := RX9) (T := TX9) (N := 68) hx hb htb iX9 hown hK.1 hP 0 rfl rfl 65 (by decide) (htb _ k_1023) (fun _ h9 => h9) rfl dX9_isWay_60 ?_
                  refine lv_iload_n hx hb dX9_isWay_63 rfl (lv_at hl 0 rfl) ?_
                  refine va_iald hx hb hK.1 hP 1 0 rfl rfl (g_in rfl (by omega) (by omega)) dX9_isWay_64 ?_
                  refine lv_topi (fun z_20 ez_20 => ?_)
                  have kz_20 := congrArg Int32.toInt ez_20
                  have jz_20 : 0 ≤ z_20.toInt ∧ z_20.toInt ≤ 3 := by rw [ez_20]; exact hr_m65 _ (g_ix rfl (by omega) (by omega))
                  refine lv_dup2_11 hx hb dX9_isWay_65 rfl rfl ?_
                  refine va_iald hx hb hK.1 hP 2 0 rfl rfl (g_in rfl (by omega) (by omega)) dX9_isWay_66 ?_
                  refine lv_topi (fun z_21 ez_21 => ?_)
                  have kz_21 := congrArg Int32.toInt ez_21
                  refine lv_iconst (v := 1) hx hb dX9_isWay_67 (by decide) ?_
                  refine lv_iadd hx hb dX9_isWay_68 ?_
                  refine lv_topi (fun z_22 ez_22 => ?_)
                  refine va_iast hx hb hK.1 hP hD hS 2 0 rfl rfl (g_in rfl (by omega) (by omega)) dX9_isWay_69 (fun H locs hP hD hS => ?_)
                  have hP : va_P D vwCl [(mh, .inr (9, G9 ma mcode mtoday moffs mmany msumW msumA msumR msumWW msumWA msumAA msumWR msumAR mupper mlower mrates mtaped mlaid mat mtk mtkAt mtkNumber mwaits mlisted mdealtMany)), ((ma 65), .inl (E 0, 9, .inl mf65)), ((ma 67), .inl (E 0, 3, .inl (upd mf67_22 (z_20 : Int32).toNatClampNeg z_22)))] H := hP
                  have hD := toW hP hD rfl
                  obtain ⟨z_23, ez_23⟩ : ∃ y : Int32, y = L2_22 + 1 := ⟨_, rfl⟩
                  have jz_23 : z_23.toInt = L2_22.toInt + 1 := by rw [ez_23]; exact g_add rfl t_1 (by omega) (by omega)
                  refine lv_iinc (v := z_23) (lv' := [(2, .int z_23), (0, .ref mh), (1, .int p0)]) hx hb dX9_isWay_70 hl (k := 0) rfl (by rw [ez_23]; rfl) (by decide) rfl (fun ls hl => ?_)
                  refine lv_goto (tgt := 22) hx hb dX9_isWay_73 (by decide) ?_
                  exact ih_6 z_23 (upd mf67_22 (z_20 : Int32).toNatClampNeg z_22) _ _ _ (by (try dsimp only); omega) (by (try dsimp only); omega) hP hD hS (lv_sub hl [0, 1, 2] rfl)
                ·
                  have ic_19 : p0.toInt ≤ z_18.toInt := by first | exact (g_le rfl rfl).mp c_19 | (have h := mt (g_lt rfl rfl).mpr c_19; omega)
                  clear c_19
                  refine lv_iconst (v := 0) hx hb dX9_isWay_53 (by decide) ?_
                  have hP9 := hP.sub (ws' := [(mh, .inr (9, G9 ma mcode mtoday moffs mmany msumW msumA msumR msumWW msumWA msumAA msumWR msumAR mupper mlower mrates mtaped mlaid mat mtk mtkAt mtkNumber mwaits mlisted mdealtMany)), ((ma 65), .inl (E 0, 9, .inl mf65)), ((ma 67), .inl (E 0, 3, .inl mf67_22))]) [0, 1, 2] rfl
                  have hD9 := hD.sub (ws' := [(mh, .inr (9, G9 ma mcode mtoday moffs mmany msumW msumA msumR msumWW msumWA msumAA msumWR msumAR mupper mlower mrates mtaped mlaid mat mtk mtkAt mtkNumber mwaits mlisted mdealtMany)), ((ma 65), .inl (E 0, 9, .inl mf65)), ((ma 67), .inl (E 0, 3, .inl mf67_22))]) [0, 1, 2] (by decide) rfl
                  exact W.zret (v := 0) hx hb hr rfl (fun t ht hW => ⟨⟨0, mf67_22, rfl, trivial, by rw [ht]; exact hP9, hD9⟩, hS.F ht⟩) hS.2.2 dX9_isWay_54
              ·
                have ic_17 : z_16.toInt = 3 := (g_eq rfl t_3).mp c_17
                clear c_17
                refine lv_goto (tgt := 70) hx hb dX9_isWay_40 (by decide) ?_
                obtain ⟨z_24, ez_24⟩ : ∃ y : Int32, y = L2_22 + 1 := ⟨_, rfl⟩
                have jz_24 : z_24.toInt = L2_22.toInt + 1 := by rw [ez_24]; exact g_add rfl t_1 (by omega) (by omega)
                refine lv_iinc (v := z_24) (lv' := [(2, .int z_24), (0, .ref mh), (1, .int p0)]) hx hb dX9_isWay_70 hl (k := 0) rfl (by rw [ez_24]; rfl) (by decide) rfl (fun ls hl => ?_)
                refine lv_goto (tgt := 22) hx hb dX9_isWay_73 (by decide) ?_
                exact ih_6 z_24 mf67_22 _ _ _ (by (try dsimp only); omega) (by (try dsimp only); omega) hP hD hS (lv_sub hl [0, 1, 2] rfl)
        exact loop_5 10 0 mf67_2 _ _ _ (by have h0 := t_0; (try dsimp only); omega) (by have h0 := t_0; (try dsimp only); omega) hP hD hS (lv_sub hl [0, 1, 2] rfl)
      ·
        have ic_4 : L2_2.toInt < 3 := by first | exact (g_lt rfl t_3).mp c_4 | (have h := mt (g_le t_3 rfl).mpr c_4; omega)
        clear c_4
        refine lv_aload_n hx hb dX9_isWay_7 rfl (lv_at hl 1 rfl) ?_
        refine va_get (D := D) (ci := 9) (v := .ref (ma 67)) (C := RX9) (T := TX9) (N := 68) hx hb htb iX9 hown hK.1 hP 0 rfl rfl 67 (by decide) (htb _ k_1025) (fun _ h9 => h9) rfl dX9_isWay_8 ?_
        refine lv_iload_n hx hb dX9_isWay_11 rfl (lv_at hl 0 rfl) ?_
        refine lv_iconst (v := 0) hx hb dX9_isWay_12 (by decide) ?_
        refine va_iast hx hb hK.1 hP hD hS 2 0 rfl rfl (g_in rfl (by omega) (by omega)) dX9_isWay_13 (fun H locs hP hD hS => ?_)
        have hP : va_P D vwCl [(mh, .inr (9, G9 ma mcode mtoday moffs mmany msumW msumA msumR msumWW msumWA msumAA msumWR msumAR mupper mlower mrates mtaped mlaid mat mtk mtkAt mtkNumber mwaits mlisted mdealtMany)), ((ma 65), .inl (E 0, 9, .inl mf65)), ((ma 67), .inl (E 0, 3, .inl (upd mf67_2 (L2_2 : Int32).toNatClampNeg 0)))] H := hP
        have hD := toW hP hD rfl
        obtain ⟨z_25, ez_25⟩ : ∃ y : Int32, y = L2_2 + 1 := ⟨_, rfl⟩
        have jz_25 : z_25.toInt = L2_2.toInt + 1 := by rw [ez_25]; exact g_add rfl t_1 (by omega) (by omega)
        refine lv_iinc (v := z_25) (lv' := [(2, .int z_25), (0, .ref mh), (1, .int p0)]) hx hb dX9_isWay_14 hl (k := 0) rfl (by rw [ez_25]; rfl) (by decide) rfl (fun ls hl => ?_)
        refine lv_goto (tgt := 2) hx hb dX9_isWay_17 (by decide) ?_
        exact ih_2 z_25 (upd mf67_2 (L2_2 : Int32).toNatClampNeg 0) _ _ _ (by (try dsimp only); omega) (by (try dsimp only); omega) hP hD hS (lv_sub hl [0, 1, 2] rfl)
  exact loop_1 4 0 mf67 _ _ _ (by have h0 := t_0; (try dsimp only); omega) (by have h0 := t_0; (try dsimp only); omega) hP hD hS (lv_sub hl [0, 1, 2] rfl)
set_option maxHeartbeats 4000000 in
set_option maxRecDepth 100000 in
theorem g_X9_deal (l : Launch) (D : va_G) (E : Nat → Nat) (mh : Nat) (ma : Nat → Nat) (mcode : Int32) (mtoday : Int32) (moffs : Int32) (mmany : Int64) (msumW : Int64) (msumA : Int64) (msumR : Int64) (msumWW : Int64) (msumWA : Int64) (msumAA : Int64) (msumWR : Int64) (msumAR : Int64) (mupper : Int64) (mlower : Int64) (mrates : Int32) (mtaped : Int32) (mlaid : Int32) (mat : Int32) (mtk : Int32) (mtkAt : Int32) (mtkNumber : Int32) (mwaits : Int32) (mlisted : Int32) (mdealtMany : Int32) (mf62 : Nat → Int32) (mf63 : Nat → Int32) (mf65 : Nat → Int32) (mf66 : Nat → Int32) (mf67 : Nat → Int32) (p0 : Int32) (p1 : Int32) (p2 : Int32) (sz : Nat) (hi_m : (0 ≤ mtoday.toInt ∧ mtoday.toInt ≤ 399) ∧ (0 ≤ moffs.toInt ∧ moffs.toInt ≤ 60) ∧ (0 ≤ mrates.toInt ∧ mrates.toInt ≤ 60) ∧ (0 ≤ mtaped.toInt ∧ mtaped.toInt ≤ 120) ∧ (0 ≤ mlisted.toInt ∧ mlisted.toInt ≤ 9) ∧ (0 ≤ mdealtMany.toInt ∧ mdealtMany.toInt ≤ 9)) (hr_m65 : ∀ k : Nat, k < 9 → 0 ≤ (mf65 k).toInt ∧ (mf65 k).toInt ≤ 3) : Met l yX9_deal (wl yX9_deal cX9_deal 9 (some .int)) (RM 1 0 0) (mu_P D E [.ref mh, .int p0, .int p1, .int p2] [(mh, .inr (9, G9 ma mcode mtoday moffs mmany msumW msumA msumR msumWW msumWA msumAA msumWR msumAR mupper mlower mrates mtaped mlaid mat mtk mtkAt mtkNumber mwaits mlisted mdealtMany)), ((ma 62), .inl (E 0, 9, .inl mf62)), ((ma 63), .inl (E 0, 9, .inl mf63)), ((ma 65), .inl (E 0, 9, .inl mf65)), ((ma 66), .inl (E 0, 3, .inl mf66)), ((ma 67), .inl (E 0, 3, .inl mf67))] sz) (va_Qi (fun (r : Int32) (u : (Nat → Int32) × (Nat → Int32) × (Nat → Int32) × (Nat → Int32) × (Int32) × (Int32)) => (∀ k : Nat, k < 9 → 0 ≤ (u.2.1 k).toInt ∧ (u.2.1 k).toInt ≤ 3) ∧ (0 ≤ u.2.2.2.2.1.toInt ∧ u.2.2.2.2.1.toInt ≤ 9) ∧ (0 ≤ u.2.2.2.2.2.toInt ∧ u.2.2.2.2.2.toInt ≤ 9) ∧ ((¬ ((1 ≤ p0.toInt ∧ p0.toInt ≤ 400) ∧ (0 ≤ p1.toInt ∧ p1.toInt ≤ 400) ∧ (0 ≤ p2.toInt ∧ p2.toInt ≤ 400) ∧ ¬ (p1.toInt = 0 ∧ p2.toInt ≠ 0)) ∧ r.toInt = -1 ∧ u.2.2.2.2.2.toInt = mlisted.toInt) ∨ (((1 ≤ p0.toInt ∧ p0.toInt ≤ 400) ∧ (0 ≤ p1.toInt ∧ p1.toInt ≤ 400) ∧ (0 ≤ p2.toInt ∧ p2.toInt ≤ 400) ∧ ¬ (p1.toInt = 0 ∧ p2.toInt ≠ 0)) ∧ ((p1.toInt = 0 ∧ mlisted.toInt < 3) ∨ (p1.toInt ≠ 0 ∧ p2.toInt = 0 ∧ mlisted.toInt < 6) ∨ (p1.toInt ≠ 0 ∧ p2.toInt ≠ 0 ∧ mlisted.toInt < 9)) ∧ r.toInt = -4 ∧ u.2.2.2.2.2.toInt = mlisted.toInt) ∨ (((1 ≤ p0.toInt ∧ p0.toInt ≤ 400) ∧ (0 ≤ p1.toInt ∧ p1.toInt ≤ 400) ∧ (0 ≤ p2.toInt ∧ p2.toInt ≤ 400) ∧ ¬ (p1.toInt = 0 ∧ p2.toInt ≠ 0)) ∧ ¬ ((p1.toInt = 0 ∧ mlisted.toInt < 3) ∨ (p1.toInt ≠ 0 ∧ p2.toInt = 0 ∧ mlisted.toInt < 6) ∨ (p1.toInt ≠ 0 ∧ p2.toInt ≠ 0 ∧ mlisted.toInt < 9)) ∧ u.2.2.2.2.2.toInt = 0))) (mu_B D (va_A [(mh, .inr (9, G9 ma mcode mtoday moffs mmany msumW msumA msumR msumWW msumWA msumAA msumWR msumAR mupper mlower mrates mtaped mlaid mat mtk mtkAt mtkNumber mwaits mlisted mdealtMany)), ((ma 62), .inl (E 0, 9, .inl mf62)), ((ma 63), .inl (E 0, 9, .inl mf63)), ((ma 65), .inl (E 0, 9, .inl mf65)), ((ma 66), .inl (E 0, 3, .inl mf66)), ((ma 67), .inl (E 0, 3, .inl mf67))] sz) (fun (u : (Nat → Int32) × (Nat → Int32) × (Nat → Int32) × (Nat → Int32) × (Int32) × (Int32)) => [(mh, .inr (9, G9 ma mcode mtoday moffs mmany msumW msumA msumR msumWW msumWA msumAA msumWR msumAR mupper mlower mrates mtaped mlaid mat mtk mtkAt mtkNumber mwaits u.2.2.2.2.2 u.2.2.2.2.1)), ((ma 62), .inl (E 0, 9, .inl mf62)), ((ma 63), .inl (E 0, 9, .inl u.1)), ((ma 65), .inl (E 0, 9, .inl u.2.1)), ((ma 66), .inl (E 0, 3, .inl u.2.2.1)), ((ma 67), .inl (E 0, 3, .inl u.2.2.2.1))])) (va_A [(mh, .inr (9, G9 ma mcode mtoday moffs mmany msumW msumA msumR msumWW msumWA msumAA msumWR msumAR mupper mlower mrates mtaped mlaid mat mtk mtkAt mtkNumber mwaits mlisted mdealtMany)), ((ma 62), .inl (E 0, 9, .inl mf62)), ((ma 63), .inl (E 0, 9, .inl mf63)), ((ma 65), .inl (E 0, 9, .inl mf65)), ((ma 66), .inl (E 0, 3, .inl mf66)), ((ma 67), .inl (E 0, 3, .inl mf67))] sz)) 0 0 (va_A [(mh, .inr (9, G9 ma mcode mtoday moffs mmany msumW msumA msumR msumWW msumWA msumAA msumWR msumAR mupper mlower mrates mtaped mlaid mat mtk mtkAt mtkNumber mwaits mlisted mdealtMany)), ((ma 62), .inl (E 0, 9, .inl mf62)), ((ma 63), .inl (E 0, 9, .inl mf63)), ((ma 65), .inl (E 0, 9, .inl mf65)), ((ma 66), .inl (E 0, 3, .inl mf66)), ((ma 67), .inl (E 0, 3, .inl mf67))] sz) := by
  refine Met.ofW (cc := cX9_deal) (maxL := 9) (ret := (some .int)) (by decide) rfl ?_
  intro p e s m args below meth c s₁ B hml hv
  obtain ⟨rfl, hsz, hP, hK, hD0⟩ := hv
  have hx := B.exec; have hb := B.bytes; have hr := B.returns
  have hts := atoms_spec (ws := wl yX9_deal cX9_deal 9 (some .int)) B.pre
  have htb : ∀ w ∈ tb, w.before _ s = true := fun w h => hts w (List.mem_cons_of_mem _ h)
  have hown : s.vm.findClass RX9 = some m.cls := findClass_of_methodNamed B.named
  have hlocks := B.notSynchronized
  subst hsz
  have hD := hD0.self (sz := s.heap.size)
  generalize hAe : va_A [(mh, .inr (9, G9 ma mcode mtoday moffs mmany msumW msumA msumR msumWW msumWA msumAA msumWR msumAR mupper mlower mrates mtaped mlaid mat mtk mtkAt mtkNumber mwaits mlisted mdealtMany)), ((ma 62), .inl (E 0, 9, .inl mf62)), ((ma 63), .inl (E 0, 9, .inl mf63)), ((ma 65), .inl (E 0, 9, .inl mf65)), ((ma 66), .inl (E 0, 3, .inl mf66)), ((ma 67), .inl (E 0, 3, .inl mf67))] s.heap.size = A at hD ⊢
  have hA : ∀ q : Nat, s.heap.size ≤ q → A q := fun q h => by rw [← hAe]; exact Or.inr h
  have hS : va_S A s.heap s.heap [] := va_S.rf
  have hP : va_P D vwCl [(mh, .inr (9, G9 ma mcode mtoday moffs mmany msumW msumA msumR msumWW msumWA msumAA msumWR msumAR mupper mlower mrates mtaped mlaid mat mtk mtkAt mtkNumber mwaits mlisted mdealtMany)), ((ma 62), .inl (E 0, 9, .inl mf62)), ((ma 63), .inl (E 0, 9, .inl mf63)), ((ma 65), .inl (E 0, 9, .inl mf65)), ((ma 66), .inl (E 0, 3, .inl mf66)), ((ma 67), .inl (E 0, 3, .inl mf67))] s.heap := hP
  have hl := lv_entry ([.ref mh, .int p0, .int p1, .int p2]) (n := 9) (Nat.le_of_ble_eq_true rfl)
  rw [lg_entry_eq]
  generalize (lg_sl ([.ref mh, .int p0, .int p1, .int p2]) ++ List.replicate (9 - (lg_sl ([.ref mh, .int p0, .int p1, .int p2])).length) Slot.unset).toArray = ls at hl ⊢
  have hl : lv_has ls 9 [(0, .ref mh), (1, .int p0), (2, .int p1), (3, .int p2)] := hl
  have lo_p0 := i_lo p0; have hi_p0 := i_hi p0
  have lo_p1 := i_lo p1; have hi_p1 := i_hi p1
  have lo_p2 := i_lo p2; have hi_p2 := i_hi p2
  refine lv_iload_n hx hb dX9_deal_0 rfl (lv_at hl 1 rfl) ?_
  refine lv_iconst (v := 1) hx hb dX9_deal_1 (by decide) ?_
  refine lv_sipush (v := 400) hx hb dX9_deal_2 (by decide) ?_
  refine callRS (rest := []) (As := [.int p0, .int 1, .int 400]) hx hb hml hown htb hK (g_X9_in l D E p0 1 400 ) ok_X9_in k_1168 k_1169 k_9 k_1170 ⟨(Nat.le_of_ble_eq_true rfl), (Nat.le_of_ble_eq_true rfl)⟩ ⟨(Nat.le_of_ble_eq_true rfl), (Nat.le_of_ble_eq_true rfl)⟩ hl.1 (Nat.le_of_ble_eq_true rfl) rfl rfl dX9_deal_5 (hP.sub (ws' := ([] : va_W)) [] rfl) (fun r_1 hw_2 => ?_)
  try simp only [t_1, t_400] at hw_2
  rcases hw_2 with ⟨hr_1, hw_2⟩ | ⟨hr_1, hw_2⟩
  ·
    try simp only [t_1, t_400] at hw_2
    refine W_top (y := .int 1) (by rw [hr_1]) ?_
    refine lv_if_eq (tgt := 41) hx hb dX9_deal_8 (by decide) (fun c_4 => absurd c_4 (by decide)) (fun c_4 => ?_)
    refine lv_iload_n hx hb dX9_deal_11 rfl (lv_at hl 2 rfl) ?_
    refine lv_iconst (v := 0) hx hb dX9_deal_12 (by decide) ?_
    refine lv_sipush (v := 400) hx hb dX9_deal_13 (by decide) ?_
    refine callRS (rest := []) (As := [.int p1, .int 0, .int 400]) hx hb hml hown htb hK (g_X9_in l D E p1 0 400 ) ok_X9_in k_1168 k_1169 k_9 k_1170 ⟨(Nat.le_of_ble_eq_true rfl), (Nat.le_of_ble_eq_true rfl)⟩ ⟨(Nat.le_of_ble_eq_true rfl), (Nat.le_of_ble_eq_true rfl)⟩ hl.1 (Nat.le_of_ble_eq_true rfl) rfl rfl dX9_deal_16 (hP.sub (ws' := ([] : va_W)) [] rfl) (fun r_5 hw_6 => ?_)
    try simp only [t_0, t_400] at hw_6
    rcases hw_6 with ⟨hr_5, hw_6⟩ | ⟨hr_5, hw_6⟩
    ·
      try simp only [t_0, t_400] at hw_6
      refine W_top (y := .int 1) (by rw [hr_5]) ?_
      refine lv_if_eq (tgt := 41) hx hb dX9_deal_19 (by decide) (fun c_8 => absurd c_8 (by decide)) (fun c_8 => ?_)
      refine lv_iload_n hx hb dX9_deal_22 rfl (lv_at hl 3 rfl) ?_
      refine lv_iconst (v := 0) hx hb dX9_deal_23 (by decide) ?_
      refine lv_sipush (v := 400) hx hb dX9_deal_24 (by decide) ?_
      refine callRS (rest := []) (As := [.int p2, .int 0, .int 400]) hx hb hml hown htb hK (g_X9_in l D E p2 0 400 ) ok_X9_in k_1168 k_1169 k_9 k_1170 ⟨(Nat.le_of_ble_eq_true rfl), (Nat.le_of_ble_eq_true rfl)⟩ ⟨(Nat.le_of_ble_eq_true rfl), (Nat.le_of_ble_eq_true rfl)⟩ hl.1 (Nat.le_of_ble_eq_true rfl) rfl rfl dX9_deal_27 (hP.sub (ws' := ([] : va_W)) [] rfl) (fun r_9 hw_10 => ?_)
      try simp only [t_0, t_400] at hw_10
      rcases hw_10 with ⟨hr_9, hw_10⟩ | ⟨hr_9, hw_10⟩
      ·
        try simp only [t_0, t_400] at hw_10
        refine W_top (y := .int 1) (by rw [hr_9]) ?_
        refine lv_if_eq (tgt := 41) hx hb dX9_deal_30 (by decide) (fun c_12 => absurd c_12 (by decide)) (fun c_12 => ?_)
        refine lv_iload_n hx hb dX9_deal_33 rfl (lv_at hl 2 rfl) ?_
        refine lv_if_ne (tgt := 43) hx hb dX9_deal_34 (by decide) (fun c_13 => ?_) (fun c_13 => ?_)
        ·
          have ic_13 : p1.toInt ≠ 0 := mt (g_eq rfl t_0).mpr c_13
          clear c_13
          refine lv_iload_n hx hb dX9_deal_43 rfl (lv_at hl 2 rfl) ?_
          refine lv_if_ne (tgt := 51) hx hb dX9_deal_44 (by decide) (fun c_14 => ?_) (fun c_14 => absurd c_14 (by rw [g_eq rfl t_0]; omega))
          refine lv_iload_n hx hb dX9_deal_51 rfl (lv_at hl 3 rfl) ?_
          refine lv_if_ne (tgt := 59) hx hb dX9_deal_52 (by decide) (fun c_15 => ?_) (fun c_15 => ?_)
          ·
            have ic_15 : p2.toInt ≠ 0 := mt (g_eq rfl t_0).mpr c_15
            clear c_15
            refine lv_iconst (v := 3) hx hb dX9_deal_59 (by decide) ?_
            refine lv_istore (lv' := [(4, .int 3), (0, .ref mh), (1, .int p0), (2, .int p1), (3, .int p2)]) hx hb dX9_deal_60 hl (by decide) rfl (fun ls hl => ?_)
            refine lv_aload_n hx hb dX9_deal_62 rfl (lv_at hl 1 rfl) ?_
            refine va_get (D := D) (ci := 9) (v := .int mlisted) (C := RX9) (T := TX9) (N := 68) hx hb htb iX9 hown hK.1 hP 0 rfl rfl 61 (by decide) (htb _ k_1019) (fun _ h9 => h9) rfl dX9_deal_63 ?_
            refine lv_iconst (v := 3) hx hb dX9_deal_66 (by decide) ?_
            refine lv_iload hx hb dX9_deal_67 (lv_at hl 0 rfl) ?_
            refine lv_imul hx hb dX9_deal_69 ?_
            refine W_top (y := .int 9) (by decide) ?_
            refine lv_icmp_ge (tgt := 76) hx hb dX9_deal_70 (by decide) (fun c_16 => ?_) (fun c_16 => ?_)
            ·
              have ic_16 : 9 ≤ mlisted.toInt := by first | exact (g_le t_9 rfl).mp c_16 | (have h := mt (g_lt rfl t_9).mpr c_16; omega)
              clear c_16
              refine lv_aload_n hx hb dX9_deal_76 rfl (lv_at hl 1 rfl) ?_
              refine va_get (D := D) (ci := 9) (v := .ref (ma 66)) (C := RX9) (T := TX9) (N := 68) hx hb htb iX9 hown hK.1 hP 0 rfl rfl 66 (by decide) (htb _ k_1024) (fun _ h9 => h9) rfl dX9_deal_77 ?_
              refine lv_iconst (v := 0) hx hb dX9_deal_80 (by decide) ?_
              refine lv_iload_n hx hb dX9_deal_81 rfl (lv_at hl 2 rfl) ?_
              refine va_iast hx hb hK.1 hP hD hS 4 0 rfl rfl (g_in t_0 (by decide) (by decide)) dX9_deal_82 (fun H locs hP hD hS => ?_)
              have hP : va_P D vwCl [(mh, .inr (9, G9 ma mcode mtoday moffs mmany msumW msumA msumR msumWW msumWA msumAA msumWR msumAR mupper mlower mrates mtaped mlaid mat mtk mtkAt mtkNumber mwaits mlisted mdealtMany)), ((ma 62), .inl (E 0, 9, .inl mf62)), ((ma 63), .inl (E 0, 9, .inl mf63)), ((ma 65), .inl (E 0, 9, .inl mf65)), ((ma 66), .inl (E 0, 3, .inl (upd mf66 (0 : Int32).toNatClampNeg p0))), ((ma 67), .inl (E 0, 3, .inl mf67))] H := hP
              have hD := toW hP hD rfl
              refine lv_aload_n hx hb dX9_deal_83 rfl (lv_at hl 1 rfl) ?_
              refine va_get (D := D) (ci := 9) (v := .ref (ma 66)) (C := RX9) (T := TX9) (N := 68) hx hb htb iX9 hown hK.1 hP 0 rfl rfl 66 (by decide) (htb _ k_1024) (fun _ h9 => h9) rfl dX9_deal_84 ?_
              refine lv_iconst (v := 1) hx hb dX9_deal_87 (by decide) ?_
              refine lv_iload_n hx hb dX9_deal_88 rfl (lv_at hl 3 rfl) ?_
              refine va_iast hx hb hK.1 hP hD hS 4 0 rfl rfl (g_in t_1 (by decide) (by decide)) dX9_deal_89 (fun H locs hP hD hS => ?_)
              have hP : va_P D vwCl [(mh, .inr (9, G9 ma mcode mtoday moffs mmany msumW msumA msumR msumWW msumWA msumAA msumWR msumAR mupper mlower mrates mtaped mlaid mat mtk mtkAt mtkNumber mwaits mlisted mdealtMany)), ((ma 62), .inl (E 0, 9, .inl mf62)), ((ma 63), .inl (E 0, 9, .inl mf63)), ((ma 65), .inl (E 0, 9, .inl mf65)), ((ma 66), .inl (E 0, 3, .inl (upd (upd mf66 (0 : Int32).toNatClampNeg p0) (1 : Int32).toNatClampNeg p1))), ((ma 67), .inl (E 0, 3, .inl mf67))] H := hP
              have hD := toW hP hD rfl
              generalize (upd (upd mf66 (0 : Int32).toNatClampNeg p0) (1 : Int32).toNatClampNeg p1) = g_17 at hP hD
              refine lv_aload_n hx hb dX9_deal_90 rfl (lv_at hl 1 rfl) ?_
              refine va_get (D := D) (ci := 9) (v := .ref (ma 66)) (C := RX9) (T := TX9) (N := 68) hx hb htb iX9 hown hK.1 hP 0 rfl rfl 66 (by decide) (htb _ k_1024) (fun _ h9 => h9) rfl dX9_deal_91 ?_
              refine lv_iconst (v := 2) hx hb dX9_deal_94 (by decide) ?_
              refine lv_iload_n hx hb dX9_deal_95 rfl (lv_at hl 4 rfl) ?_
              refine va_iast hx hb hK.1 hP hD hS 4 0 rfl rfl (g_in t_2 (by decide) (by decide)) dX9_deal_96 (fun H locs hP hD hS => ?_)
              have hP : va_P D vwCl [(mh, .inr (9, G9 ma mcode mtoday moffs mmany msumW msumA msumR msumWW msumWA msumAA msumWR msumAR mupper mlower mrates mtaped mlaid mat mtk mtkAt mtkNumber mwaits mlisted mdealtMany)), ((ma 62), .inl (E 0, 9, .inl mf62)), ((ma 63), .inl (E 0, 9, .inl mf63)), ((ma 65), .inl (E 0, 9, .inl mf65)), ((ma 66), .inl (E 0, 3, .inl (upd g_17 (2 : Int32).toNatClampNeg p2))), ((ma 67), .inl (E 0, 3, .inl mf67))] H := hP
              have hD := toW hP hD rfl
              refine lv_iconst (v := (-1)) hx hb dX9_deal_97 (by decide) ?_
              refine lv_istore (lv' := [(5, .int (-1)), (4, .int 3), (0, .ref mh), (1, .int p0), (2, .int p1), (3, .int p2)]) hx hb dX9_deal_98 hl (by decide) rfl (fun ls hl => ?_)
              refine lv_iconst (v := 0) hx hb dX9_deal_100 (by decide) ?_
              refine lv_istore (lv' := [(6, .int 0), (5, .int (-1)), (4, .int 3), (0, .ref mh), (1, .int p0), (2, .int p1), (3, .int p2)]) hx hb dX9_deal_101 hl (by decide) rfl (fun ls hl => ?_)
              have loop_18 : ∀ (N_20 : Nat) (L6_103 : Int32) (mf65_103 : Nat → Int32) (H : Heap) (locs : List Loc) (ls : Array Slot), mlisted.toInt - L6_103.toInt < (N_20 : Int) → (∀ k : Nat, k < 9 → 0 ≤ (mf65_103 k).toInt ∧ (mf65_103 k).toInt ≤ 3) → (0 ≤ L6_103.toInt ∧ L6_103.toInt ≤ mlisted.toInt) → va_P D vwCl [(mh, .inr (9, G9 ma mcode mtoday moffs mmany msumW msumA msumR msumWW msumWA msumAA msumWR msumAR mupper mlower mrates mtaped mlaid mat mtk mtkAt mtkNumber mwaits mlisted mdealtMany)), ((ma 62), .inl (E 0, 9, .inl mf62)), ((ma 63), .inl (E 0, 9, .inl mf63)), ((ma 65), .inl (E 0, 9, .inl mf65_103)), ((ma 66), .inl (E 0, 3, .inl (upd g_17 (2 : Int32).toNatClampNeg p2))), ((ma 67), .inl (E 0, 3, .inl mf67))] H → va_D A [(mh, .inr (9, G9 ma mcode mtoday moffs mmany msumW msumA msumR msumWW msumWA msumAA msumWR msumAR mupper mlower mrates mtaped mlaid mat mtk mtkAt mtkNumber mwaits mlisted mdealtMany)), ((ma 62), .inl (E 0, 9, .inl mf62)), ((ma 63), .inl (E 0, 9, .inl mf63)), ((ma 65), .inl (E 0, 9, .inl mf65_103)), ((ma 66), .inl (E 0, 3, .inl (upd g_17 (2 : Int32).toNatClampNeg p2))), ((ma 67), .inl (E 0, 3, .inl mf67))] → va_S A s.heap H locs → lv_has ls 9 [(6, .int L6_103), (5, .int (-1)), (4, .int 3), (0, .ref mh), (1, .int p0), (2, .int p1), (3, .int p2)] → W p l e (headSpec (wl yX9_deal cX9_deal 9 (some .int)) (RM 1 0 0)).room s m [Value.ref mh, .int p0, .int p1, .int p2].toArray below meth c H locs 0 0 (MQ below (va_Qi (fun (r : Int32) (u : (Nat → Int32) × (Nat → Int32) × (Nat → Int32) × (Nat → Int32) × (Int32) × (Int32)) => (∀ k : Nat, k < 9 → 0 ≤ (u.2.1 k).toInt ∧ (u.2.1 k).toInt ≤ 3) ∧ (0 ≤ u.2.2.2.2.1.toInt ∧ u.2.2.2.2.1.toInt ≤ 9) ∧ (0 ≤ u.2.2.2.2.2.toInt ∧ u.2.2.2.2.2.toInt ≤ 9) ∧ ((¬ ((1 ≤ p0.toInt ∧ p0.toInt ≤ 400) ∧ (0 ≤ p1.toInt ∧ p1.toInt ≤ 400) ∧ (0 ≤ p2.toInt ∧ p2.toInt ≤ 400) ∧ ¬ (p1.toInt = 0 ∧ p2.toInt ≠ 0)) ∧ r.toInt = -1 ∧ u.2.2.2.2.2.toInt = mlisted.toInt) ∨ (((1 ≤ p0.toInt ∧ p0.toInt ≤ 400) ∧ (0 ≤ p1.toInt ∧ p1.toInt ≤ 400) ∧ (0 ≤ p2.toInt ∧ p2.toInt ≤ 400) ∧ ¬ (p1.toInt = 0 ∧ p2.toInt ≠ 0)) ∧ ((p1.toInt = 0 ∧ mlisted.toInt < 3) ∨ (p1.toInt ≠ 0 ∧ p2.toInt = 0 ∧ mlisted.toInt < 6) ∨ (p1.toInt ≠ 0 ∧ p2.toInt ≠ 0 ∧ mlisted.toInt < 9)) ∧ r.toInt = -4 ∧ u.2.2.2.2.2.toInt = mlisted.toInt) ∨ (((1 ≤ p0.toInt ∧ p0.toInt ≤ 400) ∧ (0 ≤ p1.toInt ∧ p1.toInt ≤ 400) ∧ (0 ≤ p2.toInt ∧ p2.toInt ≤ 400) ∧ ¬ (p1.toInt = 0 ∧ p2.toInt ≠ 0)) ∧ ¬ ((p1.toInt = 0 ∧ mlisted.toInt < 3) ∨ (p1.toInt ≠ 0 ∧ p2.toInt = 0 ∧ mlisted.toInt < 6) ∨ (p1.toInt ≠ 0 ∧ p2.toInt ≠ 0 ∧ mlisted.toInt < 9)) ∧ u.2.2.2.2.2.toInt = 0))) (mu_B D A (fun (u : (Nat → Int32) × (Nat → Int32) × (Nat → Int32) × (Nat → Int32) × (Int32) × (Int32)) => [(mh, .inr (9, G9 ma mcode mtoday moffs mmany msumW msumA msumR msumWW msumWA msumAA msumWR msumAR mupper mlower mrates mtaped mlaid mat mtk mtkAt mtkNumber mwaits u.2.2.2.2.2 u.2.2.2.2.1)), ((ma 62), .inl (E 0, 9, .inl mf62)), ((ma 63), .inl (E 0, 9, .inl u.1)), ((ma 65), .inl (E 0, 9, .inl u.2.1)), ((ma 66), .inl (E 0, 3, .inl u.2.2.1)), ((ma 67), .inl (E 0, 3, .inl u.2.2.2.1))])) A) [Value.ref mh, .int p0, .int p1, .int p2].toArray s 0 0 A) (F0 m 103 ls []) := by
                intro N_20
                induction N_20 with
                | zero => intro L6_103 mf65_103 H locs ls hm v_mf65_103 v0_103 _ _ _ _; exfalso; omega
                | succ N_20 ih_19 =>
                  intro L6_103 mf65_103 H locs ls hm v_mf65_103 v0_103 hP hD hS hl
                  have lo_L6_103 := i_lo L6_103; have hi_L6_103 := i_hi L6_103
                  refine lv_iload hx hb dX9_deal_103 (lv_at hl 0 rfl) ?_
                  refine lv_aload_n hx hb dX9_deal_105 rfl (lv_at hl 3 rfl) ?_
                  refine va_get (D := D) (ci := 9) (v := .int mlisted) (C := RX9) (T := TX9) (N := 68) hx hb htb iX9 hown hK.1 hP 0 rfl rfl 61 (by decide) (htb _ k_1019) (fun _ h9 => h9) rfl dX9_deal_106 ?_
                  refine lv_icmp_ge (tgt := 126) hx hb dX9_deal_109 (by decide) (fun c_21 => ?_) (fun c_21 => ?_)
                  ·
                    have ic_21 : mlisted.toInt ≤ L6_103.toInt := by first | exact (g_le rfl rfl).mp c_21 | (have h := mt (g_lt rfl rfl).mpr c_21; omega)
                    clear c_21
                    refine lv_iconst (v := 1) hx hb dX9_deal_126 (by decide) ?_
                    refine lv_istore (lv' := [(6, .int 1), (5, .int (-1)), (4, .int 3), (0, .ref mh), (1, .int p0), (2, .int p1), (3, .int p2)]) hx hb dX9_deal_127 hl (by decide) rfl (fun ls hl => ?_)
                    have loop_22 : ∀ (N_24 : Nat) (L6_129 : Int32) (mf67_129 : Nat → Int32) (mf65_129 : Nat → Int32) (L5_129 : Int32) (mf63_129 : Nat → Int32) (H : Heap) (locs : List Loc) (ls : Array Slot), 262145 * L6_129.toInt - val4 mf65_129 (mlisted).toNatClampNeg < (N_24 : Int) → (∀ k : Nat, k < 9 → 0 ≤ (mf65_129 k).toInt ∧ (mf65_129 k).toInt ≤ 3) → ((L6_129.toInt = 1 ∧ 0 ≤ val4 mf65_129 (mlisted).toNatClampNeg ∧ val4 mf65_129 (mlisted).toNatClampNeg ≤ 262143) ∨ (L6_129.toInt = 0 ∧ val4 mf65_129 (mlisted).toNatClampNeg = 0)) → va_P D vwCl [(mh, .inr (9, G9 ma mcode mtoday moffs mmany msumW msumA msumR msumWW msumWA msumAA msumWR msumAR mupper mlower mrates mtaped mlaid mat mtk mtkAt mtkNumber mwaits mlisted mdealtMany)), ((ma 62), .inl (E 0, 9, .inl mf62)), ((ma 63), .inl (E 0, 9, .inl mf63_129)), ((ma 65), .inl (E 0, 9, .inl mf65_129)), ((ma 66), .inl (E 0, 3, .inl (upd g_17 (2 : Int32).toNatClampNeg p2))), ((ma 67), .inl (E 0, 3, .inl mf67_129))] H → va_D A [(mh, .inr (9, G9 ma mcode mtoday moffs mmany msumW msumA msumR msumWW msumWA msumAA msumWR msumAR mupper mlower mrates mtaped mlaid mat mtk mtkAt mtkNumber mwaits mlisted mdealtMany)), ((ma 62), .inl (E 0, 9, .inl mf62)), ((ma 63), .inl (E 0, 9, .inl mf63_129)), ((ma 65), .inl (E 0, 9, .inl mf65_129)), ((ma 66), .inl (E 0, 3, .inl (upd g_17 (2 : Int32).toNatClampNeg p2))), ((ma 67), .inl (E 0, 3, .inl mf67_129))] → va_S A s.heap H locs → lv_has ls 9 [(6, .int L6_129), (5, .int L5_129), (4, .int 3), (0, .ref mh), (1, .int p0), (2, .int p1), (3, .int p2)] → W p l e (headSpec (wl yX9_deal cX9_deal 9 (some .int)) (RM 1 0 0)).room s m [Value.ref mh, .int p0, .int p1, .int p2].toArray below meth c H locs 0 0 (MQ below (va_Qi (fun (r : Int32) (u : (Nat → Int32) × (Nat → Int32) × (Nat → Int32) × (Nat → Int32) × (Int32) × (Int32)) => (∀ k : Nat, k < 9 → 0 ≤ (u.2.1 k).toInt ∧ (u.2.1 k).toInt ≤ 3) ∧ (0 ≤ u.2.2.2.2.1.toInt ∧ u.2.2.2.2.1.toInt ≤ 9) ∧ (0 ≤ u.2.2.2.2.2.toInt ∧ u.2.2.2.2.2.toInt ≤ 9) ∧ ((¬ ((1 ≤ p0.toInt ∧ p0.toInt ≤ 400) ∧ (0 ≤ p1.toInt ∧ p1.toInt ≤ 400) ∧ (0 ≤ p2.toInt ∧ p2.toInt ≤ 400) ∧ ¬ (p1.toInt = 0 ∧ p2.toInt ≠ 0)) ∧ r.toInt = -1 ∧ u.2.2.2.2.2.toInt = mlisted.toInt) ∨ (((1 ≤ p0.toInt ∧ p0.toInt ≤ 400) ∧ (0 ≤ p1.toInt ∧ p1.toInt ≤ 400) ∧ (0 ≤ p2.toInt ∧ p2.toInt ≤ 400) ∧ ¬ (p1.toInt = 0 ∧ p2.toInt ≠ 0)) ∧ ((p1.toInt = 0 ∧ mlisted.toInt < 3) ∨ (p1.toInt ≠ 0 ∧ p2.toInt = 0 ∧ mlisted.toInt < 6) ∨ (p1.toInt ≠ 0 ∧ p2.toInt ≠ 0 ∧ mlisted.toInt < 9)) ∧ r.toInt = -4 ∧ u.2.2.2.2.2.toInt = mlisted.toInt) ∨ (((1 ≤ p0.toInt ∧ p0.toInt ≤ 400) ∧ (0 ≤ p1.toInt ∧ p1.toInt ≤ 400) ∧ (0 ≤ p2.toInt ∧ p2.toInt ≤ 400) ∧ ¬ (p1.toInt = 0 ∧ p2.toInt ≠ 0)) ∧ ¬ ((p1.toInt = 0 ∧ mlisted.toInt < 3) ∨ (p1.toInt ≠ 0 ∧ p2.toInt = 0 ∧ mlisted.toInt < 6) ∨ (p1.toInt ≠ 0 ∧ p2.toInt ≠ 0 ∧ mlisted.toInt < 9)) ∧ u.2.2.2.2.2.toInt = 0))) (mu_B D A (fun (u : (Nat → Int32) × (Nat → Int32) × (Nat → Int32) × (Nat → Int32) × (Int32) × (Int32)) => [(mh, .inr (9, G9 ma mcode mtoday moffs mmany msumW msumA msumR msumWW msumWA msumAA msumWR msumAR mupper mlower mrates mtaped mlaid mat mtk mtkAt mtkNumber mwaits u.2.2.2.2.2 u.2.2.2.2.1)), ((ma 62), .inl (E 0, 9, .inl mf62)), ((ma 63), .inl (E 0, 9, .inl u.1)), ((ma 65), .inl (E 0, 9, .inl u.2.1)), ((ma 66), .inl (E 0, 3, .inl u.2.2.1)), ((ma 67), .inl (E 0, 3, .inl u.2.2.2.1))])) A) [Value.ref mh, .int p0, .int p1, .int p2].toArray s 0 0 A) (F0 m 129 ls []) := by
                      intro N_24
                      induction N_24 with
                      | zero => intro L6_129 mf67_129 mf65_129 L5_129 mf63_129 H locs ls hm v_mf65_129 v0_129 _ _ _ _; exfalso; omega
                      | succ N_24 ih_23 =>
                        intro L6_129 mf67_129 mf65_129 L5_129 mf63_129 H locs ls hm v_mf65_129 v0_129 hP hD hS hl
                        have lo_L6_129 := i_lo L6_129; have hi_L6_129 := i_hi L6_129
                        have lo_L5_129 := i_lo L5_129; have hi_L5_129 := i_hi L5_129
                        refine lv_iload hx hb dX9_deal_129 (lv_at hl 0 rfl) ?_
                        refine lv_if_eq (tgt := 319) hx hb dX9_deal_131 (by decide) (fun c_25 => ?_) (fun c_25 => ?_)
                        ·
                          have ic_25 : L6_129.toInt = 0 := (g_eq rfl t_0).mp c_25
                          clear c_25
                          refine lv_aload_n hx hb dX9_deal_319 rfl (lv_at hl 3 rfl) ?_
                          refine lv_aload_n hx hb dX9_deal_320 rfl (lv_at hl 3 rfl) ?_
                          refine va_get (D := D) (ci := 9) (v := .int mlisted) (C := RX9) (T := TX9) (N := 68) hx hb htb iX9 hown hK.1 hP 0 rfl rfl 61 (by decide) (htb _ k_1019) (fun _ h9 => h9) rfl dX9_deal_321 ?_
                          refine va_put (D := D) (ci := 9) (v := .int mlisted) (ty := .int) (C := RX9) (T := TX9) (N := 68) hx hb htb iX9 tyX9 tyX9_ok nmX9 hown hK.1 hP hD hS 0 rfl rfl 64 (by decide) (htb _ k_1022) (fun _ h9 => h9) rfl (by decide +kernel) rfl rfl (Nat.le_of_ble_eq_true rfl) dX9_deal_324 (fun H locs hP hD hS => ?_)
                          have hP : va_P D vwCl [(mh, .inr (9, G9 ma mcode mtoday moffs mmany msumW msumA msumR msumWW msumWA msumAA msumWR msumAR mupper mlower mrates mtaped mlaid mat mtk mtkAt mtkNumber mwaits mlisted mlisted)), ((ma 62), .inl (E 0, 9, .inl mf62)), ((ma 63), .inl (E 0, 9, .inl mf63_129)), ((ma 65), .inl (E 0, 9, .inl mf65_129)), ((ma 66), .inl (E 0, 3, .inl (upd g_17 (2 : Int32).toNatClampNeg p2))), ((ma 67), .inl (E 0, 3, .inl mf67_129))] H := hP
                          have hD := toW hP hD rfl
                          refine lv_aload_n hx hb dX9_deal_327 rfl (lv_at hl 3 rfl) ?_
                          refine lv_iconst (v := 0) hx hb dX9_deal_328 (by decide) ?_
                          refine va_put (D := D) (ci := 9) (v := .int 0) (ty := .int) (C := RX9) (T := TX9) (N := 68) hx hb htb iX9 tyX9 tyX9_ok nmX9 hown hK.1 hP hD hS 0 rfl rfl 61 (by decide) (htb _ k_1019) (fun _ h9 => h9) rfl (by decide +kernel) rfl rfl (Nat.le_of_ble_eq_true rfl) dX9_deal_329 (fun H locs hP hD hS => ?_)
                          have hP : va_P D vwCl [(mh, .inr (9, G9 ma mcode mtoday moffs mmany msumW msumA msumR msumWW msumWA msumAA msumWR msumAR mupper mlower mrates mtaped mlaid mat mtk mtkAt mtkNumber mwaits 0 mlisted)), ((ma 62), .inl (E 0, 9, .inl mf62)), ((ma 63), .inl (E 0, 9, .inl mf63_129)), ((ma 65), .inl (E 0, 9, .inl mf65_129)), ((ma 66), .inl (E 0, 3, .inl (upd g_17 (2 : Int32).toNatClampNeg p2))), ((ma 67), .inl (E 0, 3, .inl mf67_129))] H := hP
                          have hD := toW hP hD rfl
                          refine lv_iload hx hb dX9_deal_332 (lv_at hl 1 rfl) ?_
                          have hP9 := hP.sub (ws' := [(mh, .inr (9, G9 ma mcode mtoday moffs mmany msumW msumA msumR msumWW msumWA msumAA msumWR msumAR mupper mlower mrates mtaped mlaid mat mtk mtkAt mtkNumber mwaits 0 mlisted)), ((ma 62), .inl (E 0, 9, .inl mf62)), ((ma 63), .inl (E 0, 9, .inl mf63_129)), ((ma 65), .inl (E 0, 9, .inl mf65_129)), ((ma 66), .inl (E 0, 3, .inl (upd g_17 (2 : Int32).toNatClampNeg p2))), ((ma 67), .inl (E 0, 3, .inl mf67_129))]) [0, 1, 2, 3, 4, 5] rfl
                          have hD9 := hD.sub (ws' := [(mh, .inr (9, G9 ma mcode mtoday moffs mmany msumW msumA msumR msumWW msumWA msumAA msumWR msumAR mupper mlower mrates mtaped mlaid mat mtk mtkAt mtkNumber mwaits 0 mlisted)), ((ma 62), .inl (E 0, 9, .inl mf62)), ((ma 63), .inl (E 0, 9, .inl mf63_129)), ((ma 65), .inl (E 0, 9, .inl mf65_129)), ((ma 66), .inl (E 0, 3, .inl (upd g_17 (2 : Int32).toNatClampNeg p2))), ((ma 67), .inl (E 0, 3, .inl mf67_129))]) [0, 1, 2, 3, 4, 5] (by decide) rfl
                          exact W.iret (v := L5_129) hx hb hr (fun t ht hW => ⟨⟨L5_129, (mf63_129, mf65_129, (upd g_17 (2 : Int32).toNatClampNeg p2), mf67_129, mlisted, (0 : Int32)), rfl, ⟨v_mf65_129, (by (try dsimp only); omega), (by have h0 := t_0; (try dsimp only); omega), (by have h0 := t_0; (try dsimp only); omega)⟩, by rw [ht]; exact hP9, hD9⟩, hS.F ht⟩) hS.2.2 dX9_deal_334
                        ·
                          have ic_25 : L6_129.toInt ≠ 0 := mt (g_eq rfl t_0).mpr c_25
                          clear c_25
                          refine lv_aload_n hx hb dX9_deal_134 rfl (lv_at hl 3 rfl) ?_
                          refine lv_iload hx hb dX9_deal_135 (lv_at hl 2 rfl) ?_
                          have hPc := hP.sub (ws' := [(mh, .inr (9, G9 ma mcode mtoday moffs mmany msumW msumA msumR msumWW msumWA msumAA msumWR msumAR mupper mlower mrates mtaped mlaid mat mtk mtkAt mtkNumber mwaits mlisted mdealtMany)), ((ma 65), .inl (E 0, 9, .inl mf65_129)), ((ma 67), .inl (E 0, 3, .inl mf67_129))]) [0, 3, 5] rfl
                          have hDc := hD.sub (ws' := [(mh, .inr (9, G9 ma mcode mtoday moffs mmany msumW msumA msumR msumWW msumWA msumAA msumWR msumAR mupper mlower mrates mtaped mlaid mat mtk mtkAt mtkNumber mwaits mlisted mdealtMany)), ((ma 65), .inl (E 0, 9, .inl mf65_129)), ((ma 67), .inl (E 0, 3, .inl mf67_129))]) [0, 3, 5] (by decide) rfl
                          refine aft_i (runMV (rest := []) (As := [.int 3]) hx hb hml hown htb hK (g_X9_isWay l D E mh ma mcode mtoday moffs mmany msumW msumA msumR msumWW msumWA msumAA msumWR msumAR mupper mlower mrates mtaped mlaid mat mtk mtkAt mtkNumber mwaits mlisted mdealtMany mf65_129 mf67_129 3 _ (by (try dsimp only); omega) v_mf65_129 (by have h0 := t_3; (try dsimp only); omega)) ok_X9_isWay k_1464 k_1466 ks_65 k_9 k_1467 ⟨(Nat.le_of_ble_eq_true rfl), (Nat.le_of_ble_eq_true rfl)⟩ ⟨(Nat.le_of_ble_eq_true rfl), (Nat.le_of_ble_eq_true rfl)⟩ hl.1 (Nat.le_of_ble_eq_true rfl) rfl rfl dX9_deal_137 hPc hDc rfl rfl 0 rfl) hP hD hS hA [0, 3, 5] [1, 2, 4] (wr := [((ma 62), .inl (E 0, 9, .inl mf62)), ((ma 63), .inl (E 0, 9, .inl mf63_129)), ((ma 66), .inl (E 0, 3, .inl (upd g_17 (2 : Int32).toNatClampNeg p2)))]) rfl rfl (by decide) (by decide) (fun r_26 u_28 H locs hw_27 hP hD hS => ?_)
                          clear hPc hDc
                          have hP : va_P D vwCl [((ma 62), .inl (E 0, 9, .inl mf62)), ((ma 63), .inl (E 0, 9, .inl mf63_129)), ((ma 66), .inl (E 0, 3, .inl (upd g_17 (2 : Int32).toNatClampNeg p2))), (mh, .inr (9, G9 ma mcode mtoday moffs mmany msumW msumA msumR msumWW msumWA msumAA msumWR msumAR mupper mlower mrates mtaped mlaid mat mtk mtkAt mtkNumber mwaits mlisted mdealtMany)), ((ma 65), .inl (E 0, 9, .inl mf65_129)), ((ma 67), .inl (E 0, 3, .inl u_28))] H := hP
                          have hD := toW hP hD rfl
                          refine lv_if_eq (tgt := 250) hx hb dX9_deal_140 (by decide) (fun c_29 => ?_) (fun c_29 => ?_)
                          ·
                            have ic_29 : r_26.toInt = 0 := (g_eq rfl t_0).mp c_29
                            clear c_29
                            refine lv_aload_n hx hb dX9_deal_250 rfl (lv_at hl 3 rfl) ?_
                            refine va_get (D := D) (ci := 9) (v := .int mlisted) (C := RX9) (T := TX9) (N := 68) hx hb htb iX9 hown hK.1 hP 3 rfl rfl 61 (by decide) (htb _ k_1019) (fun _ h9 => h9) rfl dX9_deal_251 ?_
                            refine lv_iconst (v := 1) hx hb dX9_deal_254 (by decide) ?_
                            refine lv_isub hx hb dX9_deal_255 ?_
                            refine lv_topi (fun z_30 ez_30 => ?_)
                            have jz_30 : z_30.toInt = mlisted.toInt - 1 := by rw [ez_30]; exact g_sub rfl t_1 (by omega) (by omega)
                            refine lv_istore (lv' := [(7, .int z_30), (6, .int L6_129), (5, .int L5_129), (4, .int 3), (0, .ref mh), (1, .int p0), (2, .int p1), (3, .int p2)]) hx hb dX9_deal_256 hl (by decide) rfl (fun ls hl => ?_)
                            have loop_31 : ∀ (N_33 : Nat) (L7_258 : Int32) (mf65_258 : Nat → Int32) (H : Heap) (locs : List Loc) (ls : Array Slot), L7_258.toInt + 1 < (N_33 : Int) → (∀ k : Nat, k < 9 → 0 ≤ (mf65_258 k).toInt ∧ (mf65_258 k).toInt ≤ 3) → (-1 ≤ L7_258.toInt ∧ L7_258.toInt < mlisted.toInt) → (val4 mf65_258 (mlisted).toNatClampNeg + 4 ^ (mlisted.toInt - 1 - L7_258.toInt).toNat = val4 mf65_129 (mlisted).toNatClampNeg + 1) → va_P D vwCl [((ma 62), .inl (E 0, 9, .inl mf62)), ((ma 63), .inl (E 0, 9, .inl mf63_129)), ((ma 66), .inl (E 0, 3, .inl (upd g_17 (2 : Int32).toNatClampNeg p2))), (mh, .inr (9, G9 ma mcode mtoday moffs mmany msumW msumA msumR msumWW msumWA msumAA msumWR msumAR mupper mlower mrates mtaped mlaid mat mtk mtkAt mtkNumber mwaits mlisted mdealtMany)), ((ma 65), .inl (E 0, 9, .inl mf65_258)), ((ma 67), .inl (E 0, 3, .inl u_28))] H → va_D A [((ma 62), .inl (E 0, 9, .inl mf62)), ((ma 63), .inl (E 0, 9, .inl mf63_129)), ((ma 66), .inl (E 0, 3, .inl (upd g_17 (2 : Int32).toNatClampNeg p2))), (mh, .inr (9, G9 ma mcode mtoday moffs mmany msumW msumA msumR msumWW msumWA msumAA msumWR msumAR mupper mlower mrates mtaped mlaid mat mtk mtkAt mtkNumber mwaits mlisted mdealtMany)), ((ma 65), .inl (E 0, 9, .inl mf65_258)), ((ma 67), .inl (E 0, 3, .inl u_28))] → va_S A s.heap H locs → lv_has ls 9 [(7, .int L7_258), (6, .int L6_129), (5, .int L5_129), (4, .int 3), (0, .ref mh), (1, .int p0), (2, .int p1), (3, .int p2)] → W p l e (headSpec (wl yX9_deal cX9_deal 9 (some .int)) (RM 1 0 0)).room s m [Value.ref mh, .int p0, .int p1, .int p2].toArray below meth c H locs 0 0 (MQ below (va_Qi (fun (r : Int32) (u : (Nat → Int32) × (Nat → Int32) × (Nat → Int32) × (Nat → Int32) × (Int32) × (Int32)) => (∀ k : Nat, k < 9 → 0 ≤ (u.2.1 k).toInt ∧ (u.2.1 k).toInt ≤ 3) ∧ (0 ≤ u.2.2.2.2.1.toInt ∧ u.2.2.2.2.1.toInt ≤ 9) ∧ (0 ≤ u.2.2.2.2.2.toInt ∧ u.2.2.2.2.2.toInt ≤ 9) ∧ ((¬ ((1 ≤ p0.toInt ∧ p0.toInt ≤ 400) ∧ (0 ≤ p1.toInt ∧ p1.toInt ≤ 400) ∧ (0 ≤ p2.toInt ∧ p2.toInt ≤ 400) ∧ ¬ (p1.toInt = 0 ∧ p2.toInt ≠ 0)) ∧ r.toInt = -1 ∧ u.2.2.2.2.2.toInt = mlisted.toInt) ∨ (((1 ≤ p0.toInt ∧ p0.toInt ≤ 400) ∧ (0 ≤ p1.toInt ∧ p1.toInt ≤ 400) ∧ (0 ≤ p2.toInt ∧ p2.toInt ≤ 400) ∧ ¬ (p1.toInt = 0 ∧ p2.toInt ≠ 0)) ∧ ((p1.toInt = 0 ∧ mlisted.toInt < 3) ∨ (p1.toInt ≠ 0 ∧ p2.toInt = 0 ∧ mlisted.toInt < 6) ∨ (p1.toInt ≠ 0 ∧ p2.toInt ≠ 0 ∧ mlisted.toInt < 9)) ∧ r.toInt = -4 ∧ u.2.2.2.2.2.toInt = mlisted.toInt) ∨ (((1 ≤ p0.toInt ∧ p0.toInt ≤ 400) ∧ (0 ≤ p1.toInt ∧ p1.toInt ≤ 400) ∧ (0 ≤ p2.toInt ∧ p2.toInt ≤ 400) ∧ ¬ (p1.toInt = 0 ∧ p2.toInt ≠ 0)) ∧ ¬ ((p1.toInt = 0 ∧ mlisted.toInt < 3) ∨ (p1.toInt ≠ 0 ∧ p2.toInt = 0 ∧ mlisted.toInt < 6) ∨ (p1.toInt ≠ 0 ∧ p2.toInt ≠ 0 ∧ mlisted.toInt < 9)) ∧ u.2.2.2.2.2.toInt = 0))) (mu_B D A (fun (u : (Nat → Int32) × (Nat → Int32) × (Nat → Int32) × (Nat → Int32) × (Int32) × (Int32)) => [(mh, .inr (9, G9 ma mcode mtoday moffs mmany msumW msumA msumR msumWW msumWA msumAA msumWR msumAR mupper mlower mrates mtaped mlaid mat mtk mtkAt mtkNumber mwaits u.2.2.2.2.2 u.2.2.2.2.1)), ((ma 62), .inl (E 0, 9, .inl mf62)), ((ma 63), .inl (E 0, 9, .inl u.1)), ((ma 65), .inl (E 0, 9, .inl u.2.1)), ((ma 66), .inl (E 0, 3, .inl u.2.2.1)), ((ma 67), .inl (E 0, 3, .inl u.2.2.2.1))])) A) [Value.ref mh, .int p0, .int p1, .int p2].toArray s 0 0 A) (F0 m 258 ls []) := by
                              intro N_33
                              induction N_33 with
                              | zero => intro L7_258 mf65_258 H locs ls hm v_mf65_258 v0_258 v1_258 _ _ _ _; exfalso; omega
                              | succ N_33 ih_32 =>
                                intro L7_258 mf65_258 H locs ls hm v_mf65_258 v0_258 v1_258 hP hD hS hl
                                have lo_L7_258 := i_lo L7_258; have hi_L7_258 := i_hi L7_258
                                refine lv_iload hx hb dX9_deal_258 (lv_at hl 0 rfl) ?_
                                refine lv_if_lt (tgt := 288) hx hb dX9_deal_260 (by decide) (fun c_34 => ?_) (fun c_34 => ?_)
                                ·
                                  have ic_34 : L7_258.toInt < 0 := by first | exact (g_lt rfl t_0).mp c_34 | (have h := mt (g_le t_0 rfl).mpr c_34; omega)
                                  clear c_34
                                  refine lv_iload hx hb dX9_deal_288 (lv_at hl 0 rfl) ?_
                                  refine lv_if_lt (tgt := 297) hx hb dX9_deal_290 (by decide) (fun c_35 => ?_) (fun c_35 => absurd (by rw [g_lt rfl t_0]; omega) c_35)
                                  refine lv_iconst (v := 0) hx hb dX9_deal_297 (by decide) ?_
                                  refine lv_istore (lv' := [(6, .int 0), (7, .int L7_258), (5, .int L5_129), (4, .int 3), (0, .ref mh), (1, .int p0), (2, .int p1), (3, .int p2)]) hx hb dX9_deal_298 hl (by decide) rfl (fun ls hl => ?_)
                                  refine lv_iload hx hb dX9_deal_300 (lv_at hl 0 rfl) ?_
                                  refine lv_if_eq (tgt := 316) hx hb dX9_deal_302 (by decide) (fun c_36 => ?_) (fun c_36 => absurd (by decide) c_36)
                                  refine lv_goto (tgt := 129) hx hb dX9_deal_316 (by decide) ?_
                                  have hP := hP.sub (ws' := [(mh, .inr (9, G9 ma mcode mtoday moffs mmany msumW msumA msumR msumWW msumWA msumAA msumWR msumAR mupper mlower mrates mtaped mlaid mat mtk mtkAt mtkNumber mwaits mlisted mdealtMany)), ((ma 62), .inl (E 0, 9, .inl mf62)), ((ma 63), .inl (E 0, 9, .inl mf63_129)), ((ma 65), .inl (E 0, 9, .inl mf65_258)), ((ma 66), .inl (E 0, 3, .inl (upd g_17 (2 : Int32).toNatClampNeg p2))), ((ma 67), .inl (E 0, 3, .inl u_28))]) [3, 0, 1, 4, 2, 5] rfl
                                  have hD := hD.sub (ws' := [(mh, .inr (9, G9 ma mcode mtoday moffs mmany msumW msumA msumR msumWW msumWA msumAA msumWR msumAR mupper mlower mrates mtaped mlaid mat mtk mtkAt mtkNumber mwaits mlisted mdealtMany)), ((ma 62), .inl (E 0, 9, .inl mf62)), ((ma 63), .inl (E 0, 9, .inl mf63_129)), ((ma 65), .inl (E 0, 9, .inl mf65_258)), ((ma 66), .inl (E 0, 3, .inl (upd g_17 (2 : Int32).toNatClampNeg p2))), ((ma 67), .inl (E 0, 3, .inl u_28))]) [3, 0, 1, 4, 2, 5] (by decide) rfl
                                  exact ih_23 0 u_28 mf65_258 L5_129 mf63_129 _ _ _ (by have h := carry_e (n := mlisted) (i := L7_258) (by omega) (by omega) (by omega) v_mf65_258 v_mf65_129 v1_258; have h1 := t_0; omega) v_mf65_258 (by have h := carry_e (n := mlisted) (i := L7_258) (by omega) (by omega) (by omega) v_mf65_258 v_mf65_129 v1_258; have h1 := t_0; omega) hP hD hS (lv_sub hl [0, 2, 3, 4, 5, 6, 7] rfl)
                                ·
                                  have ic_34 : 0 ≤ L7_258.toInt := by first | exact (g_le t_0 rfl).mp c_34 | (have h := mt (g_lt rfl t_0).mpr c_34; omega)
                                  clear c_34
                                  refine lv_aload_n hx hb dX9_deal_263 rfl (lv_at hl 4 rfl) ?_
                                  refine va_get (D := D) (ci := 9) (v := .ref (ma 65)) (C := RX9) (T := TX9) (N := 68) hx hb htb iX9 hown hK.1 hP 3 rfl rfl 65 (by decide) (htb _ k_1023) (fun _ h9 => h9) rfl dX9_deal_264 ?_
                                  refine lv_iload hx hb dX9_deal_267 (lv_at hl 0 rfl) ?_
                                  refine va_iald hx hb hK.1 hP 4 0 rfl rfl (g_in rfl (by omega) (by omega)) dX9_deal_269 ?_
                                  refine lv_topi (fun z_37 ez_37 => ?_)
                                  have kz_37 := congrArg Int32.toInt ez_37
                                  have jz_37 : 0 ≤ z_37.toInt ∧ z_37.toInt ≤ 3 := by rw [ez_37]; exact v_mf65_258 _ (g_ix rfl (by omega) (by omega))
                                  refine lv_iconst (v := 3) hx hb dX9_deal_270 (by decide) ?_
                                  refine lv_icmp_ne (tgt := 288) hx hb dX9_deal_271 (by decide) (fun c_38 => ?_) (fun c_38 => ?_)
                                  ·
                                    have ic_38 : z_37.toInt ≠ 3 := mt (g_eq rfl t_3).mpr c_38
                                    clear c_38
                                    refine lv_iload hx hb dX9_deal_288 (lv_at hl 0 rfl) ?_
                                    refine lv_if_lt (tgt := 297) hx hb dX9_deal_290 (by decide) (fun c_39 => absurd c_39 (by rw [g_lt rfl t_0]; omega)) (fun c_39 => ?_)
                                    refine lv_iconst (v := 1) hx hb dX9_deal_293 (by decide) ?_
                                    refine lv_goto (tgt := 298) hx hb dX9_deal_294 (by decide) ?_
                                    refine lv_istore (lv' := [(6, .int 1), (7, .int L7_258), (5, .int L5_129), (4, .int 3), (0, .ref mh), (1, .int p0), (2, .int p1), (3, .int p2)]) hx hb dX9_deal_298 hl (by decide) rfl (fun ls hl => ?_)
                                    refine lv_iload hx hb dX9_deal_300 (lv_at hl 0 rfl) ?_
                                    refine lv_if_eq (tgt := 316) hx hb dX9_deal_302 (by decide) (fun c_40 => absurd c_40 (by decide)) (fun c_40 => ?_)
                                    refine lv_aload_n hx hb dX9_deal_305 rfl (lv_at hl 4 rfl) ?_
                                    refine va_get (D := D) (ci := 9) (v := .ref (ma 65)) (C := RX9) (T := TX9) (N := 68) hx hb htb iX9 hown hK.1 hP 3 rfl rfl 65 (by decide) (htb _ k_1023) (fun _ h9 => h9) rfl dX9_deal_306 ?_
                                    refine lv_iload hx hb dX9_deal_309 (lv_at hl 1 rfl) ?_
                                    refine lv_dup2_11 hx hb dX9_deal_311 rfl rfl ?_
                                    refine va_iald hx hb hK.1 hP 4 0 rfl rfl (g_in rfl (by omega) (by omega)) dX9_deal_312 ?_
                                    refine lv_topi (fun z_41 ez_41 => ?_)
                                    have kz_41 := congrArg Int32.toInt ez_41
                                    have jz_41 : 0 ≤ z_41.toInt ∧ z_41.toInt ≤ 3 := by rw [ez_41]; exact v_mf65_258 _ (g_ix rfl (by omega) (by omega))
                                    refine lv_iconst (v := 1) hx hb dX9_deal_313 (by decide) ?_
                                    refine lv_iadd hx hb dX9_deal_314 ?_
                                    refine lv_topi (fun z_42 ez_42 => ?_)
                                    have jz_42 : z_42.toInt = z_41.toInt + 1 := by rw [ez_42]; exact g_add rfl t_1 (by omega) (by omega)
                                    refine va_iast hx hb hK.1 hP hD hS 4 0 rfl rfl (g_in rfl (by omega) (by omega)) dX9_deal_315 (fun H locs hP hD hS => ?_)
                                    have hP : va_P D vwCl [((ma 62), .inl (E 0, 9, .inl mf62)), ((ma 63), .inl (E 0, 9, .inl mf63_129)), ((ma 66), .inl (E 0, 3, .inl (upd g_17 (2 : Int32).toNatClampNeg p2))), (mh, .inr (9, G9 ma mcode mtoday moffs mmany msumW msumA msumR msumWW msumWA msumAA msumWR msumAR mupper mlower mrates mtaped mlaid mat mtk mtkAt mtkNumber mwaits mlisted mdealtMany)), ((ma 65), .inl (E 0, 9, .inl (upd mf65_258 (L7_258 : Int32).toNatClampNeg z_42))), ((ma 67), .inl (E 0, 3, .inl u_28))] H := hP
                                    have hD := toW hP hD rfl
                                    have hv_43 : ∀ k : Nat, k < 9 → 0 ≤ ((upd mf65_258 (L7_258 : Int32).toNatClampNeg z_42) k).toInt ∧ ((upd mf65_258 (L7_258 : Int32).toNatClampNeg z_42) k).toInt ≤ 3 := upd_r v_mf65_258 (by (try dsimp only); omega)
                                    refine lv_goto (tgt := 129) hx hb dX9_deal_316 (by decide) ?_
                                    have hP := hP.sub (ws' := [(mh, .inr (9, G9 ma mcode mtoday moffs mmany msumW msumA msumR msumWW msumWA msumAA msumWR msumAR mupper mlower mrates mtaped mlaid mat mtk mtkAt mtkNumber mwaits mlisted mdealtMany)), ((ma 62), .inl (E 0, 9, .inl mf62)), ((ma 63), .inl (E 0, 9, .inl mf63_129)), ((ma 65), .inl (E 0, 9, .inl (upd mf65_258 (L7_258 : Int32).toNatClampNeg z_42))), ((ma 66), .inl (E 0, 3, .inl (upd g_17 (2 : Int32).toNatClampNeg p2))), ((ma 67), .inl (E 0, 3, .inl u_28))]) [3, 0, 1, 4, 2, 5] rfl
                                    have hD := hD.sub (ws' := [(mh, .inr (9, G9 ma mcode mtoday moffs mmany msumW msumA msumR msumWW msumWA msumAA msumWR msumAR mupper mlower mrates mtaped mlaid mat mtk mtkAt mtkNumber mwaits mlisted mdealtMany)), ((ma 62), .inl (E 0, 9, .inl mf62)), ((ma 63), .inl (E 0, 9, .inl mf63_129)), ((ma 65), .inl (E 0, 9, .inl (upd mf65_258 (L7_258 : Int32).toNatClampNeg z_42))), ((ma 66), .inl (E 0, 3, .inl (upd g_17 (2 : Int32).toNatClampNeg p2))), ((ma 67), .inl (E 0, 3, .inl u_28))]) [3, 0, 1, 4, 2, 5] (by decide) rfl
                                    exact ih_23 1 u_28 (upd mf65_258 (L7_258 : Int32).toNatClampNeg z_42) L5_129 mf63_129 _ _ _ (by have hc := carry_1 (n := mlisted) (i := L7_258) (by omega) (by omega) ez_41 jz_42 v1_258; have h := val4_max (n := mlisted) hv_43 (by omega) (by omega); have h1 := t_1; omega) hv_43 (by have hc := carry_1 (n := mlisted) (i := L7_258) (by omega) (by omega) ez_41 jz_42 v1_258; have h := val4_max (n := mlisted) hv_43 (by omega) (by omega); have h1 := t_1; omega) hP hD hS (lv_sub hl [0, 2, 3, 4, 5, 6, 7] rfl)
                                  ·
                                    have ic_38 : z_37.toInt = 3 := (g_eq rfl t_3).mp c_38
                                    clear c_38
                                    refine lv_aload_n hx hb dX9_deal_274 rfl (lv_at hl 4 rfl) ?_
                                    refine va_get (D := D) (ci := 9) (v := .ref (ma 65)) (C := RX9) (T := TX9) (N := 68) hx hb htb iX9 hown hK.1 hP 3 rfl rfl 65 (by decide) (htb _ k_1023) (fun _ h9 => h9) rfl dX9_deal_275 ?_
                                    refine lv_iload hx hb dX9_deal_278 (lv_at hl 0 rfl) ?_
                                    refine lv_iconst (v := 0) hx hb dX9_deal_280 (by decide) ?_
                                    refine va_iast hx hb hK.1 hP hD hS 4 0 rfl rfl (g_in rfl (by omega) (by omega)) dX9_deal_281 (fun H locs hP hD hS => ?_)
                                    have hP : va_P D vwCl [((ma 62), .inl (E 0, 9, .inl mf62)), ((ma 63), .inl (E 0, 9, .inl mf63_129)), ((ma 66), .inl (E 0, 3, .inl (upd g_17 (2 : Int32).toNatClampNeg p2))), (mh, .inr (9, G9 ma mcode mtoday moffs mmany msumW msumA msumR msumWW msumWA msumAA msumWR msumAR mupper mlower mrates mtaped mlaid mat mtk mtkAt mtkNumber mwaits mlisted mdealtMany)), ((ma 65), .inl (E 0, 9, .inl (upd mf65_258 (L7_258 : Int32).toNatClampNeg 0))), ((ma 67), .inl (E 0, 3, .inl u_28))] H := hP
                                    have hD := toW hP hD rfl
                                    have hv_44 : ∀ k : Nat, k < 9 → 0 ≤ ((upd mf65_258 (L7_258 : Int32).toNatClampNeg 0) k).toInt ∧ ((upd mf65_258 (L7_258 : Int32).toNatClampNeg 0) k).toInt ≤ 3 := upd_r v_mf65_258 (by decide)
                                    obtain ⟨z_45, ez_45⟩ : ∃ y : Int32, y = L7_258 + (-1) := ⟨_, rfl⟩
                                    have jz_45 : z_45.toInt = L7_258.toInt + -1 := by rw [ez_45]; exact g_add rfl t_m1 (by omega) (by omega)
                                    refine lv_iinc (v := z_45) (lv' := [(7, .int z_45), (6, .int L6_129), (5, .int L5_129), (4, .int 3), (0, .ref mh), (1, .int p0), (2, .int p1), (3, .int p2)]) hx hb dX9_deal_282 hl (k := 0) rfl (by rw [ez_45]; rfl) (by decide) rfl (fun ls hl => ?_)
                                    refine lv_goto (tgt := 258) hx hb dX9_deal_285 (by decide) ?_
                                    exact ih_32 z_45 (upd mf65_258 (L7_258 : Int32).toNatClampNeg 0) _ _ _ (by have h0 := t_3; (try dsimp only); omega) hv_44 (by have h0 := t_3; (try dsimp only); omega) (carry_0 (by omega) (by omega) (by omega) ez_37 (by omega) v1_258) hP hD hS (lv_sub hl [0, 1, 2, 3, 4, 5, 6, 7] rfl)
                            exact loop_31 10 z_30 mf65_129 _ _ _ (by have h0 := t_3; (try dsimp only); omega) v_mf65_129 (by have h0 := t_3; (try dsimp only); omega) (carry_s (by omega)) hP hD hS (lv_sub hl [0, 1, 2, 3, 4, 5, 6, 7] rfl)
                          ·
                            have ic_29 : r_26.toInt ≠ 0 := mt (g_eq rfl t_0).mpr c_29
                            clear c_29
                            refine lv_iconst (v := 0) hx hb dX9_deal_143 (by decide) ?_
                            refine lv_istore (lv' := [(7, .int 0), (6, .int L6_129), (5, .int L5_129), (4, .int 3), (0, .ref mh), (1, .int p0), (2, .int p1), (3, .int p2)]) hx hb dX9_deal_144 hl (by decide) rfl (fun ls hl => ?_)
                            refine lv_iconst (v := 0) hx hb dX9_deal_146 (by decide) ?_
                            refine lv_istore (lv' := [(8, .int 0), (7, .int 0), (6, .int L6_129), (5, .int L5_129), (4, .int 3), (0, .ref mh), (1, .int p0), (2, .int p1), (3, .int p2)]) hx hb dX9_deal_147 hl (by decide) rfl (fun ls hl => ?_)
                            have loop_46 : ∀ (N_48 : Nat) (L8_149 : Int32) (L7_149 : Int32) (H : Heap) (locs : List Loc) (ls : Array Slot), (3 : Int32).toInt - L8_149.toInt < (N_48 : Int) → (0 ≤ L8_149.toInt ∧ L8_149.toInt ≤ (3 : Int32).toInt) → va_P D vwCl [((ma 62), .inl (E 0, 9, .inl mf62)), ((ma 63), .inl (E 0, 9, .inl mf63_129)), ((ma 66), .inl (E 0, 3, .inl (upd g_17 (2 : Int32).toNatClampNeg p2))), (mh, .inr (9, G9 ma mcode mtoday moffs mmany msumW msumA msumR msumWW msumWA msumAA msumWR msumAR mupper mlower mrates mtaped mlaid mat mtk mtkAt mtkNumber mwaits mlisted mdealtMany)), ((ma 65), .inl (E 0, 9, .inl mf65_129)), ((ma 67), .inl (E 0, 3, .inl u_28))] H → va_D A [((ma 62), .inl (E 0, 9, .inl mf62)), ((ma 63), .inl (E 0, 9, .inl mf63_129)), ((ma 66), .inl (E 0, 3, .inl (upd g_17 (2 : Int32).toNatClampNeg p2))), (mh, .inr (9, G9 ma mcode mtoday moffs mmany msumW msumA msumR msumWW msumWA msumAA msumWR msumAR mupper mlower mrates mtaped mlaid mat mtk mtkAt mtkNumber mwaits mlisted mdealtMany)), ((ma 65), .inl (E 0, 9, .inl mf65_129)), ((ma 67), .inl (E 0, 3, .inl u_28))] → va_S A s.heap H locs → lv_has ls 9 [(8, .int L8_149), (7, .int L7_149), (6, .int L6_129), (5, .int L5_129), (4, .int 3), (0, .ref mh), (1, .int p0), (2, .int p1), (3, .int p2)] → W p l e (headSpec (wl yX9_deal cX9_deal 9 (some .int)) (RM 1 0 0)).room s m [Value.ref mh, .int p0, .int p1, .int p2].toArray below meth c H locs 0 0 (MQ below (va_Qi (fun (r : Int32) (u : (Nat → Int32) × (Nat → Int32) × (Nat → Int32) × (Nat → Int32) × (Int32) × (Int32)) => (∀ k : Nat, k < 9 → 0 ≤ (u.2.1 k).toInt ∧ (u.2.1 k).toInt ≤ 3) ∧ (0 ≤ u.2.2.2.2.1.toInt ∧ u.2.2.2.2.1.toInt ≤ 9) ∧ (0 ≤ u.2.2.2.2.2.toInt ∧ u.2.2.2.2.2.toInt ≤ 9) ∧ ((¬ ((1 ≤ p0.toInt ∧ p0.toInt ≤ 400) ∧ (0 ≤ p1.toInt ∧ p1.toInt ≤ 400) ∧ (0 ≤ p2.toInt ∧ p2.toInt ≤ 400) ∧ ¬ (p1.toInt = 0 ∧ p2.toInt ≠ 0)) ∧ r.toInt = -1 ∧ u.2.2.2.2.2.toInt = mlisted.toInt) ∨ (((1 ≤ p0.toInt ∧ p0.toInt ≤ 400) ∧ (0 ≤ p1.toInt ∧ p1.toInt ≤ 400) ∧ (0 ≤ p2.toInt ∧ p2.toInt ≤ 400) ∧ ¬ (p1.toInt = 0 ∧ p2.toInt ≠ 0)) ∧ ((p1.toInt = 0 ∧ mlisted.toInt < 3) ∨ (p1.toInt ≠ 0 ∧ p2.toInt = 0 ∧ mlisted.toInt < 6) ∨ (p1.toInt ≠ 0 ∧ p2.toInt ≠ 0 ∧ mlisted.toInt < 9)) ∧ r.toInt = -4 ∧ u.2.2.2.2.2.toInt = mlisted.toInt) ∨ (((1 ≤ p0.toInt ∧ p0.toInt ≤ 400) ∧ (0 ≤ p1.toInt ∧ p1.toInt ≤ 400) ∧ (0 ≤ p2.toInt ∧ p2.toInt ≤ 400) ∧ ¬ (p1.toInt = 0 ∧ p2.toInt ≠ 0)) ∧ ¬ ((p1.toInt = 0 ∧ mlisted.toInt < 3) ∨ (p1.toInt ≠ 0 ∧ p2.toInt = 0 ∧ mlisted.toInt < 6) ∨ (p1.toInt ≠ 0 ∧ p2.toInt ≠ 0 ∧ mlisted.toInt < 9)) ∧ u.2.2.2.2.2.toInt = 0))) (mu_B D A (fun (u : (Nat → Int32) × (Nat → Int32) × (Nat → Int32) × (Nat → Int32) × (Int32) × (Int32)) => [(mh, .inr (9, G9 ma mcode mtoday moffs mmany msumW msumA msumR msumWW msumWA msumAA msumWR msumAR mupper mlower mrates mtaped mlaid mat mtk mtkAt mtkNumber mwaits u.2.2.2.2.2 u.2.2.2.2.1)), ((ma 62), .inl (E 0, 9, .inl mf62)), ((ma 63), .inl (E 0, 9, .inl u.1)), ((ma 65), .inl (E 0, 9, .inl u.2.1)), ((ma 66), .inl (E 0, 3, .inl u.2.2.1)), ((ma 67), .inl (E 0, 3, .inl u.2.2.2.1))])) A) [Value.ref mh, .int p0, .int p1, .int p2].toArray s 0 0 A) (F0 m 149 ls []) := by
                              intro N_48
                              induction N_48 with
                              | zero => intro L8_149 L7_149 H locs ls hm v0_149 _ _ _ _; exfalso; omega
                              | succ N_48 ih_47 =>
                                intro L8_149 L7_149 H locs ls hm v0_149 hP hD hS hl
                                have lo_L8_149 := i_lo L8_149; have hi_L8_149 := i_hi L8_149
                                have lo_L7_149 := i_lo L7_149; have hi_L7_149 := i_hi L7_149
                                refine lv_iload hx hb dX9_deal_149 (lv_at hl 0 rfl) ?_
                                refine lv_iload hx hb dX9_deal_151 (lv_at hl 4 rfl) ?_
                                refine lv_icmp_ge (tgt := 202) hx hb dX9_deal_153 (by decide) (fun c_49 => ?_) (fun c_49 => ?_)
                                ·
                                  have ic_49 : 3 ≤ L8_149.toInt := by first | exact (g_le t_3 rfl).mp c_49 | (have h := mt (g_lt rfl t_3).mpr c_49; omega)
                                  clear c_49
                                  refine lv_iload hx hb dX9_deal_202 (lv_at hl 3 rfl) ?_
                                  refine lv_if_lt (tgt := 214) hx hb dX9_deal_204 (by decide) (fun c_50 => ?_) (fun c_50 => ?_)
                                  ·
                                    have ic_50 : L5_129.toInt < 0 := by first | exact (g_lt rfl t_0).mp c_50 | (have h := mt (g_le t_0 rfl).mpr c_50; omega)
                                    clear c_50
                                    refine lv_iload hx hb dX9_deal_214 (lv_at hl 1 rfl) ?_
                                    refine lv_istore (lv' := [(5, .int L7_149), (8, .int L8_149), (7, .int L7_149), (6, .int L6_129), (4, .int 3), (0, .ref mh), (1, .int p0), (2, .int p1), (3, .int p2)]) hx hb dX9_deal_216 hl (by decide) rfl (fun ls hl => ?_)
                                    refine lv_iconst (v := 0) hx hb dX9_deal_218 (by decide) ?_
                                    refine lv_istore (lv' := [(8, .int 0), (5, .int L7_149), (7, .int L7_149), (6, .int L6_129), (4, .int 3), (0, .ref mh), (1, .int p0), (2, .int p1), (3, .int p2)]) hx hb dX9_deal_219 hl (by decide) rfl (fun ls hl => ?_)
                                    have loop_51 : ∀ (N_53 : Nat) (L8_221 : Int32) (mf63_221 : Nat → Int32) (H : Heap) (locs : List Loc) (ls : Array Slot), mlisted.toInt - L8_221.toInt < (N_53 : Int) → (0 ≤ L8_221.toInt ∧ L8_221.toInt ≤ mlisted.toInt) → va_P D vwCl [((ma 62), .inl (E 0, 9, .inl mf62)), ((ma 63), .inl (E 0, 9, .inl mf63_221)), ((ma 66), .inl (E 0, 3, .inl (upd g_17 (2 : Int32).toNatClampNeg p2))), (mh, .inr (9, G9 ma mcode mtoday moffs mmany msumW msumA msumR msumWW msumWA msumAA msumWR msumAR mupper mlower mrates mtaped mlaid mat mtk mtkAt mtkNumber mwaits mlisted mdealtMany)), ((ma 65), .inl (E 0, 9, .inl mf65_129)), ((ma 67), .inl (E 0, 3, .inl u_28))] H → va_D A [((ma 62), .inl (E 0, 9, .inl mf62)), ((ma 63), .inl (E 0, 9, .inl mf63_221)), ((ma 66), .inl (E 0, 3, .inl (upd g_17 (2 : Int32).toNatClampNeg p2))), (mh, .inr (9, G9 ma mcode mtoday moffs mmany msumW msumA msumR msumWW msumWA msumAA msumWR msumAR mupper mlower mrates mtaped mlaid mat mtk mtkAt mtkNumber mwaits mlisted mdealtMany)), ((ma 65), .inl (E 0, 9, .inl mf65_129)), ((ma 67), .inl (E 0, 3, .inl u_28))] → va_S A s.heap H locs → lv_has ls 9 [(8, .int L8_221), (5, .int L7_149), (7, .int L7_149), (6, .int L6_129), (4, .int 3), (0, .ref mh), (1, .int p0), (2, .int p1), (3, .int p2)] → W p l e (headSpec (wl yX9_deal cX9_deal 9 (some .int)) (RM 1 0 0)).room s m [Value.ref mh, .int p0, .int p1, .int p2].toArray below meth c H locs 0 0 (MQ below (va_Qi (fun (r : Int32) (u : (Nat → Int32) × (Nat → Int32) × (Nat → Int32) × (Nat → Int32) × (Int32) × (Int32)) => (∀ k : Nat, k < 9 → 0 ≤ (u.2.1 k).toInt ∧ (u.2.1 k).toInt ≤ 3) ∧ (0 ≤ u.2.2.2.2.1.toInt ∧ u.2.2.2.2.1.toInt ≤ 9) ∧ (0 ≤ u.2.2.2.2.2.toInt ∧ u.2.2.2.2.2.toInt ≤ 9) ∧ ((¬ ((1 ≤ p0.toInt ∧ p0.toInt ≤ 400) ∧ (0 ≤ p1.toInt ∧ p1.toInt ≤ 400) ∧ (0 ≤ p2.toInt ∧ p2.toInt ≤ 400) ∧ ¬ (p1.toInt = 0 ∧ p2.toInt ≠ 0)) ∧ r.toInt = -1 ∧ u.2.2.2.2.2.toInt = mlisted.toInt) ∨ (((1 ≤ p0.toInt ∧ p0.toInt ≤ 400) ∧ (0 ≤ p1.toInt ∧ p1.toInt ≤ 400) ∧ (0 ≤ p2.toInt ∧ p2.toInt ≤ 400) ∧ ¬ (p1.toInt = 0 ∧ p2.toInt ≠ 0)) ∧ ((p1.toInt = 0 ∧ mlisted.toInt < 3) ∨ (p1.toInt ≠ 0 ∧ p2.toInt = 0 ∧ mlisted.toInt < 6) ∨ (p1.toInt ≠ 0 ∧ p2.toInt ≠ 0 ∧ mlisted.toInt < 9)) ∧ r.toInt = -4 ∧ u.2.2.2.2.2.toInt = mlisted.toInt) ∨ (((1 ≤ p0.toInt ∧ p0.toInt ≤ 400) ∧ (0 ≤ p1.toInt ∧ p1.toInt ≤ 400) ∧ (0 ≤ p2.toInt ∧ p2.toInt ≤ 400) ∧ ¬ (p1.toInt = 0 ∧ p2.toInt ≠ 0)) ∧ ¬ ((p1.toInt = 0 ∧ mlisted.toInt < 3) ∨ (p1.toInt ≠ 0 ∧ p2.toInt = 0 ∧ mlisted.toInt < 6) ∨ (p1.toInt ≠ 0 ∧ p2.toInt ≠ 0 ∧ mlisted.toInt < 9)) ∧ u.2.2.2.2.2.toInt = 0))) (mu_B D A (fun (u : (Nat → Int32) × (Nat → Int32) × (Nat → Int32) × (Nat → Int32) × (Int32) × (Int32)) => [(mh, .inr (9, G9 ma mcode mtoday moffs mmany msumW msumA msumR msumWW msumWA msumAA msumWR msumAR mupper mlower mrates mtaped mlaid mat mtk mtkAt mtkNumber mwaits u.2.2.2.2.2 u.2.2.2.2.1)), ((ma 62), .inl (E 0, 9, .inl mf62)), ((ma 63), .inl (E 0, 9, .inl u.1)), ((ma 65), .inl (E 0, 9, .inl u.2.1)), ((ma 66), .inl (E 0, 3, .inl u.2.2.1)), ((ma 67), .inl (E 0, 3, .inl u.2.2.2.1))])) A) [Value.ref mh, .int p0, .int p1, .int p2].toArray s 0 0 A) (F0 m 221 ls []) := by
                                      intro N_53
                                      induction N_53 with
                                      | zero => intro L8_221 mf63_221 H locs ls hm v0_221 _ _ _ _; exfalso; omega
                                      | succ N_53 ih_52 =>
                                        intro L8_221 mf63_221 H locs ls hm v0_221 hP hD hS hl
                                        have lo_L8_221 := i_lo L8_221; have hi_L8_221 := i_hi L8_221
                                        refine lv_iload hx hb dX9_deal_221 (lv_at hl 0 rfl) ?_
                                        refine lv_aload_n hx hb dX9_deal_223 rfl (lv_at hl 5 rfl) ?_
                                        refine va_get (D := D) (ci := 9) (v := .int mlisted) (C := RX9) (T := TX9) (N := 68) hx hb htb iX9 hown hK.1 hP 3 rfl rfl 61 (by decide) (htb _ k_1019) (fun _ h9 => h9) rfl dX9_deal_224 ?_
                                        refine lv_icmp_ge (tgt := 250) hx hb dX9_deal_227 (by decide) (fun c_54 => ?_) (fun c_54 => ?_)
                                        ·
                                          have ic_54 : mlisted.toInt ≤ L8_221.toInt := by first | exact (g_le rfl rfl).mp c_54 | (have h := mt (g_lt rfl rfl).mpr c_54; omega)
                                          clear c_54
                                          refine lv_aload_n hx hb dX9_deal_250 rfl (lv_at hl 5 rfl) ?_
                                          refine va_get (D := D) (ci := 9) (v := .int mlisted) (C := RX9) (T := TX9) (N := 68) hx hb htb iX9 hown hK.1 hP 3 rfl rfl 61 (by decide) (htb _ k_1019) (fun _ h9 => h9) rfl dX9_deal_251 ?_
                                          refine lv_iconst (v := 1) hx hb dX9_deal_254 (by decide) ?_
                                          refine lv_isub hx hb dX9_deal_255 ?_
                                          refine lv_topi (fun z_55 ez_55 => ?_)
                                          have jz_55 : z_55.toInt = mlisted.toInt - 1 := by rw [ez_55]; exact g_sub rfl t_1 (by omega) (by omega)
                                          refine lv_istore (lv' := [(7, .int z_55), (8, .int L8_221), (5, .int L7_149), (6, .int L6_129), (4, .int 3), (0, .ref mh), (1, .int p0), (2, .int p1), (3, .int p2)]) hx hb dX9_deal_256 hl (by decide) rfl (fun ls hl => ?_)
                                          have loop_56 : ∀ (N_58 : Nat) (L7_258 : Int32) (mf65_258 : Nat → Int32) (H : Heap) (locs : List Loc) (ls : Array Slot), L7_258.toInt + 1 < (N_58 : Int) → (∀ k : Nat, k < 9 → 0 ≤ (mf65_258 k).toInt ∧ (mf65_258 k).toInt ≤ 3) → (-1 ≤ L7_258.toInt ∧ L7_258.toInt < mlisted.toInt) → (val4 mf65_258 (mlisted).toNatClampNeg + 4 ^ (mlisted.toInt - 1 - L7_258.toInt).toNat = val4 mf65_129 (mlisted).toNatClampNeg + 1) → va_P D vwCl [((ma 62), .inl (E 0, 9, .inl mf62)), ((ma 63), .inl (E 0, 9, .inl mf63_221)), ((ma 66), .inl (E 0, 3, .inl (upd g_17 (2 : Int32).toNatClampNeg p2))), (mh, .inr (9, G9 ma mcode mtoday moffs mmany msumW msumA msumR msumWW msumWA msumAA msumWR msumAR mupper mlower mrates mtaped mlaid mat mtk mtkAt mtkNumber mwaits mlisted mdealtMany)), ((ma 65), .inl (E 0, 9, .inl mf65_258)), ((ma 67), .inl (E 0, 3, .inl u_28))] H → va_D A [((ma 62), .inl (E 0, 9, .inl mf62)), ((ma 63), .inl (E 0, 9, .inl mf63_221)), ((ma 66), .inl (E 0, 3, .inl (upd g_17 (2 : Int32).toNatClampNeg p2))), (mh, .inr (9, G9 ma mcode mtoday moffs mmany msumW msumA msumR msumWW msumWA msumAA msumWR msumAR mupper mlower mrates mtaped mlaid mat mtk mtkAt mtkNumber mwaits mlisted mdealtMany)), ((ma 65), .inl (E 0, 9, .inl mf65_258)), ((ma 67), .inl (E 0, 3, .inl u_28))] → va_S A s.heap H locs → lv_has ls 9 [(7, .int L7_258), (5, .int L7_149), (6, .int L6_129), (4, .int 3), (0, .ref mh), (1, .int p0), (2, .int p1), (3, .int p2)] → W p l e (headSpec (wl yX9_deal cX9_deal 9 (some .int)) (RM 1 0 0)).room s m [Value.ref mh, .int p0, .int p1, .int p2].toArray below meth c H locs 0 0 (MQ below (va_Qi (fun (r : Int32) (u : (Nat → Int32) × (Nat → Int32) × (Nat → Int32) × (Nat → Int32) × (Int32) × (Int32)) => (∀ k : Nat, k < 9 → 0 ≤ (u.2.1 k).toInt ∧ (u.2.1 k).toInt ≤ 3) ∧ (0 ≤ u.2.2.2.2.1.toInt ∧ u.2.2.2.2.1.toInt ≤ 9) ∧ (0 ≤ u.2.2.2.2.2.toInt ∧ u.2.2.2.2.2.toInt ≤ 9) ∧ ((¬ ((1 ≤ p0.toInt ∧ p0.toInt ≤ 400) ∧ (0 ≤ p1.toInt ∧ p1.toInt ≤ 400) ∧ (0 ≤ p2.toInt ∧ p2.toInt ≤ 400) ∧ ¬ (p1.toInt = 0 ∧ p2.toInt ≠ 0)) ∧ r.toInt = -1 ∧ u.2.2.2.2.2.toInt = mlisted.toInt) ∨ (((1 ≤ p0.toInt ∧ p0.toInt ≤ 400) ∧ (0 ≤ p1.toInt ∧ p1.toInt ≤ 400) ∧ (0 ≤ p2.toInt ∧ p2.toInt ≤ 400) ∧ ¬ (p1.toInt = 0 ∧ p2.toInt ≠ 0)) ∧ ((p1.toInt = 0 ∧ mlisted.toInt < 3) ∨ (p1.toInt ≠ 0 ∧ p2.toInt = 0 ∧ mlisted.toInt < 6) ∨ (p1.toInt ≠ 0 ∧ p2.toInt ≠ 0 ∧ mlisted.toInt < 9)) ∧ r.toInt = -4 ∧ u.2.2.2.2.2.toInt = mlisted.toInt) ∨ (((1 ≤ p0.toInt ∧ p0.toInt ≤ 400) ∧ (0 ≤ p1.toInt ∧ p1.toInt ≤ 400) ∧ (0 ≤ p2.toInt ∧ p2.toInt ≤ 400) ∧ ¬ (p1.toInt = 0 ∧ p2.toInt ≠ 0)) ∧ ¬ ((p1.toInt = 0 ∧ mlisted.toInt < 3) ∨ (p1.toInt ≠ 0 ∧ p2.toInt = 0 ∧ mlisted.toInt < 6) ∨ (p1.toInt ≠ 0 ∧ p2.toInt ≠ 0 ∧ mlisted.toInt < 9)) ∧ u.2.2.2.2.2.toInt = 0))) (mu_B D A (fun (u : (Nat → Int32) × (Nat → Int32) × (Nat → Int32) × (Nat → Int32) × (Int32) × (Int32)) => [(mh, .inr (9, G9 ma mcode mtoday moffs mmany msumW msumA msumR msumWW msumWA msumAA msumWR msumAR mupper mlower mrates mtaped mlaid mat mtk mtkAt mtkNumber mwaits u.2.2.2.2.2 u.2.2.2.2.1)), ((ma 62), .inl (E 0, 9, .inl mf62)), ((ma 63), .inl (E 0, 9, .inl u.1)), ((ma 65), .inl (E 0, 9, .inl u.2.1)), ((ma 66), .inl (E 0, 3, .inl u.2.2.1)), ((ma 67), .inl (E 0, 3, .inl u.2.2.2.1))])) A) [Value.ref mh, .int p0, .int p1, .int p2].toArray s 0 0 A) (F0 m 258 ls []) := by
                                            intro N_58
                                            induction N_58 with
                                            | zero => intro L7_258 mf65_258 H locs ls hm v_mf65_258 v0_258 v1_258 _ _ _ _; exfalso; omega
                                            | succ N_58 ih_57 =>
                                              intro L7_258 mf65_258 H locs ls hm v_mf65_258 v0_258 v1_258 hP hD hS hl
                                              have lo_L7_258 := i_lo L7_258; have hi_L7_258 := i_hi L7_258
                                              refine lv_iload hx hb dX9_deal_258 (lv_at hl 0 rfl) ?_
                                              refine lv_if_lt (tgt := 288) hx hb dX9_deal_260 (by decide) (fun c_59 => ?_) (fun c_59 => ?_)
                                              ·
                                                have ic_59 : L7_258.toInt < 0 := by first | exact (g_lt rfl t_0).mp c_59 | (have h := mt (g_le t_0 rfl).mpr c_59; omega)
                                                clear c_59
                                                refine lv_iload hx hb dX9_deal_288 (lv_at hl 0 rfl) ?_
                                                refine lv_if_lt (tgt := 297) hx hb dX9_deal_290 (by decide) (fun c_60 => ?_) (fun c_60 => absurd (by rw [g_lt rfl t_0]; omega) c_60)
                                                refine lv_iconst (v := 0) hx hb dX9_deal_297 (by decide) ?_
                                                refine lv_istore (lv' := [(6, .int 0), (7, .int L7_258), (5, .int L7_149), (4, .int 3), (0, .ref mh), (1, .int p0), (2, .int p1), (3, .int p2)]) hx hb dX9_deal_298 hl (by decide) rfl (fun ls hl => ?_)
                                                refine lv_iload hx hb dX9_deal_300 (lv_at hl 0 rfl) ?_
                                                refine lv_if_eq (tgt := 316) hx hb dX9_deal_302 (by decide) (fun c_61 => ?_) (fun c_61 => absurd (by decide) c_61)
                                                refine lv_goto (tgt := 129) hx hb dX9_deal_316 (by decide) ?_
                                                have hP := hP.sub (ws' := [(mh, .inr (9, G9 ma mcode mtoday moffs mmany msumW msumA msumR msumWW msumWA msumAA msumWR msumAR mupper mlower mrates mtaped mlaid mat mtk mtkAt mtkNumber mwaits mlisted mdealtMany)), ((ma 62), .inl (E 0, 9, .inl mf62)), ((ma 63), .inl (E 0, 9, .inl mf63_221)), ((ma 65), .inl (E 0, 9, .inl mf65_258)), ((ma 66), .inl (E 0, 3, .inl (upd g_17 (2 : Int32).toNatClampNeg p2))), ((ma 67), .inl (E 0, 3, .inl u_28))]) [3, 0, 1, 4, 2, 5] rfl
                                                have hD := hD.sub (ws' := [(mh, .inr (9, G9 ma mcode mtoday moffs mmany msumW msumA msumR msumWW msumWA msumAA msumWR msumAR mupper mlower mrates mtaped mlaid mat mtk mtkAt mtkNumber mwaits mlisted mdealtMany)), ((ma 62), .inl (E 0, 9, .inl mf62)), ((ma 63), .inl (E 0, 9, .inl mf63_221)), ((ma 65), .inl (E 0, 9, .inl mf65_258)), ((ma 66), .inl (E 0, 3, .inl (upd g_17 (2 : Int32).toNatClampNeg p2))), ((ma 67), .inl (E 0, 3, .inl u_28))]) [3, 0, 1, 4, 2, 5] (by decide) rfl
                                                exact ih_23 0 u_28 mf65_258 L7_149 mf63_221 _ _ _ (by have h := carry_e (n := mlisted) (i := L7_258) (by omega) (by omega) (by omega) v_mf65_258 v_mf65_129 v1_258; have h1 := t_0; omega) v_mf65_258 (by have h := carry_e (n := mlisted) (i := L7_258) (by omega) (by omega) (by omega) v_mf65_258 v_mf65_129 v1_258; have h1 := t_0; omega) hP hD hS (lv_sub hl [0, 2, 3, 4, 5, 6, 7] rfl)
                                              ·
                                                have ic_59 : 0 ≤ L7_258.toInt := by first | exact (g_le t_0 rfl).mp c_59 | (have h := mt (g_lt rfl t_0).mpr c_59; omega)
                                                clear c_59
                                                refine lv_aload_n hx hb dX9_deal_263 rfl (lv_at hl 4 rfl) ?_
                                                refine va_get (D := D) (ci := 9) (v := .ref (ma 65)) (C := RX9) (T := TX9) (N := 68) hx hb htb iX9 hown hK.1 hP 3 rfl rfl 65 (by decide) (htb _ k_1023) (fun _ h9 => h9) rfl dX9_deal_264 ?_
                                                refine lv_iload hx hb dX9_deal_267 (lv_at hl 0 rfl) ?_
                                                refine va_iald hx hb hK.1 hP 4 0 rfl rfl (g_in rfl (by omega) (by omega)) dX9_deal_269 ?_
                                                refine lv_topi (fun z_62 ez_62 => ?_)
                                                have kz_62 := congrArg Int32.toInt ez_62
                                                have jz_62 : 0 ≤ z_62.toInt ∧ z_62.toInt ≤ 3 := by rw [ez_62]; exact v_mf65_258 _ (g_ix rfl (by omega) (by omega))
                                                refine lv_iconst (v := 3) hx hb dX9_deal_270 (by decide) ?_
                                                refine lv_icmp_ne (tgt := 288) hx hb dX9_deal_271 (by decide) (fun c_63 => ?_) (fun c_63 => ?_)
                                                ·
                                                  have ic_63 : z_62.toInt ≠ 3 := mt (g_eq rfl t_3).mpr c_63
                                                  clear c_63
                                                  refine lv_iload hx hb dX9_deal_288 (lv_at hl 0 rfl) ?_
                                                  refine lv_if_lt (tgt := 297) hx hb dX9_deal_290 (by decide) (fun c_64 => absurd c_64 (by rw [g_lt rfl t_0]; omega)) (fun c_64 => ?_)
                                                  refine lv_iconst (v := 1) hx hb dX9_deal_293 (by decide) ?_
                                                  refine lv_goto (tgt := 298) hx hb dX9_deal_294 (by decide) ?_
                                                  refine lv_istore (lv' := [(6, .int 1), (7, .int L7_258), (5, .int L7_149), (4, .int 3), (0, .ref mh), (1, .int p0), (2, .int p1), (3, .int p2)]) hx hb dX9_deal_298 hl (by decide) rfl (fun ls hl => ?_)
                                                  refine lv_iload hx hb dX9_deal_300 (lv_at hl 0 rfl) ?_
                                                  refine lv_if_eq (tgt := 316) hx hb dX9_deal_302 (by decide) (fun c_65 => absurd c_65 (by decide)) (fun c_65 => ?_)
                                                  refine lv_aload_n hx hb dX9_deal_305 rfl (lv_at hl 4 rfl) ?_
                                                  refine va_get (D := D) (ci := 9) (v := .ref (ma 65)) (C := RX9) (T := TX9) (N := 68) hx hb htb iX9 hown hK.1 hP 3 rfl rfl 65 (by decide) (htb _ k_1023) (fun _ h9 => h9) rfl dX9_deal_306 ?_
                                                  refine lv_iload hx hb dX9_deal_309 (lv_at hl 1 rfl) ?_
                                                  refine lv_dup2_11 hx hb dX9_deal_311 rfl rfl ?_
                                                  refine va_iald hx hb hK.1 hP 4 0 rfl rfl (g_in rfl (by omega) (by omega)) dX9_deal_312 ?_
                                                  refine lv_topi (fun z_66 ez_66 => ?_)
                                                  have kz_66 := congrArg Int32.toInt ez_66
                                                  have jz_66 : 0 ≤ z_66.toInt ∧ z_66.toInt ≤ 3 := by rw [ez_66]; exact v_mf65_258 _ (g_ix rfl (by omega) (by omega))
                                                  refine lv_iconst (v := 1) hx hb dX9_deal_313 (by decide) ?_
                                                  refine lv_iadd hx hb dX9_deal_314 ?_
                                                  refine lv_topi (fun z_67 ez_67 => ?_)
                                                  have jz_67 : z_67.toInt = z_66.toInt + 1 := by rw [ez_67]; exact g_add rfl t_1 (by omega) (by omega)
                                                  refine va_iast hx hb hK.1 hP hD hS 4 0 rfl rfl (g_in rfl (by omega) (by omega)) dX9_deal_315 (fun H locs hP hD hS => ?_)
                                                  have hP : va_P D vwCl [((ma 62), .inl (E 0, 9, .inl mf62)), ((ma 63), .inl (E 0, 9, .inl mf63_221)), ((ma 66), .inl (E 0, 3, .inl (upd g_17 (2 : Int32).toNatClampNeg p2))), (mh, .inr (9, G9 ma mcode mtoday moffs mmany msumW msumA msumR msumWW msumWA msumAA msumWR msumAR mupper mlower mrates mtaped mlaid mat mtk mtkAt mtkNumber mwaits mlisted mdealtMany)), ((ma 65), .inl (E 0, 9, .inl (upd mf65_258 (L7_258 : Int32).toNatClampNeg z_67))), ((ma 67), .inl (E 0, 3, .inl u_28))] H := hP
                                                  have hD := toW hP hD rfl
                                                  have hv_68 : ∀ k : Nat, k < 9 → 0 ≤ ((upd mf65_258 (L7_258 : Int32).toNatClampNeg z_67) k).toInt ∧ ((upd mf65_258 (L7_258 : Int32).toNatClampNeg z_67) k).toInt ≤ 3 := upd_r v_mf65_258 (by (try dsimp only); omega)
                                                  refine lv_goto (tgt := 129) hx hb dX9_deal_316 (by decide) ?_
                                                  have hP := hP.sub (ws' := [(mh, .inr (9, G9 ma mcode mtoday moffs mmany msumW msumA msumR msumWW msumWA msumAA msumWR msumAR mupper mlower mrates mtaped mlaid mat mtk mtkAt mtkNumber mwaits mlisted mdealtMany)), ((ma 62), .inl (E 0, 9, .inl mf62)), ((ma 63), .inl (E 0, 9, .inl mf63_221)), ((ma 65), .inl (E 0, 9, .inl (upd mf65_258 (L7_258 : Int32).toNatClampNeg z_67))), ((ma 66), .inl (E 0, 3, .inl (upd g_17 (2 : Int32).toNatClampNeg p2))), ((ma 67), .inl (E 0, 3, .inl u_28))]) [3, 0, 1, 4, 2, 5] rfl
                                                  have hD := hD.sub (ws' := [(mh, .inr (9, G9 ma mcode mtoday moffs mmany msumW msumA msumR msumWW msumWA msumAA msumWR msumAR mupper mlower mrates mtaped mlaid mat mtk mtkAt mtkNumber mwaits mlisted mdealtMany)), ((ma 62), .inl (E 0, 9, .inl mf62)), ((ma 63), .inl (E 0, 9, .inl mf63_221)), ((ma 65), .inl (E 0, 9, .inl (upd mf65_258 (L7_258 : Int32).toNatClampNeg z_67))), ((ma 66), .inl (E 0, 3, .inl (upd g_17 (2 : Int32).toNatClampNeg p2))), ((ma 67), .inl (E 0, 3, .inl u_28))]) [3, 0, 1, 4, 2, 5] (by decide) rfl
                                                  exact ih_23 1 u_28 (upd mf65_258 (L7_258 : Int32).toNatClampNeg z_67) L7_149 mf63_221 _ _ _ (by have hc := carry_1 (n := mlisted) (i := L7_258) (by omega) (by omega) ez_66 jz_67 v1_258; have h := val4_max (n := mlisted) hv_68 (by omega) (by omega); have h1 := t_1; omega) hv_68 (by have hc := carry_1 (n := mlisted) (i := L7_258) (by omega) (by omega) ez_66 jz_67 v1_258; have h := val4_max (n := mlisted) hv_68 (by omega) (by omega); have h1 := t_1; omega) hP hD hS (lv_sub hl [0, 2, 3, 4, 5, 6, 7] rfl)
                                                ·
                                                  have ic_63 : z_62.toInt = 3 := (g_eq rfl t_3).mp c_63
                                                  clear c_63
                                                  refine lv_aload_n hx hb dX9_deal_274 rfl (lv_at hl 4 rfl) ?_
                                                  refine va_get (D := D) (ci := 9) (v := .ref (ma 65)) (C := RX9) (T := TX9) (N := 68) hx hb htb iX9 hown hK.1 hP 3 rfl rfl 65 (by decide) (htb _ k_1023) (fun _ h9 => h9) rfl dX9_deal_275 ?_
                                                  refine lv_iload hx hb dX9_deal_278 (lv_at hl 0 rfl) ?_
                                                  refine lv_iconst (v := 0) hx hb dX9_deal_280 (by decide) ?_
                                                  refine va_iast hx hb hK.1 hP hD hS 4 0 rfl rfl (g_in rfl (by omega) (by omega)) dX9_deal_281 (fun H locs hP hD hS => ?_)
                                                  have hP : va_P D vwCl [((ma 62), .inl (E 0, 9, .inl mf62)), ((ma 63), .inl (E 0, 9, .inl mf63_221)), ((ma 66), .inl (E 0, 3, .inl (upd g_17 (2 : Int32).toNatClampNeg p2))), (mh, .inr (9, G9 ma mcode mtoday moffs mmany msumW msumA msumR msumWW msumWA msumAA msumWR msumAR mupper mlower mrates mtaped mlaid mat mtk mtkAt mtkNumber mwaits mlisted mdealtMany)), ((ma 65), .inl (E 0, 9, .inl (upd mf65_258 (L7_258 : Int32).toNatClampNeg 0))), ((ma 67), .inl (E 0, 3, .inl u_28))] H := hP
                                                  have hD := toW hP hD rfl
                                                  have hv_69 : ∀ k : Nat, k < 9 → 0 ≤ ((upd mf65_258 (L7_258 : Int32).toNatClampNeg 0) k).toInt ∧ ((upd mf65_258 (L7_258 : Int32).toNatClampNeg 0) k).toInt ≤ 3 := upd_r v_mf65_258 (by decide)
                                                  obtain ⟨z_70, ez_70⟩ : ∃ y : Int32, y = L7_258 + (-1) := ⟨_, rfl⟩
                                                  have jz_70 : z_70.toInt = L7_258.toInt + -1 := by rw [ez_70]; exact g_add rfl t_m1 (by omega) (by omega)
                                                  refine lv_iinc (v := z_70) (lv' := [(7, .int z_70), (5, .int L7_149), (6, .int L6_129), (4, .int 3), (0, .ref mh), (1, .int p0), (2, .int p1), (3, .int p2)]) hx hb dX9_deal_282 hl (k := 0) rfl (by rw [ez_70]; rfl) (by decide) rfl (fun ls hl => ?_)
                                                  refine lv_goto (tgt := 258) hx hb dX9_deal_285 (by decide) ?_
                                                  exact ih_57 z_70 (upd mf65_258 (L7_258 : Int32).toNatClampNeg 0) _ _ _ (by have h0 := t_3; (try dsimp only); omega) hv_69 (by have h0 := t_3; (try dsimp only); omega) (carry_0 (by omega) (by omega) (by omega) ez_62 (by omega) v1_258) hP hD hS (lv_sub hl [0, 1, 2, 3, 4, 5, 6, 7] rfl)
                                          exact loop_56 10 z_55 mf65_129 _ _ _ (by have h0 := t_3; (try dsimp only); omega) v_mf65_129 (by have h0 := t_3; (try dsimp only); omega) (carry_s (by omega)) hP hD hS (lv_sub hl [0, 2, 3, 4, 5, 6, 7, 8] rfl)
                                        ·
                                          have ic_54 : L8_221.toInt < mlisted.toInt := by first | exact (g_lt rfl rfl).mp c_54 | (have h := mt (g_le rfl rfl).mpr c_54; omega)
                                          clear c_54
                                          refine lv_aload_n hx hb dX9_deal_230 rfl (lv_at hl 5 rfl) ?_
                                          refine va_get (D := D) (ci := 9) (v := .ref (ma 63)) (C := RX9) (T := TX9) (N := 68) hx hb htb iX9 hown hK.1 hP 3 rfl rfl 63 (by decide) (htb _ k_1021) (fun _ h9 => h9) rfl dX9_deal_231 ?_
                                          refine lv_iload hx hb dX9_deal_234 (lv_at hl 0 rfl) ?_
                                          refine lv_aload_n hx hb dX9_deal_236 rfl (lv_at hl 5 rfl) ?_
                                          refine va_get (D := D) (ci := 9) (v := .ref (ma 65)) (C := RX9) (T := TX9) (N := 68) hx hb htb iX9 hown hK.1 hP 3 rfl rfl 65 (by decide) (htb _ k_1023) (fun _ h9 => h9) rfl dX9_deal_237 ?_
                                          refine lv_iload hx hb dX9_deal_240 (lv_at hl 0 rfl) ?_
                                          refine va_iald hx hb hK.1 hP 4 0 rfl rfl (g_in rfl (by omega) (by omega)) dX9_deal_242 ?_
                                          refine lv_topi (fun z_71 ez_71 => ?_)
                                          have kz_71 := congrArg Int32.toInt ez_71
                                          have jz_71 : 0 ≤ z_71.toInt ∧ z_71.toInt ≤ 3 := by rw [ez_71]; exact v_mf65_129 _ (g_ix rfl (by omega) (by omega))
                                          refine va_iast hx hb hK.1 hP hD hS 1 0 rfl rfl (g_in rfl (by omega) (by omega)) dX9_deal_243 (fun H locs hP hD hS => ?_)
                                          have hP : va_P D vwCl [((ma 62), .inl (E 0, 9, .inl mf62)), ((ma 63), .inl (E 0, 9, .inl (upd mf63_221 (L8_221 : Int32).toNatClampNeg z_71))), ((ma 66), .inl (E 0, 3, .inl (upd g_17 (2 : Int32).toNatClampNeg p2))), (mh, .inr (9, G9 ma mcode mtoday moffs mmany msumW msumA msumR msumWW msumWA msumAA msumWR msumAR mupper mlower mrates mtaped mlaid mat mtk mtkAt mtkNumber mwaits mlisted mdealtMany)), ((ma 65), .inl (E 0, 9, .inl mf65_129)), ((ma 67), .inl (E 0, 3, .inl u_28))] H := hP
                                          have hD := toW hP hD rfl
                                          obtain ⟨z_72, ez_72⟩ : ∃ y : Int32, y = L8_221 + 1 := ⟨_, rfl⟩
                                          have jz_72 : z_72.toInt = L8_221.toInt + 1 := by rw [ez_72]; exact g_add rfl t_1 (by omega) (by omega)
                                          refine lv_iinc (v := z_72) (lv' := [(8, .int z_72), (5, .int L7_149), (7, .int L7_149), (6, .int L6_129), (4, .int 3), (0, .ref mh), (1, .int p0), (2, .int p1), (3, .int p2)]) hx hb dX9_deal_244 hl (k := 0) rfl (by rw [ez_72]; rfl) (by decide) rfl (fun ls hl => ?_)
                                          refine lv_goto (tgt := 221) hx hb dX9_deal_247 (by decide) ?_
                                          exact ih_52 z_72 (upd mf63_221 (L8_221 : Int32).toNatClampNeg z_71) _ _ _ (by have h0 := t_3; (try dsimp only); omega) (by have h0 := t_3; (try dsimp only); omega) hP hD hS (lv_sub hl [0, 1, 2, 3, 4, 5, 6, 7, 8] rfl)
                                    exact loop_51 10 0 mf63_129 _ _ _ (by have h0 := t_0; have h1 := t_3; (try dsimp only); omega) (by have h0 := t_0; have h1 := t_3; (try dsimp only); omega) hP hD hS (lv_sub hl [0, 1, 2, 3, 4, 5, 6, 7, 8] rfl)
                                  ·
                                    have ic_50 : 0 ≤ L5_129.toInt := by first | exact (g_le t_0 rfl).mp c_50 | (have h := mt (g_lt rfl t_0).mpr c_50; omega)
                                    clear c_50
                                    refine lv_iload hx hb dX9_deal_207 (lv_at hl 1 rfl) ?_
                                    refine lv_iload hx hb dX9_deal_209 (lv_at hl 3 rfl) ?_
                                    refine lv_icmp_ge (tgt := 250) hx hb dX9_deal_211 (by decide) (fun c_73 => ?_) (fun c_73 => ?_)
                                    ·
                                      have ic_73 : L5_129.toInt ≤ L7_149.toInt := by first | exact (g_le rfl rfl).mp c_73 | (have h := mt (g_lt rfl rfl).mpr c_73; omega)
                                      clear c_73
                                      refine lv_aload_n hx hb dX9_deal_250 rfl (lv_at hl 5 rfl) ?_
                                      refine va_get (D := D) (ci := 9) (v := .int mlisted) (C := RX9) (T := TX9) (N := 68) hx hb htb iX9 hown hK.1 hP 3 rfl rfl 61 (by decide) (htb _ k_1019) (fun _ h9 => h9) rfl dX9_deal_251 ?_
                                      refine lv_iconst (v := 1) hx hb dX9_deal_254 (by decide) ?_
                                      refine lv_isub hx hb dX9_deal_255 ?_
                                      refine lv_topi (fun z_74 ez_74 => ?_)
                                      have jz_74 : z_74.toInt = mlisted.toInt - 1 := by rw [ez_74]; exact g_sub rfl t_1 (by omega) (by omega)
                                      refine lv_istore (lv' := [(7, .int z_74), (8, .int L8_149), (6, .int L6_129), (5, .int L5_129), (4, .int 3), (0, .ref mh), (1, .int p0), (2, .int p1), (3, .int p2)]) hx hb dX9_deal_256 hl (by decide) rfl (fun ls hl => ?_)
                                      have loop_75 : ∀ (N_77 : Nat) (L7_258 : Int32) (mf65_258 : Nat → Int32) (H : Heap) (locs : List Loc) (ls : Array Slot), L7_258.toInt + 1 < (N_77 : Int) → (∀ k : Nat, k < 9 → 0 ≤ (mf65_258 k).toInt ∧ (mf65_258 k).toInt ≤ 3) → (-1 ≤ L7_258.toInt ∧ L7_258.toInt < mlisted.toInt) → (val4 mf65_258 (mlisted).toNatClampNeg + 4 ^ (mlisted.toInt - 1 - L7_258.toInt).toNat = val4 mf65_129 (mlisted).toNatClampNeg + 1) → va_P D vwCl [((ma 62), .inl (E 0, 9, .inl mf62)), ((ma 63), .inl (E 0, 9, .inl mf63_129)), ((ma 66), .inl (E 0, 3, .inl (upd g_17 (2 : Int32).toNatClampNeg p2))), (mh, .inr (9, G9 ma mcode mtoday moffs mmany msumW msumA msumR msumWW msumWA msumAA msumWR msumAR mupper mlower mrates mtaped mlaid mat mtk mtkAt mtkNumber mwaits mlisted mdealtMany)), ((ma 65), .inl (E 0, 9, .inl mf65_258)), ((ma 67), .inl (E 0, 3, .inl u_28))] H → va_D A [((ma 62), .inl (E 0, 9, .inl mf62)), ((ma 63), .inl (E 0, 9, .inl mf63_129)), ((ma 66), .inl (E 0, 3, .inl (upd g_17 (2 : Int32).toNatClampNeg p2))), (mh, .inr (9, G9 ma mcode mtoday moffs mmany msumW msumA msumR msumWW msumWA msumAA msumWR msumAR mupper mlower mrates mtaped mlaid mat mtk mtkAt mtkNumber mwaits mlisted mdealtMany)), ((ma 65), .inl (E 0, 9, .inl mf65_258)), ((ma 67), .inl (E 0, 3, .inl u_28))] → va_S A s.heap H locs → lv_has ls 9 [(7, .int L7_258), (6, .int L6_129), (5, .int L5_129), (4, .int 3), (0, .ref mh), (1, .int p0), (2, .int p1), (3, .int p2)] → W p l e (headSpec (wl yX9_deal cX9_deal 9 (some .int)) (RM 1 0 0)).room s m [Value.ref mh, .int p0, .int p1, .int p2].toArray below meth c H locs 0 0 (MQ below (va_Qi (fun (r : Int32) (u : (Nat → Int32) × (Nat → Int32) × (Nat → Int32) × (Nat → Int32) × (Int32) × (Int32)) => (∀ k : Nat, k < 9 → 0 ≤ (u.2.1 k).toInt ∧ (u.2.1 k).toInt ≤ 3) ∧ (0 ≤ u.2.2.2.2.1.toInt ∧ u.2.2.2.2.1.toInt ≤ 9) ∧ (0 ≤ u.2.2.2.2.2.toInt ∧ u.2.2.2.2.2.toInt ≤ 9) ∧ ((¬ ((1 ≤ p0.toInt ∧ p0.toInt ≤ 400) ∧ (0 ≤ p1.toInt ∧ p1.toInt ≤ 400) ∧ (0 ≤ p2.toInt ∧ p2.toInt ≤ 400) ∧ ¬ (p1.toInt = 0 ∧ p2.toInt ≠ 0)) ∧ r.toInt = -1 ∧ u.2.2.2.2.2.toInt = mlisted.toInt) ∨ (((1 ≤ p0.toInt ∧ p0.toInt ≤ 400) ∧ (0 ≤ p1.toInt ∧ p1.toInt ≤ 400) ∧ (0 ≤ p2.toInt ∧ p2.toInt ≤ 400) ∧ ¬ (p1.toInt = 0 ∧ p2.toInt ≠ 0)) ∧ ((p1.toInt = 0 ∧ mlisted.toInt < 3) ∨ (p1.toInt ≠ 0 ∧ p2.toInt = 0 ∧ mlisted.toInt < 6) ∨ (p1.toInt ≠ 0 ∧ p2.toInt ≠ 0 ∧ mlisted.toInt < 9)) ∧ r.toInt = -4 ∧ u.2.2.2.2.2.toInt = mlisted.toInt) ∨ (((1 ≤ p0.toInt ∧ p0.toInt ≤ 400) ∧ (0 ≤ p1.toInt ∧ p1.toInt ≤ 400) ∧ (0 ≤ p2.toInt ∧ p2.toInt ≤ 400) ∧ ¬ (p1.toInt = 0 ∧ p2.toInt ≠ 0)) ∧ ¬ ((p1.toInt = 0 ∧ mlisted.toInt < 3) ∨ (p1.toInt ≠ 0 ∧ p2.toInt = 0 ∧ mlisted.toInt < 6) ∨ (p1.toInt ≠ 0 ∧ p2.toInt ≠ 0 ∧ mlisted.toInt < 9)) ∧ u.2.2.2.2.2.toInt = 0))) (mu_B D A (fun (u : (Nat → Int32) × (Nat → Int32) × (Nat → Int32) × (Nat → Int32) × (Int32) × (Int32)) => [(mh, .inr (9, G9 ma mcode mtoday moffs mmany msumW msumA msumR msumWW msumWA msumAA msumWR msumAR mupper mlower mrates mtaped mlaid mat mtk mtkAt mtkNumber mwaits u.2.2.2.2.2 u.2.2.2.2.1)), ((ma 62), .inl (E 0, 9, .inl mf62)), ((ma 63), .inl (E 0, 9, .inl u.1)), ((ma 65), .inl (E 0, 9, .inl u.2.1)), ((ma 66), .inl (E 0, 3, .inl u.2.2.1)), ((ma 67), .inl (E 0, 3, .inl u.2.2.2.1))])) A) [Value.ref mh, .int p0, .int p1, .int p2].toArray s 0 0 A) (F0 m 258 ls []) := by
                                        intro N_77
                                        induction N_77 with
                                        | zero => intro L7_258 mf65_258 H locs ls hm v_mf65_258 v0_258 v1_258 _ _ _ _; exfalso; omega
                                        | succ N_77 ih_76 =>
                                          intro L7_258 mf65_258 H locs ls hm v_mf65_258 v0_258 v1_258 hP hD hS hl
                                          have lo_L7_258 := i_lo L7_258; have hi_L7_258 := i_hi L7_258
                                          refine lv_iload hx hb dX9_deal_258 (lv_at hl 0 rfl) ?_
                                          refine lv_if_lt (tgt := 288) hx hb dX9_deal_260 (by decide) (fun c_78 => ?_) (fun c_78 => ?_)
                                          ·
                                            have ic_78 : L7_258.toInt < 0 := by first | exact (g_lt rfl t_0).mp c_78 | (have h := mt (g_le t_0 rfl).mpr c_78; omega)
                                            clear c_78
                                            refine lv_iload hx hb dX9_deal_288 (lv_at hl 0 rfl) ?_
                                            refine lv_if_lt (tgt := 297) hx hb dX9_deal_290 (by decide) (fun c_79 => ?_) (fun c_79 => absurd (by rw [g_lt rfl t_0]; omega) c_79)
                                            refine lv_iconst (v := 0) hx hb dX9_deal_297 (by decide) ?_
                                            refine lv_istore (lv' := [(6, .int 0), (7, .int L7_258), (5, .int L5_129), (4, .int 3), (0, .ref mh), (1, .int p0), (2, .int p1), (3, .int p2)]) hx hb dX9_deal_298 hl (by decide) rfl (fun ls hl => ?_)
                                            refine lv_iload hx hb dX9_deal_300 (lv_at hl 0 rfl) ?_
                                            refine lv_if_eq (tgt := 316) hx hb dX9_deal_302 (by decide) (fun c_80 => ?_) (fun c_80 => absurd (by decide) c_80)
                                            refine lv_goto (tgt := 129) hx hb dX9_deal_316 (by decide) ?_
                                            have hP := hP.sub (ws' := [(mh, .inr (9, G9 ma mcode mtoday moffs mmany msumW msumA msumR msumWW msumWA msumAA msumWR msumAR mupper mlower mrates mtaped mlaid mat mtk mtkAt mtkNumber mwaits mlisted mdealtMany)), ((ma 62), .inl (E 0, 9, .inl mf62)), ((ma 63), .inl (E 0, 9, .inl mf63_129)), ((ma 65), .inl (E 0, 9, .inl mf65_258)), ((ma 66), .inl (E 0, 3, .inl (upd g_17 (2 : Int32).toNatClampNeg p2))), ((ma 67), .inl (E 0, 3, .inl u_28))]) [3, 0, 1, 4, 2, 5] rfl
                                            have hD := hD.sub (ws' := [(mh, .inr (9, G9 ma mcode mtoday moffs mmany msumW msumA msumR msumWW msumWA msumAA msumWR msumAR mupper mlower mrates mtaped mlaid mat mtk mtkAt mtkNumber mwaits mlisted mdealtMany)), ((ma 62), .inl (E 0, 9, .inl mf62)), ((ma 63), .inl (E 0, 9, .inl mf63_129)), ((ma 65), .inl (E 0, 9, .inl mf65_258)), ((ma 66), .inl (E 0, 3, .inl (upd g_17 (2 : Int32).toNatClampNeg p2))), ((ma 67), .inl (E 0, 3, .inl u_28))]) [3, 0, 1, 4, 2, 5] (by decide) rfl
                                            exact ih_23 0 u_28 mf65_258 L5_129 mf63_129 _ _ _ (by have h := carry_e (n := mlisted) (i := L7_258) (by omega) (by omega) (by omega) v_mf65_258 v_mf65_129 v1_258; have h1 := t_0; omega) v_mf65_258 (by have h := carry_e (n := mlisted) (i := L7_258) (by omega) (by omega) (by omega) v_mf65_258 v_mf65_129 v1_258; have h1 := t_0; omega) hP hD hS (lv_sub hl [0, 2, 3, 4, 5, 6, 7] rfl)
                                          ·
                                            have ic_78 : 0 ≤ L7_258.toInt := by first | exact (g_le t_0 rfl).mp c_78 | (have h := mt (g_lt rfl t_0).mpr c_78; omega)
                                            clear c_78
                                            refine lv_aload_n hx hb dX9_deal_263 rfl (lv_at hl 4 rfl) ?_
                                            refine va_get (D := D) (ci := 9) (v := .ref (ma 65)) (C := RX9) (T := TX9) (N := 68) hx hb htb iX9 hown hK.1 hP 3 rfl rfl 65 (by decide) (htb _ k_1023) (fun _ h9 => h9) rfl dX9_deal_264 ?_
                                            refine lv_iload hx hb dX9_deal_267 (lv_at hl 0 rfl) ?_
                                            refine va_iald hx hb hK.1 hP 4 0 rfl rfl (g_in rfl (by omega) (by omega)) dX9_deal_269 ?_
                                            refine lv_topi (fun z_81 ez_81 => ?_)
                                            have kz_81 := congrArg Int32.toInt ez_81
                                            have jz_81 : 0 ≤ z_81.toInt ∧ z_81.toInt ≤ 3 := by rw [ez_81]; exact v_mf65_258 _ (g_ix rfl (by omega) (by omega))
                                            refine lv_iconst (v := 3) hx hb dX9_deal_270 (by decide) ?_
                                            refine lv_icmp_ne (tgt := 288) hx hb dX9_deal_271 (by decide) (fun c_82 => ?_) (fun c_82 => ?_)
                                            ·
                                              have ic_82 : z_81.toInt ≠ 3 := mt (g_eq rfl t_3).mpr c_82
                                              clear c_82
                                              refine lv_iload hx hb dX9_deal_288 (lv_at hl 0 rfl) ?_
                                              refine lv_if_lt (tgt := 297) hx hb dX9_deal_290 (by decide) (fun c_83 => absurd c_83 (by rw [g_lt rfl t_0]; omega)) (fun c_83 => ?_)
                                              refine lv_iconst (v := 1) hx hb dX9_deal_293 (by decide) ?_
                                              refine lv_goto (tgt := 298) hx hb dX9_deal_294 (by decide) ?_
                                              refine lv_istore (lv' := [(6, .int 1), (7, .int L7_258), (5, .int L5_129), (4, .int 3), (0, .ref mh), (1, .int p0), (2, .int p1), (3, .int p2)]) hx hb dX9_deal_298 hl (by decide) rfl (fun ls hl => ?_)
                                              refine lv_iload hx hb dX9_deal_300 (lv_at hl 0 rfl) ?_
                                              refine lv_if_eq (tgt := 316) hx hb dX9_deal_302 (by decide) (fun c_84 => absurd c_84 (by decide)) (fun c_84 => ?_)
                                              refine lv_aload_n hx hb dX9_deal_305 rfl (lv_at hl 4 rfl) ?_
                                              refine va_get (D := D) (ci := 9) (v := .ref (ma 65)) (C := RX9) (T := TX9) (N := 68) hx hb htb iX9 hown hK.1 hP 3 rfl rfl 65 (by decide) (htb _ k_1023) (fun _ h9 => h9) rfl dX9_deal_306 ?_
                                              refine lv_iload hx hb dX9_deal_309 (lv_at hl 1 rfl) ?_
                                              refine lv_dup2_11 hx hb dX9_deal_311 rfl rfl ?_
                                              refine va_iald hx hb hK.1 hP 4 0 rfl rfl (g_in rfl (by omega) (by omega)) dX9_deal_312 ?_
                                              refine lv_topi (fun z_85 ez_85 => ?_)
                                              have kz_85 := congrArg Int32.toInt ez_85
                                              have jz_85 : 0 ≤ z_85.toInt ∧ z_85.toInt ≤ 3 := by rw [ez_85]; exact v_mf65_258 _ (g_ix rfl (by omega) (by omega))
                                              refine lv_iconst (v := 1) hx hb dX9_deal_313 (by decide) ?_
                                              refine lv_iadd hx hb dX9_deal_314 ?_
                                              refine lv_topi (fun z_86 ez_86 => ?_)
                                              have jz_86 : z_86.toInt = z_85.toInt + 1 := by rw [ez_86]; exact g_add rfl t_1 (by omega) (by omega)
                                              refine va_iast hx hb hK.1 hP hD hS 4 0 rfl rfl (g_in rfl (by omega) (by omega)) dX9_deal_315 (fun H locs hP hD hS => ?_)
                                              have hP : va_P D vwCl [((ma 62), .inl (E 0, 9, .inl mf62)), ((ma 63), .inl (E 0, 9, .inl mf63_129)), ((ma 66), .inl (E 0, 3, .inl (upd g_17 (2 : Int32).toNatClampNeg p2))), (mh, .inr (9, G9 ma mcode mtoday moffs mmany msumW msumA msumR msumWW msumWA msumAA msumWR msumAR mupper mlower mrates mtaped mlaid mat mtk mtkAt mtkNumber mwaits mlisted mdealtMany)), ((ma 65), .inl (E 0, 9, .inl (upd mf65_258 (L7_258 : Int32).toNatClampNeg z_86))), ((ma 67), .inl (E 0, 3, .inl u_28))] H := hP
                                              have hD := toW hP hD rfl
                                              have hv_87 : ∀ k : Nat, k < 9 → 0 ≤ ((upd mf65_258 (L7_258 : Int32).toNatClampNeg z_86) k).toInt ∧ ((upd mf65_258 (L7_258 : Int32).toNatClampNeg z_86) k).toInt ≤ 3 := upd_r v_mf65_258 (by (try dsimp only); omega)
                                              refine lv_goto (tgt := 129) hx hb dX9_deal_316 (by decide) ?_
                                              have hP := hP.sub (ws' := [(mh, .inr (9, G9 ma mcode mtoday moffs mmany msumW msumA msumR msumWW msumWA msumAA msumWR msumAR mupper mlower mrates mtaped mlaid mat mtk mtkAt mtkNumber mwaits mlisted mdealtMany)), ((ma 62), .inl (E 0, 9, .inl mf62)), ((ma 63), .inl (E 0, 9, .inl mf63_129)), ((ma 65), .inl (E 0, 9, .inl (upd mf65_258 (L7_258 : Int32).toNatClampNeg z_86))), ((ma 66), .inl (E 0, 3, .inl (upd g_17 (2 : Int32).toNatClampNeg p2))), ((ma 67), .inl (E 0, 3, .inl u_28))]) [3, 0, 1, 4, 2, 5] rfl
                                              have hD := hD.sub (ws' := [(mh, .inr (9, G9 ma mcode mtoday moffs mmany msumW msumA msumR msumWW msumWA msumAA msumWR msumAR mupper mlower mrates mtaped mlaid mat mtk mtkAt mtkNumber mwaits mlisted mdealtMany)), ((ma 62), .inl (E 0, 9, .inl mf62)), ((ma 63), .inl (E 0, 9, .inl mf63_129)), ((ma 65), .inl (E 0, 9, .inl (upd mf65_258 (L7_258 : Int32).toNatClampNeg z_86))), ((ma 66), .inl (E 0, 3, .inl (upd g_17 (2 : Int32).toNatClampNeg p2))), ((ma 67), .inl (E 0, 3, .inl u_28))]) [3, 0, 1, 4, 2, 5] (by decide) rfl
                                              exact ih_23 1 u_28 (upd mf65_258 (L7_258 : Int32).toNatClampNeg z_86) L5_129 mf63_129 _ _ _ (by have hc := carry_1 (n := mlisted) (i := L7_258) (by omega) (by omega) ez_85 jz_86 v1_258; have h := val4_max (n := mlisted) hv_87 (by omega) (by omega); have h1 := t_1; omega) hv_87 (by have hc := carry_1 (n := mlisted) (i := L7_258) (by omega) (by omega) ez_85 jz_86 v1_258; have h := val4_max (n := mlisted) hv_87 (by omega) (by omega); have h1 := t_1; omega) hP hD hS (lv_sub hl [0, 2, 3, 4, 5, 6, 7] rfl)
                                            ·
                                              have ic_82 : z_81.toInt = 3 := (g_eq rfl t_3).mp c_82
                                              clear c_82
                                              refine lv_aload_n hx hb dX9_deal_274 rfl (lv_at hl 4 rfl) ?_
                                              refine va_get (D := D) (ci := 9) (v := .ref (ma 65)) (C := RX9) (T := TX9) (N := 68) hx hb htb iX9 hown hK.1 hP 3 rfl rfl 65 (by decide) (htb _ k_1023) (fun _ h9 => h9) rfl dX9_deal_275 ?_
                                              refine lv_iload hx hb dX9_deal_278 (lv_at hl 0 rfl) ?_
                                              refine lv_iconst (v := 0) hx hb dX9_deal_280 (by decide) ?_
                                              refine va_iast hx hb hK.1 hP hD hS 4 0 rfl rfl (g_in rfl (by omega) (by omega)) dX9_deal_281 (fun H locs hP hD hS => ?_)
                                              have hP : va_P D vwCl [((ma 62), .inl (E 0, 9, .inl mf62)), ((ma 63), .inl (E 0, 9, .inl mf63_129)), ((ma 66), .inl (E 0, 3, .inl (upd g_17 (2 : Int32).toNatClampNeg p2))), (mh, .inr (9, G9 ma mcode mtoday moffs mmany msumW msumA msumR msumWW msumWA msumAA msumWR msumAR mupper mlower mrates mtaped mlaid mat mtk mtkAt mtkNumber mwaits mlisted mdealtMany)), ((ma 65), .inl (E 0, 9, .inl (upd mf65_258 (L7_258 : Int32).toNatClampNeg 0))), ((ma 67), .inl (E 0, 3, .inl u_28))] H := hP
                                              have hD := toW hP hD rfl
                                              have hv_88 : ∀ k : Nat, k < 9 → 0 ≤ ((upd mf65_258 (L7_258 : Int32).toNatClampNeg 0) k).toInt ∧ ((upd mf65_258 (L7_258 : Int32).toNatClampNeg 0) k).toInt ≤ 3 := upd_r v_mf65_258 (by decide)
                                              obtain ⟨z_89, ez_89⟩ : ∃ y : Int32, y = L7_258 + (-1) := ⟨_, rfl⟩
                                              have jz_89 : z_89.toInt = L7_258.toInt + -1 := by rw [ez_89]; exact g_add rfl t_m1 (by omega) (by omega)
                                              refine lv_iinc (v := z_89) (lv' := [(7, .int z_89), (6, .int L6_129), (5, .int L5_129), (4, .int 3), (0, .ref mh), (1, .int p0), (2, .int p1), (3, .int p2)]) hx hb dX9_deal_282 hl (k := 0) rfl (by rw [ez_89]; rfl) (by decide) rfl (fun ls hl => ?_)
                                              refine lv_goto (tgt := 258) hx hb dX9_deal_285 (by decide) ?_
                                              exact ih_76 z_89 (upd mf65_258 (L7_258 : Int32).toNatClampNeg 0) _ _ _ (by have h0 := t_3; (try dsimp only); omega) hv_88 (by have h0 := t_3; (try dsimp only); omega) (carry_0 (by omega) (by omega) (by omega) ez_81 (by omega) v1_258) hP hD hS (lv_sub hl [0, 1, 2, 3, 4, 5, 6, 7] rfl)
                                      exact loop_75 10 z_74 mf65_129 _ _ _ (by have h0 := t_3; (try dsimp only); omega) v_mf65_129 (by have h0 := t_3; (try dsimp only); omega) (carry_s (by omega)) hP hD hS (lv_sub hl [0, 2, 3, 4, 5, 6, 7, 8] rfl)
                                    ·
                                      have ic_73 : L7_149.toInt < L5_129.toInt := by first | exact (g_lt rfl rfl).mp c_73 | (have h := mt (g_le rfl rfl).mpr c_73; omega)
                                      clear c_73
                                      refine lv_iload hx hb dX9_deal_214 (lv_at hl 1 rfl) ?_
                                      refine lv_istore (lv' := [(5, .int L7_149), (8, .int L8_149), (7, .int L7_149), (6, .int L6_129), (4, .int 3), (0, .ref mh), (1, .int p0), (2, .int p1), (3, .int p2)]) hx hb dX9_deal_216 hl (by decide) rfl (fun ls hl => ?_)
                                      refine lv_iconst (v := 0) hx hb dX9_deal_218 (by decide) ?_
                                      refine lv_istore (lv' := [(8, .int 0), (5, .int L7_149), (7, .int L7_149), (6, .int L6_129), (4, .int 3), (0, .ref mh), (1, .int p0), (2, .int p1), (3, .int p2)]) hx hb dX9_deal_219 hl (by decide) rfl (fun ls hl => ?_)
                                      have loop_90 : ∀ (N_92 : Nat) (L8_221 : Int32) (mf63_221 : Nat → Int32) (H : Heap) (locs : List Loc) (ls : Array Slot), mlisted.toInt - L8_221.toInt < (N_92 : Int) → (0 ≤ L8_221.toInt ∧ L8_221.toInt ≤ mlisted.toInt) → va_P D vwCl [((ma 62), .inl (E 0, 9, .inl mf62)), ((ma 63), .inl (E 0, 9, .inl mf63_221)), ((ma 66), .inl (E 0, 3, .inl (upd g_17 (2 : Int32).toNatClampNeg p2))), (mh, .inr (9, G9 ma mcode mtoday moffs mmany msumW msumA msumR msumWW msumWA msumAA msumWR msumAR mupper mlower mrates mtaped mlaid mat mtk mtkAt mtkNumber mwaits mlisted mdealtMany)), ((ma 65), .inl (E 0, 9, .inl mf65_129)), ((ma 67), .inl (E 0, 3, .inl u_28))] H → va_D A [((ma 62), .inl (E 0, 9, .inl mf62)), ((ma 63), .inl (E 0, 9, .inl mf63_221)), ((ma 66), .inl (E 0, 3, .inl (upd g_17 (2 : Int32).toNatClampNeg p2))), (mh, .inr (9, G9 ma mcode mtoday moffs mmany msumW msumA msumR msumWW msumWA msumAA msumWR msumAR mupper mlower mrates mtaped mlaid mat mtk mtkAt mtkNumber mwaits mlisted mdealtMany)), ((ma 65), .inl (E 0, 9, .inl mf65_129)), ((ma 67), .inl (E 0, 3, .inl u_28))] → va_S A s.heap H locs → lv_has ls 9 [(8, .int L8_221), (5, .int L7_149), (7, .int L7_149), (6, .int L6_129), (4, .int 3), (0, .ref mh), (1, .int p0), (2, .int p1), (3, .int p2)] → W p l e (headSpec (wl yX9_deal cX9_deal 9 (some .int)) (RM 1 0 0)).room s m [Value.ref mh, .int p0, .int p1, .int p2].toArray below meth c H locs 0 0 (MQ below (va_Qi (fun (r : Int32) (u : (Nat → Int32) × (Nat → Int32) × (Nat → Int32) × (Nat → Int32) × (Int32) × (Int32)) => (∀ k : Nat, k < 9 → 0 ≤ (u.2.1 k).toInt ∧ (u.2.1 k).toInt ≤ 3) ∧ (0 ≤ u.2.2.2.2.1.toInt ∧ u.2.2.2.2.1.toInt ≤ 9) ∧ (0 ≤ u.2.2.2.2.2.toInt ∧ u.2.2.2.2.2.toInt ≤ 9) ∧ ((¬ ((1 ≤ p0.toInt ∧ p0.toInt ≤ 400) ∧ (0 ≤ p1.toInt ∧ p1.toInt ≤ 400) ∧ (0 ≤ p2.toInt ∧ p2.toInt ≤ 400) ∧ ¬ (p1.toInt = 0 ∧ p2.toInt ≠ 0)) ∧ r.toInt = -1 ∧ u.2.2.2.2.2.toInt = mlisted.toInt) ∨ (((1 ≤ p0.toInt ∧ p0.toInt ≤ 400) ∧ (0 ≤ p1.toInt ∧ p1.toInt ≤ 400) ∧ (0 ≤ p2.toInt ∧ p2.toInt ≤ 400) ∧ ¬ (p1.toInt = 0 ∧ p2.toInt ≠ 0)) ∧ ((p1.toInt = 0 ∧ mlisted.toInt < 3) ∨ (p1.toInt ≠ 0 ∧ p2.toInt = 0 ∧ mlisted.toInt < 6) ∨ (p1.toInt ≠ 0 ∧ p2.toInt ≠ 0 ∧ mlisted.toInt < 9)) ∧ r.toInt = -4 ∧ u.2.2.2.2.2.toInt = mlisted.toInt) ∨ (((1 ≤ p0.toInt ∧ p0.toInt ≤ 400) ∧ (0 ≤ p1.toInt ∧ p1.toInt ≤ 400) ∧ (0 ≤ p2.toInt ∧ p2.toInt ≤ 400) ∧ ¬ (p1.toInt = 0 ∧ p2.toInt ≠ 0)) ∧ ¬ ((p1.toInt = 0 ∧ mlisted.toInt < 3) ∨ (p1.toInt ≠ 0 ∧ p2.toInt = 0 ∧ mlisted.toInt < 6) ∨ (p1.toInt ≠ 0 ∧ p2.toInt ≠ 0 ∧ mlisted.toInt < 9)) ∧ u.2.2.2.2.2.toInt = 0))) (mu_B D A (fun (u : (Nat → Int32) × (Nat → Int32) × (Nat → Int32) × (Nat → Int32) × (Int32) × (Int32)) => [(mh, .inr (9, G9 ma mcode mtoday moffs mmany msumW msumA msumR msumWW msumWA msumAA msumWR msumAR mupper mlower mrates mtaped mlaid mat mtk mtkAt mtkNumber mwaits u.2.2.2.2.2 u.2.2.2.2.1)), ((ma 62), .inl (E 0, 9, .inl mf62)), ((ma 63), .inl (E 0, 9, .inl u.1)), ((ma 65), .inl (E 0, 9, .inl u.2.1)), ((ma 66), .inl (E 0, 3, .inl u.2.2.1)), ((ma 67), .inl (E 0, 3, .inl u.2.2.2.1))])) A) [Value.ref mh, .int p0, .int p1, .int p2].toArray s 0 0 A) (F0 m 221 ls []) := by
                                        intro N_92
                                        induction N_92 with
                                        | zero => intro L8_221 mf63_221 H locs ls hm v0_221 _ _ _ _; exfalso; omega
                                        | succ N_92 ih_91 =>
                                          intro L8_221 mf63_221 H locs ls hm v0_221 hP hD hS hl
                                          have lo_L8_221 := i_lo L8_221; have hi_L8_221 := i_hi L8_221
                                          refine lv_iload hx hb dX9_deal_221 (lv_at hl 0 rfl) ?_
                                          refine lv_aload_n hx hb dX9_deal_223 rfl (lv_at hl 5 rfl) ?_
                                          refine va_get (D := D) (ci := 9) (v := .int mlisted) (C := RX9) (T := TX9) (N := 68) hx hb htb iX9 hown hK.1 hP 3 rfl rfl 61 (by decide) (htb _ k_1019) (fun _ h9 => h9) rfl dX9_deal_224 ?_
                                          refine lv_icmp_ge (tgt := 250) hx hb dX9_deal_227 (by decide) (fun c_93 => ?_) (fun c_93 => ?_)
                                          ·
                                            have ic_93 : mlisted.toInt ≤ L8_221.toInt := by first | exact (g_le rfl rfl).mp c_93 | (have h := mt (g_lt rfl rfl).mpr c_93; omega)
                                            clear c_93
                                            refine lv_aload_n hx hb dX9_deal_250 rfl (lv_at hl 5 rfl) ?_
                                            refine va_get (D := D) (ci := 9) (v := .int mlisted) (C := RX9) (T := TX9) (N := 68) hx hb htb iX9 hown hK.1 hP 3 rfl rfl 61 (by decide) (htb _ k_1019) (fun _ h9 => h9) rfl dX9_deal_251 ?_
                                            refine lv_iconst (v := 1) hx hb dX9_deal_254 (by decide) ?_
                                            refine lv_isub hx hb dX9_deal_255 ?_
                                            refine lv_topi (fun z_94 ez_94 => ?_)
                                            have jz_94 : z_94.toInt = mlisted.toInt - 1 := by rw [ez_94]; exact g_sub rfl t_1 (by omega) (by omega)
                                            refine lv_istore (lv' := [(7, .int z_94), (8, .int L8_221), (5, .int L7_149), (6, .int L6_129), (4, .int 3), (0, .ref mh), (1, .int p0), (2, .int p1), (3, .int p2)]) hx hb dX9_deal_256 hl (by decide) rfl (fun ls hl => ?_)
                                            have loop_95 : ∀ (N_97 : Nat) (L7_258 : Int32) (mf65_258 : Nat → Int32) (H : Heap) (locs : List Loc) (ls : Array Slot), L7_258.toInt + 1 < (N_97 : Int) → (∀ k : Nat, k < 9 → 0 ≤ (mf65_258 k).toInt ∧ (mf65_258 k).toInt ≤ 3) → (-1 ≤ L7_258.toInt ∧ L7_258.toInt < mlisted.toInt) → (val4 mf65_258 (mlisted).toNatClampNeg + 4 ^ (mlisted.toInt - 1 - L7_258.toInt).toNat = val4 mf65_129 (mlisted).toNatClampNeg + 1) → va_P D vwCl [((ma 62), .inl (E 0, 9, .inl mf62)), ((ma 63), .inl (E 0, 9, .inl mf63_221)), ((ma 66), .inl (E 0, 3, .inl (upd g_17 (2 : Int32).toNatClampNeg p2))), (mh, .inr (9, G9 ma mcode mtoday moffs mmany msumW msumA msumR msumWW msumWA msumAA msumWR msumAR mupper mlower mrates mtaped mlaid mat mtk mtkAt mtkNumber mwaits mlisted mdealtMany)), ((ma 65), .inl (E 0, 9, .inl mf65_258)), ((ma 67), .inl (E 0, 3, .inl u_28))] H → va_D A [((ma 62), .inl (E 0, 9, .inl mf62)), ((ma 63), .inl (E 0, 9, .inl mf63_221)), ((ma 66), .inl (E 0, 3, .inl (upd g_17 (2 : Int32).toNatClampNeg p2))), (mh, .inr (9, G9 ma mcode mtoday moffs mmany msumW msumA msumR msumWW msumWA msumAA msumWR msumAR mupper mlower mrates mtaped mlaid mat mtk mtkAt mtkNumber mwaits mlisted mdealtMany)), ((ma 65), .inl (E 0, 9, .inl mf65_258)), ((ma 67), .inl (E 0, 3, .inl u_28))] → va_S A s.heap H locs → lv_has ls 9 [(7, .int L7_258), (5, .int L7_149), (6, .int L6_129), (4, .int 3), (0, .ref mh), (1, .int p0), (2, .int p1), (3, .int p2)] → W p l e (headSpec (wl yX9_deal cX9_deal 9 (some .int)) (RM 1 0 0)).room s m [Value.ref mh, .int p0, .int p1, .int p2].toArray below meth c H locs 0 0 (MQ below (va_Qi (fun (r : Int32) (u : (Nat → Int32) × (Nat → Int32) × (Nat → Int32) × (Nat → Int32) × (Int32) × (Int32)) => (∀ k : Nat, k < 9 → 0 ≤ (u.2.1 k).toInt ∧ (u.2.1 k).toInt ≤ 3) ∧ (0 ≤ u.2.2.2.2.1.toInt ∧ u.2.2.2.2.1.toInt ≤ 9) ∧ (0 ≤ u.2.2.2.2.2.toInt ∧ u.2.2.2.2.2.toInt ≤ 9) ∧ ((¬ ((1 ≤ p0.toInt ∧ p0.toInt ≤ 400) ∧ (0 ≤ p1.toInt ∧ p1.toInt ≤ 400) ∧ (0 ≤ p2.toInt ∧ p2.toInt ≤ 400) ∧ ¬ (p1.toInt = 0 ∧ p2.toInt ≠ 0)) ∧ r.toInt = -1 ∧ u.2.2.2.2.2.toInt = mlisted.toInt) ∨ (((1 ≤ p0.toInt ∧ p0.toInt ≤ 400) ∧ (0 ≤ p1.toInt ∧ p1.toInt ≤ 400) ∧ (0 ≤ p2.toInt ∧ p2.toInt ≤ 400) ∧ ¬ (p1.toInt = 0 ∧ p2.toInt ≠ 0)) ∧ ((p1.toInt = 0 ∧ mlisted.toInt < 3) ∨ (p1.toInt ≠ 0 ∧ p2.toInt = 0 ∧ mlisted.toInt < 6) ∨ (p1.toInt ≠ 0 ∧ p2.toInt ≠ 0 ∧ mlisted.toInt < 9)) ∧ r.toInt = -4 ∧ u.2.2.2.2.2.toInt = mlisted.toInt) ∨ (((1 ≤ p0.toInt ∧ p0.toInt ≤ 400) ∧ (0 ≤ p1.toInt ∧ p1.toInt ≤ 400) ∧ (0 ≤ p2.toInt ∧ p2.toInt ≤ 400) ∧ ¬ (p1.toInt = 0 ∧ p2.toInt ≠ 0)) ∧ ¬ ((p1.toInt = 0 ∧ mlisted.toInt < 3) ∨ (p1.toInt ≠ 0 ∧ p2.toInt = 0 ∧ mlisted.toInt < 6) ∨ (p1.toInt ≠ 0 ∧ p2.toInt ≠ 0 ∧ mlisted.toInt < 9)) ∧ u.2.2.2.2.2.toInt = 0))) (mu_B D A (fun (u : (Nat → Int32) × (Nat → Int32) × (Nat → Int32) × (Nat → Int32) × (Int32) × (Int32)) => [(mh, .inr (9, G9 ma mcode mtoday moffs mmany msumW msumA msumR msumWW msumWA msumAA msumWR msumAR mupper mlower mrates mtaped mlaid mat mtk mtkAt mtkNumber mwaits u.2.2.2.2.2 u.2.2.2.2.1)), ((ma 62), .inl (E 0, 9, .inl mf62)), ((ma 63), .inl (E 0, 9, .inl u.1)), ((ma 65), .inl (E 0, 9, .inl u.2.1)), ((ma 66), .inl (E 0, 3, .inl u.2.2.1)), ((ma 67), .inl (E 0, 3, .inl u.2.2.2.1))])) A) [Value.ref mh, .int p0, .int p1, .int p2].toArray s 0 0 A) (F0 m 258 ls []) := by
                                              intro N_97
                                              induction N_97 with
                                              | zero => intro L7_258 mf65_258 H locs ls hm v_mf65_258 v0_258 v1_258 _ _ _ _; exfalso; omega
                                              | succ N_97 ih_96 =>
                                                intro L7_258 mf65_258 H locs ls hm v_mf65_258 v0_258 v1_258 hP hD hS hl
                                                have lo_L7_258 := i_lo L7_258; have hi_L7_258 := i_hi L7_258
                                                refine lv_iload hx hb dX9_deal_258 (lv_at hl 0 rfl) ?_
                                                refine lv_if_lt (tgt := 288) hx hb dX9_deal_260 (by decide) (fun c_98 => ?_) (fun c_98 => ?_)
                                                ·
                                                  have ic_98 : L7_258.toInt < 0 := by first | exact (g_lt rfl t_0).mp c_98 | (have h := mt (g_le t_0 rfl).mpr c_98; omega)
                                                  clear c_98
                                                  refine lv_iload hx hb dX9_deal_288 (lv_at hl 0 rfl) ?_
                                                  refine lv_if_lt (tgt := 297) hx hb dX9_deal_290 (by decide) (fun c_99 => ?_) (fun c_99 => absurd (by rw [g_lt rfl t_0]; omega) c_99)
                                                  refine lv_iconst (v := 0) hx hb dX9_deal_297 (by decide) ?_
                                                  refine lv_istore (lv' := [(6, .int 0), (7, .int L7_258), (5, .int L7_149), (4, .int 3), (0, .ref mh), (1, .int p0), (2, .int p1), (3, .int p2)]) hx hb dX9_deal_298 hl (by decide) rfl (fun ls hl => ?_)
                                                  refine lv_iload hx hb dX9_deal_300 (lv_at hl 0 rfl) ?_
                                                  refine lv_if_eq (tgt := 316) hx hb dX9_deal_302 (by decide) (fun c_100 => ?_) (fun c_100 => absurd (by decide) c_100)
                                                  refine lv_goto (tgt := 129) hx hb dX9_deal_316 (by decide) ?_
                                                  have hP := hP.sub (ws' := [(mh, .inr (9, G9 ma mcode mtoday moffs mmany msumW msumA msumR msumWW msumWA msumAA msumWR msumAR mupper mlower mrates mtaped mlaid mat mtk mtkAt mtkNumber mwaits mlisted mdealtMany)), ((ma 62), .inl (E 0, 9, .inl mf62)), ((ma 63), .inl (E 0, 9, .inl mf63_221)), ((ma 65), .inl (E 0, 9, .inl mf65_258)), ((ma 66), .inl (E 0, 3, .inl (upd g_17 (2 : Int32).toNatClampNeg p2))), ((ma 67), .inl (E 0, 3, .inl u_28))]) [3, 0, 1, 4, 2, 5] rfl
                                                  have hD := hD.sub (ws' := [(mh, .inr (9, G9 ma mcode mtoday moffs mmany msumW msumA msumR msumWW msumWA msumAA msumWR msumAR mupper mlower mrates mtaped mlaid mat mtk mtkAt mtkNumber mwaits mlisted mdealtMany)), ((ma 62), .inl (E 0, 9, .inl mf62)), ((ma 63), .inl (E 0, 9, .inl mf63_221)), ((ma 65), .inl (E 0, 9, .inl mf65_258)), ((ma 66), .inl (E 0, 3, .inl (upd g_17 (2 : Int32).toNatClampNeg p2))), ((ma 67), .inl (E 0, 3, .inl u_28))]) [3, 0, 1, 4, 2, 5] (by decide) rfl
                                                  exact ih_23 0 u_28 mf65_258 L7_149 mf63_221 _ _ _ (by have h := carry_e (n := mlisted) (i := L7_258) (by omega) (by omega) (by omega) v_mf65_258 v_mf65_129 v1_258; have h1 := t_0; omega) v_mf65_258 (by have h := carry_e (n := mlisted) (i := L7_258) (by omega) (by omega) (by omega) v_mf65_258 v_mf65_129 v1_258; have h1 := t_0; omega) hP hD hS (lv_sub hl [0, 2, 3, 4, 5, 6, 7] rfl)
                                                ·
                                                  have ic_98 : 0 ≤ L7_258.toInt := by first | exact (g_le t_0 rfl).mp c_98 | (have h := mt (g_lt rfl t_0).mpr c_98; omega)
                                                  clear c_98
                                                  refine lv_aload_n hx hb dX9_deal_263 rfl (lv_at hl 4 rfl) ?_
                                                  refine va_get (D := D) (ci := 9) (v := .ref (ma 65)) (C := RX9) (T := TX9) (N := 68) hx hb htb iX9 hown hK.1 hP 3 rfl rfl 65 (by decide) (htb _ k_1023) (fun _ h9 => h9) rfl dX9_deal_264 ?_
                                                  refine lv_iload hx hb dX9_deal_267 (lv_at hl 0 rfl) ?_
                                                  refine va_iald hx hb hK.1 hP 4 0 rfl rfl (g_in rfl (by omega) (by omega)) dX9_deal_269 ?_
                                                  refine lv_topi (fun z_101 ez_101 => ?_)
                                                  have kz_101 := congrArg Int32.toInt ez_101
                                                  have jz_101 : 0 ≤ z_101.toInt ∧ z_101.toInt ≤ 3 := by rw [ez_101]; exact v_mf65_258 _ (g_ix rfl (by omega) (by omega))
                                                  refine lv_iconst (v := 3) hx hb dX9_deal_270 (by decide) ?_
                                                  refine lv_icmp_ne (tgt := 288) hx hb dX9_deal_271 (by decide) (fun c_102 => ?_) (fun c_102 => ?_)
                                                  ·
                                                    have ic_102 : z_101.toInt ≠ 3 := mt (g_eq rfl t_3).mpr c_102
                                                    clear c_102
                                                    refine lv_iload hx hb dX9_deal_288 (lv_at hl 0 rfl) ?_
                                                    refine lv_if_lt (tgt := 297) hx hb dX9_deal_290 (by decide) (fun c_103 => absurd c_103 (by rw [g_lt rfl t_0]; omega)) (fun c_103 => ?_)
                                                    refine lv_iconst (v := 1) hx hb dX9_deal_293 (by decide) ?_
                                                    refine lv_goto (tgt := 298) hx hb dX9_deal_294 (by decide) ?_
                                                    refine lv_istore (lv' := [(6, .int 1), (7, .int L7_258), (5, .int L7_149), (4, .int 3), (0, .ref mh), (1, .int p0), (2, .int p1), (3, .int p2)]) hx hb dX9_deal_298 hl (by decide) rfl (fun ls hl => ?_)
                                                    refine lv_iload hx hb dX9_deal_300 (lv_at hl 0 rfl) ?_
                                                    refine lv_if_eq (tgt := 316) hx hb dX9_deal_302 (by decide) (fun c_104 => absurd c_104 (by decide)) (fun c_104 => ?_)
                                                    refine lv_aload_n hx hb dX9_deal_305 rfl (lv_at hl 4 rfl) ?_
                                                    refine va_get (D := D) (ci := 9) (v := .ref (ma 65)) (C := RX9) (T := TX9) (N := 68) hx hb htb iX9 hown hK.1 hP 3 rfl rfl 65 (by decide) (htb _ k_1023) (fun _ h9 => h9) rfl dX9_deal_306 ?_
                                                    refine lv_iload hx hb dX9_deal_309 (lv_at hl 1 rfl) ?_
                                                    refine lv_dup2_11 hx hb dX9_deal_311 rfl rfl ?_
                                                    refine va_iald hx hb hK.1 hP 4 0 rfl rfl (g_in rfl (by omega) (by omega)) dX9_deal_312 ?_
                                                    refine lv_topi (fun z_105 ez_105 => ?_)
                                                    have kz_105 := congrArg Int32.toInt ez_105
                                                    have jz_105 : 0 ≤ z_105.toInt ∧ z_105.toInt ≤ 3 := by rw [ez_105]; exact v_mf65_258 _ (g_ix rfl (by omega) (by omega))
                                                    refine lv_iconst (v := 1) hx hb dX9_deal_313 (by decide) ?_
                                                    refine lv_iadd hx hb dX9_deal_314 ?_
                                                    refine lv_topi (fun z_106 ez_106 => ?_)
                                                    have jz_106 : z_106.toInt = z_105.toInt + 1 := by rw [ez_106]; exact g_add rfl t_1 (by omega) (by omega)
                                                    refine va_iast hx hb hK.1 hP hD hS 4 0 rfl rfl (g_in rfl (by omega) (by omega)) dX9_deal_315 (fun H locs hP hD hS => ?_)
                                                    have hP : va_P D vwCl [((ma 62), .inl (E 0, 9, .inl mf62)), ((ma 63), .inl (E 0, 9, .inl mf63_221)), ((ma 66), .inl (E 0, 3, .inl (upd g_17 (2 : Int32).toNatClampNeg p2))), (mh, .inr (9, G9 ma mcode mtoday moffs mmany msumW msumA msumR msumWW msumWA msumAA msumWR msumAR mupper mlower mrates mtaped mlaid mat mtk mtkAt mtkNumber mwaits mlisted mdealtMany)), ((ma 65), .inl (E 0, 9, .inl (upd mf65_258 (L7_258 : Int32).toNatClampNeg z_106))), ((ma 67), .inl (E 0, 3, .inl u_28))] H := hP
                                                    have hD := toW hP hD rfl
                                                    have hv_107 : ∀ k : Nat, k < 9 → 0 ≤ ((upd mf65_258 (L7_258 : Int32).toNatClampNeg z_106) k).toInt ∧ ((upd mf65_258 (L7_258 : Int32).toNatClampNeg z_106) k).toInt ≤ 3 := upd_r v_mf65_258 (by (try dsimp only); omega)
                                                    refine lv_goto (tgt := 129) hx hb dX9_deal_316 (by decide) ?_
                                                    have hP := hP.sub (ws' := [(mh, .inr (9, G9 ma mcode mtoday moffs mmany msumW msumA msumR msumWW msumWA msumAA msumWR msumAR mupper mlower mrates mtaped mlaid mat mtk mtkAt mtkNumber mwaits mlisted mdealtMany)), ((ma 62), .inl (E 0, 9, .inl mf62)), ((ma 63), .inl (E 0, 9, .inl mf63_221)), ((ma 65), .inl (E 0, 9, .inl (upd mf65_258 (L7_258 : Int32).toNatClampNeg z_106))), ((ma 66), .inl (E 0, 3, .inl (upd g_17 (2 : Int32).toNatClampNeg p2))), ((ma 67), .inl (E 0, 3, .inl u_28))]) [3, 0, 1, 4, 2, 5] rfl
                                                    have hD := hD.sub (ws' := [(mh, .inr (9, G9 ma mcode mtoday moffs mmany msumW msumA msumR msumWW msumWA msumAA msumWR msumAR mupper mlower mrates mtaped mlaid mat mtk mtkAt mtkNumber mwaits mlisted mdealtMany)), ((ma 62), .inl (E 0, 9, .inl mf62)), ((ma 63), .inl (E 0, 9, .inl mf63_221)), ((ma 65), .inl (E 0, 9, .inl (upd mf65_258 (L7_258 : Int32).toNatClampNeg z_106))), ((ma 66), .inl (E 0, 3, .inl (upd g_17 (2 : Int32).toNatClampNeg p2))), ((ma 67), .inl (E 0, 3, .inl u_28))]) [3, 0, 1, 4, 2, 5] (by decide) rfl
                                                    exact ih_23 1 u_28 (upd mf65_258 (L7_258 : Int32).toNatClampNeg z_106) L7_149 mf63_221 _ _ _ (by have hc := carry_1 (n := mlisted) (i := L7_258) (by omega) (by omega) ez_105 jz_106 v1_258; have h := val4_max (n := mlisted) hv_107 (by omega) (by omega); have h1 := t_1; omega) hv_107 (by have hc := carry_1 (n := mlisted) (i := L7_258) (by omega) (by omega) ez_105 jz_106 v1_258; have h := val4_max (n := mlisted) hv_107 (by omega) (by omega); have h1 := t_1; omega) hP hD hS (lv_sub hl [0, 2, 3, 4, 5, 6, 7] rfl)
                                                  ·
                                                    have ic_102 : z_101.toInt = 3 := (g_eq rfl t_3).mp c_102
                                                    clear c_102
                                                    refine lv_aload_n hx hb dX9_deal_274 rfl (lv_at hl 4 rfl) ?_
                                                    refine va_get (D := D) (ci := 9) (v := .ref (ma 65)) (C := RX9) (T := TX9) (N := 68) hx hb htb iX9 hown hK.1 hP 3 rfl rfl 65 (by decide) (htb _ k_1023) (fun _ h9 => h9) rfl dX9_deal_275 ?_
                                                    refine lv_iload hx hb dX9_deal_278 (lv_at hl 0 rfl) ?_
                                                    refine lv_iconst (v := 0) hx hb dX9_deal_280 (by decide) ?_
                                                    refine va_iast hx hb hK.1 hP hD hS 4 0 rfl rfl (g_in rfl (by omega) (by omega)) dX9_deal_281 (fun H locs hP hD hS => ?_)
                                                    have hP : va_P D vwCl [((ma 62), .inl (E 0, 9, .inl mf62)), ((ma 63), .inl (E 0, 9, .inl mf63_221)), ((ma 66), .inl (E 0, 3, .inl (upd g_17 (2 : Int32).toNatClampNeg p2))), (mh, .inr (9, G9 ma mcode mtoday moffs mmany msumW msumA msumR msumWW msumWA msumAA msumWR msumAR mupper mlower mrates mtaped mlaid mat mtk mtkAt mtkNumber mwaits mlisted mdealtMany)), ((ma 65), .inl (E 0, 9, .inl (upd mf65_258 (L7_258 : Int32).toNatClampNeg 0))), ((ma 67), .inl (E 0, 3, .inl u_28))] H := hP
                                                    have hD := toW hP hD rfl
                                                    have hv_108 : ∀ k : Nat, k < 9 → 0 ≤ ((upd mf65_258 (L7_258 : Int32).toNatClampNeg 0) k).toInt ∧ ((upd mf65_258 (L7_258 : Int32).toNatClampNeg 0) k).toInt ≤ 3 := upd_r v_mf65_258 (by decide)
                                                    obtain ⟨z_109, ez_109⟩ : ∃ y : Int32, y = L7_258 + (-1) := ⟨_, rfl⟩
                                                    have jz_109 : z_109.toInt = L7_258.toInt + -1 := by rw [ez_109]; exact g_add rfl t_m1 (by omega) (by omega)
                                                    refine lv_iinc (v := z_109) (lv' := [(7, .int z_109), (5, .int L7_149), (6, .int L6_129), (4, .int 3), (0, .ref mh), (1, .int p0), (2, .int p1), (3, .int p2)]) hx hb dX9_deal_282 hl (k := 0) rfl (by rw [ez_109]; rfl) (by decide) rfl (fun ls hl => ?_)
                                                    refine lv_goto (tgt := 258) hx hb dX9_deal_285 (by decide) ?_
                                                    exact ih_96 z_109 (upd mf65_258 (L7_258 : Int32).toNatClampNeg 0) _ _ _ (by have h0 := t_3; (try dsimp only); omega) hv_108 (by have h0 := t_3; (try dsimp only); omega) (carry_0 (by omega) (by omega) (by omega) ez_101 (by omega) v1_258) hP hD hS (lv_sub hl [0, 1, 2, 3, 4, 5, 6, 7] rfl)
                                            exact loop_95 10 z_94 mf65_129 _ _ _ (by have h0 := t_3; (try dsimp only); omega) v_mf65_129 (by have h0 := t_3; (try dsimp only); omega) (carry_s (by omega)) hP hD hS (lv_sub hl [0, 2, 3, 4, 5, 6, 7, 8] rfl)
                                          ·
                                            have ic_93 : L8_221.toInt < mlisted.toInt := by first | exact (g_lt rfl rfl).mp c_93 | (have h := mt (g_le rfl rfl).mpr c_93; omega)
                                            clear c_93
                                            refine lv_aload_n hx hb dX9_deal_230 rfl (lv_at hl 5 rfl) ?_
                                            refine va_get (D := D) (ci := 9) (v := .ref (ma 63)) (C := RX9) (T := TX9) (N := 68) hx hb htb iX9 hown hK.1 hP 3 rfl rfl 63 (by decide) (htb _ k_1021) (fun _ h9 => h9) rfl dX9_deal_231 ?_
                                            refine lv_iload hx hb dX9_deal_234 (lv_at hl 0 rfl) ?_
                                            refine lv_aload_n hx hb dX9_deal_236 rfl (lv_at hl 5 rfl) ?_
                                            refine va_get (D := D) (ci := 9) (v := .ref (ma 65)) (C := RX9) (T := TX9) (N := 68) hx hb htb iX9 hown hK.1 hP 3 rfl rfl 65 (by decide) (htb _ k_1023) (fun _ h9 => h9) rfl dX9_deal_237 ?_
                                            refine lv_iload hx hb dX9_deal_240 (lv_at hl 0 rfl) ?_
                                            refine va_iald hx hb hK.1 hP 4 0 rfl rfl (g_in rfl (by omega) (by omega)) dX9_deal_242 ?_
                                            refine lv_topi (fun z_110 ez_110 => ?_)
                                            have kz_110 := congrArg Int32.toInt ez_110
                                            have jz_110 : 0 ≤ z_110.toInt ∧ z_110.toInt ≤ 3 := by rw [ez_110]; exact v_mf65_129 _ (g_ix rfl (by omega) (by omega))
                                            refine va_iast hx hb hK.1 hP hD hS 1 0 rfl rfl (g_in rfl (by omega) (by omega)) dX9_deal_243 (fun H locs hP hD hS => ?_)
                                            have hP : va_P D vwCl [((ma 62), .inl (E 0, 9, .inl mf62)), ((ma 63), .inl (E 0, 9, .inl (upd mf63_221 (L8_221 : Int32).toNatClampNeg z_110))), ((ma 66), .inl (E 0, 3, .inl (upd g_17 (2 : Int32).toNatClampNeg p2))), (mh, .inr (9, G9 ma mcode mtoday moffs mmany msumW msumA msumR msumWW msumWA msumAA msumWR msumAR mupper mlower mrates mtaped mlaid mat mtk mtkAt mtkNumber mwaits mlisted mdealtMany)), ((ma 65), .inl (E 0, 9, .inl mf65_129)), ((ma 67), .inl (E 0, 3, .inl u_28))] H := hP
                                            have hD := toW hP hD rfl
                                            obtain ⟨z_111, ez_111⟩ : ∃ y : Int32, y = L8_221 + 1 := ⟨_, rfl⟩
                                            have jz_111 : z_111.toInt = L8_221.toInt + 1 := by rw [ez_111]; exact g_add rfl t_1 (by omega) (by omega)
                                            refine lv_iinc (v := z_111) (lv' := [(8, .int z_111), (5, .int L7_149), (7, .int L7_149), (6, .int L6_129), (4, .int 3), (0, .ref mh), (1, .int p0), (2, .int p1), (3, .int p2)]) hx hb dX9_deal_244 hl (k := 0) rfl (by rw [ez_111]; rfl) (by decide) rfl (fun ls hl => ?_)
                                            refine lv_goto (tgt := 221) hx hb dX9_deal_247 (by decide) ?_
                                            exact ih_91 z_111 (upd mf63_221 (L8_221 : Int32).toNatClampNeg z_110) _ _ _ (by have h0 := t_3; (try dsimp only); omega) (by have h0 := t_3; (try dsimp only); omega) hP hD hS (lv_sub hl [0, 1, 2, 3, 4, 5, 6, 7, 8] rfl)
                                      exact loop_90 10 0 mf63_129 _ _ _ (by have h0 := t_0; have h1 := t_3; (try dsimp only); omega) (by have h0 := t_0; have h1 := t_3; (try dsimp only); omega) hP hD hS (lv_sub hl [0, 1, 2, 3, 4, 5, 6, 7, 8] rfl)
                                ·
                                  have ic_49 : L8_149.toInt < 3 := by first | exact (g_lt rfl t_3).mp c_49 | (have h := mt (g_le t_3 rfl).mpr c_49; omega)
                                  clear c_49
                                  refine lv_aload_n hx hb dX9_deal_156 rfl (lv_at hl 5 rfl) ?_
                                  refine va_get (D := D) (ci := 9) (v := .ref (ma 66)) (C := RX9) (T := TX9) (N := 68) hx hb htb iX9 hown hK.1 hP 3 rfl rfl 66 (by decide) (htb _ k_1024) (fun _ h9 => h9) rfl dX9_deal_157 ?_
                                  refine lv_iload hx hb dX9_deal_160 (lv_at hl 0 rfl) ?_
                                  refine va_iald hx hb hK.1 hP 2 0 rfl rfl (g_in rfl (by omega) (by omega)) dX9_deal_162 ?_
                                  refine lv_topi (fun z_112 ez_112 => ?_)
                                  have kz_112 := congrArg Int32.toInt ez_112
                                  refine lv_aload_n hx hb dX9_deal_163 rfl (lv_at hl 5 rfl) ?_
                                  refine lv_iload hx hb dX9_deal_164 (lv_at hl 0 rfl) ?_
                                  refine callRV (rest := [.int z_112]) (As := [.int L8_149]) hx hb hml hown htb hK (g_X9_secondOf l D E mh ma mcode mtoday moffs mmany msumW msumA msumR msumWW msumWA msumAA msumWR msumAR mupper mlower mrates mtaped mlaid mat mtk mtkAt mtkNumber mwaits mlisted mdealtMany mf62 mf65_129 L8_149 (by (try dsimp only); omega) v_mf65_129) ok_X9_secondOf k_1468 k_1470 ks_66 k_9 k_1471 ⟨(Nat.le_of_ble_eq_true rfl), (Nat.le_of_ble_eq_true rfl)⟩ ⟨(Nat.le_of_ble_eq_true rfl), (Nat.le_of_ble_eq_true rfl)⟩ hl.1 (Nat.le_of_ble_eq_true rfl) rfl rfl dX9_deal_166 (hP.sub (ws' := [(mh, .inr (9, G9 ma mcode mtoday moffs mmany msumW msumA msumR msumWW msumWA msumAA msumWR msumAR mupper mlower mrates mtaped mlaid mat mtk mtkAt mtkNumber mwaits mlisted mdealtMany)), ((ma 62), .inl (E 0, 9, .inl mf62)), ((ma 65), .inl (E 0, 9, .inl mf65_129))]) [3, 0, 4] rfl) rfl rfl 0 rfl (fun r_113 hw_114 => ?_)
                                  refine lv_imul hx hb dX9_deal_169 ?_
                                  refine lv_topi (fun z_116 ez_116 => ?_)
                                  refine lv_iload hx hb dX9_deal_170 (lv_at hl 1 rfl) ?_
                                  refine lv_icmp_le (tgt := 192) hx hb dX9_deal_172 (by decide) (fun c_117 => ?_) (fun c_117 => ?_)
                                  ·
                                    have ic_117 : z_116.toInt ≤ L7_149.toInt := by first | exact (g_le rfl rfl).mp c_117 | (have h := mt (g_lt rfl rfl).mpr c_117; omega)
                                    clear c_117
                                    refine lv_iload hx hb dX9_deal_192 (lv_at hl 1 rfl) ?_
                                    refine lv_istore (lv' := [(7, .int L7_149), (8, .int L8_149), (6, .int L6_129), (5, .int L5_129), (4, .int 3), (0, .ref mh), (1, .int p0), (2, .int p1), (3, .int p2)]) hx hb dX9_deal_194 hl (by decide) rfl (fun ls hl => ?_)
                                    obtain ⟨z_118, ez_118⟩ : ∃ y : Int32, y = L8_149 + 1 := ⟨_, rfl⟩
                                    have jz_118 : z_118.toInt = L8_149.toInt + 1 := by rw [ez_118]; exact g_add rfl t_1 (by omega) (by omega)
                                    refine lv_iinc (v := z_118) (lv' := [(8, .int z_118), (7, .int L7_149), (6, .int L6_129), (5, .int L5_129), (4, .int 3), (0, .ref mh), (1, .int p0), (2, .int p1), (3, .int p2)]) hx hb dX9_deal_196 hl (k := 1) rfl (by rw [ez_118]; rfl) (by decide) rfl (fun ls hl => ?_)
                                    refine lv_goto (tgt := 149) hx hb dX9_deal_199 (by decide) ?_
                                    exact ih_47 z_118 L7_149 _ _ _ (by have h0 := t_3; (try dsimp only); omega) (by have h0 := t_3; (try dsimp only); omega) hP hD hS (lv_sub hl [0, 1, 2, 3, 4, 5, 6, 7, 8] rfl)
                                  ·
                                    have ic_117 : L7_149.toInt < z_116.toInt := by first | exact (g_lt rfl rfl).mp c_117 | (have h := mt (g_le rfl rfl).mpr c_117; omega)
                                    clear c_117
                                    refine lv_aload_n hx hb dX9_deal_175 rfl (lv_at hl 5 rfl) ?_
                                    refine va_get (D := D) (ci := 9) (v := .ref (ma 66)) (C := RX9) (T := TX9) (N := 68) hx hb htb iX9 hown hK.1 hP 3 rfl rfl 66 (by decide) (htb _ k_1024) (fun _ h9 => h9) rfl dX9_deal_176 ?_
                                    refine lv_iload hx hb dX9_deal_179 (lv_at hl 0 rfl) ?_
                                    refine va_iald hx hb hK.1 hP 2 0 rfl rfl (g_in rfl (by omega) (by omega)) dX9_deal_181 ?_
                                    refine lv_topi (fun z_119 ez_119 => ?_)
                                    have kz_119 := congrArg Int32.toInt ez_119
                                    refine lv_aload_n hx hb dX9_deal_182 rfl (lv_at hl 5 rfl) ?_
                                    refine lv_iload hx hb dX9_deal_183 (lv_at hl 0 rfl) ?_
                                    refine callRV (rest := [.int z_119]) (As := [.int L8_149]) hx hb hml hown htb hK (g_X9_secondOf l D E mh ma mcode mtoday moffs mmany msumW msumA msumR msumWW msumWA msumAA msumWR msumAR mupper mlower mrates mtaped mlaid mat mtk mtkAt mtkNumber mwaits mlisted mdealtMany mf62 mf65_129 L8_149 (by (try dsimp only); omega) v_mf65_129) ok_X9_secondOf k_1468 k_1470 ks_66 k_9 k_1471 ⟨(Nat.le_of_ble_eq_true rfl), (Nat.le_of_ble_eq_true rfl)⟩ ⟨(Nat.le_of_ble_eq_true rfl), (Nat.le_of_ble_eq_true rfl)⟩ hl.1 (Nat.le_of_ble_eq_true rfl) rfl rfl dX9_deal_185 (hP.sub (ws' := [(mh, .inr (9, G9 ma mcode mtoday moffs mmany msumW msumA msumR msumWW msumWA msumAA msumWR msumAR mupper mlower mrates mtaped mlaid mat mtk mtkAt mtkNumber mwaits mlisted mdealtMany)), ((ma 62), .inl (E 0, 9, .inl mf62)), ((ma 65), .inl (E 0, 9, .inl mf65_129))]) [3, 0, 4] rfl) rfl rfl 0 rfl (fun r_120 hw_121 => ?_)
                                    refine lv_imul hx hb dX9_deal_188 ?_
                                    refine lv_topi (fun z_123 ez_123 => ?_)
                                    refine lv_goto (tgt := 194) hx hb dX9_deal_189 (by decide) ?_
                                    refine lv_istore (lv' := [(7, .int z_123), (8, .int L8_149), (6, .int L6_129), (5, .int L5_129), (4, .int 3), (0, .ref mh), (1, .int p0), (2, .int p1), (3, .int p2)]) hx hb dX9_deal_194 hl (by decide) rfl (fun ls hl => ?_)
                                    obtain ⟨z_124, ez_124⟩ : ∃ y : Int32, y = L8_149 + 1 := ⟨_, rfl⟩
                                    have jz_124 : z_124.toInt = L8_149.toInt + 1 := by rw [ez_124]; exact g_add rfl t_1 (by omega) (by omega)
                                    refine lv_iinc (v := z_124) (lv' := [(8, .int z_124), (7, .int z_123), (6, .int L6_129), (5, .int L5_129), (4, .int 3), (0, .ref mh), (1, .int p0), (2, .int p1), (3, .int p2)]) hx hb dX9_deal_196 hl (k := 1) rfl (by rw [ez_124]; rfl) (by decide) rfl (fun ls hl => ?_)
                                    refine lv_goto (tgt := 149) hx hb dX9_deal_199 (by decide) ?_
                                    exact ih_47 z_124 z_123 _ _ _ (by have h0 := t_3; (try dsimp only); omega) (by have h0 := t_3; (try dsimp only); omega) hP hD hS (lv_sub hl [0, 1, 2, 3, 4, 5, 6, 7, 8] rfl)
                            exact loop_46 4 0 0 _ _ _ (by have h0 := t_0; have h1 := t_3; (try dsimp only); omega) (by have h0 := t_0; have h1 := t_3; (try dsimp only); omega) hP hD hS (lv_sub hl [0, 1, 2, 3, 4, 5, 6, 7, 8] rfl)
                    exact loop_22 262146 1 mf67 mf65_103 ((-1)) mf63 _ _ _ (by have h := val4_max (n := mlisted) v_mf65_103 (by omega) (by omega); have h1 := t_1; omega) v_mf65_103 (by have h := val4_max (n := mlisted) v_mf65_103 (by omega) (by omega); have h1 := t_1; omega) hP hD hS (lv_sub hl [0, 1, 2, 3, 4, 5, 6] rfl)
                  ·
                    have ic_21 : L6_103.toInt < mlisted.toInt := by first | exact (g_lt rfl rfl).mp c_21 | (have h := mt (g_le rfl rfl).mpr c_21; omega)
                    clear c_21
                    refine lv_aload_n hx hb dX9_deal_112 rfl (lv_at hl 3 rfl) ?_
                    refine va_get (D := D) (ci := 9) (v := .ref (ma 65)) (C := RX9) (T := TX9) (N := 68) hx hb htb iX9 hown hK.1 hP 0 rfl rfl 65 (by decide) (htb _ k_1023) (fun _ h9 => h9) rfl dX9_deal_113 ?_
                    refine lv_iload hx hb dX9_deal_116 (lv_at hl 0 rfl) ?_
                    refine lv_iconst (v := 0) hx hb dX9_deal_118 (by decide) ?_
                    refine va_iast hx hb hK.1 hP hD hS 3 0 rfl rfl (g_in rfl (by omega) (by omega)) dX9_deal_119 (fun H locs hP hD hS => ?_)
                    have hP : va_P D vwCl [(mh, .inr (9, G9 ma mcode mtoday moffs mmany msumW msumA msumR msumWW msumWA msumAA msumWR msumAR mupper mlower mrates mtaped mlaid mat mtk mtkAt mtkNumber mwaits mlisted mdealtMany)), ((ma 62), .inl (E 0, 9, .inl mf62)), ((ma 63), .inl (E 0, 9, .inl mf63)), ((ma 65), .inl (E 0, 9, .inl (upd mf65_103 (L6_103 : Int32).toNatClampNeg 0))), ((ma 66), .inl (E 0, 3, .inl (upd g_17 (2 : Int32).toNatClampNeg p2))), ((ma 67), .inl (E 0, 3, .inl mf67))] H := hP
                    have hD := toW hP hD rfl
                    have hv_125 : ∀ k : Nat, k < 9 → 0 ≤ ((upd mf65_103 (L6_103 : Int32).toNatClampNeg 0) k).toInt ∧ ((upd mf65_103 (L6_103 : Int32).toNatClampNeg 0) k).toInt ≤ 3 := upd_r v_mf65_103 (by decide)
                    obtain ⟨z_126, ez_126⟩ : ∃ y : Int32, y = L6_103 + 1 := ⟨_, rfl⟩
                    have jz_126 : z_126.toInt = L6_103.toInt + 1 := by rw [ez_126]; exact g_add rfl t_1 (by omega) (by omega)
                    refine lv_iinc (v := z_126) (lv' := [(6, .int z_126), (5, .int (-1)), (4, .int 3), (0, .ref mh), (1, .int p0), (2, .int p1), (3, .int p2)]) hx hb dX9_deal_120 hl (k := 0) rfl (by rw [ez_126]; rfl) (by decide) rfl (fun ls hl => ?_)
                    refine lv_goto (tgt := 103) hx hb dX9_deal_123 (by decide) ?_
                    exact ih_19 z_126 (upd mf65_103 (L6_103 : Int32).toNatClampNeg 0) _ _ _ (by have h0 := t_m1; have h1 := t_3; (try dsimp only); omega) hv_125 (by have h0 := t_m1; have h1 := t_3; (try dsimp only); omega) hP hD hS (lv_sub hl [0, 1, 2, 3, 4, 5, 6] rfl)
              exact loop_18 10 0 mf65 _ _ _ (by have h0 := t_m1; have h1 := t_0; have h2 := t_3; (try dsimp only); omega) hr_m65 (by have h0 := t_m1; have h1 := t_0; have h2 := t_3; (try dsimp only); omega) hP hD hS (lv_sub hl [0, 1, 2, 3, 4, 5, 6] rfl)
            ·
              have ic_16 : mlisted.toInt < 9 := by first | exact (g_lt rfl t_9).mp c_16 | (have h := mt (g_le t_9 rfl).mpr c_16; omega)
              clear c_16
              refine lv_bipush (v := (-4)) hx hb dX9_deal_73 (by decide) ?_
              have hP9 := hP.sub (ws' := [(mh, .inr (9, G9 ma mcode mtoday moffs mmany msumW msumA msumR msumWW msumWA msumAA msumWR msumAR mupper mlower mrates mtaped mlaid mat mtk mtkAt mtkNumber mwaits mlisted mdealtMany)), ((ma 62), .inl (E 0, 9, .inl mf62)), ((ma 63), .inl (E 0, 9, .inl mf63)), ((ma 65), .inl (E 0, 9, .inl mf65)), ((ma 66), .inl (E 0, 3, .inl mf66)), ((ma 67), .inl (E 0, 3, .inl mf67))]) [0, 1, 2, 3, 4, 5] rfl
              have hD9 := hD.sub (ws' := [(mh, .inr (9, G9 ma mcode mtoday moffs mmany msumW msumA msumR msumWW msumWA msumAA msumWR msumAR mupper mlower mrates mtaped mlaid mat mtk mtkAt mtkNumber mwaits mlisted mdealtMany)), ((ma 62), .inl (E 0, 9, .inl mf62)), ((ma 63), .inl (E 0, 9, .inl mf63)), ((ma 65), .inl (E 0, 9, .inl mf65)), ((ma 66), .inl (E 0, 3, .inl mf66)), ((ma 67), .inl (E 0, 3, .inl mf67))]) [0, 1, 2, 3, 4, 5] (by decide) rfl
              exact W.iret (v := (-4)) hx hb hr (fun t ht hW => ⟨⟨(-4), (mf63, mf65, mf66, mf67, mdealtMany, mlisted), rfl, ⟨hr_m65, (by (try dsimp only); omega), (by (try dsimp only); omega), (by have h0 := t_m4; (try dsimp only); omega)⟩, by rw [ht]; exact hP9, hD9⟩, hS.F ht⟩) hS.2.2 dX9_deal_75
          ·
            have ic_15 : p2.toInt = 0 := (g_eq rfl t_0).mp c_15
            clear c_15
            refine lv_iconst (v := 2) hx hb dX9_deal_55 (by decide) ?_
            refine lv_goto (tgt := 60) hx hb dX9_deal_56 (by decide) ?_
            refine lv_istore (lv' := [(4, .int 2), (0, .ref mh), (1, .int p0), (2, .int p1), (3, .int p2)]) hx hb dX9_deal_60 hl (by decide) rfl (fun ls hl => ?_)
            refine lv_aload_n hx hb dX9_deal_62 rfl (lv_at hl 1 rfl) ?_
            refine va_get (D := D) (ci := 9) (v := .int mlisted) (C := RX9) (T := TX9) (N := 68) hx hb htb iX9 hown hK.1 hP 0 rfl rfl 61 (by decide) (htb _ k_1019) (fun _ h9 => h9) rfl dX9_deal_63 ?_
            refine lv_iconst (v := 3) hx hb dX9_deal_66 (by decide) ?_
            refine lv_iload hx hb dX9_deal_67 (lv_at hl 0 rfl) ?_
            refine lv_imul hx hb dX9_deal_69 ?_
            refine W_top (y := .int 6) (by decide) ?_
            refine lv_icmp_ge (tgt := 76) hx hb dX9_deal_70 (by decide) (fun c_127 => ?_) (fun c_127 => ?_)
            ·
              have ic_127 : 6 ≤ mlisted.toInt := by first | exact (g_le t_6 rfl).mp c_127 | (have h := mt (g_lt rfl t_6).mpr c_127; omega)
              clear c_127
              refine lv_aload_n hx hb dX9_deal_76 rfl (lv_at hl 1 rfl) ?_
              refine va_get (D := D) (ci := 9) (v := .ref (ma 66)) (C := RX9) (T := TX9) (N := 68) hx hb htb iX9 hown hK.1 hP 0 rfl rfl 66 (by decide) (htb _ k_1024) (fun _ h9 => h9) rfl dX9_deal_77 ?_
              refine lv_iconst (v := 0) hx hb dX9_deal_80 (by decide) ?_
              refine lv_iload_n hx hb dX9_deal_81 rfl (lv_at hl 2 rfl) ?_
              refine va_iast hx hb hK.1 hP hD hS 4 0 rfl rfl (g_in t_0 (by decide) (by decide)) dX9_deal_82 (fun H locs hP hD hS => ?_)
              have hP : va_P D vwCl [(mh, .inr (9, G9 ma mcode mtoday moffs mmany msumW msumA msumR msumWW msumWA msumAA msumWR msumAR mupper mlower mrates mtaped mlaid mat mtk mtkAt mtkNumber mwaits mlisted mdealtMany)), ((ma 62), .inl (E 0, 9, .inl mf62)), ((ma 63), .inl (E 0, 9, .inl mf63)), ((ma 65), .inl (E 0, 9, .inl mf65)), ((ma 66), .inl (E 0, 3, .inl (upd mf66 (0 : Int32).toNatClampNeg p0))), ((ma 67), .inl (E 0, 3, .inl mf67))] H := hP
              have hD := toW hP hD rfl
              refine lv_aload_n hx hb dX9_deal_83 rfl (lv_at hl 1 rfl) ?_
              refine va_get (D := D) (ci := 9) (v := .ref (ma 66)) (C := RX9) (T := TX9) (N := 68) hx hb htb iX9 hown hK.1 hP 0 rfl rfl 66 (by decide) (htb _ k_1024) (fun _ h9 => h9) rfl dX9_deal_84 ?_
              refine lv_iconst (v := 1) hx hb dX9_deal_87 (by decide) ?_
              refine lv_iload_n hx hb dX9_deal_88 rfl (lv_at hl 3 rfl) ?_
              refine va_iast hx hb hK.1 hP hD hS 4 0 rfl rfl (g_in t_1 (by decide) (by decide)) dX9_deal_89 (fun H locs hP hD hS => ?_)
              have hP : va_P D vwCl [(mh, .inr (9, G9 ma mcode mtoday moffs mmany msumW msumA msumR msumWW msumWA msumAA msumWR msumAR mupper mlower mrates mtaped mlaid mat mtk mtkAt mtkNumber mwaits mlisted mdealtMany)), ((ma 62), .inl (E 0, 9, .inl mf62)), ((ma 63), .inl (E 0, 9, .inl mf63)), ((ma 65), .inl (E 0, 9, .inl mf65)), ((ma 66), .inl (E 0, 3, .inl (upd (upd mf66 (0 : Int32).toNatClampNeg p0) (1 : Int32).toNatClampNeg p1))), ((ma 67), .inl (E 0, 3, .inl mf67))] H := hP
              have hD := toW hP hD rfl
              generalize (upd (upd mf66 (0 : Int32).toNatClampNeg p0) (1 : Int32).toNatClampNeg p1) = g_128 at hP hD
              refine lv_aload_n hx hb dX9_deal_90 rfl (lv_at hl 1 rfl) ?_
              refine va_get (D := D) (ci := 9) (v := .ref (ma 66)) (C := RX9) (T := TX9) (N := 68) hx hb htb iX9 hown hK.1 hP 0 rfl rfl 66 (by decide) (htb _ k_1024) (fun _ h9 => h9) rfl dX9_deal_91 ?_
              refine lv_iconst (v := 2) hx hb dX9_deal_94 (by decide) ?_
              refine lv_iload_n hx hb dX9_deal_95 rfl (lv_at hl 4 rfl) ?_
              refine va_iast hx hb hK.1 hP hD hS 4 0 rfl rfl (g_in t_2 (by decide) (by decide)) dX9_deal_96 (fun H locs hP hD hS => ?_)
              have hP : va_P D vwCl [(mh, .inr (9, G9 ma mcode mtoday moffs mmany msumW msumA msumR msumWW msumWA msumAA msumWR msumAR mupper mlower mrates mtaped mlaid mat mtk mtkAt mtkNumber mwaits mlisted mdealtMany)), ((ma 62), .inl (E 0, 9, .inl mf62)), ((ma 63), .inl (E 0, 9, .inl mf63)), ((ma 65), .inl (E 0, 9, .inl mf65)), ((ma 66), .inl (E 0, 3, .inl (upd g_128 (2 : Int32).toNatClampNeg p2))), ((ma 67), .inl (E 0, 3, .inl mf67))] H := hP
              have hD := toW hP hD rfl
              refine lv_iconst (v := (-1)) hx hb dX9_deal_97 (by decide) ?_
              refine lv_istore (lv' := [(5, .int (-1)), (4, .int 2), (0, .ref mh), (1, .int p0), (2, .int p1), (3, .int p2)]) hx hb dX9_deal_98 hl (by decide) rfl (fun ls hl => ?_)
              refine lv_iconst (v := 0) hx hb dX9_deal_100 (by decide) ?_
              refine lv_istore (lv' := [(6, .int 0), (5, .int (-1)), (4, .int 2), (0, .ref mh), (1, .int p0), (2, .int p1), (3, .int p2)]) hx hb dX9_deal_101 hl (by decide) rfl (fun ls hl => ?_)
              have loop_129 : ∀ (N_131 : Nat) (L6_103 : Int32) (mf65_103 : Nat → Int32) (H : Heap) (locs : List Loc) (ls : Array Slot), mlisted.toInt - L6_103.toInt < (N_131 : Int) → (∀ k : Nat, k < 9 → 0 ≤ (mf65_103 k).toInt ∧ (mf65_103 k).toInt ≤ 3) → (0 ≤ L6_103.toInt ∧ L6_103.toInt ≤ mlisted.toInt) → va_P D vwCl [(mh, .inr (9, G9 ma mcode mtoday moffs mmany msumW msumA msumR msumWW msumWA msumAA msumWR msumAR mupper mlower mrates mtaped mlaid mat mtk mtkAt mtkNumber mwaits mlisted mdealtMany)), ((ma 62), .inl (E 0, 9, .inl mf62)), ((ma 63), .inl (E 0, 9, .inl mf63)), ((ma 65), .inl (E 0, 9, .inl mf65_103)), ((ma 66), .inl (E 0, 3, .inl (upd g_128 (2 : Int32).toNatClampNeg p2))), ((ma 67), .inl (E 0, 3, .inl mf67))] H → va_D A [(mh, .inr (9, G9 ma mcode mtoday moffs mmany msumW msumA msumR msumWW msumWA msumAA msumWR msumAR mupper mlower mrates mtaped mlaid mat mtk mtkAt mtkNumber mwaits mlisted mdealtMany)), ((ma 62), .inl (E 0, 9, .inl mf62)), ((ma 63), .inl (E 0, 9, .inl mf63)), ((ma 65), .inl (E 0, 9, .inl mf65_103)), ((ma 66), .inl (E 0, 3, .inl (upd g_128 (2 : Int32).toNatClampNeg p2))), ((ma 67), .inl (E 0, 3, .inl mf67))] → va_S A s.heap H locs → lv_has ls 9 [(6, .int L6_103), (5, .int (-1)), (4, .int 2), (0, .ref mh), (1, .int p0), (2, .int p1), (3, .int p2)] → W p l e (headSpec (wl yX9_deal cX9_deal 9 (some .int)) (RM 1 0 0)).room s m [Value.ref mh, .int p0, .int p1, .int p2].toArray below meth c H locs 0 0 (MQ below (va_Qi (fun (r : Int32) (u : (Nat → Int32) × (Nat → Int32) × (Nat → Int32) × (Nat → Int32) × (Int32) × (Int32)) => (∀ k : Nat, k < 9 → 0 ≤ (u.2.1 k).toInt ∧ (u.2.1 k).toInt ≤ 3) ∧ (0 ≤ u.2.2.2.2.1.toInt ∧ u.2.2.2.2.1.toInt ≤ 9) ∧ (0 ≤ u.2.2.2.2.2.toInt ∧ u.2.2.2.2.2.toInt ≤ 9) ∧ ((¬ ((1 ≤ p0.toInt ∧ p0.toInt ≤ 400) ∧ (0 ≤ p1.toInt ∧ p1.toInt ≤ 400) ∧ (0 ≤ p2.toInt ∧ p2.toInt ≤ 400) ∧ ¬ (p1.toInt = 0 ∧ p2.toInt ≠ 0)) ∧ r.toInt = -1 ∧ u.2.2.2.2.2.toInt = mlisted.toInt) ∨ (((1 ≤ p0.toInt ∧ p0.toInt ≤ 400) ∧ (0 ≤ p1.toInt ∧ p1.toInt ≤ 400) ∧ (0 ≤ p2.toInt ∧ p2.toInt ≤ 400) ∧ ¬ (p1.toInt = 0 ∧ p2.toInt ≠ 0)) ∧ ((p1.toInt = 0 ∧ mlisted.toInt < 3) ∨ (p1.toInt ≠ 0 ∧ p2.toInt = 0 ∧ mlisted.toInt < 6) ∨ (p1.toInt ≠ 0 ∧ p2.toInt ≠ 0 ∧ mlisted.toInt < 9)) ∧ r.toInt = -4 ∧ u.2.2.2.2.2.toInt = mlisted.toInt) ∨ (((1 ≤ p0.toInt ∧ p0.toInt ≤ 400) ∧ (0 ≤ p1.toInt ∧ p1.toInt ≤ 400) ∧ (0 ≤ p2.toInt ∧ p2.toInt ≤ 400) ∧ ¬ (p1.toInt = 0 ∧ p2.toInt ≠ 0)) ∧ ¬ ((p1.toInt = 0 ∧ mlisted.toInt < 3) ∨ (p1.toInt ≠ 0 ∧ p2.toInt = 0 ∧ mlisted.toInt < 6) ∨ (p1.toInt ≠ 0 ∧ p2.toInt ≠ 0 ∧ mlisted.toInt < 9)) ∧ u.2.2.2.2.2.toInt = 0))) (mu_B D A (fun (u : (Nat → Int32) × (Nat → Int32) × (Nat → Int32) × (Nat → Int32) × (Int32) × (Int32)) => [(mh, .inr (9, G9 ma mcode mtoday moffs mmany msumW msumA msumR msumWW msumWA msumAA msumWR msumAR mupper mlower mrates mtaped mlaid mat mtk mtkAt mtkNumber mwaits u.2.2.2.2.2 u.2.2.2.2.1)), ((ma 62), .inl (E 0, 9, .inl mf62)), ((ma 63), .inl (E 0, 9, .inl u.1)), ((ma 65), .inl (E 0, 9, .inl u.2.1)), ((ma 66), .inl (E 0, 3, .inl u.2.2.1)), ((ma 67), .inl (E 0, 3, .inl u.2.2.2.1))])) A) [Value.ref mh, .int p0, .int p1, .int p2].toArray s 0 0 A) (F0 m 103 ls []) := by
                intro N_131
                induction N_131 with
                | zero => intro L6_103 mf65_103 H locs ls hm v_mf65_103 v0_103 _ _ _ _; exfalso; omega
                | succ N_131 ih_130 =>
                  intro L6_103 mf65_103 H locs ls hm v_mf65_103 v0_103 hP hD hS hl
                  have lo_L6_103 := i_lo L6_103; have hi_L6_103 := i_hi L6_103
                  refine lv_iload hx hb dX9_deal_103 (lv_at hl 0 rfl) ?_
                  refine lv_aload_n hx hb dX9_deal_105 rfl (lv_at hl 3 rfl) ?_
                  refine va_get (D := D) (ci := 9) (v := .int mlisted) (C := RX9) (T := TX9) (N := 68) hx hb htb iX9 hown hK.1 hP 0 rfl rfl 61 (by decide) (htb _ k_1019) (fun _ h9 => h9) rfl dX9_deal_106 ?_
                  refine lv_icmp_ge (tgt := 126) hx hb dX9_deal_109 (by decide) (fun c_132 => ?_) (fun c_132 => ?_)
                  ·
                    have ic_132 : mlisted.toInt ≤ L6_103.toInt := by first | exact (g_le rfl rfl).mp c_132 | (have h := mt (g_lt rfl rfl).mpr c_132; omega)
                    clear c_132
                    refine lv_iconst (v := 1) hx hb dX9_deal_126 (by decide) ?_
                    refine lv_istore (lv' := [(6, .int 1), (5, .int (-1)), (4, .int 2), (0, .ref mh), (1, .int p0), (2, .int p1), (3, .int p2)]) hx hb dX9_deal_127 hl (by decide) rfl (fun ls hl => ?_)
                    have loop_133 : ∀ (N_135 : Nat) (L6_129 : Int32) (mf67_129 : Nat → Int32) (mf65_129 : Nat → Int32) (L5_129 : Int32) (mf63_129 : Nat → Int32) (H : Heap) (locs : List Loc) (ls : Array Slot), 262145 * L6_129.toInt - val4 mf65_129 (mlisted).toNatClampNeg < (N_135 : Int) → (∀ k : Nat, k < 9 → 0 ≤ (mf65_129 k).toInt ∧ (mf65_129 k).toInt ≤ 3) → ((L6_129.toInt = 1 ∧ 0 ≤ val4 mf65_129 (mlisted).toNatClampNeg ∧ val4 mf65_129 (mlisted).toNatClampNeg ≤ 262143) ∨ (L6_129.toInt = 0 ∧ val4 mf65_129 (mlisted).toNatClampNeg = 0)) → va_P D vwCl [(mh, .inr (9, G9 ma mcode mtoday moffs mmany msumW msumA msumR msumWW msumWA msumAA msumWR msumAR mupper mlower mrates mtaped mlaid mat mtk mtkAt mtkNumber mwaits mlisted mdealtMany)), ((ma 62), .inl (E 0, 9, .inl mf62)), ((ma 63), .inl (E 0, 9, .inl mf63_129)), ((ma 65), .inl (E 0, 9, .inl mf65_129)), ((ma 66), .inl (E 0, 3, .inl (upd g_128 (2 : Int32).toNatClampNeg p2))), ((ma 67), .inl (E 0, 3, .inl mf67_129))] H → va_D A [(mh, .inr (9, G9 ma mcode mtoday moffs mmany msumW msumA msumR msumWW msumWA msumAA msumWR msumAR mupper mlower mrates mtaped mlaid mat mtk mtkAt mtkNumber mwaits mlisted mdealtMany)), ((ma 62), .inl (E 0, 9, .inl mf62)), ((ma 63), .inl (E 0, 9, .inl mf63_129)), ((ma 65), .inl (E 0, 9, .inl mf65_129)), ((ma 66), .inl (E 0, 3, .inl (upd g_128 (2 : Int32).toNatClampNeg p2))), ((ma 67), .inl (E 0, 3, .inl mf67_129))] → va_S A s.heap H locs → lv_has ls 9 [(6, .int L6_129), (5, .int L5_129), (4, .int 2), (0, .ref mh), (1, .int p0), (2, .int p1), (3, .int p2)] → W p l e (headSpec (wl yX9_deal cX9_deal 9 (some .int)) (RM 1 0 0)).room s m [Value.ref mh, .int p0, .int p1, .int p2].toArray below meth c H locs 0 0 (MQ below (va_Qi (fun (r : Int32) (u : (Nat → Int32) × (Nat → Int32) × (Nat → Int32) × (Nat → Int32) × (Int32) × (Int32)) => (∀ k : Nat, k < 9 → 0 ≤ (u.2.1 k).toInt ∧ (u.2.1 k).toInt ≤ 3) ∧ (0 ≤ u.2.2.2.2.1.toInt ∧ u.2.2.2.2.1.toInt ≤ 9) ∧ (0 ≤ u.2.2.2.2.2.toInt ∧ u.2.2.2.2.2.toInt ≤ 9) ∧ ((¬ ((1 ≤ p0.toInt ∧ p0.toInt ≤ 400) ∧ (0 ≤ p1.toInt ∧ p1.toInt ≤ 400) ∧ (0 ≤ p2.toInt ∧ p2.toInt ≤ 400) ∧ ¬ (p1.toInt = 0 ∧ p2.toInt ≠ 0)) ∧ r.toInt = -1 ∧ u.2.2.2.2.2.toInt = mlisted.toInt) ∨ (((1 ≤ p0.toInt ∧ p0.toInt ≤ 400) ∧ (0 ≤ p1.toInt ∧ p1.toInt ≤ 400) ∧ (0 ≤ p2.toInt ∧ p2.toInt ≤ 400) ∧ ¬ (p1.toInt = 0 ∧ p2.toInt ≠ 0)) ∧ ((p1.toInt = 0 ∧ mlisted.toInt < 3) ∨ (p1.toInt ≠ 0 ∧ p2.toInt = 0 ∧ mlisted.toInt < 6) ∨ (p1.toInt ≠ 0 ∧ p2.toInt ≠ 0 ∧ mlisted.toInt < 9)) ∧ r.toInt = -4 ∧ u.2.2.2.2.2.toInt = mlisted.toInt) ∨ (((1 ≤ p0.toInt ∧ p0.toInt ≤ 400) ∧ (0 ≤ p1.toInt ∧ p1.toInt ≤ 400) ∧ (0 ≤ p2.toInt ∧ p2.toInt ≤ 400) ∧ ¬ (p1.toInt = 0 ∧ p2.toInt ≠ 0)) ∧ ¬ ((p1.toInt = 0 ∧ mlisted.toInt < 3) ∨ (p1.toInt ≠ 0 ∧ p2.toInt = 0 ∧ mlisted.toInt < 6) ∨ (p1.toInt ≠ 0 ∧ p2.toInt ≠ 0 ∧ mlisted.toInt < 9)) ∧ u.2.2.2.2.2.toInt = 0))) (mu_B D A (fun (u : (Nat → Int32) × (Nat → Int32) × (Nat → Int32) × (Nat → Int32) × (Int32) × (Int32)) => [(mh, .inr (9, G9 ma mcode mtoday moffs mmany msumW msumA msumR msumWW msumWA msumAA msumWR msumAR mupper mlower mrates mtaped mlaid mat mtk mtkAt mtkNumber mwaits u.2.2.2.2.2 u.2.2.2.2.1)), ((ma 62), .inl (E 0, 9, .inl mf62)), ((ma 63), .inl (E 0, 9, .inl u.1)), ((ma 65), .inl (E 0, 9, .inl u.2.1)), ((ma 66), .inl (E 0, 3, .inl u.2.2.1)), ((ma 67), .inl (E 0, 3, .inl u.2.2.2.1))])) A) [Value.ref mh, .int p0, .int p1, .int p2].toArray s 0 0 A) (F0 m 129 ls []) := by
                      intro N_135
                      induction N_135 with
                      | zero => intro L6_129 mf67_129 mf65_129 L5_129 mf63_129 H locs ls hm v_mf65_129 v0_129 _ _ _ _; exfalso; omega
                      | succ N_135 ih_134 =>
                        intro L6_129 mf67_129 mf65_129 L5_129 mf63_129 H locs ls hm v_mf65_129 v0_129 hP hD hS hl
                        have lo_L6_129 := i_lo L6_129; have hi_L6_129 := i_hi L6_129
                        have lo_L5_129 := i_lo L5_129; have hi_L5_129 := i_hi L5_129
                        refine lv_iload hx hb dX9_deal_129 (lv_at hl 0 rfl) ?_
                        refine lv_if_eq (tgt := 319) hx hb dX9_deal_131 (by decide) (fun c_136 => ?_) (fun c_136 => ?_)
                        ·
                          have ic_136 : L6_129.toInt = 0 := (g_eq rfl t_0).mp c_136
                          clear c_136
                          refine lv_aload_n hx hb dX9_deal_319 rfl (lv_at hl 3 rfl) ?_
                          refine lv_aload_n hx hb dX9_deal_320 rfl (lv_at hl 3 rfl) ?_
                          refine va_get (D := D) (ci := 9) (v := .int mlisted) (C := RX9) (T := TX9) (N := 68) hx hb htb iX9 hown hK.1 hP 0 rfl rfl 61 (by decide) (htb _ k_1019) (fun _ h9 => h9) rfl dX9_deal_321 ?_
                          refine va_put (D := D) (ci := 9) (v := .int mlisted) (ty := .int) (C := RX9) (T := TX9) (N := 68) hx hb htb iX9 tyX9 tyX9_ok nmX9 hown hK.1 hP hD hS 0 rfl rfl 64 (by decide) (htb _ k_1022) (fun _ h9 => h9) rfl (by decide +kernel) rfl rfl (Nat.le_of_ble_eq_true rfl) dX9_deal_324 (fun H locs hP hD hS => ?_)
                          have hP : va_P D vwCl [(mh, .inr (9, G9 ma mcode mtoday moffs mmany msumW msumA msumR msumWW msumWA msumAA msumWR msumAR mupper mlower mrates mtaped mlaid mat mtk mtkAt mtkNumber mwaits mlisted mlisted)), ((ma 62), .inl (E 0, 9, .inl mf62)), ((ma 63), .inl (E 0, 9, .inl mf63_129)), ((ma 65), .inl (E 0, 9, .inl mf65_129)), ((ma 66), .inl (E 0, 3, .inl (upd g_128 (2 : Int32).toNatClampNeg p2))), ((ma 67), .inl (E 0, 3, .inl mf67_129))] H := hP
                          have hD := toW hP hD rfl
                          refine lv_aload_n hx hb dX9_deal_327 rfl (lv_at hl 3 rfl) ?_
                          refine lv_iconst (v := 0) hx hb dX9_deal_328 (by decide) ?_
                          refine va_put (D := D) (ci := 9) (v := .int 0) (ty := .int) (C := RX9) (T := TX9) (N := 68) hx hb htb iX9 tyX9 tyX9_ok nmX9 hown hK.1 hP hD hS 0 rfl rfl 61 (by decide) (htb _ k_1019) (fun _ h9 => h9) rfl (by decide +kernel) rfl rfl (Nat.le_of_ble_eq_true rfl) dX9_deal_329 (fun H locs hP hD hS => ?_)
                          have hP : va_P D vwCl [(mh, .inr (9, G9 ma mcode mtoday moffs mmany msumW msumA msumR msumWW msumWA msumAA msumWR msumAR mupper mlower mrates mtaped mlaid mat mtk mtkAt mtkNumber mwaits 0 mlisted)), ((ma 62), .inl (E 0, 9, .inl mf62)), ((ma 63), .inl (E 0, 9, .inl mf63_129)), ((ma 65), .inl (E 0, 9, .inl mf65_129)), ((ma 66), .inl (E 0, 3, .inl (upd g_128 (2 : Int32).toNatClampNeg p2))), ((ma 67), .inl (E 0, 3, .inl mf67_129))] H := hP
                          have hD := toW hP hD rfl
                          refine lv_iload hx hb dX9_deal_332 (lv_at hl 1 rfl) ?_
                          have hP9 := hP.sub (ws' := [(mh, .inr (9, G9 ma mcode mtoday moffs mmany msumW msumA msumR msumWW msumWA msumAA msumWR msumAR mupper mlower mrates mtaped mlaid mat mtk mtkAt mtkNumber mwaits 0 mlisted)), ((ma 62), .inl (E 0, 9, .inl mf62)), ((ma 63), .inl (E 0, 9, .inl mf63_129)), ((ma 65), .inl (E 0, 9, .inl mf65_129)), ((ma 66), .inl (E 0, 3, .inl (upd g_128 (2 : Int32).toNatClampNeg p2))), ((ma 67), .inl (E 0, 3, .inl mf67_129))]) [0, 1, 2, 3, 4, 5] rfl
                          have hD9 := hD.sub (ws' := [(mh, .inr (9, G9 ma mcode mtoday moffs mmany msumW msumA msumR msumWW msumWA msumAA msumWR msumAR mupper mlower mrates mtaped mlaid mat mtk mtkAt mtkNumber mwaits 0 mlisted)), ((ma 62), .inl (E 0, 9, .inl mf62)), ((ma 63), .inl (E 0, 9, .inl mf63_129)), ((ma 65), .inl (E 0, 9, .inl mf65_129)), ((ma 66), .inl (E 0, 3, .inl (upd g_128 (2 : Int32).toNatClampNeg p2))), ((ma 67), .inl (E 0, 3, .inl mf67_129))]) [0, 1, 2, 3, 4, 5] (by decide) rfl
                          exact W.iret (v := L5_129) hx hb hr (fun t ht hW => ⟨⟨L5_129, (mf63_129, mf65_129, (upd g_128 (2 : Int32).toNatClampNeg p2), mf67_129, mlisted, (0 : Int32)), rfl, ⟨v_mf65_129, (by (try dsimp only); omega), (by have h0 := t_0; (try dsimp only); omega), (by have h0 := t_0; (try dsimp only); omega)⟩, by rw [ht]; exact hP9, hD9⟩, hS.F ht⟩) hS.2.2 dX9_deal_334
                        ·
                          have ic_136 : L6_129.toInt ≠ 0 := mt (g_eq rfl t_0).mpr c_136
                          clear c_136
                          refine lv_aload_n hx hb dX9_deal_134 rfl (lv_at hl 3 rfl) ?_
                          refine lv_iload hx hb dX9_deal_135 (lv_at hl 2 rfl) ?_
                          have hPc := hP.sub (ws' := [(mh, .inr (9, G9 ma mcode mtoday moffs mmany msumW msumA msumR msumWW msumWA msumAA msumWR msumAR mupper mlower mrates mtaped mlaid mat mtk mtkAt mtkNumber mwaits mlisted mdealtMany)), ((ma 65), .inl (E 0, 9, .inl mf65_129)), ((ma 67), .inl (E 0, 3, .inl mf67_129))]) [0, 3, 5] rfl
                          have hDc := hD.sub (ws' := [(mh, .inr (9, G9 ma mcode mtoday moffs mmany msumW msumA msumR msumWW msumWA msumAA msumWR msumAR mupper mlower mrates mtaped mlaid mat mtk mtkAt mtkNumber mwaits mlisted mdealtMany)), ((ma 65), .inl (E 0, 9, .inl mf65_129)), ((ma 67), .inl (E 0, 3, .inl mf67_129))]) [0, 3, 5] (by decide) rfl
                          refine aft_i (runMV (rest := []) (As := [.int 2]) hx hb hml hown htb hK (g_X9_isWay l D E mh ma mcode mtoday moffs mmany msumW msumA msumR msumWW msumWA msumAA msumWR msumAR mupper mlower mrates mtaped mlaid mat mtk mtkAt mtkNumber mwaits mlisted mdealtMany mf65_129 mf67_129 2 _ (by (try dsimp only); omega) v_mf65_129 (by have h0 := t_2; (try dsimp only); omega)) ok_X9_isWay k_1464 k_1466 ks_65 k_9 k_1467 ⟨(Nat.le_of_ble_eq_true rfl), (Nat.le_of_ble_eq_true rfl)⟩ ⟨(Nat.le_of_ble_eq_true rfl), (Nat.le_of_ble_eq_true rfl)⟩ hl.1 (Nat.le_of_ble_eq_true rfl) rfl rfl dX9_deal_137 hPc hDc rfl rfl 0 rfl) hP hD hS hA [0, 3, 5] [1, 2, 4] (wr := [((ma 62), .inl (E 0, 9, .inl mf62)), ((ma 63), .inl (E 0, 9, .inl mf63_129)), ((ma 66), .inl (E 0, 3, .inl (upd g_128 (2 : Int32).toNatClampNeg p2)))]) rfl rfl (by decide) (by decide) (fun r_137 u_139 H locs hw_138 hP hD hS => ?_)
                          clear hPc hDc
                          have hP : va_P D vwCl [((ma 62), .inl (E 0, 9, .inl mf62)), ((ma 63), .inl (E 0, 9, .inl mf63_129)), ((ma 66), .inl (E 0, 3, .inl (upd g_128 (2 : Int32).toNatClampNeg p2))), (mh, .inr (9, G9 ma mcode mtoday moffs mmany msumW msumA msumR msumWW msumWA msumAA msumWR msumAR mupper mlower mrates mtaped mlaid mat mtk mtkAt mtkNumber mwaits mlisted mdealtMany)), ((ma 65), .inl (E 0, 9, .inl mf65_129)), ((ma 67), .inl (E 0, 3, .inl u_139))] H := hP
                          have hD := toW hP hD rfl
                          refine lv_if_eq (tgt := 250) hx hb dX9_deal_140 (by decide) (fun c_140 => ?_) (fun c_140 => ?_)
                          ·
                            have ic_140 : r_137.toInt = 0 := (g_eq rfl t_0).mp c_140
                            clear c_140
                            refine lv_aload_n hx hb dX9_deal_250 rfl (lv_at hl 3 rfl) ?_
                            refine va_get (D := D) (ci := 9) (v := .int mlisted) (C := RX9) (T := TX9) (N := 68) hx hb htb iX9 hown hK.1 hP 3 rfl rfl 61 (by decide) (htb _ k_1019) (fun _ h9 => h9) rfl dX9_deal_251 ?_
                            refine lv_iconst (v := 1) hx hb dX9_deal_254 (by decide) ?_
                            refine lv_isub hx hb dX9_deal_255 ?_
                            refine lv_topi (fun z_141 ez_141 => ?_)
                            have jz_141 : z_141.toInt = mlisted.toInt - 1 := by rw [ez_141]; exact g_sub rfl t_1 (by omega) (by omega)
                            refine lv_istore (lv' := [(7, .int z_141), (6, .int L6_129), (5, .int L5_129), (4, .int 2), (0, .ref mh), (1, .int p0), (2, .int p1), (3, .int p2)]) hx hb dX9_deal_256 hl (by decide) rfl (fun ls hl => ?_)
                            have loop_142 : ∀ (N_144 : Nat) (L7_258 : Int32) (mf65_258 : Nat → Int32) (H : Heap) (locs : List Loc) (ls : Array Slot), L7_258.toInt + 1 < (N_144 : Int) → (∀ k : Nat, k < 9 → 0 ≤ (mf65_258 k).toInt ∧ (mf65_258 k).toInt ≤ 3) → (-1 ≤ L7_258.toInt ∧ L7_258.toInt < mlisted.toInt) → (val4 mf65_258 (mlisted).toNatClampNeg + 4 ^ (mlisted.toInt - 1 - L7_258.toInt).toNat = val4 mf65_129 (mlisted).toNatClampNeg + 1) → va_P D vwCl [((ma 62), .inl (E 0, 9, .inl mf62)), ((ma 63), .inl (E 0, 9, .inl mf63_129)), ((ma 66), .inl (E 0, 3, .inl (upd g_128 (2 : Int32).toNatClampNeg p2))), (mh, .inr (9, G9 ma mcode mtoday moffs mmany msumW msumA msumR msumWW msumWA msumAA msumWR msumAR mupper mlower mrates mtaped mlaid mat mtk mtkAt mtkNumber mwaits mlisted mdealtMany)), ((ma 65), .inl (E 0, 9, .inl mf65_258)), ((ma 67), .inl (E 0, 3, .inl u_139))] H → va_D A [((ma 62), .inl (E 0, 9, .inl mf62)), ((ma 63), .inl (E 0, 9, .inl mf63_129)), ((ma 66), .inl (E 0, 3, .inl (upd g_128 (2 : Int32).toNatClampNeg p2))), (mh, .inr (9, G9 ma mcode mtoday moffs mmany msumW msumA msumR msumWW msumWA msumAA msumWR msumAR mupper mlower mrates mtaped mlaid mat mtk mtkAt mtkNumber mwaits mlisted mdealtMany)), ((ma 65), .inl (E 0, 9, .inl mf65_258)), ((ma 67), .inl (E 0, 3, .inl u_139))] → va_S A s.heap H locs → lv_has ls 9 [(7, .int L7_258), (6, .int L6_129), (5, .int L5_129), (4, .int 2), (0, .ref mh), (1, .int p0), (2, .int p1), (3, .int p2)] → W p l e (headSpec (wl yX9_deal cX9_deal 9 (some .int)) (RM 1 0 0)).room s m [Value.ref mh, .int p0, .int p1, .int p2].toArray below meth c H locs 0 0 (MQ below (va_Qi (fun (r : Int32) (u : (Nat → Int32) × (Nat → Int32) × (Nat → Int32) × (Nat → Int32) × (Int32) × (Int32)) => (∀ k : Nat, k < 9 → 0 ≤ (u.2.1 k).toInt ∧ (u.2.1 k).toInt ≤ 3) ∧ (0 ≤ u.2.2.2.2.1.toInt ∧ u.2.2.2.2.1.toInt ≤ 9) ∧ (0 ≤ u.2.2.2.2.2.toInt ∧ u.2.2.2.2.2.toInt ≤ 9) ∧ ((¬ ((1 ≤ p0.toInt ∧ p0.toInt ≤ 400) ∧ (0 ≤ p1.toInt ∧ p1.toInt ≤ 400) ∧ (0 ≤ p2.toInt ∧ p2.toInt ≤ 400) ∧ ¬ (p1.toInt = 0 ∧ p2.toInt ≠ 0)) ∧ r.toInt = -1 ∧ u.2.2.2.2.2.toInt = mlisted.toInt) ∨ (((1 ≤ p0.toInt ∧ p0.toInt ≤ 400) ∧ (0 ≤ p1.toInt ∧ p1.toInt ≤ 400) ∧ (0 ≤ p2.toInt ∧ p2.toInt ≤ 400) ∧ ¬ (p1.toInt = 0 ∧ p2.toInt ≠ 0)) ∧ ((p1.toInt = 0 ∧ mlisted.toInt < 3) ∨ (p1.toInt ≠ 0 ∧ p2.toInt = 0 ∧ mlisted.toInt < 6) ∨ (p1.toInt ≠ 0 ∧ p2.toInt ≠ 0 ∧ mlisted.toInt < 9)) ∧ r.toInt = -4 ∧ u.2.2.2.2.2.toInt = mlisted.toInt) ∨ (((1 ≤ p0.toInt ∧ p0.toInt ≤ 400) ∧ (0 ≤ p1.toInt ∧ p1.toInt ≤ 400) ∧ (0 ≤ p2.toInt ∧ p2.toInt ≤ 400) ∧ ¬ (p1.toInt = 0 ∧ p2.toInt ≠ 0)) ∧ ¬ ((p1.toInt = 0 ∧ mlisted.toInt < 3) ∨ (p1.toInt ≠ 0 ∧ p2.toInt = 0 ∧ mlisted.toInt < 6) ∨ (p1.toInt ≠ 0 ∧ p2.toInt ≠ 0 ∧ mlisted.toInt < 9)) ∧ u.2.2.2.2.2.toInt = 0))) (mu_B D A (fun (u : (Nat → Int32) × (Nat → Int32) × (Nat → Int32) × (Nat → Int32) × (Int32) × (Int32)) => [(mh, .inr (9, G9 ma mcode mtoday moffs mmany msumW msumA msumR msumWW msumWA msumAA msumWR msumAR mupper mlower mrates mtaped mlaid mat mtk mtkAt mtkNumber mwaits u.2.2.2.2.2 u.2.2.2.2.1)), ((ma 62), .inl (E 0, 9, .inl mf62)), ((ma 63), .inl (E 0, 9, .inl u.1)), ((ma 65), .inl (E 0, 9, .inl u.2.1)), ((ma 66), .inl (E 0, 3, .inl u.2.2.1)), ((ma 67), .inl (E 0, 3, .inl u.2.2.2.1))])) A) [Value.ref mh, .int p0, .int p1, .int p2].toArray s 0 0 A) (F0 m 258 ls []) := by
                              intro N_144
                              induction N_144 with
                              | zero => intro L7_258 mf65_258 H locs ls hm v_mf65_258 v0_258 v1_258 _ _ _ _; exfalso; omega
                              | succ N_144 ih_143 =>
                                intro L7_258 mf65_258 H locs ls hm v_mf65_258 v0_258 v1_258 hP hD hS hl
                                have lo_L7_258 := i_lo L7_258; have hi_L7_258 := i_hi L7_258
                                refine lv_iload hx hb dX9_deal_258 (lv_at hl 0 rfl) ?_
                                refine lv_if_lt (tgt := 288) hx hb dX9_deal_260 (by decide) (fun c_145 => ?_) (fun c_145 => ?_)
                                ·
                                  have ic_145 : L7_258.toInt < 0 := by first | exact (g_lt rfl t_0).mp c_145 | (have h := mt (g_le t_0 rfl).mpr c_145; omega)
                                  clear c_145
                                  refine lv_iload hx hb dX9_deal_288 (lv_at hl 0 rfl) ?_
                                  refine lv_if_lt (tgt := 297) hx hb dX9_deal_290 (by decide) (fun c_146 => ?_) (fun c_146 => absurd (by rw [g_lt rfl t_0]; omega) c_146)
                                  refine lv_iconst (v := 0) hx hb dX9_deal_297 (by decide) ?_
                                  refine lv_istore (lv' := [(6, .int 0), (7, .int L7_258), (5, .int L5_129), (4, .int 2), (0, .ref mh), (1, .int p0), (2, .int p1), (3, .int p2)]) hx hb dX9_deal_298 hl (by decide) rfl (fun ls hl => ?_)
                                  refine lv_iload hx hb dX9_deal_300 (lv_at hl 0 rfl) ?_
                                  refine lv_if_eq (tgt := 316) hx hb dX9_deal_302 (by decide) (fun c_147 => ?_) (fun c_147 => absurd (by decide) c_147)
                                  refine lv_goto (tgt := 129) hx hb dX9_deal_316 (by decide) ?_
                                  have hP := hP.sub (ws' := [(mh, .inr (9, G9 ma mcode mtoday moffs mmany msumW msumA msumR msumWW msumWA msumAA msumWR msumAR mupper mlower mrates mtaped mlaid mat mtk mtkAt mtkNumber mwaits mlisted mdealtMany)), ((ma 62), .inl (E 0, 9, .inl mf62)), ((ma 63), .inl (E 0, 9, .inl mf63_129)), ((ma 65), .inl (E 0, 9, .inl mf65_258)), ((ma 66), .inl (E 0, 3, .inl (upd g_128 (2 : Int32).toNatClampNeg p2))), ((ma 67), .inl (E 0, 3, .inl u_139))]) [3, 0, 1, 4, 2, 5] rfl
                                  have hD := hD.sub (ws' := [(mh, .inr (9, G9 ma mcode mtoday moffs mmany msumW msumA msumR msumWW msumWA msumAA msumWR msumAR mupper mlower mrates mtaped mlaid mat mtk mtkAt mtkNumber mwaits mlisted mdealtMany)), ((ma 62), .inl (E 0, 9, .inl mf62)), ((ma 63), .inl (E 0, 9, .inl mf63_129)), ((ma 65), .inl (E 0, 9, .inl mf65_258)), ((ma 66), .inl (E 0, 3, .inl (upd g_128 (2 : Int32).toNatClampNeg p2))), ((ma 67), .inl (E 0, 3, .inl u_139))]) [3, 0, 1, 4, 2, 5] (by decide) rfl
                                  exact ih_134 0 u_139 mf65_258 L5_129 mf63_129 _ _ _ (by have h := carry_e (n := mlisted) (i := L7_258) (by omega) (by omega) (by omega) v_mf65_258 v_mf65_129 v1_258; have h1 := t_0; omega) v_mf65_258 (by have h := carry_e (n := mlisted) (i := L7_258) (by omega) (by omega) (by omega) v_mf65_258 v_mf65_129 v1_258; have h1 := t_0; omega) hP hD hS (lv_sub hl [0, 2, 3, 4, 5, 6, 7] rfl)
                                ·
                                  have ic_145 : 0 ≤ L7_258.toInt := by first | exact (g_le t_0 rfl).mp c_145 | (have h := mt (g_lt rfl t_0).mpr c_145; omega)
                                  clear c_145
                                  refine lv_aload_n hx hb dX9_deal_263 rfl (lv_at hl 4 rfl) ?_
                                  refine va_get (D := D) (ci := 9) (v := .ref (ma 65)) (C := RX9) (T := TX9) (N := 68) hx hb htb iX9 hown hK.1 hP 3 rfl rfl 65 (by decide) (htb _ k_1023) (fun _ h9 => h9) rfl dX9_deal_264 ?_
                                  refine lv_iload hx hb dX9_deal_267 (lv_at hl 0 rfl) ?_
                                  refine va_iald hx hb hK.1 hP 4 0 rfl rfl (g_in rfl (by omega) (by omega)) dX9_deal_269 ?_
                                  refine lv_topi (fun z_148 ez_148 => ?_)
                                  have kz_148 := congrArg Int32.toInt ez_148
                                  have jz_148 : 0 ≤ z_148.toInt ∧ z_148.toInt ≤ 3 := by rw [ez_148]; exact v_mf65_258 _ (g_ix rfl (by omega) (by omega))
                                  refine lv_iconst (v := 3) hx hb dX9_deal_270 (by decide) ?_
                                  refine lv_icmp_ne (tgt := 288) hx hb dX9_deal_271 (by decide) (fun c_149 => ?_) (fun c_149 => ?_)
                                  ·
                                    have ic_149 : z_148.toInt ≠ 3 := mt (g_eq rfl t_3).mpr c_149
                                    clear c_149
                                    refine lv_iload hx hb dX9_deal_288 (lv_at hl 0 rfl) ?_
                                    refine lv_if_lt (tgt := 297) hx hb dX9_deal_290 (by decide) (fun c_150 => absurd c_150 (by rw [g_lt rfl t_0]; omega)) (fun c_150 => ?_)
                                    refine lv_iconst (v := 1) hx hb dX9_deal_293 (by decide) ?_
                                    refine lv_goto (tgt := 298) hx hb dX9_deal_294 (by decide) ?_
                                    refine lv_istore (lv' := [(6, .int 1), (7, .int L7_258), (5, .int L5_129), (4, .int 2), (0, .ref mh), (1, .int p0), (2, .int p1), (3, .int p2)]) hx hb dX9_deal_298 hl (by decide) rfl (fun ls hl => ?_)
                                    refine lv_iload hx hb dX9_deal_300 (lv_at hl 0 rfl) ?_
                                    refine lv_if_eq (tgt := 316) hx hb dX9_deal_302 (by decide) (fun c_151 => absurd c_151 (by decide)) (fun c_151 => ?_)
                                    refine lv_aload_n hx hb dX9_deal_305 rfl (lv_at hl 4 rfl) ?_
                                    refine va_get (D := D) (ci := 9) (v := .ref (ma 65)) (C := RX9) (T := TX9) (N := 68) hx hb htb iX9 hown hK.1 hP 3 rfl rfl 65 (by decide) (htb _ k_1023) (fun _ h9 => h9) rfl dX9_deal_306 ?_
                                    refine lv_iload hx hb dX9_deal_309 (lv_at hl 1 rfl) ?_
                                    refine lv_dup2_11 hx hb dX9_deal_311 rfl rfl ?_
                                    refine va_iald hx hb hK.1 hP 4 0 rfl rfl (g_in rfl (by omega) (by omega)) dX9_deal_312 ?_
                                    refine lv_topi (fun z_152 ez_152 => ?_)
                                    have kz_152 := congrArg Int32.toInt ez_152
                                    have jz_152 : 0 ≤ z_152.toInt ∧ z_152.toInt ≤ 3 := by rw [ez_152]; exact v_mf65_258 _ (g_ix rfl (by omega) (by omega))
                                    refine lv_iconst (v := 1) hx hb dX9_deal_313 (by decide) ?_
                                    refine lv_iadd hx hb dX9_deal_314 ?_
                                    refine lv_topi (fun z_153 ez_153 => ?_)
                                    have jz_153 : z_153.toInt = z_152.toInt + 1 := by rw [ez_153]; exact g_add rfl t_1 (by omega) (by omega)
                                    refine va_iast hx hb hK.1 hP hD hS 4 0 rfl rfl (g_in rfl (by omega) (by omega)) dX9_deal_315 (fun H locs hP hD hS => ?_)
                                    have hP : va_P D vwCl [((ma 62), .inl (E 0, 9, .inl mf62)), ((ma 63), .inl (E 0, 9, .inl mf63_129)), ((ma 66), .inl (E 0, 3, .inl (upd g_128 (2 : Int32).toNatClampNeg p2))), (mh, .inr (9, G9 ma mcode mtoday moffs mmany msumW msumA msumR msumWW msumWA msumAA msumWR msumAR mupper mlower mrates mtaped mlaid mat mtk mtkAt mtkNumber mwaits mlisted mdealtMany)), ((ma 65), .inl (E 0, 9, .inl (upd mf65_258 (L7_258 : Int32).toNatClampNeg z_153))), ((ma 67), .inl (E 0, 3, .inl u_139))] H := hP
                                    have hD := toW hP hD rfl
                                    have hv_154 : ∀ k : Nat, k < 9 → 0 ≤ ((upd mf65_258 (L7_258 : Int32).toNatClampNeg z_153) k).toInt ∧ ((upd mf65_258 (L7_258 : Int32).toNatClampNeg z_153) k).toInt ≤ 3 := upd_r v_mf65_258 (by (try dsimp only); omega)
                                    refine lv_goto (tgt := 129) hx hb dX9_deal_316 (by decide) ?_
                                    have hP := hP.sub (ws' := [(mh, .inr (9, G9 ma mcode mtoday moffs mmany msumW msumA msumR msumWW msumWA msumAA msumWR msumAR mupper mlower mrates mtaped mlaid mat mtk mtkAt mtkNumber mwaits mlisted mdealtMany)), ((ma 62), .inl (E 0, 9, .inl mf62)), ((ma 63), .inl (E 0, 9, .inl mf63_129)), ((ma 65), .inl (E 0, 9, .inl (upd mf65_258 (L7_258 : Int32).toNatClampNeg z_153))), ((ma 66), .inl (E 0, 3, .inl (upd g_128 (2 : Int32).toNatClampNeg p2))), ((ma 67), .inl (E 0, 3, .inl u_139))]) [3, 0, 1, 4, 2, 5] rfl
                                    have hD := hD.sub (ws' := [(mh, .inr (9, G9 ma mcode mtoday moffs mmany msumW msumA msumR msumWW msumWA msumAA msumWR msumAR mupper mlower mrates mtaped mlaid mat mtk mtkAt mtkNumber mwaits mlisted mdealtMany)), ((ma 62), .inl (E 0, 9, .inl mf62)), ((ma 63), .inl (E 0, 9, .inl mf63_129)), ((ma 65), .inl (E 0, 9, .inl (upd mf65_258 (L7_258 : Int32).toNatClampNeg z_153))), ((ma 66), .inl (E 0, 3, .inl (upd g_128 (2 : Int32).toNatClampNeg p2))), ((ma 67), .inl (E 0, 3, .inl u_139))]) [3, 0, 1, 4, 2, 5] (by decide) rfl
                                    exact ih_134 1 u_139 (upd mf65_258 (L7_258 : Int32).toNatClampNeg z_153) L5_129 mf63_129 _ _ _ (by have hc := carry_1 (n := mlisted) (i := L7_258) (by omega) (by omega) ez_152 jz_153 v1_258; have h := val4_max (n := mlisted) hv_154 (by omega) (by omega); have h1 := t_1; omega) hv_154 (by have hc := carry_1 (n := mlisted) (i := L7_258) (by omega) (by omega) ez_152 jz_153 v1_258; have h := val4_max (n := mlisted) hv_154 (by omega) (by omega); have h1 := t_1; omega) hP hD hS (lv_sub hl [0, 2, 3, 4, 5, 6, 7] rfl)
                                  ·
                                    have ic_149 : z_148.toInt = 3 := (g_eq rfl t_3).mp c_149
                                    clear c_149
                                    refine lv_aload_n hx hb dX9_deal_274 rfl (lv_at hl 4 rfl) ?_
                                    refine va_get (D := D) (ci := 9) (v := .ref (ma 65)) (C := RX9) (T := TX9) (N := 68) hx hb htb iX9 hown hK.1 hP 3 rfl rfl 65 (by decide) (htb _ k_1023) (fun _ h9 => h9) rfl dX9_deal_275 ?_
                                    refine lv_iload hx hb dX9_deal_278 (lv_at hl 0 rfl) ?_
                                    refine lv_iconst (v := 0) hx hb dX9_deal_280 (by decide) ?_
                                    refine va_iast hx hb hK.1 hP hD hS 4 0 rfl rfl (g_in rfl (by omega) (by omega)) dX9_deal_281 (fun H locs hP hD hS => ?_)
                                    have hP : va_P D vwCl [((ma 62), .inl (E 0, 9, .inl mf62)), ((ma 63), .inl (E 0, 9, .inl mf63_129)), ((ma 66), .inl (E 0, 3, .inl (upd g_128 (2 : Int32).toNatClampNeg p2))), (mh, .inr (9, G9 ma mcode mtoday moffs mmany msumW msumA msumR msumWW msumWA msumAA msumWR msumAR mupper mlower mrates mtaped mlaid mat mtk mtkAt mtkNumber mwaits mlisted mdealtMany)), ((ma 65), .inl (E 0, 9, .inl (upd mf65_258 (L7_258 : Int32).toNatClampNeg 0))), ((ma 67), .inl (E 0, 3, .inl u_139))] H := hP
                                    have hD := toW hP hD rfl
                                    have hv_155 : ∀ k : Nat, k < 9 → 0 ≤ ((upd mf65_258 (L7_258 : Int32).toNatClampNeg 0) k).toInt ∧ ((upd mf65_258 (L7_258 : Int32).toNatClampNeg 0) k).toInt ≤ 3 := upd_r v_mf65_258 (by decide)
                                    obtain ⟨z_156, ez_156⟩ : ∃ y : Int32, y = L7_258 + (-1) := ⟨_, rfl⟩
                                    have jz_156 : z_156.toInt = L7_258.toInt + -1 := by rw [ez_156]; exact g_add rfl t_m1 (by omega) (by omega)
                                    refine lv_iinc (v := z_156) (lv' := [(7, .int z_156), (6, .int L6_129), (5, .int L5_129), (4, .int 2), (0, .ref mh), (1, .int p0), (2, .int p1), (3, .int p2)]) hx hb dX9_deal_282 hl (k := 0) rfl (by rw [ez_156]; rfl) (by decide) rfl (fun ls hl => ?_)
                                    refine lv_goto (tgt := 258) hx hb dX9_deal_285 (by decide) ?_
                                    exact ih_143 z_156 (upd mf65_258 (L7_258 : Int32).toNatClampNeg 0) _ _ _ (by have h0 := t_2; (try dsimp only); omega) hv_155 (by have h0 := t_2; (try dsimp only); omega) (carry_0 (by omega) (by omega) (by omega) ez_148 (by omega) v1_258) hP hD hS (lv_sub hl [0, 1, 2, 3, 4, 5, 6, 7] rfl)
                            exact loop_142 10 z_141 mf65_129 _ _ _ (by have h0 := t_2; (try dsimp only); omega) v_mf65_129 (by have h0 := t_2; (try dsimp only); omega) (carry_s (by omega)) hP hD hS (lv_sub hl [0, 1, 2, 3, 4, 5, 6, 7] rfl)
                          ·
                            have ic_140 : r_137.toInt ≠ 0 := mt (g_eq rfl t_0).mpr c_140
                            clear c_140
                            refine lv_iconst (v := 0) hx hb dX9_deal_143 (by decide) ?_
                            refine lv_istore (lv' := [(7, .int 0), (6, .int L6_129), (5, .int L5_129), (4, .int 2), (0, .ref mh), (1, .int p0), (2, .int p1), (3, .int p2)]) hx hb dX9_deal_144 hl (by decide) rfl (fun ls hl => ?_)
                            refine lv_iconst (v := 0) hx hb dX9_deal_146 (by decide) ?_
                            refine lv_istore (lv' := [(8, .int 0), (7, .int 0), (6, .int L6_129), (5, .int L5_129), (4, .int 2), (0, .ref mh), (1, .int p0), (2, .int p1), (3, .int p2)]) hx hb dX9_deal_147 hl (by decide) rfl (fun ls hl => ?_)
                            have loop_157 : ∀ (N_159 : Nat) (L8_149 : Int32) (L7_149 : Int32) (H : Heap) (locs : List Loc) (ls : Array Slot), (2 : Int32).toInt - L8_149.toInt < (N_159 : Int) → (0 ≤ L8_149.toInt ∧ L8_149.toInt ≤ (2 : Int32).toInt) → va_P D vwCl [((ma 62), .inl (E 0, 9, .inl mf62)), ((ma 63), .inl (E 0, 9, .inl mf63_129)), ((ma 66), .inl (E 0, 3, .inl (upd g_128 (2 : Int32).toNatClampNeg p2))), (mh, .inr (9, G9 ma mcode mtoday moffs mmany msumW msumA msumR msumWW msumWA msumAA msumWR msumAR mupper mlower mrates mtaped mlaid mat mtk mtkAt mtkNumber mwaits mlisted mdealtMany)), ((ma 65), .inl (E 0, 9, .inl mf65_129)), ((ma 67), .inl (E 0, 3, .inl u_139))] H → va_D A [((ma 62), .inl (E 0, 9, .inl mf62)), ((ma 63), .inl (E 0, 9, .inl mf63_129)), ((ma 66), .inl (E 0, 3, .inl (upd g_128 (2 : Int32).toNatClampNeg p2))), (mh, .inr (9, G9 ma mcode mtoday moffs mmany msumW msumA msumR msumWW msumWA msumAA msumWR msumAR mupper mlower mrates mtaped mlaid mat mtk mtkAt mtkNumber mwaits mlisted mdealtMany)), ((ma 65), .inl (E 0, 9, .inl mf65_129)), ((ma 67), .inl (E 0, 3, .inl u_139))] → va_S A s.heap H locs → lv_has ls 9 [(8, .int L8_149), (7, .int L7_149), (6, .int L6_129), (5, .int L5_129), (4, .int 2), (0, .ref mh), (1, .int p0), (2, .int p1), (3, .int p2)] → W p l e (headSpec (wl yX9_deal cX9_deal 9 (some .int)) (RM 1 0 0)).room s m [Value.ref mh, .int p0, .int p1, .int p2].toArray below meth c H locs 0 0 (MQ below (va_Qi (fun (r : Int32) (u : (Nat → Int32) × (Nat → Int32) × (Nat → Int32) × (Nat → Int32) × (Int32) × (Int32)) => (∀ k : Nat, k < 9 → 0 ≤ (u.2.1 k).toInt ∧ (u.2.1 k).toInt ≤ 3) ∧ (0 ≤ u.2.2.2.2.1.toInt ∧ u.2.2.2.2.1.toInt ≤ 9) ∧ (0 ≤ u.2.2.2.2.2.toInt ∧ u.2.2.2.2.2.toInt ≤ 9) ∧ ((¬ ((1 ≤ p0.toInt ∧ p0.toInt ≤ 400) ∧ (0 ≤ p1.toInt ∧ p1.toInt ≤ 400) ∧ (0 ≤ p2.toInt ∧ p2.toInt ≤ 400) ∧ ¬ (p1.toInt = 0 ∧ p2.toInt ≠ 0)) ∧ r.toInt = -1 ∧ u.2.2.2.2.2.toInt = mlisted.toInt) ∨ (((1 ≤ p0.toInt ∧ p0.toInt ≤ 400) ∧ (0 ≤ p1.toInt ∧ p1.toInt ≤ 400) ∧ (0 ≤ p2.toInt ∧ p2.toInt ≤ 400) ∧ ¬ (p1.toInt = 0 ∧ p2.toInt ≠ 0)) ∧ ((p1.toInt = 0 ∧ mlisted.toInt < 3) ∨ (p1.toInt ≠ 0 ∧ p2.toInt = 0 ∧ mlisted.toInt < 6) ∨ (p1.toInt ≠ 0 ∧ p2.toInt ≠ 0 ∧ mlisted.toInt < 9)) ∧ r.toInt = -4 ∧ u.2.2.2.2.2.toInt = mlisted.toInt) ∨ (((1 ≤ p0.toInt ∧ p0.toInt ≤ 400) ∧ (0 ≤ p1.toInt ∧ p1.toInt ≤ 400) ∧ (0 ≤ p2.toInt ∧ p2.toInt ≤ 400) ∧ ¬ (p1.toInt = 0 ∧ p2.toInt ≠ 0)) ∧ ¬ ((p1.toInt = 0 ∧ mlisted.toInt < 3) ∨ (p1.toInt ≠ 0 ∧ p2.toInt = 0 ∧ mlisted.toInt < 6) ∨ (p1.toInt ≠ 0 ∧ p2.toInt ≠ 0 ∧ mlisted.toInt < 9)) ∧ u.2.2.2.2.2.toInt = 0))) (mu_B D A (fun (u : (Nat → Int32) × (Nat → Int32) × (Nat → Int32) × (Nat → Int32) × (Int32) × (Int32)) => [(mh, .inr (9, G9 ma mcode mtoday moffs mmany msumW msumA msumR msumWW msumWA msumAA msumWR msumAR mupper mlower mrates mtaped mlaid mat mtk mtkAt mtkNumber mwaits u.2.2.2.2.2 u.2.2.2.2.1)), ((ma 62), .inl (E 0, 9, .inl mf62)), ((ma 63), .inl (E 0, 9, .inl u.1)), ((ma 65), .inl (E 0, 9, .inl u.2.1)), ((ma 66), .inl (E 0, 3, .inl u.2.2.1)), ((ma 67), .inl (E 0, 3, .inl u.2.2.2.1))])) A) [Value.ref mh, .int p0, .int p1, .int p2].toArray s 0 0 A) (F0 m 149 ls []) := by
                              intro N_159
                              induction N_159 with
                              | zero => intro L8_149 L7_149 H locs ls hm v0_149 _ _ _ _; exfalso; omega
                              | succ N_159 ih_158 =>
                                intro L8_149 L7_149 H locs ls hm v0_149 hP hD hS hl
                                have lo_L8_149 := i_lo L8_149; have hi_L8_149 := i_hi L8_149
                                have lo_L7_149 := i_lo L7_149; have hi_L7_149 := i_hi L7_149
                                refine lv_iload hx hb dX9_deal_149 (lv_at hl 0 rfl) ?_
                                refine lv_iload hx hb dX9_deal_151 (lv_at hl 4 rfl) ?_
                                refine lv_icmp_ge (tgt := 202) hx hb dX9_deal_153 (by decide) (fun c_160 => ?_) (fun c_160 => ?_)
                                ·
                                  have ic_160 : 2 ≤ L8_149.toInt := by first | exact (g_le t_2 rfl).mp c_160 | (have h := mt (g_lt rfl t_2).mpr c_160; omega)
                                  clear c_160
                                  refine lv_iload hx hb dX9_deal_202 (lv_at hl 3 rfl) ?_
                                  refine lv_if_lt (tgt := 214) hx hb dX9_deal_204 (by decide) (fun c_161 => ?_) (fun c_161 => ?_)
                                  ·
                                    have ic_161 : L5_129.toInt < 0 := by first | exact (g_lt rfl t_0).mp c_161 | (have h := mt (g_le t_0 rfl).mpr c_161; omega)
                                    clear c_161
                                    refine lv_iload hx hb dX9_deal_214 (lv_at hl 1 rfl) ?_
                                    refine lv_istore (lv' := [(5, .int L7_149), (8, .int L8_149), (7, .int L7_149), (6, .int L6_129), (4, .int 2), (0, .ref mh), (1, .int p0), (2, .int p1), (3, .int p2)]) hx hb dX9_deal_216 hl (by decide) rfl (fun ls hl => ?_)
                                    refine lv_iconst (v := 0) hx hb dX9_deal_218 (by decide) ?_
                                    refine lv_istore (lv' := [(8, .int 0), (5, .int L7_149), (7, .int L7_149), (6, .int L6_129), (4, .int 2), (0, .ref mh), (1, .int p0), (2, .int p1), (3, .int p2)]) hx hb dX9_deal_219 hl (by decide) rfl (fun ls hl => ?_)
                                    have loop_162 : ∀ (N_164 : Nat) (L8_221 : Int32) (mf63_221 : Nat → Int32) (H : Heap) (locs : List Loc) (ls : Array Slot), mlisted.toInt - L8_221.toInt < (N_164 : Int) → (0 ≤ L8_221.toInt ∧ L8_221.toInt ≤ mlisted.toInt) → va_P D vwCl [((ma 62), .inl (E 0, 9, .inl mf62)), ((ma 63), .inl (E 0, 9, .inl mf63_221)), ((ma 66), .inl (E 0, 3, .inl (upd g_128 (2 : Int32).toNatClampNeg p2))), (mh, .inr (9, G9 ma mcode mtoday moffs mmany msumW msumA msumR msumWW msumWA msumAA msumWR msumAR mupper mlower mrates mtaped mlaid mat mtk mtkAt mtkNumber mwaits mlisted mdealtMany)), ((ma 65), .inl (E 0, 9, .inl mf65_129)), ((ma 67), .inl (E 0, 3, .inl u_139))] H → va_D A [((ma 62), .inl (E 0, 9, .inl mf62)), ((ma 63), .inl (E 0, 9, .inl mf63_221)), ((ma 66), .inl (E 0, 3, .inl (upd g_128 (2 : Int32).toNatClampNeg p2))), (mh, .inr (9, G9 ma mcode mtoday moffs mmany msumW msumA msumR msumWW msumWA msumAA msumWR msumAR mupper mlower mrates mtaped mlaid mat mtk mtkAt mtkNumber mwaits mlisted mdealtMany)), ((ma 65), .inl (E 0, 9, .inl mf65_129)), ((ma 67), .inl (E 0, 3, .inl u_139))] → va_S A s.heap H locs → lv_has ls 9 [(8, .int L8_221), (5, .int L7_149), (7, .int L7_149), (6, .int L6_129), (4, .int 2), (0, .ref mh), (1, .int p0), (2, .int p1), (3, .int p2)] → W p l e (headSpec (wl yX9_deal cX9_deal 9 (some .int)) (RM 1 0 0)).room s m [Value.ref mh, .int p0, .int p1, .int p2].toArray below meth c H locs 0 0 (MQ below (va_Qi (fun (r : Int32) (u : (Nat → Int32) × (Nat → Int32) × (Nat → Int32) × (Nat → Int32) × (Int32) × (Int32)) => (∀ k : Nat, k < 9 → 0 ≤ (u.2.1 k).toInt ∧ (u.2.1 k).toInt ≤ 3) ∧ (0 ≤ u.2.2.2.2.1.toInt ∧ u.2.2.2.2.1.toInt ≤ 9) ∧ (0 ≤ u.2.2.2.2.2.toInt ∧ u.2.2.2.2.2.toInt ≤ 9) ∧ ((¬ ((1 ≤ p0.toInt ∧ p0.toInt ≤ 400) ∧ (0 ≤ p1.toInt ∧ p1.toInt ≤ 400) ∧ (0 ≤ p2.toInt ∧ p2.toInt ≤ 400) ∧ ¬ (p1.toInt = 0 ∧ p2.toInt ≠ 0)) ∧ r.toInt = -1 ∧ u.2.2.2.2.2.toInt = mlisted.toInt) ∨ (((1 ≤ p0.toInt ∧ p0.toInt ≤ 400) ∧ (0 ≤ p1.toInt ∧ p1.toInt ≤ 400) ∧ (0 ≤ p2.toInt ∧ p2.toInt ≤ 400) ∧ ¬ (p1.toInt = 0 ∧ p2.toInt ≠ 0)) ∧ ((p1.toInt = 0 ∧ mlisted.toInt < 3) ∨ (p1.toInt ≠ 0 ∧ p2.toInt = 0 ∧ mlisted.toInt < 6) ∨ (p1.toInt ≠ 0 ∧ p2.toInt ≠ 0 ∧ mlisted.toInt < 9)) ∧ r.toInt = -4 ∧ u.2.2.2.2.2.toInt = mlisted.toInt) ∨ (((1 ≤ p0.toInt ∧ p0.toInt ≤ 400) ∧ (0 ≤ p1.toInt ∧ p1.toInt ≤ 400) ∧ (0 ≤ p2.toInt ∧ p2.toInt ≤ 400) ∧ ¬ (p1.toInt = 0 ∧ p2.toInt ≠ 0)) ∧ ¬ ((p1.toInt = 0 ∧ mlisted.toInt < 3) ∨ (p1.toInt ≠ 0 ∧ p2.toInt = 0 ∧ mlisted.toInt < 6) ∨ (p1.toInt ≠ 0 ∧ p2.toInt ≠ 0 ∧ mlisted.toInt < 9)) ∧ u.2.2.2.2.2.toInt = 0))) (mu_B D A (fun (u : (Nat → Int32) × (Nat → Int32) × (Nat → Int32) × (Nat → Int32) × (Int32) × (Int32)) => [(mh, .inr (9, G9 ma mcode mtoday moffs mmany msumW msumA msumR msumWW msumWA msumAA msumWR msumAR mupper mlower mrates mtaped mlaid mat mtk mtkAt mtkNumber mwaits u.2.2.2.2.2 u.2.2.2.2.1)), ((ma 62), .inl (E 0, 9, .inl mf62)), ((ma 63), .inl (E 0, 9, .inl u.1)), ((ma 65), .inl (E 0, 9, .inl u.2.1)), ((ma 66), .inl (E 0, 3, .inl u.2.2.1)), ((ma 67), .inl (E 0, 3, .inl u.2.2.2.1))])) A) [Value.ref mh, .int p0, .int p1, .int p2].toArray s 0 0 A) (F0 m 221 ls []) := by
                                      intro N_164
                                      induction N_164 with
                                      | zero => intro L8_221 mf63_221 H locs ls hm v0_221 _ _ _ _; exfalso; omega
                                      | succ N_164 ih_163 =>
                                        intro L8_221 mf63_221 H locs ls hm v0_221 hP hD hS hl
                                        have lo_L8_221 := i_lo L8_221; have hi_L8_221 := i_hi L8_221
                                        refine lv_iload hx hb dX9_deal_221 (lv_at hl 0 rfl) ?_
                                        refine lv_aload_n hx hb dX9_deal_223 rfl (lv_at hl 5 rfl) ?_
                                        refine va_get (D := D) (ci := 9) (v := .int mlisted) (C := RX9) (T := TX9) (N := 68) hx hb htb iX9 hown hK.1 hP 3 rfl rfl 61 (by decide) (htb _ k_1019) (fun _ h9 => h9) rfl dX9_deal_224 ?_
                                        refine lv_icmp_ge (tgt := 250) hx hb dX9_deal_227 (by decide) (fun c_165 => ?_) (fun c_165 => ?_)
                                        ·
                                          have ic_165 : mlisted.toInt ≤ L8_221.toInt := by first | exact (g_le rfl rfl).mp c_165 | (have h := mt (g_lt rfl rfl).mpr c_165; omega)
                                          clear c_165
                                          refine lv_aload_n hx hb dX9_deal_250 rfl (lv_at hl 5 rfl) ?_
                                          refine va_get (D := D) (ci := 9) (v := .int mlisted) (C := RX9) (T := TX9) (N := 68) hx hb htb iX9 hown hK.1 hP 3 rfl rfl 61 (by decide) (htb _ k_1019) (fun _ h9 => h9) rfl dX9_deal_251 ?_
                                          refine lv_iconst (v := 1) hx hb dX9_deal_254 (by decide) ?_
                                          refine lv_isub hx hb dX9_deal_255 ?_
                                          refine lv_topi (fun z_166 ez_166 => ?_)
                                          have jz_166 : z_166.toInt = mlisted.toInt - 1 := by rw [ez_166]; exact g_sub rfl t_1 (by omega) (by omega)
                                          refine lv_istore (lv' := [(7, .int z_166), (8, .int L8_221), (5, .int L7_149), (6, .int L6_129), (4, .int 2), (0, .ref mh), (1, .int p0), (2, .int p1), (3, .int p2)]) hx hb dX9_deal_256 hl (by decide) rfl (fun ls hl => ?_)
                                          have loop_167 : ∀ (N_169 : Nat) (L7_258 : Int32) (mf65_258 : Nat → Int32) (H : Heap) (locs : List Loc) (ls : Array Slot), L7_258.toInt + 1 < (N_169 : Int) → (∀ k : Nat, k < 9 → 0 ≤ (mf65_258 k).toInt ∧ (mf65_258 k).toInt ≤ 3) → (-1 ≤ L7_258.toInt ∧ L7_258.toInt < mlisted.toInt) → (val4 mf65_258 (mlisted).toNatClampNeg + 4 ^ (mlisted.toInt - 1 - L7_258.toInt).toNat = val4 mf65_129 (mlisted).toNatClampNeg + 1) → va_P D vwCl [((ma 62), .inl (E 0, 9, .inl mf62)), ((ma 63), .inl (E 0, 9, .inl mf63_221)), ((ma 66), .inl (E 0, 3, .inl (upd g_128 (2 : Int32).toNatClampNeg p2))), (mh, .inr (9, G9 ma mcode mtoday moffs mmany msumW msumA msumR msumWW msumWA msumAA msumWR msumAR mupper mlower mrates mtaped mlaid mat mtk mtkAt mtkNumber mwaits mlisted mdealtMany)), ((ma 65), .inl (E 0, 9, .inl mf65_258)), ((ma 67), .inl (E 0, 3, .inl u_139))] H → va_D A [((ma 62), .inl (E 0, 9, .inl mf62)), ((ma 63), .inl (E 0, 9, .inl mf63_221)), ((ma 66), .inl (E 0, 3, .inl (upd g_128 (2 : Int32).toNatClampNeg p2))), (mh, .inr (9, G9 ma mcode mtoday moffs mmany msumW msumA msumR msumWW msumWA msumAA msumWR msumAR mupper mlower mrates mtaped mlaid mat mtk mtkAt mtkNumber mwaits mlisted mdealtMany)), ((ma 65), .inl (E 0, 9, .inl mf65_258)), ((ma 67), .inl (E 0, 3, .inl u_139))] → va_S A s.heap H locs → lv_has ls 9 [(7, .int L7_258), (5, .int L7_149), (6, .int L6_129), (4, .int 2), (0, .ref mh), (1, .int p0), (2, .int p1), (3, .int p2)] → W p l e (headSpec (wl yX9_deal cX9_deal 9 (some .int)) (RM 1 0 0)).room s m [Value.ref mh, .int p0, .int p1, .int p2].toArray below meth c H locs 0 0 (MQ below (va_Qi (fun (r : Int32) (u : (Nat → Int32) × (Nat → Int32) × (Nat → Int32) × (Nat → Int32) × (Int32) × (Int32)) => (∀ k : Nat, k < 9 → 0 ≤ (u.2.1 k).toInt ∧ (u.2.1 k).toInt ≤ 3) ∧ (0 ≤ u.2.2.2.2.1.toInt ∧ u.2.2.2.2.1.toInt ≤ 9) ∧ (0 ≤ u.2.2.2.2.2.toInt ∧ u.2.2.2.2.2.toInt ≤ 9) ∧ ((¬ ((1 ≤ p0.toInt ∧ p0.toInt ≤ 400) ∧ (0 ≤ p1.toInt ∧ p1.toInt ≤ 400) ∧ (0 ≤ p2.toInt ∧ p2.toInt ≤ 400) ∧ ¬ (p1.toInt = 0 ∧ p2.toInt ≠ 0)) ∧ r.toInt = -1 ∧ u.2.2.2.2.2.toInt = mlisted.toInt) ∨ (((1 ≤ p0.toInt ∧ p0.toInt ≤ 400) ∧ (0 ≤ p1.toInt ∧ p1.toInt ≤ 400) ∧ (0 ≤ p2.toInt ∧ p2.toInt ≤ 400) ∧ ¬ (p1.toInt = 0 ∧ p2.toInt ≠ 0)) ∧ ((p1.toInt = 0 ∧ mlisted.toInt < 3) ∨ (p1.toInt ≠ 0 ∧ p2.toInt = 0 ∧ mlisted.toInt < 6) ∨ (p1.toInt ≠ 0 ∧ p2.toInt ≠ 0 ∧ mlisted.toInt < 9)) ∧ r.toInt = -4 ∧ u.2.2.2.2.2.toInt = mlisted.toInt) ∨ (((1 ≤ p0.toInt ∧ p0.toInt ≤ 400) ∧ (0 ≤ p1.toInt ∧ p1.toInt ≤ 400) ∧ (0 ≤ p2.toInt ∧ p2.toInt ≤ 400) ∧ ¬ (p1.toInt = 0 ∧ p2.toInt ≠ 0)) ∧ ¬ ((p1.toInt = 0 ∧ mlisted.toInt < 3) ∨ (p1.toInt ≠ 0 ∧ p2.toInt = 0 ∧ mlisted.toInt < 6) ∨ (p1.toInt ≠ 0 ∧ p2.toInt ≠ 0 ∧ mlisted.toInt < 9)) ∧ u.2.2.2.2.2.toInt = 0))) (mu_B D A (fun (u : (Nat → Int32) × (Nat → Int32) × (Nat → Int32) × (Nat → Int32) × (Int32) × (Int32)) => [(mh, .inr (9, G9 ma mcode mtoday moffs mmany msumW msumA msumR msumWW msumWA msumAA msumWR msumAR mupper mlower mrates mtaped mlaid mat mtk mtkAt mtkNumber mwaits u.2.2.2.2.2 u.2.2.2.2.1)), ((ma 62), .inl (E 0, 9, .inl mf62)), ((ma 63), .inl (E 0, 9, .inl u.1)), ((ma 65), .inl (E 0, 9, .inl u.2.1)), ((ma 66), .inl (E 0, 3, .inl u.2.2.1)), ((ma 67), .inl (E 0, 3, .inl u.2.2.2.1))])) A) [Value.ref mh, .int p0, .int p1, .int p2].toArray s 0 0 A) (F0 m 258 ls []) := by
                                            intro N_169
                                            induction N_169 with
                                            | zero => intro L7_258 mf65_258 H locs ls hm v_mf65_258 v0_258 v1_258 _ _ _ _; exfalso; omega
                                            | succ N_169 ih_168 =>
                                              intro L7_258 mf65_258 H locs ls hm v_mf65_258 v0_258 v1_258 hP hD hS hl
                                              have lo_L7_258 := i_lo L7_258; have hi_L7_258 := i_hi L7_258
                                              refine lv_iload hx hb dX9_deal_258 (lv_at hl 0 rfl) ?_
                                              refine lv_if_lt (tgt := 288) hx hb dX9_deal_260 (by decide) (fun c_170 => ?_) (fun c_170 => ?_)
                                              ·
                                                have ic_170 : L7_258.toInt < 0 := by first | exact (g_lt rfl t_0).mp c_170 | (have h := mt (g_le t_0 rfl).mpr c_170; omega)
                                                clear c_170
                                                refine lv_iload hx hb dX9_deal_288 (lv_at hl 0 rfl) ?_
                                                refine lv_if_lt (tgt := 297) hx hb dX9_deal_290 (by decide) (fun c_171 => ?_) (fun c_171 => absurd (by rw [g_lt rfl t_0]; omega) c_171)
                                                refine lv_iconst (v := 0) hx hb dX9_deal_297 (by decide) ?_
                                                refine lv_istore (lv' := [(6, .int 0), (7, .int L7_258), (5, .int L7_149), (4, .int 2), (0, .ref mh), (1, .int p0), (2, .int p1), (3, .int p2)]) hx hb dX9_deal_298 hl (by decide) rfl (fun ls hl => ?_)
                                                refine lv_iload hx hb dX9_deal_300 (lv_at hl 0 rfl) ?_
                                                refine lv_if_eq (tgt := 316) hx hb dX9_deal_302 (by decide) (fun c_172 => ?_) (fun c_172 => absurd (by decide) c_172)
                                                refine lv_goto (tgt := 129) hx hb dX9_deal_316 (by decide) ?_
                                                have hP := hP.sub (ws' := [(mh, .inr (9, G9 ma mcode mtoday moffs mmany msumW msumA msumR msumWW msumWA msumAA msumWR msumAR mupper mlower mrates mtaped mlaid mat mtk mtkAt mtkNumber mwaits mlisted mdealtMany)), ((ma 62), .inl (E 0, 9, .inl mf62)), ((ma 63), .inl (E 0, 9, .inl mf63_221)), ((ma 65), .inl (E 0, 9, .inl mf65_258)), ((ma 66), .inl (E 0, 3, .inl (upd g_128 (2 : Int32).toNatClampNeg p2))), ((ma 67), .inl (E 0, 3, .inl u_139))]) [3, 0, 1, 4, 2, 5] rfl
                                                have hD := hD.sub (ws' := [(mh, .inr (9, G9 ma mcode mtoday moffs mmany msumW msumA msumR msumWW msumWA msumAA msumWR msumAR mupper mlower mrates mtaped mlaid mat mtk mtkAt mtkNumber mwaits mlisted mdealtMany)), ((ma 62), .inl (E 0, 9, .inl mf62)), ((ma 63), .inl (E 0, 9, .inl mf63_221)), ((ma 65), .inl (E 0, 9, .inl mf65_258)), ((ma 66), .inl (E 0, 3, .inl (upd g_128 (2 : Int32).toNatClampNeg p2))), ((ma 67), .inl (E 0, 3, .inl u_139))]) [3, 0, 1, 4, 2, 5] (by decide) rfl
                                                exact ih_134 0 u_139 mf65_258 L7_149 mf63_221 _ _ _ (by have h := carry_e (n := mlisted) (i := L7_258) (by omega) (by omega) (by omega) v_mf65_258 v_mf65_129 v1_258; have h1 := t_0; omega) v_mf65_258 (by have h := carry_e (n := mlisted) (i := L7_258) (by omega) (by omega) (by omega) v_mf65_258 v_mf65_129 v1_258; have h1 := t_0; omega) hP hD hS (lv_sub hl [0, 2, 3, 4, 5, 6, 7] rfl)
                                              ·
                                                have ic_170 : 0 ≤ L7_258.toInt := by first | exact (g_le t_0 rfl).mp c_170 | (have h := mt (g_lt rfl t_0).mpr c_170; omega)
                                                clear c_170
                                                refine lv_aload_n hx hb dX9_deal_263 rfl (lv_at hl 4 rfl) ?_
                                                refine va_get (D := D) (ci := 9) (v := .ref (ma 65)) (C := RX9) (T := TX9) (N := 68) hx hb htb iX9 hown hK.1 hP 3 rfl rfl 65 (by decide) (htb _ k_1023) (fun _ h9 => h9) rfl dX9_deal_264 ?_
                                                refine lv_iload hx hb dX9_deal_267 (lv_at hl 0 rfl) ?_
                                                refine va_iald hx hb hK.1 hP 4 0 rfl rfl (g_in rfl (by omega) (by omega)) dX9_deal_269 ?_
                                                refine lv_topi (fun z_173 ez_173 => ?_)
                                                have kz_173 := congrArg Int32.toInt ez_173
                                                have jz_173 : 0 ≤ z_173.toInt ∧ z_173.toInt ≤ 3 := by rw [ez_173]; exact v_mf65_258 _ (g_ix rfl (by omega) (by omega))
                                                refine lv_iconst (v := 3) hx hb dX9_deal_270 (by decide) ?_
                                                refine lv_icmp_ne (tgt := 288) hx hb dX9_deal_271 (by decide) (fun c_174 => ?_) (fun c_174 => ?_)
                                                ·
                                                  have ic_174 : z_173.toInt ≠ 3 := mt (g_eq rfl t_3).mpr c_174
                                                  clear c_174
                                                  refine lv_iload hx hb dX9_deal_288 (lv_at hl 0 rfl) ?_
                                                  refine lv_if_lt (tgt := 297) hx hb dX9_deal_290 (by decide) (fun c_175 => absurd c_175 (by rw [g_lt rfl t_0]; omega)) (fun c_175 => ?_)
                                                  refine lv_iconst (v := 1) hx hb dX9_deal_293 (by decide) ?_
                                                  refine lv_goto (tgt := 298) hx hb dX9_deal_294 (by decide) ?_
                                                  refine lv_istore (lv' := [(6, .int 1), (7, .int L7_258), (5, .int L7_149), (4, .int 2), (0, .ref mh), (1, .int p0), (2, .int p1), (3, .int p2)]) hx hb dX9_deal_298 hl (by decide) rfl (fun ls hl => ?_)
                                                  refine lv_iload hx hb dX9_deal_300 (lv_at hl 0 rfl) ?_
                                                  refine lv_if_eq (tgt := 316) hx hb dX9_deal_302 (by decide) (fun c_176 => absurd c_176 (by decide)) (fun c_176 => ?_)
                                                  refine lv_aload_n hx hb dX9_deal_305 rfl (lv_at hl 4 rfl) ?_
                                                  refine va_get (D := D) (ci := 9) (v := .ref (ma 65)) (C := RX9) (T := TX9) (N := 68) hx hb htb iX9 hown hK.1 hP 3 rfl rfl 65 (by decide) (htb _ k_1023) (fun _ h9 => h9) rfl dX9_deal_306 ?_
                                                  refine lv_iload hx hb dX9_deal_309 (lv_at hl 1 rfl) ?_
                                                  refine lv_dup2_11 hx hb dX9_deal_311 rfl rfl ?_
                                                  refine va_iald hx hb hK.1 hP 4 0 rfl rfl (g_in rfl (by omega) (by omega)) dX9_deal_312 ?_
                                                  refine lv_topi (fun z_177 ez_177 => ?_)
                                                  have kz_177 := congrArg Int32.toInt ez_177
                                                  have jz_177 : 0 ≤ z_177.toInt ∧ z_177.toInt ≤ 3 := by rw [ez_177]; exact v_mf65_258 _ (g_ix rfl (by omega) (by omega))
                                                  refine lv_iconst (v := 1) hx hb dX9_deal_313 (by decide) ?_
                                                  refine lv_iadd hx hb dX9_deal_314 ?_
                                                  refine lv_topi (fun z_178 ez_178 => ?_)
                                                  have jz_178 : z_178.toInt = z_177.toInt + 1 := by rw [ez_178]; exact g_add rfl t_1 (by omega) (by omega)
                                                  refine va_iast hx hb hK.1 hP hD hS 4 0 rfl rfl (g_in rfl (by omega) (by omega)) dX9_deal_315 (fun H locs hP hD hS => ?_)
                                                  have hP : va_P D vwCl [((ma 62), .inl (E 0, 9, .inl mf62)), ((ma 63), .inl (E 0, 9, .inl mf63_221)), ((ma 66), .inl (E 0, 3, .inl (upd g_128 (2 : Int32).toNatClampNeg p2))), (mh, .inr (9, G9 ma mcode mtoday moffs mmany msumW msumA msumR msumWW msumWA msumAA msumWR msumAR mupper mlower mrates mtaped mlaid mat mtk mtkAt mtkNumber mwaits mlisted mdealtMany)), ((ma 65), .inl (E 0, 9, .inl (upd mf65_258 (L7_258 : Int32).toNatClampNeg z_178))), ((ma 67), .inl (E 0, 3, .inl u_139))] H := hP
                                                  have hD := toW hP hD rfl
                                                  have hv_179 : ∀ k : Nat, k < 9 → 0 ≤ ((upd mf65_258 (L7_258 : Int32).toNatClampNeg z_178) k).toInt ∧ ((upd mf65_258 (L7_258 : Int32).toNatClampNeg z_178) k).toInt ≤ 3 := upd_r v_mf65_258 (by (try dsimp only); omega)
                                                  refine lv_goto (tgt := 129) hx hb dX9_deal_316 (by decide) ?_
                                                  have hP := hP.sub (ws' := [(mh, .inr (9, G9 ma mcode mtoday moffs mmany msumW msumA msumR msumWW msumWA msumAA msumWR msumAR mupper mlower mrates mtaped mlaid mat mtk mtkAt mtkNumber mwaits mlisted mdealtMany)), ((ma 62), .inl (E 0, 9, .inl mf62)), ((ma 63), .inl (E 0, 9, .inl mf63_221)), ((ma 65), .inl (E 0, 9, .inl (upd mf65_258 (L7_258 : Int32).toNatClampNeg z_178))), ((ma 66), .inl (E 0, 3, .inl (upd g_128 (2 : Int32).toNatClampNeg p2))), ((ma 67), .inl (E 0, 3, .inl u_139))]) [3, 0, 1, 4, 2, 5] rfl
                                                  have hD := hD.sub (ws' := [(mh, .inr (9, G9 ma mcode mtoday moffs mmany msumW msumA msumR msumWW msumWA msumAA msumWR msumAR mupper mlower mrates mtaped mlaid mat mtk mtkAt mtkNumber mwaits mlisted mdealtMany)), ((ma 62), .inl (E 0, 9, .inl mf62)), ((ma 63), .inl (E 0, 9, .inl mf63_221)), ((ma 65), .inl (E 0, 9, .inl (upd mf65_258 (L7_258 : Int32).toNatClampNeg z_178))), ((ma 66), .inl (E 0, 3, .inl (upd g_128 (2 : Int32).toNatClampNeg p2))), ((ma 67), .inl (E 0, 3, .inl u_139))]) [3, 0, 1, 4, 2, 5] (by decide) rfl
                                                  exact ih_134 1 u_139 (upd mf65_258 (L7_258 : Int32).toNatClampNeg z_178) L7_149 mf63_221 _ _ _ (by have hc := carry_1 (n := mlisted) (i := L7_258) (by omega) (by omega) ez_177 jz_178 v1_258; have h := val4_max (n := mlisted) hv_179 (by omega) (by omega); have h1 := t_1; omega) hv_179 (by have hc := carry_1 (n := mlisted) (i := L7_258) (by omega) (by omega) ez_177 jz_178 v1_258; have h := val4_max (n := mlisted) hv_179 (by omega) (by omega); have h1 := t_1; omega) hP hD hS (lv_sub hl [0, 2, 3, 4, 5, 6, 7] rfl)
                                                ·
                                                  have ic_174 : z_173.toInt = 3 := (g_eq rfl t_3).mp c_174
                                                  clear c_174
                                                  refine lv_aload_n hx hb dX9_deal_274 rfl (lv_at hl 4 rfl) ?_
                                                  refine va_get (D := D) (ci := 9) (v := .ref (ma 65)) (C := RX9) (T := TX9) (N := 68) hx hb htb iX9 hown hK.1 hP 3 rfl rfl 65 (by decide) (htb _ k_1023) (fun _ h9 => h9) rfl dX9_deal_275 ?_
                                                  refine lv_iload hx hb dX9_deal_278 (lv_at hl 0 rfl) ?_
                                                  refine lv_iconst (v := 0) hx hb dX9_deal_280 (by decide) ?_
                                                  refine va_iast hx hb hK.1 hP hD hS 4 0 rfl rfl (g_in rfl (by omega) (by omega)) dX9_deal_281 (fun H locs hP hD hS => ?_)
                                                  have hP : va_P D vwCl [((ma 62), .inl (E 0, 9, .inl mf62)), ((ma 63), .inl (E 0, 9, .inl mf63_221)), ((ma 66), .inl (E 0, 3, .inl (upd g_128 (2 : Int32).toNatClampNeg p2))), (mh, .inr (9, G9 ma mcode mtoday moffs mmany msumW msumA msumR msumWW msumWA msumAA msumWR msumAR mupper mlower mrates mtaped mlaid mat mtk mtkAt mtkNumber mwaits mlisted mdealtMany)), ((ma 65), .inl (E 0, 9, .inl (upd mf65_258 (L7_258 : Int32).toNatClampNeg 0))), ((ma 67), .inl (E 0, 3, .inl u_139))] H := hP
                                                  have hD := toW hP hD rfl
                                                  have hv_180 : ∀ k : Nat, k < 9 → 0 ≤ ((upd mf65_258 (L7_258 : Int32).toNatClampNeg 0) k).toInt ∧ ((upd mf65_258 (L7_258 : Int32).toNatClampNeg 0) k).toInt ≤ 3 := upd_r v_mf65_258 (by decide)
                                                  obtain ⟨z_181, ez_181⟩ : ∃ y : Int32, y = L7_258 + (-1) := ⟨_, rfl⟩
                                                  have jz_181 : z_181.toInt = L7_258.toInt + -1 := by rw [ez_181]; exact g_add rfl t_m1 (by omega) (by omega)
                                                  refine lv_iinc (v := z_181) (lv' := [(7, .int z_181), (5, .int L7_149), (6, .int L6_129), (4, .int 2), (0, .ref mh), (1, .int p0), (2, .int p1), (3, .int p2)]) hx hb dX9_deal_282 hl (k := 0) rfl (by rw [ez_181]; rfl) (by decide) rfl (fun ls hl => ?_)
                                                  refine lv_goto (tgt := 258) hx hb dX9_deal_285 (by decide) ?_
                                                  exact ih_168 z_181 (upd mf65_258 (L7_258 : Int32).toNatClampNeg 0) _ _ _ (by have h0 := t_2; (try dsimp only); omega) hv_180 (by have h0 := t_2; (try dsimp only); omega) (carry_0 (by omega) (by omega) (by omega) ez_173 (by omega) v1_258) hP hD hS (lv_sub hl [0, 1, 2, 3, 4, 5, 6, 7] rfl)
                                          exact loop_167 10 z_166 mf65_129 _ _ _ (by have h0 := t_2; (try dsimp only); omega) v_mf65_129 (by have h0 := t_2; (try dsimp only); omega) (carry_s (by omega)) hP hD hS (lv_sub hl [0, 2, 3, 4, 5, 6, 7, 8] rfl)
                                        ·
                                          have ic_165 : L8_221.toInt < mlisted.toInt := by first | exact (g_lt rfl rfl).mp c_165 | (have h := mt (g_le rfl rfl).mpr c_165; omega)
                                          clear c_165
                                          refine lv_aload_n hx hb dX9_deal_230 rfl (lv_at hl 5 rfl) ?_
                                          refine va_get (D := D) (ci := 9) (v := .ref (ma 63)) (C := RX9) (T := TX9) (N := 68) hx hb htb iX9 hown hK.1 hP 3 rfl rfl 63 (by decide) (htb _ k_1021) (fun _ h9 => h9) rfl dX9_deal_231 ?_
                                          refine lv_iload hx hb dX9_deal_234 (lv_at hl 0 rfl) ?_
                                          refine lv_aload_n hx hb dX9_deal_236 rfl (lv_at hl 5 rfl) ?_
                                          refine va_get (D := D) (ci := 9) (v := .ref (ma 65)) (C := RX9) (T := TX9) (N := 68) hx hb htb iX9 hown hK.1 hP 3 rfl rfl 65 (by decide) (htb _ k_1023) (fun _ h9 => h9) rfl dX9_deal_237 ?_
                                          refine lv_iload hx hb dX9_deal_240 (lv_at hl 0 rfl) ?_
                                          refine va_iald hx hb hK.1 hP 4 0 rfl rfl (g_in rfl (by omega) (by omega)) dX9_deal_242 ?_
                                          refine lv_topi (fun z_182 ez_182 => ?_)
                                          have kz_182 := congrArg Int32.toInt ez_182
                                          have jz_182 : 0 ≤ z_182.toInt ∧ z_182.toInt ≤ 3 := by rw [ez_182]; exact v_mf65_129 _ (g_ix rfl (by omega) (by omega))
                                          refine va_iast hx hb hK.1 hP hD hS 1 0 rfl rfl (g_in rfl (by omega) (by omega)) dX9_deal_243 (fun H locs hP hD hS => ?_)
                                          have hP : va_P D vwCl [((ma 62), .inl (E 0, 9, .inl mf62)), ((ma 63), .inl (E 0, 9, .inl (upd mf63_221 (L8_221 : Int32).toNatClampNeg z_182))), ((ma 66), .inl (E 0, 3, .inl (upd g_128 (2 : Int32).toNatClampNeg p2))), (mh, .inr (9, G9 ma mcode mtoday moffs mmany msumW msumA msumR msumWW msumWA msumAA msumWR msumAR mupper mlower mrates mtaped mlaid mat mtk mtkAt mtkNumber mwaits mlisted mdealtMany)), ((ma 65), .inl (E 0, 9, .inl mf65_129)), ((ma 67), .inl (E 0, 3, .inl u_139))] H := hP
                                          have hD := toW hP hD rfl
                                          obtain ⟨z_183, ez_183⟩ : ∃ y : Int32, y = L8_221 + 1 := ⟨_, rfl⟩
                                          have jz_183 : z_183.toInt = L8_221.toInt + 1 := by rw [ez_183]; exact g_add rfl t_1 (by omega) (by omega)
                                          refine lv_iinc (v := z_183) (lv' := [(8, .int z_183), (5, .int L7_149), (7, .int L7_149), (6, .int L6_129), (4, .int 2), (0, .ref mh), (1, .int p0), (2, .int p1), (3, .int p2)]) hx hb dX9_deal_244 hl (k := 0) rfl (by rw [ez_183]; rfl) (by decide) rfl (fun ls hl => ?_)
                                          refine lv_goto (tgt := 221) hx hb dX9_deal_247 (by decide) ?_
                                          exact ih_163 z_183 (upd mf63_221 (L8_221 : Int32).toNatClampNeg z_182) _ _ _ (by have h0 := t_2; (try dsimp only); omega) (by have h0 := t_2; (try dsimp only); omega) hP hD hS (lv_sub hl [0, 1, 2, 3, 4, 5, 6, 7, 8] rfl)
                                    exact loop_162 10 0 mf63_129 _ _ _ (by have h0 := t_0; have h1 := t_2; (try dsimp only); omega) (by have h0 := t_0; have h1 := t_2; (try dsimp only); omega) hP hD hS (lv_sub hl [0, 1, 2, 3, 4, 5, 6, 7, 8] rfl)
                                  ·
                                    have ic_161 : 0 ≤ L5_129.toInt := by first | exact (g_le t_0 rfl).mp c_161 | (have h := mt (g_lt rfl t_0).mpr c_161; omega)
                                    clear c_161
                                    refine lv_iload hx hb dX9_deal_207 (lv_at hl 1 rfl) ?_
                                    refine lv_iload hx hb dX9_deal_209 (lv_at hl 3 rfl) ?_
                                    refine lv_icmp_ge (tgt := 250) hx hb dX9_deal_211 (by decide) (fun c_184 => ?_) (fun c_184 => ?_)
                                    ·
                                      have ic_184 : L5_129.toInt ≤ L7_149.toInt := by first | exact (g_le rfl rfl).mp c_184 | (have h := mt (g_lt rfl rfl).mpr c_184; omega)
                                      clear c_184
                                      refine lv_aload_n hx hb dX9_deal_250 rfl (lv_at hl 5 rfl) ?_
                                      refine va_get (D := D) (ci := 9) (v := .int mlisted) (C := RX9) (T := TX9) (N := 68) hx hb htb iX9 hown hK.1 hP 3 rfl rfl 61 (by decide) (htb _ k_1019) (fun _ h9 => h9) rfl dX9_deal_251 ?_
                                      refine lv_iconst (v := 1) hx hb dX9_deal_254 (by decide) ?_
                                      refine lv_isub hx hb dX9_deal_255 ?_
                                      refine lv_topi (fun z_185 ez_185 => ?_)
                                      have jz_185 : z_185.toInt = mlisted.toInt - 1 := by rw [ez_185]; exact g_sub rfl t_1 (by omega) (by omega)
                                      refine lv_istore (lv' := [(7, .int z_185), (8, .int L8_149), (6, .int L6_129), (5, .int L5_129), (4, .int 2), (0, .ref mh), (1, .int p0), (2, .int p1), (3, .int p2)]) hx hb dX9_deal_256 hl (by decide) rfl (fun ls hl => ?_)
                                      have loop_186 : ∀ (N_188 : Nat) (L7_258 : Int32) (mf65_258 : Nat → Int32) (H : Heap) (locs : List Loc) (ls : Array Slot), L7_258.toInt + 1 < (N_188 : Int) → (∀ k : Nat, k < 9 → 0 ≤ (mf65_258 k).toInt ∧ (mf65_258 k).toInt ≤ 3) → (-1 ≤ L7_258.toInt ∧ L7_258.toInt < mlisted.toInt) → (val4 mf65_258 (mlisted).toNatClampNeg + 4 ^ (mlisted.toInt - 1 - L7_258.toInt).toNat = val4 mf65_129 (mlisted).toNatClampNeg + 1) → va_P D vwCl [((ma 62), .inl (E 0, 9, .inl mf62)), ((ma 63), .inl (E 0, 9, .inl mf63_129)), ((ma 66), .inl (E 0, 3, .inl (upd g_128 (2 : Int32).toNatClampNeg p2))), (mh, .inr (9, G9 ma mcode mtoday moffs mmany msumW msumA msumR msumWW msumWA msumAA msumWR msumAR mupper mlower mrates mtaped mlaid mat mtk mtkAt mtkNumber mwaits mlisted mdealtMany)), ((ma 65), .inl (E 0, 9, .inl mf65_258)), ((ma 67), .inl (E 0, 3, .inl u_139))] H → va_D A [((ma 62), .inl (E 0, 9, .inl mf62)), ((ma 63), .inl (E 0, 9, .inl mf63_129)), ((ma 66), .inl (E 0, 3, .inl (upd g_128 (2 : Int32).toNatClampNeg p2))), (mh, .inr (9, G9 ma mcode mtoday moffs mmany msumW msumA msumR msumWW msumWA msumAA msumWR msumAR mupper mlower mrates mtaped mlaid mat mtk mtkAt mtkNumber mwaits mlisted mdealtMany)), ((ma 65), .inl (E 0, 9, .inl mf65_258)), ((ma 67), .inl (E 0, 3, .inl u_139))] → va_S A s.heap H locs → lv_has ls 9 [(7, .int L7_258), (6, .int L6_129), (5, .int L5_129), (4, .int 2), (0, .ref mh), (1, .int p0), (2, .int p1), (3, .int p2)] → W p l e (headSpec (wl yX9_deal cX9_deal 9 (some .int)) (RM 1 0 0)).room s m [Value.ref mh, .int p0, .int p1, .int p2].toArray below meth c H locs 0 0 (MQ below (va_Qi (fun (r : Int32) (u : (Nat → Int32) × (Nat → Int32) × (Nat → Int32) × (Nat → Int32) × (Int32) × (Int32)) => (∀ k : Nat, k < 9 → 0 ≤ (u.2.1 k).toInt ∧ (u.2.1 k).toInt ≤ 3) ∧ (0 ≤ u.2.2.2.2.1.toInt ∧ u.2.2.2.2.1.toInt ≤ 9) ∧ (0 ≤ u.2.2.2.2.2.toInt ∧ u.2.2.2.2.2.toInt ≤ 9) ∧ ((¬ ((1 ≤ p0.toInt ∧ p0.toInt ≤ 400) ∧ (0 ≤ p1.toInt ∧ p1.toInt ≤ 400) ∧ (0 ≤ p2.toInt ∧ p2.toInt ≤ 400) ∧ ¬ (p1.toInt = 0 ∧ p2.toInt ≠ 0)) ∧ r.toInt = -1 ∧ u.2.2.2.2.2.toInt = mlisted.toInt) ∨ (((1 ≤ p0.toInt ∧ p0.toInt ≤ 400) ∧ (0 ≤ p1.toInt ∧ p1.toInt ≤ 400) ∧ (0 ≤ p2.toInt ∧ p2.toInt ≤ 400) ∧ ¬ (p1.toInt = 0 ∧ p2.toInt ≠ 0)) ∧ ((p1.toInt = 0 ∧ mlisted.toInt < 3) ∨ (p1.toInt ≠ 0 ∧ p2.toInt = 0 ∧ mlisted.toInt < 6) ∨ (p1.toInt ≠ 0 ∧ p2.toInt ≠ 0 ∧ mlisted.toInt < 9)) ∧ r.toInt = -4 ∧ u.2.2.2.2.2.toInt = mlisted.toInt) ∨ (((1 ≤ p0.toInt ∧ p0.toInt ≤ 400) ∧ (0 ≤ p1.toInt ∧ p1.toInt ≤ 400) ∧ (0 ≤ p2.toInt ∧ p2.toInt ≤ 400) ∧ ¬ (p1.toInt = 0 ∧ p2.toInt ≠ 0)) ∧ ¬ ((p1.toInt = 0 ∧ mlisted.toInt < 3) ∨ (p1.toInt ≠ 0 ∧ p2.toInt = 0 ∧ mlisted.toInt < 6) ∨ (p1.toInt ≠ 0 ∧ p2.toInt ≠ 0 ∧ mlisted.toInt < 9)) ∧ u.2.2.2.2.2.toInt = 0))) (mu_B D A (fun (u : (Nat → Int32) × (Nat → Int32) × (Nat → Int32) × (Nat → Int32) × (Int32) × (Int32)) => [(mh, .inr (9, G9 ma mcode mtoday moffs mmany msumW msumA msumR msumWW msumWA msumAA msumWR msumAR mupper mlower mrates mtaped mlaid mat mtk mtkAt mtkNumber mwaits u.2.2.2.2.2 u.2.2.2.2.1)), ((ma 62), .inl (E 0, 9, .inl mf62)), ((ma 63), .inl (E 0, 9, .inl u.1)), ((ma 65), .inl (E 0, 9, .inl u.2.1)), ((ma 66), .inl (E 0, 3, .inl u.2.2.1)), ((ma 67), .inl (E 0, 3, .inl u.2.2.2.1))])) A) [Value.ref mh, .int p0, .int p1, .int p2].toArray s 0 0 A) (F0 m 258 ls []) := by
                                        intro N_188
                                        induction N_188 with
                                        | zero => intro L7_258 mf65_258 H locs ls hm v_mf65_258 v0_258 v1_258 _ _ _ _; exfalso; omega
                                        | succ N_188 ih_187 =>
                                          intro L7_258 mf65_258 H locs ls hm v_mf65_258 v0_258 v1_258 hP hD hS hl
                                          have lo_L7_258 := i_lo L7_258; have hi_L7_258 := i_hi L7_258
                                          refine lv_iload hx hb dX9_deal_258 (lv_at hl 0 rfl) ?_
                                          refine lv_if_lt (tgt := 288) hx hb dX9_deal_260 (by decide) (fun c_189 => ?_) (fun c_189 => ?_)
                                          ·
                                            have ic_189 : L7_258.toInt < 0 := by first | exact (g_lt rfl t_0).mp c_189 | (have h := mt (g_le t_0 rfl).mpr c_189; omega)
                                            clear c_189
                                            refine lv_iload hx hb dX9_deal_288 (lv_at hl 0 rfl) ?_
                                            refine lv_if_lt (tgt := 297) hx hb dX9_deal_290 (by decide) (fun c_190 => ?_) (fun c_190 => absurd (by rw [g_lt rfl t_0]; omega) c_190)
                                            refine lv_iconst (v := 0) hx hb dX9_deal_297 (by decide) ?_
                                            refine lv_istore (lv' := [(6, .int 0), (7, .int L7_258), (5, .int L5_129), (4, .int 2), (0, .ref mh), (1, .int p0), (2, .int p1), (3, .int p2)]) hx hb dX9_deal_298 hl (by decide) rfl (fun ls hl => ?_)
                                            refine lv_iload hx hb dX9_deal_300 (lv_at hl 0 rfl) ?_
                                            refine lv_if_eq (tgt := 316) hx hb dX9_deal_302 (by decide) (fun c_191 => ?_) (fun c_191 => absurd (by decide) c_191)
                                            refine lv_goto (tgt := 129) hx hb dX9_deal_316 (by decide) ?_
                                            have hP := hP.sub (ws' := [(mh, .inr (9, G9 ma mcode mtoday moffs mmany msumW msumA msumR msumWW msumWA msumAA msumWR msumAR mupper mlower mrates mtaped mlaid mat mtk mtkAt mtkNumber mwaits mlisted mdealtMany)), ((ma 62), .inl (E 0, 9, .inl mf62)), ((ma 63), .inl (E 0, 9, .inl mf63_129)), ((ma 65), .inl (E 0, 9, .inl mf65_258)), ((ma 66), .inl (E 0, 3, .inl (upd g_128 (2 : Int32).toNatClampNeg p2))), ((ma 67), .inl (E 0, 3, .inl u_139))]) [3, 0, 1, 4, 2, 5] rfl
                                            have hD := hD.sub (ws' := [(mh, .inr (9, G9 ma mcode mtoday moffs mmany msumW msumA msumR msumWW msumWA msumAA msumWR msumAR mupper mlower mrates mtaped mlaid mat mtk mtkAt mtkNumber mwaits mlisted mdealtMany)), ((ma 62), .inl (E 0, 9, .inl mf62)), ((ma 63), .inl (E 0, 9, .inl mf63_129)), ((ma 65), .inl (E 0, 9, .inl mf65_258)), ((ma 66), .inl (E 0, 3, .inl (upd g_128 (2 : Int32).toNatClampNeg p2))), ((ma 67), .inl (E 0, 3, .inl u_139))]) [3, 0, 1, 4, 2, 5] (by decide) rfl
                                            exact ih_134 0 u_139 mf65_258 L5_129 mf63_129 _ _ _ (by have h := carry_e (n := mlisted) (i := L7_258) (by omega) (by omega) (by omega) v_mf65_258 v_mf65_129 v1_258; have h1 := t_0; omega) v_mf65_258 (by have h := carry_e (n := mlisted) (i := L7_258) (by omega) (by omega) (by omega) v_mf65_258 v_mf65_129 v1_258; have h1 := t_0; omega) hP hD hS (lv_sub hl [0, 2, 3, 4, 5, 6, 7] rfl)
                                          ·
                                            have ic_189 : 0 ≤ L7_258.toInt := by first | exact (g_le t_0 rfl).mp c_189 | (have h := mt (g_lt rfl t_0).mpr c_189; omega)
                                            clear c_189
                                            refine lv_aload_n hx hb dX9_deal_263 rfl (lv_at hl 4 rfl) ?_
                                            refine va_get (D := D) (ci := 9) (v := .ref (ma 65)) (C := RX9) (T := TX9) (N := 68) hx hb htb iX9 hown hK.1 hP 3 rfl rfl 65 (by decide) (htb _ k_1023) (fun _ h9 => h9) rfl dX9_deal_264 ?_
                                            refine lv_iload hx hb dX9_deal_267 (lv_at hl 0 rfl) ?_
                                            refine va_iald hx hb hK.1 hP 4 0 rfl rfl (g_in rfl (by omega) (by omega)) dX9_deal_269 ?_
                                            refine lv_topi (fun z_192 ez_192 => ?_)
                                            have kz_192 := congrArg Int32.toInt ez_192
                                            have jz_192 : 0 ≤ z_192.toInt ∧ z_192.toInt ≤ 3 := by rw [ez_192]; exact v_mf65_258 _ (g_ix rfl (by omega) (by omega))
                                            refine lv_iconst (v := 3) hx hb dX9_deal_270 (by decide) ?_
                                            refine lv_icmp_ne (tgt := 288) hx hb dX9_deal_271 (by decide) (fun c_193 => ?_) (fun c_193 => ?_)
                                            ·
                                              have ic_193 : z_192.toInt ≠ 3 := mt (g_eq rfl t_3).mpr c_193
                                              clear c_193
                                              refine lv_iload hx hb dX9_deal_288 (lv_at hl 0 rfl) ?_
                                              refine lv_if_lt (tgt := 297) hx hb dX9_deal_290 (by decide) (fun c_194 => absurd c_194 (by rw [g_lt rfl t_0]; omega)) (fun c_194 => ?_)
                                              refine lv_iconst (v := 1) hx hb dX9_deal_293 (by decide) ?_
                                              refine lv_goto (tgt := 298) hx hb dX9_deal_294 (by decide) ?_
                                              refine lv_istore (lv' := [(6, .int 1), (7, .int L7_258), (5, .int L5_129), (4, .int 2), (0, .ref mh), (1, .int p0), (2, .int p1), (3, .int p2)]) hx hb dX9_deal_298 hl (by decide) rfl (fun ls hl => ?_)
                                              refine lv_iload hx hb dX9_deal_300 (lv_at hl 0 rfl) ?_
                                              refine lv_if_eq (tgt := 316) hx hb dX9_deal_302 (by decide) (fun c_195 => absurd c_195 (by decide)) (fun c_195 => ?_)
                                              refine lv_aload_n hx hb dX9_deal_305 rfl (lv_at hl 4 rfl) ?_
                                              refine va_get (D := D) (ci := 9) (v := .ref (ma 65)) (C := RX9) (T := TX9) (N := 68) hx hb htb iX9 hown hK.1 hP 3 rfl rfl 65 (by decide) (htb _ k_1023) (fun _ h9 => h9) rfl dX9_deal_306 ?_
                                              refine lv_iload hx hb dX9_deal_309 (lv_at hl 1 rfl) ?_
                                              refine lv_dup2_11 hx hb dX9_deal_311 rfl rfl ?_
                                              refine va_iald hx hb hK.1 hP 4 0 rfl rfl (g_in rfl (by omega) (by omega)) dX9_deal_312 ?_
                                              refine lv_topi (fun z_196 ez_196 => ?_)
                                              have kz_196 := congrArg Int32.toInt ez_196
                                              have jz_196 : 0 ≤ z_196.toInt ∧ z_196.toInt ≤ 3 := by rw [ez_196]; exact v_mf65_258 _ (g_ix rfl (by omega) (by omega))
                                              refine lv_iconst (v := 1) hx hb dX9_deal_313 (by decide) ?_
                                              refine lv_iadd hx hb dX9_deal_314 ?_
                                              refine lv_topi (fun z_197 ez_197 => ?_)
                                              have jz_197 : z_197.toInt = z_196.toInt + 1 := by rw [ez_197]; exact g_add rfl t_1 (by omega) (by omega)
                                              refine va_iast hx hb hK.1 hP hD hS 4 0 rfl rfl (g_in rfl (by omega) (by omega)) dX9_deal_315 (fun H locs hP hD hS => ?_)
                                              have hP : va_P D vwCl [((ma 62), .inl (E 0, 9, .inl mf62)), ((ma 63), .inl (E 0, 9, .inl mf63_129)), ((ma 66), .inl (E 0, 3, .inl (upd g_128 (2 : Int32).toNatClampNeg p2))), (mh, .inr (9, G9 ma mcode mtoday moffs mmany msumW msumA msumR msumWW msumWA msumAA msumWR msumAR mupper mlower mrates mtaped mlaid mat mtk mtkAt mtkNumber mwaits mlisted mdealtMany)), ((ma 65), .inl (E 0, 9, .inl (upd mf65_258 (L7_258 : Int32).toNatClampNeg z_197))), ((ma 67), .inl (E 0, 3, .inl u_139))] H := hP
                                              have hD := toW hP hD rfl
                                              have hv_198 : ∀ k : Nat, k < 9 → 0 ≤ ((upd mf65_258 (L7_258 : Int32).toNatClampNeg z_197) k).toInt ∧ ((upd mf65_258 (L7_258 : Int32).toNatClampNeg z_197) k).toInt ≤ 3 := upd_r v_mf65_258 (by (try dsimp only); omega)
                                              refine lv_goto (tgt := 129) hx hb dX9_deal_316 (by decide) ?_
                                              have hP := hP.sub (ws' := [(mh, .inr (9, G9 ma mcode mtoday moffs mmany msumW msumA msumR msumWW msumWA msumAA msumWR msumAR mupper mlower mrates mtaped mlaid mat mtk mtkAt mtkNumber mwaits mlisted mdealtMany)), ((ma 62), .inl (E 0, 9, .inl mf62)), ((ma 63), .inl (E 0, 9, .inl mf63_129)), ((ma 65), .inl (E 0, 9, .inl (upd mf65_258 (L7_258 : Int32).toNatClampNeg z_197))), ((ma 66), .inl (E 0, 3, .inl (upd g_128 (2 : Int32).toNatClampNeg p2))), ((ma 67), .inl (E 0, 3, .inl u_139))]) [3, 0, 1, 4, 2, 5] rfl
                                              have hD := hD.sub (ws' := [(mh, .inr (9, G9 ma mcode mtoday moffs mmany msumW msumA msumR msumWW msumWA msumAA msumWR msumAR mupper mlower mrates mtaped mlaid mat mtk mtkAt mtkNumber mwaits mlisted mdealtMany)), ((ma 62), .inl (E 0, 9, .inl mf62)), ((ma 63), .inl (E 0, 9, .inl mf63_129)), ((ma 65), .inl (E 0, 9, .inl (upd mf65_258 (L7_258 : Int32).toNatClampNeg z_197))), ((ma 66), .inl (E 0, 3, .inl (upd g_128 (2 : Int32).toNatClampNeg p2))), ((ma 67), .inl (E 0, 3, .inl u_139))]) [3, 0, 1, 4, 2, 5] (by decide) rfl
                                              exact ih_134 1 u_139 (upd mf65_258 (L7_258 : Int32).toNatClampNeg z_197) L5_129 mf63_129 _ _ _ (by have hc := carry_1 (n := mlisted) (i := L7_258) (by omega) (by omega) ez_196 jz_197 v1_258; have h := val4_max (n := mlisted) hv_198 (by omega) (by omega); have h1 := t_1; omega) hv_198 (by have hc := carry_1 (n := mlisted) (i := L7_258) (by omega) (by omega) ez_196 jz_197 v1_258; have h := val4_max (n := mlisted) hv_198 (by omega) (by omega); have h1 := t_1; omega) hP hD hS (lv_sub hl [0, 2, 3, 4, 5, 6, 7] rfl)
                                            ·
                                              have ic_193 : z_192.toInt = 3 := (g_eq rfl t_3).mp c_193
                                              clear c_193
                                              refine lv_aload_n hx hb dX9_deal_274 rfl (lv_at hl 4 rfl) ?_
                                              refine va_get (D := D) (ci := 9) (v := .ref (ma 65)) (C := RX9) (T := TX9) (N := 68) hx hb htb iX9 hown hK.1 hP 3 rfl rfl 65 (by decide) (htb _ k_1023) (fun _ h9 => h9) rfl dX9_deal_275 ?_
                                              refine lv_iload hx hb dX9_deal_278 (lv_at hl 0 rfl) ?_
                                              refine lv_iconst (v := 0) hx hb dX9_deal_280 (by decide) ?_
                                              refine va_iast hx hb hK.1 hP hD hS 4 0 rfl rfl (g_in rfl (by omega) (by omega)) dX9_deal_281 (fun H locs hP hD hS => ?_)
                                              have hP : va_P D vwCl [((ma 62), .inl (E 0, 9, .inl mf62)), ((ma 63), .inl (E 0, 9, .inl mf63_129)), ((ma 66), .inl (E 0, 3, .inl (upd g_128 (2 : Int32).toNatClampNeg p2))), (mh, .inr (9, G9 ma mcode mtoday moffs mmany msumW msumA msumR msumWW msumWA msumAA msumWR msumAR mupper mlower mrates mtaped mlaid mat mtk mtkAt mtkNumber mwaits mlisted mdealtMany)), ((ma 65), .inl (E 0, 9, .inl (upd mf65_258 (L7_258 : Int32).toNatClampNeg 0))), ((ma 67), .inl (E 0, 3, .inl u_139))] H := hP
                                              have hD := toW hP hD rfl
                                              have hv_199 : ∀ k : Nat, k < 9 → 0 ≤ ((upd mf65_258 (L7_258 : Int32).toNatClampNeg 0) k).toInt ∧ ((upd mf65_258 (L7_258 : Int32).toNatClampNeg 0) k).toInt ≤ 3 := upd_r v_mf65_258 (by decide)
                                              obtain ⟨z_200, ez_200⟩ : ∃ y : Int32, y = L7_258 + (-1) := ⟨_, rfl⟩
                                              have jz_200 : z_200.toInt = L7_258.toInt + -1 := by rw [ez_200]; exact g_add rfl t_m1 (by omega) (by omega)
                                              refine lv_iinc (v := z_200) (lv' := [(7, .int z_200), (6, .int L6_129), (5, .int L5_129), (4, .int 2), (0, .ref mh), (1, .int p0), (2, .int p1), (3, .int p2)]) hx hb dX9_deal_282 hl (k := 0) rfl (by rw [ez_200]; rfl) (by decide) rfl (fun ls hl => ?_)
                                              refine lv_goto (tgt := 258) hx hb dX9_deal_285 (by decide) ?_
                                              exact ih_187 z_200 (upd mf65_258 (L7_258 : Int32).toNatClampNeg 0) _ _ _ (by have h0 := t_2; (try dsimp only); omega) hv_199 (by have h0 := t_2; (try dsimp only); omega) (carry_0 (by omega) (by omega) (by omega) ez_192 (by omega) v1_258) hP hD hS (lv_sub hl [0, 1, 2, 3, 4, 5, 6, 7] rfl)
                                      exact loop_186 10 z_185 mf65_129 _ _ _ (by have h0 := t_2; (try dsimp only); omega) v_mf65_129 (by have h0 := t_2; (try dsimp only); omega) (carry_s (by omega)) hP hD hS (lv_sub hl [0, 2, 3, 4, 5, 6, 7, 8] rfl)
                                    ·
                                      have ic_184 : L7_149.toInt < L5_129.toInt := by first | exact (g_lt rfl rfl).mp c_184 | (have h := mt (g_le rfl rfl).mpr c_184; omega)
                                      clear c_184
                                      refine lv_iload hx hb dX9_deal_214 (lv_at hl 1 rfl) ?_
                                      refine lv_istore (lv' := [(5, .int L7_149), (8, .int L8_149), (7, .int L7_149), (6, .int L6_129), (4, .int 2), (0, .ref mh), (1, .int p0), (2, .int p1), (3, .int p2)]) hx hb dX9_deal_216 hl (by decide) rfl (fun ls hl => ?_)
                                      refine lv_iconst (v := 0) hx hb dX9_deal_218 (by decide) ?_
                                      refine lv_istore (lv' := [(8, .int 0), (5, .int L7_149), (7, .int L7_149), (6, .int L6_129), (4, .int 2), (0, .ref mh), (1, .int p0), (2, .int p1), (3, .int p2)]) hx hb dX9_deal_219 hl (by decide) rfl (fun ls hl => ?_)
                                      have loop_201 : ∀ (N_203 : Nat) (L8_221 : Int32) (mf63_221 : Nat → Int32) (H : Heap) (locs : List Loc) (ls : Array Slot), mlisted.toInt - L8_221.toInt < (N_203 : Int) → (0 ≤ L8_221.toInt ∧ L8_221.toInt ≤ mlisted.toInt) → va_P D vwCl [((ma 62), .inl (E 0, 9, .inl mf62)), ((ma 63), .inl (E 0, 9, .inl mf63_221)), ((ma 66), .inl (E 0, 3, .inl (upd g_128 (2 : Int32).toNatClampNeg p2))), (mh, .inr (9, G9 ma mcode mtoday moffs mmany msumW msumA msumR msumWW msumWA msumAA msumWR msumAR mupper mlower mrates mtaped mlaid mat mtk mtkAt mtkNumber mwaits mlisted mdealtMany)), ((ma 65), .inl (E 0, 9, .inl mf65_129)), ((ma 67), .inl (E 0, 3, .inl u_139))] H → va_D A [((ma 62), .inl (E 0, 9, .inl mf62)), ((ma 63), .inl (E 0, 9, .inl mf63_221)), ((ma 66), .inl (E 0, 3, .inl (upd g_128 (2 : Int32).toNatClampNeg p2))), (mh, .inr (9, G9 ma mcode mtoday moffs mmany msumW msumA msumR msumWW msumWA msumAA msumWR msumAR mupper mlower mrates mtaped mlaid mat mtk mtkAt mtkNumber mwaits mlisted mdealtMany)), ((ma 65), .inl (E 0, 9, .inl mf65_129)), ((ma 67), .inl (E 0, 3, .inl u_139))] → va_S A s.heap H locs → lv_has ls 9 [(8, .int L8_221), (5, .int L7_149), (7, .int L7_149), (6, .int L6_129), (4, .int 2), (0, .ref mh), (1, .int p0), (2, .int p1), (3, .int p2)] → W p l e (headSpec (wl yX9_deal cX9_deal 9 (some .int)) (RM 1 0 0)).room s m [Value.ref mh, .int p0, .int p1, .int p2].toArray below meth c H locs 0 0 (MQ below (va_Qi (fun (r : Int32) (u : (Nat → Int32) × (Nat → Int32) × (Nat → Int32) × (Nat → Int32) × (Int32) × (Int32)) => (∀ k : Nat, k < 9 → 0 ≤ (u.2.1 k).toInt ∧ (u.2.1 k).toInt ≤ 3) ∧ (0 ≤ u.2.2.2.2.1.toInt ∧ u.2.2.2.2.1.toInt ≤ 9) ∧ (0 ≤ u.2.2.2.2.2.toInt ∧ u.2.2.2.2.2.toInt ≤ 9) ∧ ((¬ ((1 ≤ p0.toInt ∧ p0.toInt ≤ 400) ∧ (0 ≤ p1.toInt ∧ p1.toInt ≤ 400) ∧ (0 ≤ p2.toInt ∧ p2.toInt ≤ 400) ∧ ¬ (p1.toInt = 0 ∧ p2.toInt ≠ 0)) ∧ r.toInt = -1 ∧ u.2.2.2.2.2.toInt = mlisted.toInt) ∨ (((1 ≤ p0.toInt ∧ p0.toInt ≤ 400) ∧ (0 ≤ p1.toInt ∧ p1.toInt ≤ 400) ∧ (0 ≤ p2.toInt ∧ p2.toInt ≤ 400) ∧ ¬ (p1.toInt = 0 ∧ p2.toInt ≠ 0)) ∧ ((p1.toInt = 0 ∧ mlisted.toInt < 3) ∨ (p1.toInt ≠ 0 ∧ p2.toInt = 0 ∧ mlisted.toInt < 6) ∨ (p1.toInt ≠ 0 ∧ p2.toInt ≠ 0 ∧ mlisted.toInt < 9)) ∧ r.toInt = -4 ∧ u.2.2.2.2.2.toInt = mlisted.toInt) ∨ (((1 ≤ p0.toInt ∧ p0.toInt ≤ 400) ∧ (0 ≤ p1.toInt ∧ p1.toInt ≤ 400) ∧ (0 ≤ p2.toInt ∧ p2.toInt ≤ 400) ∧ ¬ (p1.toInt = 0 ∧ p2.toInt ≠ 0)) ∧ ¬ ((p1.toInt = 0 ∧ mlisted.toInt < 3) ∨ (p1.toInt ≠ 0 ∧ p2.toInt = 0 ∧ mlisted.toInt < 6) ∨ (p1.toInt ≠ 0 ∧ p2.toInt ≠ 0 ∧ mlisted.toInt < 9)) ∧ u.2.2.2.2.2.toInt = 0))) (mu_B D A (fun (u : (Nat → Int32) × (Nat → Int32) × (Nat → Int32) × (Nat → Int32) × (Int32) × (Int32)) => [(mh, .inr (9, G9 ma mcode mtoday moffs mmany msumW msumA msumR msumWW msumWA msumAA msumWR msumAR mupper mlower mrates mtaped mlaid mat mtk mtkAt mtkNumber mwaits u.2.2.2.2.2 u.2.2.2.2.1)), ((ma 62), .inl (E 0, 9, .inl mf62)), ((ma 63), .inl (E 0, 9, .inl u.1)), ((ma 65), .inl (E 0, 9, .inl u.2.1)), ((ma 66), .inl (E 0, 3, .inl u.2.2.1)), ((ma 67), .inl (E 0, 3, .inl u.2.2.2.1))])) A) [Value.ref mh, .int p0, .int p1, .int p2].toArray s 0 0 A) (F0 m 221 ls []) := by
                                        intro N_203
                                        induction N_203 with
                                        | zero => intro L8_221 mf63_221 H locs ls hm v0_221 _ _ _ _; exfalso; omega
                                        | succ N_203 ih_202 =>
                                          intro L8_221 mf63_221 H locs ls hm v0_221 hP hD hS hl
                                          have lo_L8_221 := i_lo L8_221; have hi_L8_221 := i_hi L8_221
                                          refine lv_iload hx hb dX9_deal_221 (lv_at hl 0 rfl) ?_
                                          refine lv_aload_n hx hb dX9_deal_223 rfl (lv_at hl 5 rfl) ?_
                                          refine va_get (D := D) (ci := 9) (v := .int mlisted) (C := RX9) (T := TX9) (N := 68) hx hb htb iX9 hown hK.1 hP 3 rfl rfl 61 (by decide) (htb _ k_1019) (fun _ h9 => h9) rfl dX9_deal_224 ?_
                                          refine lv_icmp_ge (tgt := 250) hx hb dX9_deal_227 (by decide) (fun c_204 => ?_) (fun c_204 => ?_)
                                          ·
                                            have ic_204 : mlisted.toInt ≤ L8_221.toInt := by first | exact (g_le rfl rfl).mp c_204 | (have h := mt (g_lt rfl rfl).mpr c_204; omega)
                                            clear c_204
                                            refine lv_aload_n hx hb dX9_deal_250 rfl (lv_at hl 5 rfl) ?_
                                            refine va_get (D := D) (ci := 9) (v := .int mlisted) (C := RX9) (T := TX9) (N := 68) hx hb htb iX9 hown hK.1 hP 3 rfl rfl 61 (by decide) (htb _ k_1019) (fun _ h9 => h9) rfl dX9_deal_251 ?_
                                            refine lv_iconst (v := 1) hx hb dX9_deal_254 (by decide) ?_
                                            refine lv_isub hx hb dX9_deal_255 ?_
                                            refine lv_topi (fun z_205 ez_205 => ?_)
                                            have jz_205 : z_205.toInt = mlisted.toInt - 1 := by rw [ez_205]; exact g_sub rfl t_1 (by omega) (by omega)
                                            refine lv_istore (lv' := [(7, .int z_205), (8, .int L8_221), (5, .int L7_149), (6, .int L6_129), (4, .int 2), (0, .ref mh), (1, .int p0), (2, .int p1), (3, .int p2)]) hx hb dX9_deal_256 hl (by decide) rfl (fun ls hl => ?_)
                                            have loop_206 : ∀ (N_208 : Nat) (L7_258 : Int32) (mf65_258 : Nat → Int32) (H : Heap) (locs : List Loc) (ls : Array Slot), L7_258.toInt + 1 < (N_208 : Int) → (∀ k : Nat, k < 9 → 0 ≤ (mf65_258 k).toInt ∧ (mf65_258 k).toInt ≤ 3) → (-1 ≤ L7_258.toInt ∧ L7_258.toInt < mlisted.toInt) → (val4 mf65_258 (mlisted).toNatClampNeg + 4 ^ (mlisted.toInt - 1 - L7_258.toInt).toNat = val4 mf65_129 (mlisted).toNatClampNeg + 1) → va_P D vwCl [((ma 62), .inl (E 0, 9, .inl mf62)), ((ma 63), .inl (E 0, 9, .inl mf63_221)), ((ma 66), .inl (E 0, 3, .inl (upd g_128 (2 : Int32).toNatClampNeg p2))), (mh, .inr (9, G9 ma mcode mtoday moffs mmany msumW msumA msumR msumWW msumWA msumAA msumWR msumAR mupper mlower mrates mtaped mlaid mat mtk mtkAt mtkNumber mwaits mlisted mdealtMany)), ((ma 65), .inl (E 0, 9, .inl mf65_258)), ((ma 67), .inl (E 0, 3, .inl u_139))] H → va_D A [((ma 62), .inl (E 0, 9, .inl mf62)), ((ma 63), .inl (E 0, 9, .inl mf63_221)), ((ma 66), .inl (E 0, 3, .inl (upd g_128 (2 : Int32).toNatClampNeg p2))), (mh, .inr (9, G9 ma mcode mtoday moffs mmany msumW msumA msumR msumWW msumWA msumAA msumWR msumAR mupper mlower mrates mtaped mlaid mat mtk mtkAt mtkNumber mwaits mlisted mdealtMany)), ((ma 65), .inl (E 0, 9, .inl mf65_258)), ((ma 67), .inl (E 0, 3, .inl u_139))] → va_S A s.heap H locs → lv_has ls 9 [(7, .int L7_258), (5, .int L7_149), (6, .int L6_129), (4, .int 2), (0, .ref mh), (1, .int p0), (2, .int p1), (3, .int p2)] → W p l e (headSpec (wl yX9_deal cX9_deal 9 (some .int)) (RM 1 0 0)).room s m [Value.ref mh, .int p0, .int p1, .int p2].toArray below meth c H locs 0 0 (MQ below (va_Qi (fun (r : Int32) (u : (Nat → Int32) × (Nat → Int32) × (Nat → Int32) × (Nat → Int32) × (Int32) × (Int32)) => (∀ k : Nat, k < 9 → 0 ≤ (u.2.1 k).toInt ∧ (u.2.1 k).toInt ≤ 3) ∧ (0 ≤ u.2.2.2.2.1.toInt ∧ u.2.2.2.2.1.toInt ≤ 9) ∧ (0 ≤ u.2.2.2.2.2.toInt ∧ u.2.2.2.2.2.toInt ≤ 9) ∧ ((¬ ((1 ≤ p0.toInt ∧ p0.toInt ≤ 400) ∧ (0 ≤ p1.toInt ∧ p1.toInt ≤ 400) ∧ (0 ≤ p2.toInt ∧ p2.toInt ≤ 400) ∧ ¬ (p1.toInt = 0 ∧ p2.toInt ≠ 0)) ∧ r.toInt = -1 ∧ u.2.2.2.2.2.toInt = mlisted.toInt) ∨ (((1 ≤ p0.toInt ∧ p0.toInt ≤ 400) ∧ (0 ≤ p1.toInt ∧ p1.toInt ≤ 400) ∧ (0 ≤ p2.toInt ∧ p2.toInt ≤ 400) ∧ ¬ (p1.toInt = 0 ∧ p2.toInt ≠ 0)) ∧ ((p1.toInt = 0 ∧ mlisted.toInt < 3) ∨ (p1.toInt ≠ 0 ∧ p2.toInt = 0 ∧ mlisted.toInt < 6) ∨ (p1.toInt ≠ 0 ∧ p2.toInt ≠ 0 ∧ mlisted.toInt < 9)) ∧ r.toInt = -4 ∧ u.2.2.2.2.2.toInt = mlisted.toInt) ∨ (((1 ≤ p0.toInt ∧ p0.toInt ≤ 400) ∧ (0 ≤ p1.toInt ∧ p1.toInt ≤ 400) ∧ (0 ≤ p2.toInt ∧ p2.toInt ≤ 400) ∧ ¬ (p1.toInt = 0 ∧ p2.toInt ≠ 0)) ∧ ¬ ((p1.toInt = 0 ∧ mlisted.toInt < 3) ∨ (p1.toInt ≠ 0 ∧ p2.toInt = 0 ∧ mlisted.toInt < 6) ∨ (p1.toInt ≠ 0 ∧ p2.toInt ≠ 0 ∧ mlisted.toInt < 9)) ∧ u.2.2.2.2.2.toInt = 0))) (mu_B D A (fun (u : (Nat → Int32) × (Nat → Int32) × (Nat → Int32) × (Nat → Int32) × (Int32) × (Int32)) => [(mh, .inr (9, G9 ma mcode mtoday moffs mmany msumW msumA msumR msumWW msumWA msumAA msumWR msumAR mupper mlower mrates mtaped mlaid mat mtk mtkAt mtkNumber mwaits u.2.2.2.2.2 u.2.2.2.2.1)), ((ma 62), .inl (E 0, 9, .inl mf62)), ((ma 63), .inl (E 0, 9, .inl u.1)), ((ma 65), .inl (E 0, 9, .inl u.2.1)), ((ma 66), .inl (E 0, 3, .inl u.2.2.1)), ((ma 67), .inl (E 0, 3, .inl u.2.2.2.1))])) A) [Value.ref mh, .int p0, .int p1, .int p2].toArray s 0 0 A) (F0 m 258 ls []) := by
                                              intro N_208
                                              induction N_208 with
                                              | zero => intro L7_258 mf65_258 H locs ls hm v_mf65_258 v0_258 v1_258 _ _ _ _; exfalso; omega
                                              | succ N_208 ih_207 =>
                                                intro L7_258 mf65_258 H locs ls hm v_mf65_258 v0_258 v1_258 hP hD hS hl
                                                have lo_L7_258 := i_lo L7_258; have hi_L7_258 := i_hi L7_258
                                                refine lv_iload hx hb dX9_deal_258 (lv_at hl 0 rfl) ?_
                                                refine lv_if_lt (tgt := 288) hx hb dX9_deal_260 (by decide) (fun c_209 => ?_) (fun c_209 => ?_)
                                                ·
                                                  have ic_209 : L7_258.toInt < 0 := by first | exact (g_lt rfl t_0).mp c_209 | (have h := mt (g_le t_0 rfl).mpr c_209; omega)
                                                  clear c_209
                                                  refine lv_iload hx hb dX9_deal_288 (lv_at hl 0 rfl) ?_
                                                  refine lv_if_lt (tgt := 297) hx hb dX9_deal_290 (by decide) (fun c_210 => ?_) (fun c_210 => absurd (by rw [g_lt rfl t_0]; omega) c_210)
                                                  refine lv_iconst (v := 0) hx hb dX9_deal_297 (by decide) ?_
                                                  refine lv_istore (lv' := [(6, .int 0), (7, .int L7_258), (5, .int L7_149), (4, .int 2), (0, .ref mh), (1, .int p0), (2, .int p1), (3, .int p2)]) hx hb dX9_deal_298 hl (by decide) rfl (fun ls hl => ?_)
                                                  refine lv_iload hx hb dX9_deal_300 (lv_at hl 0 rfl) ?_
                                                  refine lv_if_eq (tgt := 316) hx hb dX9_deal_302 (by decide) (fun c_211 => ?_) (fun c_211 => absurd (by decide) c_211)
                                                  refine lv_goto (tgt := 129) hx hb dX9_deal_316 (by decide) ?_
                                                  have hP := hP.sub (ws' := [(mh, .inr (9, G9 ma mcode mtoday moffs mmany msumW msumA msumR msumWW msumWA msumAA msumWR msumAR mupper mlower mrates mtaped mlaid mat mtk mtkAt mtkNumber mwaits mlisted mdealtMany)), ((ma 62), .inl (E 0, 9, .inl mf62)), ((ma 63), .inl (E 0, 9, .inl mf63_221)), ((ma 65), .inl (E 0, 9, .inl mf65_258)), ((ma 66), .inl (E 0, 3, .inl (upd g_128 (2 : Int32).toNatClampNeg p2))), ((ma 67), .inl (E 0, 3, .inl u_139))]) [3, 0, 1, 4, 2, 5] rfl
                                                  have hD := hD.sub (ws' := [(mh, .inr (9, G9 ma mcode mtoday moffs mmany msumW msumA msumR msumWW msumWA msumAA msumWR msumAR mupper mlower mrates mtaped mlaid mat mtk mtkAt mtkNumber mwaits mlisted mdealtMany)), ((ma 62), .inl (E 0, 9, .inl mf62)), ((ma 63), .inl (E 0, 9, .inl mf63_221)), ((ma 65), .inl (E 0, 9, .inl mf65_258)), ((ma 66), .inl (E 0, 3, .inl (upd g_128 (2 : Int32).toNatClampNeg p2))), ((ma 67), .inl (E 0, 3, .inl u_139))]) [3, 0, 1, 4, 2, 5] (by decide) rfl
                                                  exact ih_134 0 u_139 mf65_258 L7_149 mf63_221 _ _ _ (by have h := carry_e (n := mlisted) (i := L7_258) (by omega) (by omega) (by omega) v_mf65_258 v_mf65_129 v1_258; have h1 := t_0; omega) v_mf65_258 (by have h := carry_e (n := mlisted) (i := L7_258) (by omega) (by omega) (by omega) v_mf65_258 v_mf65_129 v1_258; have h1 := t_0; omega) hP hD hS (lv_sub hl [0, 2, 3, 4, 5, 6, 7] rfl)
                                                ·
                                                  have ic_209 : 0 ≤ L7_258.toInt := by first | exact (g_le t_0 rfl).mp c_209 | (have h := mt (g_lt rfl t_0).mpr c_209; omega)
                                                  clear c_209
                                                  refine lv_aload_n hx hb dX9_deal_263 rfl (lv_at hl 4 rfl) ?_
                                                  refine va_get (D := D) (ci := 9) (v := .ref (ma 65)) (C := RX9) (T := TX9) (N := 68) hx hb htb iX9 hown hK.1 hP 3 rfl rfl 65 (by decide) (htb _ k_1023) (fun _ h9 => h9) rfl dX9_deal_264 ?_
                                                  refine lv_iload hx hb dX9_deal_267 (lv_at hl 0 rfl) ?_
                                                  refine va_iald hx hb hK.1 hP 4 0 rfl rfl (g_in rfl (by omega) (by omega)) dX9_deal_269 ?_
                                                  refine lv_topi (fun z_212 ez_212 => ?_)
                                                  have kz_212 := congrArg Int32.toInt ez_212
                                                  have jz_212 : 0 ≤ z_212.toInt ∧ z_212.toInt ≤ 3 := by rw [ez_212]; exact v_mf65_258 _ (g_ix rfl (by omega) (by omega))
                                                  refine lv_iconst (v := 3) hx hb dX9_deal_270 (by decide) ?_
                                                  refine lv_icmp_ne (tgt := 288) hx hb dX9_deal_271 (by decide) (fun c_213 => ?_) (fun c_213 => ?_)
                                                  ·
                                                    have ic_213 : z_212.toInt ≠ 3 := mt (g_eq rfl t_3).mpr c_213
                                                    clear c_213
                                                    refine lv_iload hx hb dX9_deal_288 (lv_at hl 0 rfl) ?_
                                                    refine lv_if_lt (tgt := 297) hx hb dX9_deal_290 (by decide) (fun c_214 => absurd c_214 (by rw [g_lt rfl t_0]; omega)) (fun c_214 => ?_)
                                                    refine lv_iconst (v := 1) hx hb dX9_deal_293 (by decide) ?_
                                                    refine lv_goto (tgt := 298) hx hb dX9_deal_294 (by decide) ?_
                                                    refine lv_istore (lv' := [(6, .int 1), (7, .int L7_258), (5, .int L7_149), (4, .int 2), (0, .ref mh), (1, .int p0), (2, .int p1), (3, .int p2)]) hx hb dX9_deal_298 hl (by decide) rfl (fun ls hl => ?_)
                                                    refine lv_iload hx hb dX9_deal_300 (lv_at hl 0 rfl) ?_
                                                    refine lv_if_eq (tgt := 316) hx hb dX9_deal_302 (by decide) (fun c_215 => absurd c_215 (by decide)) (fun c_215 => ?_)
                                                    refine lv_aload_n hx hb dX9_deal_305 rfl (lv_at hl 4 rfl) ?_
                                                    refine va_get (D := D) (ci := 9) (v := .ref (ma 65)) (C := RX9) (T := TX9) (N := 68) hx hb htb iX9 hown hK.1 hP 3 rfl rfl 65 (by decide) (htb _ k_1023) (fun _ h9 => h9) rfl dX9_deal_306 ?_
                                                    refine lv_iload hx hb dX9_deal_309 (lv_at hl 1 rfl) ?_
                                                    refine lv_dup2_11 hx hb dX9_deal_311 rfl rfl ?_
                                                    refine va_iald hx hb hK.1 hP 4 0 rfl rfl (g_in rfl (by omega) (by omega)) dX9_deal_312 ?_
                                                    refine lv_topi (fun z_216 ez_216 => ?_)
                                                    have kz_216 := congrArg Int32.toInt ez_216
                                                    have jz_216 : 0 ≤ z_216.toInt ∧ z_216.toInt ≤ 3 := by rw [ez_216]; exact v_mf65_258 _ (g_ix rfl (by omega) (by omega))
                                                    refine lv_iconst (v := 1) hx hb dX9_deal_313 (by decide) ?_
                                                    refine lv_iadd hx hb dX9_deal_314 ?_
                                                    refine lv_topi (fun z_217 ez_217 => ?_)
                                                    have jz_217 : z_217.toInt = z_216.toInt + 1 := by rw [ez_217]; exact g_add rfl t_1 (by omega) (by omega)
                                                    refine va_iast hx hb hK.1 hP hD hS 4 0 rfl rfl (g_in rfl (by omega) (by omega)) dX9_deal_315 (fun H locs hP hD hS => ?_)
                                                    have hP : va_P D vwCl [((ma 62), .inl (E 0, 9, .inl mf62)), ((ma 63), .inl (E 0, 9, .inl mf63_221)), ((ma 66), .inl (E 0, 3, .inl (upd g_128 (2 : Int32).toNatClampNeg p2))), (mh, .inr (9, G9 ma mcode mtoday moffs mmany msumW msumA msumR msumWW msumWA msumAA msumWR msumAR mupper mlower mrates mtaped mlaid mat mtk mtkAt mtkNumber mwaits mlisted mdealtMany)), ((ma 65), .inl (E 0, 9, .inl (upd mf65_258 (L7_258 : Int32).toNatClampNeg z_217))), ((ma 67), .inl (E 0, 3, .inl u_139))] H := hP
                                                    have hD := toW hP hD rfl
                                                    have hv_218 : ∀ k : Nat, k < 9 → 0 ≤ ((upd mf65_258 (L7_258 : Int32).toNatClampNeg z_217) k).toInt ∧ ((upd mf65_258 (L7_258 : Int32).toNatClampNeg z_217) k).toInt ≤ 3 := upd_r v_mf65_258 (by (try dsimp only); omega)
                                                    refine lv_goto (tgt := 129) hx hb dX9_deal_316 (by decide) ?_
                                                    have hP := hP.sub (ws' := [(mh, .inr (9, G9 ma mcode mtoday moffs mmany msumW msumA msumR msumWW msumWA msumAA msumWR msumAR mupper mlower mrates mtaped mlaid mat mtk mtkAt mtkNumber mwaits mlisted mdealtMany)), ((ma 62), .inl (E 0, 9, .inl mf62)), ((ma 63), .inl (E 0, 9, .inl mf63_221)), ((ma 65), .inl (E 0, 9, .inl (upd mf65_258 (L7_258 : Int32).toNatClampNeg z_217))), ((ma 66), .inl (E 0, 3, .inl (upd g_128 (2 : Int32).toNatClampNeg p2))), ((ma 67), .inl (E 0, 3, .inl u_139))]) [3, 0, 1, 4, 2, 5] rfl
                                                    have hD := hD.sub (ws' := [(mh, .inr (9, G9 ma mcode mtoday moffs mmany msumW msumA msumR msumWW msumWA msumAA msumWR msumAR mupper mlower mrates mtaped mlaid mat mtk mtkAt mtkNumber mwaits mlisted mdealtMany)), ((ma 62), .inl (E 0, 9, .inl mf62)), ((ma 63), .inl (E 0, 9, .inl mf63_221)), ((ma 65), .inl (E 0, 9, .inl (upd mf65_258 (L7_258 : Int32).toNatClampNeg z_217))), ((ma 66), .inl (E 0, 3, .inl (upd g_128 (2 : Int32).toNatClampNeg p2))), ((ma 67), .inl (E 0, 3, .inl u_139))]) [3, 0, 1, 4, 2, 5] (by decide) rfl
                                                    exact ih_134 1 u_139 (upd mf65_258 (L7_258 : Int32).toNatClampNeg z_217) L7_149 mf63_221 _ _ _ (by have hc := carry_1 (n := mlisted) (i := L7_258) (by omega) (by omega) ez_216 jz_217 v1_258; have h := val4_max (n := mlisted) hv_218 (by omega) (by omega); have h1 := t_1; omega) hv_218 (by have hc := carry_1 (n := mlisted) (i := L7_258) (by omega) (by omega) ez_216 jz_217 v1_258; have h := val4_max (n := mlisted) hv_218 (by omega) (by omega); have h1 := t_1; omega) hP hD hS (lv_sub hl [0, 2, 3, 4, 5, 6, 7] rfl)
                                                  ·
                                                    have ic_213 : z_212.toInt = 3 := (g_eq rfl t_3).mp c_213
                                                    clear c_213
                                                    refine lv_aload_n hx hb dX9_deal_274 rfl (lv_at hl 4 rfl) ?_
                                                    refine va_get (D := D) (ci := 9) (v := .ref (ma 65)) (C := RX9) (T := TX9) (N := 68) hx hb htb iX9 hown hK.1 hP 3 rfl rfl 65 (by decide) (htb _ k_1023) (fun _ h9 => h9) rfl dX9_deal_275 ?_
                                                    refine lv_iload hx hb dX9_deal_278 (lv_at hl 0 rfl) ?_
                                                    refine lv_iconst (v := 0) hx hb dX9_deal_280 (by decide) ?_
                                                    refine va_iast hx hb hK.1 hP hD hS 4 0 rfl rfl (g_in rfl (by omega) (by omega)) dX9_deal_281 (fun H locs hP hD hS => ?_)
                                                    have hP : va_P D vwCl [((ma 62), .inl (E 0, 9, .inl mf62)), ((ma 63), .inl (E 0, 9, .inl mf63_221)), ((ma 66), .inl (E 0, 3, .inl (upd g_128 (2 : Int32).toNatClampNeg p2))), (mh, .inr (9, G9 ma mcode mtoday moffs mmany msumW msumA msumR msumWW msumWA msumAA msumWR msumAR mupper mlower mrates mtaped mlaid mat mtk mtkAt mtkNumber mwaits mlisted mdealtMany)), ((ma 65), .inl (E 0, 9, .inl (upd mf65_258 (L7_258 : Int32).toNatClampNeg 0))), ((ma 67), .inl (E 0, 3, .inl u_139))] H := hP
                                                    have hD := toW hP hD rfl
                                                    have hv_219 : ∀ k : Nat, k < 9 → 0 ≤ ((upd mf65_258 (L7_258 : Int32).toNatClampNeg 0) k).toInt ∧ ((upd mf65_258 (L7_258 : Int32).toNatClampNeg 0) k).toInt ≤ 3 := upd_r v_mf65_258 (by decide)
                                                    obtain ⟨z_220, ez_220⟩ : ∃ y : Int32, y = L7_258 + (-1) := ⟨_, rfl⟩
                                                    have jz_220 : z_220.toInt = L7_258.toInt + -1 := by rw [ez_220]; exact g_add rfl t_m1 (by omega) (by omega)
                                                    refine lv_iinc (v := z_220) (lv' := [(7, .int z_220), (5, .int L7_149), (6, .int L6_129), (4, .int 2), (0, .ref mh), (1, .int p0), (2, .int p1), (3, .int p2)]) hx hb dX9_deal_282 hl (k := 0) rfl (by rw [ez_220]; rfl) (by decide) rfl (fun ls hl => ?_)
                                                    refine lv_goto (tgt := 258) hx hb dX9_deal_285 (by decide) ?_
                                                    exact ih_207 z_220 (upd mf65_258 (L7_258 : Int32).toNatClampNeg 0) _ _ _ (by have h0 := t_2; (try dsimp only); omega) hv_219 (by have h0 := t_2; (try dsimp only); omega) (carry_0 (by omega) (by omega) (by omega) ez_212 (by omega) v1_258) hP hD hS (lv_sub hl [0, 1, 2, 3, 4, 5, 6, 7] rfl)
                                            exact loop_206 10 z_205 mf65_129 _ _ _ (by have h0 := t_2; (try dsimp only); omega) v_mf65_129 (by have h0 := t_2; (try dsimp only); omega) (carry_s (by omega)) hP hD hS (lv_sub hl [0, 2, 3, 4, 5, 6, 7, 8] rfl)
                                          ·
                                            have ic_204 : L8_221.toInt < mlisted.toInt := by first | exact (g_lt rfl rfl).mp c_204 | (have h := mt (g_le rfl rfl).mpr c_204; omega)
                                            clear c_204
                                            refine lv_aload_n hx hb dX9_deal_230 rfl (lv_at hl 5 rfl) ?_
                                            refine va_get (D := D) (ci := 9) (v := .ref (ma 63)) (C := RX9) (T := TX9) (N := 68) hx hb htb iX9 hown hK.1 hP 3 rfl rfl 63 (by decide) (htb _ k_1021) (fun _ h9 => h9) rfl dX9_deal_231 ?_
                                            refine lv_iload hx hb dX9_deal_234 (lv_at hl 0 rfl) ?_
                                            refine lv_aload_n hx hb dX9_deal_236 rfl (lv_at hl 5 rfl) ?_
                                            refine va_get (D := D) (ci := 9) (v := .ref (ma 65)) (C := RX9) (T := TX9) (N := 68) hx hb htb iX9 hown hK.1 hP 3 rfl rfl 65 (by decide) (htb _ k_1023) (fun _ h9 => h9) rfl dX9_deal_237 ?_
                                            refine lv_iload hx hb dX9_deal_240 (lv_at hl 0 rfl) ?_
                                            refine va_iald hx hb hK.1 hP 4 0 rfl rfl (g_in rfl (by omega) (by omega)) dX9_deal_242 ?_
                                            refine lv_topi (fun z_221 ez_221 => ?_)
                                            have kz_221 := congrArg Int32.toInt ez_221
                                            have jz_221 : 0 ≤ z_221.toInt ∧ z_221.toInt ≤ 3 := by rw [ez_221]; exact v_mf65_129 _ (g_ix rfl (by omega) (by omega))
                                            refine va_iast hx hb hK.1 hP hD hS 1 0 rfl rfl (g_in rfl (by omega) (by omega)) dX9_deal_243 (fun H locs hP hD hS => ?_)
                                            have hP : va_P D vwCl [((ma 62), .inl (E 0, 9, .inl mf62)), ((ma 63), .inl (E 0, 9, .inl (upd mf63_221 (L8_221 : Int32).toNatClampNeg z_221))), ((ma 66), .inl (E 0, 3, .inl (upd g_128 (2 : Int32).toNatClampNeg p2))), (mh, .inr (9, G9 ma mcode mtoday moffs mmany msumW msumA msumR msumWW msumWA msumAA msumWR msumAR mupper mlower mrates mtaped mlaid mat mtk mtkAt mtkNumber mwaits mlisted mdealtMany)), ((ma 65), .inl (E 0, 9, .inl mf65_129)), ((ma 67), .inl (E 0, 3, .inl u_139))] H := hP
                                            have hD := toW hP hD rfl
                                            obtain ⟨z_222, ez_222⟩ : ∃ y : Int32, y = L8_221 + 1 := ⟨_, rfl⟩
                                            have jz_222 : z_222.toInt = L8_221.toInt + 1 := by rw [ez_222]; exact g_add rfl t_1 (by omega) (by omega)
                                            refine lv_iinc (v := z_222) (lv' := [(8, .int z_222), (5, .int L7_149), (7, .int L7_149), (6, .int L6_129), (4, .int 2), (0, .ref mh), (1, .int p0), (2, .int p1), (3, .int p2)]) hx hb dX9_deal_244 hl (k := 0) rfl (by rw [ez_222]; rfl) (by decide) rfl (fun ls hl => ?_)
                                            refine lv_goto (tgt := 221) hx hb dX9_deal_247 (by decide) ?_
                                            exact ih_202 z_222 (upd mf63_221 (L8_221 : Int32).toNatClampNeg z_221) _ _ _ (by have h0 := t_2; (try dsimp only); omega) (by have h0 := t_2; (try dsimp only); omega) hP hD hS (lv_sub hl [0, 1, 2, 3, 4, 5, 6, 7, 8] rfl)
                                      exact loop_201 10 0 mf63_129 _ _ _ (by have h0 := t_0; have h1 := t_2; (try dsimp only); omega) (by have h0 := t_0; have h1 := t_2; (try dsimp only); omega) hP hD hS (lv_sub hl [0, 1, 2, 3, 4, 5, 6, 7, 8] rfl)
                                ·
                                  have ic_160 : L8_149.toInt < 2 := by first | exact (g_lt rfl t_2).mp c_160 | (have h := mt (g_le t_2 rfl).mpr c_160; omega)
                                  clear c_160
                                  refine lv_aload_n hx hb dX9_deal_156 rfl (lv_at hl 5 rfl) ?_
                                  refine va_get (D := D) (ci := 9) (v := .ref (ma 66)) (C := RX9) (T := TX9) (N := 68) hx hb htb iX9 hown hK.1 hP 3 rfl rfl 66 (by decide) (htb _ k_1024) (fun _ h9 => h9) rfl dX9_deal_157 ?_
                                  refine lv_iload hx hb dX9_deal_160 (lv_at hl 0 rfl) ?_
                                  refine va_iald hx hb hK.1 hP 2 0 rfl rfl (g_in rfl (by omega) (by omega)) dX9_deal_162 ?_
                                  refine lv_topi (fun z_223 ez_223 => ?_)
                                  have kz_223 := congrArg Int32.toInt ez_223
                                  refine lv_aload_n hx hb dX9_deal_163 rfl (lv_at hl 5 rfl) ?_
                                  refine lv_iload hx hb dX9_deal_164 (lv_at hl 0 rfl) ?_
                                  refine callRV (rest := [.int z_223]) (As := [.int L8_149]) hx hb hml hown htb hK (g_X9_secondOf l D E mh ma mcode mtoday moffs mmany msumW msumA msumR msumWW msumWA msumAA msumWR msumAR mupper mlower mrates mtaped mlaid mat mtk mtkAt mtkNumber mwaits mlisted mdealtMany mf62 mf65_129 L8_149 (by (try dsimp only); omega) v_mf65_129) ok_X9_secondOf k_1468 k_1470 ks_66 k_9 k_1471 ⟨(Nat.le_of_ble_eq_true rfl), (Nat.le_of_ble_eq_true rfl)⟩ ⟨(Nat.le_of_ble_eq_true rfl), (Nat.le_of_ble_eq_true rfl)⟩ hl.1 (Nat.le_of_ble_eq_true rfl) rfl rfl dX9_deal_166 (hP.sub (ws' := [(mh, .inr (9, G9 ma mcode mtoday moffs mmany msumW msumA msumR msumWW msumWA msumAA msumWR msumAR mupper mlower mrates mtaped mlaid mat mtk mtkAt mtkNumber mwaits mlisted mdealtMany)), ((ma 62), .inl (E 0, 9, .inl mf62)), ((ma 65), .inl (E 0, 9, .inl mf65_129))]) [3, 0, 4] rfl) rfl rfl 0 rfl (fun r_224 hw_225 => ?_)
                                  refine lv_imul hx hb dX9_deal_169 ?_
                                  refine lv_topi (fun z_227 ez_227 => ?_)
                                  refine lv_iload hx hb dX9_deal_170 (lv_at hl 1 rfl) ?_
                                  refine lv_icmp_le (tgt := 192) hx hb dX9_deal_172 (by decide) (fun c_228 => ?_) (fun c_228 => ?_)
                                  ·
                                    have ic_228 : z_227.toInt ≤ L7_149.toInt := by first | exact (g_le rfl rfl).mp c_228 | (have h := mt (g_lt rfl rfl).mpr c_228; omega)
                                    clear c_228
                                    refine lv_iload hx hb dX9_deal_192 (lv_at hl 1 rfl) ?_
                                    refine lv_istore (lv' := [(7, .int L7_149), (8, .int L8_149), (6, .int L6_129), (5, .int L5_129), (4, .int 2), (0, .ref mh), (1, .int p0), (2, .int p1), (3, .int p2)]) hx hb dX9_deal_194 hl (by decide) rfl (fun ls hl => ?_)
                                    obtain ⟨z_229, ez_229⟩ : ∃ y : Int32, y = L8_149 + 1 := ⟨_, rfl⟩
                                    have jz_229 : z_229.toInt = L8_149.toInt + 1 := by rw [ez_229]; exact g_add rfl t_1 (by omega) (by omega)
                                    refine lv_iinc (v := z_229) (lv' := [(8, .int z_229), (7, .int L7_149), (6, .int L6_129), (5, .int L5_129), (4, .int 2), (0, .ref mh), (1, .int p0), (2, .int p1), (3, .int p2)]) hx hb dX9_deal_196 hl (k := 1) rfl (by rw [ez_229]; rfl) (by decide) rfl (fun ls hl => ?_)
                                    refine lv_goto (tgt := 149) hx hb dX9_deal_199 (by decide) ?_
                                    exact ih_158 z_229 L7_149 _ _ _ (by have h0 := t_2; (try dsimp only); omega) (by have h0 := t_2; (try dsimp only); omega) hP hD hS (lv_sub hl [0, 1, 2, 3, 4, 5, 6, 7, 8] rfl)
                                  ·
                                    have ic_228 : L7_149.toInt < z_227.toInt := by first | exact (g_lt rfl rfl).mp c_228 | (have h := mt (g_le rfl rfl).mpr c_228; omega)
                                    clear c_228
                                    refine lv_aload_n hx hb dX9_deal_175 rfl (lv_at hl 5 rfl) ?_
                                    refine va_get (D := D) (ci := 9) (v := .ref (ma 66)) (C := RX9) (T := TX9) (N := 68) hx hb htb iX9 hown hK.1 hP 3 rfl rfl 66 (by decide) (htb _ k_1024) (fun _ h9 => h9) rfl dX9_deal_176 ?_
                                    refine lv_iload hx hb dX9_deal_179 (lv_at hl 0 rfl) ?_
                                    refine va_iald hx hb hK.1 hP 2 0 rfl rfl (g_in rfl (by omega) (by omega)) dX9_deal_181 ?_
                                    refine lv_topi (fun z_230 ez_230 => ?_)
                                    have kz_230 := congrArg Int32.toInt ez_230
                                    refine lv_aload_n hx hb dX9_deal_182 rfl (lv_at hl 5 rfl) ?_
                                    refine lv_iload hx hb dX9_deal_183 (lv_at hl 0 rfl) ?_
                                    refine callRV (rest := [.int z_230]) (As := [.int L8_149]) hx hb hml hown htb hK (g_X9_secondOf l D E mh ma mcode mtoday moffs mmany msumW msumA msumR msumWW msumWA msumAA msumWR msumAR mupper mlower mrates mtaped mlaid mat mtk mtkAt mtkNumber mwaits mlisted mdealtMany mf62 mf65_129 L8_149 (by (try dsimp only); omega) v_mf65_129) ok_X9_secondOf k_1468 k_1470 ks_66 k_9 k_1471 ⟨(Nat.le_of_ble_eq_true rfl), (Nat.le_of_ble_eq_true rfl)⟩ ⟨(Nat.le_of_ble_eq_true rfl), (Nat.le_of_ble_eq_true rfl)⟩ hl.1 (Nat.le_of_ble_eq_true rfl) rfl rfl dX9_deal_185 (hP.sub (ws' := [(mh, .inr (9, G9 ma mcode mtoday moffs mmany msumW msumA msumR msumWW msumWA msumAA msumWR msumAR mupper mlower mrates mtaped mlaid mat mtk mtkAt mtkNumber mwaits mlisted mdealtMany)), ((ma 62), .inl (E 0, 9, .inl mf62)), ((ma 65), .inl (E 0, 9, .inl mf65_129))]) [3, 0, 4] rfl) rfl rfl 0 rfl (fun r_231 hw_232 => ?_)
                                    refine lv_imul hx hb dX9_deal_188 ?_
                                    refine lv_topi (fun z_234 ez_234 => ?_)
                                    refine lv_goto (tgt := 194) hx hb dX9_deal_189 (by decide) ?_
                                    refine lv_istore (lv' := [(7, .int z_234), (8, .int L8_149), (6, .int L6_129), (5, .int L5_129), (4, .int 2), (0, .ref mh), (1, .int p0), (2, .int p1), (3, .int p2)]) hx hb dX9_deal_194 hl (by decide) rfl (fun ls hl => ?_)
                                    obtain ⟨z_235, ez_235⟩ : ∃ y : Int32, y = L8_149 + 1 := ⟨_, rfl⟩
                                    have jz_235 : z_235.toInt = L8_149.toInt + 1 := by rw [ez_235]; exact g_add rfl t_1 (by omega) (by omega)
                                    refine lv_iinc (v := z_235) (lv' := [(8, .int z_235), (7, .int z_234), (6, .int L6_129), (5, .int L5_129), (4, .int 2), (0, .ref mh), (1, .int p0), (2, .int p1), (3, .int p2)]) hx hb dX9_deal_196 hl (k := 1) rfl (by rw [ez_235]; rfl) (by decide) rfl (fun ls hl => ?_)
                                    refine lv_goto (tgt := 149) hx hb dX9_deal_199 (by decide) ?_
                                    exact ih_158 z_235 z_234 _ _ _ (by have h0 := t_2; (try dsimp only); omega) (by have h0 := t_2; (try dsimp only); omega) hP hD hS (lv_sub hl [0, 1, 2, 3, 4, 5, 6, 7, 8] rfl)
                            exact loop_157 4 0 0 _ _ _ (by have h0 := t_0; have h1 := t_2; (try dsimp only); omega) (by have h0 := t_0; have h1 := t_2; (try dsimp only); omega) hP hD hS (lv_sub hl [0, 1, 2, 3, 4, 5, 6, 7, 8] rfl)
                    exact loop_133 262146 1 mf67 mf65_103 ((-1)) mf63 _ _ _ (by have h := val4_max (n := mlisted) v_mf65_103 (by omega) (by omega); have h1 := t_1; omega) v_mf65_103 (by have h := val4_max (n := mlisted) v_mf65_103 (by omega) (by omega); have h1 := t_1; omega) hP hD hS (lv_sub hl [0, 1, 2, 3, 4, 5, 6] rfl)
                  ·
                    have ic_132 : L6_103.toInt < mlisted.toInt := by first | exact (g_lt rfl rfl).mp c_132 | (have h := mt (g_le rfl rfl).mpr c_132; omega)
                    clear c_132
                    refine lv_aload_n hx hb dX9_deal_112 rfl (lv_at hl 3 rfl) ?_
                    refine va_get (D := D) (ci := 9) (v := .ref (ma 65)) (C := RX9) (T := TX9) (N := 68) hx hb htb iX9 hown hK.1 hP 0 rfl rfl 65 (by decide) (htb _ k_1023) (fun _ h9 => h9) rfl dX9_deal_113 ?_
                    refine lv_iload hx hb dX9_deal_116 (lv_at hl 0 rfl) ?_
                    refine lv_iconst (v := 0) hx hb dX9_deal_118 (by decide) ?_
                    refine va_iast hx hb hK.1 hP hD hS 3 0 rfl rfl (g_in rfl (by omega) (by omega)) dX9_deal_119 (fun H locs hP hD hS => ?_)
                    have hP : va_P D vwCl [(mh, .inr (9, G9 ma mcode mtoday moffs mmany msumW msumA msumR msumWW msumWA msumAA msumWR msumAR mupper mlower mrates mtaped mlaid mat mtk mtkAt mtkNumber mwaits mlisted mdealtMany)), ((ma 62), .inl (E 0, 9, .inl mf62)), ((ma 63), .inl (E 0, 9, .inl mf63)), ((ma 65), .inl (E 0, 9, .inl (upd mf65_103 (L6_103 : Int32).toNatClampNeg 0))), ((ma 66), .inl (E 0, 3, .inl (upd g_128 (2 : Int32).toNatClampNeg p2))), ((ma 67), .inl (E 0, 3, .inl mf67))] H := hP
                    have hD := toW hP hD rfl
                    have hv_236 : ∀ k : Nat, k < 9 → 0 ≤ ((upd mf65_103 (L6_103 : Int32).toNatClampNeg 0) k).toInt ∧ ((upd mf65_103 (L6_103 : Int32).toNatClampNeg 0) k).toInt ≤ 3 := upd_r v_mf65_103 (by decide)
                    obtain ⟨z_237, ez_237⟩ : ∃ y : Int32, y = L6_103 + 1 := ⟨_, rfl⟩
                    have jz_237 : z_237.toInt = L6_103.toInt + 1 := by rw [ez_237]; exact g_add rfl t_1 (by omega) (by omega)
                    refine lv_iinc (v := z_237) (lv' := [(6, .int z_237), (5, .int (-1)), (4, .int 2), (0, .ref mh), (1, .int p0), (2, .int p1), (3, .int p2)]) hx hb dX9_deal_120 hl (k := 0) rfl (by rw [ez_237]; rfl) (by decide) rfl (fun ls hl => ?_)
                    refine lv_goto (tgt := 103) hx hb dX9_deal_123 (by decide) ?_
                    exact ih_130 z_237 (upd mf65_103 (L6_103 : Int32).toNatClampNeg 0) _ _ _ (by have h0 := t_m1; have h1 := t_2; (try dsimp only); omega) hv_236 (by have h0 := t_m1; have h1 := t_2; (try dsimp only); omega) hP hD hS (lv_sub hl [0, 1, 2, 3, 4, 5, 6] rfl)
              exact loop_129 10 0 mf65 _ _ _ (by have h0 := t_m1; have h1 := t_0; have h2 := t_2; (try dsimp only); omega) hr_m65 (by have h0 := t_m1; have h1 := t_0; have h2 := t_2; (try dsimp only); omega) hP hD hS (lv_sub hl [0, 1, 2, 3, 4, 5, 6] rfl)
            ·
              have ic_127 : mlisted.toInt < 6 := by first | exact (g_lt rfl t_6).mp c_127 | (have h := mt (g_le t_6 rfl).mpr c_127; omega)
              clear c_127
              refine lv_bipush (v := (-4)) hx hb dX9_deal_73 (by decide) ?_
              have hP9 := hP.sub (ws' := [(mh, .inr (9, G9 ma mcode mtoday moffs mmany msumW msumA msumR msumWW msumWA msumAA msumWR msumAR mupper mlower mrates mtaped mlaid mat mtk mtkAt mtkNumber mwaits mlisted mdealtMany)), ((ma 62), .inl (E 0, 9, .inl mf62)), ((ma 63), .inl (E 0, 9, .inl mf63)), ((ma 65), .inl (E 0, 9, .inl mf65)), ((ma 66), .inl (E 0, 3, .inl mf66)), ((ma 67), .inl (E 0, 3, .inl mf67))]) [0, 1, 2, 3, 4, 5] rfl
              have hD9 := hD.sub (ws' := [(mh, .inr (9, G9 ma mcode mtoday moffs mmany msumW msumA msumR msumWW msumWA msumAA msumWR msumAR mupper mlower mrates mtaped mlaid mat mtk mtkAt mtkNumber mwaits mlisted mdealtMany)), ((ma 62), .inl (E 0, 9, .inl mf62)), ((ma 63), .inl (E 0, 9, .inl mf63)), ((ma 65), .inl (E 0, 9, .inl mf65)), ((ma 66), .inl (E 0, 3, .inl mf66)), ((ma 67), .inl (E 0, 3, .inl mf67))]) [0, 1, 2, 3, 4, 5] (by decide) rfl
              exact W.iret (v := (-4)) hx hb hr (fun t ht hW => ⟨⟨(-4), (mf63, mf65, mf66, mf67, mdealtMany, mlisted), rfl, ⟨hr_m65, (by (try dsimp only); omega), (by (try dsimp only); omega), (by have h0 := t_m4; (try dsimp only); omega)⟩, by rw [ht]; exact hP9, hD9⟩, hS.F ht⟩) hS.2.2 dX9_deal_75
        ·
          have ic_13 : p1.toInt = 0 := (g_eq rfl t_0).mp c_13
          clear c_13
          refine lv_iload_n hx hb dX9_deal_37 rfl (lv_at hl 3 rfl) ?_
          refine lv_if_le (tgt := 43) hx hb dX9_deal_38 (by decide) (fun c_238 => ?_) (fun c_238 => ?_)
          ·
            have ic_238 : p2.toInt ≤ 0 := by first | exact (g_le rfl t_0).mp c_238 | (have h := mt (g_lt t_0 rfl).mpr c_238; omega)
            clear c_238
            refine lv_iload_n hx hb dX9_deal_43 rfl (lv_at hl 2 rfl) ?_
            refine lv_if_ne (tgt := 51) hx hb dX9_deal_44 (by decide) (fun c_239 => absurd (by rw [g_eq rfl t_0]; omega) c_239) (fun c_239 => ?_)
            refine lv_iconst (v := 1) hx hb dX9_deal_47 (by decide) ?_
            refine lv_goto (tgt := 60) hx hb dX9_deal_48 (by decide) ?_
            refine lv_istore (lv' := [(4, .int 1), (0, .ref mh), (1, .int p0), (2, .int p1), (3, .int p2)]) hx hb dX9_deal_60 hl (by decide) rfl (fun ls hl => ?_)
            refine lv_aload_n hx hb dX9_deal_62 rfl (lv_at hl 1 rfl) ?_
            refine va_get (D := D) (ci := 9) (v := .int mlisted) (C := RX9) (T := TX9) (N := 68) hx hb htb iX9 hown hK.1 hP 0 rfl rfl 61 (by decide) (htb _ k_1019) (fun _ h9 => h9) rfl dX9_deal_63 ?_
            refine lv_iconst (v := 3) hx hb dX9_deal_66 (by decide) ?_
            refine lv_iload hx hb dX9_deal_67 (lv_at hl 0 rfl) ?_
            refine lv_imul hx hb dX9_deal_69 ?_
            refine W_top (y := .int 3) (by decide) ?_
            refine lv_icmp_ge (tgt := 76) hx hb dX9_deal_70 (by decide) (fun c_240 => ?_) (fun c_240 => ?_)
            ·
              have ic_240 : 3 ≤ mlisted.toInt := by first | exact (g_le t_3 rfl).mp c_240 | (have h := mt (g_lt rfl t_3).mpr c_240; omega)
              clear c_240
              refine lv_aload_n hx hb dX9_deal_76 rfl (lv_at hl 1 rfl) ?_
              refine va_get (D := D) (ci := 9) (v := .ref (ma 66)) (C := RX9) (T := TX9) (N := 68) hx hb htb iX9 hown hK.1 hP 0 rfl rfl 66 (by decide) (htb _ k_1024) (fun _ h9 => h9) rfl dX9_deal_77 ?_
              refine lv_iconst (v := 0) hx hb dX9_deal_80 (by decide) ?_
              refine lv_iload_n hx hb dX9_deal_81 rfl (lv_at hl 2 rfl) ?_
              refine va_iast hx hb hK.1 hP hD hS 4 0 rfl rfl (g_in t_0 (by decide) (by decide)) dX9_deal_82 (fun H locs hP hD hS => ?_)
              have hP : va_P D vwCl [(mh, .inr (9, G9 ma mcode mtoday moffs mmany msumW msumA msumR msumWW msumWA msumAA msumWR msumAR mupper mlower mrates mtaped mlaid mat mtk mtkAt mtkNumber mwaits mlisted mdealtMany)), ((ma 62), .inl (E 0, 9, .inl mf62)), ((ma 63), .inl (E 0, 9, .inl mf63)), ((ma 65), .inl (E 0, 9, .inl mf65)), ((ma 66), .inl (E 0, 3, .inl (upd mf66 (0 : Int32).toNatClampNeg p0))), ((ma 67), .inl (E 0, 3, .inl mf67))] H := hP
              have hD := toW hP hD rfl
              refine lv_aload_n hx hb dX9_deal_83 rfl (lv_at hl 1 rfl) ?_
              refine va_get (D := D) (ci := 9) (v := .ref (ma 66)) (C := RX9) (T := TX9) (N := 68) hx hb htb iX9 hown hK.1 hP 0 rfl rfl 66 (by decide) (htb _ k_1024) (fun _ h9 => h9) rfl dX9_deal_84 ?_
              refine lv_iconst (v := 1) hx hb dX9_deal_87 (by decide) ?_
              refine lv_iload_n hx hb dX9_deal_88 rfl (lv_at hl 3 rfl) ?_
              refine va_iast hx hb hK.1 hP hD hS 4 0 rfl rfl (g_in t_1 (by decide) (by decide)) dX9_deal_89 (fun H locs hP hD hS => ?_)
              have hP : va_P D vwCl [(mh, .inr (9, G9 ma mcode mtoday moffs mmany msumW msumA msumR msumWW msumWA msumAA msumWR msumAR mupper mlower mrates mtaped mlaid mat mtk mtkAt mtkNumber mwaits mlisted mdealtMany)), ((ma 62), .inl (E 0, 9, .inl mf62)), ((ma 63), .inl (E 0, 9, .inl mf63)), ((ma 65), .inl (E 0, 9, .inl mf65)), ((ma 66), .inl (E 0, 3, .inl (upd (upd mf66 (0 : Int32).toNatClampNeg p0) (1 : Int32).toNatClampNeg p1))), ((ma 67), .inl (E 0, 3, .inl mf67))] H := hP
              have hD := toW hP hD rfl
              generalize (upd (upd mf66 (0 : Int32).toNatClampNeg p0) (1 : Int32).toNatClampNeg p1) = g_241 at hP hD
              refine lv_aload_n hx hb dX9_deal_90 rfl (lv_at hl 1 rfl) ?_
              refine va_get (D := D) (ci := 9) (v := .ref (ma 66)) (C := RX9) (T := TX9) (N := 68) hx hb htb iX9 hown hK.1 hP 0 rfl rfl 66 (by decide) (htb _ k_1024) (fun _ h9 => h9) rfl dX9_deal_91 ?_
              refine lv_iconst (v := 2) hx hb dX9_deal_94 (by decide) ?_
              refine lv_iload_n hx hb dX9_deal_95 rfl (lv_at hl 4 rfl) ?_
              refine va_iast hx hb hK.1 hP hD hS 4 0 rfl rfl (g_in t_2 (by decide) (by decide)) dX9_deal_96 (fun H locs hP hD hS => ?_)
              have hP : va_P D vwCl [(mh, .inr (9, G9 ma mcode mtoday moffs mmany msumW msumA msumR msumWW msumWA msumAA msumWR msumAR mupper mlower mrates mtaped mlaid mat mtk mtkAt mtkNumber mwaits mlisted mdealtMany)), ((ma 62), .inl (E 0, 9, .inl mf62)), ((ma 63), .inl (E 0, 9, .inl mf63)), ((ma 65), .inl (E 0, 9, .inl mf65)), ((ma 66), .inl (E 0, 3, .inl (upd g_241 (2 : Int32).toNatClampNeg p2))), ((ma 67), .inl (E 0, 3, .inl mf67))] H := hP
              have hD := toW hP hD rfl
              refine lv_iconst (v := (-1)) hx hb dX9_deal_97 (by decide) ?_
              refine lv_istore (lv' := [(5, .int (-1)), (4, .int 1), (0, .ref mh), (1, .int p0), (2, .int p1), (3, .int p2)]) hx hb dX9_deal_98 hl (by decide) rfl (fun ls hl => ?_)
              refine lv_iconst (v := 0) hx hb dX9_deal_100 (by decide) ?_
              refine lv_istore (lv' := [(6, .int 0), (5, .int (-1)), (4, .int 1), (0, .ref mh), (1, .int p0), (2, .int p1), (3, .int p2)]) hx hb dX9_deal_101 hl (by decide) rfl (fun ls hl => ?_)
              have loop_242 : ∀ (N_244 : Nat) (L6_103 : Int32) (mf65_103 : Nat → Int32) (H : Heap) (locs : List Loc) (ls : Array Slot), mlisted.toInt - L6_103.toInt < (N_244 : Int) → (∀ k : Nat, k < 9 → 0 ≤ (mf65_103 k).toInt ∧ (mf65_103 k).toInt ≤ 3) → (0 ≤ L6_103.toInt ∧ L6_103.toInt ≤ mlisted.toInt) → va_P D vwCl [(mh, .inr (9, G9 ma mcode mtoday moffs mmany msumW msumA msumR msumWW msumWA msumAA msumWR msumAR mupper mlower mrates mtaped mlaid mat mtk mtkAt mtkNumber mwaits mlisted mdealtMany)), ((ma 62), .inl (E 0, 9, .inl mf62)), ((ma 63), .inl (E 0, 9, .inl mf63)), ((ma 65), .inl (E 0, 9, .inl mf65_103)), ((ma 66), .inl (E 0, 3, .inl (upd g_241 (2 : Int32).toNatClampNeg p2))), ((ma 67), .inl (E 0, 3, .inl mf67))] H → va_D A [(mh, .inr (9, G9 ma mcode mtoday moffs mmany msumW msumA msumR msumWW msumWA msumAA msumWR msumAR mupper mlower mrates mtaped mlaid mat mtk mtkAt mtkNumber mwaits mlisted mdealtMany)), ((ma 62), .inl (E 0, 9, .inl mf62)), ((ma 63), .inl (E 0, 9, .inl mf63)), ((ma 65), .inl (E 0, 9, .inl mf65_103)), ((ma 66), .inl (E 0, 3, .inl (upd g_241 (2 : Int32).toNatClampNeg p2))), ((ma 67), .inl (E 0, 3, .inl mf67))] → va_S A s.heap H locs → lv_has ls 9 [(6, .int L6_103), (5, .int (-1)), (4, .int 1), (0, .ref mh), (1, .int p0), (2, .int p1), (3, .int p2)] → W p l e (headSpec (wl yX9_deal cX9_deal 9 (some .int)) (RM 1 0 0)).room s m [Value.ref mh, .int p0, .int p1, .int p2].toArray below meth c H locs 0 0 (MQ below (va_Qi (fun (r : Int32) (u : (Nat → Int32) × (Nat → Int32) × (Nat → Int32) × (Nat → Int32) × (Int32) × (Int32)) => (∀ k : Nat, k < 9 → 0 ≤ (u.2.1 k).toInt ∧ (u.2.1 k).toInt ≤ 3) ∧ (0 ≤ u.2.2.2.2.1.toInt ∧ u.2.2.2.2.1.toInt ≤ 9) ∧ (0 ≤ u.2.2.2.2.2.toInt ∧ u.2.2.2.2.2.toInt ≤ 9) ∧ ((¬ ((1 ≤ p0.toInt ∧ p0.toInt ≤ 400) ∧ (0 ≤ p1.toInt ∧ p1.toInt ≤ 400) ∧ (0 ≤ p2.toInt ∧ p2.toInt ≤ 400) ∧ ¬ (p1.toInt = 0 ∧ p2.toInt ≠ 0)) ∧ r.toInt = -1 ∧ u.2.2.2.2.2.toInt = mlisted.toInt) ∨ (((1 ≤ p0.toInt ∧ p0.toInt ≤ 400) ∧ (0 ≤ p1.toInt ∧ p1.toInt ≤ 400) ∧ (0 ≤ p2.toInt ∧ p2.toInt ≤ 400) ∧ ¬ (p1.toInt = 0 ∧ p2.toInt ≠ 0)) ∧ ((p1.toInt = 0 ∧ mlisted.toInt < 3) ∨ (p1.toInt ≠ 0 ∧ p2.toInt = 0 ∧ mlisted.toInt < 6) ∨ (p1.toInt ≠ 0 ∧ p2.toInt ≠ 0 ∧ mlisted.toInt < 9)) ∧ r.toInt = -4 ∧ u.2.2.2.2.2.toInt = mlisted.toInt) ∨ (((1 ≤ p0.toInt ∧ p0.toInt ≤ 400) ∧ (0 ≤ p1.toInt ∧ p1.toInt ≤ 400) ∧ (0 ≤ p2.toInt ∧ p2.toInt ≤ 400) ∧ ¬ (p1.toInt = 0 ∧ p2.toInt ≠ 0)) ∧ ¬ ((p1.toInt = 0 ∧ mlisted.toInt < 3) ∨ (p1.toInt ≠ 0 ∧ p2.toInt = 0 ∧ mlisted.toInt < 6) ∨ (p1.toInt ≠ 0 ∧ p2.toInt ≠ 0 ∧ mlisted.toInt < 9)) ∧ u.2.2.2.2.2.toInt = 0))) (mu_B D A (fun (u : (Nat → Int32) × (Nat → Int32) × (Nat → Int32) × (Nat → Int32) × (Int32) × (Int32)) => [(mh, .inr (9, G9 ma mcode mtoday moffs mmany msumW msumA msumR msumWW msumWA msumAA msumWR msumAR mupper mlower mrates mtaped mlaid mat mtk mtkAt mtkNumber mwaits u.2.2.2.2.2 u.2.2.2.2.1)), ((ma 62), .inl (E 0, 9, .inl mf62)), ((ma 63), .inl (E 0, 9, .inl u.1)), ((ma 65), .inl (E 0, 9, .inl u.2.1)), ((ma 66), .inl (E 0, 3, .inl u.2.2.1)), ((ma 67), .inl (E 0, 3, .inl u.2.2.2.1))])) A) [Value.ref mh, .int p0, .int p1, .int p2].toArray s 0 0 A) (F0 m 103 ls []) := by
                intro N_244
                induction N_244 with
                | zero => intro L6_103 mf65_103 H locs ls hm v_mf65_103 v0_103 _ _ _ _; exfalso; omega
                | succ N_244 ih_243 =>
                  intro L6_103 mf65_103 H locs ls hm v_mf65_103 v0_103 hP hD hS hl
                  have lo_L6_103 := i_lo L6_103; have hi_L6_103 := i_hi L6_103
                  refine lv_iload hx hb dX9_deal_103 (lv_at hl 0 rfl) ?_
                  refine lv_aload_n hx hb dX9_deal_105 rfl (lv_at hl 3 rfl) ?_
                  refine va_get (D := D) (ci := 9) (v := .int mlisted) (C := RX9) (T := TX9) (N := 68) hx hb htb iX9 hown hK.1 hP 0 rfl rfl 61 (by decide) (htb _ k_1019) (fun _ h9 => h9) rfl dX9_deal_106 ?_
                  refine lv_icmp_ge (tgt := 126) hx hb dX9_deal_109 (by decide) (fun c_245 => ?_) (fun c_245 => ?_)
                  ·
                    have ic_245 : mlisted.toInt ≤ L6_103.toInt := by first | exact (g_le rfl rfl).mp c_245 | (have h := mt (g_lt rfl rfl).mpr c_245; omega)
                    clear c_245
                    refine lv_iconst (v := 1) hx hb dX9_deal_126 (by decide) ?_
                    refine lv_istore (lv' := [(6, .int 1), (5, .int (-1)), (4, .int 1), (0, .ref mh), (1, .int p0), (2, .int p1), (3, .int p2)]) hx hb dX9_deal_127 hl (by decide) rfl (fun ls hl => ?_)
                    have loop_246 : ∀ (N_248 : Nat) (L6_129 : Int32) (mf67_129 : Nat → Int32) (mf65_129 : Nat → Int32) (L5_129 : Int32) (mf63_129 : Nat → Int32) (H : Heap) (locs : List Loc) (ls : Array Slot), 262145 * L6_129.toInt - val4 mf65_129 (mlisted).toNatClampNeg < (N_248 : Int) → (∀ k : Nat, k < 9 → 0 ≤ (mf65_129 k).toInt ∧ (mf65_129 k).toInt ≤ 3) → ((L6_129.toInt = 1 ∧ 0 ≤ val4 mf65_129 (mlisted).toNatClampNeg ∧ val4 mf65_129 (mlisted).toNatClampNeg ≤ 262143) ∨ (L6_129.toInt = 0 ∧ val4 mf65_129 (mlisted).toNatClampNeg = 0)) → va_P D vwCl [(mh, .inr (9, G9 ma mcode mtoday moffs mmany msumW msumA msumR msumWW msumWA msumAA msumWR msumAR mupper mlower mrates mtaped mlaid mat mtk mtkAt mtkNumber mwaits mlisted mdealtMany)), ((ma 62), .inl (E 0, 9, .inl mf62)), ((ma 63), .inl (E 0, 9, .inl mf63_129)), ((ma 65), .inl (E 0, 9, .inl mf65_129)), ((ma 66), .inl (E 0, 3, .inl (upd g_241 (2 : Int32).toNatClampNeg p2))), ((ma 67), .inl (E 0, 3, .inl mf67_129))] H → va_D A [(mh, .inr (9, G9 ma mcode mtoday moffs mmany msumW msumA msumR msumWW msumWA msumAA msumWR msumAR mupper mlower mrates mtaped mlaid mat mtk mtkAt mtkNumber mwaits mlisted mdealtMany)), ((ma 62), .inl (E 0, 9, .inl mf62)), ((ma 63), .inl (E 0, 9, .inl mf63_129)), ((ma 65), .inl (E 0, 9, .inl mf65_129)), ((ma 66), .inl (E 0, 3, .inl (upd g_241 (2 : Int32).toNatClampNeg p2))), ((ma 67), .inl (E 0, 3, .inl mf67_129))] → va_S A s.heap H locs → lv_has ls 9 [(6, .int L6_129), (5, .int L5_129), (4, .int 1), (0, .ref mh), (1, .int p0), (2, .int p1), (3, .int p2)] → W p l e (headSpec (wl yX9_deal cX9_deal 9 (some .int)) (RM 1 0 0)).room s m [Value.ref mh, .int p0, .int p1, .int p2].toArray below meth c H locs 0 0 (MQ below (va_Qi (fun (r : Int32) (u : (Nat → Int32) × (Nat → Int32) × (Nat → Int32) × (Nat → Int32) × (Int32) × (Int32)) => (∀ k : Nat, k < 9 → 0 ≤ (u.2.1 k).toInt ∧ (u.2.1 k).toInt ≤ 3) ∧ (0 ≤ u.2.2.2.2.1.toInt ∧ u.2.2.2.2.1.toInt ≤ 9) ∧ (0 ≤ u.2.2.2.2.2.toInt ∧ u.2.2.2.2.2.toInt ≤ 9) ∧ ((¬ ((1 ≤ p0.toInt ∧ p0.toInt ≤ 400) ∧ (0 ≤ p1.toInt ∧ p1.toInt ≤ 400) ∧ (0 ≤ p2.toInt ∧ p2.toInt ≤ 400) ∧ ¬ (p1.toInt = 0 ∧ p2.toInt ≠ 0)) ∧ r.toInt = -1 ∧ u.2.2.2.2.2.toInt = mlisted.toInt) ∨ (((1 ≤ p0.toInt ∧ p0.toInt ≤ 400) ∧ (0 ≤ p1.toInt ∧ p1.toInt ≤ 400) ∧ (0 ≤ p2.toInt ∧ p2.toInt ≤ 400) ∧ ¬ (p1.toInt = 0 ∧ p2.toInt ≠ 0)) ∧ ((p1.toInt = 0 ∧ mlisted.toInt < 3) ∨ (p1.toInt ≠ 0 ∧ p2.toInt = 0 ∧ mlisted.toInt < 6) ∨ (p1.toInt ≠ 0 ∧ p2.toInt ≠ 0 ∧ mlisted.toInt < 9)) ∧ r.toInt = -4 ∧ u.2.2.2.2.2.toInt = mlisted.toInt) ∨ (((1 ≤ p0.toInt ∧ p0.toInt ≤ 400) ∧ (0 ≤ p1.toInt ∧ p1.toInt ≤ 400) ∧ (0 ≤ p2.toInt ∧ p2.toInt ≤ 400) ∧ ¬ (p1.toInt = 0 ∧ p2.toInt ≠ 0)) ∧ ¬ ((p1.toInt = 0 ∧ mlisted.toInt < 3) ∨ (p1.toInt ≠ 0 ∧ p2.toInt = 0 ∧ mlisted.toInt < 6) ∨ (p1.toInt ≠ 0 ∧ p2.toInt ≠ 0 ∧ mlisted.toInt < 9)) ∧ u.2.2.2.2.2.toInt = 0))) (mu_B D A (fun (u : (Nat → Int32) × (Nat → Int32) × (Nat → Int32) × (Nat → Int32) × (Int32) × (Int32)) => [(mh, .inr (9, G9 ma mcode mtoday moffs mmany msumW msumA msumR msumWW msumWA msumAA msumWR msumAR mupper mlower mrates mtaped mlaid mat mtk mtkAt mtkNumber mwaits u.2.2.2.2.2 u.2.2.2.2.1)), ((ma 62), .inl (E 0, 9, .inl mf62)), ((ma 63), .inl (E 0, 9, .inl u.1)), ((ma 65), .inl (E 0, 9, .inl u.2.1)), ((ma 66), .inl (E 0, 3, .inl u.2.2.1)), ((ma 67), .inl (E 0, 3, .inl u.2.2.2.1))])) A) [Value.ref mh, .int p0, .int p1, .int p2].toArray s 0 0 A) (F0 m 129 ls []) := by
                      intro N_248
                      induction N_248 with
                      | zero => intro L6_129 mf67_129 mf65_129 L5_129 mf63_129 H locs ls hm v_mf65_129 v0_129 _ _ _ _; exfalso; omega
                      | succ N_248 ih_247 =>
                        intro L6_129 mf67_129 mf65_129 L5_129 mf63_129 H locs ls hm v_mf65_129 v0_129 hP hD hS hl
                        have lo_L6_129 := i_lo L6_129; have hi_L6_129 := i_hi L6_129
                        have lo_L5_129 := i_lo L5_129; have hi_L5_129 := i_hi L5_129
                        refine lv_iload hx hb dX9_deal_129 (lv_at hl 0 rfl) ?_
                        refine lv_if_eq (tgt := 319) hx hb dX9_deal_131 (by decide) (fun c_249 => ?_) (fun c_249 => ?_)
                        ·
                          have ic_249 : L6_129.toInt = 0 := (g_eq rfl t_0).mp c_249
                          clear c_249
                          refine lv_aload_n hx hb dX9_deal_319 rfl (lv_at hl 3 rfl) ?_
                          refine lv_aload_n hx hb dX9_deal_320 rfl (lv_at hl 3 rfl) ?_
                          refine va_get (D := D) (ci := 9) (v := .int mlisted) (C := RX9) (T := TX9) (N := 68) hx hb htb iX9 hown hK.1 hP 0 rfl rfl 61 (by decide) (htb _ k_1019) (fun _ h9 => h9) rfl dX9_deal_321 ?_
                          refine va_put (D := D) (ci := 9) (v := .int mlisted) (ty := .int) (C := RX9) (T := TX9) (N := 68) hx hb htb iX9 tyX9 tyX9_ok nmX9 hown hK.1 hP hD hS 0 rfl rfl 64 (by decide) (htb _ k_1022) (fun _ h9 => h9) rfl (by decide +kernel) rfl rfl (Nat.le_of_ble_eq_true rfl) dX9_deal_324 (fun H locs hP hD hS => ?_)
                          have hP : va_P D vwCl [(mh, .inr (9, G9 ma mcode mtoday moffs mmany msumW msumA msumR msumWW msumWA msumAA msumWR msumAR mupper mlower mrates mtaped mlaid mat mtk mtkAt mtkNumber mwaits mlisted mlisted)), ((ma 62), .inl (E 0, 9, .inl mf62)), ((ma 63), .inl (E 0, 9, .inl mf63_129)), ((ma 65), .inl (E 0, 9, .inl mf65_129)), ((ma 66), .inl (E 0, 3, .inl (upd g_241 (2 : Int32).toNatClampNeg p2))), ((ma 67), .inl (E 0, 3, .inl mf67_129))] H := hP
                          have hD := toW hP hD rfl
                          refine lv_aload_n hx hb dX9_deal_327 rfl (lv_at hl 3 rfl) ?_
                          refine lv_iconst (v := 0) hx hb dX9_deal_328 (by decide) ?_
                          refine va_put (D := D) (ci := 9) (v := .int 0) (ty := .int) (C := RX9) (T := TX9) (N := 68) hx hb htb iX9 tyX9 tyX9_ok nmX9 hown hK.1 hP hD hS 0 rfl rfl 61 (by decide) (htb _ k_1019) (fun _ h9 => h9) rfl (by decide +kernel) rfl rfl (Nat.le_of_ble_eq_true rfl) dX9_deal_329 (fun H locs hP hD hS => ?_)
                          have hP : va_P D vwCl [(mh, .inr (9, G9 ma mcode mtoday moffs mmany msumW msumA msumR msumWW msumWA msumAA msumWR msumAR mupper mlower mrates mtaped mlaid mat mtk mtkAt mtkNumber mwaits 0 mlisted)), ((ma 62), .inl (E 0, 9, .inl mf62)), ((ma 63), .inl (E 0, 9, .inl mf63_129)), ((ma 65), .inl (E 0, 9, .inl mf65_129)), ((ma 66), .inl (E 0, 3, .inl (upd g_241 (2 : Int32).toNatClampNeg p2))), ((ma 67), .inl (E 0, 3, .inl mf67_129))] H := hP
                          have hD := toW hP hD rfl
                          refine lv_iload hx hb dX9_deal_332 (lv_at hl 1 rfl) ?_
                          have hP9 := hP.sub (ws' := [(mh, .inr (9, G9 ma mcode mtoday moffs mmany msumW msumA msumR msumWW msumWA msumAA msumWR msumAR mupper mlower mrates mtaped mlaid mat mtk mtkAt mtkNumber mwaits 0 mlisted)), ((ma 62), .inl (E 0, 9, .inl mf62)), ((ma 63), .inl (E 0, 9, .inl mf63_129)), ((ma 65), .inl (E 0, 9, .inl mf65_129)), ((ma 66), .inl (E 0, 3, .inl (upd g_241 (2 : Int32).toNatClampNeg p2))), ((ma 67), .inl (E 0, 3, .inl mf67_129))]) [0, 1, 2, 3, 4, 5] rfl
                          have hD9 := hD.sub (ws' := [(mh, .inr (9, G9 ma mcode mtoday moffs mmany msumW msumA msumR msumWW msumWA msumAA msumWR msumAR mupper mlower mrates mtaped mlaid mat mtk mtkAt mtkNumber mwaits 0 mlisted)), ((ma 62), .inl (E 0, 9, .inl mf62)), ((ma 63), .inl (E 0, 9, .inl mf63_129)), ((ma 65), .inl (E 0, 9, .inl mf65_129)), ((ma 66), .inl (E 0, 3, .inl (upd g_241 (2 : Int32).toNatClampNeg p2))), ((ma 67), .inl (E 0, 3, .inl mf67_129))]) [0, 1, 2, 3, 4, 5] (by decide) rfl
                          exact W.iret (v := L5_129) hx hb hr (fun t ht hW => ⟨⟨L5_129, (mf63_129, mf65_129, (upd g_241 (2 : Int32).toNatClampNeg p2), mf67_129, mlisted, (0 : Int32)), rfl, ⟨v_mf65_129, (by (try dsimp only); omega), (by have h0 := t_0; (try dsimp only); omega), (by have h0 := t_0; (try dsimp only); omega)⟩, by rw [ht]; exact hP9, hD9⟩, hS.F ht⟩) hS.2.2 dX9_deal_334
                        ·
                          have ic_249 : L6_129.toInt ≠ 0 := mt (g_eq rfl t_0).mpr c_249
                          clear c_249
                          refine lv_aload_n hx hb dX9_deal_134 rfl (lv_at hl 3 rfl) ?_
                          refine lv_iload hx hb dX9_deal_135 (lv_at hl 2 rfl) ?_
                          have hPc := hP.sub (ws' := [(mh, .inr (9, G9 ma mcode mtoday moffs mmany msumW msumA msumR msumWW msumWA msumAA msumWR msumAR mupper mlower mrates mtaped mlaid mat mtk mtkAt mtkNumber mwaits mlisted mdealtMany)), ((ma 65), .inl (E 0, 9, .inl mf65_129)), ((ma 67), .inl (E 0, 3, .inl mf67_129))]) [0, 3, 5] rfl
                          have hDc := hD.sub (ws' := [(mh, .inr (9, G9 ma mcode mtoday moffs mmany msumW msumA msumR msumWW msumWA msumAA msumWR msumAR mupper mlower mrates mtaped mlaid mat mtk mtkAt mtkNumber mwaits mlisted mdealtMany)), ((ma 65), .inl (E 0, 9, .inl mf65_129)), ((ma 67), .inl (E 0, 3, .inl mf67_129))]) [0, 3, 5] (by decide) rfl
                          refine aft_i (runMV (rest := []) (As := [.int 1]) hx hb hml hown htb hK (g_X9_isWay l D E mh ma mcode mtoday moffs mmany msumW msumA msumR msumWW msumWA msumAA msumWR msumAR mupper mlower mrates mtaped mlaid mat mtk mtkAt mtkNumber mwaits mlisted mdealtMany mf65_129 mf67_129 1 _ (by (try dsimp only); omega) v_mf65_129 (by have h0 := t_1; (try dsimp only); omega)) ok_X9_isWay k_1464 k_1466 ks_65 k_9 k_1467 ⟨(Nat.le_of_ble_eq_true rfl), (Nat.le_of_ble_eq_true rfl)⟩ ⟨(Nat.le_of_ble_eq_true rfl), (Nat.le_of_ble_eq_true rfl)⟩ hl.1 (Nat.le_of_ble_eq_true rfl) rfl rfl dX9_deal_137 hPc hDc rfl rfl 0 rfl) hP hD hS hA [0, 3, 5] [1, 2, 4] (wr := [((ma 62), .inl (E 0, 9, .inl mf62)), ((ma 63), .inl (E 0, 9, .inl mf63_129)), ((ma 66), .inl (E 0, 3, .inl (upd g_241 (2 : Int32).toNatClampNeg p2)))]) rfl rfl (by decide) (by decide) (fun r_250 u_252 H locs hw_251 hP hD hS => ?_)
                          clear hPc hDc
                          have hP : va_P D vwCl [((ma 62), .inl (E 0, 9, .inl mf62)), ((ma 63), .inl (E 0, 9, .inl mf63_129)), ((ma 66), .inl (E 0, 3, .inl (upd g_241 (2 : Int32).toNatClampNeg p2))), (mh, .inr (9, G9 ma mcode mtoday moffs mmany msumW msumA msumR msumWW msumWA msumAA msumWR msumAR mupper mlower mrates mtaped mlaid mat mtk mtkAt mtkNumber mwaits mlisted mdealtMany)), ((ma 65), .inl (E 0, 9, .inl mf65_129)), ((ma 67), .inl (E 0, 3, .inl u_252))] H := hP
                          have hD := toW hP hD rfl
                          refine lv_if_eq (tgt := 250) hx hb dX9_deal_140 (by decide) (fun c_253 => ?_) (fun c_253 => ?_)
                          ·
                            have ic_253 : r_250.toInt = 0 := (g_eq rfl t_0).mp c_253
                            clear c_253
                            refine lv_aload_n hx hb dX9_deal_250 rfl (lv_at hl 3 rfl) ?_
                            refine va_get (D := D) (ci := 9) (v := .int mlisted) (C := RX9) (T := TX9) (N := 68) hx hb htb iX9 hown hK.1 hP 3 rfl rfl 61 (by decide) (htb _ k_1019) (fun _ h9 => h9) rfl dX9_deal_251 ?_
                            refine lv_iconst (v := 1) hx hb dX9_deal_254 (by decide) ?_
                            refine lv_isub hx hb dX9_deal_255 ?_
                            refine lv_topi (fun z_254 ez_254 => ?_)
                            have jz_254 : z_254.toInt = mlisted.toInt - 1 := by rw [ez_254]; exact g_sub rfl t_1 (by omega) (by omega)
                            refine lv_istore (lv' := [(7, .int z_254), (6, .int L6_129), (5, .int L5_129), (4, .int 1), (0, .ref mh), (1, .int p0), (2, .int p1), (3, .int p2)]) hx hb dX9_deal_256 hl (by decide) rfl (fun ls hl => ?_)
                            have loop_255 : ∀ (N_257 : Nat) (L7_258 : Int32) (mf65_258 : Nat → Int32) (H : Heap) (locs : List Loc) (ls : Array Slot), L7_258.toInt + 1 < (N_257 : Int) → (∀ k : Nat, k < 9 → 0 ≤ (mf65_258 k).toInt ∧ (mf65_258 k).toInt ≤ 3) → (-1 ≤ L7_258.toInt ∧ L7_258.toInt < mlisted.toInt) → (val4 mf65_258 (mlisted).toNatClampNeg + 4 ^ (mlisted.toInt - 1 - L7_258.toInt).toNat = val4 mf65_129 (mlisted).toNatClampNeg + 1) → va_P D vwCl [((ma 62), .inl (E 0, 9, .inl mf62)), ((ma 63), .inl (E 0, 9, .inl mf63_129)), ((ma 66), .inl (E 0, 3, .inl (upd g_241 (2 : Int32).toNatClampNeg p2))), (mh, .inr (9, G9 ma mcode mtoday moffs mmany msumW msumA msumR msumWW msumWA msumAA msumWR msumAR mupper mlower mrates mtaped mlaid mat mtk mtkAt mtkNumber mwaits mlisted mdealtMany)), ((ma 65), .inl (E 0, 9, .inl mf65_258)), ((ma 67), .inl (E 0, 3, .inl u_252))] H → va_D A [((ma 62), .inl (E 0, 9, .inl mf62)), ((ma 63), .inl (E 0, 9, .inl mf63_129)), ((ma 66), .inl (E 0, 3, .inl (upd g_241 (2 : Int32).toNatClampNeg p2))), (mh, .inr (9, G9 ma mcode mtoday moffs mmany msumW msumA msumR msumWW msumWA msumAA msumWR msumAR mupper mlower mrates mtaped mlaid mat mtk mtkAt mtkNumber mwaits mlisted mdealtMany)), ((ma 65), .inl (E 0, 9, .inl mf65_258)), ((ma 67), .inl (E 0, 3, .inl u_252))] → va_S A s.heap H locs → lv_has ls 9 [(7, .int L7_258), (6, .int L6_129), (5, .int L5_129), (4, .int 1), (0, .ref mh), (1, .int p0), (2, .int p1), (3, .int p2)] → W p l e (headSpec (wl yX9_deal cX9_deal 9 (some .int)) (RM 1 0 0)).room s m [Value.ref mh, .int p0, .int p1, .int p2].toArray below meth c H locs 0 0 (MQ below (va_Qi (fun (r : Int32) (u : (Nat → Int32) × (Nat → Int32) × (Nat → Int32) × (Nat → Int32) × (Int32) × (Int32)) => (∀ k : Nat, k < 9 → 0 ≤ (u.2.1 k).toInt ∧ (u.2.1 k).toInt ≤ 3) ∧ (0 ≤ u.2.2.2.2.1.toInt ∧ u.2.2.2.2.1.toInt ≤ 9) ∧ (0 ≤ u.2.2.2.2.2.toInt ∧ u.2.2.2.2.2.toInt ≤ 9) ∧ ((¬ ((1 ≤ p0.toInt ∧ p0.toInt ≤ 400) ∧ (0 ≤ p1.toInt ∧ p1.toInt ≤ 400) ∧ (0 ≤ p2.toInt ∧ p2.toInt ≤ 400) ∧ ¬ (p1.toInt = 0 ∧ p2.toInt ≠ 0)) ∧ r.toInt = -1 ∧ u.2.2.2.2.2.toInt = mlisted.toInt) ∨ (((1 ≤ p0.toInt ∧ p0.toInt ≤ 400) ∧ (0 ≤ p1.toInt ∧ p1.toInt ≤ 400) ∧ (0 ≤ p2.toInt ∧ p2.toInt ≤ 400) ∧ ¬ (p1.toInt = 0 ∧ p2.toInt ≠ 0)) ∧ ((p1.toInt = 0 ∧ mlisted.toInt < 3) ∨ (p1.toInt ≠ 0 ∧ p2.toInt = 0 ∧ mlisted.toInt < 6) ∨ (p1.toInt ≠ 0 ∧ p2.toInt ≠ 0 ∧ mlisted.toInt < 9)) ∧ r.toInt = -4 ∧ u.2.2.2.2.2.toInt = mlisted.toInt) ∨ (((1 ≤ p0.toInt ∧ p0.toInt ≤ 400) ∧ (0 ≤ p1.toInt ∧ p1.toInt ≤ 400) ∧ (0 ≤ p2.toInt ∧ p2.toInt ≤ 400) ∧ ¬ (p1.toInt = 0 ∧ p2.toInt ≠ 0)) ∧ ¬ ((p1.toInt = 0 ∧ mlisted.toInt < 3) ∨ (p1.toInt ≠ 0 ∧ p2.toInt = 0 ∧ mlisted.toInt < 6) ∨ (p1.toInt ≠ 0 ∧ p2.toInt ≠ 0 ∧ mlisted.toInt < 9)) ∧ u.2.2.2.2.2.toInt = 0))) (mu_B D A (fun (u : (Nat → Int32) × (Nat → Int32) × (Nat → Int32) × (Nat → Int32) × (Int32) × (Int32)) => [(mh, .inr (9, G9 ma mcode mtoday moffs mmany msumW msumA msumR msumWW msumWA msumAA msumWR msumAR mupper mlower mrates mtaped mlaid mat mtk mtkAt mtkNumber mwaits u.2.2.2.2.2 u.2.2.2.2.1)), ((ma 62), .inl (E 0, 9, .inl mf62)), ((ma 63), .inl (E 0, 9, .inl u.1)), ((ma 65), .inl (E 0, 9, .inl u.2.1)), ((ma 66), .inl (E 0, 3, .inl u.2.2.1)), ((ma 67), .inl (E 0, 3, .inl u.2.2.2.1))])) A) [Value.ref mh, .int p0, .int p1, .int p2].toArray s 0 0 A) (F0 m 258 ls []) := by
                              intro N_257
                              induction N_257 with
                              | zero => intro L7_258 mf65_258 H locs ls hm v_mf65_258 v0_258 v1_258 _ _ _ _; exfalso; omega
                              | succ N_257 ih_256 =>
                                intro L7_258 mf65_258 H locs ls hm v_mf65_258 v0_258 v1_258 hP hD hS hl
                                have lo_L7_258 := i_lo L7_258; have hi_L7_258 := i_hi L7_258
                                refine lv_iload hx hb dX9_deal_258 (lv_at hl 0 rfl) ?_
                                refine lv_if_lt (tgt := 288) hx hb dX9_deal_260 (by decide) (fun c_258 => ?_) (fun c_258 => ?_)
                                ·
                                  have ic_258 : L7_258.toInt < 0 := by first | exact (g_lt rfl t_0).mp c_258 | (have h := mt (g_le t_0 rfl).mpr c_258; omega)
                                  clear c_258
                                  refine lv_iload hx hb dX9_deal_288 (lv_at hl 0 rfl) ?_
                                  refine lv_if_lt (tgt := 297) hx hb dX9_deal_290 (by decide) (fun c_259 => ?_) (fun c_259 => absurd (by rw [g_lt rfl t_0]; omega) c_259)
                                  refine lv_iconst (v := 0) hx hb dX9_deal_297 (by decide) ?_
                                  refine lv_istore (lv' := [(6, .int 0), (7, .int L7_258), (5, .int L5_129), (4, .int 1), (0, .ref mh), (1, .int p0), (2, .int p1), (3, .int p2)]) hx hb dX9_deal_298 hl (by decide) rfl (fun ls hl => ?_)
                                  refine lv_iload hx hb dX9_deal_300 (lv_at hl 0 rfl) ?_
                                  refine lv_if_eq (tgt := 316) hx hb dX9_deal_302 (by decide) (fun c_260 => ?_) (fun c_260 => absurd (by decide) c_260)
                                  refine lv_goto (tgt := 129) hx hb dX9_deal_316 (by decide) ?_
                                  have hP := hP.sub (ws' := [(mh, .inr (9, G9 ma mcode mtoday moffs mmany msumW msumA msumR msumWW msumWA msumAA msumWR msumAR mupper mlower mrates mtaped mlaid mat mtk mtkAt mtkNumber mwaits mlisted mdealtMany)), ((ma 62), .inl (E 0, 9, .inl mf62)), ((ma 63), .inl (E 0, 9, .inl mf63_129)), ((ma 65), .inl (E 0, 9, .inl mf65_258)), ((ma 66), .inl (E 0, 3, .inl (upd g_241 (2 : Int32).toNatClampNeg p2))), ((ma 67), .inl (E 0, 3, .inl u_252))]) [3, 0, 1, 4, 2, 5] rfl
                                  have hD := hD.sub (ws' := [(mh, .inr (9, G9 ma mcode mtoday moffs mmany msumW msumA msumR msumWW msumWA msumAA msumWR msumAR mupper mlower mrates mtaped mlaid mat mtk mtkAt mtkNumber mwaits mlisted mdealtMany)), ((ma 62), .inl (E 0, 9, .inl mf62)), ((ma 63), .inl (E 0, 9, .inl mf63_129)), ((ma 65), .inl (E 0, 9, .inl mf65_258)), ((ma 66), .inl (E 0, 3, .inl (upd g_241 (2 : Int32).toNatClampNeg p2))), ((ma 67), .inl (E 0, 3, .inl u_252))]) [3, 0, 1, 4, 2, 5] (by decide) rfl
                                  exact ih_247 0 u_252 mf65_258 L5_129 mf63_129 _ _ _ (by have h := carry_e (n := mlisted) (i := L7_258) (by omega) (by omega) (by omega) v_mf65_258 v_mf65_129 v1_258; have h1 := t_0; omega) v_mf65_258 (by have h := carry_e (n := mlisted) (i := L7_258) (by omega) (by omega) (by omega) v_mf65_258 v_mf65_129 v1_258; have h1 := t_0; omega) hP hD hS (lv_sub hl [0, 2, 3, 4, 5, 6, 7] rfl)
                                ·
                                  have ic_258 : 0 ≤ L7_258.toInt := by first | exact (g_le t_0 rfl).mp c_258 | (have h := mt (g_lt rfl t_0).mpr c_258; omega)
                                  clear c_258
                                  refine lv_aload_n hx hb dX9_deal_263 rfl (lv_at hl 4 rfl) ?_
                                  refine va_get (D := D) (ci := 9) (v := .ref (ma 65)) (C := RX9) (T := TX9) (N := 68) hx hb htb iX9 hown hK.1 hP 3 rfl rfl 65 (by decide) (htb _ k_1023) (fun _ h9 => h9) rfl dX9_deal_264 ?_
                                  refine lv_iload hx hb dX9_deal_267 (lv_at hl 0 rfl) ?_
                                  refine va_iald hx hb hK.1 hP 4 0 rfl rfl (g_in rfl (by omega) (by omega)) dX9_deal_269 ?_
                                  refine lv_topi (fun z_261 ez_261 => ?_)
                                  have kz_261 := congrArg Int32.toInt ez_261
                                  have jz_261 : 0 ≤ z_261.toInt ∧ z_261.toInt ≤ 3 := by rw [ez_261]; exact v_mf65_258 _ (g_ix rfl (by omega) (by omega))
                                  refine lv_iconst (v := 3) hx hb dX9_deal_270 (by decide) ?_
                                  refine lv_icmp_ne (tgt := 288) hx hb dX9_deal_271 (by decide) (fun c_262 => ?_) (fun c_262 => ?_)
                                  ·
                                    have ic_262 : z_261.toInt ≠ 3 := mt (g_eq rfl t_3).mpr c_262
                                    clear c_262
                                    refine lv_iload hx hb dX9_deal_288 (lv_at hl 0 rfl) ?_
                                    refine lv_if_lt (tgt := 297) hx hb dX9_deal_290 (by decide) (fun c_263 => absurd c_263 (by rw [g_lt rfl t_0]; omega)) (fun c_263 => ?_)
                                    refine lv_iconst (v := 1) hx hb dX9_deal_293 (by decide) ?_
                                    refine lv_goto (tgt := 298) hx hb dX9_deal_294 (by decide) ?_
                                    refine lv_istore (lv' := [(6, .int 1), (7, .int L7_258), (5, .int L5_129), (4, .int 1), (0, .ref mh), (1, .int p0), (2, .int p1), (3, .int p2)]) hx hb dX9_deal_298 hl (by decide) rfl (fun ls hl => ?_)
                                    refine lv_iload hx hb dX9_deal_300 (lv_at hl 0 rfl) ?_
                                    refine lv_if_eq (tgt := 316) hx hb dX9_deal_302 (by decide) (fun c_264 => absurd c_264 (by decide)) (fun c_264 => ?_)
                                    refine lv_aload_n hx hb dX9_deal_305 rfl (lv_at hl 4 rfl) ?_
                                    refine va_get (D := D) (ci := 9) (v := .ref (ma 65)) (C := RX9) (T := TX9) (N := 68) hx hb htb iX9 hown hK.1 hP 3 rfl rfl 65 (by decide) (htb _ k_1023) (fun _ h9 => h9) rfl dX9_deal_306 ?_
                                    refine lv_iload hx hb dX9_deal_309 (lv_at hl 1 rfl) ?_
                                    refine lv_dup2_11 hx hb dX9_deal_311 rfl rfl ?_
                                    refine va_iald hx hb hK.1 hP 4 0 rfl rfl (g_in rfl (by omega) (by omega)) dX9_deal_312 ?_
                                    refine lv_topi (fun z_265 ez_265 => ?_)
                                    have kz_265 := congrArg Int32.toInt ez_265
                                    have jz_265 : 0 ≤ z_265.toInt ∧ z_265.toInt ≤ 3 := by rw [ez_265]; exact v_mf65_258 _ (g_ix rfl (by omega) (by omega))
                                    refine lv_iconst (v := 1) hx hb dX9_deal_313 (by decide) ?_
                                    refine lv_iadd hx hb dX9_deal_314 ?_
                                    refine lv_topi (fun z_266 ez_266 => ?_)
                                    have jz_266 : z_266.toInt = z_265.toInt + 1 := by rw [ez_266]; exact g_add rfl t_1 (by omega) (by omega)
                                    refine va_iast hx hb hK.1 hP hD hS 4 0 rfl rfl (g_in rfl (by omega) (by omega)) dX9_deal_315 (fun H locs hP hD hS => ?_)
                                    have hP : va_P D vwCl [((ma 62), .inl (E 0, 9, .inl mf62)), ((ma 63), .inl (E 0, 9, .inl mf63_129)), ((ma 66), .inl (E 0, 3, .inl (upd g_241 (2 : Int32).toNatClampNeg p2))), (mh, .inr (9, G9 ma mcode mtoday moffs mmany msumW msumA msumR msumWW msumWA msumAA msumWR msumAR mupper mlower mrates mtaped mlaid mat mtk mtkAt mtkNumber mwaits mlisted mdealtMany)), ((ma 65), .inl (E 0, 9, .inl (upd mf65_258 (L7_258 : Int32).toNatClampNeg z_266))), ((ma 67), .inl (E 0, 3, .inl u_252))] H := hP
                                    have hD := toW hP hD rfl
                                    have hv_267 : ∀ k : Nat, k < 9 → 0 ≤ ((upd mf65_258 (L7_258 : Int32).toNatClampNeg z_266) k).toInt ∧ ((upd mf65_258 (L7_258 : Int32).toNatClampNeg z_266) k).toInt ≤ 3 := upd_r v_mf65_258 (by (try dsimp only); omega)
                                    refine lv_goto (tgt := 129) hx hb dX9_deal_316 (by decide) ?_
                                    have hP := hP.sub (ws' := [(mh, .inr (9, G9 ma mcode mtoday moffs mmany msumW msumA msumR msumWW msumWA msumAA msumWR msumAR mupper mlower mrates mtaped mlaid mat mtk mtkAt mtkNumber mwaits mlisted mdealtMany)), ((ma 62), .inl (E 0, 9, .inl mf62)), ((ma 63), .inl (E 0, 9, .inl mf63_129)), ((ma 65), .inl (E 0, 9, .inl (upd mf65_258 (L7_258 : Int32).toNatClampNeg z_266))), ((ma 66), .inl (E 0, 3, .inl (upd g_241 (2 : Int32).toNatClampNeg p2))), ((ma 67), .inl (E 0, 3, .inl u_252))]) [3, 0, 1, 4, 2, 5] rfl
                                    have hD := hD.sub (ws' := [(mh, .inr (9, G9 ma mcode mtoday moffs mmany msumW msumA msumR msumWW msumWA msumAA msumWR msumAR mupper mlower mrates mtaped mlaid mat mtk mtkAt mtkNumber mwaits mlisted mdealtMany)), ((ma 62), .inl (E 0, 9, .inl mf62)), ((ma 63), .inl (E 0, 9, .inl mf63_129)), ((ma 65), .inl (E 0, 9, .inl (upd mf65_258 (L7_258 : Int32).toNatClampNeg z_266))), ((ma 66), .inl (E 0, 3, .inl (upd g_241 (2 : Int32).toNatClampNeg p2))), ((ma 67), .inl (E 0, 3, .inl u_252))]) [3, 0, 1, 4, 2, 5] (by decide) rfl
                                    exact ih_247 1 u_252 (upd mf65_258 (L7_258 : Int32).toNatClampNeg z_266) L5_129 mf63_129 _ _ _ (by have hc := carry_1 (n := mlisted) (i := L7_258) (by omega) (by omega) ez_265 jz_266 v1_258; have h := val4_max (n := mlisted) hv_267 (by omega) (by omega); have h1 := t_1; omega) hv_267 (by have hc := carry_1 (n := mlisted) (i := L7_258) (by omega) (by omega) ez_265 jz_266 v1_258; have h := val4_max (n := mlisted) hv_267 (by omega) (by omega); have h1 := t_1; omega) hP hD hS (lv_sub hl [0, 2, 3, 4, 5, 6, 7] rfl)
                                  ·
                                    have ic_262 : z_261.toInt = 3 := (g_eq rfl t_3).mp c_262
                                    clear c_262
                                    refine lv_aload_n hx hb dX9_deal_274 rfl (lv_at hl 4 rfl) ?_
                                    refine va_get (D := D) (ci := 9) (v := .ref (ma 65)) (C := RX9) (T := TX9) (N := 68) hx hb htb iX9 hown hK.1 hP 3 rfl rfl 65 (by decide) (htb _ k_1023) (fun _ h9 => h9) rfl dX9_deal_275 ?_
                                    refine lv_iload hx hb dX9_deal_278 (lv_at hl 0 rfl) ?_
                                    refine lv_iconst (v := 0) hx hb dX9_deal_280 (by decide) ?_
                                    refine va_iast hx hb hK.1 hP hD hS 4 0 rfl rfl (g_in rfl (by omega) (by omega)) dX9_deal_281 (fun H locs hP hD hS => ?_)
                                    have hP : va_P D vwCl [((ma 62), .inl (E 0, 9, .inl mf62)), ((ma 63), .inl (E 0, 9, .inl mf63_129)), ((ma 66), .inl (E 0, 3, .inl (upd g_241 (2 : Int32).toNatClampNeg p2))), (mh, .inr (9, G9 ma mcode mtoday moffs mmany msumW msumA msumR msumWW msumWA msumAA msumWR msumAR mupper mlower mrates mtaped mlaid mat mtk mtkAt mtkNumber mwaits mlisted mdealtMany)), ((ma 65), .inl (E 0, 9, .inl (upd mf65_258 (L7_258 : Int32).toNatClampNeg 0))), ((ma 67), .inl (E 0, 3, .inl u_252))] H := hP
                                    have hD := toW hP hD rfl
                                    have hv_268 : ∀ k : Nat, k < 9 → 0 ≤ ((upd mf65_258 (L7_258 : Int32).toNatClampNeg 0) k).toInt ∧ ((upd mf65_258 (L7_258 : Int32).toNatClampNeg 0) k).toInt ≤ 3 := upd_r v_mf65_258 (by decide)
                                    obtain ⟨z_269, ez_269⟩ : ∃ y : Int32, y = L7_258 + (-1) := ⟨_, rfl⟩
                                    have jz_269 : z_269.toInt = L7_258.toInt + -1 := by rw [ez_269]; exact g_add rfl t_m1 (by omega) (by omega)
                                    refine lv_iinc (v := z_269) (lv' := [(7, .int z_269), (6, .int L6_129), (5, .int L5_129), (4, .int 1), (0, .ref mh), (1, .int p0), (2, .int p1), (3, .int p2)]) hx hb dX9_deal_282 hl (k := 0) rfl (by rw [ez_269]; rfl) (by decide) rfl (fun ls hl => ?_)
                                    refine lv_goto (tgt := 258) hx hb dX9_deal_285 (by decide) ?_
                                    exact ih_256 z_269 (upd mf65_258 (L7_258 : Int32).toNatClampNeg 0) _ _ _ (by have h0 := t_1; (try dsimp only); omega) hv_268 (by have h0 := t_1; (try dsimp only); omega) (carry_0 (by omega) (by omega) (by omega) ez_261 (by omega) v1_258) hP hD hS (lv_sub hl [0, 1, 2, 3, 4, 5, 6, 7] rfl)
                            exact loop_255 10 z_254 mf65_129 _ _ _ (by have h0 := t_1; (try dsimp only); omega) v_mf65_129 (by have h0 := t_1; (try dsimp only); omega) (carry_s (by omega)) hP hD hS (lv_sub hl [0, 1, 2, 3, 4, 5, 6, 7] rfl)
                          ·
                            have ic_253 : r_250.toInt ≠ 0 := mt (g_eq rfl t_0).mpr c_253
                            clear c_253
                            refine lv_iconst (v := 0) hx hb dX9_deal_143 (by decide) ?_
                            refine lv_istore (lv' := [(7, .int 0), (6, .int L6_129), (5, .int L5_129), (4, .int 1), (0, .ref mh), (1, .int p0), (2, .int p1), (3, .int p2)]) hx hb dX9_deal_144 hl (by decide) rfl (fun ls hl => ?_)
                            refine lv_iconst (v := 0) hx hb dX9_deal_146 (by decide) ?_
                            refine lv_istore (lv' := [(8, .int 0), (7, .int 0), (6, .int L6_129), (5, .int L5_129), (4, .int 1), (0, .ref mh), (1, .int p0), (2, .int p1), (3, .int p2)]) hx hb dX9_deal_147 hl (by decide) rfl (fun ls hl => ?_)
                            have loop_270 : ∀ (N_272 : Nat) (L8_149 : Int32) (L7_149 : Int32) (H : Heap) (locs : List Loc) (ls : Array Slot), (1 : Int32).toInt - L8_149.toInt < (N_272 : Int) → (0 ≤ L8_149.toInt ∧ L8_149.toInt ≤ (1 : Int32).toInt) → va_P D vwCl [((ma 62), .inl (E 0, 9, .inl mf62)), ((ma 63), .inl (E 0, 9, .inl mf63_129)), ((ma 66), .inl (E 0, 3, .inl (upd g_241 (2 : Int32).toNatClampNeg p2))), (mh, .inr (9, G9 ma mcode mtoday moffs mmany msumW msumA msumR msumWW msumWA msumAA msumWR msumAR mupper mlower mrates mtaped mlaid mat mtk mtkAt mtkNumber mwaits mlisted mdealtMany)), ((ma 65), .inl (E 0, 9, .inl mf65_129)), ((ma 67), .inl (E 0, 3, .inl u_252))] H → va_D A [((ma 62), .inl (E 0, 9, .inl mf62)), ((ma 63), .inl (E 0, 9, .inl mf63_129)), ((ma 66), .inl (E 0, 3, .inl (upd g_241 (2 : Int32).toNatClampNeg p2))), (mh, .inr (9, G9 ma mcode mtoday moffs mmany msumW msumA msumR msumWW msumWA msumAA msumWR msumAR mupper mlower mrates mtaped mlaid mat mtk mtkAt mtkNumber mwaits mlisted mdealtMany)), ((ma 65), .inl (E 0, 9, .inl mf65_129)), ((ma 67), .inl (E 0, 3, .inl u_252))] → va_S A s.heap H locs → lv_has ls 9 [(8, .int L8_149), (7, .int L7_149), (6, .int L6_129), (5, .int L5_129), (4, .int 1), (0, .ref mh), (1, .int p0), (2, .int p1), (3, .int p2)] → W p l e (headSpec (wl yX9_deal cX9_deal 9 (some .int)) (RM 1 0 0)).room s m [Value.ref mh, .int p0, .int p1, .int p2].toArray below meth c H locs 0 0 (MQ below (va_Qi (fun (r : Int32) (u : (Nat → Int32) × (Nat → Int32) × (Nat → Int32) × (Nat → Int32) × (Int32) × (Int32)) => (∀ k : Nat, k < 9 → 0 ≤ (u.2.1 k).toInt ∧ (u.2.1 k).toInt ≤ 3) ∧ (0 ≤ u.2.2.2.2.1.toInt ∧ u.2.2.2.2.1.toInt ≤ 9) ∧ (0 ≤ u.2.2.2.2.2.toInt ∧ u.2.2.2.2.2.toInt ≤ 9) ∧ ((¬ ((1 ≤ p0.toInt ∧ p0.toInt ≤ 400) ∧ (0 ≤ p1.toInt ∧ p1.toInt ≤ 400) ∧ (0 ≤ p2.toInt ∧ p2.toInt ≤ 400) ∧ ¬ (p1.toInt = 0 ∧ p2.toInt ≠ 0)) ∧ r.toInt = -1 ∧ u.2.2.2.2.2.toInt = mlisted.toInt) ∨ (((1 ≤ p0.toInt ∧ p0.toInt ≤ 400) ∧ (0 ≤ p1.toInt ∧ p1.toInt ≤ 400) ∧ (0 ≤ p2.toInt ∧ p2.toInt ≤ 400) ∧ ¬ (p1.toInt = 0 ∧ p2.toInt ≠ 0)) ∧ ((p1.toInt = 0 ∧ mlisted.toInt < 3) ∨ (p1.toInt ≠ 0 ∧ p2.toInt = 0 ∧ mlisted.toInt < 6) ∨ (p1.toInt ≠ 0 ∧ p2.toInt ≠ 0 ∧ mlisted.toInt < 9)) ∧ r.toInt = -4 ∧ u.2.2.2.2.2.toInt = mlisted.toInt) ∨ (((1 ≤ p0.toInt ∧ p0.toInt ≤ 400) ∧ (0 ≤ p1.toInt ∧ p1.toInt ≤ 400) ∧ (0 ≤ p2.toInt ∧ p2.toInt ≤ 400) ∧ ¬ (p1.toInt = 0 ∧ p2.toInt ≠ 0)) ∧ ¬ ((p1.toInt = 0 ∧ mlisted.toInt < 3) ∨ (p1.toInt ≠ 0 ∧ p2.toInt = 0 ∧ mlisted.toInt < 6) ∨ (p1.toInt ≠ 0 ∧ p2.toInt ≠ 0 ∧ mlisted.toInt < 9)) ∧ u.2.2.2.2.2.toInt = 0))) (mu_B D A (fun (u : (Nat → Int32) × (Nat → Int32) × (Nat → Int32) × (Nat → Int32) × (Int32) × (Int32)) => [(mh, .inr (9, G9 ma mcode mtoday moffs mmany msumW msumA msumR msumWW msumWA msumAA msumWR msumAR mupper mlower mrates mtaped mlaid mat mtk mtkAt mtkNumber mwaits u.2.2.2.2.2 u.2.2.2.2.1)), ((ma 62), .inl (E 0, 9, .inl mf62)), ((ma 63), .inl (E 0, 9, .inl u.1)), ((ma 65), .inl (E 0, 9, .inl u.2.1)), ((ma 66), .inl (E 0, 3, .inl u.2.2.1)), ((ma 67), .inl (E 0, 3, .inl u.2.2.2.1))])) A) [Value.ref mh, .int p0, .int p1, .int p2].toArray s 0 0 A) (F0 m 149 ls []) := by
                              intro N_272
                              induction N_272 with
                              | zero => intro L8_149 L7_149 H locs ls hm v0_149 _ _ _ _; exfalso; omega
                              | succ N_272 ih_271 =>
                                intro L8_149 L7_149 H locs ls hm v0_149 hP hD hS hl
                                have lo_L8_149 := i_lo L8_149; have hi_L8_149 := i_hi L8_149
                                have lo_L7_149 := i_lo L7_149; have hi_L7_149 := i_hi L7_149
                                refine lv_iload hx hb dX9_deal_149 (lv_at hl 0 rfl) ?_
                                refine lv_iload hx hb dX9_deal_151 (lv_at hl 4 rfl) ?_
                                refine lv_icmp_ge (tgt := 202) hx hb dX9_deal_153 (by decide) (fun c_273 => ?_) (fun c_273 => ?_)
                                ·
                                  have ic_273 : 1 ≤ L8_149.toInt := by first | exact (g_le t_1 rfl).mp c_273 | (have h := mt (g_lt rfl t_1).mpr c_273; omega)
                                  clear c_273
                                  refine lv_iload hx hb dX9_deal_202 (lv_at hl 3 rfl) ?_
                                  refine lv_if_lt (tgt := 214) hx hb dX9_deal_204 (by decide) (fun c_274 => ?_) (fun c_274 => ?_)
                                  ·
                                    have ic_274 : L5_129.toInt < 0 := by first | exact (g_lt rfl t_0).mp c_274 | (have h := mt (g_le t_0 rfl).mpr c_274; omega)
                                    clear c_274
                                    refine lv_iload hx hb dX9_deal_214 (lv_at hl 1 rfl) ?_
                                    refine lv_istore (lv' := [(5, .int L7_149), (8, .int L8_149), (7, .int L7_149), (6, .int L6_129), (4, .int 1), (0, .ref mh), (1, .int p0), (2, .int p1), (3, .int p2)]) hx hb dX9_deal_216 hl (by decide) rfl (fun ls hl => ?_)
                                    refine lv_iconst (v := 0) hx hb dX9_deal_218 (by decide) ?_
                                    refine lv_istore (lv' := [(8, .int 0), (5, .int L7_149), (7, .int L7_149), (6, .int L6_129), (4, .int 1), (0, .ref mh), (1, .int p0), (2, .int p1), (3, .int p2)]) hx hb dX9_deal_219 hl (by decide) rfl (fun ls hl => ?_)
                                    have loop_275 : ∀ (N_277 : Nat) (L8_221 : Int32) (mf63_221 : Nat → Int32) (H : Heap) (locs : List Loc) (ls : Array Slot), mlisted.toInt - L8_221.toInt < (N_277 : Int) → (0 ≤ L8_221.toInt ∧ L8_221.toInt ≤ mlisted.toInt) → va_P D vwCl [((ma 62), .inl (E 0, 9, .inl mf62)), ((ma 63), .inl (E 0, 9, .inl mf63_221)), ((ma 66), .inl (E 0, 3, .inl (upd g_241 (2 : Int32).toNatClampNeg p2))), (mh, .inr (9, G9 ma mcode mtoday moffs mmany msumW msumA msumR msumWW msumWA msumAA msumWR msumAR mupper mlower mrates mtaped mlaid mat mtk mtkAt mtkNumber mwaits mlisted mdealtMany)), ((ma 65), .inl (E 0, 9, .inl mf65_129)), ((ma 67), .inl (E 0, 3, .inl u_252))] H → va_D A [((ma 62), .inl (E 0, 9, .inl mf62)), ((ma 63), .inl (E 0, 9, .inl mf63_221)), ((ma 66), .inl (E 0, 3, .inl (upd g_241 (2 : Int32).toNatClampNeg p2))), (mh, .inr (9, G9 ma mcode mtoday moffs mmany msumW msumA msumR msumWW msumWA msumAA msumWR msumAR mupper mlower mrates mtaped mlaid mat mtk mtkAt mtkNumber mwaits mlisted mdealtMany)), ((ma 65), .inl (E 0, 9, .inl mf65_129)), ((ma 67), .inl (E 0, 3, .inl u_252))] → va_S A s.heap H locs → lv_has ls 9 [(8, .int L8_221), (5, .int L7_149), (7, .int L7_149), (6, .int L6_129), (4, .int 1), (0, .ref mh), (1, .int p0), (2, .int p1), (3, .int p2)] → W p l e (headSpec (wl yX9_deal cX9_deal 9 (some .int)) (RM 1 0 0)).room s m [Value.ref mh, .int p0, .int p1, .int p2].toArray below meth c H locs 0 0 (MQ below (va_Qi (fun (r : Int32) (u : (Nat → Int32) × (Nat → Int32) × (Nat → Int32) × (Nat → Int32) × (Int32) × (Int32)) => (∀ k : Nat, k < 9 → 0 ≤ (u.2.1 k).toInt ∧ (u.2.1 k).toInt ≤ 3) ∧ (0 ≤ u.2.2.2.2.1.toInt ∧ u.2.2.2.2.1.toInt ≤ 9) ∧ (0 ≤ u.2.2.2.2.2.toInt ∧ u.2.2.2.2.2.toInt ≤ 9) ∧ ((¬ ((1 ≤ p0.toInt ∧ p0.toInt ≤ 400) ∧ (0 ≤ p1.toInt ∧ p1.toInt ≤ 400) ∧ (0 ≤ p2.toInt ∧ p2.toInt ≤ 400) ∧ ¬ (p1.toInt = 0 ∧ p2.toInt ≠ 0)) ∧ r.toInt = -1 ∧ u.2.2.2.2.2.toInt = mlisted.toInt) ∨ (((1 ≤ p0.toInt ∧ p0.toInt ≤ 400) ∧ (0 ≤ p1.toInt ∧ p1.toInt ≤ 400) ∧ (0 ≤ p2.toInt ∧ p2.toInt ≤ 400) ∧ ¬ (p1.toInt = 0 ∧ p2.toInt ≠ 0)) ∧ ((p1.toInt = 0 ∧ mlisted.toInt < 3) ∨ (p1.toInt ≠ 0 ∧ p2.toInt = 0 ∧ mlisted.toInt < 6) ∨ (p1.toInt ≠ 0 ∧ p2.toInt ≠ 0 ∧ mlisted.toInt < 9)) ∧ r.toInt = -4 ∧ u.2.2.2.2.2.toInt = mlisted.toInt) ∨ (((1 ≤ p0.toInt ∧ p0.toInt ≤ 400) ∧ (0 ≤ p1.toInt ∧ p1.toInt ≤ 400) ∧ (0 ≤ p2.toInt ∧ p2.toInt ≤ 400) ∧ ¬ (p1.toInt = 0 ∧ p2.toInt ≠ 0)) ∧ ¬ ((p1.toInt = 0 ∧ mlisted.toInt < 3) ∨ (p1.toInt ≠ 0 ∧ p2.toInt = 0 ∧ mlisted.toInt < 6) ∨ (p1.toInt ≠ 0 ∧ p2.toInt ≠ 0 ∧ mlisted.toInt < 9)) ∧ u.2.2.2.2.2.toInt = 0))) (mu_B D A (fun (u : (Nat → Int32) × (Nat → Int32) × (Nat → Int32) × (Nat → Int32) × (Int32) × (Int32)) => [(mh, .inr (9, G9 ma mcode mtoday moffs mmany msumW msumA msumR msumWW msumWA msumAA msumWR msumAR mupper mlower mrates mtaped mlaid mat mtk mtkAt mtkNumber mwaits u.2.2.2.2.2 u.2.2.2.2.1)), ((ma 62), .inl (E 0, 9, .inl mf62)), ((ma 63), .inl (E 0, 9, .inl u.1)), ((ma 65), .inl (E 0, 9, .inl u.2.1)), ((ma 66), .inl (E 0, 3, .inl u.2.2.1)), ((ma 67), .inl (E 0, 3, .inl u.2.2.2.1))])) A) [Value.ref mh, .int p0, .int p1, .int p2].toArray s 0 0 A) (F0 m 221 ls []) := by
                                      intro N_277
                                      induction N_277 with
                                      | zero => intro L8_221 mf63_221 H locs ls hm v0_221 _ _ _ _; exfalso; omega
                                      | succ N_277 ih_276 =>
                                        intro L8_221 mf63_221 H locs ls hm v0_221 hP hD hS hl
                                        have lo_L8_221 := i_lo L8_221; have hi_L8_221 := i_hi L8_221
                                        refine lv_iload hx hb dX9_deal_221 (lv_at hl 0 rfl) ?_
                                        refine lv_aload_n hx hb dX9_deal_223 rfl (lv_at hl 5 rfl) ?_
                                        refine va_get (D := D) (ci := 9) (v := .int mlisted) (C := RX9) (T := TX9) (N := 68) hx hb htb iX9 hown hK.1 hP 3 rfl rfl 61 (by decide) (htb _ k_1019) (fun _ h9 => h9) rfl dX9_deal_224 ?_
                                        refine lv_icmp_ge (tgt := 250) hx hb dX9_deal_227 (by decide) (fun c_278 => ?_) (fun c_278 => ?_)
                                        ·
                                          have ic_278 : mlisted.toInt ≤ L8_221.toInt := by first | exact (g_le rfl rfl).mp c_278 | (have h := mt (g_lt rfl rfl).mpr c_278; omega)
                                          clear c_278
                                          refine lv_aload_n hx hb dX9_deal_250 rfl (lv_at hl 5 rfl) ?_
                                          refine va_get (D := D) (ci := 9) (v := .int mlisted) (C := RX9) (T := TX9) (N := 68) hx hb htb iX9 hown hK.1 hP 3 rfl rfl 61 (by decide) (htb _ k_1019) (fun _ h9 => h9) rfl dX9_deal_251 ?_
                                          refine lv_iconst (v := 1) hx hb dX9_deal_254 (by decide) ?_
                                          refine lv_isub hx hb dX9_deal_255 ?_
                                          refine lv_topi (fun z_279 ez_279 => ?_)
                                          have jz_279 : z_279.toInt = mlisted.toInt - 1 := by rw [ez_279]; exact g_sub rfl t_1 (by omega) (by omega)
                                          refine lv_istore (lv' := [(7, .int z_279), (8, .int L8_221), (5, .int L7_149), (6, .int L6_129), (4, .int 1), (0, .ref mh), (1, .int p0), (2, .int p1), (3, .int p2)]) hx hb dX9_deal_256 hl (by decide) rfl (fun ls hl => ?_)
                                          have loop_280 : ∀ (N_282 : Nat) (L7_258 : Int32) (mf65_258 : Nat → Int32) (H : Heap) (locs : List Loc) (ls : Array Slot), L7_258.toInt + 1 < (N_282 : Int) → (∀ k : Nat, k < 9 → 0 ≤ (mf65_258 k).toInt ∧ (mf65_258 k).toInt ≤ 3) → (-1 ≤ L7_258.toInt ∧ L7_258.toInt < mlisted.toInt) → (val4 mf65_258 (mlisted).toNatClampNeg + 4 ^ (mlisted.toInt - 1 - L7_258.toInt).toNat = val4 mf65_129 (mlisted).toNatClampNeg + 1) → va_P D vwCl [((ma 62), .inl (E 0, 9, .inl mf62)), ((ma 63), .inl (E 0, 9, .inl mf63_221)), ((ma 66), .inl (E 0, 3, .inl (upd g_241 (2 : Int32).toNatClampNeg p2))), (mh, .inr (9, G9 ma mcode mtoday moffs mmany msumW msumA msumR msumWW msumWA msumAA msumWR msumAR mupper mlower mrates mtaped mlaid mat mtk mtkAt mtkNumber mwaits mlisted mdealtMany)), ((ma 65), .inl (E 0, 9, .inl mf65_258)), ((ma 67), .inl (E 0, 3, .inl u_252))] H → va_D A [((ma 62), .inl (E 0, 9, .inl mf62)), ((ma 63), .inl (E 0, 9, .inl mf63_221)), ((ma 66), .inl (E 0, 3, .inl (upd g_241 (2 : Int32).toNatClampNeg p2))), (mh, .inr (9, G9 ma mcode mtoday moffs mmany msumW msumA msumR msumWW msumWA msumAA msumWR msumAR mupper mlower mrates mtaped mlaid mat mtk mtkAt mtkNumber mwaits mlisted mdealtMany)), ((ma 65), .inl (E 0, 9, .inl mf65_258)), ((ma 67), .inl (E 0, 3, .inl u_252))] → va_S A s.heap H locs → lv_has ls 9 [(7, .int L7_258), (5, .int L7_149), (6, .int L6_129), (4, .int 1), (0, .ref mh), (1, .int p0), (2, .int p1), (3, .int p2)] → W p l e (headSpec (wl yX9_deal cX9_deal 9 (some .int)) (RM 1 0 0)).room s m [Value.ref mh, .int p0, .int p1, .int p2].toArray below meth c H locs 0 0 (MQ below (va_Qi (fun (r : Int32) (u : (Nat → Int32) × (Nat → Int32) × (Nat → Int32) × (Nat → Int32) × (Int32) × (Int32)) => (∀ k : Nat, k < 9 → 0 ≤ (u.2.1 k).toInt ∧ (u.2.1 k).toInt ≤ 3) ∧ (0 ≤ u.2.2.2.2.1.toInt ∧ u.2.2.2.2.1.toInt ≤ 9) ∧ (0 ≤ u.2.2.2.2.2.toInt ∧ u.2.2.2.2.2.toInt ≤ 9) ∧ ((¬ ((1 ≤ p0.toInt ∧ p0.toInt ≤ 400) ∧ (0 ≤ p1.toInt ∧ p1.toInt ≤ 400) ∧ (0 ≤ p2.toInt ∧ p2.toInt ≤ 400) ∧ ¬ (p1.toInt = 0 ∧ p2.toInt ≠ 0)) ∧ r.toInt = -1 ∧ u.2.2.2.2.2.toInt = mlisted.toInt) ∨ (((1 ≤ p0.toInt ∧ p0.toInt ≤ 400) ∧ (0 ≤ p1.toInt ∧ p1.toInt ≤ 400) ∧ (0 ≤ p2.toInt ∧ p2.toInt ≤ 400) ∧ ¬ (p1.toInt = 0 ∧ p2.toInt ≠ 0)) ∧ ((p1.toInt = 0 ∧ mlisted.toInt < 3) ∨ (p1.toInt ≠ 0 ∧ p2.toInt = 0 ∧ mlisted.toInt < 6) ∨ (p1.toInt ≠ 0 ∧ p2.toInt ≠ 0 ∧ mlisted.toInt < 9)) ∧ r.toInt = -4 ∧ u.2.2.2.2.2.toInt = mlisted.toInt) ∨ (((1 ≤ p0.toInt ∧ p0.toInt ≤ 400) ∧ (0 ≤ p1.toInt ∧ p1.toInt ≤ 400) ∧ (0 ≤ p2.toInt ∧ p2.toInt ≤ 400) ∧ ¬ (p1.toInt = 0 ∧ p2.toInt ≠ 0)) ∧ ¬ ((p1.toInt = 0 ∧ mlisted.toInt < 3) ∨ (p1.toInt ≠ 0 ∧ p2.toInt = 0 ∧ mlisted.toInt < 6) ∨ (p1.toInt ≠ 0 ∧ p2.toInt ≠ 0 ∧ mlisted.toInt < 9)) ∧ u.2.2.2.2.2.toInt = 0))) (mu_B D A (fun (u : (Nat → Int32) × (Nat → Int32) × (Nat → Int32) × (Nat → Int32) × (Int32) × (Int32)) => [(mh, .inr (9, G9 ma mcode mtoday moffs mmany msumW msumA msumR msumWW msumWA msumAA msumWR msumAR mupper mlower mrates mtaped mlaid mat mtk mtkAt mtkNumber mwaits u.2.2.2.2.2 u.2.2.2.2.1)), ((ma 62), .inl (E 0, 9, .inl mf62)), ((ma 63), .inl (E 0, 9, .inl u.1)), ((ma 65), .inl (E 0, 9, .inl u.2.1)), ((ma 66), .inl (E 0, 3, .inl u.2.2.1)), ((ma 67), .inl (E 0, 3, .inl u.2.2.2.1))])) A) [Value.ref mh, .int p0, .int p1, .int p2].toArray s 0 0 A) (F0 m 258 ls []) := by
                                            intro N_282
                                            induction N_282 with
                                            | zero => intro L7_258 mf65_258 H locs ls hm v_mf65_258 v0_258 v1_258 _ _ _ _; exfalso; omega
                                            | succ N_282 ih_281 =>
                                              intro L7_258 mf65_258 H locs ls hm v_mf65_258 v0_258 v1_258 hP hD hS hl
                                              have lo_L7_258 := i_lo L7_258; have hi_L7_258 := i_hi L7_258
                                              refine lv_iload hx hb dX9_deal_258 (lv_at hl 0 rfl) ?_
                                              refine lv_if_lt (tgt := 288) hx hb dX9_deal_260 (by decide) (fun c_283 => ?_) (fun c_283 => ?_)
                                              ·
                                                have ic_283 : L7_258.toInt < 0 := by first | exact (g_lt rfl t_0).mp c_283 | (have h := mt (g_le t_0 rfl).mpr c_283; omega)
                                                clear c_283
                                                refine lv_iload hx hb dX9_deal_288 (lv_at hl 0 rfl) ?_
                                                refine lv_if_lt (tgt := 297) hx hb dX9_deal_290 (by decide) (fun c_284 => ?_) (fun c_284 => absurd (by rw [g_lt rfl t_0]; omega) c_284)
                                                refine lv_iconst (v := 0) hx hb dX9_deal_297 (by decide) ?_
                                                refine lv_istore (lv' := [(6, .int 0), (7, .int L7_258), (5, .int L7_149), (4, .int 1), (0, .ref mh), (1, .int p0), (2, .int p1), (3, .int p2)]) hx hb dX9_deal_298 hl (by decide) rfl (fun ls hl => ?_)
                                                refine lv_iload hx hb dX9_deal_300 (lv_at hl 0 rfl) ?_
                                                refine lv_if_eq (tgt := 316) hx hb dX9_deal_302 (by decide) (fun c_285 => ?_) (fun c_285 => absurd (by decide) c_285)
                                                refine lv_goto (tgt := 129) hx hb dX9_deal_316 (by decide) ?_
                                                have hP := hP.sub (ws' := [(mh, .inr (9, G9 ma mcode mtoday moffs mmany msumW msumA msumR msumWW msumWA msumAA msumWR msumAR mupper mlower mrates mtaped mlaid mat mtk mtkAt mtkNumber mwaits mlisted mdealtMany)), ((ma 62), .inl (E 0, 9, .inl mf62)), ((ma 63), .inl (E 0, 9, .inl mf63_221)), ((ma 65), .inl (E 0, 9, .inl mf65_258)), ((ma 66), .inl (E 0, 3, .inl (upd g_241 (2 : Int32).toNatClampNeg p2))), ((ma 67), .inl (E 0, 3, .inl u_252))]) [3, 0, 1, 4, 2, 5] rfl
                                                have hD := hD.sub (ws' := [(mh, .inr (9, G9 ma mcode mtoday moffs mmany msumW msumA msumR msumWW msumWA msumAA msumWR msumAR mupper mlower mrates mtaped mlaid mat mtk mtkAt mtkNumber mwaits mlisted mdealtMany)), ((ma 62), .inl (E 0, 9, .inl mf62)), ((ma 63), .inl (E 0, 9, .inl mf63_221)), ((ma 65), .inl (E 0, 9, .inl mf65_258)), ((ma 66), .inl (E 0, 3, .inl (upd g_241 (2 : Int32).toNatClampNeg p2))), ((ma 67), .inl (E 0, 3, .inl u_252))]) [3, 0, 1, 4, 2, 5] (by decide) rfl
                                                exact ih_247 0 u_252 mf65_258 L7_149 mf63_221 _ _ _ (by have h := carry_e (n := mlisted) (i := L7_258) (by omega) (by omega) (by omega) v_mf65_258 v_mf65_129 v1_258; have h1 := t_0; omega) v_mf65_258 (by have h := carry_e (n := mlisted) (i := L7_258) (by omega) (by omega) (by omega) v_mf65_258 v_mf65_129 v1_258; have h1 := t_0; omega) hP hD hS (lv_sub hl [0, 2, 3, 4, 5, 6, 7] rfl)
                                              ·
                                                have ic_283 : 0 ≤ L7_258.toInt := by first | exact (g_le t_0 rfl).mp c_283 | (have h := mt (g_lt rfl t_0).mpr c_283; omega)
                                                clear c_283
                                                refine lv_aload_n hx hb dX9_deal_263 rfl (lv_at hl 4 rfl) ?_
                                                refine va_get (D := D) (ci := 9) (v := .ref (ma 65)) (C := RX9) (T := TX9) (N := 68) hx hb htb iX9 hown hK.1 hP 3 rfl rfl 65 (by decide) (htb _ k_1023) (fun _ h9 => h9) rfl dX9_deal_264 ?_
                                                refine lv_iload hx hb dX9_deal_267 (lv_at hl 0 rfl) ?_
                                                refine va_iald hx hb hK.1 hP 4 0 rfl rfl (g_in rfl (by omega) (by omega)) dX9_deal_269 ?_
                                                refine lv_topi (fun z_286 ez_286 => ?_)
                                                have kz_286 := congrArg Int32.toInt ez_286
                                                have jz_286 : 0 ≤ z_286.toInt ∧ z_286.toInt ≤ 3 := by rw [ez_286]; exact v_mf65_258 _ (g_ix rfl (by omega) (by omega))
                                                refine lv_iconst (v := 3) hx hb dX9_deal_270 (by decide) ?_
                                                refine lv_icmp_ne (tgt := 288) hx hb dX9_deal_271 (by decide) (fun c_287 => ?_) (fun c_287 => ?_)
                                                ·
                                                  have ic_287 : z_286.toInt ≠ 3 := mt (g_eq rfl t_3).mpr c_287
                                                  clear c_287
                                                  refine lv_iload hx hb dX9_deal_288 (lv_at hl 0 rfl) ?_
                                                  refine lv_if_lt (tgt := 297) hx hb dX9_deal_290 (by decide) (fun c_288 => absurd c_288 (by rw [g_lt rfl t_0]; omega)) (fun c_288 => ?_)
                                                  refine lv_iconst (v := 1) hx hb dX9_deal_293 (by decide) ?_
                                                  refine lv_goto (tgt := 298) hx hb dX9_deal_294 (by decide) ?_
                                                  refine lv_istore (lv' := [(6, .int 1), (7, .int L7_258), (5, .int L7_149), (4, .int 1), (0, .ref mh), (1, .int p0), (2, .int p1), (3, .int p2)]) hx hb dX9_deal_298 hl (by decide) rfl (fun ls hl => ?_)
                                                  refine lv_iload hx hb dX9_deal_300 (lv_at hl 0 rfl) ?_
                                                  refine lv_if_eq (tgt := 316) hx hb dX9_deal_302 (by decide) (fun c_289 => absurd c_289 (by decide)) (fun c_289 => ?_)
                                                  refine lv_aload_n hx hb dX9_deal_305 rfl (lv_at hl 4 rfl) ?_
                                                  refine va_get (D := D) (ci := 9) (v := .ref (ma 65)) (C := RX9) (T := TX9) (N := 68) hx hb htb iX9 hown hK.1 hP 3 rfl rfl 65 (by decide) (htb _ k_1023) (fun _ h9 => h9) rfl dX9_deal_306 ?_
                                                  refine lv_iload hx hb dX9_deal_309 (lv_at hl 1 rfl) ?_
                                                  refine lv_dup2_11 hx hb dX9_deal_311 rfl rfl ?_
                                                  refine va_iald hx hb hK.1 hP 4 0 rfl rfl (g_in rfl (by omega) (by omega)) dX9_deal_312 ?_
                                                  refine lv_topi (fun z_290 ez_290 => ?_)
                                                  have kz_290 := congrArg Int32.toInt ez_290
                                                  have jz_290 : 0 ≤ z_290.toInt ∧ z_290.toInt ≤ 3 := by rw [ez_290]; exact v_mf65_258 _ (g_ix rfl (by omega) (by omega))
                                                  refine lv_iconst (v := 1) hx hb dX9_deal_313 (by decide) ?_
                                                  refine lv_iadd hx hb dX9_deal_314 ?_
                                                  refine lv_topi (fun z_291 ez_291 => ?_)
                                                  have jz_291 : z_291.toInt = z_290.toInt + 1 := by rw [ez_291]; exact g_add rfl t_1 (by omega) (by omega)
                                                  refine va_iast hx hb hK.1 hP hD hS 4 0 rfl rfl (g_in rfl (by omega) (by omega)) dX9_deal_315 (fun H locs hP hD hS => ?_)
                                                  have hP : va_P D vwCl [((ma 62), .inl (E 0, 9, .inl mf62)), ((ma 63), .inl (E 0, 9, .inl mf63_221)), ((ma 66), .inl (E 0, 3, .inl (upd g_241 (2 : Int32).toNatClampNeg p2))), (mh, .inr (9, G9 ma mcode mtoday moffs mmany msumW msumA msumR msumWW msumWA msumAA msumWR msumAR mupper mlower mrates mtaped mlaid mat mtk mtkAt mtkNumber mwaits mlisted mdealtMany)), ((ma 65), .inl (E 0, 9, .inl (upd mf65_258 (L7_258 : Int32).toNatClampNeg z_291))), ((ma 67), .inl (E 0, 3, .inl u_252))] H := hP
                                                  have hD := toW hP hD rfl
                                                  have hv_292 : ∀ k : Nat, k < 9 → 0 ≤ ((upd mf65_258 (L7_258 : Int32).toNatClampNeg z_291) k).toInt ∧ ((upd mf65_258 (L7_258 : Int32).toNatClampNeg z_291) k).toInt ≤ 3 := upd_r v_mf65_258 (by (try dsimp only); omega)
                                                  refine lv_goto (tgt := 129) hx hb dX9_deal_316 (by decide) ?_
                                                  have hP := hP.sub (ws' := [(mh, .inr (9, G9 ma mcode mtoday moffs mmany msumW msumA msumR msumWW msumWA msumAA msumWR msumAR mupper mlower mrates mtaped mlaid mat mtk mtkAt mtkNumber mwaits mlisted mdealtMany)), ((ma 62), .inl (E 0, 9, .inl mf62)), ((ma 63), .inl (E 0, 9, .inl mf63_221)), ((ma 65), .inl (E 0, 9, .inl (upd mf65_258 (L7_258 : Int32).toNatClampNeg z_291))), ((ma 66), .inl (E 0, 3, .inl (upd g_241 (2 : Int32).toNatClampNeg p2))), ((ma 67), .inl (E 0, 3, .inl u_252))]) [3, 0, 1, 4, 2, 5] rfl
                                                  have hD := hD.sub (ws' := [(mh, .inr (9, G9 ma mcode mtoday moffs mmany msumW msumA msumR msumWW msumWA msumAA msumWR msumAR mupper mlower mrates mtaped mlaid mat mtk mtkAt mtkNumber mwaits mlisted mdealtMany)), ((ma 62), .inl (E 0, 9, .inl mf62)), ((ma 63), .inl (E 0, 9, .inl mf63_221)), ((ma 65), .inl (E 0, 9, .inl (upd mf65_258 (L7_258 : Int32).toNatClampNeg z_291))), ((ma 66), .inl (E 0, 3, .inl (upd g_241 (2 : Int32).toNatClampNeg p2))), ((ma 67), .inl (E 0, 3, .inl u_252))]) [3, 0, 1, 4, 2, 5] (by decide) rfl
                                                  exact ih_247 1 u_252 (upd mf65_258 (L7_258 : Int32).toNatClampNeg z_291) L7_149 mf63_221 _ _ _ (by have hc := carry_1 (n := mlisted) (i := L7_258) (by omega) (by omega) ez_290 jz_291 v1_258; have h := val4_max (n := mlisted) hv_292 (by omega) (by omega); have h1 := t_1; omega) hv_292 (by have hc := carry_1 (n := mlisted) (i := L7_258) (by omega) (by omega) ez_290 jz_291 v1_258; have h := val4_max (n := mlisted) hv_292 (by omega) (by omega); have h1 := t_1; omega) hP hD hS (lv_sub hl [0, 2, 3, 4, 5, 6, 7] rfl)
                                                ·
                                                  have ic_287 : z_286.toInt = 3 := (g_eq rfl t_3).mp c_287
                                                  clear c_287
                                                  refine lv_aload_n hx hb dX9_deal_274 rfl (lv_at hl 4 rfl) ?_
                                                  refine va_get (D := D) (ci := 9) (v := .ref (ma 65)) (C := RX9) (T := TX9) (N := 68) hx hb htb iX9 hown hK.1 hP 3 rfl rfl 65 (by decide) (htb _ k_1023) (fun _ h9 => h9) rfl dX9_deal_275 ?_
                                                  refine lv_iload hx hb dX9_deal_278 (lv_at hl 0 rfl) ?_
                                                  refine lv_iconst (v := 0) hx hb dX9_deal_280 (by decide) ?_
                                                  refine va_iast hx hb hK.1 hP hD hS 4 0 rfl rfl (g_in rfl (by omega) (by omega)) dX9_deal_281 (fun H locs hP hD hS => ?_)
                                                  have hP : va_P D vwCl [((ma 62), .inl (E 0, 9, .inl mf62)), ((ma 63), .inl (E 0, 9, .inl mf63_221)), ((ma 66), .inl (E 0, 3, .inl (upd g_241 (2 : Int32).toNatClampNeg p2))), (mh, .inr (9, G9 ma mcode mtoday moffs mmany msumW msumA msumR msumWW msumWA msumAA msumWR msumAR mupper mlower mrates mtaped mlaid mat mtk mtkAt mtkNumber mwaits mlisted mdealtMany)), ((ma 65), .inl (E 0, 9, .inl (upd mf65_258 (L7_258 : Int32).toNatClampNeg 0))), ((ma 67), .inl (E 0, 3, .inl u_252))] H := hP
                                                  have hD := toW hP hD rfl
                                                  have hv_293 : ∀ k : Nat, k < 9 → 0 ≤ ((upd mf65_258 (L7_258 : Int32).toNatClampNeg 0) k).toInt ∧ ((upd mf65_258 (L7_258 : Int32).toNatClampNeg 0) k).toInt ≤ 3 := upd_r v_mf65_258 (by decide)
                                                  obtain ⟨z_294, ez_294⟩ : ∃ y : Int32, y = L7_258 + (-1) := ⟨_, rfl⟩
                                                  have jz_294 : z_294.toInt = L7_258.toInt + -1 := by rw [ez_294]; exact g_add rfl t_m1 (by omega) (by omega)
                                                  refine lv_iinc (v := z_294) (lv' := [(7, .int z_294), (5, .int L7_149), (6, .int L6_129), (4, .int 1), (0, .ref mh), (1, .int p0), (2, .int p1), (3, .int p2)]) hx hb dX9_deal_282 hl (k := 0) rfl (by rw [ez_294]; rfl) (by decide) rfl (fun ls hl => ?_)
                                                  refine lv_goto (tgt := 258) hx hb dX9_deal_285 (by decide) ?_
                                                  exact ih_281 z_294 (upd mf65_258 (L7_258 : Int32).toNatClampNeg 0) _ _ _ (by have h0 := t_1; (try dsimp only); omega) hv_293 (by have h0 := t_1; (try dsimp only); omega) (carry_0 (by omega) (by omega) (by omega) ez_286 (by omega) v1_258) hP hD hS (lv_sub hl [0, 1, 2, 3, 4, 5, 6, 7] rfl)
                                          exact loop_280 10 z_279 mf65_129 _ _ _ (by have h0 := t_1; (try dsimp only); omega) v_mf65_129 (by have h0 := t_1; (try dsimp only); omega) (carry_s (by omega)) hP hD hS (lv_sub hl [0, 2, 3, 4, 5, 6, 7, 8] rfl)
                                        ·
                                          have ic_278 : L8_221.toInt < mlisted.toInt := by first | exact (g_lt rfl rfl).mp c_278 | (have h := mt (g_le rfl rfl).mpr c_278; omega)
                                          clear c_278
                                          refine lv_aload_n hx hb dX9_deal_230 rfl (lv_at hl 5 rfl) ?_
                                          refine va_get (D := D) (ci := 9) (v := .ref (ma 63)) (C := RX9) (T := TX9) (N := 68) hx hb htb iX9 hown hK.1 hP 3 rfl rfl 63 (by decide) (htb _ k_1021) (fun _ h9 => h9) rfl dX9_deal_231 ?_
                                          refine lv_iload hx hb dX9_deal_234 (lv_at hl 0 rfl) ?_
                                          refine lv_aload_n hx hb dX9_deal_236 rfl (lv_at hl 5 rfl) ?_
                                          refine va_get (D := D) (ci := 9) (v := .ref (ma 65)) (C := RX9) (T := TX9) (N := 68) hx hb htb iX9 hown hK.1 hP 3 rfl rfl 65 (by decide) (htb _ k_1023) (fun _ h9 => h9) rfl dX9_deal_237 ?_
                                          refine lv_iload hx hb dX9_deal_240 (lv_at hl 0 rfl) ?_
                                          refine va_iald hx hb hK.1 hP 4 0 rfl rfl (g_in rfl (by omega) (by omega)) dX9_deal_242 ?_
                                          refine lv_topi (fun z_295 ez_295 => ?_)
                                          have kz_295 := congrArg Int32.toInt ez_295
                                          have jz_295 : 0 ≤ z_295.toInt ∧ z_295.toInt ≤ 3 := by rw [ez_295]; exact v_mf65_129 _ (g_ix rfl (by omega) (by omega))
                                          refine va_iast hx hb hK.1 hP hD hS 1 0 rfl rfl (g_in rfl (by omega) (by omega)) dX9_deal_243 (fun H locs hP hD hS => ?_)
                                          have hP : va_P D vwCl [((ma 62), .inl (E 0, 9, .inl mf62)), ((ma 63), .inl (E 0, 9, .inl (upd mf63_221 (L8_221 : Int32).toNatClampNeg z_295))), ((ma 66), .inl (E 0, 3, .inl (upd g_241 (2 : Int32).toNatClampNeg p2))), (mh, .inr (9, G9 ma mcode mtoday moffs mmany msumW msumA msumR msumWW msumWA msumAA msumWR msumAR mupper mlower mrates mtaped mlaid mat mtk mtkAt mtkNumber mwaits mlisted mdealtMany)), ((ma 65), .inl (E 0, 9, .inl mf65_129)), ((ma 67), .inl (E 0, 3, .inl u_252))] H := hP
                                          have hD := toW hP hD rfl
                                          obtain ⟨z_296, ez_296⟩ : ∃ y : Int32, y = L8_221 + 1 := ⟨_, rfl⟩
                                          have jz_296 : z_296.toInt = L8_221.toInt + 1 := by rw [ez_296]; exact g_add rfl t_1 (by omega) (by omega)
                                          refine lv_iinc (v := z_296) (lv' := [(8, .int z_296), (5, .int L7_149), (7, .int L7_149), (6, .int L6_129), (4, .int 1), (0, .ref mh), (1, .int p0), (2, .int p1), (3, .int p2)]) hx hb dX9_deal_244 hl (k := 0) rfl (by rw [ez_296]; rfl) (by decide) rfl (fun ls hl => ?_)
                                          refine lv_goto (tgt := 221) hx hb dX9_deal_247 (by decide) ?_
                                          exact ih_276 z_296 (upd mf63_221 (L8_221 : Int32).toNatClampNeg z_295) _ _ _ (by have h0 := t_1; (try dsimp only); omega) (by have h0 := t_1; (try dsimp only); omega) hP hD hS (lv_sub hl [0, 1, 2, 3, 4, 5, 6, 7, 8] rfl)
                                    exact loop_275 10 0 mf63_129 _ _ _ (by have h0 := t_0; have h1 := t_1; (try dsimp only); omega) (by have h0 := t_0; have h1 := t_1; (try dsimp only); omega) hP hD hS (lv_sub hl [0, 1, 2, 3, 4, 5, 6, 7, 8] rfl)
                                  ·
                                    have ic_274 : 0 ≤ L5_129.toInt := by first | exact (g_le t_0 rfl).mp c_274 | (have h := mt (g_lt rfl t_0).mpr c_274; omega)
                                    clear c_274
                                    refine lv_iload hx hb dX9_deal_207 (lv_at hl 1 rfl) ?_
                                    refine lv_iload hx hb dX9_deal_209 (lv_at hl 3 rfl) ?_
                                    refine lv_icmp_ge (tgt := 250) hx hb dX9_deal_211 (by decide) (fun c_297 => ?_) (fun c_297 => ?_)
                                    ·
                                      have ic_297 : L5_129.toInt ≤ L7_149.toInt := by first | exact (g_le rfl rfl).mp c_297 | (have h := mt (g_lt rfl rfl).mpr c_297; omega)
                                      clear c_297
                                      refine lv_aload_n hx hb dX9_deal_250 rfl (lv_at hl 5 rfl) ?_
                                      refine va_get (D := D) (ci := 9) (v := .int mlisted) (C := RX9) (T := TX9) (N := 68) hx hb htb iX9 hown hK.1 hP 3 rfl rfl 61 (by decide) (htb _ k_1019) (fun _ h9 => h9) rfl dX9_deal_251 ?_
                                      refine lv_iconst (v := 1) hx hb dX9_deal_254 (by decide) ?_
                                      refine lv_isub hx hb dX9_deal_255 ?_
                                      refine lv_topi (fun z_298 ez_298 => ?_)
                                      have jz_298 : z_298.toInt = mlisted.toInt - 1 := by rw [ez_298]; exact g_sub rfl t_1 (by omega) (by omega)
                                      refine lv_istore (lv' := [(7, .int z_298), (8, .int L8_149), (6, .int L6_129), (5, .int L5_129), (4, .int 1), (0, .ref mh), (1, .int p0), (2, .int p1), (3, .int p2)]) hx hb dX9_deal_256 hl (by decide) rfl (fun ls hl => ?_)
                                      have loop_299 : ∀ (N_301 : Nat) (L7_258 : Int32) (mf65_258 : Nat → Int32) (H : Heap) (locs : List Loc) (ls : Array Slot), L7_258.toInt + 1 < (N_301 : Int) → (∀ k : Nat, k < 9 → 0 ≤ (mf65_258 k).toInt ∧ (mf65_258 k).toInt ≤ 3) → (-1 ≤ L7_258.toInt ∧ L7_258.toInt < mlisted.toInt) → (val4 mf65_258 (mlisted).toNatClampNeg + 4 ^ (mlisted.toInt - 1 - L7_258.toInt).toNat = val4 mf65_129 (mlisted).toNatClampNeg + 1) → va_P D vwCl [((ma 62), .inl (E 0, 9, .inl mf62)), ((ma 63), .inl (E 0, 9, .inl mf63_129)), ((ma 66), .inl (E 0, 3, .inl (upd g_241 (2 : Int32).toNatClampNeg p2))), (mh, .inr (9, G9 ma mcode mtoday moffs mmany msumW msumA msumR msumWW msumWA msumAA msumWR msumAR mupper mlower mrates mtaped mlaid mat mtk mtkAt mtkNumber mwaits mlisted mdealtMany)), ((ma 65), .inl (E 0, 9, .inl mf65_258)), ((ma 67), .inl (E 0, 3, .inl u_252))] H → va_D A [((ma 62), .inl (E 0, 9, .inl mf62)), ((ma 63), .inl (E 0, 9, .inl mf63_129)), ((ma 66), .inl (E 0, 3, .inl (upd g_241 (2 : Int32).toNatClampNeg p2))), (mh, .inr (9, G9 ma mcode mtoday moffs mmany msumW msumA msumR msumWW msumWA msumAA msumWR msumAR mupper mlower mrates mtaped mlaid mat mtk mtkAt mtkNumber mwaits mlisted mdealtMany)), ((ma 65), .inl (E 0, 9, .inl mf65_258)), ((ma 67), .inl (E 0, 3, .inl u_252))] → va_S A s.heap H locs → lv_has ls 9 [(7, .int L7_258), (6, .int L6_129), (5, .int L5_129), (4, .int 1), (0, .ref mh), (1, .int p0), (2, .int p1), (3, .int p2)] → W p l e (headSpec (wl yX9_deal cX9_deal 9 (some .int)) (RM 1 0 0)).room s m [Value.ref mh, .int p0, .int p1, .int p2].toArray below meth c H locs 0 0 (MQ below (va_Qi (fun (r : Int32) (u : (Nat → Int32) × (Nat → Int32) × (Nat → Int32) × (Nat → Int32) × (Int32) × (Int32)) => (∀ k : Nat, k < 9 → 0 ≤ (u.2.1 k).toInt ∧ (u.2.1 k).toInt ≤ 3) ∧ (0 ≤ u.2.2.2.2.1.toInt ∧ u.2.2.2.2.1.toInt ≤ 9) ∧ (0 ≤ u.2.2.2.2.2.toInt ∧ u.2.2.2.2.2.toInt ≤ 9) ∧ ((¬ ((1 ≤ p0.toInt ∧ p0.toInt ≤ 400) ∧ (0 ≤ p1.toInt ∧ p1.toInt ≤ 400) ∧ (0 ≤ p2.toInt ∧ p2.toInt ≤ 400) ∧ ¬ (p1.toInt = 0 ∧ p2.toInt ≠ 0)) ∧ r.toInt = -1 ∧ u.2.2.2.2.2.toInt = mlisted.toInt) ∨ (((1 ≤ p0.toInt ∧ p0.toInt ≤ 400) ∧ (0 ≤ p1.toInt ∧ p1.toInt ≤ 400) ∧ (0 ≤ p2.toInt ∧ p2.toInt ≤ 400) ∧ ¬ (p1.toInt = 0 ∧ p2.toInt ≠ 0)) ∧ ((p1.toInt = 0 ∧ mlisted.toInt < 3) ∨ (p1.toInt ≠ 0 ∧ p2.toInt = 0 ∧ mlisted.toInt < 6) ∨ (p1.toInt ≠ 0 ∧ p2.toInt ≠ 0 ∧ mlisted.toInt < 9)) ∧ r.toInt = -4 ∧ u.2.2.2.2.2.toInt = mlisted.toInt) ∨ (((1 ≤ p0.toInt ∧ p0.toInt ≤ 400) ∧ (0 ≤ p1.toInt ∧ p1.toInt ≤ 400) ∧ (0 ≤ p2.toInt ∧ p2.toInt ≤ 400) ∧ ¬ (p1.toInt = 0 ∧ p2.toInt ≠ 0)) ∧ ¬ ((p1.toInt = 0 ∧ mlisted.toInt < 3) ∨ (p1.toInt ≠ 0 ∧ p2.toInt = 0 ∧ mlisted.toInt < 6) ∨ (p1.toInt ≠ 0 ∧ p2.toInt ≠ 0 ∧ mlisted.toInt < 9)) ∧ u.2.2.2.2.2.toInt = 0))) (mu_B D A (fun (u : (Nat → Int32) × (Nat → Int32) × (Nat → Int32) × (Nat → Int32) × (Int32) × (Int32)) => [(mh, .inr (9, G9 ma mcode mtoday moffs mmany msumW msumA msumR msumWW msumWA msumAA msumWR msumAR mupper mlower mrates mtaped mlaid mat mtk mtkAt mtkNumber mwaits u.2.2.2.2.2 u.2.2.2.2.1)), ((ma 62), .inl (E 0, 9, .inl mf62)), ((ma 63), .inl (E 0, 9, .inl u.1)), ((ma 65), .inl (E 0, 9, .inl u.2.1)), ((ma 66), .inl (E 0, 3, .inl u.2.2.1)), ((ma 67), .inl (E 0, 3, .inl u.2.2.2.1))])) A) [Value.ref mh, .int p0, .int p1, .int p2].toArray s 0 0 A) (F0 m 258 ls []) := by
                                        intro N_301
                                        induction N_301 with
                                        | zero => intro L7_258 mf65_258 H locs ls hm v_mf65_258 v0_258 v1_258 _ _ _ _; exfalso; omega
                                        | succ N_301 ih_300 =>
                                          intro L7_258 mf65_258 H locs ls hm v_mf65_258 v0_258 v1_258 hP hD hS hl
                                          have lo_L7_258 := i_lo L7_258; have hi_L7_258 := i_hi L7_258
                                          refine lv_iload hx hb dX9_deal_258 (lv_at hl 0 rfl) ?_
                                          refine lv_if_lt (tgt := 288) hx hb dX9_deal_260 (by decide) (fun c_302 => ?_) (fun c_302 => ?_)
                                          ·
                                            have ic_302 : L7_258.toInt < 0 := by first | exact (g_lt rfl t_0).mp c_302 | (have h := mt (g_le t_0 rfl).mpr c_302; omega)
                                            clear c_302
                                            refine lv_iload hx hb dX9_deal_288 (lv_at hl 0 rfl) ?_
                                            refine lv_if_lt (tgt := 297) hx hb dX9_deal_290 (by decide) (fun c_303 => ?_) (fun c_303 => absurd (by rw [g_lt rfl t_0]; omega) c_303)
                                            refine lv_iconst (v := 0) hx hb dX9_deal_297 (by decide) ?_
                                            refine lv_istore (lv' := [(6, .int 0), (7, .int L7_258), (5, .int L5_129), (4, .int 1), (0, .ref mh), (1, .int p0), (2, .int p1), (3, .int p2)]) hx hb dX9_deal_298 hl (by decide) rfl (fun ls hl => ?_)
                                            refine lv_iload hx hb dX9_deal_300 (lv_at hl 0 rfl) ?_
                                            refine lv_if_eq (tgt := 316) hx hb dX9_deal_302 (by decide) (fun c_304 => ?_) (fun c_304 => absurd (by decide) c_304)
                                            refine lv_goto (tgt := 129) hx hb dX9_deal_316 (by decide) ?_
                                            have hP := hP.sub (ws' := [(mh, .inr (9, G9 ma mcode mtoday moffs mmany msumW msumA msumR msumWW msumWA msumAA msumWR msumAR mupper mlower mrates mtaped mlaid mat mtk mtkAt mtkNumber mwaits mlisted mdealtMany)), ((ma 62), .inl (E 0, 9, .inl mf62)), ((ma 63), .inl (E 0, 9, .inl mf63_129)), ((ma 65), .inl (E 0, 9, .inl mf65_258)), ((ma 66), .inl (E 0, 3, .inl (upd g_241 (2 : Int32).toNatClampNeg p2))), ((ma 67), .inl (E 0, 3, .inl u_252))]) [3, 0, 1, 4, 2, 5] rfl
                                            have hD := hD.sub (ws' := [(mh, .inr (9, G9 ma mcode mtoday moffs mmany msumW msumA msumR msumWW msumWA msumAA msumWR msumAR mupper mlower mrates mtaped mlaid mat mtk mtkAt mtkNumber mwaits mlisted mdealtMany)), ((ma 62), .inl (E 0, 9, .inl mf62)), ((ma 63), .inl (E 0, 9, .inl mf63_129)), ((ma 65), .inl (E 0, 9, .inl mf65_258)), ((ma 66), .inl (E 0, 3, .inl (upd g_241 (2 : Int32).toNatClampNeg p2))), ((ma 67), .inl (E 0, 3, .inl u_252))]) [3, 0, 1, 4, 2, 5] (by decide) rfl
                                            exact ih_247 0 u_252 mf65_258 L5_129 mf63_129 _ _ _ (by have h := carry_e (n := mlisted) (i := L7_258) (by omega) (by omega) (by omega) v_mf65_258 v_mf65_129 v1_258; have h1 := t_0; omega) v_mf65_258 (by have h := carry_e (n := mlisted) (i := L7_258) (by omega) (by omega) (by omega) v_mf65_258 v_mf65_129 v1_258; have h1 := t_0; omega) hP hD hS (lv_sub hl [0, 2, 3, 4, 5, 6, 7] rfl)
                                          ·
                                            have ic_302 : 0 ≤ L7_258.toInt := by first | exact (g_le t_0 rfl).mp c_302 | (have h := mt (g_lt rfl t_0).mpr c_302; omega)
                                            clear c_302
                                            refine lv_aload_n hx hb dX9_deal_263 rfl (lv_at hl 4 rfl) ?_
                                            refine va_get (D := D) (ci := 9) (v := .ref (ma 65)) (C := RX9) (T := TX9) (N := 68) hx hb htb iX9 hown hK.1 hP 3 rfl rfl 65 (by decide) (htb _ k_1023) (fun _ h9 => h9) rfl dX9_deal_264 ?_
                                            refine lv_iload hx hb dX9_deal_267 (lv_at hl 0 rfl) ?_
                                            refine va_iald hx hb hK.1 hP 4 0 rfl rfl (g_in rfl (by omega) (by omega)) dX9_deal_269 ?_
                                            refine lv_topi (fun z_305 ez_305 => ?_)
                                            have kz_305 := congrArg Int32.toInt ez_305
                                            have jz_305 : 0 ≤ z_305.toInt ∧ z_305.toInt ≤ 3 := by rw [ez_305]; exact v_mf65_258 _ (g_ix rfl (by omega) (by omega))
                                            refine lv_iconst (v := 3) hx hb dX9_deal_270 (by decide) ?_
                                            refine lv_icmp_ne (tgt := 288) hx hb dX9_deal_271 (by decide) (fun c_306 => ?_) (fun c_306 => ?_)
                                            ·
                                              have ic_306 : z_305.toInt ≠ 3 := mt (g_eq rfl t_3).mpr c_306
                                              clear c_306
                                              refine lv_iload hx hb dX9_deal_288 (lv_at hl 0 rfl) ?_
                                              refine lv_if_lt (tgt := 297) hx hb dX9_deal_290 (by decide) (fun c_307 => absurd c_307 (by rw [g_lt rfl t_0]; omega)) (fun c_307 => ?_)
                                              refine lv_iconst (v := 1) hx hb dX9_deal_293 (by decide) ?_
                                              refine lv_goto (tgt := 298) hx hb dX9_deal_294 (by decide) ?_
                                              refine lv_istore (lv' := [(6, .int 1), (7, .int L7_258), (5, .int L5_129), (4, .int 1), (0, .ref mh), (1, .int p0), (2, .int p1), (3, .int p2)]) hx hb dX9_deal_298 hl (by decide) rfl (fun ls hl => ?_)
                                              refine lv_iload hx hb dX9_deal_300 (lv_at hl 0 rfl) ?_
                                              refine lv_if_eq (tgt := 316) hx hb dX9_deal_302 (by decide) (fun c_308 => absurd c_308 (by decide)) (fun c_308 => ?_)
                                              refine lv_aload_n hx hb dX9_deal_305 rfl (lv_at hl 4 rfl) ?_
                                              refine va_get (D := D) (ci := 9) (v := .ref (ma 65)) (C := RX9) (T := TX9) (N := 68) hx hb htb iX9 hown hK.1 hP 3 rfl rfl 65 (by decide) (htb _ k_1023) (fun _ h9 => h9) rfl dX9_deal_306 ?_
                                              refine lv_iload hx hb dX9_deal_309 (lv_at hl 1 rfl) ?_
                                              refine lv_dup2_11 hx hb dX9_deal_311 rfl rfl ?_
                                              refine va_iald hx hb hK.1 hP 4 0 rfl rfl (g_in rfl (by omega) (by omega)) dX9_deal_312 ?_
                                              refine lv_topi (fun z_309 ez_309 => ?_)
                                              have kz_309 := congrArg Int32.toInt ez_309
                                              have jz_309 : 0 ≤ z_309.toInt ∧ z_309.toInt ≤ 3 := by rw [ez_309]; exact v_mf65_258 _ (g_ix rfl (by omega) (by omega))
                                              refine lv_iconst (v := 1) hx hb dX9_deal_313 (by decide) ?_
                                              refine lv_iadd hx hb dX9_deal_314 ?_
                                              refine lv_topi (fun z_310 ez_310 => ?_)
                                              have jz_310 : z_310.toInt = z_309.toInt + 1 := by rw [ez_310]; exact g_add rfl t_1 (by omega) (by omega)
                                              refine va_iast hx hb hK.1 hP hD hS 4 0 rfl rfl (g_in rfl (by omega) (by omega)) dX9_deal_315 (fun H locs hP hD hS => ?_)
                                              have hP : va_P D vwCl [((ma 62), .inl (E 0, 9, .inl mf62)), ((ma 63), .inl (E 0, 9, .inl mf63_129)), ((ma 66), .inl (E 0, 3, .inl (upd g_241 (2 : Int32).toNatClampNeg p2))), (mh, .inr (9, G9 ma mcode mtoday moffs mmany msumW msumA msumR msumWW msumWA msumAA msumWR msumAR mupper mlower mrates mtaped mlaid mat mtk mtkAt mtkNumber mwaits mlisted mdealtMany)), ((ma 65), .inl (E 0, 9, .inl (upd mf65_258 (L7_258 : Int32).toNatClampNeg z_310))), ((ma 67), .inl (E 0, 3, .inl u_252))] H := hP
                                              have hD := toW hP hD rfl
                                              have hv_311 : ∀ k : Nat, k < 9 → 0 ≤ ((upd mf65_258 (L7_258 : Int32).toNatClampNeg z_310) k).toInt ∧ ((upd mf65_258 (L7_258 : Int32).toNatClampNeg z_310) k).toInt ≤ 3 := upd_r v_mf65_258 (by (try dsimp only); omega)
                                              refine lv_goto (tgt := 129) hx hb dX9_deal_316 (by decide) ?_
                                              have hP := hP.sub (ws' := [(mh, .inr (9, G9 ma mcode mtoday moffs mmany msumW msumA msumR msumWW msumWA msumAA msumWR msumAR mupper mlower mrates mtaped mlaid mat mtk mtkAt mtkNumber mwaits mlisted mdealtMany)), ((ma 62), .inl (E 0, 9, .inl mf62)), ((ma 63), .inl (E 0, 9, .inl mf63_129)), ((ma 65), .inl (E 0, 9, .inl (upd mf65_258 (L7_258 : Int32).toNatClampNeg z_310))), ((ma 66), .inl (E 0, 3, .inl (upd g_241 (2 : Int32).toNatClampNeg p2))), ((ma 67), .inl (E 0, 3, .inl u_252))]) [3, 0, 1, 4, 2, 5] rfl
                                              have hD := hD.sub (ws' := [(mh, .inr (9, G9 ma mcode mtoday moffs mmany msumW msumA msumR msumWW msumWA msumAA msumWR msumAR mupper mlower mrates mtaped mlaid mat mtk mtkAt mtkNumber mwaits mlisted mdealtMany)), ((ma 62), .inl (E 0, 9, .inl mf62)), ((ma 63), .inl (E 0, 9, .inl mf63_129)), ((ma 65), .inl (E 0, 9, .inl (upd mf65_258 (L7_258 : Int32).toNatClampNeg z_310))), ((ma 66), .inl (E 0, 3, .inl (upd g_241 (2 : Int32).toNatClampNeg p2))), ((ma 67), .inl (E 0, 3, .inl u_252))]) [3, 0, 1, 4, 2, 5] (by decide) rfl
                                              exact ih_247 1 u_252 (upd mf65_258 (L7_258 : Int32).toNatClampNeg z_310) L5_129 mf63_129 _ _ _ (by have hc := carry_1 (n := mlisted) (i := L7_258) (by omega) (by omega) ez_309 jz_310 v1_258; have h := val4_max (n := mlisted) hv_311 (by omega) (by omega); have h1 := t_1; omega) hv_311 (by have hc := carry_1 (n := mlisted) (i := L7_258) (by omega) (by omega) ez_309 jz_310 v1_258; have h := val4_max (n := mlisted) hv_311 (by omega) (by omega); have h1 := t_1; omega) hP hD hS (lv_sub hl [0, 2, 3, 4, 5, 6, 7] rfl)
                                            ·
                                              have ic_306 : z_305.toInt = 3 := (g_eq rfl t_3).mp c_306
                                              clear c_306
                                              refine lv_aload_n hx hb dX9_deal_274 rfl (lv_at hl 4 rfl) ?_
                                              refine va_get (D := D) (ci := 9) (v := .ref (ma 65)) (C := RX9) (T := TX9) (N := 68) hx hb htb iX9 hown hK.1 hP 3 rfl rfl 65 (by decide) (htb _ k_1023) (fun _ h9 => h9) rfl dX9_deal_275 ?_
                                              refine lv_iload hx hb dX9_deal_278 (lv_at hl 0 rfl) ?_
                                              refine lv_iconst (v := 0) hx hb dX9_deal_280 (by decide) ?_
                                              refine va_iast hx hb hK.1 hP hD hS 4 0 rfl rfl (g_in rfl (by omega) (by omega)) dX9_deal_281 (fun H locs hP hD hS => ?_)
                                              have hP : va_P D vwCl [((ma 62), .inl (E 0, 9, .inl mf62)), ((ma 63), .inl (E 0, 9, .inl mf63_129)), ((ma 66), .inl (E 0, 3, .inl (upd g_241 (2 : Int32).toNatClampNeg p2))), (mh, .inr (9, G9 ma mcode mtoday moffs mmany msumW msumA msumR msumWW msumWA msumAA msumWR msumAR mupper mlower mrates mtaped mlaid mat mtk mtkAt mtkNumber mwaits mlisted mdealtMany)), ((ma 65), .inl (E 0, 9, .inl (upd mf65_258 (L7_258 : Int32).toNatClampNeg 0))), ((ma 67), .inl (E 0, 3, .inl u_252))] H := hP
                                              have hD := toW hP hD rfl
                                              have hv_312 : ∀ k : Nat, k < 9 → 0 ≤ ((upd mf65_258 (L7_258 : Int32).toNatClampNeg 0) k).toInt ∧ ((upd mf65_258 (L7_258 : Int32).toNatClampNeg 0) k).toInt ≤ 3 := upd_r v_mf65_258 (by decide)
                                              obtain ⟨z_313, ez_313⟩ : ∃ y : Int32, y = L7_258 + (-1) := ⟨_, rfl⟩
                                              have jz_313 : z_313.toInt = L7_258.toInt + -1 := by rw [ez_313]; exact g_add rfl t_m1 (by omega) (by omega)
                                              refine lv_iinc (v := z_313) (lv' := [(7, .int z_313), (6, .int L6_129), (5, .int L5_129), (4, .int 1), (0, .ref mh), (1, .int p0), (2, .int p1), (3, .int p2)]) hx hb dX9_deal_282 hl (k := 0) rfl (by rw [ez_313]; rfl) (by decide) rfl (fun ls hl => ?_)
                                              refine lv_goto (tgt := 258) hx hb dX9_deal_285 (by decide) ?_
                                              exact ih_300 z_313 (upd mf65_258 (L7_258 : Int32).toNatClampNeg 0) _ _ _ (by have h0 := t_1; (try dsimp only); omega) hv_312 (by have h0 := t_1; (try dsimp only); omega) (carry_0 (by omega) (by omega) (by omega) ez_305 (by omega) v1_258) hP hD hS (lv_sub hl [0, 1, 2, 3, 4, 5, 6, 7] rfl)
                                      exact loop_299 10 z_298 mf65_129 _ _ _ (by have h0 := t_1; (try dsimp only); omega) v_mf65_129 (by have h0 := t_1; (try dsimp only); omega) (carry_s (by omega)) hP hD hS (lv_sub hl [0, 2, 3, 4, 5, 6, 7, 8] rfl)
                                    ·
                                      have ic_297 : L7_149.toInt < L5_129.toInt := by first | exact (g_lt rfl rfl).mp c_297 | (have h := mt (g_le rfl rfl).mpr c_297; omega)
                                      clear c_297
                                      refine lv_iload hx hb dX9_deal_214 (lv_at hl 1 rfl) ?_
                                      refine lv_istore (lv' := [(5, .int L7_149), (8, .int L8_149), (7, .int L7_149), (6, .int L6_129), (4, .int 1), (0, .ref mh), (1, .int p0), (2, .int p1), (3, .int p2)]) hx hb dX9_deal_216 hl (by decide) rfl (fun ls hl => ?_)
                                      refine lv_iconst (v := 0) hx hb dX9_deal_218 (by decide) ?_
                                      refine lv_istore (lv' := [(8, .int 0), (5, .int L7_149), (7, .int L7_149), (6, .int L6_129), (4, .int 1), (0, .ref mh), (1, .int p0), (2, .int p1), (3, .int p2)]) hx hb dX9_deal_219 hl (by decide) rfl (fun ls hl => ?_)
                                      have loop_314 : ∀ (N_316 : Nat) (L8_221 : Int32) (mf63_221 : Nat → Int32) (H : Heap) (locs : List Loc) (ls : Array Slot), mlisted.toInt - L8_221.toInt < (N_316 : Int) → (0 ≤ L8_221.toInt ∧ L8_221.toInt ≤ mlisted.toInt) → va_P D vwCl [((ma 62), .inl (E 0, 9, .inl mf62)), ((ma 63), .inl (E 0, 9, .inl mf63_221)), ((ma 66), .inl (E 0, 3, .inl (upd g_241 (2 : Int32).toNatClampNeg p2))), (mh, .inr (9, G9 ma mcode mtoday moffs mmany msumW msumA msumR msumWW msumWA msumAA msumWR msumAR mupper mlower mrates mtaped mlaid mat mtk mtkAt mtkNumber mwaits mlisted mdealtMany)), ((ma 65), .inl (E 0, 9, .inl mf65_129)), ((ma 67), .inl (E 0, 3, .inl u_252))] H → va_D A [((ma 62), .inl (E 0, 9, .inl mf62)), ((ma 63), .inl (E 0, 9, .inl mf63_221)), ((ma 66), .inl (E 0, 3, .inl (upd g_241 (2 : Int32).toNatClampNeg p2))), (mh, .inr (9, G9 ma mcode mtoday moffs mmany msumW msumA msumR msumWW msumWA msumAA msumWR msumAR mupper mlower mrates mtaped mlaid mat mtk mtkAt mtkNumber mwaits mlisted mdealtMany)), ((ma 65), .inl (E 0, 9, .inl mf65_129)), ((ma 67), .inl (E 0, 3, .inl u_252))] → va_S A s.heap H locs → lv_has ls 9 [(8, .int L8_221), (5, .int L7_149), (7, .int L7_149), (6, .int L6_129), (4, .int 1), (0, .ref mh), (1, .int p0), (2, .int p1), (3, .int p2)] → W p l e (headSpec (wl yX9_deal cX9_deal 9 (some .int)) (RM 1 0 0)).room s m [Value.ref mh, .int p0, .int p1, .int p2].toArray below meth c H locs 0 0 (MQ below (va_Qi (fun (r : Int32) (u : (Nat → Int32) × (Nat → Int32) × (Nat → Int32) × (Nat → Int32) × (Int32) × (Int32)) => (∀ k : Nat, k < 9 → 0 ≤ (u.2.1 k).toInt ∧ (u.2.1 k).toInt ≤ 3) ∧ (0 ≤ u.2.2.2.2.1.toInt ∧ u.2.2.2.2.1.toInt ≤ 9) ∧ (0 ≤ u.2.2.2.2.2.toInt ∧ u.2.2.2.2.2.toInt ≤ 9) ∧ ((¬ ((1 ≤ p0.toInt ∧ p0.toInt ≤ 400) ∧ (0 ≤ p1.toInt ∧ p1.toInt ≤ 400) ∧ (0 ≤ p2.toInt ∧ p2.toInt ≤ 400) ∧ ¬ (p1.toInt = 0 ∧ p2.toInt ≠ 0)) ∧ r.toInt = -1 ∧ u.2.2.2.2.2.toInt = mlisted.toInt) ∨ (((1 ≤ p0.toInt ∧ p0.toInt ≤ 400) ∧ (0 ≤ p1.toInt ∧ p1.toInt ≤ 400) ∧ (0 ≤ p2.toInt ∧ p2.toInt ≤ 400) ∧ ¬ (p1.toInt = 0 ∧ p2.toInt ≠ 0)) ∧ ((p1.toInt = 0 ∧ mlisted.toInt < 3) ∨ (p1.toInt ≠ 0 ∧ p2.toInt = 0 ∧ mlisted.toInt < 6) ∨ (p1.toInt ≠ 0 ∧ p2.toInt ≠ 0 ∧ mlisted.toInt < 9)) ∧ r.toInt = -4 ∧ u.2.2.2.2.2.toInt = mlisted.toInt) ∨ (((1 ≤ p0.toInt ∧ p0.toInt ≤ 400) ∧ (0 ≤ p1.toInt ∧ p1.toInt ≤ 400) ∧ (0 ≤ p2.toInt ∧ p2.toInt ≤ 400) ∧ ¬ (p1.toInt = 0 ∧ p2.toInt ≠ 0)) ∧ ¬ ((p1.toInt = 0 ∧ mlisted.toInt < 3) ∨ (p1.toInt ≠ 0 ∧ p2.toInt = 0 ∧ mlisted.toInt < 6) ∨ (p1.toInt ≠ 0 ∧ p2.toInt ≠ 0 ∧ mlisted.toInt < 9)) ∧ u.2.2.2.2.2.toInt = 0))) (mu_B D A (fun (u : (Nat → Int32) × (Nat → Int32) × (Nat → Int32) × (Nat → Int32) × (Int32) × (Int32)) => [(mh, .inr (9, G9 ma mcode mtoday moffs mmany msumW msumA msumR msumWW msumWA msumAA msumWR msumAR mupper mlower mrates mtaped mlaid mat mtk mtkAt mtkNumber mwaits u.2.2.2.2.2 u.2.2.2.2.1)), ((ma 62), .inl (E 0, 9, .inl mf62)), ((ma 63), .inl (E 0, 9, .inl u.1)), ((ma 65), .inl (E 0, 9, .inl u.2.1)), ((ma 66), .inl (E 0, 3, .inl u.2.2.1)), ((ma 67), .inl (E 0, 3, .inl u.2.2.2.1))])) A) [Value.ref mh, .int p0, .int p1, .int p2].toArray s 0 0 A) (F0 m 221 ls []) := by
                                        intro N_316
                                        induction N_316 with
                                        | zero => intro L8_221 mf63_221 H locs ls hm v0_221 _ _ _ _; exfalso; omega
                                        | succ N_316 ih_315 =>
                                          intro L8_221 mf63_221 H locs ls hm v0_221 hP hD hS hl
                                          have lo_L8_221 := i_lo L8_221; have hi_L8_221 := i_hi L8_221
                                          refine lv_iload hx hb dX9_deal_221 (lv_at hl 0 rfl) ?_
                                          refine lv_aload_n hx hb dX9_deal_223 rfl (lv_at hl 5 rfl) ?_
                                          refine va_get (D := D) (ci := 9) (v := .int mlisted) (C := RX9) (T := TX9) (N := 68) hx hb htb iX9 hown hK.1 hP 3 rfl rfl 61 (by decide) (htb _ k_1019) (fun _ h9 => h9) rfl dX9_deal_224 ?_
                                          refine lv_icmp_ge (tgt := 250) hx hb dX9_deal_227 (by decide) (fun c_317 => ?_) (fun c_317 => ?_)
                                          ·
                                            have ic_317 : mlisted.toInt ≤ L8_221.toInt := by first | exact (g_le rfl rfl).mp c_317 | (have h := mt (g_lt rfl rfl).mpr c_317; omega)
                                            clear c_317
                                            refine lv_aload_n hx hb dX9_deal_250 rfl (lv_at hl 5 rfl) ?_
                                            refine va_get (D := D) (ci := 9) (v := .int mlisted) (C := RX9) (T := TX9) (N := 68) hx hb htb iX9 hown hK.1 hP 3 rfl rfl 61 (by decide) (htb _ k_1019) (fun _ h9 => h9) rfl dX9_deal_251 ?_
                                            refine lv_iconst (v := 1) hx hb dX9_deal_254 (by decide) ?_
                                            refine lv_isub hx hb dX9_deal_255 ?_
                                            refine lv_topi (fun z_318 ez_318 => ?_)
                                            have jz_318 : z_318.toInt = mlisted.toInt - 1 := by rw [ez_318]; exact g_sub rfl t_1 (by omega) (by omega)
                                            refine lv_istore (lv' := [(7, .int z_318), (8, .int L8_221), (5, .int L7_149), (6, .int L6_129), (4, .int 1), (0, .ref mh), (1, .int p0), (2, .int p1), (3, .int p2)]) hx hb dX9_deal_256 hl (by decide) rfl (fun ls hl => ?_)
                                            have loop_319 : ∀ (N_321 : Nat) (L7_258 : Int32) (mf65_258 : Nat → Int32) (H : Heap) (locs : List Loc) (ls : Array Slot), L7_258.toInt + 1 < (N_321 : Int) → (∀ k : Nat, k < 9 → 0 ≤ (mf65_258 k).toInt ∧ (mf65_258 k).toInt ≤ 3) → (-1 ≤ L7_258.toInt ∧ L7_258.toInt < mlisted.toInt) → (val4 mf65_258 (mlisted).toNatClampNeg + 4 ^ (mlisted.toInt - 1 - L7_258.toInt).toNat = val4 mf65_129 (mlisted).toNatClampNeg + 1) → va_P D vwCl [((ma 62), .inl (E 0, 9, .inl mf62)), ((ma 63), .inl (E 0, 9, .inl mf63_221)), ((ma 66), .inl (E 0, 3, .inl (upd g_241 (2 : Int32).toNatClampNeg p2))), (mh, .inr (9, G9 ma mcode mtoday moffs mmany msumW msumA msumR msumWW msumWA msumAA msumWR msumAR mupper mlower mrates mtaped mlaid mat mtk mtkAt mtkNumber mwaits mlisted mdealtMany)), ((ma 65), .inl (E 0, 9, .inl mf65_258)), ((ma 67), .inl (E 0, 3, .inl u_252))] H → va_D A [((ma 62), .inl (E 0, 9, .inl mf62)), ((ma 63), .inl (E 0, 9, .inl mf63_221)), ((ma 66), .inl (E 0, 3, .inl (upd g_241 (2 : Int32).toNatClampNeg p2))), (mh, .inr (9, G9 ma mcode mtoday moffs mmany msumW msumA msumR msumWW msumWA msumAA msumWR msumAR mupper mlower mrates mtaped mlaid mat mtk mtkAt mtkNumber mwaits mlisted mdealtMany)), ((ma 65), .inl (E 0, 9, .inl mf65_258)), ((ma 67), .inl (E 0, 3, .inl u_252))] → va_S A s.heap H locs → lv_has ls 9 [(7, .int L7_258), (5, .int L7_149), (6, .int L6_129), (4, .int 1), (0, .ref mh), (1, .int p0), (2, .int p1), (3, .int p2)] → W p l e (headSpec (wl yX9_deal cX9_deal 9 (some .int)) (RM 1 0 0)).room s m [Value.ref mh, .int p0, .int p1, .int p2].toArray below meth c H locs 0 0 (MQ below (va_Qi (fun (r : Int32) (u : (Nat → Int32) × (Nat → Int32) × (Nat → Int32) × (Nat → Int32) × (Int32) × (Int32)) => (∀ k : Nat, k < 9 → 0 ≤ (u.2.1 k).toInt ∧ (u.2.1 k).toInt ≤ 3) ∧ (0 ≤ u.2.2.2.2.1.toInt ∧ u.2.2.2.2.1.toInt ≤ 9) ∧ (0 ≤ u.2.2.2.2.2.toInt ∧ u.2.2.2.2.2.toInt ≤ 9) ∧ ((¬ ((1 ≤ p0.toInt ∧ p0.toInt ≤ 400) ∧ (0 ≤ p1.toInt ∧ p1.toInt ≤ 400) ∧ (0 ≤ p2.toInt ∧ p2.toInt ≤ 400) ∧ ¬ (p1.toInt = 0 ∧ p2.toInt ≠ 0)) ∧ r.toInt = -1 ∧ u.2.2.2.2.2.toInt = mlisted.toInt) ∨ (((1 ≤ p0.toInt ∧ p0.toInt ≤ 400) ∧ (0 ≤ p1.toInt ∧ p1.toInt ≤ 400) ∧ (0 ≤ p2.toInt ∧ p2.toInt ≤ 400) ∧ ¬ (p1.toInt = 0 ∧ p2.toInt ≠ 0)) ∧ ((p1.toInt = 0 ∧ mlisted.toInt < 3) ∨ (p1.toInt ≠ 0 ∧ p2.toInt = 0 ∧ mlisted.toInt < 6) ∨ (p1.toInt ≠ 0 ∧ p2.toInt ≠ 0 ∧ mlisted.toInt < 9)) ∧ r.toInt = -4 ∧ u.2.2.2.2.2.toInt = mlisted.toInt) ∨ (((1 ≤ p0.toInt ∧ p0.toInt ≤ 400) ∧ (0 ≤ p1.toInt ∧ p1.toInt ≤ 400) ∧ (0 ≤ p2.toInt ∧ p2.toInt ≤ 400) ∧ ¬ (p1.toInt = 0 ∧ p2.toInt ≠ 0)) ∧ ¬ ((p1.toInt = 0 ∧ mlisted.toInt < 3) ∨ (p1.toInt ≠ 0 ∧ p2.toInt = 0 ∧ mlisted.toInt < 6) ∨ (p1.toInt ≠ 0 ∧ p2.toInt ≠ 0 ∧ mlisted.toInt < 9)) ∧ u.2.2.2.2.2.toInt = 0))) (mu_B D A (fun (u : (Nat → Int32) × (Nat → Int32) × (Nat → Int32) × (Nat → Int32) × (Int32) × (Int32)) => [(mh, .inr (9, G9 ma mcode mtoday moffs mmany msumW msumA msumR msumWW msumWA msumAA msumWR msumAR mupper mlower mrates mtaped mlaid mat mtk mtkAt mtkNumber mwaits u.2.2.2.2.2 u.2.2.2.2.1)), ((ma 62), .inl (E 0, 9, .inl mf62)), ((ma 63), .inl (E 0, 9, .inl u.1)), ((ma 65), .inl (E 0, 9, .inl u.2.1)), ((ma 66), .inl (E 0, 3, .inl u.2.2.1)), ((ma 67), .inl (E 0, 3, .inl u.2.2.2.1))])) A) [Value.ref mh, .int p0, .int p1, .int p2].toArray s 0 0 A) (F0 m 258 ls []) := by
                                              intro N_321
                                              induction N_321 with
                                              | zero => intro L7_258 mf65_258 H locs ls hm v_mf65_258 v0_258 v1_258 _ _ _ _; exfalso; omega
                                              | succ N_321 ih_320 =>
                                                intro L7_258 mf65_258 H locs ls hm v_mf65_258 v0_258 v1_258 hP hD hS hl
                                                have lo_L7_258 := i_lo L7_258; have hi_L7_258 := i_hi L7_258
                                                refine lv_iload hx hb dX9_deal_258 (lv_at hl 0 rfl) ?_
                                                refine lv_if_lt (tgt := 288) hx hb dX9_deal_260 (by decide) (fun c_322 => ?_) (fun c_322 => ?_)
                                                ·
                                                  have ic_322 : L7_258.toInt < 0 := by first | exact (g_lt rfl t_0).mp c_322 | (have h := mt (g_le t_0 rfl).mpr c_322; omega)
                                                  clear c_322
                                                  refine lv_iload hx hb dX9_deal_288 (lv_at hl 0 rfl) ?_
                                                  refine lv_if_lt (tgt := 297) hx hb dX9_deal_290 (by decide) (fun c_323 => ?_) (fun c_323 => absurd (by rw [g_lt rfl t_0]; omega) c_323)
                                                  refine lv_iconst (v := 0) hx hb dX9_deal_297 (by decide) ?_
                                                  refine lv_istore (lv' := [(6, .int 0), (7, .int L7_258), (5, .int L7_149), (4, .int 1), (0, .ref mh), (1, .int p0), (2, .int p1), (3, .int p2)]) hx hb dX9_deal_298 hl (by decide) rfl (fun ls hl => ?_)
                                                  refine lv_iload hx hb dX9_deal_300 (lv_at hl 0 rfl) ?_
                                                  refine lv_if_eq (tgt := 316) hx hb dX9_deal_302 (by decide) (fun c_324 => ?_) (fun c_324 => absurd (by decide) c_324)
                                                  refine lv_goto (tgt := 129) hx hb dX9_deal_316 (by decide) ?_
                                                  have hP := hP.sub (ws' := [(mh, .inr (9, G9 ma mcode mtoday moffs mmany msumW msumA msumR msumWW msumWA msumAA msumWR msumAR mupper mlower mrates mtaped mlaid mat mtk mtkAt mtkNumber mwaits mlisted mdealtMany)), ((ma 62), .inl (E 0, 9, .inl mf62)), ((ma 63), .inl (E 0, 9, .inl mf63_221)), ((ma 65), .inl (E 0, 9, .inl mf65_258)), ((ma 66), .inl (E 0, 3, .inl (upd g_241 (2 : Int32).toNatClampNeg p2))), ((ma 67), .inl (E 0, 3, .inl u_252))]) [3, 0, 1, 4, 2, 5] rfl
                                                  have hD := hD.sub (ws' := [(mh, .inr (9, G9 ma mcode mtoday moffs mmany msumW msumA msumR msumWW msumWA msumAA msumWR msumAR mupper mlower mrates mtaped mlaid mat mtk mtkAt mtkNumber mwaits mlisted mdealtMany)), ((ma 62), .inl (E 0, 9, .inl mf62)), ((ma 63), .inl (E 0, 9, .inl mf63_221)), ((ma 65), .inl (E 0, 9, .inl mf65_258)), ((ma 66), .inl (E 0, 3, .inl (upd g_241 (2 : Int32).toNatClampNeg p2))), ((ma 67), .inl (E 0, 3, .inl u_252))]) [3, 0, 1, 4, 2, 5] (by decide) rfl
                                                  exact ih_247 0 u_252 mf65_258 L7_149 mf63_221 _ _ _ (by have h := carry_e (n := mlisted) (i := L7_258) (by omega) (by omega) (by omega) v_mf65_258 v_mf65_129 v1_258; have h1 := t_0; omega) v_mf65_258 (by have h := carry_e (n := mlisted) (i := L7_258) (by omega) (by omega) (by omega) v_mf65_258 v_mf65_129 v1_258; have h1 := t_0; omega) hP hD hS (lv_sub hl [0, 2, 3, 4, 5, 6, 7] rfl)
                                                ·
                                                  have ic_322 : 0 ≤ L7_258.toInt := by first | exact (g_le t_0 rfl).mp c_322 | (have h := mt (g_lt rfl t_0).mpr c_322; omega)
                                                  clear c_322
                                                  refine lv_aload_n hx hb dX9_deal_263 rfl (lv_at hl 4 rfl) ?_
                                                  refine va_get (D := D) (ci := 9) (v := .ref (ma 65)) (C := RX9) (T := TX9) (N := 68) hx hb htb iX9 hown hK.1 hP 3 rfl rfl 65 (by decide) (htb _ k_1023) (fun _ h9 => h9) rfl dX9_deal_264 ?_
                                                  refine lv_iload hx hb dX9_deal_267 (lv_at hl 0 rfl) ?_
                                                  refine va_iald hx hb hK.1 hP 4 0 rfl rfl (g_in rfl (by omega) (by omega)) dX9_deal_269 ?_
                                                  refine lv_topi (fun z_325 ez_325 => ?_)
                                                  have kz_325 := congrArg Int32.toInt ez_325
                                                  have jz_325 : 0 ≤ z_325.toInt ∧ z_325.toInt ≤ 3 := by rw [ez_325]; exact v_mf65_258 _ (g_ix rfl (by omega) (by omega))
                                                  refine lv_iconst (v := 3) hx hb dX9_deal_270 (by decide) ?_
                                                  refine lv_icmp_ne (tgt := 288) hx hb dX9_deal_271 (by decide) (fun c_326 => ?_) (fun c_326 => ?_)
                                                  ·
                                                    have ic_326 : z_325.toInt ≠ 3 := mt (g_eq rfl t_3).mpr c_326
                                                    clear c_326
                                                    refine lv_iload hx hb dX9_deal_288 (lv_at hl 0 rfl) ?_
                                                    refine lv_if_lt (tgt := 297) hx hb dX9_deal_290 (by decide) (fun c_327 => absurd c_327 (by rw [g_lt rfl t_0]; omega)) (fun c_327 => ?_)
                                                    refine lv_iconst (v := 1) hx hb dX9_deal_293 (by decide) ?_
                                                    refine lv_goto (tgt := 298) hx hb dX9_deal_294 (by decide) ?_
                                                    refine lv_istore (lv' := [(6, .int 1), (7, .int L7_258), (5, .int L7_149), (4, .int 1), (0, .ref mh), (1, .int p0), (2, .int p1), (3, .int p2)]) hx hb dX9_deal_298 hl (by decide) rfl (fun ls hl => ?_)
                                                    refine lv_iload hx hb dX9_deal_300 (lv_at hl 0 rfl) ?_
                                                    refine lv_if_eq (tgt := 316) hx hb dX9_deal_302 (by decide) (fun c_328 => absurd c_328 (by decide)) (fun c_328 => ?_)
                                                    refine lv_aload_n hx hb dX9_deal_305 rfl (lv_at hl 4 rfl) ?_
                                                    refine va_get (D := D) (ci := 9) (v := .ref (ma 65)) (C := RX9) (T := TX9) (N := 68) hx hb htb iX9 hown hK.1 hP 3 rfl rfl 65 (by decide) (htb _ k_1023) (fun _ h9 => h9) rfl dX9_deal_306 ?_
                                                    refine lv_iload hx hb dX9_deal_309 (lv_at hl 1 rfl) ?_
                                                    refine lv_dup2_11 hx hb dX9_deal_311 rfl rfl ?_
                                                    refine va_iald hx hb hK.1 hP 4 0 rfl rfl (g_in rfl (by omega) (by omega)) dX9_deal_312 ?_
                                                    refine lv_topi (fun z_329 ez_329 => ?_)
                                                    have kz_329 := congrArg Int32.toInt ez_329
                                                    have jz_329 : 0 ≤ z_329.toInt ∧ z_329.toInt ≤ 3 := by rw [ez_329]; exact v_mf65_258 _ (g_ix rfl (by omega) (by omega))
                                                    refine lv_iconst (v := 1) hx hb dX9_deal_313 (by decide) ?_
                                                    refine lv_iadd hx hb dX9_deal_314 ?_
                                                    refine lv_topi (fun z_330 ez_330 => ?_)
                                                    have jz_330 : z_330.toInt = z_329.toInt + 1 := by rw [ez_330]; exact g_add rfl t_1 (by omega) (by omega)
                                                    refine va_iast hx hb hK.1 hP hD hS 4 0 rfl rfl (g_in rfl (by omega) (by omega)) dX9_deal_315 (fun H locs hP hD hS => ?_)
                                                    have hP : va_P D vwCl [((ma 62), .inl (E 0, 9, .inl mf62)), ((ma 63), .inl (E 0, 9, .inl mf63_221)), ((ma 66), .inl (E 0, 3, .inl (upd g_241 (2 : Int32).toNatClampNeg p2))), (mh, .inr (9, G9 ma mcode mtoday moffs mmany msumW msumA msumR msumWW msumWA msumAA msumWR msumAR mupper mlower mrates mtaped mlaid mat mtk mtkAt mtkNumber mwaits mlisted mdealtMany)), ((ma 65), .inl (E 0, 9, .inl (upd mf65_258 (L7_258 : Int32).toNatClampNeg z_330))), ((ma 67), .inl (E 0, 3, .inl u_252))] H := hP
                                                    have hD := toW hP hD rfl
                                                    have hv_331 : ∀ k : Nat, k < 9 → 0 ≤ ((upd mf65_258 (L7_258 : Int32).toNatClampNeg z_330) k).toInt ∧ ((upd mf65_258 (L7_258 : Int32).toNatClampNeg z_330) k).toInt ≤ 3 := upd_r v_mf65_258 (by (try dsimp only); omega)
                                                    refine lv_goto (tgt := 129) hx hb dX9_deal_316 (by decide) ?_
                                                    have hP := hP.sub (ws' := [(mh, .inr (9, G9 ma mcode mtoday moffs mmany msumW msumA msumR msumWW msumWA msumAA msumWR msumAR mupper mlower mrates mtaped mlaid mat mtk mtkAt mtkNumber mwaits mlisted mdealtMany)), ((ma 62), .inl (E 0, 9, .inl mf62)), ((ma 63), .inl (E 0, 9, .inl mf63_221)), ((ma 65), .inl (E 0, 9, .inl (upd mf65_258 (L7_258 : Int32).toNatClampNeg z_330))), ((ma 66), .inl (E 0, 3, .inl (upd g_241 (2 : Int32).toNatClampNeg p2))), ((ma 67), .inl (E 0, 3, .inl u_252))]) [3, 0, 1, 4, 2, 5] rfl
                                                    have hD := hD.sub (ws' := [(mh, .inr (9, G9 ma mcode mtoday moffs mmany msumW msumA msumR msumWW msumWA msumAA msumWR msumAR mupper mlower mrates mtaped mlaid mat mtk mtkAt mtkNumber mwaits mlisted mdealtMany)), ((ma 62), .inl (E 0, 9, .inl mf62)), ((ma 63), .inl (E 0, 9, .inl mf63_221)), ((ma 65), .inl (E 0, 9, .inl (upd mf65_258 (L7_258 : Int32).toNatClampNeg z_330))), ((ma 66), .inl (E 0, 3, .inl (upd g_241 (2 : Int32).toNatClampNeg p2))), ((ma 67), .inl (E 0, 3, .inl u_252))]) [3, 0, 1, 4, 2, 5] (by decide) rfl
                                                    exact ih_247 1 u_252 (upd mf65_258 (L7_258 : Int32).toNatClampNeg z_330) L7_149 mf63_221 _ _ _ (by have hc := carry_1 (n := mlisted) (i := L7_258) (by omega) (by omega) ez_329 jz_330 v1_258; have h := val4_max (n := mlisted) hv_331 (by omega) (by omega); have h1 := t_1; omega) hv_331 (by have hc := carry_1 (n := mlisted) (i := L7_258) (by omega) (by omega) ez_329 jz_330 v1_258; have h := val4_max (n := mlisted) hv_331 (by omega) (by omega); have h1 := t_1; omega) hP hD hS (lv_sub hl [0, 2, 3, 4, 5, 6, 7] rfl)
                                                  ·
                                                    have ic_326 : z_325.toInt = 3 := (g_eq rfl t_3).mp c_326
                                                    clear c_326
                                                    refine lv_aload_n hx hb dX9_deal_274 rfl (lv_at hl 4 rfl) ?_
                                                    refine va_get (D := D) (ci := 9) (v := .ref (ma 65)) (C := RX9) (T := TX9) (N := 68) hx hb htb iX9 hown hK.1 hP 3 rfl rfl 65 (by decide) (htb _ k_1023) (fun _ h9 => h9) rfl dX9_deal_275 ?_
                                                    refine lv_iload hx hb dX9_deal_278 (lv_at hl 0 rfl) ?_
                                                    refine lv_iconst (v := 0) hx hb dX9_deal_280 (by decide) ?_
                                                    refine va_iast hx hb hK.1 hP hD hS 4 0 rfl rfl (g_in rfl (by omega) (by omega)) dX9_deal_281 (fun H locs hP hD hS => ?_)
                                                    have hP : va_P D vwCl [((ma 62), .inl (E 0, 9, .inl mf62)), ((ma 63), .inl (E 0, 9, .inl mf63_221)), ((ma 66), .inl (E 0, 3, .inl (upd g_241 (2 : Int32).toNatClampNeg p2))), (mh, .inr (9, G9 ma mcode mtoday moffs mmany msumW msumA msumR msumWW msumWA msumAA msumWR msumAR mupper mlower mrates mtaped mlaid mat mtk mtkAt mtkNumber mwaits mlisted mdealtMany)), ((ma 65), .inl (E 0, 9, .inl (upd mf65_258 (L7_258 : Int32).toNatClampNeg 0))), ((ma 67), .inl (E 0, 3, .inl u_252))] H := hP
                                                    have hD := toW hP hD rfl
                                                    have hv_332 : ∀ k : Nat, k < 9 → 0 ≤ ((upd mf65_258 (L7_258 : Int32).toNatClampNeg 0) k).toInt ∧ ((upd mf65_258 (L7_258 : Int32).toNatClampNeg 0) k).toInt ≤ 3 := upd_r v_mf65_258 (by decide)
                                                    obtain ⟨z_333, ez_333⟩ : ∃ y : Int32, y = L7_258 + (-1) := ⟨_, rfl⟩
                                                    have jz_333 : z_333.toInt = L7_258.toInt + -1 := by rw [ez_333]; exact g_add rfl t_m1 (by omega) (by omega)
                                                    refine lv_iinc (v := z_333) (lv' := [(7, .int z_333), (5, .int L7_149), (6, .int L6_129), (4, .int 1), (0, .ref mh), (1, .int p0), (2, .int p1), (3, .int p2)]) hx hb dX9_deal_282 hl (k := 0) rfl (by rw [ez_333]; rfl) (by decide) rfl (fun ls hl => ?_)
                                                    refine lv_goto (tgt := 258) hx hb dX9_deal_285 (by decide) ?_
                                                    exact ih_320 z_333 (upd mf65_258 (L7_258 : Int32).toNatClampNeg 0) _ _ _ (by have h0 := t_1; (try dsimp only); omega) hv_332 (by have h0 := t_1; (try dsimp only); omega) (carry_0 (by omega) (by omega) (by omega) ez_325 (by omega) v1_258) hP hD hS (lv_sub hl [0, 1, 2, 3, 4, 5, 6, 7] rfl)
                                            exact loop_319 10 z_318 mf65_129 _ _ _ (by have h0 := t_1; (try dsimp only); omega) v_mf65_129 (by have h0 := t_1; (try dsimp only); omega) (carry_s (by omega)) hP hD hS (lv_sub hl [0, 2, 3, 4, 5, 6, 7, 8] rfl)
                                          ·
                                            have ic_317 : L8_221.toInt < mlisted.toInt := by first | exact (g_lt rfl rfl).mp c_317 | (have h := mt (g_le rfl rfl).mpr c_317; omega)
                                            clear c_317
                                            refine lv_aload_n hx hb dX9_deal_230 rfl (lv_at hl 5 rfl) ?_
                                            refine va_get (D := D) (ci := 9) (v := .ref (ma 63)) (C := RX9) (T := TX9) (N := 68) hx hb htb iX9 hown hK.1 hP 3 rfl rfl 63 (by decide) (htb _ k_1021) (fun _ h9 => h9) rfl dX9_deal_231 ?_
                                            refine lv_iload hx hb dX9_deal_234 (lv_at hl 0 rfl) ?_
                                            refine lv_aload_n hx hb dX9_deal_236 rfl (lv_at hl 5 rfl) ?_
                                            refine va_get (D := D) (ci := 9) (v := .ref (ma 65)) (C := RX9) (T := TX9) (N := 68) hx hb htb iX9 hown hK.1 hP 3 rfl rfl 65 (by decide) (htb _ k_1023) (fun _ h9 => h9) rfl dX9_deal_237 ?_
                                            refine lv_iload hx hb dX9_deal_240 (lv_at hl 0 rfl) ?_
                                            refine va_iald hx hb hK.1 hP 4 0 rfl rfl (g_in rfl (by omega) (by omega)) dX9_deal_242 ?_
                                            refine lv_topi (fun z_334 ez_334 => ?_)
                                            have kz_334 := congrArg Int32.toInt ez_334
                                            have jz_334 : 0 ≤ z_334.toInt ∧ z_334.toInt ≤ 3 := by rw [ez_334]; exact v_mf65_129 _ (g_ix rfl (by omega) (by omega))
                                            refine va_iast hx hb hK.1 hP hD hS 1 0 rfl rfl (g_in rfl (by omega) (by omega)) dX9_deal_243 (fun H locs hP hD hS => ?_)
                                            have hP : va_P D vwCl [((ma 62), .inl (E 0, 9, .inl mf62)), ((ma 63), .inl (E 0, 9, .inl (upd mf63_221 (L8_221 : Int32).toNatClampNeg z_334))), ((ma 66), .inl (E 0, 3, .inl (upd g_241 (2 : Int32).toNatClampNeg p2))), (mh, .inr (9, G9 ma mcode mtoday moffs mmany msumW msumA msumR msumWW msumWA msumAA msumWR msumAR mupper mlower mrates mtaped mlaid mat mtk mtkAt mtkNumber mwaits mlisted mdealtMany)), ((ma 65), .inl (E 0, 9, .inl mf65_129)), ((ma 67), .inl (E 0, 3, .inl u_252))] H := hP
                                            have hD := toW hP hD rfl
                                            obtain ⟨z_335, ez_335⟩ : ∃ y : Int32, y = L8_221 + 1 := ⟨_, rfl⟩
                                            have jz_335 : z_335.toInt = L8_221.toInt + 1 := by rw [ez_335]; exact g_add rfl t_1 (by omega) (by omega)
                                            refine lv_iinc (v := z_335) (lv' := [(8, .int z_335), (5, .int L7_149), (7, .int L7_149), (6, .int L6_129), (4, .int 1), (0, .ref mh), (1, .int p0), (2, .int p1), (3, .int p2)]) hx hb dX9_deal_244 hl (k := 0) rfl (by rw [ez_335]; rfl) (by decide) rfl (fun ls hl => ?_)
                                            refine lv_goto (tgt := 221) hx hb dX9_deal_247 (by decide) ?_
                                            exact ih_315 z_335 (upd mf63_221 (L8_221 : Int32).toNatClampNeg z_334) _ _ _ (by have h0 := t_1; (try dsimp only); omega) (by have h0 := t_1; (try dsimp only); omega) hP hD hS (lv_sub hl [0, 1, 2, 3, 4, 5, 6, 7, 8] rfl)
                                      exact loop_314 10 0 mf63_129 _ _ _ (by have h0 := t_0; have h1 := t_1; (try dsimp only); omega) (by have h0 := t_0; have h1 := t_1; (try dsimp only); omega) hP hD hS (lv_sub hl [0, 1, 2, 3, 4, 5, 6, 7, 8] rfl)
                                ·
                                  have ic_273 : L8_149.toInt < 1 := by first | exact (g_lt rfl t_1).mp c_273 | (have h := mt (g_le t_1 rfl).mpr c_273; omega)
                                  clear c_273
                                  refine lv_aload_n hx hb dX9_deal_156 rfl (lv_at hl 5 rfl) ?_
                                  refine va_get (D := D) (ci := 9) (v := .ref (ma 66)) (C := RX9) (T := TX9) (N := 68) hx hb htb iX9 hown hK.1 hP 3 rfl rfl 66 (by decide) (htb _ k_1024) (fun _ h9 => h9) rfl dX9_deal_157 ?_
                                  refine lv_iload hx hb dX9_deal_160 (lv_at hl 0 rfl) ?_
                                  refine va_iald hx hb hK.1 hP 2 0 rfl rfl (g_in rfl (by omega) (by omega)) dX9_deal_162 ?_
                                  refine lv_topi (fun z_336 ez_336 => ?_)
                                  have kz_336 := congrArg Int32.toInt ez_336
                                  refine lv_aload_n hx hb dX9_deal_163 rfl (lv_at hl 5 rfl) ?_
                                  refine lv_iload hx hb dX9_deal_164 (lv_at hl 0 rfl) ?_
                                  refine callRV (rest := [.int z_336]) (As := [.int L8_149]) hx hb hml hown htb hK (g_X9_secondOf l D E mh ma mcode mtoday moffs mmany msumW msumA msumR msumWW msumWA msumAA msumWR msumAR mupper mlower mrates mtaped mlaid mat mtk mtkAt mtkNumber mwaits mlisted mdealtMany mf62 mf65_129 L8_149 (by (try dsimp only); omega) v_mf65_129) ok_X9_secondOf k_1468 k_1470 ks_66 k_9 k_1471 ⟨(Nat.le_of_ble_eq_true rfl), (Nat.le_of_ble_eq_true rfl)⟩ ⟨(Nat.le_of_ble_eq_true rfl), (Nat.le_of_ble_eq_true rfl)⟩ hl.1 (Nat.le_of_ble_eq_true rfl) rfl rfl dX9_deal_166 (hP.sub (ws' := [(mh, .inr (9, G9 ma mcode mtoday moffs mmany msumW msumA msumR msumWW msumWA msumAA msumWR msumAR mupper mlower mrates mtaped mlaid mat mtk mtkAt mtkNumber mwaits mlisted mdealtMany)), ((ma 62), .inl (E 0, 9, .inl mf62)), ((ma 65), .inl (E 0, 9, .inl mf65_129))]) [3, 0, 4] rfl) rfl rfl 0 rfl (fun r_337 hw_338 => ?_)
                                  refine lv_imul hx hb dX9_deal_169 ?_
                                  refine lv_topi (fun z_340 ez_340 => ?_)
                                  refine lv_iload hx hb dX9_deal_170 (lv_at hl 1 rfl) ?_
                                  refine lv_icmp_le (tgt := 192) hx hb dX9_deal_172 (by decide) (fun c_341 => ?_) (fun c_341 => ?_)
                                  ·
                                    have ic_341 : z_340.toInt ≤ L7_149.toInt := by first | exact (g_le rfl rfl).mp c_341 | (have h := mt (g_lt rfl rfl).mpr c_341; omega)
                                    clear c_341
                                    refine lv_iload hx hb dX9_deal_192 (lv_at hl 1 rfl) ?_
                                    refine lv_istore (lv' := [(7, .int L7_149), (8, .int L8_149), (6, .int L6_129), (5, .int L5_129), (4, .int 1), (0, .ref mh), (1, .int p0), (2, .int p1), (3, .int p2)]) hx hb dX9_deal_194 hl (by decide) rfl (fun ls hl => ?_)
                                    obtain ⟨z_342, ez_342⟩ : ∃ y : Int32, y = L8_149 + 1 := ⟨_, rfl⟩
                                    have jz_342 : z_342.toInt = L8_149.toInt + 1 := by rw [ez_342]; exact g_add rfl t_1 (by omega) (by omega)
                                    refine lv_iinc (v := z_342) (lv' := [(8, .int z_342), (7, .int L7_149), (6, .int L6_129), (5, .int L5_129), (4, .int 1), (0, .ref mh), (1, .int p0), (2, .int p1), (3, .int p2)]) hx hb dX9_deal_196 hl (k := 1) rfl (by rw [ez_342]; rfl) (by decide) rfl (fun ls hl => ?_)
                                    refine lv_goto (tgt := 149) hx hb dX9_deal_199 (by decide) ?_
                                    exact ih_271 z_342 L7_149 _ _ _ (by have h0 := t_1; (try dsimp only); omega) (by have h0 := t_1; (try dsimp only); omega) hP hD hS (lv_sub hl [0, 1, 2, 3, 4, 5, 6, 7, 8] rfl)
                                  ·
                                    have ic_341 : L7_149.toInt < z_340.toInt := by first | exact (g_lt rfl rfl).mp c_341 | (have h := mt (g_le rfl rfl).mpr c_341; omega)
                                    clear c_341
                                    refine lv_aload_n hx hb dX9_deal_175 rfl (lv_at hl 5 rfl) ?_
                                    refine va_get (D := D) (ci := 9) (v := .ref (ma 66)) (C := RX9) (T := TX9) (N := 68) hx hb htb iX9 hown hK.1 hP 3 rfl rfl 66 (by decide) (htb _ k_1024) (fun _ h9 => h9) rfl dX9_deal_176 ?_
                                    refine lv_iload hx hb dX9_deal_179 (lv_at hl 0 rfl) ?_
                                    refine va_iald hx hb hK.1 hP 2 0 rfl rfl (g_in rfl (by omega) (by omega)) dX9_deal_181 ?_
                                    refine lv_topi (fun z_343 ez_343 => ?_)
                                    have kz_343 := congrArg Int32.toInt ez_343
                                    refine lv_aload_n hx hb dX9_deal_182 rfl (lv_at hl 5 rfl) ?_
                                    refine lv_iload hx hb dX9_deal_183 (lv_at hl 0 rfl) ?_
                                    refine callRV (rest := [.int z_343]) (As := [.int L8_149]) hx hb hml hown htb hK (g_X9_secondOf l D E mh ma mcode mtoday moffs mmany msumW msumA msumR msumWW msumWA msumAA msumWR msumAR mupper mlower mrates mtaped mlaid mat mtk mtkAt mtkNumber mwaits mlisted mdealtMany mf62 mf65_129 L8_149 (by (try dsimp only); omega) v_mf65_129) ok_X9_secondOf k_1468 k_1470 ks_66 k_9 k_1471 ⟨(Nat.le_of_ble_eq_true rfl), (Nat.le_of_ble_eq_true rfl)⟩ ⟨(Nat.le_of_ble_eq_true rfl), (Nat.le_of_ble_eq_true rfl)⟩ hl.1 (Nat.le_of_ble_eq_true rfl) rfl rfl dX9_deal_185 (hP.sub (ws' := [(mh, .inr (9, G9 ma mcode mtoday moffs mmany msumW msumA msumR msumWW msumWA msumAA msumWR msumAR mupper mlower mrates mtaped mlaid mat mtk mtkAt mtkNumber mwaits mlisted mdealtMany)), ((ma 62), .inl (E 0, 9, .inl mf62)), ((ma 65), .inl (E 0, 9, .inl mf65_129))]) [3, 0, 4] rfl) rfl rfl 0 rfl (fun r_344 hw_345 => ?_)
                                    refine lv_imul hx hb dX9_deal_188 ?_
                                    refine lv_topi (fun z_347 ez_347 => ?_)
                                    refine lv_goto (tgt := 194) hx hb dX9_deal_189 (by decide) ?_
                                    refine lv_istore (lv' := [(7, .int z_347), (8, .int L8_149), (6, .int L6_129), (5, .int L5_129), (4, .int 1), (0, .ref mh), (1, .int p0), (2, .int p1), (3, .int p2)]) hx hb dX9_deal_194 hl (by decide) rfl (fun ls hl => ?_)
                                    obtain ⟨z_348, ez_348⟩ : ∃ y : Int32, y = L8_149 + 1 := ⟨_, rfl⟩
                                    have jz_348 : z_348.toInt = L8_149.toInt + 1 := by rw [ez_348]; exact g_add rfl t_1 (by omega) (by omega)
                                    refine lv_iinc (v := z_348) (lv' := [(8, .int z_348), (7, .int z_347), (6, .int L6_129), (5, .int L5_129), (4, .int 1), (0, .ref mh), (1, .int p0), (2, .int p1), (3, .int p2)]) hx hb dX9_deal_196 hl (k := 1) rfl (by rw [ez_348]; rfl) (by decide) rfl (fun ls hl => ?_)
                                    refine lv_goto (tgt := 149) hx hb dX9_deal_199 (by decide) ?_
                                    exact ih_271 z_348 z_347 _ _ _ (by have h0 := t_1; (try dsimp only); omega) (by have h0 := t_1; (try dsimp only); omega) hP hD hS (lv_sub hl [0, 1, 2, 3, 4, 5, 6, 7, 8] rfl)
                            exact loop_270 4 0 0 _ _ _ (by have h0 := t_0; have h1 := t_1; (try dsimp only); omega) (by have h0 := t_0; have h1 := t_1; (try dsimp only); omega) hP hD hS (lv_sub hl [0, 1, 2, 3, 4, 5, 6, 7, 8] rfl)
                    exact loop_246 262146 1 mf67 mf65_103 ((-1)) mf63 _ _ _ (by have h := val4_max (n := mlisted) v_mf65_103 (by omega) (by omega); have h1 := t_1; omega) v_mf65_103 (by have h := val4_max (n := mlisted) v_mf65_103 (by omega) (by omega); have h1 := t_1; omega) hP hD hS (lv_sub hl [0, 1, 2, 3, 4, 5, 6] rfl)
                  ·
                    have ic_245 : L6_103.toInt < mlisted.toInt := by first | exact (g_lt rfl rfl).mp c_245 | (have h := mt (g_le rfl rfl).mpr c_245; omega)
                    clear c_245
                    refine lv_aload_n hx hb dX9_deal_112 rfl (lv_at hl 3 rfl) ?_
                    refine va_get (D := D) (ci := 9) (v := .ref (ma 65)) (C := RX9) (T := TX9) (N := 68) hx hb htb iX9 hown hK.1 hP 0 rfl rfl 65 (by decide) (htb _ k_1023) (fun _ h9 => h9) rfl dX9_deal_113 ?_
                    refine lv_iload hx hb dX9_deal_116 (lv_at hl 0 rfl) ?_
                    refine lv_iconst (v := 0) hx hb dX9_deal_118 (by decide) ?_
                    refine va_iast hx hb hK.1 hP hD hS 3 0 rfl rfl (g_in rfl (by omega) (by omega)) dX9_deal_119 (fun H locs hP hD hS => ?_)
                    have hP : va_P D vwCl [(mh, .inr (9, G9 ma mcode mtoday moffs mmany msumW msumA msumR msumWW msumWA msumAA msumWR msumAR mupper mlower mrates mtaped mlaid mat mtk mtkAt mtkNumber mwaits mlisted mdealtMany)), ((ma 62), .inl (E 0, 9, .inl mf62)), ((ma 63), .inl (E 0, 9, .inl mf63)), ((ma 65), .inl (E 0, 9, .inl (upd mf65_103 (L6_103 : Int32).toNatClampNeg 0))), ((ma 66), .inl (E 0, 3, .inl (upd g_241 (2 : Int32).toNatClampNeg p2))), ((ma 67), .inl (E 0, 3, .inl mf67))] H := hP
                    have hD := toW hP hD rfl
                    have hv_349 : ∀ k : Nat, k < 9 → 0 ≤ ((upd mf65_103 (L6_103 : Int32).toNatClampNeg 0) k).toInt ∧ ((upd mf65_103 (L6_103 : Int32).toNatClampNeg 0) k).toInt ≤ 3 := upd_r v_mf65_103 (by decide)
                    obtain ⟨z_350, ez_350⟩ : ∃ y : Int32, y = L6_103 + 1 := ⟨_, rfl⟩
                    have jz_350 : z_350.toInt = L6_103.toInt + 1 := by rw [ez_350]; exact g_add rfl t_1 (by omega) (by omega)
                    refine lv_iinc (v := z_350) (lv' := [(6, .int z_350), (5, .int (-1)), (4, .int 1), (0, .ref mh), (1, .int p0), (2, .int p1), (3, .int p2)]) hx hb dX9_deal_120 hl (k := 0) rfl (by rw [ez_350]; rfl) (by decide) rfl (fun ls hl => ?_)
                    refine lv_goto (tgt := 103) hx hb dX9_deal_123 (by decide) ?_
                    exact ih_243 z_350 (upd mf65_103 (L6_103 : Int32).toNatClampNeg 0) _ _ _ (by have h0 := t_m1; have h1 := t_1; (try dsimp only); omega) hv_349 (by have h0 := t_m1; have h1 := t_1; (try dsimp only); omega) hP hD hS (lv_sub hl [0, 1, 2, 3, 4, 5, 6] rfl)
              exact loop_242 10 0 mf65 _ _ _ (by have h0 := t_m1; have h1 := t_0; have h2 := t_1; (try dsimp only); omega) hr_m65 (by have h0 := t_m1; have h1 := t_0; have h2 := t_1; (try dsimp only); omega) hP hD hS (lv_sub hl [0, 1, 2, 3, 4, 5, 6] rfl)
            ·
              have ic_240 : mlisted.toInt < 3 := by first | exact (g_lt rfl t_3).mp c_240 | (have h := mt (g_le t_3 rfl).mpr c_240; omega)
              clear c_240
              refine lv_bipush (v := (-4)) hx hb dX9_deal_73 (by decide) ?_
              have hP9 := hP.sub (ws' := [(mh, .inr (9, G9 ma mcode mtoday moffs mmany msumW msumA msumR msumWW msumWA msumAA msumWR msumAR mupper mlower mrates mtaped mlaid mat mtk mtkAt mtkNumber mwaits mlisted mdealtMany)), ((ma 62), .inl (E 0, 9, .inl mf62)), ((ma 63), .inl (E 0, 9, .inl mf63)), ((ma 65), .inl (E 0, 9, .inl mf65)), ((ma 66), .inl (E 0, 3, .inl mf66)), ((ma 67), .inl (E 0, 3, .inl mf67))]) [0, 1, 2, 3, 4, 5] rfl
              have hD9 := hD.sub (ws' := [(mh, .inr (9, G9 ma mcode mtoday moffs mmany msumW msumA msumR msumWW msumWA msumAA msumWR msumAR mupper mlower mrates mtaped mlaid mat mtk mtkAt mtkNumber mwaits mlisted mdealtMany)), ((ma 62), .inl (E 0, 9, .inl mf62)), ((ma 63), .inl (E 0, 9, .inl mf63)), ((ma 65), .inl (E 0, 9, .inl mf65)), ((ma 66), .inl (E 0, 3, .inl mf66)), ((ma 67), .inl (E 0, 3, .inl mf67))]) [0, 1, 2, 3, 4, 5] (by decide) rfl
              exact W.iret (v := (-4)) hx hb hr (fun t ht hW => ⟨⟨(-4), (mf63, mf65, mf66, mf67, mdealtMany, mlisted), rfl, ⟨hr_m65, (by (try dsimp only); omega), (by (try dsimp only); omega), (by have h0 := t_m4; (try dsimp only); omega)⟩, by rw [ht]; exact hP9, hD9⟩, hS.F ht⟩) hS.2.2 dX9_deal_75
          ·
            have ic_238 : 0 < p2.toInt := by first | exact (g_lt t_0 rfl).mp c_238 | (have h := mt (g_le rfl t_0).mpr c_238; omega)
            clear c_238
            refine lv_iconst (v := (-1)) hx hb dX9_deal_41 (by decide) ?_
            have hP9 := hP.sub (ws' := [(mh, .inr (9, G9 ma mcode mtoday moffs mmany msumW msumA msumR msumWW msumWA msumAA msumWR msumAR mupper mlower mrates mtaped mlaid mat mtk mtkAt mtkNumber mwaits mlisted mdealtMany)), ((ma 62), .inl (E 0, 9, .inl mf62)), ((ma 63), .inl (E 0, 9, .inl mf63)), ((ma 65), .inl (E 0, 9, .inl mf65)), ((ma 66), .inl (E 0, 3, .inl mf66)), ((ma 67), .inl (E 0, 3, .inl mf67))]) [0, 1, 2, 3, 4, 5] rfl
            have hD9 := hD.sub (ws' := [(mh, .inr (9, G9 ma mcode mtoday moffs mmany msumW msumA msumR msumWW msumWA msumAA msumWR msumAR mupper mlower mrates mtaped mlaid mat mtk mtkAt mtkNumber mwaits mlisted mdealtMany)), ((ma 62), .inl (E 0, 9, .inl mf62)), ((ma 63), .inl (E 0, 9, .inl mf63)), ((ma 65), .inl (E 0, 9, .inl mf65)), ((ma 66), .inl (E 0, 3, .inl mf66)), ((ma 67), .inl (E 0, 3, .inl mf67))]) [0, 1, 2, 3, 4, 5] (by decide) rfl
            exact W.iret (v := (-1)) hx hb hr (fun t ht hW => ⟨⟨(-1), (mf63, mf65, mf66, mf67, mdealtMany, mlisted), rfl, ⟨hr_m65, (by (try dsimp only); omega), (by (try dsimp only); omega), (by have h0 := t_m1; (try dsimp only); omega)⟩, by rw [ht]; exact hP9, hD9⟩, hS.F ht⟩) hS.2.2 dX9_deal_42
      ·
        try simp only [t_0, t_400] at hw_10
        refine W_top (y := .int 0) (by rw [hr_9]) ?_
        refine lv_if_eq (tgt := 41) hx hb dX9_deal_30 (by decide) (fun c_351 => ?_) (fun c_351 => absurd (by decide) c_351)
        refine lv_iconst (v := (-1)) hx hb dX9_deal_41 (by decide) ?_
        have hP9 := hP.sub (ws' := [(mh, .inr (9, G9 ma mcode mtoday moffs mmany msumW msumA msumR msumWW msumWA msumAA msumWR msumAR mupper mlower mrates mtaped mlaid mat mtk mtkAt mtkNumber mwaits mlisted mdealtMany)), ((ma 62), .inl (E 0, 9, .inl mf62)), ((ma 63), .inl (E 0, 9, .inl mf63)), ((ma 65), .inl (E 0, 9, .inl mf65)), ((ma 66), .inl (E 0, 3, .inl mf66)), ((ma 67), .inl (E 0, 3, .inl mf67))]) [0, 1, 2, 3, 4, 5] rfl
        have hD9 := hD.sub (ws' := [(mh, .inr (9, G9 ma mcode mtoday moffs mmany msumW msumA msumR msumWW msumWA msumAA msumWR msumAR mupper mlower mrates mtaped mlaid mat mtk mtkAt mtkNumber mwaits mlisted mdealtMany)), ((ma 62), .inl (E 0, 9, .inl mf62)), ((ma 63), .inl (E 0, 9, .inl mf63)), ((ma 65), .inl (E 0, 9, .inl mf65)), ((ma 66), .inl (E 0, 3, .inl mf66)), ((ma 67), .inl (E 0, 3, .inl mf67))]) [0, 1, 2, 3, 4, 5] (by decide) rfl
        exact W.iret (v := (-1)) hx hb hr (fun t ht hW => ⟨⟨(-1), (mf63, mf65, mf66, mf67, mdealtMany, mlisted), rfl, ⟨hr_m65, (by (try dsimp only); omega), (by (try dsimp only); omega), (by have h0 := t_m1; (try dsimp only); omega)⟩, by rw [ht]; exact hP9, hD9⟩, hS.F ht⟩) hS.2.2 dX9_deal_42
    ·
      try simp only [t_0, t_400] at hw_6
      refine W_top (y := .int 0) (by rw [hr_5]) ?_
      refine lv_if_eq (tgt := 41) hx hb dX9_deal_19 (by decide) (fun c_352 => ?_) (fun c_352 => absurd (by decide) c_352)
      refine lv_iconst (v := (-1)) hx hb dX9_deal_41 (by decide) ?_
      have hP9 := hP.sub (ws' := [(mh, .inr (9, G9 ma mcode mtoday moffs mmany msumW msumA msumR msumWW msumWA msumAA msumWR msumAR mupper mlower mrates mtaped mlaid mat mtk mtkAt mtkNumber mwaits mlisted mdealtMany)), ((ma 62), .inl (E 0, 9, .inl mf62)), ((ma 63), .inl (E 0, 9, .inl mf63)), ((ma 65), .inl (E 0, 9, .inl mf65)), ((ma 66), .inl (E 0, 3, .inl mf66)), ((ma 67), .inl (E 0, 3, .inl mf67))]) [0, 1, 2, 3, 4, 5] rfl
      have hD9 := hD.sub (ws' := [(mh, .inr (9, G9 ma mcode mtoday moffs mmany msumW msumA msumR msumWW msumWA msumAA msumWR msumAR mupper mlower mrates mtaped mlaid mat mtk mtkAt mtkNumber mwaits mlisted mdealtMany)), ((ma 62), .inl (E 0, 9, .inl mf62)), ((ma 63), .inl (E 0, 9, .inl mf63)), ((ma 65), .inl (E 0, 9, .inl mf65)), ((ma 66), .inl (E 0, 3, .inl mf66)), ((ma 67), .inl (E 0, 3, .inl mf67))]) [0, 1, 2, 3, 4, 5] (by decide) rfl
      exact W.iret (v := (-1)) hx hb hr (fun t ht hW => ⟨⟨(-1), (mf63, mf65, mf66, mf67, mdealtMany, mlisted), rfl, ⟨hr_m65, (by (try dsimp only); omega), (by (try dsimp only); omega), (by have h0 := t_m1; (try dsimp only); omega)⟩, by rw [ht]; exact hP9, hD9⟩, hS.F ht⟩) hS.2.2 dX9_deal_42
  ·
    try simp only [t_1, t_400] at hw_2
    refine W_top (y := .int 0) (by rw [hr_1]) ?_
    refine lv_if_eq (tgt := 41) hx hb dX9_deal_8 (by decide) (fun c_353 => ?_) (fun c_353 => absurd (by decide) c_353)
    refine lv_iconst (v := (-1)) hx hb dX9_deal_41 (by decide) ?_
    have hP9 := hP.sub (ws' := [(mh, .inr (9, G9 ma mcode mtoday moffs mmany msumW msumA msumR msumWW msumWA msumAA msumWR msumAR mupper mlower mrates mtaped mlaid mat mtk mtkAt mtkNumber mwaits mlisted mdealtMany)), ((ma 62), .inl (E 0, 9, .inl mf62)), ((ma 63), .inl (E 0, 9, .inl mf63)), ((ma 65), .inl (E 0, 9, .inl mf65)), ((ma 66), .inl (E 0, 3, .inl mf66)), ((ma 67), .inl (E 0, 3, .inl mf67))]) [0, 1, 2, 3, 4, 5] rfl
    have hD9 := hD.sub (ws' := [(mh, .inr (9, G9 ma mcode mtoday moffs mmany msumW msumA msumR msumWW msumWA msumAA msumWR msumAR mupper mlower mrates mtaped mlaid mat mtk mtkAt mtkNumber mwaits mlisted mdealtMany)), ((ma 62), .inl (E 0, 9, .inl mf62)), ((ma 63), .inl (E 0, 9, .inl mf63)), ((ma 65), .inl (E 0, 9, .inl mf65)), ((ma 66), .inl (E 0, 3, .inl mf66)), ((ma 67), .inl (E 0, 3, .inl mf67))]) [0, 1, 2, 3, 4, 5] (by decide) rfl
    exact W.iret (v := (-1)) hx hb hr (fun t ht hW => ⟨⟨(-1), (mf63, mf65, mf66, mf67, mdealtMany, mlisted), rfl, ⟨hr_m65, (by (try dsimp only); omega), (by (try dsimp only); omega), (by have h0 := t_m1; (try dsimp only); omega)⟩, by rw [ht]; exact hP9, hD9⟩, hS.F ht⟩) hS.2.2 dX9_deal_42
