section
set_option maxHeartbeats 4000000 in
set_option maxRecDepth 100000 in
theorem g_X9_readRule (l : Launch) (D : va_G) (E : Nat → Nat) (mh : Nat) (ma : Nat → Nat) (mcode : Int32) (mtoday : Int32) (moffs : Int32) (mmany : Int64) (msumW : Int64) (msumA : Int64) (msumR : Int64) (msumWW : Int64) (msumWA : Int64) (msumAA : Int64) (msumWR : Int64) (msumAR : Int64) (mupper : Int64) (mlower : Int64) (mrates : Int32) (mtaped : Int32) (mlaid : Int32) (mat : Int32) (mtk : Int32) (mtkAt : Int32) (mtkNumber : Int32) (mwaits : Int32) (mlisted : Int32) (mdealtMany : Int32) (mf32 : Nat → Int32) (mf36 : Nat → Int32) (mf37 : Nat → Int32) (mf43 : Nat → Int32) (p0 : Int32) (sz : Nat) (hi_m : (0 ≤ mtoday.toInt ∧ mtoday.toInt ≤ 399) ∧ (0 ≤ moffs.toInt ∧ moffs.toInt ≤ 60) ∧ (0 ≤ mrates.toInt ∧ mrates.toInt ≤ 60) ∧ (0 ≤ mtaped.toInt ∧ mtaped.toInt ≤ 120) ∧ (0 ≤ mlisted.toInt ∧ mlisted.toInt ≤ 9) ∧ (0 ≤ mdealtMany.toInt ∧ mdealtMany.toInt ≤ 9)) : Met l yX9_readRule (wl yX9_readRule cX9_readRule 5 (some .int)) (RM 2 0 0) (mu_P D E [.ref mh, .int p0] [(mh, .inr (9, G9 ma mcode mtoday moffs mmany msumW msumA msumR msumWW msumWA msumAA msumWR msumAR mupper mlower mrates mtaped mlaid mat mtk mtkAt mtkNumber mwaits mlisted mdealtMany)), ((ma 32), .inl (E 2, 120, .inl mf32)), ((ma 36), .inl (E 0, 384, .inl mf36)), ((ma 37), .inl (E 0, 384, .inl mf37)), ((ma 43), .inl (E 0, 130, .inl mf43))] sz) (va_Qi (fun (r : Int32) (u : (Nat → Int32) × (Nat → Int32) × (Nat → Int32) × (Int32) × (Int32) × (Int32) × (Int32) × (Int32) × (Int32)) => (LOW mf36 u.1) ∧ ((0 ≤ r.toInt) ∨ (r.toInt = -1 ∧ WFc u.1 256 (u.2.2.2.2.1).toNatClampNeg ∧ 0 ≤ u.2.2.2.2.1.toInt ∧ u.2.2.2.2.1.toInt ≤ 120))) (mu_B D (va_A [(mh, .inr (9, G9 ma mcode mtoday moffs mmany msumW msumA msumR msumWW msumWA msumAA msumWR msumAR mupper mlower mrates mtaped mlaid mat mtk mtkAt mtkNumber mwaits mlisted mdealtMany)), ((ma 32), .inl (E 2, 120, .inl mf32)), ((ma 36), .inl (E 0, 384, .inl mf36)), ((ma 37), .inl (E 0, 384, .inl mf37)), ((ma 43), .inl (E 0, 130, .inl mf43))] sz) (fun (u : (Nat → Int32) × (Nat → Int32) × (Nat → Int32) × (Int32) × (Int32) × (Int32) × (Int32) × (Int32) × (Int32)) => [(mh, .inr (9, G9 ma mcode mtoday moffs mmany msumW msumA msumR msumWW msumWA msumAA msumWR msumAR mupper mlower mrates mtaped u.2.2.2.2.1 u.2.2.2.1 u.2.2.2.2.2.1 u.2.2.2.2.2.2.1 u.2.2.2.2.2.2.2.1 u.2.2.2.2.2.2.2.2 mlisted mdealtMany)), ((ma 32), .inl (E 2, 120, .inl mf32)), ((ma 36), .inl (E 0, 384, .inl u.1)), ((ma 37), .inl (E 0, 384, .inl u.2.1)), ((ma 43), .inl (E 0, 130, .inl u.2.2.1))])) (va_A [(mh, .inr (9, G9 ma mcode mtoday moffs mmany msumW msumA msumR msumWW msumWA msumAA msumWR msumAR mupper mlower mrates mtaped mlaid mat mtk mtkAt mtkNumber mwaits mlisted mdealtMany)), ((ma 32), .inl (E 2, 120, .inl mf32)), ((ma 36), .inl (E 0, 384, .inl mf36)), ((ma 37), .inl (E 0, 384, .inl mf37)), ((ma 43), .inl (E 0, 130, .inl mf43))] sz)) 0 0 (va_A [(mh, .inr (9, G9 ma mcode mtoday moffs mmany msumW msumA msumR msumWW msumWA msumAA msumWR msumAR mupper mlower mrates mtaped mlaid mat mtk mtkAt mtkNumber mwaits mlisted mdealtMany)), ((ma 32), .inl (E 2, 120, .inl mf32)), ((ma 36), .inl (E 0, 384, .inl mf36)), ((ma 37), .inl (E 0, 384, .inl mf37)), ((ma 43), .inl (E 0, 130, .inl mf43))] sz) := by
  refine Met.ofW (cc := cX9_readRule) (maxL := 5) (ret := (some .int)) (by decide) rfl ?_
  intro p e s m args below meth c s₁ B hml hv
  obtain ⟨rfl, hsz, hP, hK, hD0⟩ := hv
  have hx := B.exec; have hb := B.bytes; have hr := B.returns
  have hts := atoms_spec (ws := wl yX9_readRule cX9_readRule 5 (some .int)) B.pre
  have htb : ∀ w ∈ tb, w.before _ s = true := fun w h => hts w (List.mem_cons_of_mem _ h)
  have hown : s.vm.findClass RX9 = some m.cls := findClass_of_methodNamed B.named
  have hlocks := B.notSynchronized
  subst hsz
  have hD := hD0.self (sz := s.heap.size)
  generalize hAe : va_A [(mh, .inr (9, G9 ma mcode mtoday moffs mmany msumW msumA msumR msumWW msumWA msumAA msumWR msumAR mupper mlower mrates mtaped mlaid mat mtk mtkAt mtkNumber mwaits mlisted mdealtMany)), ((ma 32), .inl (E 2, 120, .inl mf32)), ((ma 36), .inl (E 0, 384, .inl mf36)), ((ma 37), .inl (E 0, 384, .inl mf37)), ((ma 43), .inl (E 0, 130, .inl mf43))] s.heap.size = A at hD ⊢
  have hA : ∀ q : Nat, s.heap.size ≤ q → A q := fun q h => by rw [← hAe]; exact Or.inr h
  have hS : va_S A s.heap s.heap [] := va_S.rf
  have hP : va_P D vwCl [(mh, .inr (9, G9 ma mcode mtoday moffs mmany msumW msumA msumR msumWW msumWA msumAA msumWR msumAR mupper mlower mrates mtaped mlaid mat mtk mtkAt mtkNumber mwaits mlisted mdealtMany)), ((ma 32), .inl (E 2, 120, .inl mf32)), ((ma 36), .inl (E 0, 384, .inl mf36)), ((ma 37), .inl (E 0, 384, .inl mf37)), ((ma 43), .inl (E 0, 130, .inl mf43))] s.heap := hP
  have hl := lv_entry ([.ref mh, .int p0]) (n := 5) (Nat.le_of_ble_eq_true rfl)
  rw [lg_entry_eq]
  generalize (lg_sl ([.ref mh, .int p0]) ++ List.replicate (5 - (lg_sl ([.ref mh, .int p0])).length) Slot.unset).toArray = ls at hl ⊢
  have hl : lv_has ls 5 [(0, .ref mh), (1, .int p0)] := hl
  have lo_p0 := i_lo p0; have hi_p0 := i_hi p0
  refine lv_aload_n hx hb dX9_readRule_0 rfl (lv_at hl 0 rfl) ?_
  refine lv_iconst (v := 0) hx hb dX9_readRule_1 (by decide) ?_
  refine va_put (D := D) (ci := 9) (v := .int 0) (ty := .int) (C := RX9) (T := TX9) (N := 68) hx hb htb iX9 tyX9 tyX9_ok nmX9 hown hK.1 hP hD hS 0 rfl rfl 39 (by decide) (htb _ k_997) (fun _ h9 => h9) rfl (by decide +kernel) rfl rfl (Nat.le_of_ble_eq_true rfl) dX9_readRule_2 (fun H locs hP hD hS => ?_)
  have hP : va_P D vwCl [(mh, .inr (9, G9 ma mcode mtoday moffs mmany msumW msumA msumR msumWW msumWA msumAA msumWR msumAR mupper mlower mrates mtaped mlaid 0 mtk mtkAt mtkNumber mwaits mlisted mdealtMany)), ((ma 32), .inl (E 2, 120, .inl mf32)), ((ma 36), .inl (E 0, 384, .inl mf36)), ((ma 37), .inl (E 0, 384, .inl mf37)), ((ma 43), .inl (E 0, 130, .inl mf43))] H := hP
  have hD := toW hP hD rfl
  refine lv_aload_n hx hb dX9_readRule_5 rfl (lv_at hl 0 rfl) ?_
  refine lv_iconst (v := 0) hx hb dX9_readRule_6 (by decide) ?_
  refine va_put (D := D) (ci := 9) (v := .int 0) (ty := .int) (C := RX9) (T := TX9) (N := 68) hx hb htb iX9 tyX9 tyX9_ok nmX9 hown hK.1 hP hD hS 0 rfl rfl 44 (by decide) (htb _ k_1002) (fun _ h9 => h9) rfl (by decide +kernel) rfl rfl (Nat.le_of_ble_eq_true rfl) dX9_readRule_7 (fun H locs hP hD hS => ?_)
  have hP : va_P D vwCl [(mh, .inr (9, G9 ma mcode mtoday moffs mmany msumW msumA msumR msumWW msumWA msumAA msumWR msumAR mupper mlower mrates mtaped mlaid 0 mtk mtkAt mtkNumber 0 mlisted mdealtMany)), ((ma 32), .inl (E 2, 120, .inl mf32)), ((ma 36), .inl (E 0, 384, .inl mf36)), ((ma 37), .inl (E 0, 384, .inl mf37)), ((ma 43), .inl (E 0, 130, .inl mf43))] H := hP
  have hD := toW hP hD rfl
  refine lv_aload_n hx hb dX9_readRule_10 rfl (lv_at hl 0 rfl) ?_
  refine lv_iconst (v := 0) hx hb dX9_readRule_11 (by decide) ?_
  refine va_put (D := D) (ci := 9) (v := .int 0) (ty := .int) (C := RX9) (T := TX9) (N := 68) hx hb htb iX9 tyX9 tyX9_ok nmX9 hown hK.1 hP hD hS 0 rfl rfl 38 (by decide) (htb _ k_996) (fun _ h9 => h9) rfl (by decide +kernel) rfl rfl (Nat.le_of_ble_eq_true rfl) dX9_readRule_12 (fun H locs hP hD hS => ?_)
  have hP : va_P D vwCl [(mh, .inr (9, G9 ma mcode mtoday moffs mmany msumW msumA msumR msumWW msumWA msumAA msumWR msumAR mupper mlower mrates mtaped 0 0 mtk mtkAt mtkNumber 0 mlisted mdealtMany)), ((ma 32), .inl (E 2, 120, .inl mf32)), ((ma 36), .inl (E 0, 384, .inl mf36)), ((ma 37), .inl (E 0, 384, .inl mf37)), ((ma 43), .inl (E 0, 130, .inl mf43))] H := hP
  have hD := toW hP hD rfl
  refine lv_iconst (v := 1) hx hb dX9_readRule_15 (by decide) ?_
  refine lv_istore_n (lv' := [(2, .int 1), (0, .ref mh), (1, .int p0)]) hx hb dX9_readRule_16 rfl hl (by decide) rfl (fun ls hl => ?_)
  refine lv_iconst (v := 1) hx hb dX9_readRule_17 (by decide) ?_
  refine lv_istore_n (lv' := [(3, .int 1), (2, .int 1), (0, .ref mh), (1, .int p0)]) hx hb dX9_readRule_18 rfl hl (by decide) rfl (fun ls hl => ?_)
  refine lv_aload_n hx hb dX9_readRule_19 rfl (lv_at hl 2 rfl) ?_
  refine lv_iload_n hx hb dX9_readRule_20 rfl (lv_at hl 3 rfl) ?_
  have hPc := hP.sub (ws' := [(mh, .inr (9, G9 ma mcode mtoday moffs mmany msumW msumA msumR msumWW msumWA msumAA msumWR msumAR mupper mlower mrates mtaped 0 0 mtk mtkAt mtkNumber 0 mlisted mdealtMany)), ((ma 32), .inl (E 2, 120, .inl mf32))]) [0, 1] rfl
  have hDc := hD.sub (ws' := [(mh, .inr (9, G9 ma mcode mtoday moffs mmany msumW msumA msumR msumWW msumWA msumAA msumWR msumAR mupper mlower mrates mtaped 0 0 mtk mtkAt mtkNumber 0 mlisted mdealtMany)), ((ma 32), .inl (E 2, 120, .inl mf32))]) [0, 1] (by decide) rfl
  refine aft_v (runMV (rest := []) (As := [.int p0]) hx hb hml hown htb hK (g_X9_advance l D E mh ma mcode mtoday moffs mmany msumW msumA msumR msumWW msumWA msumAA msumWR msumAR mupper mlower mrates mtaped 0 0 mtk mtkAt mtkNumber 0 mlisted mdealtMany mf32 p0 _ (by (try dsimp only); omega) (by have h0 := t_0; (try dsimp only); omega)) ok_X9_advance k_1338 k_1340 ks_55 k_9 k_1341 ⟨(Nat.le_of_ble_eq_true rfl), (Nat.le_of_ble_eq_true rfl)⟩ ⟨(Nat.le_of_ble_eq_true rfl), (Nat.le_of_ble_eq_true rfl)⟩ hl.1 (Nat.le_of_ble_eq_true rfl) rfl rfl dX9_readRule_21 hPc hDc rfl rfl 0 rfl) hP hD hS hA [0, 1] [2, 3, 4] (wr := [((ma 36), .inl (E 0, 384, .inl mf36)), ((ma 37), .inl (E 0, 384, .inl mf37)), ((ma 43), .inl (E 0, 130, .inl mf43))]) rfl rfl (by decide) (by decide) (fun u_3 H locs hw_2 hP hD hS => ?_)
  clear hPc hDc
  obtain ⟨w_4, w_5, w_6, w_7⟩ := u_3
  try dsimp only at hw_2
  have hP : va_P D vwCl [((ma 36), .inl (E 0, 384, .inl mf36)), ((ma 37), .inl (E 0, 384, .inl mf37)), ((ma 43), .inl (E 0, 130, .inl mf43)), (mh, .inr (9, G9 ma mcode mtoday moffs mmany msumW msumA msumR msumWW msumWA msumAA msumWR msumAR mupper mlower mrates mtaped 0 w_4 w_5 w_6 w_7 0 mlisted mdealtMany)), ((ma 32), .inl (E 2, 120, .inl mf32))] H := hP
  have hD := toW hP hD rfl
  try simp only [t_0] at hw_2
  have loop_8 : ∀ (N_10 : Nat) (L3_24 : Int32) (mat_24 : Int32) (mtk_24 : Int32) (mtkAt_24 : Int32) (mtkNumber_24 : Int32) (mwaits_24 : Int32) (mf43_24 : Nat → Int32) (L2_24 : Int32) (mlaid_24 : Int32) (mf36_24 : Nat → Int32) (mf37_24 : Nat → Int32) (H : Heap) (locs : List Loc) (ls : Array Slot), mtaped.toInt - mtkAt_24.toInt < (N_10 : Int) → (0 ≤ mlaid_24.toInt ∧ 0 ≤ mwaits_24.toInt ∧ mlaid_24.toInt + mwaits_24.toInt ≤ mtkAt_24.toInt ∧ mtkAt_24.toInt ≤ mat_24.toInt ∧ mat_24.toInt ≤ mtaped.toInt ∧ (mtk_24.toInt = 0 ∨ mtkAt_24.toInt + 1 ≤ mat_24.toInt) ∧ 0 ≤ mtk_24.toInt ∧ mtk_24.toInt ≤ 123 ∧ 0 ≤ L2_24.toInt ∧ L2_24.toInt ≤ 1 ∧ 0 ≤ L3_24.toInt ∧ L3_24.toInt ≤ 1) → (PI mf36_24 mf43_24 mlaid_24 mwaits_24 (1 - L2_24.toInt)) → (LOW mf36 mf36_24) → va_P D vwCl [((ma 36), .inl (E 0, 384, .inl mf36_24)), ((ma 37), .inl (E 0, 384, .inl mf37_24)), ((ma 43), .inl (E 0, 130, .inl mf43_24)), (mh, .inr (9, G9 ma mcode mtoday moffs mmany msumW msumA msumR msumWW msumWA msumAA msumWR msumAR mupper mlower mrates mtaped mlaid_24 mat_24 mtk_24 mtkAt_24 mtkNumber_24 mwaits_24 mlisted mdealtMany)), ((ma 32), .inl (E 2, 120, .inl mf32))] H → va_D A [((ma 36), .inl (E 0, 384, .inl mf36_24)), ((ma 37), .inl (E 0, 384, .inl mf37_24)), ((ma 43), .inl (E 0, 130, .inl mf43_24)), (mh, .inr (9, G9 ma mcode mtoday moffs mmany msumW msumA msumR msumWW msumWA msumAA msumWR msumAR mupper mlower mrates mtaped mlaid_24 mat_24 mtk_24 mtkAt_24 mtkNumber_24 mwaits_24 mlisted mdealtMany)), ((ma 32), .inl (E 2, 120, .inl mf32))] → va_S A s.heap H locs → lv_has ls 5 [(3, .int L3_24), (2, .int L2_24), (0, .ref mh), (1, .int p0)] → W p l e (headSpec (wl yX9_readRule cX9_readRule 5 (some .int)) (RM 2 0 0)).room s m [Value.ref mh, .int p0].toArray below meth c H locs 0 0 (MQ below (va_Qi (fun (r : Int32) (u : (Nat → Int32) × (Nat → Int32) × (Nat → Int32) × (Int32) × (Int32) × (Int32) × (Int32) × (Int32) × (Int32)) => (LOW mf36 u.1) ∧ ((0 ≤ r.toInt) ∨ (r.toInt = -1 ∧ WFc u.1 256 (u.2.2.2.2.1).toNatClampNeg ∧ 0 ≤ u.2.2.2.2.1.toInt ∧ u.2.2.2.2.1.toInt ≤ 120))) (mu_B D A (fun (u : (Nat → Int32) × (Nat → Int32) × (Nat → Int32) × (Int32) × (Int32) × (Int32) × (Int32) × (Int32) × (Int32)) => [(mh, .inr (9, G9 ma mcode mtoday moffs mmany msumW msumA msumR msumWW msumWA msumAA msumWR msumAR mupper mlower mrates mtaped u.2.2.2.2.1 u.2.2.2.1 u.2.2.2.2.2.1 u.2.2.2.2.2.2.1 u.2.2.2.2.2.2.2.1 u.2.2.2.2.2.2.2.2 mlisted mdealtMany)), ((ma 32), .inl (E 2, 120, .inl mf32)), ((ma 36), .inl (E 0, 384, .inl u.1)), ((ma 37), .inl (E 0, 384, .inl u.2.1)), ((ma 43), .inl (E 0, 130, .inl u.2.2.1))])) A) [Value.ref mh, .int p0].toArray s 0 0 A) (F0 m 24 ls []) := by
    intro N_10
    induction N_10 with
    | zero => intro L3_24 mat_24 mtk_24 mtkAt_24 mtkNumber_24 mwaits_24 mf43_24 L2_24 mlaid_24 mf36_24 mf37_24 H locs ls hm v0_24 v1_24 v2_24 _ _ _ _; exfalso; omega
    | succ N_10 ih_9 =>
      intro L3_24 mat_24 mtk_24 mtkAt_24 mtkNumber_24 mwaits_24 mf43_24 L2_24 mlaid_24 mf36_24 mf37_24 H locs ls hm v0_24 v1_24 v2_24 hP hD hS hl
      have lo_L3_24 := i_lo L3_24; have hi_L3_24 := i_hi L3_24
      have lo_mat_24 := i_lo mat_24; have hi_mat_24 := i_hi mat_24
      have lo_mtk_24 := i_lo mtk_24; have hi_mtk_24 := i_hi mtk_24
      have lo_mtkAt_24 := i_lo mtkAt_24; have hi_mtkAt_24 := i_hi mtkAt_24
      have lo_mtkNumber_24 := i_lo mtkNumber_24; have hi_mtkNumber_24 := i_hi mtkNumber_24
      have lo_mwaits_24 := i_lo mwaits_24; have hi_mwaits_24 := i_hi mwaits_24
      have lo_L2_24 := i_lo L2_24; have hi_L2_24 := i_hi L2_24
      have lo_mlaid_24 := i_lo mlaid_24; have hi_mlaid_24 := i_hi mlaid_24
      refine lv_iload_n hx hb dX9_readRule_24 rfl (lv_at hl 1 rfl) ?_
      refine lv_if_eq (tgt := 183) hx hb dX9_readRule_25 (by decide) (fun c_11 => ?_) (fun c_11 => ?_)
      ·
        have ic_11 : L2_24.toInt = 0 := (g_eq rfl t_0).mp c_11
        clear c_11
        refine lv_aload_n hx hb dX9_readRule_183 rfl (lv_at hl 2 rfl) ?_
        refine va_get (D := D) (ci := 9) (v := .int mtk_24) (C := RX9) (T := TX9) (N := 68) hx hb htb iX9 hown hK.1 hP 3 rfl rfl 40 (by decide) (htb _ k_998) (fun _ h9 => h9) rfl dX9_readRule_184 ?_
        refine lv_bipush (v := 6) hx hb dX9_readRule_187 (by decide) ?_
        refine lv_icmp_ne (tgt := 222) hx hb dX9_readRule_189 (by decide) (fun c_12 => ?_) (fun c_12 => ?_)
        ·
          have ic_12 : mtk_24.toInt ≠ 6 := mt (g_eq rfl t_6).mpr c_12
          clear c_12
          refine lv_aload_n hx hb dX9_readRule_222 rfl (lv_at hl 2 rfl) ?_
          refine va_get (D := D) (ci := 9) (v := .int mtk_24) (C := RX9) (T := TX9) (N := 68) hx hb htb iX9 hown hK.1 hP 3 rfl rfl 40 (by decide) (htb _ k_998) (fun _ h9 => h9) rfl dX9_readRule_223 ?_
          refine lv_if_ne (tgt := 250) hx hb dX9_readRule_226 (by decide) (fun c_13 => ?_) (fun c_13 => ?_)
          ·
            have ic_13 : mtk_24.toInt ≠ 0 := mt (g_eq rfl t_0).mpr c_13
            clear c_13
            refine lv_aload_n hx hb dX9_readRule_250 rfl (lv_at hl 2 rfl) ?_
            refine va_get (D := D) (ci := 9) (v := .int mtk_24) (C := RX9) (T := TX9) (N := 68) hx hb htb iX9 hown hK.1 hP 3 rfl rfl 40 (by decide) (htb _ k_998) (fun _ h9 => h9) rfl dX9_readRule_251 ?_
            refine lv_bipush (v := 10) hx hb dX9_readRule_254 (by decide) ?_
            refine lv_icmp_lt (tgt := 277) hx hb dX9_readRule_256 (by decide) (fun c_14 => ?_) (fun c_14 => ?_)
            ·
              have ic_14 : mtk_24.toInt < 10 := by first | exact (g_lt rfl t_10).mp c_14 | (have h := mt (g_le t_10 rfl).mpr c_14; omega)
              clear c_14
              refine lv_aload_n hx hb dX9_readRule_277 rfl (lv_at hl 2 rfl) ?_
              refine va_get (D := D) (ci := 9) (v := .int mtkAt_24) (C := RX9) (T := TX9) (N := 68) hx hb htb iX9 hown hK.1 hP 3 rfl rfl 41 (by decide) (htb _ k_999) (fun _ h9 => h9) rfl dX9_readRule_278 ?_
              have hP9 := hP.sub (ws' := [(mh, .inr (9, G9 ma mcode mtoday moffs mmany msumW msumA msumR msumWW msumWA msumAA msumWR msumAR mupper mlower mrates mtaped mlaid_24 mat_24 mtk_24 mtkAt_24 mtkNumber_24 mwaits_24 mlisted mdealtMany)), ((ma 32), .inl (E 2, 120, .inl mf32)), ((ma 36), .inl (E 0, 384, .inl mf36_24)), ((ma 37), .inl (E 0, 384, .inl mf37_24)), ((ma 43), .inl (E 0, 130, .inl mf43_24))]) [3, 4, 0, 1, 2] rfl
              have hD9 := hD.sub (ws' := [(mh, .inr (9, G9 ma mcode mtoday moffs mmany msumW msumA msumR msumWW msumWA msumAA msumWR msumAR mupper mlower mrates mtaped mlaid_24 mat_24 mtk_24 mtkAt_24 mtkNumber_24 mwaits_24 mlisted mdealtMany)), ((ma 32), .inl (E 2, 120, .inl mf32)), ((ma 36), .inl (E 0, 384, .inl mf36_24)), ((ma 37), .inl (E 0, 384, .inl mf37_24)), ((ma 43), .inl (E 0, 130, .inl mf43_24))]) [3, 4, 0, 1, 2] (by decide) rfl
              exact W.iret (v := mtkAt_24) hx hb hr (fun t ht hW => ⟨⟨mtkAt_24, (mf36_24, mf37_24, mf43_24, mat_24, mlaid_24, mtk_24, mtkAt_24, mtkNumber_24, mwaits_24), rfl, ⟨v2_24, (Or.inl (by (try dsimp only); omega))⟩, by rw [ht]; exact hP9, hD9⟩, hS.F ht⟩) hS.2.2 dX9_readRule_281
            ·
              have ic_14 : 10 ≤ mtk_24.toInt := by first | exact (g_le t_10 rfl).mp c_14 | (have h := mt (g_lt rfl t_10).mpr c_14; omega)
              clear c_14
              refine lv_aload_n hx hb dX9_readRule_259 rfl (lv_at hl 2 rfl) ?_
              refine va_get (D := D) (ci := 9) (v := .int mtk_24) (C := RX9) (T := TX9) (N := 68) hx hb htb iX9 hown hK.1 hP 3 rfl rfl 40 (by decide) (htb _ k_998) (fun _ h9 => h9) rfl dX9_readRule_260 ?_
              refine lv_bipush (v := 70) hx hb dX9_readRule_263 (by decide) ?_
              refine lv_icmp_ge (tgt := 277) hx hb dX9_readRule_265 (by decide) (fun c_15 => ?_) (fun c_15 => ?_)
              ·
                have ic_15 : 70 ≤ mtk_24.toInt := by first | exact (g_le t_70 rfl).mp c_15 | (have h := mt (g_lt rfl t_70).mpr c_15; omega)
                clear c_15
                refine lv_aload_n hx hb dX9_readRule_277 rfl (lv_at hl 2 rfl) ?_
                refine va_get (D := D) (ci := 9) (v := .int mtkAt_24) (C := RX9) (T := TX9) (N := 68) hx hb htb iX9 hown hK.1 hP 3 rfl rfl 41 (by decide) (htb _ k_999) (fun _ h9 => h9) rfl dX9_readRule_278 ?_
                have hP9 := hP.sub (ws' := [(mh, .inr (9, G9 ma mcode mtoday moffs mmany msumW msumA msumR msumWW msumWA msumAA msumWR msumAR mupper mlower mrates mtaped mlaid_24 mat_24 mtk_24 mtkAt_24 mtkNumber_24 mwaits_24 mlisted mdealtMany)), ((ma 32), .inl (E 2, 120, .inl mf32)), ((ma 36), .inl (E 0, 384, .inl mf36_24)), ((ma 37), .inl (E 0, 384, .inl mf37_24)), ((ma 43), .inl (E 0, 130, .inl mf43_24))]) [3, 4, 0, 1, 2] rfl
                have hD9 := hD.sub (ws' := [(mh, .inr (9, G9 ma mcode mtoday moffs mmany msumW msumA msumR msumWW msumWA msumAA msumWR msumAR mupper mlower mrates mtaped mlaid_24 mat_24 mtk_24 mtkAt_24 mtkNumber_24 mwaits_24 mlisted mdealtMany)), ((ma 32), .inl (E 2, 120, .inl mf32)), ((ma 36), .inl (E 0, 384, .inl mf36_24)), ((ma 37), .inl (E 0, 384, .inl mf37_24)), ((ma 43), .inl (E 0, 130, .inl mf43_24))]) [3, 4, 0, 1, 2] (by decide) rfl
                exact W.iret (v := mtkAt_24) hx hb hr (fun t ht hW => ⟨⟨mtkAt_24, (mf36_24, mf37_24, mf43_24, mat_24, mlaid_24, mtk_24, mtkAt_24, mtkNumber_24, mwaits_24), rfl, ⟨v2_24, (Or.inl (by (try dsimp only); omega))⟩, by rw [ht]; exact hP9, hD9⟩, hS.F ht⟩) hS.2.2 dX9_readRule_281
              ·
                have ic_15 : mtk_24.toInt < 70 := by first | exact (g_lt rfl t_70).mp c_15 | (have h := mt (g_le t_70 rfl).mpr c_15; omega)
                clear c_15
                refine lv_aload_n hx hb dX9_readRule_268 rfl (lv_at hl 2 rfl) ?_
                refine va_get (D := D) (ci := 9) (v := .int mtk_24) (C := RX9) (T := TX9) (N := 68) hx hb htb iX9 hown hK.1 hP 3 rfl rfl 40 (by decide) (htb _ k_998) (fun _ h9 => h9) rfl dX9_readRule_269 ?_
                refine lv_bipush (v := 30) hx hb dX9_readRule_272 (by decide) ?_
                refine lv_icmp_ne (tgt := 282) hx hb dX9_readRule_274 (by decide) (fun c_16 => ?_) (fun c_16 => ?_)
                ·
                  have ic_16 : mtk_24.toInt ≠ 30 := mt (g_eq rfl t_30).mpr c_16
                  clear c_16
                  refine lv_aload_n hx hb dX9_readRule_282 rfl (lv_at hl 2 rfl) ?_
                  refine va_get (D := D) (ci := 9) (v := .int mtk_24) (C := RX9) (T := TX9) (N := 68) hx hb htb iX9 hown hK.1 hP 3 rfl rfl 40 (by decide) (htb _ k_998) (fun _ h9 => h9) rfl dX9_readRule_283 ?_
                  refine callRS (rest := []) (As := [.int mtk_24]) hx hb hml hown htb hK (g_X9_tight l D E mtk_24 (by (try dsimp only); omega)) ok_X9_tight k_1384 k_1385 k_9 k_1386 ⟨(Nat.le_of_ble_eq_true rfl), (Nat.le_of_ble_eq_true rfl)⟩ ⟨(Nat.le_of_ble_eq_true rfl), (Nat.le_of_ble_eq_true rfl)⟩ hl.1 (Nat.le_of_ble_eq_true rfl) rfl rfl dX9_readRule_286 (hP.sub (ws' := ([] : va_W)) [] rfl) (fun r_17 hw_18 => ?_)
                  refine lv_iconst (v := 4) hx hb dX9_readRule_289 (by decide) ?_
                  refine lv_icmp_ne (tgt := 297) hx hb dX9_readRule_290 (by decide) (fun c_20 => ?_) (fun c_20 => ?_)
                  ·
                    have ic_20 : r_17.toInt ≠ 4 := mt (g_eq rfl t_4).mpr c_20
                    clear c_20
                    refine lv_iconst (v := 0) hx hb dX9_readRule_297 (by decide) ?_
                    refine lv_istore (lv' := [(4, .int 0), (3, .int L3_24), (2, .int L2_24), (0, .ref mh), (1, .int p0)]) hx hb dX9_readRule_298 hl (by decide) rfl (fun ls hl => ?_)
                    refine lv_aload_n hx hb dX9_readRule_300 rfl (lv_at hl 3 rfl) ?_
                    refine lv_iload hx hb dX9_readRule_301 (lv_at hl 0 rfl) ?_
                    refine lv_if_eq (tgt := 310) hx hb dX9_readRule_303 (by decide) (fun c_21 => ?_) (fun c_21 => absurd (by decide) c_21)
                    refine lv_aload_n hx hb dX9_readRule_310 rfl (lv_at hl 3 rfl) ?_
                    refine va_get (D := D) (ci := 9) (v := .int mtk_24) (C := RX9) (T := TX9) (N := 68) hx hb htb iX9 hown hK.1 hP 3 rfl rfl 40 (by decide) (htb _ k_998) (fun _ h9 => h9) rfl dX9_readRule_311 ?_
                    refine callRS (rest := [.ref mh]) (As := [.int mtk_24]) hx hb hml hown htb hK (g_X9_tight l D E mtk_24 (by (try dsimp only); omega)) ok_X9_tight k_1384 k_1385 k_9 k_1386 ⟨(Nat.le_of_ble_eq_true rfl), (Nat.le_of_ble_eq_true rfl)⟩ ⟨(Nat.le_of_ble_eq_true rfl), (Nat.le_of_ble_eq_true rfl)⟩ hl.1 (Nat.le_of_ble_eq_true rfl) rfl rfl dX9_readRule_314 (hP.sub (ws' := ([] : va_W)) [] rfl) (fun r_22 hw_23 => ?_)
                    have hPc := hP.sub (ws' := [(mh, .inr (9, G9 ma mcode mtoday moffs mmany msumW msumA msumR msumWW msumWA msumAA msumWR msumAR mupper mlower mrates mtaped mlaid_24 mat_24 mtk_24 mtkAt_24 mtkNumber_24 mwaits_24 mlisted mdealtMany)), ((ma 36), .inl (E 0, 384, .inl mf36_24)), ((ma 37), .inl (E 0, 384, .inl mf37_24)), ((ma 43), .inl (E 0, 130, .inl mf43_24))]) [3, 0, 1, 2] rfl
                    have hDc := hD.sub (ws' := [(mh, .inr (9, G9 ma mcode mtoday moffs mmany msumW msumA msumR msumWW msumWA msumAA msumWR msumAR mupper mlower mrates mtaped mlaid_24 mat_24 mtk_24 mtkAt_24 mtkNumber_24 mwaits_24 mlisted mdealtMany)), ((ma 36), .inl (E 0, 384, .inl mf36_24)), ((ma 37), .inl (E 0, 384, .inl mf37_24)), ((ma 43), .inl (E 0, 130, .inl mf43_24))]) [3, 0, 1, 2] (by decide) rfl
                    refine aft_v (runMV (rest := []) (As := [.int r_22]) hx hb hml hown htb hK (g_X9_done l D E mh ma mcode mtoday moffs mmany msumW msumA msumR msumWW msumWA msumAA msumWR msumAR mupper mlower mrates mtaped mlaid_24 mat_24 mtk_24 mtkAt_24 mtkNumber_24 mwaits_24 mlisted mdealtMany mf36_24 mf37_24 mf43_24 r_22 _ (by (try dsimp only); omega) (by (try dsimp only); omega) (PI_cast v1_24 (by omega))) ok_X9_done k_1380 k_1382 ks_58 k_9 k_1383 ⟨(Nat.le_of_ble_eq_true rfl), (Nat.le_of_ble_eq_true rfl)⟩ ⟨(Nat.le_of_ble_eq_true rfl), (Nat.le_of_ble_eq_true rfl)⟩ hl.1 (Nat.le_of_ble_eq_true rfl) rfl rfl dX9_readRule_317 hPc hDc rfl rfl 0 rfl) hP hD hS hA [3, 0, 1, 2] [4] (wr := [((ma 32), .inl (E 2, 120, .inl mf32))]) rfl rfl (by decide) (by decide) (fun u_27 H locs hw_26 hP hD hS => ?_)
                    clear hPc hDc
                    obtain ⟨w_28, w_29, w_30, w_31⟩ := u_27
                    try dsimp only at hw_26
                    have hP : va_P D vwCl [((ma 32), .inl (E 2, 120, .inl mf32)), (mh, .inr (9, G9 ma mcode mtoday moffs mmany msumW msumA msumR msumWW msumWA msumAA msumWR msumAR mupper mlower mrates mtaped w_30 mat_24 mtk_24 mtkAt_24 mtkNumber_24 w_31 mlisted mdealtMany)), ((ma 36), .inl (E 0, 384, .inl w_28)), ((ma 37), .inl (E 0, 384, .inl w_29)), ((ma 43), .inl (E 0, 130, .inl mf43_24))] H := hP
                    have hD := toW hP hD rfl
                    obtain ⟨hw_26_0, hw_26_1, hw_26_2, hw_26_3⟩ := hw_26
                    have low_32 : LOW mf36 w_28 := LOW_t v2_24 hw_26_1
                    refine lv_iload hx hb dX9_readRule_320 (lv_at hl 0 rfl) ?_
                    refine lv_if_eq (tgt := 355) hx hb dX9_readRule_322 (by decide) (fun c_33 => ?_) (fun c_33 => absurd (by decide) c_33)
                    refine lv_aload_n hx hb dX9_readRule_355 rfl (lv_at hl 3 rfl) ?_
                    refine va_get (D := D) (ci := 9) (v := .ref (ma 43)) (C := RX9) (T := TX9) (N := 68) hx hb htb iX9 hown hK.1 hP 1 rfl rfl 43 (by decide) (htb _ k_1001) (fun _ h9 => h9) rfl dX9_readRule_356 ?_
                    refine lv_aload_n hx hb dX9_readRule_359 rfl (lv_at hl 3 rfl) ?_
                    refine va_get (D := D) (ci := 9) (v := .int w_31) (C := RX9) (T := TX9) (N := 68) hx hb htb iX9 hown hK.1 hP 1 rfl rfl 44 (by decide) (htb _ k_1002) (fun _ h9 => h9) rfl dX9_readRule_360 ?_
                    refine lv_aload_n hx hb dX9_readRule_363 rfl (lv_at hl 3 rfl) ?_
                    refine va_get (D := D) (ci := 9) (v := .int mtk_24) (C := RX9) (T := TX9) (N := 68) hx hb htb iX9 hown hK.1 hP 1 rfl rfl 40 (by decide) (htb _ k_998) (fun _ h9 => h9) rfl dX9_readRule_364 ?_
                    refine va_iast hx hb hK.1 hP hD hS 4 0 rfl rfl (g_in rfl (by omega) (by omega)) dX9_readRule_367 (fun H locs hP hD hS => ?_)
                    have hP : va_P D vwCl [((ma 32), .inl (E 2, 120, .inl mf32)), (mh, .inr (9, G9 ma mcode mtoday moffs mmany msumW msumA msumR msumWW msumWA msumAA msumWR msumAR mupper mlower mrates mtaped w_30 mat_24 mtk_24 mtkAt_24 mtkNumber_24 w_31 mlisted mdealtMany)), ((ma 36), .inl (E 0, 384, .inl w_28)), ((ma 37), .inl (E 0, 384, .inl w_29)), ((ma 43), .inl (E 0, 130, .inl (upd mf43_24 (w_31 : Int32).toNatClampNeg mtk_24)))] H := hP
                    have hD := toW hP hD rfl
                    refine lv_aload_n hx hb dX9_readRule_368 rfl (lv_at hl 3 rfl) ?_
                    refine lv_dup hx hb dX9_readRule_369 rfl ?_
                    refine va_get (D := D) (ci := 9) (v := .int w_31) (C := RX9) (T := TX9) (N := 68) hx hb htb iX9 hown hK.1 hP 1 rfl rfl 44 (by decide) (htb _ k_1002) (fun _ h9 => h9) rfl dX9_readRule_370 ?_
                    refine lv_iconst (v := 1) hx hb dX9_readRule_373 (by decide) ?_
                    refine lv_iadd hx hb dX9_readRule_374 ?_
                    refine lv_topi (fun z_34 ez_34 => ?_)
                    have jz_34 : z_34.toInt = w_31.toInt + 1 := by rw [ez_34]; exact g_add rfl t_1 (by omega) (by omega)
                    refine va_put (D := D) (ci := 9) (v := .int z_34) (ty := .int) (C := RX9) (T := TX9) (N := 68) hx hb htb iX9 tyX9 tyX9_ok nmX9 hown hK.1 hP hD hS 1 rfl rfl 44 (by decide) (htb _ k_1002) (fun _ h9 => h9) rfl (by decide +kernel) rfl rfl (Nat.le_of_ble_eq_true rfl) dX9_readRule_375 (fun H locs hP hD hS => ?_)
                    have hP : va_P D vwCl [((ma 32), .inl (E 2, 120, .inl mf32)), (mh, .inr (9, G9 ma mcode mtoday moffs mmany msumW msumA msumR msumWW msumWA msumAA msumWR msumAR mupper mlower mrates mtaped w_30 mat_24 mtk_24 mtkAt_24 mtkNumber_24 z_34 mlisted mdealtMany)), ((ma 36), .inl (E 0, 384, .inl w_28)), ((ma 37), .inl (E 0, 384, .inl w_29)), ((ma 43), .inl (E 0, 130, .inl (upd mf43_24 (w_31 : Int32).toNatClampNeg mtk_24)))] H := hP
                    have hD := toW hP hD rfl
                    have pi_35 : PI w_28 (upd mf43_24 (w_31 : Int32).toNatClampNeg mtk_24) w_30 z_34 0 := PI_push hw_26_0 (by omega) jz_34 (by (try dsimp only); omega)
                    generalize (upd mf43_24 (w_31 : Int32).toNatClampNeg mtk_24) = g_36 at hP hD pi_35
                    refine lv_iconst (v := 1) hx hb dX9_readRule_378 (by decide) ?_
                    refine lv_istore_n (lv' := [(2, .int 1), (4, .int 0), (3, .int L3_24), (0, .ref mh), (1, .int p0)]) hx hb dX9_readRule_379 rfl hl (by decide) rfl (fun ls hl => ?_)
                    refine lv_aload_n hx hb dX9_readRule_380 rfl (lv_at hl 3 rfl) ?_
                    refine va_get (D := D) (ci := 9) (v := .int mtk_24) (C := RX9) (T := TX9) (N := 68) hx hb htb iX9 hown hK.1 hP 1 rfl rfl 40 (by decide) (htb _ k_998) (fun _ h9 => h9) rfl dX9_readRule_381 ?_
                    refine lv_bipush (v := 10) hx hb dX9_readRule_384 (by decide) ?_
                    refine lv_icmp_eq (tgt := 398) hx hb dX9_readRule_386 (by decide) (fun c_37 => ?_) (fun c_37 => ?_)
                    ·
                      have ic_37 : mtk_24.toInt = 10 := (g_eq rfl t_10).mp c_37
                      clear c_37
                      refine lv_iconst (v := 1) hx hb dX9_readRule_398 (by decide) ?_
                      refine lv_goto (tgt := 403) hx hb dX9_readRule_399 (by decide) ?_
                      refine lv_istore_n (lv' := [(3, .int 1), (2, .int 1), (4, .int 0), (0, .ref mh), (1, .int p0)]) hx hb dX9_readRule_403 rfl hl (by decide) rfl (fun ls hl => ?_)
                      refine lv_aload_n hx hb dX9_readRule_404 rfl (lv_at hl 3 rfl) ?_
                      refine lv_iload_n hx hb dX9_readRule_405 rfl (lv_at hl 4 rfl) ?_
                      have hPc := hP.sub (ws' := [(mh, .inr (9, G9 ma mcode mtoday moffs mmany msumW msumA msumR msumWW msumWA msumAA msumWR msumAR mupper mlower mrates mtaped w_30 mat_24 mtk_24 mtkAt_24 mtkNumber_24 z_34 mlisted mdealtMany)), ((ma 32), .inl (E 2, 120, .inl mf32))]) [1, 0] rfl
                      have hDc := hD.sub (ws' := [(mh, .inr (9, G9 ma mcode mtoday moffs mmany msumW msumA msumR msumWW msumWA msumAA msumWR msumAR mupper mlower mrates mtaped w_30 mat_24 mtk_24 mtkAt_24 mtkNumber_24 z_34 mlisted mdealtMany)), ((ma 32), .inl (E 2, 120, .inl mf32))]) [1, 0] (by decide) rfl
                      refine aft_v (runMV (rest := []) (As := [.int p0]) hx hb hml hown htb hK (g_X9_advance l D E mh ma mcode mtoday moffs mmany msumW msumA msumR msumWW msumWA msumAA msumWR msumAR mupper mlower mrates mtaped w_30 mat_24 mtk_24 mtkAt_24 mtkNumber_24 z_34 mlisted mdealtMany mf32 p0 _ (by (try dsimp only); omega) (by (try dsimp only); omega)) ok_X9_advance k_1338 k_1340 ks_55 k_9 k_1341 ⟨(Nat.le_of_ble_eq_true rfl), (Nat.le_of_ble_eq_true rfl)⟩ ⟨(Nat.le_of_ble_eq_true rfl), (Nat.le_of_ble_eq_true rfl)⟩ hl.1 (Nat.le_of_ble_eq_true rfl) rfl rfl dX9_readRule_406 hPc hDc rfl rfl 0 rfl) hP hD hS hA [1, 0] [2, 3, 4] (wr := [((ma 36), .inl (E 0, 384, .inl w_28)), ((ma 37), .inl (E 0, 384, .inl w_29)), ((ma 43), .inl (E 0, 130, .inl g_36))]) rfl rfl (by decide) (by decide) (fun u_40 H locs hw_39 hP hD hS => ?_)
                      clear hPc hDc
                      obtain ⟨w_41, w_42, w_43, w_44⟩ := u_40
                      try dsimp only at hw_39
                      have hP : va_P D vwCl [((ma 36), .inl (E 0, 384, .inl w_28)), ((ma 37), .inl (E 0, 384, .inl w_29)), ((ma 43), .inl (E 0, 130, .inl g_36)), (mh, .inr (9, G9 ma mcode mtoday moffs mmany msumW msumA msumR msumWW msumWA msumAA msumWR msumAR mupper mlower mrates mtaped w_30 w_41 w_42 w_43 w_44 z_34 mlisted mdealtMany)), ((ma 32), .inl (E 2, 120, .inl mf32))] H := hP
                      have hD := toW hP hD rfl
                      refine lv_goto (tgt := 24) hx hb dX9_readRule_409 (by decide) ?_
                      exact ih_9 1 w_41 w_42 w_43 w_44 z_34 g_36 1 w_30 w_28 w_29 _ _ _ (by have h0 := t_0; have h1 := t_1; (try dsimp only); omega) (by have h0 := t_0; have h1 := t_1; (try dsimp only); omega) (PI_cast pi_35 (by have h0 := t_1; (try dsimp only); omega)) low_32 hP hD hS (lv_sub hl [0, 1, 3, 4] rfl)
                    ·
                      have ic_37 : mtk_24.toInt ≠ 10 := mt (g_eq rfl t_10).mpr c_37
                      clear c_37
                      refine lv_aload_n hx hb dX9_readRule_389 rfl (lv_at hl 3 rfl) ?_
                      refine va_get (D := D) (ci := 9) (v := .int mtk_24) (C := RX9) (T := TX9) (N := 68) hx hb htb iX9 hown hK.1 hP 1 rfl rfl 40 (by decide) (htb _ k_998) (fun _ h9 => h9) rfl dX9_readRule_390 ?_
                      refine lv_bipush (v := 20) hx hb dX9_readRule_393 (by decide) ?_
                      refine lv_icmp_ne (tgt := 402) hx hb dX9_readRule_395 (by decide) (fun c_45 => ?_) (fun c_45 => ?_)
                      ·
                        have ic_45 : mtk_24.toInt ≠ 20 := mt (g_eq rfl t_20).mpr c_45
                        clear c_45
                        refine lv_iconst (v := 0) hx hb dX9_readRule_402 (by decide) ?_
                        refine lv_istore_n (lv' := [(3, .int 0), (2, .int 1), (4, .int 0), (0, .ref mh), (1, .int p0)]) hx hb dX9_readRule_403 rfl hl (by decide) rfl (fun ls hl => ?_)
                        refine lv_aload_n hx hb dX9_readRule_404 rfl (lv_at hl 3 rfl) ?_
                        refine lv_iload_n hx hb dX9_readRule_405 rfl (lv_at hl 4 rfl) ?_
                        have hPc := hP.sub (ws' := [(mh, .inr (9, G9 ma mcode mtoday moffs mmany msumW msumA msumR msumWW msumWA msumAA msumWR msumAR mupper mlower mrates mtaped w_30 mat_24 mtk_24 mtkAt_24 mtkNumber_24 z_34 mlisted mdealtMany)), ((ma 32), .inl (E 2, 120, .inl mf32))]) [1, 0] rfl
                        have hDc := hD.sub (ws' := [(mh, .inr (9, G9 ma mcode mtoday moffs mmany msumW msumA msumR msumWW msumWA msumAA msumWR msumAR mupper mlower mrates mtaped w_30 mat_24 mtk_24 mtkAt_24 mtkNumber_24 z_34 mlisted mdealtMany)), ((ma 32), .inl (E 2, 120, .inl mf32))]) [1, 0] (by decide) rfl
                        refine aft_v (runMV (rest := []) (As := [.int p0]) hx hb hml hown htb hK (g_X9_advance l D E mh ma mcode mtoday moffs mmany msumW msumA msumR msumWW msumWA msumAA msumWR msumAR mupper mlower mrates mtaped w_30 mat_24 mtk_24 mtkAt_24 mtkNumber_24 z_34 mlisted mdealtMany mf32 p0 _ (by (try dsimp only); omega) (by (try dsimp only); omega)) ok_X9_advance k_1338 k_1340 ks_55 k_9 k_1341 ⟨(Nat.le_of_ble_eq_true rfl), (Nat.le_of_ble_eq_true rfl)⟩ ⟨(Nat.le_of_ble_eq_true rfl), (Nat.le_of_ble_eq_true rfl)⟩ hl.1 (Nat.le_of_ble_eq_true rfl) rfl rfl dX9_readRule_406 hPc hDc rfl rfl 0 rfl) hP hD hS hA [1, 0] [2, 3, 4] (wr := [((ma 36), .inl (E 0, 384, .inl w_28)), ((ma 37), .inl (E 0, 384, .inl w_29)), ((ma 43), .inl (E 0, 130, .inl g_36))]) rfl rfl (by decide) (by decide) (fun u_48 H locs hw_47 hP hD hS => ?_)
                        clear hPc hDc
                        obtain ⟨w_49, w_50, w_51, w_52⟩ := u_48
                        try dsimp only at hw_47
                        have hP : va_P D vwCl [((ma 36), .inl (E 0, 384, .inl w_28)), ((ma 37), .inl (E 0, 384, .inl w_29)), ((ma 43), .inl (E 0, 130, .inl g_36)), (mh, .inr (9, G9 ma mcode mtoday moffs mmany msumW msumA msumR msumWW msumWA msumAA msumWR msumAR mupper mlower mrates mtaped w_30 w_49 w_50 w_51 w_52 z_34 mlisted mdealtMany)), ((ma 32), .inl (E 2, 120, .inl mf32))] H := hP
                        have hD := toW hP hD rfl
                        refine lv_goto (tgt := 24) hx hb dX9_readRule_409 (by decide) ?_
                        exact ih_9 0 w_49 w_50 w_51 w_52 z_34 g_36 1 w_30 w_28 w_29 _ _ _ (by have h0 := t_0; have h1 := t_1; (try dsimp only); omega) (by have h0 := t_0; have h1 := t_1; (try dsimp only); omega) (PI_cast pi_35 (by have h0 := t_0; have h1 := t_1; (try dsimp only); omega)) low_32 hP hD hS (lv_sub hl [0, 1, 3, 4] rfl)
                      ·
                        have ic_45 : mtk_24.toInt = 20 := (g_eq rfl t_20).mp c_45
                        clear c_45
                        refine lv_iconst (v := 1) hx hb dX9_readRule_398 (by decide) ?_
                        refine lv_goto (tgt := 403) hx hb dX9_readRule_399 (by decide) ?_
                        refine lv_istore_n (lv' := [(3, .int 1), (2, .int 1), (4, .int 0), (0, .ref mh), (1, .int p0)]) hx hb dX9_readRule_403 rfl hl (by decide) rfl (fun ls hl => ?_)
                        refine lv_aload_n hx hb dX9_readRule_404 rfl (lv_at hl 3 rfl) ?_
                        refine lv_iload_n hx hb dX9_readRule_405 rfl (lv_at hl 4 rfl) ?_
                        have hPc := hP.sub (ws' := [(mh, .inr (9, G9 ma mcode mtoday moffs mmany msumW msumA msumR msumWW msumWA msumAA msumWR msumAR mupper mlower mrates mtaped w_30 mat_24 mtk_24 mtkAt_24 mtkNumber_24 z_34 mlisted mdealtMany)), ((ma 32), .inl (E 2, 120, .inl mf32))]) [1, 0] rfl
                        have hDc := hD.sub (ws' := [(mh, .inr (9, G9 ma mcode mtoday moffs mmany msumW msumA msumR msumWW msumWA msumAA msumWR msumAR mupper mlower mrates mtaped w_30 mat_24 mtk_24 mtkAt_24 mtkNumber_24 z_34 mlisted mdealtMany)), ((ma 32), .inl (E 2, 120, .inl mf32))]) [1, 0] (by decide) rfl
                        refine aft_v (runMV (rest := []) (As := [.int p0]) hx hb hml hown htb hK (g_X9_advance l D E mh ma mcode mtoday moffs mmany msumW msumA msumR msumWW msumWA msumAA msumWR msumAR mupper mlower mrates mtaped w_30 mat_24 mtk_24 mtkAt_24 mtkNumber_24 z_34 mlisted mdealtMany mf32 p0 _ (by (try dsimp only); omega) (by (try dsimp only); omega)) ok_X9_advance k_1338 k_1340 ks_55 k_9 k_1341 ⟨(Nat.le_of_ble_eq_true rfl), (Nat.le_of_ble_eq_true rfl)⟩ ⟨(Nat.le_of_ble_eq_true rfl), (Nat.le_of_ble_eq_true rfl)⟩ hl.1 (Nat.le_of_ble_eq_true rfl) rfl rfl dX9_readRule_406 hPc hDc rfl rfl 0 rfl) hP hD hS hA [1, 0] [2, 3, 4] (wr := [((ma 36), .inl (E 0, 384, .inl w_28)), ((ma 37), .inl (E 0, 384, .inl w_29)), ((ma 43), .inl (E 0, 130, .inl g_36))]) rfl rfl (by decide) (by decide) (fun u_55 H locs hw_54 hP hD hS => ?_)
                        clear hPc hDc
                        obtain ⟨w_56, w_57, w_58, w_59⟩ := u_55
                        try dsimp only at hw_54
                        have hP : va_P D vwCl [((ma 36), .inl (E 0, 384, .inl w_28)), ((ma 37), .inl (E 0, 384, .inl w_29)), ((ma 43), .inl (E 0, 130, .inl g_36)), (mh, .inr (9, G9 ma mcode mtoday moffs mmany msumW msumA msumR msumWW msumWA msumAA msumWR msumAR mupper mlower mrates mtaped w_30 w_56 w_57 w_58 w_59 z_34 mlisted mdealtMany)), ((ma 32), .inl (E 2, 120, .inl mf32))] H := hP
                        have hD := toW hP hD rfl
                        refine lv_goto (tgt := 24) hx hb dX9_readRule_409 (by decide) ?_
                        exact ih_9 1 w_56 w_57 w_58 w_59 z_34 g_36 1 w_30 w_28 w_29 _ _ _ (by have h0 := t_0; have h1 := t_1; (try dsimp only); omega) (by have h0 := t_0; have h1 := t_1; (try dsimp only); omega) (PI_cast pi_35 (by have h0 := t_1; (try dsimp only); omega)) low_32 hP hD hS (lv_sub hl [0, 1, 3, 4] rfl)
                  ·
                    have ic_20 : r_17.toInt = 4 := (g_eq rfl t_4).mp c_20
                    clear c_20
                    refine lv_iconst (v := 1) hx hb dX9_readRule_293 (by decide) ?_
                    refine lv_goto (tgt := 298) hx hb dX9_readRule_294 (by decide) ?_
                    refine lv_istore (lv' := [(4, .int 1), (3, .int L3_24), (2, .int L2_24), (0, .ref mh), (1, .int p0)]) hx hb dX9_readRule_298 hl (by decide) rfl (fun ls hl => ?_)
                    refine lv_aload_n hx hb dX9_readRule_300 rfl (lv_at hl 3 rfl) ?_
                    refine lv_iload hx hb dX9_readRule_301 (lv_at hl 0 rfl) ?_
                    refine lv_if_eq (tgt := 310) hx hb dX9_readRule_303 (by decide) (fun c_60 => absurd c_60 (by decide)) (fun c_60 => ?_)
                    refine lv_iconst (v := 5) hx hb dX9_readRule_306 (by decide) ?_
                    refine lv_goto (tgt := 317) hx hb dX9_readRule_307 (by decide) ?_
                    have hPc := hP.sub (ws' := [(mh, .inr (9, G9 ma mcode mtoday moffs mmany msumW msumA msumR msumWW msumWA msumAA msumWR msumAR mupper mlower mrates mtaped mlaid_24 mat_24 mtk_24 mtkAt_24 mtkNumber_24 mwaits_24 mlisted mdealtMany)), ((ma 36), .inl (E 0, 384, .inl mf36_24)), ((ma 37), .inl (E 0, 384, .inl mf37_24)), ((ma 43), .inl (E 0, 130, .inl mf43_24))]) [3, 0, 1, 2] rfl
                    have hDc := hD.sub (ws' := [(mh, .inr (9, G9 ma mcode mtoday moffs mmany msumW msumA msumR msumWW msumWA msumAA msumWR msumAR mupper mlower mrates mtaped mlaid_24 mat_24 mtk_24 mtkAt_24 mtkNumber_24 mwaits_24 mlisted mdealtMany)), ((ma 36), .inl (E 0, 384, .inl mf36_24)), ((ma 37), .inl (E 0, 384, .inl mf37_24)), ((ma 43), .inl (E 0, 130, .inl mf43_24))]) [3, 0, 1, 2] (by decide) rfl
                    refine aft_v (runMV (rest := []) (As := [.int 5]) hx hb hml hown htb hK (g_X9_done l D E mh ma mcode mtoday moffs mmany msumW msumA msumR msumWW msumWA msumAA msumWR msumAR mupper mlower mrates mtaped mlaid_24 mat_24 mtk_24 mtkAt_24 mtkNumber_24 mwaits_24 mlisted mdealtMany mf36_24 mf37_24 mf43_24 5 _ (by (try dsimp only); omega) (by have h0 := t_5; (try dsimp only); omega) (PI_cast v1_24 (by omega))) ok_X9_done k_1380 k_1382 ks_58 k_9 k_1383 ⟨(Nat.le_of_ble_eq_true rfl), (Nat.le_of_ble_eq_true rfl)⟩ ⟨(Nat.le_of_ble_eq_true rfl), (Nat.le_of_ble_eq_true rfl)⟩ hl.1 (Nat.le_of_ble_eq_true rfl) rfl rfl dX9_readRule_317 hPc hDc rfl rfl 0 rfl) hP hD hS hA [3, 0, 1, 2] [4] (wr := [((ma 32), .inl (E 2, 120, .inl mf32))]) rfl rfl (by decide) (by decide) (fun u_63 H locs hw_62 hP hD hS => ?_)
                    clear hPc hDc
                    obtain ⟨w_64, w_65, w_66, w_67⟩ := u_63
                    try dsimp only at hw_62
                    have hP : va_P D vwCl [((ma 32), .inl (E 2, 120, .inl mf32)), (mh, .inr (9, G9 ma mcode mtoday moffs mmany msumW msumA msumR msumWW msumWA msumAA msumWR msumAR mupper mlower mrates mtaped w_66 mat_24 mtk_24 mtkAt_24 mtkNumber_24 w_67 mlisted mdealtMany)), ((ma 36), .inl (E 0, 384, .inl w_64)), ((ma 37), .inl (E 0, 384, .inl w_65)), ((ma 43), .inl (E 0, 130, .inl mf43_24))] H := hP
                    have hD := toW hP hD rfl
                    obtain ⟨hw_62_0, hw_62_1, hw_62_2, hw_62_3⟩ := hw_62
                    try simp only [t_5] at hw_62_0
                    try simp only [t_5] at hw_62_1
                    try simp only [t_5] at hw_62_2
                    try simp only [t_5] at hw_62_3
                    have low_68 : LOW mf36 w_64 := LOW_t v2_24 hw_62_1
                    refine lv_iload hx hb dX9_readRule_320 (lv_at hl 0 rfl) ?_
                    refine lv_if_eq (tgt := 355) hx hb dX9_readRule_322 (by decide) (fun c_69 => absurd c_69 (by decide)) (fun c_69 => ?_)
                    refine lv_aload_n hx hb dX9_readRule_325 rfl (lv_at hl 3 rfl) ?_
                    refine va_get (D := D) (ci := 9) (v := .int w_67) (C := RX9) (T := TX9) (N := 68) hx hb htb iX9 hown hK.1 hP 1 rfl rfl 44 (by decide) (htb _ k_1002) (fun _ h9 => h9) rfl dX9_readRule_326 ?_
                    refine lv_if_le (tgt := 355) hx hb dX9_readRule_329 (by decide) (fun c_70 => ?_) (fun c_70 => ?_)
                    ·
                      have ic_70 : w_67.toInt ≤ 0 := by first | exact (g_le rfl t_0).mp c_70 | (have h := mt (g_lt t_0 rfl).mpr c_70; omega)
                      clear c_70
                      refine lv_aload_n hx hb dX9_readRule_355 rfl (lv_at hl 3 rfl) ?_
                      refine va_get (D := D) (ci := 9) (v := .ref (ma 43)) (C := RX9) (T := TX9) (N := 68) hx hb htb iX9 hown hK.1 hP 1 rfl rfl 43 (by decide) (htb _ k_1001) (fun _ h9 => h9) rfl dX9_readRule_356 ?_
                      refine lv_aload_n hx hb dX9_readRule_359 rfl (lv_at hl 3 rfl) ?_
                      refine va_get (D := D) (ci := 9) (v := .int w_67) (C := RX9) (T := TX9) (N := 68) hx hb htb iX9 hown hK.1 hP 1 rfl rfl 44 (by decide) (htb _ k_1002) (fun _ h9 => h9) rfl dX9_readRule_360 ?_
                      refine lv_aload_n hx hb dX9_readRule_363 rfl (lv_at hl 3 rfl) ?_
                      refine va_get (D := D) (ci := 9) (v := .int mtk_24) (C := RX9) (T := TX9) (N := 68) hx hb htb iX9 hown hK.1 hP 1 rfl rfl 40 (by decide) (htb _ k_998) (fun _ h9 => h9) rfl dX9_readRule_364 ?_
                      refine va_iast hx hb hK.1 hP hD hS 4 0 rfl rfl (g_in rfl (by omega) (by omega)) dX9_readRule_367 (fun H locs hP hD hS => ?_)
                      have hP : va_P D vwCl [((ma 32), .inl (E 2, 120, .inl mf32)), (mh, .inr (9, G9 ma mcode mtoday moffs mmany msumW msumA msumR msumWW msumWA msumAA msumWR msumAR mupper mlower mrates mtaped w_66 mat_24 mtk_24 mtkAt_24 mtkNumber_24 w_67 mlisted mdealtMany)), ((ma 36), .inl (E 0, 384, .inl w_64)), ((ma 37), .inl (E 0, 384, .inl w_65)), ((ma 43), .inl (E 0, 130, .inl (upd mf43_24 (w_67 : Int32).toNatClampNeg mtk_24)))] H := hP
                      have hD := toW hP hD rfl
                      refine lv_aload_n hx hb dX9_readRule_368 rfl (lv_at hl 3 rfl) ?_
                      refine lv_dup hx hb dX9_readRule_369 rfl ?_
                      refine va_get (D := D) (ci := 9) (v := .int w_67) (C := RX9) (T := TX9) (N := 68) hx hb htb iX9 hown hK.1 hP 1 rfl rfl 44 (by decide) (htb _ k_1002) (fun _ h9 => h9) rfl dX9_readRule_370 ?_
                      refine lv_iconst (v := 1) hx hb dX9_readRule_373 (by decide) ?_
                      refine lv_iadd hx hb dX9_readRule_374 ?_
                      refine lv_topi (fun z_71 ez_71 => ?_)
                      have jz_71 : z_71.toInt = w_67.toInt + 1 := by rw [ez_71]; exact g_add rfl t_1 (by omega) (by omega)
                      refine va_put (D := D) (ci := 9) (v := .int z_71) (ty := .int) (C := RX9) (T := TX9) (N := 68) hx hb htb iX9 tyX9 tyX9_ok nmX9 hown hK.1 hP hD hS 1 rfl rfl 44 (by decide) (htb _ k_1002) (fun _ h9 => h9) rfl (by decide +kernel) rfl rfl (Nat.le_of_ble_eq_true rfl) dX9_readRule_375 (fun H locs hP hD hS => ?_)
                      have hP : va_P D vwCl [((ma 32), .inl (E 2, 120, .inl mf32)), (mh, .inr (9, G9 ma mcode mtoday moffs mmany msumW msumA msumR msumWW msumWA msumAA msumWR msumAR mupper mlower mrates mtaped w_66 mat_24 mtk_24 mtkAt_24 mtkNumber_24 z_71 mlisted mdealtMany)), ((ma 36), .inl (E 0, 384, .inl w_64)), ((ma 37), .inl (E 0, 384, .inl w_65)), ((ma 43), .inl (E 0, 130, .inl (upd mf43_24 (w_67 : Int32).toNatClampNeg mtk_24)))] H := hP
                      have hD := toW hP hD rfl
                      have pi_72 : PI w_64 (upd mf43_24 (w_67 : Int32).toNatClampNeg mtk_24) w_66 z_71 0 := PI_push hw_62_0 (by omega) jz_71 (by (try dsimp only); omega)
                      generalize (upd mf43_24 (w_67 : Int32).toNatClampNeg mtk_24) = g_73 at hP hD pi_72
                      refine lv_iconst (v := 1) hx hb dX9_readRule_378 (by decide) ?_
                      refine lv_istore_n (lv' := [(2, .int 1), (4, .int 1), (3, .int L3_24), (0, .ref mh), (1, .int p0)]) hx hb dX9_readRule_379 rfl hl (by decide) rfl (fun ls hl => ?_)
                      refine lv_aload_n hx hb dX9_readRule_380 rfl (lv_at hl 3 rfl) ?_
                      refine va_get (D := D) (ci := 9) (v := .int mtk_24) (C := RX9) (T := TX9) (N := 68) hx hb htb iX9 hown hK.1 hP 1 rfl rfl 40 (by decide) (htb _ k_998) (fun _ h9 => h9) rfl dX9_readRule_381 ?_
                      refine lv_bipush (v := 10) hx hb dX9_readRule_384 (by decide) ?_
                      refine lv_icmp_eq (tgt := 398) hx hb dX9_readRule_386 (by decide) (fun c_74 => ?_) (fun c_74 => ?_)
                      ·
                        have ic_74 : mtk_24.toInt = 10 := (g_eq rfl t_10).mp c_74
                        clear c_74
                        refine lv_iconst (v := 1) hx hb dX9_readRule_398 (by decide) ?_
                        refine lv_goto (tgt := 403) hx hb dX9_readRule_399 (by decide) ?_
                        refine lv_istore_n (lv' := [(3, .int 1), (2, .int 1), (4, .int 1), (0, .ref mh), (1, .int p0)]) hx hb dX9_readRule_403 rfl hl (by decide) rfl (fun ls hl => ?_)
                        refine lv_aload_n hx hb dX9_readRule_404 rfl (lv_at hl 3 rfl) ?_
                        refine lv_iload_n hx hb dX9_readRule_405 rfl (lv_at hl 4 rfl) ?_
                        have hPc := hP.sub (ws' := [(mh, .inr (9, G9 ma mcode mtoday moffs mmany msumW msumA msumR msumWW msumWA msumAA msumWR msumAR mupper mlower mrates mtaped w_66 mat_24 mtk_24 mtkAt_24 mtkNumber_24 z_71 mlisted mdealtMany)), ((ma 32), .inl (E 2, 120, .inl mf32))]) [1, 0] rfl
                        have hDc := hD.sub (ws' := [(mh, .inr (9, G9 ma mcode mtoday moffs mmany msumW msumA msumR msumWW msumWA msumAA msumWR msumAR mupper mlower mrates mtaped w_66 mat_24 mtk_24 mtkAt_24 mtkNumber_24 z_71 mlisted mdealtMany)), ((ma 32), .inl (E 2, 120, .inl mf32))]) [1, 0] (by decide) rfl
                        refine aft_v (runMV (rest := []) (As := [.int p0]) hx hb hml hown htb hK (g_X9_advance l D E mh ma mcode mtoday moffs mmany msumW msumA msumR msumWW msumWA msumAA msumWR msumAR mupper mlower mrates mtaped w_66 mat_24 mtk_24 mtkAt_24 mtkNumber_24 z_71 mlisted mdealtMany mf32 p0 _ (by (try dsimp only); omega) (by (try dsimp only); omega)) ok_X9_advance k_1338 k_1340 ks_55 k_9 k_1341 ⟨(Nat.le_of_ble_eq_true rfl), (Nat.le_of_ble_eq_true rfl)⟩ ⟨(Nat.le_of_ble_eq_true rfl), (Nat.le_of_ble_eq_true rfl)⟩ hl.1 (Nat.le_of_ble_eq_true rfl) rfl rfl dX9_readRule_406 hPc hDc rfl rfl 0 rfl) hP hD hS hA [1, 0] [2, 3, 4] (wr := [((ma 36), .inl (E 0, 384, .inl w_64)), ((ma 37), .inl (E 0, 384, .inl w_65)), ((ma 43), .inl (E 0, 130, .inl g_73))]) rfl rfl (by decide) (by decide) (fun u_77 H locs hw_76 hP hD hS => ?_)
                        clear hPc hDc
                        obtain ⟨w_78, w_79, w_80, w_81⟩ := u_77
                        try dsimp only at hw_76
                        have hP : va_P D vwCl [((ma 36), .inl (E 0, 384, .inl w_64)), ((ma 37), .inl (E 0, 384, .inl w_65)), ((ma 43), .inl (E 0, 130, .inl g_73)), (mh, .inr (9, G9 ma mcode mtoday moffs mmany msumW msumA msumR msumWW msumWA msumAA msumWR msumAR mupper mlower mrates mtaped w_66 w_78 w_79 w_80 w_81 z_71 mlisted mdealtMany)), ((ma 32), .inl (E 2, 120, .inl mf32))] H := hP
                        have hD := toW hP hD rfl
                        refine lv_goto (tgt := 24) hx hb dX9_readRule_409 (by decide) ?_
                        exact ih_9 1 w_78 w_79 w_80 w_81 z_71 g_73 1 w_66 w_64 w_65 _ _ _ (by have h0 := t_1; (try dsimp only); omega) (by have h0 := t_1; (try dsimp only); omega) (PI_cast pi_72 (by have h0 := t_1; (try dsimp only); omega)) low_68 hP hD hS (lv_sub hl [0, 1, 3, 4] rfl)
                      ·
                        have ic_74 : mtk_24.toInt ≠ 10 := mt (g_eq rfl t_10).mpr c_74
                        clear c_74
                        refine lv_aload_n hx hb dX9_readRule_389 rfl (lv_at hl 3 rfl) ?_
                        refine va_get (D := D) (ci := 9) (v := .int mtk_24) (C := RX9) (T := TX9) (N := 68) hx hb htb iX9 hown hK.1 hP 1 rfl rfl 40 (by decide) (htb _ k_998) (fun _ h9 => h9) rfl dX9_readRule_390 ?_
                        refine lv_bipush (v := 20) hx hb dX9_readRule_393 (by decide) ?_
                        refine lv_icmp_ne (tgt := 402) hx hb dX9_readRule_395 (by decide) (fun c_82 => ?_) (fun c_82 => ?_)
                        ·
                          have ic_82 : mtk_24.toInt ≠ 20 := mt (g_eq rfl t_20).mpr c_82
                          clear c_82
                          refine lv_iconst (v := 0) hx hb dX9_readRule_402 (by decide) ?_
                          refine lv_istore_n (lv' := [(3, .int 0), (2, .int 1), (4, .int 1), (0, .ref mh), (1, .int p0)]) hx hb dX9_readRule_403 rfl hl (by decide) rfl (fun ls hl => ?_)
                          refine lv_aload_n hx hb dX9_readRule_404 rfl (lv_at hl 3 rfl) ?_
                          refine lv_iload_n hx hb dX9_readRule_405 rfl (lv_at hl 4 rfl) ?_
                          have hPc := hP.sub (ws' := [(mh, .inr (9, G9 ma mcode mtoday moffs mmany msumW msumA msumR msumWW msumWA msumAA msumWR msumAR mupper mlower mrates mtaped w_66 mat_24 mtk_24 mtkAt_24 mtkNumber_24 z_71 mlisted mdealtMany)), ((ma 32), .inl (E 2, 120, .inl mf32))]) [1, 0] rfl
                          have hDc := hD.sub (ws' := [(mh, .inr (9, G9 ma mcode mtoday moffs mmany msumW msumA msumR msumWW msumWA msumAA msumWR msumAR mupper mlower mrates mtaped w_66 mat_24 mtk_24 mtkAt_24 mtkNumber_24 z_71 mlisted mdealtMany)), ((ma 32), .inl (E 2, 120, .inl mf32))]) [1, 0] (by decide) rfl
                          refine aft_v (runMV (rest := []) (As := [.int p0]) hx hb hml hown htb hK (g_X9_advance l D E mh ma mcode mtoday moffs mmany msumW msumA msumR msumWW msumWA msumAA msumWR msumAR mupper mlower mrates mtaped w_66 mat_24 mtk_24 mtkAt_24 mtkNumber_24 z_71 mlisted mdealtMany mf32 p0 _ (by (try dsimp only); omega) (by (try dsimp only); omega)) ok_X9_advance k_1338 k_1340 ks_55 k_9 k_1341 ⟨(Nat.le_of_ble_eq_true rfl), (Nat.le_of_ble_eq_true rfl)⟩ ⟨(Nat.le_of_ble_eq_true rfl), (Nat.le_of_ble_eq_true rfl)⟩ hl.1 (Nat.le_of_ble_eq_true rfl) rfl rfl dX9_readRule_406 hPc hDc rfl rfl 0 rfl) hP hD hS hA [1, 0] [2, 3, 4] (wr := [((ma 36), .inl (E 0, 384, .inl w_64)), ((ma 37), .inl (E 0, 384, .inl w_65)), ((ma 43), .inl (E 0, 130, .inl g_73))]) rfl rfl (by decide) (by decide) (fun u_85 H locs hw_84 hP hD hS => ?_)
                          clear hPc hDc
                          obtain ⟨w_86, w_87, w_88, w_89⟩ := u_85
                          try dsimp only at hw_84
                          have hP : va_P D vwCl [((ma 36), .inl (E 0, 384, .inl w_64)), ((ma 37), .inl (E 0, 384, .inl w_65)), ((ma 43), .inl (E 0, 130, .inl g_73)), (mh, .inr (9, G9 ma mcode mtoday moffs mmany msumW msumA msumR msumWW msumWA msumAA msumWR msumAR mupper mlower mrates mtaped w_66 w_86 w_87 w_88 w_89 z_71 mlisted mdealtMany)), ((ma 32), .inl (E 2, 120, .inl mf32))] H := hP
                          have hD := toW hP hD rfl
                          refine lv_goto (tgt := 24) hx hb dX9_readRule_409 (by decide) ?_
                          exact ih_9 0 w_86 w_87 w_88 w_89 z_71 g_73 1 w_66 w_64 w_65 _ _ _ (by have h0 := t_0; have h1 := t_1; (try dsimp only); omega) (by have h0 := t_0; have h1 := t_1; (try dsimp only); omega) (PI_cast pi_72 (by have h0 := t_0; have h1 := t_1; (try dsimp only); omega)) low_68 hP hD hS (lv_sub hl [0, 1, 3, 4] rfl)
                        ·
                          have ic_82 : mtk_24.toInt = 20 := (g_eq rfl t_20).mp c_82
                          clear c_82
                          refine lv_iconst (v := 1) hx hb dX9_readRule_398 (by decide) ?_
                          refine lv_goto (tgt := 403) hx hb dX9_readRule_399 (by decide) ?_
                          refine lv_istore_n (lv' := [(3, .int 1), (2, .int 1), (4, .int 1), (0, .ref mh), (1, .int p0)]) hx hb dX9_readRule_403 rfl hl (by decide) rfl (fun ls hl => ?_)
                          refine lv_aload_n hx hb dX9_readRule_404 rfl (lv_at hl 3 rfl) ?_
                          refine lv_iload_n hx hb dX9_readRule_405 rfl (lv_at hl 4 rfl) ?_
                          have hPc := hP.sub (ws' := [(mh, .inr (9, G9 ma mcode mtoday moffs mmany msumW msumA msumR msumWW msumWA msumAA msumWR msumAR mupper mlower mrates mtaped w_66 mat_24 mtk_24 mtkAt_24 mtkNumber_24 z_71 mlisted mdealtMany)), ((ma 32), .inl (E 2, 120, .inl mf32))]) [1, 0] rfl
                          have hDc := hD.sub (ws' := [(mh, .inr (9, G9 ma mcode mtoday moffs mmany msumW msumA msumR msumWW msumWA msumAA msumWR msumAR mupper mlower mrates mtaped w_66 mat_24 mtk_24 mtkAt_24 mtkNumber_24 z_71 mlisted mdealtMany)), ((ma 32), .inl (E 2, 120, .inl mf32))]) [1, 0] (by decide) rfl
                          refine aft_v (runMV (rest := []) (As := [.int p0]) hx hb hml hown htb hK (g_X9_advance l D E mh ma mcode mtoday moffs mmany msumW msumA msumR msumWW msumWA msumAA msumWR msumAR mupper mlower mrates mtaped w_66 mat_24 mtk_24 mtkAt_24 mtkNumber_24 z_71 mlisted mdealtMany mf32 p0 _ (by (try dsimp only); omega) (by (try dsimp only); omega)) ok_X9_advance k_1338 k_1340 ks_55 k_9 k_1341 ⟨(Nat.le_of_ble_eq_true rfl), (Nat.le_of_ble_eq_true rfl)⟩ ⟨(Nat.le_of_ble_eq_true rfl), (Nat.le_of_ble_eq_true rfl)⟩ hl.1 (Nat.le_of_ble_eq_true rfl) rfl rfl dX9_readRule_406 hPc hDc rfl rfl 0 rfl) hP hD hS hA [1, 0] [2, 3, 4] (wr := [((ma 36), .inl (E 0, 384, .inl w_64)), ((ma 37), .inl (E 0, 384, .inl w_65)), ((ma 43), .inl (E 0, 130, .inl g_73))]) rfl rfl (by decide) (by decide) (fun u_92 H locs hw_91 hP hD hS => ?_)
                          clear hPc hDc
                          obtain ⟨w_93, w_94, w_95, w_96⟩ := u_92
                          try dsimp only at hw_91
                          have hP : va_P D vwCl [((ma 36), .inl (E 0, 384, .inl w_64)), ((ma 37), .inl (E 0, 384, .inl w_65)), ((ma 43), .inl (E 0, 130, .inl g_73)), (mh, .inr (9, G9 ma mcode mtoday moffs mmany msumW msumA msumR msumWW msumWA msumAA msumWR msumAR mupper mlower mrates mtaped w_66 w_93 w_94 w_95 w_96 z_71 mlisted mdealtMany)), ((ma 32), .inl (E 2, 120, .inl mf32))] H := hP
                          have hD := toW hP hD rfl
                          refine lv_goto (tgt := 24) hx hb dX9_readRule_409 (by decide) ?_
                          exact ih_9 1 w_93 w_94 w_95 w_96 z_71 g_73 1 w_66 w_64 w_65 _ _ _ (by have h0 := t_1; (try dsimp only); omega) (by have h0 := t_1; (try dsimp only); omega) (PI_cast pi_72 (by have h0 := t_1; (try dsimp only); omega)) low_68 hP hD hS (lv_sub hl [0, 1, 3, 4] rfl)
                    ·
                      have ic_70 : 0 < w_67.toInt := by first | exact (g_lt t_0 rfl).mp c_70 | (have h := mt (g_le rfl t_0).mpr c_70; omega)
                      clear c_70
                      refine lv_aload_n hx hb dX9_readRule_332 rfl (lv_at hl 3 rfl) ?_
                      refine va_get (D := D) (ci := 9) (v := .ref (ma 43)) (C := RX9) (T := TX9) (N := 68) hx hb htb iX9 hown hK.1 hP 1 rfl rfl 43 (by decide) (htb _ k_1001) (fun _ h9 => h9) rfl dX9_readRule_333 ?_
                      refine lv_aload_n hx hb dX9_readRule_336 rfl (lv_at hl 3 rfl) ?_
                      refine va_get (D := D) (ci := 9) (v := .int w_67) (C := RX9) (T := TX9) (N := 68) hx hb htb iX9 hown hK.1 hP 1 rfl rfl 44 (by decide) (htb _ k_1002) (fun _ h9 => h9) rfl dX9_readRule_337 ?_
                      refine lv_iconst (v := 1) hx hb dX9_readRule_340 (by decide) ?_
                      refine lv_isub hx hb dX9_readRule_341 ?_
                      refine lv_topi (fun z_97 ez_97 => ?_)
                      have jz_97 : z_97.toInt = w_67.toInt - 1 := by rw [ez_97]; exact g_sub rfl t_1 (by omega) (by omega)
                      refine va_iald hx hb hK.1 hP 4 0 rfl rfl (g_in rfl (by omega) (by omega)) dX9_readRule_342 ?_
                      refine lv_topi (fun z_98 ez_98 => ?_)
                      have kz_98 := congrArg Int32.toInt ez_98
                      have qz_98 : z_98.toInt = 5 ∨ (10 ≤ z_98.toInt ∧ z_98.toInt ≤ 71) := by rw [ez_98]; exact hw_62_0.2.2 _ (by have hc := i_clamp0 (x := z_97) (by omega); omega)
                      refine callRS (rest := []) (As := [.int z_98]) hx hb hml hown htb hK (g_X9_tight l D E z_98 (by (try dsimp only); omega)) ok_X9_tight k_1384 k_1385 k_9 k_1386 ⟨(Nat.le_of_ble_eq_true rfl), (Nat.le_of_ble_eq_true rfl)⟩ ⟨(Nat.le_of_ble_eq_true rfl), (Nat.le_of_ble_eq_true rfl)⟩ hl.1 (Nat.le_of_ble_eq_true rfl) rfl rfl dX9_readRule_343 (hP.sub (ws' := ([] : va_W)) [] rfl) (fun r_99 hw_100 => ?_)
                      refine lv_iconst (v := 4) hx hb dX9_readRule_346 (by decide) ?_
                      refine lv_icmp_ne (tgt := 355) hx hb dX9_readRule_347 (by decide) (fun c_102 => ?_) (fun c_102 => ?_)
                      ·
                        have ic_102 : r_99.toInt ≠ 4 := mt (g_eq rfl t_4).mpr c_102
                        clear c_102
                        refine lv_aload_n hx hb dX9_readRule_355 rfl (lv_at hl 3 rfl) ?_
                        refine va_get (D := D) (ci := 9) (v := .ref (ma 43)) (C := RX9) (T := TX9) (N := 68) hx hb htb iX9 hown hK.1 hP 1 rfl rfl 43 (by decide) (htb _ k_1001) (fun _ h9 => h9) rfl dX9_readRule_356 ?_
                        refine lv_aload_n hx hb dX9_readRule_359 rfl (lv_at hl 3 rfl) ?_
                        refine va_get (D := D) (ci := 9) (v := .int w_67) (C := RX9) (T := TX9) (N := 68) hx hb htb iX9 hown hK.1 hP 1 rfl rfl 44 (by decide) (htb _ k_1002) (fun _ h9 => h9) rfl dX9_readRule_360 ?_
                        refine lv_aload_n hx hb dX9_readRule_363 rfl (lv_at hl 3 rfl) ?_
                        refine va_get (D := D) (ci := 9) (v := .int mtk_24) (C := RX9) (T := TX9) (N := 68) hx hb htb iX9 hown hK.1 hP 1 rfl rfl 40 (by decide) (htb _ k_998) (fun _ h9 => h9) rfl dX9_readRule_364 ?_
                        refine va_iast hx hb hK.1 hP hD hS 4 0 rfl rfl (g_in rfl (by omega) (by omega)) dX9_readRule_367 (fun H locs hP hD hS => ?_)
                        have hP : va_P D vwCl [((ma 32), .inl (E 2, 120, .inl mf32)), (mh, .inr (9, G9 ma mcode mtoday moffs mmany msumW msumA msumR msumWW msumWA msumAA msumWR msumAR mupper mlower mrates mtaped w_66 mat_24 mtk_24 mtkAt_24 mtkNumber_24 w_67 mlisted mdealtMany)), ((ma 36), .inl (E 0, 384, .inl w_64)), ((ma 37), .inl (E 0, 384, .inl w_65)), ((ma 43), .inl (E 0, 130, .inl (upd mf43_24 (w_67 : Int32).toNatClampNeg mtk_24)))] H := hP
                        have hD := toW hP hD rfl
                        refine lv_aload_n hx hb dX9_readRule_368 rfl (lv_at hl 3 rfl) ?_
                        refine lv_dup hx hb dX9_readRule_369 rfl ?_
                        refine va_get (D := D) (ci := 9) (v := .int w_67) (C := RX9) (T := TX9) (N := 68) hx hb htb iX9 hown hK.1 hP 1 rfl rfl 44 (by decide) (htb _ k_1002) (fun _ h9 => h9) rfl dX9_readRule_370 ?_
                        refine lv_iconst (v := 1) hx hb dX9_readRule_373 (by decide) ?_
                        refine lv_iadd hx hb dX9_readRule_374 ?_
                        refine lv_topi (fun z_103 ez_103 => ?_)
                        have jz_103 : z_103.toInt = w_67.toInt + 1 := by rw [ez_103]; exact g_add rfl t_1 (by omega) (by omega)
                        refine va_put (D := D) (ci := 9) (v := .int z_103) (ty := .int) (C := RX9) (T := TX9) (N := 68) hx hb htb iX9 tyX9 tyX9_ok nmX9 hown hK.1 hP hD hS 1 rfl rfl 44 (by decide) (htb _ k_1002) (fun _ h9 => h9) rfl (by decide +kernel) rfl rfl (Nat.le_of_ble_eq_true rfl) dX9_readRule_375 (fun H locs hP hD hS => ?_)
                        have hP : va_P D vwCl [((ma 32), .inl (E 2, 120, .inl mf32)), (mh, .inr (9, G9 ma mcode mtoday moffs mmany msumW msumA msumR msumWW msumWA msumAA msumWR msumAR mupper mlower mrates mtaped w_66 mat_24 mtk_24 mtkAt_24 mtkNumber_24 z_103 mlisted mdealtMany)), ((ma 36), .inl (E 0, 384, .inl w_64)), ((ma 37), .inl (E 0, 384, .inl w_65)), ((ma 43), .inl (E 0, 130, .inl (upd mf43_24 (w_67 : Int32).toNatClampNeg mtk_24)))] H := hP
                        have hD := toW hP hD rfl
                        have pi_104 : PI w_64 (upd mf43_24 (w_67 : Int32).toNatClampNeg mtk_24) w_66 z_103 0 := PI_push hw_62_0 (by omega) jz_103 (by (try dsimp only); omega)
                        generalize (upd mf43_24 (w_67 : Int32).toNatClampNeg mtk_24) = g_105 at hP hD pi_104
                        refine lv_iconst (v := 1) hx hb dX9_readRule_378 (by decide) ?_
                        refine lv_istore_n (lv' := [(2, .int 1), (4, .int 1), (3, .int L3_24), (0, .ref mh), (1, .int p0)]) hx hb dX9_readRule_379 rfl hl (by decide) rfl (fun ls hl => ?_)
                        refine lv_aload_n hx hb dX9_readRule_380 rfl (lv_at hl 3 rfl) ?_
                        refine va_get (D := D) (ci := 9) (v := .int mtk_24) (C := RX9) (T := TX9) (N := 68) hx hb htb iX9 hown hK.1 hP 1 rfl rfl 40 (by decide) (htb _ k_998) (fun _ h9 => h9) rfl dX9_readRule_381 ?_
                        refine lv_bipush (v := 10) hx hb dX9_readRule_384 (by decide) ?_
                        refine lv_icmp_eq (tgt := 398) hx hb dX9_readRule_386 (by decide) (fun c_106 => ?_) (fun c_106 => ?_)
                        ·
                          have ic_106 : mtk_24.toInt = 10 := (g_eq rfl t_10).mp c_106
                          clear c_106
                          refine lv_iconst (v := 1) hx hb dX9_readRule_398 (by decide) ?_
                          refine lv_goto (tgt := 403) hx hb dX9_readRule_399 (by decide) ?_
                          refine lv_istore_n (lv' := [(3, .int 1), (2, .int 1), (4, .int 1), (0, .ref mh), (1, .int p0)]) hx hb dX9_readRule_403 rfl hl (by decide) rfl (fun ls hl => ?_)
                          refine lv_aload_n hx hb dX9_readRule_404 rfl (lv_at hl 3 rfl) ?_
                          refine lv_iload_n hx hb dX9_readRule_405 rfl (lv_at hl 4 rfl) ?_
                          have hPc := hP.sub (ws' := [(mh, .inr (9, G9 ma mcode mtoday moffs mmany msumW msumA msumR msumWW msumWA msumAA msumWR msumAR mupper mlower mrates mtaped w_66 mat_24 mtk_24 mtkAt_24 mtkNumber_24 z_103 mlisted mdealtMany)), ((ma 32), .inl (E 2, 120, .inl mf32))]) [1, 0] rfl
                          have hDc := hD.sub (ws' := [(mh, .inr (9, G9 ma mcode mtoday moffs mmany msumW msumA msumR msumWW msumWA msumAA msumWR msumAR mupper mlower mrates mtaped w_66 mat_24 mtk_24 mtkAt_24 mtkNumber_24 z_103 mlisted mdealtMany)), ((ma 32), .inl (E 2, 120, .inl mf32))]) [1, 0] (by decide) rfl
                          refine aft_v (runMV (rest := []) (As := [.int p0]) hx hb hml hown htb hK (g_X9_advance l D E mh ma mcode mtoday moffs mmany msumW msumA msumR msumWW msumWA msumAA msumWR msumAR mupper mlower mrates mtaped w_66 mat_24 mtk_24 mtkAt_24 mtkNumber_24 z_103 mlisted mdealtMany mf32 p0 _ (by (try dsimp only); omega) (by (try dsimp only); omega)) ok_X9_advance k_1338 k_1340 ks_55 k_9 k_1341 ⟨(Nat.le_of_ble_eq_true rfl), (Nat.le_of_ble_eq_true rfl)⟩ ⟨(Nat.le_of_ble_eq_true rfl), (Nat.le_of_ble_eq_true rfl)⟩ hl.1 (Nat.le_of_ble_eq_true rfl) rfl rfl dX9_readRule_406 hPc hDc rfl rfl 0 rfl) hP hD hS hA [1, 0] [2, 3, 4] (wr := [((ma 36), .inl (E 0, 384, .inl w_64)), ((ma 37), .inl (E 0, 384, .inl w_65)), ((ma 43), .inl (E 0, 130, .inl g_105))]) rfl rfl (by decide) (by decide) (fun u_109 H locs hw_108 hP hD hS => ?_)
                          clear hPc hDc
                          obtain ⟨w_110, w_111, w_112, w_113⟩ := u_109
                          try dsimp only at hw_108
                          have hP : va_P D vwCl [((ma 36), .inl (E 0, 384, .inl w_64)), ((ma 37), .inl (E 0, 384, .inl w_65)), ((ma 43), .inl (E 0, 130, .inl g_105)), (mh, .inr (9, G9 ma mcode mtoday moffs mmany msumW msumA msumR msumWW msumWA msumAA msumWR msumAR mupper mlower mrates mtaped w_66 w_110 w_111 w_112 w_113 z_103 mlisted mdealtMany)), ((ma 32), .inl (E 2, 120, .inl mf32))] H := hP
                          have hD := toW hP hD rfl
                          refine lv_goto (tgt := 24) hx hb dX9_readRule_409 (by decide) ?_
                          exact ih_9 1 w_110 w_111 w_112 w_113 z_103 g_105 1 w_66 w_64 w_65 _ _ _ (by have h0 := t_1; (try dsimp only); omega) (by have h0 := t_1; (try dsimp only); omega) (PI_cast pi_104 (by have h0 := t_1; (try dsimp only); omega)) low_68 hP hD hS (lv_sub hl [0, 1, 3, 4] rfl)
                        ·
                          have ic_106 : mtk_24.toInt ≠ 10 := mt (g_eq rfl t_10).mpr c_106
                          clear c_106
                          refine lv_aload_n hx hb dX9_readRule_389 rfl (lv_at hl 3 rfl) ?_
                          refine va_get (D := D) (ci := 9) (v := .int mtk_24) (C := RX9) (T := TX9) (N := 68) hx hb htb iX9 hown hK.1 hP 1 rfl rfl 40 (by decide) (htb _ k_998) (fun _ h9 => h9) rfl dX9_readRule_390 ?_
                          refine lv_bipush (v := 20) hx hb dX9_readRule_393 (by decide) ?_
                          refine lv_icmp_ne (tgt := 402) hx hb dX9_readRule_395 (by decide) (fun c_114 => ?_) (fun c_114 => ?_)
                          ·
                            have ic_114 : mtk_24.toInt ≠ 20 := mt (g_eq rfl t_20).mpr c_114
                            clear c_114
                            refine lv_iconst (v := 0) hx hb dX9_readRule_402 (by decide) ?_
                            refine lv_istore_n (lv' := [(3, .int 0), (2, .int 1), (4, .int 1), (0, .ref mh), (1, .int p0)]) hx hb dX9_readRule_403 rfl hl (by decide) rfl (fun ls hl => ?_)
                            refine lv_aload_n hx hb dX9_readRule_404 rfl (lv_at hl 3 rfl) ?_
                            refine lv_iload_n hx hb dX9_readRule_405 rfl (lv_at hl 4 rfl) ?_
                            have hPc := hP.sub (ws' := [(mh, .inr (9, G9 ma mcode mtoday moffs mmany msumW msumA msumR msumWW msumWA msumAA msumWR msumAR mupper mlower mrates mtaped w_66 mat_24 mtk_24 mtkAt_24 mtkNumber_24 z_103 mlisted mdealtMany)), ((ma 32), .inl (E 2, 120, .inl mf32))]) [1, 0] rfl
                            have hDc := hD.sub (ws' := [(mh, .inr (9, G9 ma mcode mtoday moffs mmany msumW msumA msumR msumWW msumWA msumAA msumWR msumAR mupper mlower mrates mtaped w_66 mat_24 mtk_24 mtkAt_24 mtkNumber_24 z_103 mlisted mdealtMany)), ((ma 32), .inl (E 2, 120, .inl mf32))]) [1, 0] (by decide) rfl
                            refine aft_v (runMV (rest := []) (As := [.int p0]) hx hb hml hown htb hK (g_X9_advance l D E mh ma mcode mtoday moffs mmany msumW msumA msumR msumWW msumWA msumAA msumWR msumAR mupper mlower mrates mtaped w_66 mat_24 mtk_24 mtkAt_24 mtkNumber_24 z_103 mlisted mdealtMany mf32 p0 _ (by (try dsimp only); omega) (by (try dsimp only); omega)) ok_X9_advance k_1338 k_1340 ks_55 k_9 k_1341 ⟨(Nat.le_of_ble_eq_true rfl), (Nat.le_of_ble_eq_true rfl)⟩ ⟨(Nat.le_of_ble_eq_true rfl), (Nat.le_of_ble_eq_true rfl)⟩ hl.1 (Nat.le_of_ble_eq_true rfl) rfl rfl dX9_readRule_406 hPc hDc rfl rfl 0 rfl) hP hD hS hA [1, 0] [2, 3, 4] (wr := [((ma 36), .inl (E 0, 384, .inl w_64)), ((ma 37), .inl (E 0, 384, .inl w_65)), ((ma 43), .inl (E 0, 130, .inl g_105))]) rfl rfl (by decide) (by decide) (fun u_117 H locs hw_116 hP hD hS => ?_)
                            clear hPc hDc
                            obtain ⟨w_118, w_119, w_120, w_121⟩ := u_117
                            try dsimp only at hw_116
                            have hP : va_P D vwCl [((ma 36), .inl (E 0, 384, .inl w_64)), ((ma 37), .inl (E 0, 384, .inl w_65)), ((ma 43), .inl (E 0, 130, .inl g_105)), (mh, .inr (9, G9 ma mcode mtoday moffs mmany msumW msumA msumR msumWW msumWA msumAA msumWR msumAR mupper mlower mrates mtaped w_66 w_118 w_119 w_120 w_121 z_103 mlisted mdealtMany)), ((ma 32), .inl (E 2, 120, .inl mf32))] H := hP
                            have hD := toW hP hD rfl
                            refine lv_goto (tgt := 24) hx hb dX9_readRule_409 (by decide) ?_
                            exact ih_9 0 w_118 w_119 w_120 w_121 z_103 g_105 1 w_66 w_64 w_65 _ _ _ (by have h0 := t_0; have h1 := t_1; (try dsimp only); omega) (by have h0 := t_0; have h1 := t_1; (try dsimp only); omega) (PI_cast pi_104 (by have h0 := t_0; have h1 := t_1; (try dsimp only); omega)) low_68 hP hD hS (lv_sub hl [0, 1, 3, 4] rfl)
                          ·
                            have ic_114 : mtk_24.toInt = 20 := (g_eq rfl t_20).mp c_114
                            clear c_114
                            refine lv_iconst (v := 1) hx hb dX9_readRule_398 (by decide) ?_
                            refine lv_goto (tgt := 403) hx hb dX9_readRule_399 (by decide) ?_
                            refine lv_istore_n (lv' := [(3, .int 1), (2, .int 1), (4, .int 1), (0, .ref mh), (1, .int p0)]) hx hb dX9_readRule_403 rfl hl (by decide) rfl (fun ls hl => ?_)
                            refine lv_aload_n hx hb dX9_readRule_404 rfl (lv_at hl 3 rfl) ?_
                            refine lv_iload_n hx hb dX9_readRule_405 rfl (lv_at hl 4 rfl) ?_
                            have hPc := hP.sub (ws' := [(mh, .inr (9, G9 ma mcode mtoday moffs mmany msumW msumA msumR msumWW msumWA msumAA msumWR msumAR mupper mlower mrates mtaped w_66 mat_24 mtk_24 mtkAt_24 mtkNumber_24 z_103 mlisted mdealtMany)), ((ma 32), .inl (E 2, 120, .inl mf32))]) [1, 0] rfl
                            have hDc := hD.sub (ws' := [(mh, .inr (9, G9 ma mcode mtoday moffs mmany msumW msumA msumR msumWW msumWA msumAA msumWR msumAR mupper mlower mrates mtaped w_66 mat_24 mtk_24 mtkAt_24 mtkNumber_24 z_103 mlisted mdealtMany)), ((ma 32), .inl (E 2, 120, .inl mf32))]) [1, 0] (by decide) rfl
                            refine aft_v (runMV (rest := []) (As := [.int p0]) hx hb hml hown htb hK (g_X9_advance l D E mh ma mcode mtoday moffs mmany msumW msumA msumR msumWW msumWA msumAA msumWR msumAR mupper mlower mrates mtaped w_66 mat_24 mtk_24 mtkAt_24 mtkNumber_24 z_103 mlisted mdealtMany mf32 p0 _ (by (try dsimp only); omega) (by (try dsimp only); omega)) ok_X9_advance k_1338 k_1340 ks_55 k_9 k_1341 ⟨(Nat.le_of_ble_eq_true rfl), (Nat.le_of_ble_eq_true rfl)⟩ ⟨(Nat.le_of_ble_eq_true rfl), (Nat.le_of_ble_eq_true rfl)⟩ hl.1 (Nat.le_of_ble_eq_true rfl) rfl rfl dX9_readRule_406 hPc hDc rfl rfl 0 rfl) hP hD hS hA [1, 0] [2, 3, 4] (wr := [((ma 36), .inl (E 0, 384, .inl w_64)), ((ma 37), .inl (E 0, 384, .inl w_65)), ((ma 43), .inl (E 0, 130, .inl g_105))]) rfl rfl (by decide) (by decide) (fun u_124 H locs hw_123 hP hD hS => ?_)
                            clear hPc hDc
                            obtain ⟨w_125, w_126, w_127, w_128⟩ := u_124
                            try dsimp only at hw_123
                            have hP : va_P D vwCl [((ma 36), .inl (E 0, 384, .inl w_64)), ((ma 37), .inl (E 0, 384, .inl w_65)), ((ma 43), .inl (E 0, 130, .inl g_105)), (mh, .inr (9, G9 ma mcode mtoday moffs mmany msumW msumA msumR msumWW msumWA msumAA msumWR msumAR mupper mlower mrates mtaped w_66 w_125 w_126 w_127 w_128 z_103 mlisted mdealtMany)), ((ma 32), .inl (E 2, 120, .inl mf32))] H := hP
                            have hD := toW hP hD rfl
                            refine lv_goto (tgt := 24) hx hb dX9_readRule_409 (by decide) ?_
                            exact ih_9 1 w_125 w_126 w_127 w_128 z_103 g_105 1 w_66 w_64 w_65 _ _ _ (by have h0 := t_1; (try dsimp only); omega) (by have h0 := t_1; (try dsimp only); omega) (PI_cast pi_104 (by have h0 := t_1; (try dsimp only); omega)) low_68 hP hD hS (lv_sub hl [0, 1, 3, 4] rfl)
                      ·
                        have ic_102 : r_99.toInt = 4 := (g_eq rfl t_4).mp c_102
                        clear c_102
                        refine lv_aload_n hx hb dX9_readRule_350 rfl (lv_at hl 3 rfl) ?_
                        refine va_get (D := D) (ci := 9) (v := .int mtkAt_24) (C := RX9) (T := TX9) (N := 68) hx hb htb iX9 hown hK.1 hP 1 rfl rfl 41 (by decide) (htb _ k_999) (fun _ h9 => h9) rfl dX9_readRule_351 ?_
                        have hP9 := hP.sub (ws' := [(mh, .inr (9, G9 ma mcode mtoday moffs mmany msumW msumA msumR msumWW msumWA msumAA msumWR msumAR mupper mlower mrates mtaped w_66 mat_24 mtk_24 mtkAt_24 mtkNumber_24 w_67 mlisted mdealtMany)), ((ma 32), .inl (E 2, 120, .inl mf32)), ((ma 36), .inl (E 0, 384, .inl w_64)), ((ma 37), .inl (E 0, 384, .inl w_65)), ((ma 43), .inl (E 0, 130, .inl mf43_24))]) [1, 0, 2, 3, 4] rfl
                        have hD9 := hD.sub (ws' := [(mh, .inr (9, G9 ma mcode mtoday moffs mmany msumW msumA msumR msumWW msumWA msumAA msumWR msumAR mupper mlower mrates mtaped w_66 mat_24 mtk_24 mtkAt_24 mtkNumber_24 w_67 mlisted mdealtMany)), ((ma 32), .inl (E 2, 120, .inl mf32)), ((ma 36), .inl (E 0, 384, .inl w_64)), ((ma 37), .inl (E 0, 384, .inl w_65)), ((ma 43), .inl (E 0, 130, .inl mf43_24))]) [1, 0, 2, 3, 4] (by decide) rfl
                        exact W.iret (v := mtkAt_24) hx hb hr (fun t ht hW => ⟨⟨mtkAt_24, (w_64, w_65, mf43_24, mat_24, w_66, mtk_24, mtkAt_24, mtkNumber_24, w_67), rfl, ⟨low_68, (Or.inl (by (try dsimp only); omega))⟩, by rw [ht]; exact hP9, hD9⟩, hS.F ht⟩) hS.2.2 dX9_readRule_354
                ·
                  have ic_16 : mtk_24.toInt = 30 := (g_eq rfl t_30).mp c_16
                  clear c_16
                  refine lv_aload_n hx hb dX9_readRule_277 rfl (lv_at hl 2 rfl) ?_
                  refine va_get (D := D) (ci := 9) (v := .int mtkAt_24) (C := RX9) (T := TX9) (N := 68) hx hb htb iX9 hown hK.1 hP 3 rfl rfl 41 (by decide) (htb _ k_999) (fun _ h9 => h9) rfl dX9_readRule_278 ?_
                  have hP9 := hP.sub (ws' := [(mh, .inr (9, G9 ma mcode mtoday moffs mmany msumW msumA msumR msumWW msumWA msumAA msumWR msumAR mupper mlower mrates mtaped mlaid_24 mat_24 mtk_24 mtkAt_24 mtkNumber_24 mwaits_24 mlisted mdealtMany)), ((ma 32), .inl (E 2, 120, .inl mf32)), ((ma 36), .inl (E 0, 384, .inl mf36_24)), ((ma 37), .inl (E 0, 384, .inl mf37_24)), ((ma 43), .inl (E 0, 130, .inl mf43_24))]) [3, 4, 0, 1, 2] rfl
                  have hD9 := hD.sub (ws' := [(mh, .inr (9, G9 ma mcode mtoday moffs mmany msumW msumA msumR msumWW msumWA msumAA msumWR msumAR mupper mlower mrates mtaped mlaid_24 mat_24 mtk_24 mtkAt_24 mtkNumber_24 mwaits_24 mlisted mdealtMany)), ((ma 32), .inl (E 2, 120, .inl mf32)), ((ma 36), .inl (E 0, 384, .inl mf36_24)), ((ma 37), .inl (E 0, 384, .inl mf37_24)), ((ma 43), .inl (E 0, 130, .inl mf43_24))]) [3, 4, 0, 1, 2] (by decide) rfl
                  exact W.iret (v := mtkAt_24) hx hb hr (fun t ht hW => ⟨⟨mtkAt_24, (mf36_24, mf37_24, mf43_24, mat_24, mlaid_24, mtk_24, mtkAt_24, mtkNumber_24, mwaits_24), rfl, ⟨v2_24, (Or.inl (by (try dsimp only); omega))⟩, by rw [ht]; exact hP9, hD9⟩, hS.F ht⟩) hS.2.2 dX9_readRule_281
          ·
            have ic_13 : mtk_24.toInt = 0 := (g_eq rfl t_0).mp c_13
            clear c_13
            refine lv_aload_n hx hb dX9_readRule_229 rfl (lv_at hl 2 rfl) ?_
            refine lv_iconst (v := 1) hx hb dX9_readRule_230 (by decide) ?_
            have hPc := hP.sub (ws' := [(mh, .inr (9, G9 ma mcode mtoday moffs mmany msumW msumA msumR msumWW msumWA msumAA msumWR msumAR mupper mlower mrates mtaped mlaid_24 mat_24 mtk_24 mtkAt_24 mtkNumber_24 mwaits_24 mlisted mdealtMany)), ((ma 36), .inl (E 0, 384, .inl mf36_24)), ((ma 37), .inl (E 0, 384, .inl mf37_24)), ((ma 43), .inl (E 0, 130, .inl mf43_24))]) [3, 0, 1, 2] rfl
            have hDc := hD.sub (ws' := [(mh, .inr (9, G9 ma mcode mtoday moffs mmany msumW msumA msumR msumWW msumWA msumAA msumWR msumAR mupper mlower mrates mtaped mlaid_24 mat_24 mtk_24 mtkAt_24 mtkNumber_24 mwaits_24 mlisted mdealtMany)), ((ma 36), .inl (E 0, 384, .inl mf36_24)), ((ma 37), .inl (E 0, 384, .inl mf37_24)), ((ma 43), .inl (E 0, 130, .inl mf43_24))]) [3, 0, 1, 2] (by decide) rfl
            refine aft_v (runMV (rest := []) (As := [.int 1]) hx hb hml hown htb hK (g_X9_done l D E mh ma mcode mtoday moffs mmany msumW msumA msumR msumWW msumWA msumAA msumWR msumAR mupper mlower mrates mtaped mlaid_24 mat_24 mtk_24 mtkAt_24 mtkNumber_24 mwaits_24 mlisted mdealtMany mf36_24 mf37_24 mf43_24 1 _ (by (try dsimp only); omega) (by have h0 := t_1; (try dsimp only); omega) (PI_cast v1_24 (by omega))) ok_X9_done k_1380 k_1382 ks_58 k_9 k_1383 ⟨(Nat.le_of_ble_eq_true rfl), (Nat.le_of_ble_eq_true rfl)⟩ ⟨(Nat.le_of_ble_eq_true rfl), (Nat.le_of_ble_eq_true rfl)⟩ hl.1 (Nat.le_of_ble_eq_true rfl) rfl rfl dX9_readRule_231 hPc hDc rfl rfl 0 rfl) hP hD hS hA [3, 0, 1, 2] [4] (wr := [((ma 32), .inl (E 2, 120, .inl mf32))]) rfl rfl (by decide) (by decide) (fun u_131 H locs hw_130 hP hD hS => ?_)
            clear hPc hDc
            obtain ⟨w_132, w_133, w_134, w_135⟩ := u_131
            try dsimp only at hw_130
            have hP : va_P D vwCl [((ma 32), .inl (E 2, 120, .inl mf32)), (mh, .inr (9, G9 ma mcode mtoday moffs mmany msumW msumA msumR msumWW msumWA msumAA msumWR msumAR mupper mlower mrates mtaped w_134 mat_24 mtk_24 mtkAt_24 mtkNumber_24 w_135 mlisted mdealtMany)), ((ma 36), .inl (E 0, 384, .inl w_132)), ((ma 37), .inl (E 0, 384, .inl w_133)), ((ma 43), .inl (E 0, 130, .inl mf43_24))] H := hP
            have hD := toW hP hD rfl
            obtain ⟨hw_130_0, hw_130_1, hw_130_2, hw_130_3⟩ := hw_130
            try simp only [t_1] at hw_130_0
            try simp only [t_1] at hw_130_1
            try simp only [t_1] at hw_130_2
            try simp only [t_1] at hw_130_3
            have low_136 : LOW mf36 w_132 := LOW_t v2_24 hw_130_1
            refine lv_aload_n hx hb dX9_readRule_234 rfl (lv_at hl 2 rfl) ?_
            refine va_get (D := D) (ci := 9) (v := .int w_135) (C := RX9) (T := TX9) (N := 68) hx hb htb iX9 hown hK.1 hP 1 rfl rfl 44 (by decide) (htb _ k_1002) (fun _ h9 => h9) rfl dX9_readRule_235 ?_
            refine lv_if_ne (tgt := 245) hx hb dX9_readRule_238 (by decide) (fun c_137 => ?_) (fun c_137 => ?_)
            ·
              have ic_137 : w_135.toInt ≠ 0 := mt (g_eq rfl t_0).mpr c_137
              clear c_137
              refine lv_aload_n hx hb dX9_readRule_245 rfl (lv_at hl 2 rfl) ?_
              refine va_get (D := D) (ci := 9) (v := .int mtkAt_24) (C := RX9) (T := TX9) (N := 68) hx hb htb iX9 hown hK.1 hP 1 rfl rfl 41 (by decide) (htb _ k_999) (fun _ h9 => h9) rfl dX9_readRule_246 ?_
              have hP9 := hP.sub (ws' := [(mh, .inr (9, G9 ma mcode mtoday moffs mmany msumW msumA msumR msumWW msumWA msumAA msumWR msumAR mupper mlower mrates mtaped w_134 mat_24 mtk_24 mtkAt_24 mtkNumber_24 w_135 mlisted mdealtMany)), ((ma 32), .inl (E 2, 120, .inl mf32)), ((ma 36), .inl (E 0, 384, .inl w_132)), ((ma 37), .inl (E 0, 384, .inl w_133)), ((ma 43), .inl (E 0, 130, .inl mf43_24))]) [1, 0, 2, 3, 4] rfl
              have hD9 := hD.sub (ws' := [(mh, .inr (9, G9 ma mcode mtoday moffs mmany msumW msumA msumR msumWW msumWA msumAA msumWR msumAR mupper mlower mrates mtaped w_134 mat_24 mtk_24 mtkAt_24 mtkNumber_24 w_135 mlisted mdealtMany)), ((ma 32), .inl (E 2, 120, .inl mf32)), ((ma 36), .inl (E 0, 384, .inl w_132)), ((ma 37), .inl (E 0, 384, .inl w_133)), ((ma 43), .inl (E 0, 130, .inl mf43_24))]) [1, 0, 2, 3, 4] (by decide) rfl
              exact W.iret (v := mtkAt_24) hx hb hr (fun t ht hW => ⟨⟨mtkAt_24, (w_132, w_133, mf43_24, mat_24, w_134, mtk_24, mtkAt_24, mtkNumber_24, w_135), rfl, ⟨low_136, (Or.inl (by (try dsimp only); omega))⟩, by rw [ht]; exact hP9, hD9⟩, hS.F ht⟩) hS.2.2 dX9_readRule_249
            ·
              have ic_137 : w_135.toInt = 0 := (g_eq rfl t_0).mp c_137
              clear c_137
              refine lv_iconst (v := (-1)) hx hb dX9_readRule_241 (by decide) ?_
              refine lv_goto (tgt := 249) hx hb dX9_readRule_242 (by decide) ?_
              have hP9 := hP.sub (ws' := [(mh, .inr (9, G9 ma mcode mtoday moffs mmany msumW msumA msumR msumWW msumWA msumAA msumWR msumAR mupper mlower mrates mtaped w_134 mat_24 mtk_24 mtkAt_24 mtkNumber_24 w_135 mlisted mdealtMany)), ((ma 32), .inl (E 2, 120, .inl mf32)), ((ma 36), .inl (E 0, 384, .inl w_132)), ((ma 37), .inl (E 0, 384, .inl w_133)), ((ma 43), .inl (E 0, 130, .inl mf43_24))]) [1, 0, 2, 3, 4] rfl
              have hD9 := hD.sub (ws' := [(mh, .inr (9, G9 ma mcode mtoday moffs mmany msumW msumA msumR msumWW msumWA msumAA msumWR msumAR mupper mlower mrates mtaped w_134 mat_24 mtk_24 mtkAt_24 mtkNumber_24 w_135 mlisted mdealtMany)), ((ma 32), .inl (E 2, 120, .inl mf32)), ((ma 36), .inl (E 0, 384, .inl w_132)), ((ma 37), .inl (E 0, 384, .inl w_133)), ((ma 43), .inl (E 0, 130, .inl mf43_24))]) [1, 0, 2, 3, 4] (by decide) rfl
              exact W.iret (v := (-1)) hx hb hr (fun t ht hW => ⟨⟨(-1), (w_132, w_133, mf43_24, mat_24, w_134, mtk_24, mtkAt_24, mtkNumber_24, w_135), rfl, ⟨low_136, (Or.inr ⟨by decide, hw_130_0.1, by (try dsimp only); omega, by (try dsimp only); omega⟩)⟩, by rw [ht]; exact hP9, hD9⟩, hS.F ht⟩) hS.2.2 dX9_readRule_249
        ·
          have ic_12 : mtk_24.toInt = 6 := (g_eq rfl t_6).mp c_12
          clear c_12
          refine lv_aload_n hx hb dX9_readRule_192 rfl (lv_at hl 2 rfl) ?_
          refine lv_iconst (v := 1) hx hb dX9_readRule_193 (by decide) ?_
          have hPc := hP.sub (ws' := [(mh, .inr (9, G9 ma mcode mtoday moffs mmany msumW msumA msumR msumWW msumWA msumAA msumWR msumAR mupper mlower mrates mtaped mlaid_24 mat_24 mtk_24 mtkAt_24 mtkNumber_24 mwaits_24 mlisted mdealtMany)), ((ma 36), .inl (E 0, 384, .inl mf36_24)), ((ma 37), .inl (E 0, 384, .inl mf37_24)), ((ma 43), .inl (E 0, 130, .inl mf43_24))]) [3, 0, 1, 2] rfl
          have hDc := hD.sub (ws' := [(mh, .inr (9, G9 ma mcode mtoday moffs mmany msumW msumA msumR msumWW msumWA msumAA msumWR msumAR mupper mlower mrates mtaped mlaid_24 mat_24 mtk_24 mtkAt_24 mtkNumber_24 mwaits_24 mlisted mdealtMany)), ((ma 36), .inl (E 0, 384, .inl mf36_24)), ((ma 37), .inl (E 0, 384, .inl mf37_24)), ((ma 43), .inl (E 0, 130, .inl mf43_24))]) [3, 0, 1, 2] (by decide) rfl
          refine aft_v (runMV (rest := []) (As := [.int 1]) hx hb hml hown htb hK (g_X9_done l D E mh ma mcode mtoday moffs mmany msumW msumA msumR msumWW msumWA msumAA msumWR msumAR mupper mlower mrates mtaped mlaid_24 mat_24 mtk_24 mtkAt_24 mtkNumber_24 mwaits_24 mlisted mdealtMany mf36_24 mf37_24 mf43_24 1 _ (by (try dsimp only); omega) (by have h0 := t_1; (try dsimp only); omega) (PI_cast v1_24 (by omega))) ok_X9_done k_1380 k_1382 ks_58 k_9 k_1383 ⟨(Nat.le_of_ble_eq_true rfl), (Nat.le_of_ble_eq_true rfl)⟩ ⟨(Nat.le_of_ble_eq_true rfl), (Nat.le_of_ble_eq_true rfl)⟩ hl.1 (Nat.le_of_ble_eq_true rfl) rfl rfl dX9_readRule_194 hPc hDc rfl rfl 0 rfl) hP hD hS hA [3, 0, 1, 2] [4] (wr := [((ma 32), .inl (E 2, 120, .inl mf32))]) rfl rfl (by decide) (by decide) (fun u_140 H locs hw_139 hP hD hS => ?_)
          clear hPc hDc
          obtain ⟨w_141, w_142, w_143, w_144⟩ := u_140
          try dsimp only at hw_139
          have hP : va_P D vwCl [((ma 32), .inl (E 2, 120, .inl mf32)), (mh, .inr (9, G9 ma mcode mtoday moffs mmany msumW msumA msumR msumWW msumWA msumAA msumWR msumAR mupper mlower mrates mtaped w_143 mat_24 mtk_24 mtkAt_24 mtkNumber_24 w_144 mlisted mdealtMany)), ((ma 36), .inl (E 0, 384, .inl w_141)), ((ma 37), .inl (E 0, 384, .inl w_142)), ((ma 43), .inl (E 0, 130, .inl mf43_24))] H := hP
          have hD := toW hP hD rfl
          obtain ⟨hw_139_0, hw_139_1, hw_139_2, hw_139_3⟩ := hw_139
          try simp only [t_1] at hw_139_0
          try simp only [t_1] at hw_139_1
          try simp only [t_1] at hw_139_2
          try simp only [t_1] at hw_139_3
          have low_145 : LOW mf36 w_141 := LOW_t v2_24 hw_139_1
          refine lv_aload_n hx hb dX9_readRule_197 rfl (lv_at hl 2 rfl) ?_
          refine va_get (D := D) (ci := 9) (v := .int w_144) (C := RX9) (T := TX9) (N := 68) hx hb htb iX9 hown hK.1 hP 1 rfl rfl 44 (by decide) (htb _ k_1002) (fun _ h9 => h9) rfl dX9_readRule_198 ?_
          refine lv_if_ne (tgt := 209) hx hb dX9_readRule_201 (by decide) (fun c_146 => ?_) (fun c_146 => ?_)
          ·
            have ic_146 : w_144.toInt ≠ 0 := mt (g_eq rfl t_0).mpr c_146
            clear c_146
            refine lv_aload_n hx hb dX9_readRule_209 rfl (lv_at hl 2 rfl) ?_
            refine lv_dup hx hb dX9_readRule_210 rfl ?_
            refine va_get (D := D) (ci := 9) (v := .int w_144) (C := RX9) (T := TX9) (N := 68) hx hb htb iX9 hown hK.1 hP 1 rfl rfl 44 (by decide) (htb _ k_1002) (fun _ h9 => h9) rfl dX9_readRule_211 ?_
            refine lv_iconst (v := 1) hx hb dX9_readRule_214 (by decide) ?_
            refine lv_isub hx hb dX9_readRule_215 ?_
            refine lv_topi (fun z_147 ez_147 => ?_)
            have jz_147 : z_147.toInt = w_144.toInt - 1 := by rw [ez_147]; exact g_sub rfl t_1 (by omega) (by omega)
            refine va_put (D := D) (ci := 9) (v := .int z_147) (ty := .int) (C := RX9) (T := TX9) (N := 68) hx hb htb iX9 tyX9 tyX9_ok nmX9 hown hK.1 hP hD hS 1 rfl rfl 44 (by decide) (htb _ k_1002) (fun _ h9 => h9) rfl (by decide +kernel) rfl rfl (Nat.le_of_ble_eq_true rfl) dX9_readRule_216 (fun H locs hP hD hS => ?_)
            have hP : va_P D vwCl [((ma 32), .inl (E 2, 120, .inl mf32)), (mh, .inr (9, G9 ma mcode mtoday moffs mmany msumW msumA msumR msumWW msumWA msumAA msumWR msumAR mupper mlower mrates mtaped w_143 mat_24 mtk_24 mtkAt_24 mtkNumber_24 z_147 mlisted mdealtMany)), ((ma 36), .inl (E 0, 384, .inl w_141)), ((ma 37), .inl (E 0, 384, .inl w_142)), ((ma 43), .inl (E 0, 130, .inl mf43_24))] H := hP
            have hD := toW hP hD rfl
            have pi_148 : PI w_141 mf43_24 w_143 z_147 1 := PI_open hw_139_0 (by omega) (by omega) (by have hq := i_clamp0 (x := z_147) (by omega); have h3 := hw_139_0.2.2 (z_147).toNatClampNeg (by omega); have h4 := hw_139_3; rw [show (w_144.toInt - 1).toNat = (z_147).toNatClampNeg by omega] at h4; omega)
            refine lv_goto (tgt := 404) hx hb dX9_readRule_219 (by decide) ?_
            refine lv_aload_n hx hb dX9_readRule_404 rfl (lv_at hl 2 rfl) ?_
            refine lv_iload_n hx hb dX9_readRule_405 rfl (lv_at hl 3 rfl) ?_
            have hPc := hP.sub (ws' := [(mh, .inr (9, G9 ma mcode mtoday moffs mmany msumW msumA msumR msumWW msumWA msumAA msumWR msumAR mupper mlower mrates mtaped w_143 mat_24 mtk_24 mtkAt_24 mtkNumber_24 z_147 mlisted mdealtMany)), ((ma 32), .inl (E 2, 120, .inl mf32))]) [1, 0] rfl
            have hDc := hD.sub (ws' := [(mh, .inr (9, G9 ma mcode mtoday moffs mmany msumW msumA msumR msumWW msumWA msumAA msumWR msumAR mupper mlower mrates mtaped w_143 mat_24 mtk_24 mtkAt_24 mtkNumber_24 z_147 mlisted mdealtMany)), ((ma 32), .inl (E 2, 120, .inl mf32))]) [1, 0] (by decide) rfl
            refine aft_v (runMV (rest := []) (As := [.int p0]) hx hb hml hown htb hK (g_X9_advance l D E mh ma mcode mtoday moffs mmany msumW msumA msumR msumWW msumWA msumAA msumWR msumAR mupper mlower mrates mtaped w_143 mat_24 mtk_24 mtkAt_24 mtkNumber_24 z_147 mlisted mdealtMany mf32 p0 _ (by (try dsimp only); omega) (by (try dsimp only); omega)) ok_X9_advance k_1338 k_1340 ks_55 k_9 k_1341 ⟨(Nat.le_of_ble_eq_true rfl), (Nat.le_of_ble_eq_true rfl)⟩ ⟨(Nat.le_of_ble_eq_true rfl), (Nat.le_of_ble_eq_true rfl)⟩ hl.1 (Nat.le_of_ble_eq_true rfl) rfl rfl dX9_readRule_406 hPc hDc rfl rfl 0 rfl) hP hD hS hA [1, 0] [2, 3, 4] (wr := [((ma 36), .inl (E 0, 384, .inl w_141)), ((ma 37), .inl (E 0, 384, .inl w_142)), ((ma 43), .inl (E 0, 130, .inl mf43_24))]) rfl rfl (by decide) (by decide) (fun u_151 H locs hw_150 hP hD hS => ?_)
            clear hPc hDc
            obtain ⟨w_152, w_153, w_154, w_155⟩ := u_151
            try dsimp only at hw_150
            have hP : va_P D vwCl [((ma 36), .inl (E 0, 384, .inl w_141)), ((ma 37), .inl (E 0, 384, .inl w_142)), ((ma 43), .inl (E 0, 130, .inl mf43_24)), (mh, .inr (9, G9 ma mcode mtoday moffs mmany msumW msumA msumR msumWW msumWA msumAA msumWR msumAR mupper mlower mrates mtaped w_143 w_152 w_153 w_154 w_155 z_147 mlisted mdealtMany)), ((ma 32), .inl (E 2, 120, .inl mf32))] H := hP
            have hD := toW hP hD rfl
            refine lv_goto (tgt := 24) hx hb dX9_readRule_409 (by decide) ?_
            exact ih_9 L3_24 w_152 w_153 w_154 w_155 z_147 mf43_24 L2_24 w_143 w_141 w_142 _ _ _ (by (try dsimp only); omega) (by (try dsimp only); omega) (PI_cast pi_148 (by (try dsimp only); omega)) low_145 hP hD hS (lv_sub hl [0, 1, 2, 3] rfl)
          ·
            have ic_146 : w_144.toInt = 0 := (g_eq rfl t_0).mp c_146
            clear c_146
            refine lv_aload_n hx hb dX9_readRule_204 rfl (lv_at hl 2 rfl) ?_
            refine va_get (D := D) (ci := 9) (v := .int mtkAt_24) (C := RX9) (T := TX9) (N := 68) hx hb htb iX9 hown hK.1 hP 1 rfl rfl 41 (by decide) (htb _ k_999) (fun _ h9 => h9) rfl dX9_readRule_205 ?_
            have hP9 := hP.sub (ws' := [(mh, .inr (9, G9 ma mcode mtoday moffs mmany msumW msumA msumR msumWW msumWA msumAA msumWR msumAR mupper mlower mrates mtaped w_143 mat_24 mtk_24 mtkAt_24 mtkNumber_24 w_144 mlisted mdealtMany)), ((ma 32), .inl (E 2, 120, .inl mf32)), ((ma 36), .inl (E 0, 384, .inl w_141)), ((ma 37), .inl (E 0, 384, .inl w_142)), ((ma 43), .inl (E 0, 130, .inl mf43_24))]) [1, 0, 2, 3, 4] rfl
            have hD9 := hD.sub (ws' := [(mh, .inr (9, G9 ma mcode mtoday moffs mmany msumW msumA msumR msumWW msumWA msumAA msumWR msumAR mupper mlower mrates mtaped w_143 mat_24 mtk_24 mtkAt_24 mtkNumber_24 w_144 mlisted mdealtMany)), ((ma 32), .inl (E 2, 120, .inl mf32)), ((ma 36), .inl (E 0, 384, .inl w_141)), ((ma 37), .inl (E 0, 384, .inl w_142)), ((ma 43), .inl (E 0, 130, .inl mf43_24))]) [1, 0, 2, 3, 4] (by decide) rfl
            exact W.iret (v := mtkAt_24) hx hb hr (fun t ht hW => ⟨⟨mtkAt_24, (w_141, w_142, mf43_24, mat_24, w_143, mtk_24, mtkAt_24, mtkNumber_24, w_144), rfl, ⟨low_145, (Or.inl (by (try dsimp only); omega))⟩, by rw [ht]; exact hP9, hD9⟩, hS.F ht⟩) hS.2.2 dX9_readRule_208
      ·
        have ic_11 : L2_24.toInt ≠ 0 := mt (g_eq rfl t_0).mpr c_11
        clear c_11
        refine lv_aload_n hx hb dX9_readRule_28 rfl (lv_at hl 2 rfl) ?_
        refine va_get (D := D) (ci := 9) (v := .int mtk_24) (C := RX9) (T := TX9) (N := 68) hx hb htb iX9 hown hK.1 hP 3 rfl rfl 40 (by decide) (htb _ k_998) (fun _ h9 => h9) rfl dX9_readRule_29 ?_
        refine lv_bipush (v := 30) hx hb dX9_readRule_32 (by decide) ?_
        refine lv_icmp_ne (tgt := 41) hx hb dX9_readRule_34 (by decide) (fun c_156 => ?_) (fun c_156 => ?_)
        ·
          have ic_156 : mtk_24.toInt ≠ 30 := mt (g_eq rfl t_30).mpr c_156
          clear c_156
          refine lv_aload_n hx hb dX9_readRule_41 rfl (lv_at hl 2 rfl) ?_
          refine va_get (D := D) (ci := 9) (v := .int mtk_24) (C := RX9) (T := TX9) (N := 68) hx hb htb iX9 hown hK.1 hP 3 rfl rfl 40 (by decide) (htb _ k_998) (fun _ h9 => h9) rfl dX9_readRule_42 ?_
          refine lv_bipush (v := 51) hx hb dX9_readRule_45 (by decide) ?_
          refine lv_icmp_eq (tgt := 67) hx hb dX9_readRule_47 (by decide) (fun c_157 => ?_) (fun c_157 => ?_)
          ·
            have ic_157 : mtk_24.toInt = 51 := (g_eq rfl t_51).mp c_157
            clear c_157
            refine lv_aload_n hx hb dX9_readRule_67 rfl (lv_at hl 2 rfl) ?_
            refine callRV (rest := []) (As := []) hx hb hml hown htb hK (g_X9_opened l D E mh ma mcode mtoday moffs mmany msumW msumA msumR msumWW msumWA msumAA msumWR msumAR mupper mlower mrates mtaped mlaid_24 mat_24 mtk_24 mtkAt_24 mtkNumber_24 mwaits_24 mlisted mdealtMany mf43_24 (by (try dsimp only); omega) (by (try dsimp only); omega)) ok_X9_opened k_1372 k_1374 ks_56 k_9 k_1375 ⟨(Nat.le_of_ble_eq_true rfl), (Nat.le_of_ble_eq_true rfl)⟩ ⟨(Nat.le_of_ble_eq_true rfl), (Nat.le_of_ble_eq_true rfl)⟩ hl.1 (Nat.le_of_ble_eq_true rfl) rfl rfl dX9_readRule_68 (hP.sub (ws' := [(mh, .inr (9, G9 ma mcode mtoday moffs mmany msumW msumA msumR msumWW msumWA msumAA msumWR msumAR mupper mlower mrates mtaped mlaid_24 mat_24 mtk_24 mtkAt_24 mtkNumber_24 mwaits_24 mlisted mdealtMany)), ((ma 43), .inl (E 0, 130, .inl mf43_24))]) [3, 2] rfl) rfl rfl 0 rfl (fun r_158 hw_159 => ?_)
            refine lv_bipush (v := 15) hx hb dX9_readRule_71 (by decide) ?_
            refine lv_icmp_ne (tgt := 81) hx hb dX9_readRule_73 (by decide) (fun c_161 => ?_) (fun c_161 => ?_)
            ·
              have ic_161 : r_158.toInt ≠ 15 := mt (g_eq rfl t_15).mpr c_161
              clear c_161
              refine lv_aload_n hx hb dX9_readRule_81 rfl (lv_at hl 2 rfl) ?_
              refine va_get (D := D) (ci := 9) (v := .ref (ma 43)) (C := RX9) (T := TX9) (N := 68) hx hb htb iX9 hown hK.1 hP 3 rfl rfl 43 (by decide) (htb _ k_1001) (fun _ h9 => h9) rfl dX9_readRule_82 ?_
              refine lv_aload_n hx hb dX9_readRule_85 rfl (lv_at hl 2 rfl) ?_
              refine va_get (D := D) (ci := 9) (v := .int mwaits_24) (C := RX9) (T := TX9) (N := 68) hx hb htb iX9 hown hK.1 hP 3 rfl rfl 44 (by decide) (htb _ k_1002) (fun _ h9 => h9) rfl dX9_readRule_86 ?_
              refine lv_aload_n hx hb dX9_readRule_89 rfl (lv_at hl 2 rfl) ?_
              refine va_get (D := D) (ci := 9) (v := .int mtk_24) (C := RX9) (T := TX9) (N := 68) hx hb htb iX9 hown hK.1 hP 3 rfl rfl 40 (by decide) (htb _ k_998) (fun _ h9 => h9) rfl dX9_readRule_90 ?_
              refine lv_bipush (v := 51) hx hb dX9_readRule_93 (by decide) ?_
              refine lv_icmp_ne (tgt := 103) hx hb dX9_readRule_95 (by decide) (fun c_162 => absurd (by rw [g_eq rfl t_51]; omega) c_162) (fun c_162 => ?_)
              refine lv_bipush (v := 70) hx hb dX9_readRule_98 (by decide) ?_
              refine lv_goto (tgt := 107) hx hb dX9_readRule_100 (by decide) ?_
              refine va_iast hx hb hK.1 hP hD hS 2 0 rfl rfl (g_in rfl (by omega) (by omega)) dX9_readRule_107 (fun H locs hP hD hS => ?_)
              have hP : va_P D vwCl [((ma 36), .inl (E 0, 384, .inl mf36_24)), ((ma 37), .inl (E 0, 384, .inl mf37_24)), ((ma 43), .inl (E 0, 130, .inl (upd mf43_24 (mwaits_24 : Int32).toNatClampNeg 70))), (mh, .inr (9, G9 ma mcode mtoday moffs mmany msumW msumA msumR msumWW msumWA msumAA msumWR msumAR mupper mlower mrates mtaped mlaid_24 mat_24 mtk_24 mtkAt_24 mtkNumber_24 mwaits_24 mlisted mdealtMany)), ((ma 32), .inl (E 2, 120, .inl mf32))] H := hP
              have hD := toW hP hD rfl
              refine lv_aload_n hx hb dX9_readRule_108 rfl (lv_at hl 2 rfl) ?_
              refine lv_dup hx hb dX9_readRule_109 rfl ?_
              refine va_get (D := D) (ci := 9) (v := .int mwaits_24) (C := RX9) (T := TX9) (N := 68) hx hb htb iX9 hown hK.1 hP 3 rfl rfl 44 (by decide) (htb _ k_1002) (fun _ h9 => h9) rfl dX9_readRule_110 ?_
              refine lv_iconst (v := 1) hx hb dX9_readRule_113 (by decide) ?_
              refine lv_iadd hx hb dX9_readRule_114 ?_
              refine lv_topi (fun z_163 ez_163 => ?_)
              have jz_163 : z_163.toInt = mwaits_24.toInt + 1 := by rw [ez_163]; exact g_add rfl t_1 (by omega) (by omega)
              refine va_put (D := D) (ci := 9) (v := .int z_163) (ty := .int) (C := RX9) (T := TX9) (N := 68) hx hb htb iX9 tyX9 tyX9_ok nmX9 hown hK.1 hP hD hS 3 rfl rfl 44 (by decide) (htb _ k_1002) (fun _ h9 => h9) rfl (by decide +kernel) rfl rfl (Nat.le_of_ble_eq_true rfl) dX9_readRule_115 (fun H locs hP hD hS => ?_)
              have hP : va_P D vwCl [((ma 36), .inl (E 0, 384, .inl mf36_24)), ((ma 37), .inl (E 0, 384, .inl mf37_24)), ((ma 43), .inl (E 0, 130, .inl (upd mf43_24 (mwaits_24 : Int32).toNatClampNeg 70))), (mh, .inr (9, G9 ma mcode mtoday moffs mmany msumW msumA msumR msumWW msumWA msumAA msumWR msumAR mupper mlower mrates mtaped mlaid_24 mat_24 mtk_24 mtkAt_24 mtkNumber_24 z_163 mlisted mdealtMany)), ((ma 32), .inl (E 2, 120, .inl mf32))] H := hP
              have hD := toW hP hD rfl
              have pi_164 : PI mf36_24 (upd mf43_24 (mwaits_24 : Int32).toNatClampNeg 70) mlaid_24 z_163 0 := PI_push v1_24 (by omega) jz_163 (by have h0 := t_70; (try dsimp only); omega)
              generalize (upd mf43_24 (mwaits_24 : Int32).toNatClampNeg 70) = g_165 at hP hD pi_164
              refine lv_aload_n hx hb dX9_readRule_118 rfl (lv_at hl 2 rfl) ?_
              refine va_get (D := D) (ci := 9) (v := .int mtk_24) (C := RX9) (T := TX9) (N := 68) hx hb htb iX9 hown hK.1 hP 3 rfl rfl 40 (by decide) (htb _ k_998) (fun _ h9 => h9) rfl dX9_readRule_119 ?_
              refine lv_iconst (v := 5) hx hb dX9_readRule_122 (by decide) ?_
              refine lv_icmp_eq (tgt := 135) hx hb dX9_readRule_123 (by decide) (fun c_166 => absurd c_166 (by rw [g_eq rfl t_5]; omega)) (fun c_166 => ?_)
              refine lv_aload_n hx hb dX9_readRule_126 rfl (lv_at hl 2 rfl) ?_
              refine va_get (D := D) (ci := 9) (v := .int mtk_24) (C := RX9) (T := TX9) (N := 68) hx hb htb iX9 hown hK.1 hP 3 rfl rfl 40 (by decide) (htb _ k_998) (fun _ h9 => h9) rfl dX9_readRule_127 ?_
              refine lv_bipush (v := 30) hx hb dX9_readRule_130 (by decide) ?_
              refine lv_icmp_ne (tgt := 139) hx hb dX9_readRule_132 (by decide) (fun c_167 => ?_) (fun c_167 => absurd c_167 (by rw [g_eq rfl t_30]; omega))
              refine lv_iconst (v := 0) hx hb dX9_readRule_139 (by decide) ?_
              refine lv_istore_n (lv' := [(3, .int 0), (2, .int L2_24), (0, .ref mh), (1, .int p0)]) hx hb dX9_readRule_140 rfl hl (by decide) rfl (fun ls hl => ?_)
              refine lv_goto (tgt := 404) hx hb dX9_readRule_141 (by decide) ?_
              refine lv_aload_n hx hb dX9_readRule_404 rfl (lv_at hl 2 rfl) ?_
              refine lv_iload_n hx hb dX9_readRule_405 rfl (lv_at hl 3 rfl) ?_
              have hPc := hP.sub (ws' := [(mh, .inr (9, G9 ma mcode mtoday moffs mmany msumW msumA msumR msumWW msumWA msumAA msumWR msumAR mupper mlower mrates mtaped mlaid_24 mat_24 mtk_24 mtkAt_24 mtkNumber_24 z_163 mlisted mdealtMany)), ((ma 32), .inl (E 2, 120, .inl mf32))]) [3, 4] rfl
              have hDc := hD.sub (ws' := [(mh, .inr (9, G9 ma mcode mtoday moffs mmany msumW msumA msumR msumWW msumWA msumAA msumWR msumAR mupper mlower mrates mtaped mlaid_24 mat_24 mtk_24 mtkAt_24 mtkNumber_24 z_163 mlisted mdealtMany)), ((ma 32), .inl (E 2, 120, .inl mf32))]) [3, 4] (by decide) rfl
              refine aft_v (runMV (rest := []) (As := [.int p0]) hx hb hml hown htb hK (g_X9_advance l D E mh ma mcode mtoday moffs mmany msumW msumA msumR msumWW msumWA msumAA msumWR msumAR mupper mlower mrates mtaped mlaid_24 mat_24 mtk_24 mtkAt_24 mtkNumber_24 z_163 mlisted mdealtMany mf32 p0 _ (by (try dsimp only); omega) (by (try dsimp only); omega)) ok_X9_advance k_1338 k_1340 ks_55 k_9 k_1341 ⟨(Nat.le_of_ble_eq_true rfl), (Nat.le_of_ble_eq_true rfl)⟩ ⟨(Nat.le_of_ble_eq_true rfl), (Nat.le_of_ble_eq_true rfl)⟩ hl.1 (Nat.le_of_ble_eq_true rfl) rfl rfl dX9_readRule_406 hPc hDc rfl rfl 0 rfl) hP hD hS hA [3, 4] [0, 1, 2] (wr := [((ma 36), .inl (E 0, 384, .inl mf36_24)), ((ma 37), .inl (E 0, 384, .inl mf37_24)), ((ma 43), .inl (E 0, 130, .inl g_165))]) rfl rfl (by decide) (by decide) (fun u_170 H locs hw_169 hP hD hS => ?_)
              clear hPc hDc
              obtain ⟨w_171, w_172, w_173, w_174⟩ := u_170
              try dsimp only at hw_169
              have hP : va_P D vwCl [((ma 36), .inl (E 0, 384, .inl mf36_24)), ((ma 37), .inl (E 0, 384, .inl mf37_24)), ((ma 43), .inl (E 0, 130, .inl g_165)), (mh, .inr (9, G9 ma mcode mtoday moffs mmany msumW msumA msumR msumWW msumWA msumAA msumWR msumAR mupper mlower mrates mtaped mlaid_24 w_171 w_172 w_173 w_174 z_163 mlisted mdealtMany)), ((ma 32), .inl (E 2, 120, .inl mf32))] H := hP
              have hD := toW hP hD rfl
              refine lv_goto (tgt := 24) hx hb dX9_readRule_409 (by decide) ?_
              exact ih_9 0 w_171 w_172 w_173 w_174 z_163 g_165 L2_24 mlaid_24 mf36_24 mf37_24 _ _ _ (by have h0 := t_0; (try dsimp only); omega) (by have h0 := t_0; (try dsimp only); omega) (PI_cast pi_164 (by have h0 := t_0; (try dsimp only); omega)) v2_24 hP hD hS (lv_sub hl [0, 1, 2, 3] rfl)
            ·
              have ic_161 : r_158.toInt = 15 := (g_eq rfl t_15).mp c_161
              clear c_161
              refine lv_aload_n hx hb dX9_readRule_76 rfl (lv_at hl 2 rfl) ?_
              refine va_get (D := D) (ci := 9) (v := .int mtkAt_24) (C := RX9) (T := TX9) (N := 68) hx hb htb iX9 hown hK.1 hP 3 rfl rfl 41 (by decide) (htb _ k_999) (fun _ h9 => h9) rfl dX9_readRule_77 ?_
              have hP9 := hP.sub (ws' := [(mh, .inr (9, G9 ma mcode mtoday moffs mmany msumW msumA msumR msumWW msumWA msumAA msumWR msumAR mupper mlower mrates mtaped mlaid_24 mat_24 mtk_24 mtkAt_24 mtkNumber_24 mwaits_24 mlisted mdealtMany)), ((ma 32), .inl (E 2, 120, .inl mf32)), ((ma 36), .inl (E 0, 384, .inl mf36_24)), ((ma 37), .inl (E 0, 384, .inl mf37_24)), ((ma 43), .inl (E 0, 130, .inl mf43_24))]) [3, 4, 0, 1, 2] rfl
              have hD9 := hD.sub (ws' := [(mh, .inr (9, G9 ma mcode mtoday moffs mmany msumW msumA msumR msumWW msumWA msumAA msumWR msumAR mupper mlower mrates mtaped mlaid_24 mat_24 mtk_24 mtkAt_24 mtkNumber_24 mwaits_24 mlisted mdealtMany)), ((ma 32), .inl (E 2, 120, .inl mf32)), ((ma 36), .inl (E 0, 384, .inl mf36_24)), ((ma 37), .inl (E 0, 384, .inl mf37_24)), ((ma 43), .inl (E 0, 130, .inl mf43_24))]) [3, 4, 0, 1, 2] (by decide) rfl
              exact W.iret (v := mtkAt_24) hx hb hr (fun t ht hW => ⟨⟨mtkAt_24, (mf36_24, mf37_24, mf43_24, mat_24, mlaid_24, mtk_24, mtkAt_24, mtkNumber_24, mwaits_24), rfl, ⟨v2_24, (Or.inl (by (try dsimp only); omega))⟩, by rw [ht]; exact hP9, hD9⟩, hS.F ht⟩) hS.2.2 dX9_readRule_80
          ·
            have ic_157 : mtk_24.toInt ≠ 51 := mt (g_eq rfl t_51).mpr c_157
            clear c_157
            refine lv_aload_n hx hb dX9_readRule_50 rfl (lv_at hl 2 rfl) ?_
            refine va_get (D := D) (ci := 9) (v := .int mtk_24) (C := RX9) (T := TX9) (N := 68) hx hb htb iX9 hown hK.1 hP 3 rfl rfl 40 (by decide) (htb _ k_998) (fun _ h9 => h9) rfl dX9_readRule_51 ?_
            refine lv_iconst (v := 5) hx hb dX9_readRule_54 (by decide) ?_
            refine lv_icmp_eq (tgt := 67) hx hb dX9_readRule_55 (by decide) (fun c_175 => ?_) (fun c_175 => ?_)
            ·
              have ic_175 : mtk_24.toInt = 5 := (g_eq rfl t_5).mp c_175
              clear c_175
              refine lv_aload_n hx hb dX9_readRule_67 rfl (lv_at hl 2 rfl) ?_
              refine callRV (rest := []) (As := []) hx hb hml hown htb hK (g_X9_opened l D E mh ma mcode mtoday moffs mmany msumW msumA msumR msumWW msumWA msumAA msumWR msumAR mupper mlower mrates mtaped mlaid_24 mat_24 mtk_24 mtkAt_24 mtkNumber_24 mwaits_24 mlisted mdealtMany mf43_24 (by (try dsimp only); omega) (by (try dsimp only); omega)) ok_X9_opened k_1372 k_1374 ks_56 k_9 k_1375 ⟨(Nat.le_of_ble_eq_true rfl), (Nat.le_of_ble_eq_true rfl)⟩ ⟨(Nat.le_of_ble_eq_true rfl), (Nat.le_of_ble_eq_true rfl)⟩ hl.1 (Nat.le_of_ble_eq_true rfl) rfl rfl dX9_readRule_68 (hP.sub (ws' := [(mh, .inr (9, G9 ma mcode mtoday moffs mmany msumW msumA msumR msumWW msumWA msumAA msumWR msumAR mupper mlower mrates mtaped mlaid_24 mat_24 mtk_24 mtkAt_24 mtkNumber_24 mwaits_24 mlisted mdealtMany)), ((ma 43), .inl (E 0, 130, .inl mf43_24))]) [3, 2] rfl) rfl rfl 0 rfl (fun r_176 hw_177 => ?_)
              refine lv_bipush (v := 15) hx hb dX9_readRule_71 (by decide) ?_
              refine lv_icmp_ne (tgt := 81) hx hb dX9_readRule_73 (by decide) (fun c_179 => ?_) (fun c_179 => ?_)
              ·
                have ic_179 : r_176.toInt ≠ 15 := mt (g_eq rfl t_15).mpr c_179
                clear c_179
                refine lv_aload_n hx hb dX9_readRule_81 rfl (lv_at hl 2 rfl) ?_
                refine va_get (D := D) (ci := 9) (v := .ref (ma 43)) (C := RX9) (T := TX9) (N := 68) hx hb htb iX9 hown hK.1 hP 3 rfl rfl 43 (by decide) (htb _ k_1001) (fun _ h9 => h9) rfl dX9_readRule_82 ?_
                refine lv_aload_n hx hb dX9_readRule_85 rfl (lv_at hl 2 rfl) ?_
                refine va_get (D := D) (ci := 9) (v := .int mwaits_24) (C := RX9) (T := TX9) (N := 68) hx hb htb iX9 hown hK.1 hP 3 rfl rfl 44 (by decide) (htb _ k_1002) (fun _ h9 => h9) rfl dX9_readRule_86 ?_
                refine lv_aload_n hx hb dX9_readRule_89 rfl (lv_at hl 2 rfl) ?_
                refine va_get (D := D) (ci := 9) (v := .int mtk_24) (C := RX9) (T := TX9) (N := 68) hx hb htb iX9 hown hK.1 hP 3 rfl rfl 40 (by decide) (htb _ k_998) (fun _ h9 => h9) rfl dX9_readRule_90 ?_
                refine lv_bipush (v := 51) hx hb dX9_readRule_93 (by decide) ?_
                refine lv_icmp_ne (tgt := 103) hx hb dX9_readRule_95 (by decide) (fun c_180 => ?_) (fun c_180 => absurd c_180 (by rw [g_eq rfl t_51]; omega))
                refine lv_aload_n hx hb dX9_readRule_103 rfl (lv_at hl 2 rfl) ?_
                refine va_get (D := D) (ci := 9) (v := .int mtk_24) (C := RX9) (T := TX9) (N := 68) hx hb htb iX9 hown hK.1 hP 3 rfl rfl 40 (by decide) (htb _ k_998) (fun _ h9 => h9) rfl dX9_readRule_104 ?_
                refine va_iast hx hb hK.1 hP hD hS 2 0 rfl rfl (g_in rfl (by omega) (by omega)) dX9_readRule_107 (fun H locs hP hD hS => ?_)
                have hP : va_P D vwCl [((ma 36), .inl (E 0, 384, .inl mf36_24)), ((ma 37), .inl (E 0, 384, .inl mf37_24)), ((ma 43), .inl (E 0, 130, .inl (upd mf43_24 (mwaits_24 : Int32).toNatClampNeg mtk_24))), (mh, .inr (9, G9 ma mcode mtoday moffs mmany msumW msumA msumR msumWW msumWA msumAA msumWR msumAR mupper mlower mrates mtaped mlaid_24 mat_24 mtk_24 mtkAt_24 mtkNumber_24 mwaits_24 mlisted mdealtMany)), ((ma 32), .inl (E 2, 120, .inl mf32))] H := hP
                have hD := toW hP hD rfl
                refine lv_aload_n hx hb dX9_readRule_108 rfl (lv_at hl 2 rfl) ?_
                refine lv_dup hx hb dX9_readRule_109 rfl ?_
                refine va_get (D := D) (ci := 9) (v := .int mwaits_24) (C := RX9) (T := TX9) (N := 68) hx hb htb iX9 hown hK.1 hP 3 rfl rfl 44 (by decide) (htb _ k_1002) (fun _ h9 => h9) rfl dX9_readRule_110 ?_
                refine lv_iconst (v := 1) hx hb dX9_readRule_113 (by decide) ?_
                refine lv_iadd hx hb dX9_readRule_114 ?_
                refine lv_topi (fun z_181 ez_181 => ?_)
                have jz_181 : z_181.toInt = mwaits_24.toInt + 1 := by rw [ez_181]; exact g_add rfl t_1 (by omega) (by omega)
                refine va_put (D := D) (ci := 9) (v := .int z_181) (ty := .int) (C := RX9) (T := TX9) (N := 68) hx hb htb iX9 tyX9 tyX9_ok nmX9 hown hK.1 hP hD hS 3 rfl rfl 44 (by decide) (htb _ k_1002) (fun _ h9 => h9) rfl (by decide +kernel) rfl rfl (Nat.le_of_ble_eq_true rfl) dX9_readRule_115 (fun H locs hP hD hS => ?_)
                have hP : va_P D vwCl [((ma 36), .inl (E 0, 384, .inl mf36_24)), ((ma 37), .inl (E 0, 384, .inl mf37_24)), ((ma 43), .inl (E 0, 130, .inl (upd mf43_24 (mwaits_24 : Int32).toNatClampNeg mtk_24))), (mh, .inr (9, G9 ma mcode mtoday moffs mmany msumW msumA msumR msumWW msumWA msumAA msumWR msumAR mupper mlower mrates mtaped mlaid_24 mat_24 mtk_24 mtkAt_24 mtkNumber_24 z_181 mlisted mdealtMany)), ((ma 32), .inl (E 2, 120, .inl mf32))] H := hP
                have hD := toW hP hD rfl
                have pi_182 : PI mf36_24 (upd mf43_24 (mwaits_24 : Int32).toNatClampNeg mtk_24) mlaid_24 z_181 0 := PI_push v1_24 (by omega) jz_181 (by (try dsimp only); omega)
                generalize (upd mf43_24 (mwaits_24 : Int32).toNatClampNeg mtk_24) = g_183 at hP hD pi_182
                refine lv_aload_n hx hb dX9_readRule_118 rfl (lv_at hl 2 rfl) ?_
                refine va_get (D := D) (ci := 9) (v := .int mtk_24) (C := RX9) (T := TX9) (N := 68) hx hb htb iX9 hown hK.1 hP 3 rfl rfl 40 (by decide) (htb _ k_998) (fun _ h9 => h9) rfl dX9_readRule_119 ?_
                refine lv_iconst (v := 5) hx hb dX9_readRule_122 (by decide) ?_
                refine lv_icmp_eq (tgt := 135) hx hb dX9_readRule_123 (by decide) (fun c_184 => ?_) (fun c_184 => absurd (by rw [g_eq rfl t_5]; omega) c_184)
                refine lv_iconst (v := 1) hx hb dX9_readRule_135 (by decide) ?_
                refine lv_goto (tgt := 140) hx hb dX9_readRule_136 (by decide) ?_
                refine lv_istore_n (lv' := [(3, .int 1), (2, .int L2_24), (0, .ref mh), (1, .int p0)]) hx hb dX9_readRule_140 rfl hl (by decide) rfl (fun ls hl => ?_)
                refine lv_goto (tgt := 404) hx hb dX9_readRule_141 (by decide) ?_
                refine lv_aload_n hx hb dX9_readRule_404 rfl (lv_at hl 2 rfl) ?_
                refine lv_iload_n hx hb dX9_readRule_405 rfl (lv_at hl 3 rfl) ?_
                have hPc := hP.sub (ws' := [(mh, .inr (9, G9 ma mcode mtoday moffs mmany msumW msumA msumR msumWW msumWA msumAA msumWR msumAR mupper mlower mrates mtaped mlaid_24 mat_24 mtk_24 mtkAt_24 mtkNumber_24 z_181 mlisted mdealtMany)), ((ma 32), .inl (E 2, 120, .inl mf32))]) [3, 4] rfl
                have hDc := hD.sub (ws' := [(mh, .inr (9, G9 ma mcode mtoday moffs mmany msumW msumA msumR msumWW msumWA msumAA msumWR msumAR mupper mlower mrates mtaped mlaid_24 mat_24 mtk_24 mtkAt_24 mtkNumber_24 z_181 mlisted mdealtMany)), ((ma 32), .inl (E 2, 120, .inl mf32))]) [3, 4] (by decide) rfl
                refine aft_v (runMV (rest := []) (As := [.int p0]) hx hb hml hown htb hK (g_X9_advance l D E mh ma mcode mtoday moffs mmany msumW msumA msumR msumWW msumWA msumAA msumWR msumAR mupper mlower mrates mtaped mlaid_24 mat_24 mtk_24 mtkAt_24 mtkNumber_24 z_181 mlisted mdealtMany mf32 p0 _ (by (try dsimp only); omega) (by (try dsimp only); omega)) ok_X9_advance k_1338 k_1340 ks_55 k_9 k_1341 ⟨(Nat.le_of_ble_eq_true rfl), (Nat.le_of_ble_eq_true rfl)⟩ ⟨(Nat.le_of_ble_eq_true rfl), (Nat.le_of_ble_eq_true rfl)⟩ hl.1 (Nat.le_of_ble_eq_true rfl) rfl rfl dX9_readRule_406 hPc hDc rfl rfl 0 rfl) hP hD hS hA [3, 4] [0, 1, 2] (wr := [((ma 36), .inl (E 0, 384, .inl mf36_24)), ((ma 37), .inl (E 0, 384, .inl mf37_24)), ((ma 43), .inl (E 0, 130, .inl g_183))]) rfl rfl (by decide) (by decide) (fun u_187 H locs hw_186 hP hD hS => ?_)
                clear hPc hDc
                obtain ⟨w_188, w_189, w_190, w_191⟩ := u_187
                try dsimp only at hw_186
                have hP : va_P D vwCl [((ma 36), .inl (E 0, 384, .inl mf36_24)), ((ma 37), .inl (E 0, 384, .inl mf37_24)), ((ma 43), .inl (E 0, 130, .inl g_183)), (mh, .inr (9, G9 ma mcode mtoday moffs mmany msumW msumA msumR msumWW msumWA msumAA msumWR msumAR mupper mlower mrates mtaped mlaid_24 w_188 w_189 w_190 w_191 z_181 mlisted mdealtMany)), ((ma 32), .inl (E 2, 120, .inl mf32))] H := hP
                have hD := toW hP hD rfl
                refine lv_goto (tgt := 24) hx hb dX9_readRule_409 (by decide) ?_
                exact ih_9 1 w_188 w_189 w_190 w_191 z_181 g_183 L2_24 mlaid_24 mf36_24 mf37_24 _ _ _ (by have h0 := t_1; (try dsimp only); omega) (by have h0 := t_1; (try dsimp only); omega) (PI_cast pi_182 (by have h0 := t_1; (try dsimp only); omega)) v2_24 hP hD hS (lv_sub hl [0, 1, 2, 3] rfl)
              ·
                have ic_179 : r_176.toInt = 15 := (g_eq rfl t_15).mp c_179
                clear c_179
                refine lv_aload_n hx hb dX9_readRule_76 rfl (lv_at hl 2 rfl) ?_
                refine va_get (D := D) (ci := 9) (v := .int mtkAt_24) (C := RX9) (T := TX9) (N := 68) hx hb htb iX9 hown hK.1 hP 3 rfl rfl 41 (by decide) (htb _ k_999) (fun _ h9 => h9) rfl dX9_readRule_77 ?_
                have hP9 := hP.sub (ws' := [(mh, .inr (9, G9 ma mcode mtoday moffs mmany msumW msumA msumR msumWW msumWA msumAA msumWR msumAR mupper mlower mrates mtaped mlaid_24 mat_24 mtk_24 mtkAt_24 mtkNumber_24 mwaits_24 mlisted mdealtMany)), ((ma 32), .inl (E 2, 120, .inl mf32)), ((ma 36), .inl (E 0, 384, .inl mf36_24)), ((ma 37), .inl (E 0, 384, .inl mf37_24)), ((ma 43), .inl (E 0, 130, .inl mf43_24))]) [3, 4, 0, 1, 2] rfl
                have hD9 := hD.sub (ws' := [(mh, .inr (9, G9 ma mcode mtoday moffs mmany msumW msumA msumR msumWW msumWA msumAA msumWR msumAR mupper mlower mrates mtaped mlaid_24 mat_24 mtk_24 mtkAt_24 mtkNumber_24 mwaits_24 mlisted mdealtMany)), ((ma 32), .inl (E 2, 120, .inl mf32)), ((ma 36), .inl (E 0, 384, .inl mf36_24)), ((ma 37), .inl (E 0, 384, .inl mf37_24)), ((ma 43), .inl (E 0, 130, .inl mf43_24))]) [3, 4, 0, 1, 2] (by decide) rfl
                exact W.iret (v := mtkAt_24) hx hb hr (fun t ht hW => ⟨⟨mtkAt_24, (mf36_24, mf37_24, mf43_24, mat_24, mlaid_24, mtk_24, mtkAt_24, mtkNumber_24, mwaits_24), rfl, ⟨v2_24, (Or.inl (by (try dsimp only); omega))⟩, by rw [ht]; exact hP9, hD9⟩, hS.F ht⟩) hS.2.2 dX9_readRule_80
            ·
              have ic_175 : mtk_24.toInt ≠ 5 := mt (g_eq rfl t_5).mpr c_175
              clear c_175
              refine lv_aload_n hx hb dX9_readRule_58 rfl (lv_at hl 2 rfl) ?_
              refine va_get (D := D) (ci := 9) (v := .int mtk_24) (C := RX9) (T := TX9) (N := 68) hx hb htb iX9 hown hK.1 hP 3 rfl rfl 40 (by decide) (htb _ k_998) (fun _ h9 => h9) rfl dX9_readRule_59 ?_
              refine lv_bipush (v := 71) hx hb dX9_readRule_62 (by decide) ?_
              refine lv_icmp_ne (tgt := 144) hx hb dX9_readRule_64 (by decide) (fun c_192 => ?_) (fun c_192 => ?_)
              ·
                have ic_192 : mtk_24.toInt ≠ 71 := mt (g_eq rfl t_71).mpr c_192
                clear c_192
                refine lv_aload_n hx hb dX9_readRule_144 rfl (lv_at hl 2 rfl) ?_
                refine va_get (D := D) (ci := 9) (v := .int mtk_24) (C := RX9) (T := TX9) (N := 68) hx hb htb iX9 hown hK.1 hP 3 rfl rfl 40 (by decide) (htb _ k_998) (fun _ h9 => h9) rfl dX9_readRule_145 ?_
                refine lv_iconst (v := 1) hx hb dX9_readRule_148 (by decide) ?_
                refine lv_icmp_eq (tgt := 161) hx hb dX9_readRule_149 (by decide) (fun c_193 => ?_) (fun c_193 => ?_)
                ·
                  have ic_193 : mtk_24.toInt = 1 := (g_eq rfl t_1).mp c_193
                  clear c_193
                  refine lv_aload_n hx hb dX9_readRule_161 rfl (lv_at hl 2 rfl) ?_
                  refine lv_aload_n hx hb dX9_readRule_162 rfl (lv_at hl 2 rfl) ?_
                  refine va_get (D := D) (ci := 9) (v := .int mtk_24) (C := RX9) (T := TX9) (N := 68) hx hb htb iX9 hown hK.1 hP 3 rfl rfl 40 (by decide) (htb _ k_998) (fun _ h9 => h9) rfl dX9_readRule_163 ?_
                  refine lv_aload_n hx hb dX9_readRule_166 rfl (lv_at hl 2 rfl) ?_
                  refine va_get (D := D) (ci := 9) (v := .int mtkNumber_24) (C := RX9) (T := TX9) (N := 68) hx hb htb iX9 hown hK.1 hP 3 rfl rfl 42 (by decide) (htb _ k_1000) (fun _ h9 => h9) rfl dX9_readRule_167 ?_
                  have hPc := hP.sub (ws' := [(mh, .inr (9, G9 ma mcode mtoday moffs mmany msumW msumA msumR msumWW msumWA msumAA msumWR msumAR mupper mlower mrates mtaped mlaid_24 mat_24 mtk_24 mtkAt_24 mtkNumber_24 mwaits_24 mlisted mdealtMany)), ((ma 36), .inl (E 0, 384, .inl mf36_24)), ((ma 37), .inl (E 0, 384, .inl mf37_24))]) [3, 0, 1] rfl
                  have hDc := hD.sub (ws' := [(mh, .inr (9, G9 ma mcode mtoday moffs mmany msumW msumA msumR msumWW msumWA msumAA msumWR msumAR mupper mlower mrates mtaped mlaid_24 mat_24 mtk_24 mtkAt_24 mtkNumber_24 mwaits_24 mlisted mdealtMany)), ((ma 36), .inl (E 0, 384, .inl mf36_24)), ((ma 37), .inl (E 0, 384, .inl mf37_24))]) [3, 0, 1] (by decide) rfl
                  refine aft_v (runMV (rest := []) (As := [.int mtk_24, .int mtkNumber_24]) hx hb hml hown htb hK (g_X9_lay l D E mh ma mcode mtoday moffs mmany msumW msumA msumR msumWW msumWA msumAA msumWR msumAR mupper mlower mrates mtaped mlaid_24 mat_24 mtk_24 mtkAt_24 mtkNumber_24 mwaits_24 mlisted mdealtMany mf36_24 mf37_24 mtk_24 mtkNumber_24 _ (by (try dsimp only); omega) (by (try dsimp only); omega)) ok_X9_lay k_1376 k_1378 ks_57 k_9 k_1379 ⟨(Nat.le_of_ble_eq_true rfl), (Nat.le_of_ble_eq_true rfl)⟩ ⟨(Nat.le_of_ble_eq_true rfl), (Nat.le_of_ble_eq_true rfl)⟩ hl.1 (Nat.le_of_ble_eq_true rfl) rfl rfl dX9_readRule_170 hPc hDc rfl rfl 0 rfl) hP hD hS hA [3, 0, 1] [2, 4] (wr := [((ma 43), .inl (E 0, 130, .inl mf43_24)), ((ma 32), .inl (E 2, 120, .inl mf32))]) rfl rfl (by decide) (by decide) (fun u_196 H locs hw_195 hP hD hS => ?_)
                  clear hPc hDc
                  obtain ⟨w_197, w_198, w_199⟩ := u_196
                  try dsimp only at hw_195
                  have hP : va_P D vwCl [((ma 43), .inl (E 0, 130, .inl mf43_24)), ((ma 32), .inl (E 2, 120, .inl mf32)), (mh, .inr (9, G9 ma mcode mtoday moffs mmany msumW msumA msumR msumWW msumWA msumAA msumWR msumAR mupper mlower mrates mtaped w_199 mat_24 mtk_24 mtkAt_24 mtkNumber_24 mwaits_24 mlisted mdealtMany)), ((ma 36), .inl (E 0, 384, .inl w_197)), ((ma 37), .inl (E 0, 384, .inl w_198))] H := hP
                  have hD := toW hP hD rfl
                  obtain ⟨hw_195_0, hw_195_1⟩ := hw_195
                  rw [ix256 (a := mlaid_24) (g_add t_256 rfl (by omega) (by omega)) (by omega)] at hw_195_0
                  have low_201 : LOW mf36 w_197 := LOW_u v2_24 hw_195_0
                  have pi_200 : PI w_197 mf43_24 w_199 mwaits_24 1 := PI_opd v1_24 (by omega) (by omega) (by omega) hw_195_1 hw_195_0
                  refine lv_iconst (v := 0) hx hb dX9_readRule_173 (by decide) ?_
                  refine lv_istore_n (lv' := [(2, .int 0), (3, .int L3_24), (0, .ref mh), (1, .int p0)]) hx hb dX9_readRule_174 rfl hl (by decide) rfl (fun ls hl => ?_)
                  refine lv_goto (tgt := 404) hx hb dX9_readRule_175 (by decide) ?_
                  refine lv_aload_n hx hb dX9_readRule_404 rfl (lv_at hl 2 rfl) ?_
                  refine lv_iload_n hx hb dX9_readRule_405 rfl (lv_at hl 3 rfl) ?_
                  have hPc := hP.sub (ws' := [(mh, .inr (9, G9 ma mcode mtoday moffs mmany msumW msumA msumR msumWW msumWA msumAA msumWR msumAR mupper mlower mrates mtaped w_199 mat_24 mtk_24 mtkAt_24 mtkNumber_24 mwaits_24 mlisted mdealtMany)), ((ma 32), .inl (E 2, 120, .inl mf32))]) [2, 1] rfl
                  have hDc := hD.sub (ws' := [(mh, .inr (9, G9 ma mcode mtoday moffs mmany msumW msumA msumR msumWW msumWA msumAA msumWR msumAR mupper mlower mrates mtaped w_199 mat_24 mtk_24 mtkAt_24 mtkNumber_24 mwaits_24 mlisted mdealtMany)), ((ma 32), .inl (E 2, 120, .inl mf32))]) [2, 1] (by decide) rfl
                  refine aft_v (runMV (rest := []) (As := [.int p0]) hx hb hml hown htb hK (g_X9_advance l D E mh ma mcode mtoday moffs mmany msumW msumA msumR msumWW msumWA msumAA msumWR msumAR mupper mlower mrates mtaped w_199 mat_24 mtk_24 mtkAt_24 mtkNumber_24 mwaits_24 mlisted mdealtMany mf32 p0 _ (by (try dsimp only); omega) (by (try dsimp only); omega)) ok_X9_advance k_1338 k_1340 ks_55 k_9 k_1341 ⟨(Nat.le_of_ble_eq_true rfl), (Nat.le_of_ble_eq_true rfl)⟩ ⟨(Nat.le_of_ble_eq_true rfl), (Nat.le_of_ble_eq_true rfl)⟩ hl.1 (Nat.le_of_ble_eq_true rfl) rfl rfl dX9_readRule_406 hPc hDc rfl rfl 0 rfl) hP hD hS hA [2, 1] [0, 3, 4] (wr := [((ma 43), .inl (E 0, 130, .inl mf43_24)), ((ma 36), .inl (E 0, 384, .inl w_197)), ((ma 37), .inl (E 0, 384, .inl w_198))]) rfl rfl (by decide) (by decide) (fun u_204 H locs hw_203 hP hD hS => ?_)
                  clear hPc hDc
                  obtain ⟨w_205, w_206, w_207, w_208⟩ := u_204
                  try dsimp only at hw_203
                  have hP : va_P D vwCl [((ma 43), .inl (E 0, 130, .inl mf43_24)), ((ma 36), .inl (E 0, 384, .inl w_197)), ((ma 37), .inl (E 0, 384, .inl w_198)), (mh, .inr (9, G9 ma mcode mtoday moffs mmany msumW msumA msumR msumWW msumWA msumAA msumWR msumAR mupper mlower mrates mtaped w_199 w_205 w_206 w_207 w_208 mwaits_24 mlisted mdealtMany)), ((ma 32), .inl (E 2, 120, .inl mf32))] H := hP
                  have hD := toW hP hD rfl
                  refine lv_goto (tgt := 24) hx hb dX9_readRule_409 (by decide) ?_
                  have hP := hP.sub (ws' := [((ma 36), .inl (E 0, 384, .inl w_197)), ((ma 37), .inl (E 0, 384, .inl w_198)), ((ma 43), .inl (E 0, 130, .inl mf43_24)), (mh, .inr (9, G9 ma mcode mtoday moffs mmany msumW msumA msumR msumWW msumWA msumAA msumWR msumAR mupper mlower mrates mtaped w_199 w_205 w_206 w_207 w_208 mwaits_24 mlisted mdealtMany)), ((ma 32), .inl (E 2, 120, .inl mf32))]) [1, 2, 0, 3, 4] rfl
                  have hD := hD.sub (ws' := [((ma 36), .inl (E 0, 384, .inl w_197)), ((ma 37), .inl (E 0, 384, .inl w_198)), ((ma 43), .inl (E 0, 130, .inl mf43_24)), (mh, .inr (9, G9 ma mcode mtoday moffs mmany msumW msumA msumR msumWW msumWA msumAA msumWR msumAR mupper mlower mrates mtaped w_199 w_205 w_206 w_207 w_208 mwaits_24 mlisted mdealtMany)), ((ma 32), .inl (E 2, 120, .inl mf32))]) [1, 2, 0, 3, 4] (by decide) rfl
                  exact ih_9 L3_24 w_205 w_206 w_207 w_208 mwaits_24 mf43_24 0 w_199 w_197 w_198 _ _ _ (by have h0 := t_0; (try dsimp only); omega) (by have h0 := t_0; (try dsimp only); omega) (PI_cast pi_200 (by have h0 := t_0; (try dsimp only); omega)) low_201 hP hD hS (lv_sub hl [1, 0, 2, 3] rfl)
                ·
                  have ic_193 : mtk_24.toInt ≠ 1 := mt (g_eq rfl t_1).mpr c_193
                  clear c_193
                  refine lv_aload_n hx hb dX9_readRule_152 rfl (lv_at hl 2 rfl) ?_
                  refine va_get (D := D) (ci := 9) (v := .int mtk_24) (C := RX9) (T := TX9) (N := 68) hx hb htb iX9 hown hK.1 hP 3 rfl rfl 40 (by decide) (htb _ k_998) (fun _ h9 => h9) rfl dX9_readRule_153 ?_
                  refine lv_bipush (v := 100) hx hb dX9_readRule_156 (by decide) ?_
                  refine lv_icmp_lt (tgt := 178) hx hb dX9_readRule_158 (by decide) (fun c_209 => ?_) (fun c_209 => ?_)
                  ·
                    have ic_209 : mtk_24.toInt < 100 := by first | exact (g_lt rfl t_100).mp c_209 | (have h := mt (g_le t_100 rfl).mpr c_209; omega)
                    clear c_209
                    refine lv_aload_n hx hb dX9_readRule_178 rfl (lv_at hl 2 rfl) ?_
                    refine va_get (D := D) (ci := 9) (v := .int mtkAt_24) (C := RX9) (T := TX9) (N := 68) hx hb htb iX9 hown hK.1 hP 3 rfl rfl 41 (by decide) (htb _ k_999) (fun _ h9 => h9) rfl dX9_readRule_179 ?_
                    have hP9 := hP.sub (ws' := [(mh, .inr (9, G9 ma mcode mtoday moffs mmany msumW msumA msumR msumWW msumWA msumAA msumWR msumAR mupper mlower mrates mtaped mlaid_24 mat_24 mtk_24 mtkAt_24 mtkNumber_24 mwaits_24 mlisted mdealtMany)), ((ma 32), .inl (E 2, 120, .inl mf32)), ((ma 36), .inl (E 0, 384, .inl mf36_24)), ((ma 37), .inl (E 0, 384, .inl mf37_24)), ((ma 43), .inl (E 0, 130, .inl mf43_24))]) [3, 4, 0, 1, 2] rfl
                    have hD9 := hD.sub (ws' := [(mh, .inr (9, G9 ma mcode mtoday moffs mmany msumW msumA msumR msumWW msumWA msumAA msumWR msumAR mupper mlower mrates mtaped mlaid_24 mat_24 mtk_24 mtkAt_24 mtkNumber_24 mwaits_24 mlisted mdealtMany)), ((ma 32), .inl (E 2, 120, .inl mf32)), ((ma 36), .inl (E 0, 384, .inl mf36_24)), ((ma 37), .inl (E 0, 384, .inl mf37_24)), ((ma 43), .inl (E 0, 130, .inl mf43_24))]) [3, 4, 0, 1, 2] (by decide) rfl
                    exact W.iret (v := mtkAt_24) hx hb hr (fun t ht hW => ⟨⟨mtkAt_24, (mf36_24, mf37_24, mf43_24, mat_24, mlaid_24, mtk_24, mtkAt_24, mtkNumber_24, mwaits_24), rfl, ⟨v2_24, (Or.inl (by (try dsimp only); omega))⟩, by rw [ht]; exact hP9, hD9⟩, hS.F ht⟩) hS.2.2 dX9_readRule_182
                  ·
                    have ic_209 : 100 ≤ mtk_24.toInt := by first | exact (g_le t_100 rfl).mp c_209 | (have h := mt (g_lt rfl t_100).mpr c_209; omega)
                    clear c_209
                    refine lv_aload_n hx hb dX9_readRule_161 rfl (lv_at hl 2 rfl) ?_
                    refine lv_aload_n hx hb dX9_readRule_162 rfl (lv_at hl 2 rfl) ?_
                    refine va_get (D := D) (ci := 9) (v := .int mtk_24) (C := RX9) (T := TX9) (N := 68) hx hb htb iX9 hown hK.1 hP 3 rfl rfl 40 (by decide) (htb _ k_998) (fun _ h9 => h9) rfl dX9_readRule_163 ?_
                    refine lv_aload_n hx hb dX9_readRule_166 rfl (lv_at hl 2 rfl) ?_
                    refine va_get (D := D) (ci := 9) (v := .int mtkNumber_24) (C := RX9) (T := TX9) (N := 68) hx hb htb iX9 hown hK.1 hP 3 rfl rfl 42 (by decide) (htb _ k_1000) (fun _ h9 => h9) rfl dX9_readRule_167 ?_
                    have hPc := hP.sub (ws' := [(mh, .inr (9, G9 ma mcode mtoday moffs mmany msumW msumA msumR msumWW msumWA msumAA msumWR msumAR mupper mlower mrates mtaped mlaid_24 mat_24 mtk_24 mtkAt_24 mtkNumber_24 mwaits_24 mlisted mdealtMany)), ((ma 36), .inl (E 0, 384, .inl mf36_24)), ((ma 37), .inl (E 0, 384, .inl mf37_24))]) [3, 0, 1] rfl
                    have hDc := hD.sub (ws' := [(mh, .inr (9, G9 ma mcode mtoday moffs mmany msumW msumA msumR msumWW msumWA msumAA msumWR msumAR mupper mlower mrates mtaped mlaid_24 mat_24 mtk_24 mtkAt_24 mtkNumber_24 mwaits_24 mlisted mdealtMany)), ((ma 36), .inl (E 0, 384, .inl mf36_24)), ((ma 37), .inl (E 0, 384, .inl mf37_24))]) [3, 0, 1] (by decide) rfl
                    refine aft_v (runMV (rest := []) (As := [.int mtk_24, .int mtkNumber_24]) hx hb hml hown htb hK (g_X9_lay l D E mh ma mcode mtoday moffs mmany msumW msumA msumR msumWW msumWA msumAA msumWR msumAR mupper mlower mrates mtaped mlaid_24 mat_24 mtk_24 mtkAt_24 mtkNumber_24 mwaits_24 mlisted mdealtMany mf36_24 mf37_24 mtk_24 mtkNumber_24 _ (by (try dsimp only); omega) (by (try dsimp only); omega)) ok_X9_lay k_1376 k_1378 ks_57 k_9 k_1379 ⟨(Nat.le_of_ble_eq_true rfl), (Nat.le_of_ble_eq_true rfl)⟩ ⟨(Nat.le_of_ble_eq_true rfl), (Nat.le_of_ble_eq_true rfl)⟩ hl.1 (Nat.le_of_ble_eq_true rfl) rfl rfl dX9_readRule_170 hPc hDc rfl rfl 0 rfl) hP hD hS hA [3, 0, 1] [2, 4] (wr := [((ma 43), .inl (E 0, 130, .inl mf43_24)), ((ma 32), .inl (E 2, 120, .inl mf32))]) rfl rfl (by decide) (by decide) (fun u_212 H locs hw_211 hP hD hS => ?_)
                    clear hPc hDc
                    obtain ⟨w_213, w_214, w_215⟩ := u_212
                    try dsimp only at hw_211
                    have hP : va_P D vwCl [((ma 43), .inl (E 0, 130, .inl mf43_24)), ((ma 32), .inl (E 2, 120, .inl mf32)), (mh, .inr (9, G9 ma mcode mtoday moffs mmany msumW msumA msumR msumWW msumWA msumAA msumWR msumAR mupper mlower mrates mtaped w_215 mat_24 mtk_24 mtkAt_24 mtkNumber_24 mwaits_24 mlisted mdealtMany)), ((ma 36), .inl (E 0, 384, .inl w_213)), ((ma 37), .inl (E 0, 384, .inl w_214))] H := hP
                    have hD := toW hP hD rfl
                    obtain ⟨hw_211_0, hw_211_1⟩ := hw_211
                    rw [ix256 (a := mlaid_24) (g_add t_256 rfl (by omega) (by omega)) (by omega)] at hw_211_0
                    have low_217 : LOW mf36 w_213 := LOW_u v2_24 hw_211_0
                    have pi_216 : PI w_213 mf43_24 w_215 mwaits_24 1 := PI_opd v1_24 (by omega) (by omega) (by omega) hw_211_1 hw_211_0
                    refine lv_iconst (v := 0) hx hb dX9_readRule_173 (by decide) ?_
                    refine lv_istore_n (lv' := [(2, .int 0), (3, .int L3_24), (0, .ref mh), (1, .int p0)]) hx hb dX9_readRule_174 rfl hl (by decide) rfl (fun ls hl => ?_)
                    refine lv_goto (tgt := 404) hx hb dX9_readRule_175 (by decide) ?_
                    refine lv_aload_n hx hb dX9_readRule_404 rfl (lv_at hl 2 rfl) ?_
                    refine lv_iload_n hx hb dX9_readRule_405 rfl (lv_at hl 3 rfl) ?_
                    have hPc := hP.sub (ws' := [(mh, .inr (9, G9 ma mcode mtoday moffs mmany msumW msumA msumR msumWW msumWA msumAA msumWR msumAR mupper mlower mrates mtaped w_215 mat_24 mtk_24 mtkAt_24 mtkNumber_24 mwaits_24 mlisted mdealtMany)), ((ma 32), .inl (E 2, 120, .inl mf32))]) [2, 1] rfl
                    have hDc := hD.sub (ws' := [(mh, .inr (9, G9 ma mcode mtoday moffs mmany msumW msumA msumR msumWW msumWA msumAA msumWR msumAR mupper mlower mrates mtaped w_215 mat_24 mtk_24 mtkAt_24 mtkNumber_24 mwaits_24 mlisted mdealtMany)), ((ma 32), .inl (E 2, 120, .inl mf32))]) [2, 1] (by decide) rfl
                    refine aft_v (runMV (rest := []) (As := [.int p0]) hx hb hml hown htb hK (g_X9_advance l D E mh ma mcode mtoday moffs mmany msumW msumA msumR msumWW msumWA msumAA msumWR msumAR mupper mlower mrates mtaped w_215 mat_24 mtk_24 mtkAt_24 mtkNumber_24 mwaits_24 mlisted mdealtMany mf32 p0 _ (by (try dsimp only); omega) (by (try dsimp only); omega)) ok_X9_advance k_1338 k_1340 ks_55 k_9 k_1341 ⟨(Nat.le_of_ble_eq_true rfl), (Nat.le_of_ble_eq_true rfl)⟩ ⟨(Nat.le_of_ble_eq_true rfl), (Nat.le_of_ble_eq_true rfl)⟩ hl.1 (Nat.le_of_ble_eq_true rfl) rfl rfl dX9_readRule_406 hPc hDc rfl rfl 0 rfl) hP hD hS hA [2, 1] [0, 3, 4] (wr := [((ma 43), .inl (E 0, 130, .inl mf43_24)), ((ma 36), .inl (E 0, 384, .inl w_213)), ((ma 37), .inl (E 0, 384, .inl w_214))]) rfl rfl (by decide) (by decide) (fun u_220 H locs hw_219 hP hD hS => ?_)
                    clear hPc hDc
                    obtain ⟨w_221, w_222, w_223, w_224⟩ := u_220
                    try dsimp only at hw_219
                    have hP : va_P D vwCl [((ma 43), .inl (E 0, 130, .inl mf43_24)), ((ma 36), .inl (E 0, 384, .inl w_213)), ((ma 37), .inl (E 0, 384, .inl w_214)), (mh, .inr (9, G9 ma mcode mtoday moffs mmany msumW msumA msumR msumWW msumWA msumAA msumWR msumAR mupper mlower mrates mtaped w_215 w_221 w_222 w_223 w_224 mwaits_24 mlisted mdealtMany)), ((ma 32), .inl (E 2, 120, .inl mf32))] H := hP
                    have hD := toW hP hD rfl
                    refine lv_goto (tgt := 24) hx hb dX9_readRule_409 (by decide) ?_
                    have hP := hP.sub (ws' := [((ma 36), .inl (E 0, 384, .inl w_213)), ((ma 37), .inl (E 0, 384, .inl w_214)), ((ma 43), .inl (E 0, 130, .inl mf43_24)), (mh, .inr (9, G9 ma mcode mtoday moffs mmany msumW msumA msumR msumWW msumWA msumAA msumWR msumAR mupper mlower mrates mtaped w_215 w_221 w_222 w_223 w_224 mwaits_24 mlisted mdealtMany)), ((ma 32), .inl (E 2, 120, .inl mf32))]) [1, 2, 0, 3, 4] rfl
                    have hD := hD.sub (ws' := [((ma 36), .inl (E 0, 384, .inl w_213)), ((ma 37), .inl (E 0, 384, .inl w_214)), ((ma 43), .inl (E 0, 130, .inl mf43_24)), (mh, .inr (9, G9 ma mcode mtoday moffs mmany msumW msumA msumR msumWW msumWA msumAA msumWR msumAR mupper mlower mrates mtaped w_215 w_221 w_222 w_223 w_224 mwaits_24 mlisted mdealtMany)), ((ma 32), .inl (E 2, 120, .inl mf32))]) [1, 2, 0, 3, 4] (by decide) rfl
                    exact ih_9 L3_24 w_221 w_222 w_223 w_224 mwaits_24 mf43_24 0 w_215 w_213 w_214 _ _ _ (by have h0 := t_0; (try dsimp only); omega) (by have h0 := t_0; (try dsimp only); omega) (PI_cast pi_216 (by have h0 := t_0; (try dsimp only); omega)) low_217 hP hD hS (lv_sub hl [1, 0, 2, 3] rfl)
              ·
                have ic_192 : mtk_24.toInt = 71 := (g_eq rfl t_71).mp c_192
                clear c_192
                refine lv_aload_n hx hb dX9_readRule_67 rfl (lv_at hl 2 rfl) ?_
                refine callRV (rest := []) (As := []) hx hb hml hown htb hK (g_X9_opened l D E mh ma mcode mtoday moffs mmany msumW msumA msumR msumWW msumWA msumAA msumWR msumAR mupper mlower mrates mtaped mlaid_24 mat_24 mtk_24 mtkAt_24 mtkNumber_24 mwaits_24 mlisted mdealtMany mf43_24 (by (try dsimp only); omega) (by (try dsimp only); omega)) ok_X9_opened k_1372 k_1374 ks_56 k_9 k_1375 ⟨(Nat.le_of_ble_eq_true rfl), (Nat.le_of_ble_eq_true rfl)⟩ ⟨(Nat.le_of_ble_eq_true rfl), (Nat.le_of_ble_eq_true rfl)⟩ hl.1 (Nat.le_of_ble_eq_true rfl) rfl rfl dX9_readRule_68 (hP.sub (ws' := [(mh, .inr (9, G9 ma mcode mtoday moffs mmany msumW msumA msumR msumWW msumWA msumAA msumWR msumAR mupper mlower mrates mtaped mlaid_24 mat_24 mtk_24 mtkAt_24 mtkNumber_24 mwaits_24 mlisted mdealtMany)), ((ma 43), .inl (E 0, 130, .inl mf43_24))]) [3, 2] rfl) rfl rfl 0 rfl (fun r_225 hw_226 => ?_)
                refine lv_bipush (v := 15) hx hb dX9_readRule_71 (by decide) ?_
                refine lv_icmp_ne (tgt := 81) hx hb dX9_readRule_73 (by decide) (fun c_228 => ?_) (fun c_228 => ?_)
                ·
                  have ic_228 : r_225.toInt ≠ 15 := mt (g_eq rfl t_15).mpr c_228
                  clear c_228
                  refine lv_aload_n hx hb dX9_readRule_81 rfl (lv_at hl 2 rfl) ?_
                  refine va_get (D := D) (ci := 9) (v := .ref (ma 43)) (C := RX9) (T := TX9) (N := 68) hx hb htb iX9 hown hK.1 hP 3 rfl rfl 43 (by decide) (htb _ k_1001) (fun _ h9 => h9) rfl dX9_readRule_82 ?_
                  refine lv_aload_n hx hb dX9_readRule_85 rfl (lv_at hl 2 rfl) ?_
                  refine va_get (D := D) (ci := 9) (v := .int mwaits_24) (C := RX9) (T := TX9) (N := 68) hx hb htb iX9 hown hK.1 hP 3 rfl rfl 44 (by decide) (htb _ k_1002) (fun _ h9 => h9) rfl dX9_readRule_86 ?_
                  refine lv_aload_n hx hb dX9_readRule_89 rfl (lv_at hl 2 rfl) ?_
                  refine va_get (D := D) (ci := 9) (v := .int mtk_24) (C := RX9) (T := TX9) (N := 68) hx hb htb iX9 hown hK.1 hP 3 rfl rfl 40 (by decide) (htb _ k_998) (fun _ h9 => h9) rfl dX9_readRule_90 ?_
                  refine lv_bipush (v := 51) hx hb dX9_readRule_93 (by decide) ?_
                  refine lv_icmp_ne (tgt := 103) hx hb dX9_readRule_95 (by decide) (fun c_229 => ?_) (fun c_229 => absurd c_229 (by rw [g_eq rfl t_51]; omega))
                  refine lv_aload_n hx hb dX9_readRule_103 rfl (lv_at hl 2 rfl) ?_
                  refine va_get (D := D) (ci := 9) (v := .int mtk_24) (C := RX9) (T := TX9) (N := 68) hx hb htb iX9 hown hK.1 hP 3 rfl rfl 40 (by decide) (htb _ k_998) (fun _ h9 => h9) rfl dX9_readRule_104 ?_
                  refine va_iast hx hb hK.1 hP hD hS 2 0 rfl rfl (g_in rfl (by omega) (by omega)) dX9_readRule_107 (fun H locs hP hD hS => ?_)
                  have hP : va_P D vwCl [((ma 36), .inl (E 0, 384, .inl mf36_24)), ((ma 37), .inl (E 0, 384, .inl mf37_24)), ((ma 43), .inl (E 0, 130, .inl (upd mf43_24 (mwaits_24 : Int32).toNatClampNeg mtk_24))), (mh, .inr (9, G9 ma mcode mtoday moffs mmany msumW msumA msumR msumWW msumWA msumAA msumWR msumAR mupper mlower mrates mtaped mlaid_24 mat_24 mtk_24 mtkAt_24 mtkNumber_24 mwaits_24 mlisted mdealtMany)), ((ma 32), .inl (E 2, 120, .inl mf32))] H := hP
                  have hD := toW hP hD rfl
                  refine lv_aload_n hx hb dX9_readRule_108 rfl (lv_at hl 2 rfl) ?_
                  refine lv_dup hx hb dX9_readRule_109 rfl ?_
                  refine va_get (D := D) (ci := 9) (v := .int mwaits_24) (C := RX9) (T := TX9) (N := 68) hx hb htb iX9 hown hK.1 hP 3 rfl rfl 44 (by decide) (htb _ k_1002) (fun _ h9 => h9) rfl dX9_readRule_110 ?_
                  refine lv_iconst (v := 1) hx hb dX9_readRule_113 (by decide) ?_
                  refine lv_iadd hx hb dX9_readRule_114 ?_
                  refine lv_topi (fun z_230 ez_230 => ?_)
                  have jz_230 : z_230.toInt = mwaits_24.toInt + 1 := by rw [ez_230]; exact g_add rfl t_1 (by omega) (by omega)
                  refine va_put (D := D) (ci := 9) (v := .int z_230) (ty := .int) (C := RX9) (T := TX9) (N := 68) hx hb htb iX9 tyX9 tyX9_ok nmX9 hown hK.1 hP hD hS 3 rfl rfl 44 (by decide) (htb _ k_1002) (fun _ h9 => h9) rfl (by decide +kernel) rfl rfl (Nat.le_of_ble_eq_true rfl) dX9_readRule_115 (fun H locs hP hD hS => ?_)
                  have hP : va_P D vwCl [((ma 36), .inl (E 0, 384, .inl mf36_24)), ((ma 37), .inl (E 0, 384, .inl mf37_24)), ((ma 43), .inl (E 0, 130, .inl (upd mf43_24 (mwaits_24 : Int32).toNatClampNeg mtk_24))), (mh, .inr (9, G9 ma mcode mtoday moffs mmany msumW msumA msumR msumWW msumWA msumAA msumWR msumAR mupper mlower mrates mtaped mlaid_24 mat_24 mtk_24 mtkAt_24 mtkNumber_24 z_230 mlisted mdealtMany)), ((ma 32), .inl (E 2, 120, .inl mf32))] H := hP
                  have hD := toW hP hD rfl
                  have pi_231 : PI mf36_24 (upd mf43_24 (mwaits_24 : Int32).toNatClampNeg mtk_24) mlaid_24 z_230 0 := PI_push v1_24 (by omega) jz_230 (by (try dsimp only); omega)
                  generalize (upd mf43_24 (mwaits_24 : Int32).toNatClampNeg mtk_24) = g_232 at hP hD pi_231
                  refine lv_aload_n hx hb dX9_readRule_118 rfl (lv_at hl 2 rfl) ?_
                  refine va_get (D := D) (ci := 9) (v := .int mtk_24) (C := RX9) (T := TX9) (N := 68) hx hb htb iX9 hown hK.1 hP 3 rfl rfl 40 (by decide) (htb _ k_998) (fun _ h9 => h9) rfl dX9_readRule_119 ?_
                  refine lv_iconst (v := 5) hx hb dX9_readRule_122 (by decide) ?_
                  refine lv_icmp_eq (tgt := 135) hx hb dX9_readRule_123 (by decide) (fun c_233 => absurd c_233 (by rw [g_eq rfl t_5]; omega)) (fun c_233 => ?_)
                  refine lv_aload_n hx hb dX9_readRule_126 rfl (lv_at hl 2 rfl) ?_
                  refine va_get (D := D) (ci := 9) (v := .int mtk_24) (C := RX9) (T := TX9) (N := 68) hx hb htb iX9 hown hK.1 hP 3 rfl rfl 40 (by decide) (htb _ k_998) (fun _ h9 => h9) rfl dX9_readRule_127 ?_
                  refine lv_bipush (v := 30) hx hb dX9_readRule_130 (by decide) ?_
                  refine lv_icmp_ne (tgt := 139) hx hb dX9_readRule_132 (by decide) (fun c_234 => ?_) (fun c_234 => absurd c_234 (by rw [g_eq rfl t_30]; omega))
                  refine lv_iconst (v := 0) hx hb dX9_readRule_139 (by decide) ?_
                  refine lv_istore_n (lv' := [(3, .int 0), (2, .int L2_24), (0, .ref mh), (1, .int p0)]) hx hb dX9_readRule_140 rfl hl (by decide) rfl (fun ls hl => ?_)
                  refine lv_goto (tgt := 404) hx hb dX9_readRule_141 (by decide) ?_
                  refine lv_aload_n hx hb dX9_readRule_404 rfl (lv_at hl 2 rfl) ?_
                  refine lv_iload_n hx hb dX9_readRule_405 rfl (lv_at hl 3 rfl) ?_
                  have hPc := hP.sub (ws' := [(mh, .inr (9, G9 ma mcode mtoday moffs mmany msumW msumA msumR msumWW msumWA msumAA msumWR msumAR mupper mlower mrates mtaped mlaid_24 mat_24 mtk_24 mtkAt_24 mtkNumber_24 z_230 mlisted mdealtMany)), ((ma 32), .inl (E 2, 120, .inl mf32))]) [3, 4] rfl
                  have hDc := hD.sub (ws' := [(mh, .inr (9, G9 ma mcode mtoday moffs mmany msumW msumA msumR msumWW msumWA msumAA msumWR msumAR mupper mlower mrates mtaped mlaid_24 mat_24 mtk_24 mtkAt_24 mtkNumber_24 z_230 mlisted mdealtMany)), ((ma 32), .inl (E 2, 120, .inl mf32))]) [3, 4] (by decide) rfl
                  refine aft_v (runMV (rest := []) (As := [.int p0]) hx hb hml hown htb hK (g_X9_advance l D E mh ma mcode mtoday moffs mmany msumW msumA msumR msumWW msumWA msumAA msumWR msumAR mupper mlower mrates mtaped mlaid_24 mat_24 mtk_24 mtkAt_24 mtkNumber_24 z_230 mlisted mdealtMany mf32 p0 _ (by (try dsimp only); omega) (by (try dsimp only); omega)) ok_X9_advance k_1338 k_1340 ks_55 k_9 k_1341 ⟨(Nat.le_of_ble_eq_true rfl), (Nat.le_of_ble_eq_true rfl)⟩ ⟨(Nat.le_of_ble_eq_true rfl), (Nat.le_of_ble_eq_true rfl)⟩ hl.1 (Nat.le_of_ble_eq_true rfl) rfl rfl dX9_readRule_406 hPc hDc rfl rfl 0 rfl) hP hD hS hA [3, 4] [0, 1, 2] (wr := [((ma 36), .inl (E 0, 384, .inl mf36_24)), ((ma 37), .inl (E 0, 384, .inl mf37_24)), ((ma 43), .inl (E 0, 130, .inl g_232))]) rfl rfl (by decide) (by decide) (fun u_237 H locs hw_236 hP hD hS => ?_)
                  clear hPc hDc
                  obtain ⟨w_238, w_239, w_240, w_241⟩ := u_237
                  try dsimp only at hw_236
                  have hP : va_P D vwCl [((ma 36), .inl (E 0, 384, .inl mf36_24)), ((ma 37), .inl (E 0, 384, .inl mf37_24)), ((ma 43), .inl (E 0, 130, .inl g_232)), (mh, .inr (9, G9 ma mcode mtoday moffs mmany msumW msumA msumR msumWW msumWA msumAA msumWR msumAR mupper mlower mrates mtaped mlaid_24 w_238 w_239 w_240 w_241 z_230 mlisted mdealtMany)), ((ma 32), .inl (E 2, 120, .inl mf32))] H := hP
                  have hD := toW hP hD rfl
                  refine lv_goto (tgt := 24) hx hb dX9_readRule_409 (by decide) ?_
                  exact ih_9 0 w_238 w_239 w_240 w_241 z_230 g_232 L2_24 mlaid_24 mf36_24 mf37_24 _ _ _ (by have h0 := t_0; (try dsimp only); omega) (by have h0 := t_0; (try dsimp only); omega) (PI_cast pi_231 (by have h0 := t_0; (try dsimp only); omega)) v2_24 hP hD hS (lv_sub hl [0, 1, 2, 3] rfl)
                ·
                  have ic_228 : r_225.toInt = 15 := (g_eq rfl t_15).mp c_228
                  clear c_228
                  refine lv_aload_n hx hb dX9_readRule_76 rfl (lv_at hl 2 rfl) ?_
                  refine va_get (D := D) (ci := 9) (v := .int mtkAt_24) (C := RX9) (T := TX9) (N := 68) hx hb htb iX9 hown hK.1 hP 3 rfl rfl 41 (by decide) (htb _ k_999) (fun _ h9 => h9) rfl dX9_readRule_77 ?_
                  have hP9 := hP.sub (ws' := [(mh, .inr (9, G9 ma mcode mtoday moffs mmany msumW msumA msumR msumWW msumWA msumAA msumWR msumAR mupper mlower mrates mtaped mlaid_24 mat_24 mtk_24 mtkAt_24 mtkNumber_24 mwaits_24 mlisted mdealtMany)), ((ma 32), .inl (E 2, 120, .inl mf32)), ((ma 36), .inl (E 0, 384, .inl mf36_24)), ((ma 37), .inl (E 0, 384, .inl mf37_24)), ((ma 43), .inl (E 0, 130, .inl mf43_24))]) [3, 4, 0, 1, 2] rfl
                  have hD9 := hD.sub (ws' := [(mh, .inr (9, G9 ma mcode mtoday moffs mmany msumW msumA msumR msumWW msumWA msumAA msumWR msumAR mupper mlower mrates mtaped mlaid_24 mat_24 mtk_24 mtkAt_24 mtkNumber_24 mwaits_24 mlisted mdealtMany)), ((ma 32), .inl (E 2, 120, .inl mf32)), ((ma 36), .inl (E 0, 384, .inl mf36_24)), ((ma 37), .inl (E 0, 384, .inl mf37_24)), ((ma 43), .inl (E 0, 130, .inl mf43_24))]) [3, 4, 0, 1, 2] (by decide) rfl
                  exact W.iret (v := mtkAt_24) hx hb hr (fun t ht hW => ⟨⟨mtkAt_24, (mf36_24, mf37_24, mf43_24, mat_24, mlaid_24, mtk_24, mtkAt_24, mtkNumber_24, mwaits_24), rfl, ⟨v2_24, (Or.inl (by (try dsimp only); omega))⟩, by rw [ht]; exact hP9, hD9⟩, hS.F ht⟩) hS.2.2 dX9_readRule_80
        ·
          have ic_156 : mtk_24.toInt = 30 := (g_eq rfl t_30).mp c_156
          clear c_156
          refine lv_iload_n hx hb dX9_readRule_37 rfl (lv_at hl 0 rfl) ?_
          refine lv_if_ne (tgt := 67) hx hb dX9_readRule_38 (by decide) (fun c_242 => ?_) (fun c_242 => ?_)
          ·
            have ic_242 : L3_24.toInt ≠ 0 := mt (g_eq rfl t_0).mpr c_242
            clear c_242
            refine lv_aload_n hx hb dX9_readRule_67 rfl (lv_at hl 2 rfl) ?_
            refine callRV (rest := []) (As := []) hx hb hml hown htb hK (g_X9_opened l D E mh ma mcode mtoday moffs mmany msumW msumA msumR msumWW msumWA msumAA msumWR msumAR mupper mlower mrates mtaped mlaid_24 mat_24 mtk_24 mtkAt_24 mtkNumber_24 mwaits_24 mlisted mdealtMany mf43_24 (by (try dsimp only); omega) (by (try dsimp only); omega)) ok_X9_opened k_1372 k_1374 ks_56 k_9 k_1375 ⟨(Nat.le_of_ble_eq_true rfl), (Nat.le_of_ble_eq_true rfl)⟩ ⟨(Nat.le_of_ble_eq_true rfl), (Nat.le_of_ble_eq_true rfl)⟩ hl.1 (Nat.le_of_ble_eq_true rfl) rfl rfl dX9_readRule_68 (hP.sub (ws' := [(mh, .inr (9, G9 ma mcode mtoday moffs mmany msumW msumA msumR msumWW msumWA msumAA msumWR msumAR mupper mlower mrates mtaped mlaid_24 mat_24 mtk_24 mtkAt_24 mtkNumber_24 mwaits_24 mlisted mdealtMany)), ((ma 43), .inl (E 0, 130, .inl mf43_24))]) [3, 2] rfl) rfl rfl 0 rfl (fun r_243 hw_244 => ?_)
            refine lv_bipush (v := 15) hx hb dX9_readRule_71 (by decide) ?_
            refine lv_icmp_ne (tgt := 81) hx hb dX9_readRule_73 (by decide) (fun c_246 => ?_) (fun c_246 => ?_)
            ·
              have ic_246 : r_243.toInt ≠ 15 := mt (g_eq rfl t_15).mpr c_246
              clear c_246
              refine lv_aload_n hx hb dX9_readRule_81 rfl (lv_at hl 2 rfl) ?_
              refine va_get (D := D) (ci := 9) (v := .ref (ma 43)) (C := RX9) (T := TX9) (N := 68) hx hb htb iX9 hown hK.1 hP 3 rfl rfl 43 (by decide) (htb _ k_1001) (fun _ h9 => h9) rfl dX9_readRule_82 ?_
              refine lv_aload_n hx hb dX9_readRule_85 rfl (lv_at hl 2 rfl) ?_
              refine va_get (D := D) (ci := 9) (v := .int mwaits_24) (C := RX9) (T := TX9) (N := 68) hx hb htb iX9 hown hK.1 hP 3 rfl rfl 44 (by decide) (htb _ k_1002) (fun _ h9 => h9) rfl dX9_readRule_86 ?_
              refine lv_aload_n hx hb dX9_readRule_89 rfl (lv_at hl 2 rfl) ?_
              refine va_get (D := D) (ci := 9) (v := .int mtk_24) (C := RX9) (T := TX9) (N := 68) hx hb htb iX9 hown hK.1 hP 3 rfl rfl 40 (by decide) (htb _ k_998) (fun _ h9 => h9) rfl dX9_readRule_90 ?_
              refine lv_bipush (v := 51) hx hb dX9_readRule_93 (by decide) ?_
              refine lv_icmp_ne (tgt := 103) hx hb dX9_readRule_95 (by decide) (fun c_247 => ?_) (fun c_247 => absurd c_247 (by rw [g_eq rfl t_51]; omega))
              refine lv_aload_n hx hb dX9_readRule_103 rfl (lv_at hl 2 rfl) ?_
              refine va_get (D := D) (ci := 9) (v := .int mtk_24) (C := RX9) (T := TX9) (N := 68) hx hb htb iX9 hown hK.1 hP 3 rfl rfl 40 (by decide) (htb _ k_998) (fun _ h9 => h9) rfl dX9_readRule_104 ?_
              refine va_iast hx hb hK.1 hP hD hS 2 0 rfl rfl (g_in rfl (by omega) (by omega)) dX9_readRule_107 (fun H locs hP hD hS => ?_)
              have hP : va_P D vwCl [((ma 36), .inl (E 0, 384, .inl mf36_24)), ((ma 37), .inl (E 0, 384, .inl mf37_24)), ((ma 43), .inl (E 0, 130, .inl (upd mf43_24 (mwaits_24 : Int32).toNatClampNeg mtk_24))), (mh, .inr (9, G9 ma mcode mtoday moffs mmany msumW msumA msumR msumWW msumWA msumAA msumWR msumAR mupper mlower mrates mtaped mlaid_24 mat_24 mtk_24 mtkAt_24 mtkNumber_24 mwaits_24 mlisted mdealtMany)), ((ma 32), .inl (E 2, 120, .inl mf32))] H := hP
              have hD := toW hP hD rfl
              refine lv_aload_n hx hb dX9_readRule_108 rfl (lv_at hl 2 rfl) ?_
              refine lv_dup hx hb dX9_readRule_109 rfl ?_
              refine va_get (D := D) (ci := 9) (v := .int mwaits_24) (C := RX9) (T := TX9) (N := 68) hx hb htb iX9 hown hK.1 hP 3 rfl rfl 44 (by decide) (htb _ k_1002) (fun _ h9 => h9) rfl dX9_readRule_110 ?_
              refine lv_iconst (v := 1) hx hb dX9_readRule_113 (by decide) ?_
              refine lv_iadd hx hb dX9_readRule_114 ?_
              refine lv_topi (fun z_248 ez_248 => ?_)
              have jz_248 : z_248.toInt = mwaits_24.toInt + 1 := by rw [ez_248]; exact g_add rfl t_1 (by omega) (by omega)
              refine va_put (D := D) (ci := 9) (v := .int z_248) (ty := .int) (C := RX9) (T := TX9) (N := 68) hx hb htb iX9 tyX9 tyX9_ok nmX9 hown hK.1 hP hD hS 3 rfl rfl 44 (by decide) (htb _ k_1002) (fun _ h9 => h9) rfl (by decide +kernel) rfl rfl (Nat.le_of_ble_eq_true rfl) dX9_readRule_115 (fun H locs hP hD hS => ?_)
              have hP : va_P D vwCl [((ma 36), .inl (E 0, 384, .inl mf36_24)), ((ma 37), .inl (E 0, 384, .inl mf37_24)), ((ma 43), .inl (E 0, 130, .inl (upd mf43_24 (mwaits_24 : Int32).toNatClampNeg mtk_24))), (mh, .inr (9, G9 ma mcode mtoday moffs mmany msumW msumA msumR msumWW msumWA msumAA msumWR msumAR mupper mlower mrates mtaped mlaid_24 mat_24 mtk_24 mtkAt_24 mtkNumber_24 z_248 mlisted mdealtMany)), ((ma 32), .inl (E 2, 120, .inl mf32))] H := hP
              have hD := toW hP hD rfl
              have pi_249 : PI mf36_24 (upd mf43_24 (mwaits_24 : Int32).toNatClampNeg mtk_24) mlaid_24 z_248 0 := PI_push v1_24 (by omega) jz_248 (by (try dsimp only); omega)
              generalize (upd mf43_24 (mwaits_24 : Int32).toNatClampNeg mtk_24) = g_250 at hP hD pi_249
              refine lv_aload_n hx hb dX9_readRule_118 rfl (lv_at hl 2 rfl) ?_
              refine va_get (D := D) (ci := 9) (v := .int mtk_24) (C := RX9) (T := TX9) (N := 68) hx hb htb iX9 hown hK.1 hP 3 rfl rfl 40 (by decide) (htb _ k_998) (fun _ h9 => h9) rfl dX9_readRule_119 ?_
              refine lv_iconst (v := 5) hx hb dX9_readRule_122 (by decide) ?_
              refine lv_icmp_eq (tgt := 135) hx hb dX9_readRule_123 (by decide) (fun c_251 => absurd c_251 (by rw [g_eq rfl t_5]; omega)) (fun c_251 => ?_)
              refine lv_aload_n hx hb dX9_readRule_126 rfl (lv_at hl 2 rfl) ?_
              refine va_get (D := D) (ci := 9) (v := .int mtk_24) (C := RX9) (T := TX9) (N := 68) hx hb htb iX9 hown hK.1 hP 3 rfl rfl 40 (by decide) (htb _ k_998) (fun _ h9 => h9) rfl dX9_readRule_127 ?_
              refine lv_bipush (v := 30) hx hb dX9_readRule_130 (by decide) ?_
              refine lv_icmp_ne (tgt := 139) hx hb dX9_readRule_132 (by decide) (fun c_252 => absurd (by rw [g_eq rfl t_30]; omega) c_252) (fun c_252 => ?_)
              refine lv_iconst (v := 1) hx hb dX9_readRule_135 (by decide) ?_
              refine lv_goto (tgt := 140) hx hb dX9_readRule_136 (by decide) ?_
              refine lv_istore_n (lv' := [(3, .int 1), (2, .int L2_24), (0, .ref mh), (1, .int p0)]) hx hb dX9_readRule_140 rfl hl (by decide) rfl (fun ls hl => ?_)
              refine lv_goto (tgt := 404) hx hb dX9_readRule_141 (by decide) ?_
              refine lv_aload_n hx hb dX9_readRule_404 rfl (lv_at hl 2 rfl) ?_
              refine lv_iload_n hx hb dX9_readRule_405 rfl (lv_at hl 3 rfl) ?_
              have hPc := hP.sub (ws' := [(mh, .inr (9, G9 ma mcode mtoday moffs mmany msumW msumA msumR msumWW msumWA msumAA msumWR msumAR mupper mlower mrates mtaped mlaid_24 mat_24 mtk_24 mtkAt_24 mtkNumber_24 z_248 mlisted mdealtMany)), ((ma 32), .inl (E 2, 120, .inl mf32))]) [3, 4] rfl
              have hDc := hD.sub (ws' := [(mh, .inr (9, G9 ma mcode mtoday moffs mmany msumW msumA msumR msumWW msumWA msumAA msumWR msumAR mupper mlower mrates mtaped mlaid_24 mat_24 mtk_24 mtkAt_24 mtkNumber_24 z_248 mlisted mdealtMany)), ((ma 32), .inl (E 2, 120, .inl mf32))]) [3, 4] (by decide) rfl
              refine aft_v (runMV (rest := []) (As := [.int p0]) hx hb hml hown htb hK (g_X9_advance l D E mh ma mcode mtoday moffs mmany msumW msumA msumR msumWW msumWA msumAA msumWR msumAR mupper mlower mrates mtaped mlaid_24 mat_24 mtk_24 mtkAt_24 mtkNumber_24 z_248 mlisted mdealtMany mf32 p0 _ (by (try dsimp only); omega) (by (try dsimp only); omega)) ok_X9_advance k_1338 k_1340 ks_55 k_9 k_1341 ⟨(Nat.le_of_ble_eq_true rfl), (Nat.le_of_ble_eq_true rfl)⟩ ⟨(Nat.le_of_ble_eq_true rfl), (Nat.le_of_ble_eq_true rfl)⟩ hl.1 (Nat.le_of_ble_eq_true rfl) rfl rfl dX9_readRule_406 hPc hDc rfl rfl 0 rfl) hP hD hS hA [3, 4] [0, 1, 2] (wr := [((ma 36), .inl (E 0, 384, .inl mf36_24)), ((ma 37), .inl (E 0, 384, .inl mf37_24)), ((ma 43), .inl (E 0, 130, .inl g_250))]) rfl rfl (by decide) (by decide) (fun u_255 H locs hw_254 hP hD hS => ?_)
              clear hPc hDc
              obtain ⟨w_256, w_257, w_258, w_259⟩ := u_255
              try dsimp only at hw_254
              have hP : va_P D vwCl [((ma 36), .inl (E 0, 384, .inl mf36_24)), ((ma 37), .inl (E 0, 384, .inl mf37_24)), ((ma 43), .inl (E 0, 130, .inl g_250)), (mh, .inr (9, G9 ma mcode mtoday moffs mmany msumW msumA msumR msumWW msumWA msumAA msumWR msumAR mupper mlower mrates mtaped mlaid_24 w_256 w_257 w_258 w_259 z_248 mlisted mdealtMany)), ((ma 32), .inl (E 2, 120, .inl mf32))] H := hP
              have hD := toW hP hD rfl
              refine lv_goto (tgt := 24) hx hb dX9_readRule_409 (by decide) ?_
              exact ih_9 1 w_256 w_257 w_258 w_259 z_248 g_250 L2_24 mlaid_24 mf36_24 mf37_24 _ _ _ (by have h0 := t_1; (try dsimp only); omega) (by have h0 := t_1; (try dsimp only); omega) (PI_cast pi_249 (by have h0 := t_1; (try dsimp only); omega)) v2_24 hP hD hS (lv_sub hl [0, 1, 2, 3] rfl)
            ·
              have ic_246 : r_243.toInt = 15 := (g_eq rfl t_15).mp c_246
              clear c_246
              refine lv_aload_n hx hb dX9_readRule_76 rfl (lv_at hl 2 rfl) ?_
              refine va_get (D := D) (ci := 9) (v := .int mtkAt_24) (C := RX9) (T := TX9) (N := 68) hx hb htb iX9 hown hK.1 hP 3 rfl rfl 41 (by decide) (htb _ k_999) (fun _ h9 => h9) rfl dX9_readRule_77 ?_
              have hP9 := hP.sub (ws' := [(mh, .inr (9, G9 ma mcode mtoday moffs mmany msumW msumA msumR msumWW msumWA msumAA msumWR msumAR mupper mlower mrates mtaped mlaid_24 mat_24 mtk_24 mtkAt_24 mtkNumber_24 mwaits_24 mlisted mdealtMany)), ((ma 32), .inl (E 2, 120, .inl mf32)), ((ma 36), .inl (E 0, 384, .inl mf36_24)), ((ma 37), .inl (E 0, 384, .inl mf37_24)), ((ma 43), .inl (E 0, 130, .inl mf43_24))]) [3, 4, 0, 1, 2] rfl
              have hD9 := hD.sub (ws' := [(mh, .inr (9, G9 ma mcode mtoday moffs mmany msumW msumA msumR msumWW msumWA msumAA msumWR msumAR mupper mlower mrates mtaped mlaid_24 mat_24 mtk_24 mtkAt_24 mtkNumber_24 mwaits_24 mlisted mdealtMany)), ((ma 32), .inl (E 2, 120, .inl mf32)), ((ma 36), .inl (E 0, 384, .inl mf36_24)), ((ma 37), .inl (E 0, 384, .inl mf37_24)), ((ma 43), .inl (E 0, 130, .inl mf43_24))]) [3, 4, 0, 1, 2] (by decide) rfl
              exact W.iret (v := mtkAt_24) hx hb hr (fun t ht hW => ⟨⟨mtkAt_24, (mf36_24, mf37_24, mf43_24, mat_24, mlaid_24, mtk_24, mtkAt_24, mtkNumber_24, mwaits_24), rfl, ⟨v2_24, (Or.inl (by (try dsimp only); omega))⟩, by rw [ht]; exact hP9, hD9⟩, hS.F ht⟩) hS.2.2 dX9_readRule_80
          ·
            have ic_242 : L3_24.toInt = 0 := (g_eq rfl t_0).mp c_242
            clear c_242
            refine lv_aload_n hx hb dX9_readRule_41 rfl (lv_at hl 2 rfl) ?_
            refine va_get (D := D) (ci := 9) (v := .int mtk_24) (C := RX9) (T := TX9) (N := 68) hx hb htb iX9 hown hK.1 hP 3 rfl rfl 40 (by decide) (htb _ k_998) (fun _ h9 => h9) rfl dX9_readRule_42 ?_
            refine lv_bipush (v := 51) hx hb dX9_readRule_45 (by decide) ?_
            refine lv_icmp_eq (tgt := 67) hx hb dX9_readRule_47 (by decide) (fun c_260 => absurd c_260 (by rw [g_eq rfl t_51]; omega)) (fun c_260 => ?_)
            refine lv_aload_n hx hb dX9_readRule_50 rfl (lv_at hl 2 rfl) ?_
            refine va_get (D := D) (ci := 9) (v := .int mtk_24) (C := RX9) (T := TX9) (N := 68) hx hb htb iX9 hown hK.1 hP 3 rfl rfl 40 (by decide) (htb _ k_998) (fun _ h9 => h9) rfl dX9_readRule_51 ?_
            refine lv_iconst (v := 5) hx hb dX9_readRule_54 (by decide) ?_
            refine lv_icmp_eq (tgt := 67) hx hb dX9_readRule_55 (by decide) (fun c_261 => absurd c_261 (by rw [g_eq rfl t_5]; omega)) (fun c_261 => ?_)
            refine lv_aload_n hx hb dX9_readRule_58 rfl (lv_at hl 2 rfl) ?_
            refine va_get (D := D) (ci := 9) (v := .int mtk_24) (C := RX9) (T := TX9) (N := 68) hx hb htb iX9 hown hK.1 hP 3 rfl rfl 40 (by decide) (htb _ k_998) (fun _ h9 => h9) rfl dX9_readRule_59 ?_
            refine lv_bipush (v := 71) hx hb dX9_readRule_62 (by decide) ?_
            refine lv_icmp_ne (tgt := 144) hx hb dX9_readRule_64 (by decide) (fun c_262 => ?_) (fun c_262 => absurd c_262 (by rw [g_eq rfl t_71]; omega))
            refine lv_aload_n hx hb dX9_readRule_144 rfl (lv_at hl 2 rfl) ?_
            refine va_get (D := D) (ci := 9) (v := .int mtk_24) (C := RX9) (T := TX9) (N := 68) hx hb htb iX9 hown hK.1 hP 3 rfl rfl 40 (by decide) (htb _ k_998) (fun _ h9 => h9) rfl dX9_readRule_145 ?_
            refine lv_iconst (v := 1) hx hb dX9_readRule_148 (by decide) ?_
            refine lv_icmp_eq (tgt := 161) hx hb dX9_readRule_149 (by decide) (fun c_263 => absurd c_263 (by rw [g_eq rfl t_1]; omega)) (fun c_263 => ?_)
            refine lv_aload_n hx hb dX9_readRule_152 rfl (lv_at hl 2 rfl) ?_
            refine va_get (D := D) (ci := 9) (v := .int mtk_24) (C := RX9) (T := TX9) (N := 68) hx hb htb iX9 hown hK.1 hP 3 rfl rfl 40 (by decide) (htb _ k_998) (fun _ h9 => h9) rfl dX9_readRule_153 ?_
            refine lv_bipush (v := 100) hx hb dX9_readRule_156 (by decide) ?_
            refine lv_icmp_lt (tgt := 178) hx hb dX9_readRule_158 (by decide) (fun c_264 => ?_) (fun c_264 => absurd (by rw [g_lt rfl t_100]; omega) c_264)
            refine lv_aload_n hx hb dX9_readRule_178 rfl (lv_at hl 2 rfl) ?_
            refine va_get (D := D) (ci := 9) (v := .int mtkAt_24) (C := RX9) (T := TX9) (N := 68) hx hb htb iX9 hown hK.1 hP 3 rfl rfl 41 (by decide) (htb _ k_999) (fun _ h9 => h9) rfl dX9_readRule_179 ?_
            have hP9 := hP.sub (ws' := [(mh, .inr (9, G9 ma mcode mtoday moffs mmany msumW msumA msumR msumWW msumWA msumAA msumWR msumAR mupper mlower mrates mtaped mlaid_24 mat_24 mtk_24 mtkAt_24 mtkNumber_24 mwaits_24 mlisted mdealtMany)), ((ma 32), .inl (E 2, 120, .inl mf32)), ((ma 36), .inl (E 0, 384, .inl mf36_24)), ((ma 37), .inl (E 0, 384, .inl mf37_24)), ((ma 43), .inl (E 0, 130, .inl mf43_24))]) [3, 4, 0, 1, 2] rfl
            have hD9 := hD.sub (ws' := [(mh, .inr (9, G9 ma mcode mtoday moffs mmany msumW msumA msumR msumWW msumWA msumAA msumWR msumAR mupper mlower mrates mtaped mlaid_24 mat_24 mtk_24 mtkAt_24 mtkNumber_24 mwaits_24 mlisted mdealtMany)), ((ma 32), .inl (E 2, 120, .inl mf32)), ((ma 36), .inl (E 0, 384, .inl mf36_24)), ((ma 37), .inl (E 0, 384, .inl mf37_24)), ((ma 43), .inl (E 0, 130, .inl mf43_24))]) [3, 4, 0, 1, 2] (by decide) rfl
            exact W.iret (v := mtkAt_24) hx hb hr (fun t ht hW => ⟨⟨mtkAt_24, (mf36_24, mf37_24, mf43_24, mat_24, mlaid_24, mtk_24, mtkAt_24, mtkNumber_24, mwaits_24), rfl, ⟨v2_24, (Or.inl (by (try dsimp only); omega))⟩, by rw [ht]; exact hP9, hD9⟩, hS.F ht⟩) hS.2.2 dX9_readRule_182
  exact loop_8 121 1 w_4 w_5 w_6 w_7 0 mf43 1 0 mf36 mf37 _ _ _ (by have h0 := t_0; have h1 := t_1; (try dsimp only); omega) (by have h0 := t_0; have h1 := t_1; (try dsimp only); omega) (PI_0 (by have h1 := t_1; omega)) LOW_r hP hD hS (lv_sub hl [0, 1, 2, 3] rfl)
set_option maxHeartbeats 4000000 in
set_option maxRecDepth 100000 in
theorem g_X9_rule (l : Launch) (D : va_G) (E : Nat → Nat) (mh : Nat) (ma : Nat → Nat) (mcode : Int32) (mtoday : Int32) (moffs : Int32) (mmany : Int64) (msumW : Int64) (msumA : Int64) (msumR : Int64) (msumWW : Int64) (msumWA : Int64) (msumAA : Int64) (msumWR : Int64) (msumAR : Int64) (mupper : Int64) (mlower : Int64) (mrates : Int32) (mtaped : Int32) (mlaid : Int32) (mat : Int32) (mtk : Int32) (mtkAt : Int32) (mtkNumber : Int32) (mwaits : Int32) (mlisted : Int32) (mdealtMany : Int32) (mf32 : Nat → Int32) (mf34 : Nat → Int32) (mf35 : Nat → Int32) (mf36 : Nat → Int32) (mf37 : Nat → Int32) (mf43 : Nat → Int32) (p0 : Int32) (sz : Nat) (hi_m : (0 ≤ mtoday.toInt ∧ mtoday.toInt ≤ 399) ∧ (0 ≤ moffs.toInt ∧ moffs.toInt ≤ 60) ∧ (0 ≤ mrates.toInt ∧ mrates.toInt ≤ 60) ∧ (0 ≤ mtaped.toInt ∧ mtaped.toInt ≤ 120) ∧ (0 ≤ mlisted.toInt ∧ mlisted.toInt ≤ 9) ∧ (0 ≤ mdealtMany.toInt ∧ mdealtMany.toInt ≤ 9)) (hr_m35 : ∀ k : Nat, k < 2 → 0 ≤ (mf35 k).toInt ∧ (mf35 k).toInt ≤ 127) (hjw : JW mf36 mf35) : Met l yX9_rule (wl yX9_rule cX9_rule 4 (some .int)) (RM 3 0 0) (mu_P D E [.ref mh, .int p0] [(mh, .inr (9, G9 ma mcode mtoday moffs mmany msumW msumA msumR msumWW msumWA msumAA msumWR msumAR mupper mlower mrates mtaped mlaid mat mtk mtkAt mtkNumber mwaits mlisted mdealtMany)), ((ma 32), .inl (E 2, 120, .inl mf32)), ((ma 34), .inl (E 1, 2, .inl mf34)), ((ma 35), .inl (E 0, 2, .inl mf35)), ((ma 36), .inl (E 0, 384, .inl mf36)), ((ma 37), .inl (E 0, 384, .inl mf37)), ((ma 43), .inl (E 0, 130, .inl mf43))] sz) (va_Qi (fun (r : Int32) (u : (Nat → Int32) × (Nat → Int32) × (Nat → Int32) × (Nat → Int32) × (Nat → Int32) × (Int32) × (Int32) × (Int32) × (Int32) × (Int32) × (Int32) × (Int32)) => (∀ k : Nat, k < 2 → 0 ≤ (u.2.1 k).toInt ∧ (u.2.1 k).toInt ≤ 127) ∧ (0 ≤ u.2.2.2.2.2.2.2.1.toInt ∧ u.2.2.2.2.2.2.2.1.toInt ≤ 120) ∧ (JW u.2.2.1 u.2.1) ∧ (((0 ≤ p0.toInt ∧ p0.toInt ≤ 1) ∧ u.2.2.2.2.2.2.2.1.toInt = 0) ∨ (¬ (0 ≤ p0.toInt ∧ p0.toInt ≤ 1) ∧ u.2.2.2.2.2.2.2.1.toInt = mtaped.toInt))) (mu_B D (va_A [(mh, .inr (9, G9 ma mcode mtoday moffs mmany msumW msumA msumR msumWW msumWA msumAA msumWR msumAR mupper mlower mrates mtaped mlaid mat mtk mtkAt mtkNumber mwaits mlisted mdealtMany)), ((ma 32), .inl (E 2, 120, .inl mf32)), ((ma 34), .inl (E 1, 2, .inl mf34)), ((ma 35), .inl (E 0, 2, .inl mf35)), ((ma 36), .inl (E 0, 384, .inl mf36)), ((ma 37), .inl (E 0, 384, .inl mf37)), ((ma 43), .inl (E 0, 130, .inl mf43))] sz) (fun (u : (Nat → Int32) × (Nat → Int32) × (Nat → Int32) × (Nat → Int32) × (Nat → Int32) × (Int32) × (Int32) × (Int32) × (Int32) × (Int32) × (Int32) × (Int32)) => [(mh, .inr (9, G9 ma mcode mtoday moffs mmany msumW msumA msumR msumWW msumWA msumAA msumWR msumAR mupper mlower mrates u.2.2.2.2.2.2.2.1 u.2.2.2.2.2.2.1 u.2.2.2.2.2.1 u.2.2.2.2.2.2.2.2.1 u.2.2.2.2.2.2.2.2.2.1 u.2.2.2.2.2.2.2.2.2.2.1 u.2.2.2.2.2.2.2.2.2.2.2 mlisted mdealtMany)), ((ma 32), .inl (E 2, 120, .inl mf32)), ((ma 34), .inl (E 1, 2, .inl u.1)), ((ma 35), .inl (E 0, 2, .inl u.2.1)), ((ma 36), .inl (E 0, 384, .inl u.2.2.1)), ((ma 37), .inl (E 0, 384, .inl u.2.2.2.1)), ((ma 43), .inl (E 0, 130, .inl u.2.2.2.2.1))])) (va_A [(mh, .inr (9, G9 ma mcode mtoday moffs mmany msumW msumA msumR msumWW msumWA msumAA msumWR msumAR mupper mlower mrates mtaped mlaid mat mtk mtkAt mtkNumber mwaits mlisted mdealtMany)), ((ma 32), .inl (E 2, 120, .inl mf32)), ((ma 34), .inl (E 1, 2, .inl mf34)), ((ma 35), .inl (E 0, 2, .inl mf35)), ((ma 36), .inl (E 0, 384, .inl mf36)), ((ma 37), .inl (E 0, 384, .inl mf37)), ((ma 43), .inl (E 0, 130, .inl mf43))] sz)) 0 0 (va_A [(mh, .inr (9, G9 ma mcode mtoday moffs mmany msumW msumA msumR msumWW msumWA msumAA msumWR msumAR mupper mlower mrates mtaped mlaid mat mtk mtkAt mtkNumber mwaits mlisted mdealtMany)), ((ma 32), .inl (E 2, 120, .inl mf32)), ((ma 34), .inl (E 1, 2, .inl mf34)), ((ma 35), .inl (E 0, 2, .inl mf35)), ((ma 36), .inl (E 0, 384, .inl mf36)), ((ma 37), .inl (E 0, 384, .inl mf37)), ((ma 43), .inl (E 0, 130, .inl mf43))] sz) := by
  refine Met.ofW (cc := cX9_rule) (maxL := 4) (ret := (some .int)) (by decide) rfl ?_
  intro p e s m args below meth c s₁ B hml hv
  obtain ⟨rfl, hsz, hP, hK, hD0⟩ := hv
  have hx := B.exec; have hb := B.bytes; have hr := B.returns
  have hts := atoms_spec (ws := wl yX9_rule cX9_rule 4 (some .int)) B.pre
  have htb : ∀ w ∈ tb, w.before _ s = true := fun w h => hts w (List.mem_cons_of_mem _ h)
  have hown : s.vm.findClass RX9 = some m.cls := findClass_of_methodNamed B.named
  have hlocks := B.notSynchronized
  subst hsz
  have hD := hD0.self (sz := s.heap.size)
  generalize hAe : va_A [(mh, .inr (9, G9 ma mcode mtoday moffs mmany msumW msumA msumR msumWW msumWA msumAA msumWR msumAR mupper mlower mrates mtaped mlaid mat mtk mtkAt mtkNumber mwaits mlisted mdealtMany)), ((ma 32), .inl (E 2, 120, .inl mf32)), ((ma 34), .inl (E 1, 2, .inl mf34)), ((ma 35), .inl (E 0, 2, .inl mf35)), ((ma 36), .inl (E 0, 384, .inl mf36)), ((ma 37), .inl (E 0, 384, .inl mf37)), ((ma 43), .inl (E 0, 130, .inl mf43))] s.heap.size = A at hD ⊢
  have hA : ∀ q : Nat, s.heap.size ≤ q → A q := fun q h => by rw [← hAe]; exact Or.inr h
  have hS : va_S A s.heap s.heap [] := va_S.rf
  have hP : va_P D vwCl [(mh, .inr (9, G9 ma mcode mtoday moffs mmany msumW msumA msumR msumWW msumWA msumAA msumWR msumAR mupper mlower mrates mtaped mlaid mat mtk mtkAt mtkNumber mwaits mlisted mdealtMany)), ((ma 32), .inl (E 2, 120, .inl mf32)), ((ma 34), .inl (E 1, 2, .inl mf34)), ((ma 35), .inl (E 0, 2, .inl mf35)), ((ma 36), .inl (E 0, 384, .inl mf36)), ((ma 37), .inl (E 0, 384, .inl mf37)), ((ma 43), .inl (E 0, 130, .inl mf43))] s.heap := hP
  have hl := lv_entry ([.ref mh, .int p0]) (n := 4) (Nat.le_of_ble_eq_true rfl)
  rw [lg_entry_eq]
  generalize (lg_sl ([.ref mh, .int p0]) ++ List.replicate (4 - (lg_sl ([.ref mh, .int p0])).length) Slot.unset).toArray = ls at hl ⊢
  have hl : lv_has ls 4 [(0, .ref mh), (1, .int p0)] := hl
  have lo_p0 := i_lo p0; have hi_p0 := i_hi p0
  refine lv_iload_n hx hb dX9_rule_0 rfl (lv_at hl 1 rfl) ?_
  refine lv_iconst (v := 0) hx hb dX9_rule_1 (by decide) ?_
  refine lv_iconst (v := 1) hx hb dX9_rule_2 (by decide) ?_
  refine callRS (rest := []) (As := [.int p0, .int 0, .int 1]) hx hb hml hown htb hK (g_X9_in l D E p0 0 1 ) ok_X9_in k_1168 k_1169 k_9 k_1170 ⟨(Nat.le_of_ble_eq_true rfl), (Nat.le_of_ble_eq_true rfl)⟩ ⟨(Nat.le_of_ble_eq_true rfl), (Nat.le_of_ble_eq_true rfl)⟩ hl.1 (Nat.le_of_ble_eq_true rfl) rfl rfl dX9_rule_3 (hP.sub (ws' := ([] : va_W)) [] rfl) (fun r_1 hw_2 => ?_)
  try simp only [t_0, t_1] at hw_2
  rcases hw_2 with ⟨hr_1, hw_2⟩ | ⟨hr_1, hw_2⟩
  ·
    try simp only [t_0, t_1] at hw_2
    refine W_top (y := .int 1) (by rw [hr_1]) ?_
    refine lv_if_ne (tgt := 11) hx hb dX9_rule_6 (by decide) (fun c_4 => ?_) (fun c_4 => absurd c_4 (by decide))
    refine lv_aload_n hx hb dX9_rule_11 rfl (lv_at hl 0 rfl) ?_
    refine lv_iload_n hx hb dX9_rule_12 rfl (lv_at hl 1 rfl) ?_
    have hPc := hP.sub (ws' := [(mh, .inr (9, G9 ma mcode mtoday moffs mmany msumW msumA msumR msumWW msumWA msumAA msumWR msumAR mupper mlower mrates mtaped mlaid mat mtk mtkAt mtkNumber mwaits mlisted mdealtMany)), ((ma 32), .inl (E 2, 120, .inl mf32)), ((ma 36), .inl (E 0, 384, .inl mf36)), ((ma 37), .inl (E 0, 384, .inl mf37)), ((ma 43), .inl (E 0, 130, .inl mf43))]) [0, 1, 4, 5, 6] rfl
    have hDc := hD.sub (ws' := [(mh, .inr (9, G9 ma mcode mtoday moffs mmany msumW msumA msumR msumWW msumWA msumAA msumWR msumAR mupper mlower mrates mtaped mlaid mat mtk mtkAt mtkNumber mwaits mlisted mdealtMany)), ((ma 32), .inl (E 2, 120, .inl mf32)), ((ma 36), .inl (E 0, 384, .inl mf36)), ((ma 37), .inl (E 0, 384, .inl mf37)), ((ma 43), .inl (E 0, 130, .inl mf43))]) [0, 1, 4, 5, 6] (by decide) rfl
    refine aft_i (runMV (rest := []) (As := [.int p0]) hx hb hml hown htb hK (g_X9_readRule l D E mh ma mcode mtoday moffs mmany msumW msumA msumR msumWW msumWA msumAA msumWR msumAR mupper mlower mrates mtaped mlaid mat mtk mtkAt mtkNumber mwaits mlisted mdealtMany mf32 mf36 mf37 mf43 p0 _ (by (try dsimp only); omega)) ok_X9_readRule k_1334 k_1336 ks_54 k_9 k_1337 ⟨(Nat.le_of_ble_eq_true rfl), (Nat.le_of_ble_eq_true rfl)⟩ ⟨(Nat.le_of_ble_eq_true rfl), (Nat.le_of_ble_eq_true rfl)⟩ hl.1 (Nat.le_of_ble_eq_true rfl) rfl rfl dX9_rule_13 hPc hDc rfl rfl 0 rfl) hP hD hS hA [0, 1, 4, 5, 6] [2, 3] (wr := [((ma 34), .inl (E 1, 2, .inl mf34)), ((ma 35), .inl (E 0, 2, .inl mf35))]) rfl rfl (by decide) (by decide) (fun r_5 u_7 H locs hw_6 hP hD hS => ?_)
    clear hPc hDc
    obtain ⟨w_8, w_9, w_10, w_11, w_12, w_13, w_14, w_15, w_16⟩ := u_7
    try dsimp only at hw_6
    have hP : va_P D vwCl [((ma 34), .inl (E 1, 2, .inl mf34)), ((ma 35), .inl (E 0, 2, .inl mf35)), (mh, .inr (9, G9 ma mcode mtoday moffs mmany msumW msumA msumR msumWW msumWA msumAA msumWR msumAR mupper mlower mrates mtaped w_12 w_11 w_13 w_14 w_15 w_16 mlisted mdealtMany)), ((ma 32), .inl (E 2, 120, .inl mf32)), ((ma 36), .inl (E 0, 384, .inl w_8)), ((ma 37), .inl (E 0, 384, .inl w_9)), ((ma 43), .inl (E 0, 130, .inl w_10))] H := hP
    have hD := toW hP hD rfl
    obtain ⟨hw_6_0, hw_6_1⟩ := hw_6
    rcases hw_6_1 with hw_6_1 | ⟨hw_6_1, hw_6_1wf, hw_6_1lo, hw_6_1hi⟩
    ·
      refine lv_istore_n (lv' := [(2, .int r_5), (0, .ref mh), (1, .int p0)]) hx hb dX9_rule_16 rfl hl (by decide) rfl (fun ls hl => ?_)
      refine lv_aload_n hx hb dX9_rule_17 rfl (lv_at hl 1 rfl) ?_
      refine lv_iconst (v := 0) hx hb dX9_rule_18 (by decide) ?_
      refine va_put (D := D) (ci := 9) (v := .int 0) (ty := .int) (C := RX9) (T := TX9) (N := 68) hx hb htb iX9 tyX9 tyX9_ok nmX9 hown hK.1 hP hD hS 2 rfl rfl 33 (by decide) (htb _ k_991) (fun _ h9 => h9) rfl (by decide +kernel) rfl rfl (Nat.le_of_ble_eq_true rfl) dX9_rule_19 (fun H locs hP hD hS => ?_)
      have hP : va_P D vwCl [((ma 34), .inl (E 1, 2, .inl mf34)), ((ma 35), .inl (E 0, 2, .inl mf35)), (mh, .inr (9, G9 ma mcode mtoday moffs mmany msumW msumA msumR msumWW msumWA msumAA msumWR msumAR mupper mlower mrates 0 w_12 w_11 w_13 w_14 w_15 w_16 mlisted mdealtMany)), ((ma 32), .inl (E 2, 120, .inl mf32)), ((ma 36), .inl (E 0, 384, .inl w_8)), ((ma 37), .inl (E 0, 384, .inl w_9)), ((ma 43), .inl (E 0, 130, .inl w_10))] H := hP
      have hD := toW hP hD rfl
      refine lv_iload_n hx hb dX9_rule_22 rfl (lv_at hl 0 rfl) ?_
      refine lv_if_lt (tgt := 31) hx hb dX9_rule_23 (by decide) (fun c_17 => absurd c_17 (by rw [g_lt rfl t_0]; omega)) (fun c_17 => ?_)
      refine lv_bipush (v := (-100)) hx hb dX9_rule_26 (by decide) ?_
      refine lv_iload_n hx hb dX9_rule_28 rfl (lv_at hl 0 rfl) ?_
      refine lv_isub hx hb dX9_rule_29 ?_
      refine lv_topi (fun z_18 ez_18 => ?_)
      have hP9 := hP.sub (ws' := [(mh, .inr (9, G9 ma mcode mtoday moffs mmany msumW msumA msumR msumWW msumWA msumAA msumWR msumAR mupper mlower mrates 0 w_12 w_11 w_13 w_14 w_15 w_16 mlisted mdealtMany)), ((ma 32), .inl (E 2, 120, .inl mf32)), ((ma 34), .inl (E 1, 2, .inl mf34)), ((ma 35), .inl (E 0, 2, .inl mf35)), ((ma 36), .inl (E 0, 384, .inl w_8)), ((ma 37), .inl (E 0, 384, .inl w_9)), ((ma 43), .inl (E 0, 130, .inl w_10))]) [2, 3, 0, 1, 4, 5, 6] rfl
      have hD9 := hD.sub (ws' := [(mh, .inr (9, G9 ma mcode mtoday moffs mmany msumW msumA msumR msumWW msumWA msumAA msumWR msumAR mupper mlower mrates 0 w_12 w_11 w_13 w_14 w_15 w_16 mlisted mdealtMany)), ((ma 32), .inl (E 2, 120, .inl mf32)), ((ma 34), .inl (E 1, 2, .inl mf34)), ((ma 35), .inl (E 0, 2, .inl mf35)), ((ma 36), .inl (E 0, 384, .inl w_8)), ((ma 37), .inl (E 0, 384, .inl w_9)), ((ma 43), .inl (E 0, 130, .inl w_10))]) [2, 3, 0, 1, 4, 5, 6] (by decide) rfl
      exact W.iret (v := z_18) hx hb hr (fun t ht hW => ⟨⟨z_18, (mf34, mf35, w_8, w_9, w_10, w_11, w_12, (0 : Int32), w_13, w_14, w_15, w_16), rfl, ⟨hr_m35, (by have h0 := t_0; (try dsimp only); omega), (JW_low hjw hr_m35 hw_6_0), (by have h0 := t_0; (try dsimp only); omega)⟩, by rw [ht]; exact hP9, hD9⟩, hS.F ht⟩) hS.2.2 dX9_rule_30
    ·
      refine lv_istore_n (lv' := [(2, .int r_5), (0, .ref mh), (1, .int p0)]) hx hb dX9_rule_16 rfl hl (by decide) rfl (fun ls hl => ?_)
      refine lv_aload_n hx hb dX9_rule_17 rfl (lv_at hl 1 rfl) ?_
      refine lv_iconst (v := 0) hx hb dX9_rule_18 (by decide) ?_
      refine va_put (D := D) (ci := 9) (v := .int 0) (ty := .int) (C := RX9) (T := TX9) (N := 68) hx hb htb iX9 tyX9 tyX9_ok nmX9 hown hK.1 hP hD hS 2 rfl rfl 33 (by decide) (htb _ k_991) (fun _ h9 => h9) rfl (by decide +kernel) rfl rfl (Nat.le_of_ble_eq_true rfl) dX9_rule_19 (fun H locs hP hD hS => ?_)
      have hP : va_P D vwCl [((ma 34), .inl (E 1, 2, .inl mf34)), ((ma 35), .inl (E 0, 2, .inl mf35)), (mh, .inr (9, G9 ma mcode mtoday moffs mmany msumW msumA msumR msumWW msumWA msumAA msumWR msumAR mupper mlower mrates 0 w_12 w_11 w_13 w_14 w_15 w_16 mlisted mdealtMany)), ((ma 32), .inl (E 2, 120, .inl mf32)), ((ma 36), .inl (E 0, 384, .inl w_8)), ((ma 37), .inl (E 0, 384, .inl w_9)), ((ma 43), .inl (E 0, 130, .inl w_10))] H := hP
      have hD := toW hP hD rfl
      refine lv_iload_n hx hb dX9_rule_22 rfl (lv_at hl 0 rfl) ?_
      refine lv_if_lt (tgt := 31) hx hb dX9_rule_23 (by decide) (fun c_19 => ?_) (fun c_19 => absurd (by rw [g_lt rfl t_0]; omega) c_19)
      refine lv_aload_n hx hb dX9_rule_31 rfl (lv_at hl 1 rfl) ?_
      refine va_get (D := D) (ci := 9) (v := .ref (ma 34)) (C := RX9) (T := TX9) (N := 68) hx hb htb iX9 hown hK.1 hP 2 rfl rfl 34 (by decide) (htb _ k_992) (fun _ h9 => h9) rfl dX9_rule_32 ?_
      refine lv_iload_n hx hb dX9_rule_35 rfl (lv_at hl 2 rfl) ?_
      refine lv_iconst (v := 1) hx hb dX9_rule_36 (by decide) ?_
      refine va_zast hx hb hK.1 hP hD hS 0 1 rfl rfl (g_in rfl (by omega) (by omega)) dX9_rule_37 (fun H locs hP hD hS => ?_)
      have hP : va_P D vwCl [((ma 34), .inl (E 1, 2, .inl (upd mf34 (p0 : Int32).toNatClampNeg (vp_nar .boolean 1)))), ((ma 35), .inl (E 0, 2, .inl mf35)), (mh, .inr (9, G9 ma mcode mtoday moffs mmany msumW msumA msumR msumWW msumWA msumAA msumWR msumAR mupper mlower mrates 0 w_12 w_11 w_13 w_14 w_15 w_16 mlisted mdealtMany)), ((ma 32), .inl (E 2, 120, .inl mf32)), ((ma 36), .inl (E 0, 384, .inl w_8)), ((ma 37), .inl (E 0, 384, .inl w_9)), ((ma 43), .inl (E 0, 130, .inl w_10))] H := hP
      have hD := toW hP hD rfl
      refine lv_aload_n hx hb dX9_rule_38 rfl (lv_at hl 1 rfl) ?_
      refine va_get (D := D) (ci := 9) (v := .ref (ma 35)) (C := RX9) (T := TX9) (N := 68) hx hb htb iX9 hown hK.1 hP 2 rfl rfl 35 (by decide) (htb _ k_993) (fun _ h9 => h9) rfl dX9_rule_39 ?_
      refine lv_iload_n hx hb dX9_rule_42 rfl (lv_at hl 2 rfl) ?_
      refine lv_aload_n hx hb dX9_rule_43 rfl (lv_at hl 1 rfl) ?_
      refine va_get (D := D) (ci := 9) (v := .int w_12) (C := RX9) (T := TX9) (N := 68) hx hb htb iX9 hown hK.1 hP 2 rfl rfl 38 (by decide) (htb _ k_996) (fun _ h9 => h9) rfl dX9_rule_44 ?_
      refine va_iast hx hb hK.1 hP hD hS 1 0 rfl rfl (g_in rfl (by omega) (by omega)) dX9_rule_47 (fun H locs hP hD hS => ?_)
      have hP : va_P D vwCl [((ma 34), .inl (E 1, 2, .inl (upd mf34 (p0 : Int32).toNatClampNeg (vp_nar .boolean 1)))), ((ma 35), .inl (E 0, 2, .inl (upd mf35 (p0 : Int32).toNatClampNeg w_12))), (mh, .inr (9, G9 ma mcode mtoday moffs mmany msumW msumA msumR msumWW msumWA msumAA msumWR msumAR mupper mlower mrates 0 w_12 w_11 w_13 w_14 w_15 w_16 mlisted mdealtMany)), ((ma 32), .inl (E 2, 120, .inl mf32)), ((ma 36), .inl (E 0, 384, .inl w_8)), ((ma 37), .inl (E 0, 384, .inl w_9)), ((ma 43), .inl (E 0, 130, .inl w_10))] H := hP
      have hD := toW hP hD rfl
      have hv_20 : ∀ k : Nat, k < 2 → 0 ≤ ((upd mf35 (p0 : Int32).toNatClampNeg w_12) k).toInt ∧ ((upd mf35 (p0 : Int32).toNatClampNeg w_12) k).toInt ≤ 127 := upd_r hr_m35 (by (try dsimp only); omega)
      refine lv_iconst (v := 0) hx hb dX9_rule_48 (by decide) ?_
      refine lv_istore_n (lv' := [(3, .int 0), (2, .int r_5), (0, .ref mh), (1, .int p0)]) hx hb dX9_rule_49 rfl hl (by decide) rfl (fun ls hl => ?_)
      have loop_21 : ∀ (N_23 : Nat) (L3_50 : Int32) (mf36_50 : Nat → Int32) (mf37_50 : Nat → Int32) (H : Heap) (locs : List Loc) (ls : Array Slot), w_12.toInt - L3_50.toInt < (N_23 : Int) → (0 ≤ L3_50.toInt ∧ L3_50.toInt ≤ w_12.toInt) → (CPY w_8 mf36_50 (128 * (p0).toNatClampNeg) (L3_50).toNatClampNeg) → va_P D vwCl [((ma 34), .inl (E 1, 2, .inl (upd mf34 (p0 : Int32).toNatClampNeg (vp_nar .boolean 1)))), ((ma 35), .inl (E 0, 2, .inl (upd mf35 (p0 : Int32).toNatClampNeg w_12))), (mh, .inr (9, G9 ma mcode mtoday moffs mmany msumW msumA msumR msumWW msumWA msumAA msumWR msumAR mupper mlower mrates 0 w_12 w_11 w_13 w_14 w_15 w_16 mlisted mdealtMany)), ((ma 32), .inl (E 2, 120, .inl mf32)), ((ma 36), .inl (E 0, 384, .inl mf36_50)), ((ma 37), .inl (E 0, 384, .inl mf37_50)), ((ma 43), .inl (E 0, 130, .inl w_10))] H → va_D A [((ma 34), .inl (E 1, 2, .inl (upd mf34 (p0 : Int32).toNatClampNeg (vp_nar .boolean 1)))), ((ma 35), .inl (E 0, 2, .inl (upd mf35 (p0 : Int32).toNatClampNeg w_12))), (mh, .inr (9, G9 ma mcode mtoday moffs mmany msumW msumA msumR msumWW msumWA msumAA msumWR msumAR mupper mlower mrates 0 w_12 w_11 w_13 w_14 w_15 w_16 mlisted mdealtMany)), ((ma 32), .inl (E 2, 120, .inl mf32)), ((ma 36), .inl (E 0, 384, .inl mf36_50)), ((ma 37), .inl (E 0, 384, .inl mf37_50)), ((ma 43), .inl (E 0, 130, .inl w_10))] → va_S A s.heap H locs → lv_has ls 4 [(3, .int L3_50), (2, .int r_5), (0, .ref mh), (1, .int p0)] → W p l e (headSpec (wl yX9_rule cX9_rule 4 (some .int)) (RM 3 0 0)).room s m [Value.ref mh, .int p0].toArray below meth c H locs 0 0 (MQ below (va_Qi (fun (r : Int32) (u : (Nat → Int32) × (Nat → Int32) × (Nat → Int32) × (Nat → Int32) × (Nat → Int32) × (Int32) × (Int32) × (Int32) × (Int32) × (Int32) × (Int32) × (Int32)) => (∀ k : Nat, k < 2 → 0 ≤ (u.2.1 k).toInt ∧ (u.2.1 k).toInt ≤ 127) ∧ (0 ≤ u.2.2.2.2.2.2.2.1.toInt ∧ u.2.2.2.2.2.2.2.1.toInt ≤ 120) ∧ (JW u.2.2.1 u.2.1) ∧ (((0 ≤ p0.toInt ∧ p0.toInt ≤ 1) ∧ u.2.2.2.2.2.2.2.1.toInt = 0) ∨ (¬ (0 ≤ p0.toInt ∧ p0.toInt ≤ 1) ∧ u.2.2.2.2.2.2.2.1.toInt = mtaped.toInt))) (mu_B D A (fun (u : (Nat → Int32) × (Nat → Int32) × (Nat → Int32) × (Nat → Int32) × (Nat → Int32) × (Int32) × (Int32) × (Int32) × (Int32) × (Int32) × (Int32) × (Int32)) => [(mh, .inr (9, G9 ma mcode mtoday moffs mmany msumW msumA msumR msumWW msumWA msumAA msumWR msumAR mupper mlower mrates u.2.2.2.2.2.2.2.1 u.2.2.2.2.2.2.1 u.2.2.2.2.2.1 u.2.2.2.2.2.2.2.2.1 u.2.2.2.2.2.2.2.2.2.1 u.2.2.2.2.2.2.2.2.2.2.1 u.2.2.2.2.2.2.2.2.2.2.2 mlisted mdealtMany)), ((ma 32), .inl (E 2, 120, .inl mf32)), ((ma 34), .inl (E 1, 2, .inl u.1)), ((ma 35), .inl (E 0, 2, .inl u.2.1)), ((ma 36), .inl (E 0, 384, .inl u.2.2.1)), ((ma 37), .inl (E 0, 384, .inl u.2.2.2.1)), ((ma 43), .inl (E 0, 130, .inl u.2.2.2.2.1))])) A) [Value.ref mh, .int p0].toArray s 0 0 A) (F0 m 50 ls []) := by
        intro N_23
        induction N_23 with
        | zero => intro L3_50 mf36_50 mf37_50 H locs ls hm v0_50 v1_50 _ _ _ _; exfalso; omega
        | succ N_23 ih_22 =>
          intro L3_50 mf36_50 mf37_50 H locs ls hm v0_50 v1_50 hP hD hS hl
          have lo_L3_50 := i_lo L3_50; have hi_L3_50 := i_hi L3_50
          refine lv_iload_n hx hb dX9_rule_50 rfl (lv_at hl 0 rfl) ?_
          refine lv_aload_n hx hb dX9_rule_51 rfl (lv_at hl 2 rfl) ?_
          refine va_get (D := D) (ci := 9) (v := .int w_12) (C := RX9) (T := TX9) (N := 68) hx hb htb iX9 hown hK.1 hP 2 rfl rfl 38 (by decide) (htb _ k_996) (fun _ h9 => h9) rfl dX9_rule_52 ?_
          refine lv_icmp_ge (tgt := 108) hx hb dX9_rule_55 (by decide) (fun c_24 => ?_) (fun c_24 => ?_)
          ·
            have ic_24 : w_12.toInt ≤ L3_50.toInt := by first | exact (g_le rfl rfl).mp c_24 | (have h := mt (g_lt rfl rfl).mpr c_24; omega)
            clear c_24
            refine lv_iconst (v := 1) hx hb dX9_rule_108 (by decide) ?_
            have hP9 := hP.sub (ws' := [(mh, .inr (9, G9 ma mcode mtoday moffs mmany msumW msumA msumR msumWW msumWA msumAA msumWR msumAR mupper mlower mrates 0 w_12 w_11 w_13 w_14 w_15 w_16 mlisted mdealtMany)), ((ma 32), .inl (E 2, 120, .inl mf32)), ((ma 34), .inl (E 1, 2, .inl (upd mf34 (p0 : Int32).toNatClampNeg (vp_nar .boolean 1)))), ((ma 35), .inl (E 0, 2, .inl (upd mf35 (p0 : Int32).toNatClampNeg w_12))), ((ma 36), .inl (E 0, 384, .inl mf36_50)), ((ma 37), .inl (E 0, 384, .inl mf37_50)), ((ma 43), .inl (E 0, 130, .inl w_10))]) [2, 3, 0, 1, 4, 5, 6] rfl
            have hD9 := hD.sub (ws' := [(mh, .inr (9, G9 ma mcode mtoday moffs mmany msumW msumA msumR msumWW msumWA msumAA msumWR msumAR mupper mlower mrates 0 w_12 w_11 w_13 w_14 w_15 w_16 mlisted mdealtMany)), ((ma 32), .inl (E 2, 120, .inl mf32)), ((ma 34), .inl (E 1, 2, .inl (upd mf34 (p0 : Int32).toNatClampNeg (vp_nar .boolean 1)))), ((ma 35), .inl (E 0, 2, .inl (upd mf35 (p0 : Int32).toNatClampNeg w_12))), ((ma 36), .inl (E 0, 384, .inl mf36_50)), ((ma 37), .inl (E 0, 384, .inl mf37_50)), ((ma 43), .inl (E 0, 130, .inl w_10))]) [2, 3, 0, 1, 4, 5, 6] (by decide) rfl
            exact W.iret (v := 1) hx hb hr (fun t ht hW => ⟨⟨1, ((upd mf34 (p0 : Int32).toNatClampNeg (vp_nar .boolean 1)), (upd mf35 (p0 : Int32).toNatClampNeg w_12), mf36_50, mf37_50, w_10, w_11, w_12, (0 : Int32), w_13, w_14, w_15, w_16), rfl, ⟨hv_20, (by have h0 := t_0; (try dsimp only); omega), (by have c0 := i_clamp0 (x := p0) (by omega); have c1 := i_clamp0 (x := w_12) (by omega); have c2 := i_clamp0 (x := L3_50) (by omega); exact JW_cpy (JW_low hjw hr_m35 hw_6_0) hr_m35 (by omega) (n := (L3_50).toNatClampNeg) (by omega) (by omega) (by rw [show (L3_50).toNatClampNeg = (w_12).toNatClampNeg by omega]; exact hw_6_1wf) v1_50), (by have h0 := t_0; (try dsimp only); omega)⟩, by rw [ht]; exact hP9, hD9⟩, hS.F ht⟩) hS.2.2 dX9_rule_109
          ·
            have ic_24 : L3_50.toInt < w_12.toInt := by first | exact (g_lt rfl rfl).mp c_24 | (have h := mt (g_le rfl rfl).mpr c_24; omega)
            clear c_24
            refine lv_aload_n hx hb dX9_rule_58 rfl (lv_at hl 2 rfl) ?_
            refine va_get (D := D) (ci := 9) (v := .ref (ma 36)) (C := RX9) (T := TX9) (N := 68) hx hb htb iX9 hown hK.1 hP 2 rfl rfl 36 (by decide) (htb _ k_994) (fun _ h9 => h9) rfl dX9_rule_59 ?_
            refine lv_sipush (v := 128) hx hb dX9_rule_62 (by decide) ?_
            refine lv_iload_n hx hb dX9_rule_65 rfl (lv_at hl 3 rfl) ?_
            refine lv_imul hx hb dX9_rule_66 ?_
            refine lv_topi (fun z_25 ez_25 => ?_)
            have jz_25 : z_25.toInt = 128 * p0.toInt := by rw [ez_25]; exact g_mul t_128 rfl (by omega) (by omega)
            refine lv_iload_n hx hb dX9_rule_67 rfl (lv_at hl 0 rfl) ?_
            refine lv_iadd hx hb dX9_rule_68 ?_
            refine lv_topi (fun z_26 ez_26 => ?_)
            have jz_26 : z_26.toInt = z_25.toInt + L3_50.toInt := by rw [ez_26]; exact g_add rfl rfl (by omega) (by omega)
            refine lv_aload_n hx hb dX9_rule_69 rfl (lv_at hl 2 rfl) ?_
            refine va_get (D := D) (ci := 9) (v := .ref (ma 36)) (C := RX9) (T := TX9) (N := 68) hx hb htb iX9 hown hK.1 hP 2 rfl rfl 36 (by decide) (htb _ k_994) (fun _ h9 => h9) rfl dX9_rule_70 ?_
            refine lv_sipush (v := 256) hx hb dX9_rule_73 (by decide) ?_
            refine lv_iload_n hx hb dX9_rule_76 rfl (lv_at hl 0 rfl) ?_
            refine lv_iadd hx hb dX9_rule_77 ?_
            refine lv_topi (fun z_27 ez_27 => ?_)
            have jz_27 : z_27.toInt = 256 + L3_50.toInt := by rw [ez_27]; exact g_add t_256 rfl (by omega) (by omega)
            refine va_iald hx hb hK.1 hP 4 0 rfl rfl (g_in rfl (by omega) (by omega)) dX9_rule_78 ?_
            refine lv_topi (fun z_28 ez_28 => ?_)
            have kz_28 := congrArg Int32.toInt ez_28
            refine va_iast hx hb hK.1 hP hD hS 4 0 rfl rfl (g_in rfl (by omega) (by omega)) dX9_rule_79 (fun H locs hP hD hS => ?_)
            have hP : va_P D vwCl [((ma 34), .inl (E 1, 2, .inl (upd mf34 (p0 : Int32).toNatClampNeg (vp_nar .boolean 1)))), ((ma 35), .inl (E 0, 2, .inl (upd mf35 (p0 : Int32).toNatClampNeg w_12))), (mh, .inr (9, G9 ma mcode mtoday moffs mmany msumW msumA msumR msumWW msumWA msumAA msumWR msumAR mupper mlower mrates 0 w_12 w_11 w_13 w_14 w_15 w_16 mlisted mdealtMany)), ((ma 32), .inl (E 2, 120, .inl mf32)), ((ma 36), .inl (E 0, 384, .inl (upd mf36_50 (z_26 : Int32).toNatClampNeg z_28))), ((ma 37), .inl (E 0, 384, .inl mf37_50)), ((ma 43), .inl (E 0, 130, .inl w_10))] H := hP
            have hD := toW hP hD rfl
            refine lv_aload_n hx hb dX9_rule_80 rfl (lv_at hl 2 rfl) ?_
            refine va_get (D := D) (ci := 9) (v := .ref (ma 37)) (C := RX9) (T := TX9) (N := 68) hx hb htb iX9 hown hK.1 hP 2 rfl rfl 37 (by decide) (htb _ k_995) (fun _ h9 => h9) rfl dX9_rule_81 ?_
            refine lv_sipush (v := 128) hx hb dX9_rule_84 (by decide) ?_
            refine lv_iload_n hx hb dX9_rule_87 rfl (lv_at hl 3 rfl) ?_
            refine lv_imul hx hb dX9_rule_88 ?_
            refine lv_topi (fun z_29 ez_29 => ?_)
            have jz_29 : z_29.toInt = 128 * p0.toInt := by rw [ez_29]; exact g_mul t_128 rfl (by omega) (by omega)
            refine lv_iload_n hx hb dX9_rule_89 rfl (lv_at hl 0 rfl) ?_
            refine lv_iadd hx hb dX9_rule_90 ?_
            refine lv_topi (fun z_30 ez_30 => ?_)
            have jz_30 : z_30.toInt = z_29.toInt + L3_50.toInt := by rw [ez_30]; exact g_add rfl rfl (by omega) (by omega)
            refine lv_aload_n hx hb dX9_rule_91 rfl (lv_at hl 2 rfl) ?_
            refine va_get (D := D) (ci := 9) (v := .ref (ma 37)) (C := RX9) (T := TX9) (N := 68) hx hb htb iX9 hown hK.1 hP 2 rfl rfl 37 (by decide) (htb _ k_995) (fun _ h9 => h9) rfl dX9_rule_92 ?_
            refine lv_sipush (v := 256) hx hb dX9_rule_95 (by decide) ?_
            refine lv_iload_n hx hb dX9_rule_98 rfl (lv_at hl 0 rfl) ?_
            refine lv_iadd hx hb dX9_rule_99 ?_
            refine lv_topi (fun z_31 ez_31 => ?_)
            have jz_31 : z_31.toInt = 256 + L3_50.toInt := by rw [ez_31]; exact g_add t_256 rfl (by omega) (by omega)
            refine va_iald hx hb hK.1 hP 5 0 rfl rfl (g_in rfl (by omega) (by omega)) dX9_rule_100 ?_
            refine lv_topi (fun z_32 ez_32 => ?_)
            have kz_32 := congrArg Int32.toInt ez_32
            refine va_iast hx hb hK.1 hP hD hS 5 0 rfl rfl (g_in rfl (by omega) (by omega)) dX9_rule_101 (fun H locs hP hD hS => ?_)
            have hP : va_P D vwCl [((ma 34), .inl (E 1, 2, .inl (upd mf34 (p0 : Int32).toNatClampNeg (vp_nar .boolean 1)))), ((ma 35), .inl (E 0, 2, .inl (upd mf35 (p0 : Int32).toNatClampNeg w_12))), (mh, .inr (9, G9 ma mcode mtoday moffs mmany msumW msumA msumR msumWW msumWA msumAA msumWR msumAR mupper mlower mrates 0 w_12 w_11 w_13 w_14 w_15 w_16 mlisted mdealtMany)), ((ma 32), .inl (E 2, 120, .inl mf32)), ((ma 36), .inl (E 0, 384, .inl (upd mf36_50 (z_26 : Int32).toNatClampNeg z_28))), ((ma 37), .inl (E 0, 384, .inl (upd mf37_50 (z_30 : Int32).toNatClampNeg z_32))), ((ma 43), .inl (E 0, 130, .inl w_10))] H := hP
            have hD := toW hP hD rfl
            obtain ⟨z_33, ez_33⟩ : ∃ y : Int32, y = L3_50 + 1 := ⟨_, rfl⟩
            have jz_33 : z_33.toInt = L3_50.toInt + 1 := by rw [ez_33]; exact g_add rfl t_1 (by omega) (by omega)
            refine lv_iinc (v := z_33) (lv' := [(3, .int z_33), (2, .int r_5), (0, .ref mh), (1, .int p0)]) hx hb dX9_rule_102 hl (k := 0) rfl (by rw [ez_33]; rfl) (by decide) rfl (fun ls hl => ?_)
            refine lv_goto (tgt := 50) hx hb dX9_rule_105 (by decide) ?_
            exact ih_22 z_33 (upd mf36_50 (z_26 : Int32).toNatClampNeg z_28) (upd mf37_50 (z_30 : Int32).toNatClampNeg z_32) _ _ _ (by have h0 := t_0; (try dsimp only); omega) (by have h0 := t_0; (try dsimp only); omega) (by have c0 := i_clamp0 (x := p0) (by omega); have c1 := i_clamp0 (x := L3_50) (by omega); have c2 := i_clamp0 (x := z_26) (by omega); have c3 := i_clamp0 (x := z_27) (by omega); rw [clampS (by omega) jz_33]; exact CPY_s v1_50 (by omega) (by omega) (by omega) ez_28) hP hD hS (lv_sub hl [0, 1, 2, 3] rfl)
      exact loop_21 121 0 w_8 w_9 _ _ _ (by have h0 := t_0; (try dsimp only); omega) (by have h0 := t_0; (try dsimp only); omega) (CPY_0 (by decide)) hP hD hS (lv_sub hl [0, 1, 2, 3] rfl)
  ·
    try simp only [t_0, t_1] at hw_2
    refine W_top (y := .int 0) (by rw [hr_1]) ?_
    refine lv_if_ne (tgt := 11) hx hb dX9_rule_6 (by decide) (fun c_34 => absurd (by decide) c_34) (fun c_34 => ?_)
    refine lv_iconst (v := (-1)) hx hb dX9_rule_9 (by decide) ?_
    have hP9 := hP.sub (ws' := [(mh, .inr (9, G9 ma mcode mtoday moffs mmany msumW msumA msumR msumWW msumWA msumAA msumWR msumAR mupper mlower mrates mtaped mlaid mat mtk mtkAt mtkNumber mwaits mlisted mdealtMany)), ((ma 32), .inl (E 2, 120, .inl mf32)), ((ma 34), .inl (E 1, 2, .inl mf34)), ((ma 35), .inl (E 0, 2, .inl mf35)), ((ma 36), .inl (E 0, 384, .inl mf36)), ((ma 37), .inl (E 0, 384, .inl mf37)), ((ma 43), .inl (E 0, 130, .inl mf43))]) [0, 1, 2, 3, 4, 5, 6] rfl
    have hD9 := hD.sub (ws' := [(mh, .inr (9, G9 ma mcode mtoday moffs mmany msumW msumA msumR msumWW msumWA msumAA msumWR msumAR mupper mlower mrates mtaped mlaid mat mtk mtkAt mtkNumber mwaits mlisted mdealtMany)), ((ma 32), .inl (E 2, 120, .inl mf32)), ((ma 34), .inl (E 1, 2, .inl mf34)), ((ma 35), .inl (E 0, 2, .inl mf35)), ((ma 36), .inl (E 0, 384, .inl mf36)), ((ma 37), .inl (E 0, 384, .inl mf37)), ((ma 43), .inl (E 0, 130, .inl mf43))]) [0, 1, 2, 3, 4, 5, 6] (by decide) rfl
    exact W.iret (v := (-1)) hx hb hr (fun t ht hW => ⟨⟨(-1), (mf34, mf35, mf36, mf37, mf43, mat, mlaid, mtaped, mtk, mtkAt, mtkNumber, mwaits), rfl, ⟨hr_m35, (by (try dsimp only); omega), hjw, (by (try dsimp only); omega)⟩, by rw [ht]; exact hP9, hD9⟩, hS.F ht⟩) hS.2.2 dX9_rule_10
end
section
def loD (t : Int32) : Int32 := if t.toInt < 30 then 0 else t - 30
theorem asks_r {f : Nat → Int32} {a b c : Int32} (ha : 0 ≤ a.toInt ∧ a.toInt ≤ 15) (hb : 0 ≤ b.toInt ∧ b.toInt ≤ 15) (hc : 0 ≤ c.toInt ∧ c.toInt ≤ 15) : ∀ k : Nat, k < 3 → 0 ≤ (upd (upd (upd f (0 : Int32).toNatClampNeg a) (1 : Int32).toNatClampNeg b) (2 : Int32).toNatClampNeg c k).toInt ∧ (upd (upd (upd f (0 : Int32).toNatClampNeg a) (1 : Int32).toNatClampNeg b) (2 : Int32).toNatClampNeg c k).toInt ≤ 15 := by
  intro k hk
  have e0 : (0 : Int32).toNatClampNeg = 0 := by decide
  have e1 : (1 : Int32).toNatClampNeg = 1 := by decide
  have e2 : (2 : Int32).toNatClampNeg = 2 := by decide
  rw [e0, e1, e2]
  unfold upd
  rcases (show k = 0 ∨ k = 1 ∨ k = 2 by omega) with rfl | rfl | rfl
  · exact ha
  · exact hb
  · exact hc
theorem i2l_nz {x : Int32} {z : Int64} (e : x.toInt64 = z) (h : x.toInt ≠ 0) : ¬ z = 0 := by
  intro h2
  apply h
  rw [h2] at e
  have h3 := congrArg Int64.toInt e
  rw [Int32.toInt_toInt64] at h3
  rw [h3]; rfl
theorem fill_all {P : Nat → Prop} {i j : Int32} (h0 : 0 ≤ i.toInt) (hj : j.toInt = i.toInt + 1) (h : ∀ k : Nat, (k : Int) < i.toInt → P k) (hi : P i.toNatClampNeg) : ∀ k : Nat, (k : Int) < j.toInt → P k := by
  intro k hk
  have hc := i_clamp0 h0
  by_cases e : k = i.toNatClampNeg
  · rw [e]; exact hi
  · exact h k (by omega)
end
