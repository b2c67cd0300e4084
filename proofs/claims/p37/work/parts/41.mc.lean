set_option maxHeartbeats 4000000 in
set_option maxRecDepth 100000 in
theorem g_X9_says0 (l : Launch) (D : va_G) (E : Nat → Nat) (mh : Nat) (ma : Nat → Nat) (mcode : Int32) (mtoday : Int32) (moffs : Int32) (mmany : Int64) (msumW : Int64) (msumA : Int64) (msumR : Int64) (msumWW : Int64) (msumWA : Int64) (msumAA : Int64) (msumWR : Int64) (msumAR : Int64) (mupper : Int64) (mlower : Int64) (mrates : Int32) (mtaped : Int32) (mlaid : Int32) (mat : Int32) (mtk : Int32) (mtkAt : Int32) (mtkNumber : Int32) (mwaits : Int32) (mlisted : Int32) (mdealtMany : Int32) (mf35 : Nat → Int32) (mf36 : Nat → Int32) (mf37 : Nat → Int32) (mf45 : Nat → Int32) (mf46 : Nat → Int32) (sz : Nat) (hi_m : (0 ≤ mtoday.toInt ∧ mtoday.toInt ≤ 399) ∧ (0 ≤ moffs.toInt ∧ moffs.toInt ≤ 60) ∧ (0 ≤ mrates.toInt ∧ mrates.toInt ≤ 60) ∧ (0 ≤ mtaped.toInt ∧ mtaped.toInt ≤ 120) ∧ (0 ≤ mlisted.toInt ∧ mlisted.toInt ≤ 9) ∧ (0 ≤ mdealtMany.toInt ∧ mdealtMany.toInt ≤ 9)) (hr_m35 : ∀ k : Nat, k < 2 → 0 ≤ (mf35 k).toInt ∧ (mf35 k).toInt ≤ 127) (hjw : JW mf36 mf35) : Met l yX9_says (wl yX9_says cX9_says 5 (some .int)) (RM 1 0 0) (mu_P D E [.ref mh, .int 0] [(mh, .inr (9, G9 ma mcode mtoday moffs mmany msumW msumA msumR msumWW msumWA msumAA msumWR msumAR mupper mlower mrates mtaped mlaid mat mtk mtkAt mtkNumber mwaits mlisted mdealtMany)), ((ma 35), .inl (E 0, 2, .inl mf35)), ((ma 36), .inl (E 0, 384, .inl mf36)), ((ma 37), .inl (E 0, 384, .inl mf37)), ((ma 45), .inl (E 0, 130, .inl mf45)), ((ma 46), .inl (E 0, 24, .inl mf46))] sz) (va_Qi (fun (r : Int32) (u : (Nat → Int32)) => True) (mu_B D (va_A [(mh, .inr (9, G9 ma mcode mtoday moffs mmany msumW msumA msumR msumWW msumWA msumAA msumWR msumAR mupper mlower mrates mtaped mlaid mat mtk mtkAt mtkNumber mwaits mlisted mdealtMany)), ((ma 35), .inl (E 0, 2, .inl mf35)), ((ma 36), .inl (E 0, 384, .inl mf36)), ((ma 37), .inl (E 0, 384, .inl mf37)), ((ma 45), .inl (E 0, 130, .inl mf45)), ((ma 46), .inl (E 0, 24, .inl mf46))] sz) (fun (u : (Nat → Int32)) => [(mh, .inr (9, G9 ma mcode mtoday moffs mmany msumW msumA msumR msumWW msumWA msumAA msumWR msumAR mupper mlower mrates mtaped mlaid mat mtk mtkAt mtkNumber mwaits mlisted mdealtMany)), ((ma 35), .inl (E 0, 2, .inl mf35)), ((ma 36), .inl (E 0, 384, .inl mf36)), ((ma 37), .inl (E 0, 384, .inl mf37)), ((ma 45), .inl (E 0, 130, .inl u)), ((ma 46), .inl (E 0, 24, .inl mf46))])) (va_A [(mh, .inr (9, G9 ma mcode mtoday moffs mmany msumW msumA msumR msumWW msumWA msumAA msumWR msumAR mupper mlower mrates mtaped mlaid mat mtk mtkAt mtkNumber mwaits mlisted mdealtMany)), ((ma 35), .inl (E 0, 2, .inl mf35)), ((ma 36), .inl (E 0, 384, .inl mf36)), ((ma 37), .inl (E 0, 384, .inl mf37)), ((ma 45), .inl (E 0, 130, .inl mf45)), ((ma 46), .inl (E 0, 24, .inl mf46))] sz)) 0 0 (va_A [(mh, .inr (9, G9 ma mcode mtoday moffs mmany msumW msumA msumR msumWW msumWA msumAA msumWR msumAR mupper mlower mrates mtaped mlaid mat mtk mtkAt mtkNumber mwaits mlisted mdealtMany)), ((ma 35), .inl (E 0, 2, .inl mf35)), ((ma 36), .inl (E 0, 384, .inl mf36)), ((ma 37), .inl (E 0, 384, .inl mf37)), ((ma 45), .inl (E 0, 130, .inl mf45)), ((ma 46), .inl (E 0, 24, .inl mf46))] sz) := by
  refine Met.ofW (cc := cX9_says) (maxL := 5) (ret := (some .int)) (by decide) rfl ?_
  intro p e s m args below meth c s₁ B hml hv
  obtain ⟨rfl, hsz, hP, hK, hD0⟩ := hv
  have hx := B.exec; have hb := B.bytes; have hr := B.returns
  have hts := atoms_spec (ws := wl yX9_says cX9_says 5 (some .int)) B.pre
  have htb : ∀ w ∈ tb, w.before _ s = true := fun w h => hts w (List.mem_cons_of_mem _ h)
  have hown : s.vm.findClass RX9 = some m.cls := findClass_of_methodNamed B.named
  have hlocks := B.notSynchronized
  subst hsz
  have hD := hD0.self (sz := s.heap.size)
  generalize hAe : va_A [(mh, .inr (9, G9 ma mcode mtoday moffs mmany msumW msumA msumR msumWW msumWA msumAA msumWR msumAR mupper mlower mrates mtaped mlaid mat mtk mtkAt mtkNumber mwaits mlisted mdealtMany)), ((ma 35), .inl (E 0, 2, .inl mf35)), ((ma 36), .inl (E 0, 384, .inl mf36)), ((ma 37), .inl (E 0, 384, .inl mf37)), ((ma 45), .inl (E 0, 130, .inl mf45)), ((ma 46), .inl (E 0, 24, .inl mf46))] s.heap.size = A at hD ⊢
  have hA : ∀ q : Nat, s.heap.size ≤ q → A q := fun q h => by rw [← hAe]; exact Or.inr h
  have hS : va_S A s.heap s.heap [] := va_S.rf
  have hP : va_P D vwCl [(mh, .inr (9, G9 ma mcode mtoday moffs mmany msumW msumA msumR msumWW msumWA msumAA msumWR msumAR mupper mlower mrates mtaped mlaid mat mtk mtkAt mtkNumber mwaits mlisted mdealtMany)), ((ma 35), .inl (E 0, 2, .inl mf35)), ((ma 36), .inl (E 0, 384, .inl mf36)), ((ma 37), .inl (E 0, 384, .inl mf37)), ((ma 45), .inl (E 0, 130, .inl mf45)), ((ma 46), .inl (E 0, 24, .inl mf46))] s.heap := hP
  have hl := lv_entry ([.ref mh, .int 0]) (n := 5) (Nat.le_of_ble_eq_true rfl)
  rw [lg_entry_eq]
  generalize (lg_sl ([.ref mh, .int 0]) ++ List.replicate (5 - (lg_sl ([.ref mh, .int 0])).length) Slot.unset).toArray = ls at hl ⊢
  have hl : lv_has ls 5 [(0, .ref mh), (1, .int 0)] := hl
  have hrs : 0 ≤ (mf35 (0 : Int32).toNatClampNeg).toInt ∧ (mf35 (0 : Int32).toNatClampNeg).toInt ≤ 127 := hr_m35 _ (by decide)
  have hrn := i_clamp0 (x := mf35 (0 : Int32).toNatClampNeg) hrs.1
  have hwf : WFc mf36 0 (mf35 (0 : Int32).toNatClampNeg).toNatClampNeg := hjw 0 (by decide)
  refine lv_iconst (v := 0) hx hb dX9_says_0 (by decide) ?_
  refine lv_istore_n (lv' := [(2, .int 0), (0, .ref mh), (1, .int 0)]) hx hb dX9_says_1 rfl hl (by decide) rfl (fun ls hl => ?_)
  refine lv_sipush (v := 128) hx hb dX9_says_2 (by decide) ?_
  refine lv_iload_n hx hb dX9_says_5 rfl (lv_at hl 2 rfl) ?_
  refine lv_imul hx hb dX9_says_6 ?_
  refine W_top (y := .int 0) (by decide) ?_
  refine lv_istore_n (lv' := [(3, .int 0), (2, .int 0), (0, .ref mh), (1, .int 0)]) hx hb dX9_says_7 rfl hl (by decide) rfl (fun ls hl => ?_)
  have loop_1 : ∀ (N_3 : Nat) (L3_8 : Int32) (L2_8 : Int32) (mf45_8 : Nat → Int32) (H : Heap) (locs : List Loc) (ls : Array Slot), 0 + (mf35 (0 : Int32).toNatClampNeg).toInt - L3_8.toInt < (N_3 : Int) → (0 ≤ L3_8.toInt ∧ L3_8.toInt ≤ 0 + (mf35 (0 : Int32).toNatClampNeg).toInt ∧ 0 ≤ L2_8.toInt ∧ L2_8.toInt ≤ L3_8.toInt - 0) → (L2_8.toInt = hgt mf36 0 (L3_8.toInt - ((0 : Nat) : Int)).toNat) → va_P D vwCl [(mh, .inr (9, G9 ma mcode mtoday moffs mmany msumW msumA msumR msumWW msumWA msumAA msumWR msumAR mupper mlower mrates mtaped mlaid mat mtk mtkAt mtkNumber mwaits mlisted mdealtMany)), ((ma 35), .inl (E 0, 2, .inl mf35)), ((ma 36), .inl (E 0, 384, .inl mf36)), ((ma 37), .inl (E 0, 384, .inl mf37)), ((ma 45), .inl (E 0, 130, .inl mf45_8)), ((ma 46), .inl (E 0, 24, .inl mf46))] H → va_D A [(mh, .inr (9, G9 ma mcode mtoday moffs mmany msumW msumA msumR msumWW msumWA msumAA msumWR msumAR mupper mlower mrates mtaped mlaid mat mtk mtkAt mtkNumber mwaits mlisted mdealtMany)), ((ma 35), .inl (E 0, 2, .inl mf35)), ((ma 36), .inl (E 0, 384, .inl mf36)), ((ma 37), .inl (E 0, 384, .inl mf37)), ((ma 45), .inl (E 0, 130, .inl mf45_8)), ((ma 46), .inl (E 0, 24, .inl mf46))] → va_S A s.heap H locs → lv_has ls 5 [(3, .int L3_8), (2, .int L2_8), (0, .ref mh), (1, .int 0)] → W p l e (headSpec (wl yX9_says cX9_says 5 (some .int)) (RM 1 0 0)).room s m [Value.ref mh, .int 0].toArray below meth c H locs 0 0 (MQ below (va_Qi (fun (r : Int32) (u : (Nat → Int32)) => True) (mu_B D A (fun (u : (Nat → Int32)) => [(mh, .inr (9, G9 ma mcode mtoday moffs mmany msumW msumA msumR msumWW msumWA msumAA msumWR msumAR mupper mlower mrates mtaped mlaid mat mtk mtkAt mtkNumber mwaits mlisted mdealtMany)), ((ma 35), .inl (E 0, 2, .inl mf35)), ((ma 36), .inl (E 0, 384, .inl mf36)), ((ma 37), .inl (E 0, 384, .inl mf37)), ((ma 45), .inl (E 0, 130, .inl u)), ((ma 46), .inl (E 0, 24, .inl mf46))])) A) [Value.ref mh, .int 0].toArray s 0 0 A) (F0 m 8 ls []) := by
    intro N_3
    induction N_3 with
    | zero => intro L3_8 L2_8 mf45_8 H locs ls hm v0_8 v1_8 _ _ _ _; exfalso; omega
    | succ N_3 ih_2 =>
      intro L3_8 L2_8 mf45_8 H locs ls hm v0_8 v1_8 hP hD hS hl
      have lo_L3_8 := i_lo L3_8; have hi_L3_8 := i_hi L3_8
      have lo_L2_8 := i_lo L2_8; have hi_L2_8 := i_hi L2_8
      refine lv_iload_n hx hb dX9_says_8 rfl (lv_at hl 0 rfl) ?_
      refine lv_sipush (v := 128) hx hb dX9_says_9 (by decide) ?_
      refine lv_iload_n hx hb dX9_says_12 rfl (lv_at hl 3 rfl) ?_
      refine lv_imul hx hb dX9_says_13 ?_
      refine W_top (y := .int 0) (by decide) ?_
      refine lv_aload_n hx hb dX9_says_14 rfl (lv_at hl 2 rfl) ?_
      refine va_get (D := D) (ci := 9) (v := .ref (ma 35)) (C := RX9) (T := TX9) (N := 68) hx hb htb iX9 hown hK.1 hP 0 rfl rfl 35 (by decide) (htb _ k_993) (fun _ h9 => h9) rfl dX9_says_15 ?_
      refine lv_iload_n hx hb dX9_says_18 rfl (lv_at hl 3 rfl) ?_
      refine va_iald hx hb hK.1 hP 1 0 rfl rfl (g_in t_0 (by decide) (by decide)) dX9_says_19 ?_
      refine lv_topi (fun z_4 ez_4 => ?_)
      have kz_4 := congrArg Int32.toInt ez_4
      have jz_4 : 0 ≤ z_4.toInt ∧ z_4.toInt ≤ 127 := by rw [ez_4]; exact hr_m35 _ (g_ix t_0 (by omega) (by omega))
      refine lv_iadd hx hb dX9_says_20 ?_
      refine W_top (y := .int z_4) (congrArg Value.int (Int32.zero_add _)) ?_
      refine lv_icmp_ge (tgt := 215) hx hb dX9_says_21 (by decide) (fun c_5 => ?_) (fun c_5 => ?_)
      ·
        have ic_5 : z_4.toInt ≤ L3_8.toInt := by first | exact (g_le rfl rfl).mp c_5 | (have h := mt (g_lt rfl rfl).mpr c_5; omega)
        clear c_5
        refine lv_aload_n hx hb dX9_says_215 rfl (lv_at hl 2 rfl) ?_
        refine va_get (D := D) (ci := 9) (v := .ref (ma 45)) (C := RX9) (T := TX9) (N := 68) hx hb htb iX9 hown hK.1 hP 0 rfl rfl 45 (by decide) (htb _ k_1003) (fun _ h9 => h9) rfl dX9_says_216 ?_
        refine lv_iconst (v := 0) hx hb dX9_says_219 (by decide) ?_
        refine va_iald hx hb hK.1 hP 4 0 rfl rfl (g_in t_0 (by decide) (by decide)) dX9_says_220 ?_
        refine lv_topi (fun z_6 ez_6 => ?_)
        have kz_6 := congrArg Int32.toInt ez_6
        have hP9 := hP.sub (ws' := [(mh, .inr (9, G9 ma mcode mtoday moffs mmany msumW msumA msumR msumWW msumWA msumAA msumWR msumAR mupper mlower mrates mtaped mlaid mat mtk mtkAt mtkNumber mwaits mlisted mdealtMany)), ((ma 35), .inl (E 0, 2, .inl mf35)), ((ma 36), .inl (E 0, 384, .inl mf36)), ((ma 37), .inl (E 0, 384, .inl mf37)), ((ma 45), .inl (E 0, 130, .inl mf45_8)), ((ma 46), .inl (E 0, 24, .inl mf46))]) [0, 1, 2, 3, 4, 5] rfl
        have hD9 := hD.sub (ws' := [(mh, .inr (9, G9 ma mcode mtoday moffs mmany msumW msumA msumR msumWW msumWA msumAA msumWR msumAR mupper mlower mrates mtaped mlaid mat mtk mtkAt mtkNumber mwaits mlisted mdealtMany)), ((ma 35), .inl (E 0, 2, .inl mf35)), ((ma 36), .inl (E 0, 384, .inl mf36)), ((ma 37), .inl (E 0, 384, .inl mf37)), ((ma 45), .inl (E 0, 130, .inl mf45_8)), ((ma 46), .inl (E 0, 24, .inl mf46))]) [0, 1, 2, 3, 4, 5] (by decide) rfl
        exact W.iret (v := z_6) hx hb hr (fun t ht hW => ⟨⟨z_6, mf45_8, rfl, trivial, by rw [ht]; exact hP9, hD9⟩, hS.F ht⟩) hS.2.2 dX9_says_221
      ·
        have ic_5 : L3_8.toInt < z_4.toInt := by first | exact (g_lt rfl rfl).mp c_5 | (have h := mt (g_le rfl rfl).mpr c_5; omega)
        clear c_5
        refine lv_aload_n hx hb dX9_says_24 rfl (lv_at hl 2 rfl) ?_
        refine va_get (D := D) (ci := 9) (v := .ref (ma 36)) (C := RX9) (T := TX9) (N := 68) hx hb htb iX9 hown hK.1 hP 0 rfl rfl 36 (by decide) (htb _ k_994) (fun _ h9 => h9) rfl dX9_says_25 ?_
        refine lv_iload_n hx hb dX9_says_28 rfl (lv_at hl 0 rfl) ?_
        refine va_iald hx hb hK.1 hP 2 0 rfl rfl (g_in rfl (by omega) (by omega)) dX9_says_29 ?_
        refine lv_topi (fun z_7 ez_7 => ?_)
        have kz_7 := congrArg Int32.toInt ez_7
        have hok := WF_at hwf (i := L3_8) (by omega) (by omega) ez_7 v1_8
        refine lv_istore (lv' := [(4, .int z_7), (3, .int L3_8), (2, .int L2_8), (0, .ref mh), (1, .int 0)]) hx hb dX9_says_30 hl (by decide) rfl (fun ls hl => ?_)
        refine lv_iload hx hb dX9_says_32 (lv_at hl 0 rfl) ?_
        refine lv_iconst (v := 1) hx hb dX9_says_34 (by decide) ?_
        refine lv_icmp_eq (tgt := 45) hx hb dX9_says_35 (by decide) (fun c_8 => ?_) (fun c_8 => ?_)
        ·
          have ic_8 : z_7.toInt = 1 := (g_eq rfl t_1).mp c_8
          clear c_8
          refine lv_aload_n hx hb dX9_says_45 rfl (lv_at hl 3 rfl) ?_
          refine va_get (D := D) (ci := 9) (v := .ref (ma 45)) (C := RX9) (T := TX9) (N := 68) hx hb htb iX9 hown hK.1 hP 0 rfl rfl 45 (by decide) (htb _ k_1003) (fun _ h9 => h9) rfl dX9_says_46 ?_
          refine lv_iload_n hx hb dX9_says_49 rfl (lv_at hl 2 rfl) ?_
          refine lv_iload hx hb dX9_says_50 (lv_at hl 0 rfl) ?_
          refine lv_iconst (v := 1) hx hb dX9_says_52 (by decide) ?_
          refine lv_icmp_ne (tgt := 65) hx hb dX9_says_53 (by decide) (fun c_9 => absurd (by rw [g_eq rfl t_1]; omega) c_9) (fun c_9 => ?_)
          refine lv_aload_n hx hb dX9_says_56 rfl (lv_at hl 3 rfl) ?_
          refine va_get (D := D) (ci := 9) (v := .ref (ma 37)) (C := RX9) (T := TX9) (N := 68) hx hb htb iX9 hown hK.1 hP 0 rfl rfl 37 (by decide) (htb _ k_995) (fun _ h9 => h9) rfl dX9_says_57 ?_
          refine lv_iload_n hx hb dX9_says_60 rfl (lv_at hl 1 rfl) ?_
          refine va_iald hx hb hK.1 hP 3 0 rfl rfl (g_in rfl (by omega) (by omega)) dX9_says_61 ?_
          refine lv_topi (fun z_10 ez_10 => ?_)
          have kz_10 := congrArg Int32.toInt ez_10
          refine lv_goto (tgt := 75) hx hb dX9_says_62 (by decide) ?_
          refine va_iast hx hb hK.1 hP hD hS 4 0 rfl rfl (g_in rfl (by omega) (by omega)) dX9_says_75 (fun H locs hP hD hS => ?_)
          have hP : va_P D vwCl [(mh, .inr (9, G9 ma mcode mtoday moffs mmany msumW msumA msumR msumWW msumWA msumAA msumWR msumAR mupper mlower mrates mtaped mlaid mat mtk mtkAt mtkNumber mwaits mlisted mdealtMany)), ((ma 35), .inl (E 0, 2, .inl mf35)), ((ma 36), .inl (E 0, 384, .inl mf36)), ((ma 37), .inl (E 0, 384, .inl mf37)), ((ma 45), .inl (E 0, 130, .inl (upd mf45_8 (L2_8 : Int32).toNatClampNeg z_10))), ((ma 46), .inl (E 0, 24, .inl mf46))] H := hP
          have hD := toW hP hD rfl
          obtain ⟨z_11, ez_11⟩ : ∃ y : Int32, y = L2_8 + 1 := ⟨_, rfl⟩
          have jz_11 : z_11.toInt = L2_8.toInt + 1 := by rw [ez_11]; exact g_add rfl t_1 (by omega) (by omega)
          refine lv_iinc (v := z_11) (lv' := [(2, .int z_11), (4, .int z_7), (3, .int L3_8), (0, .ref mh), (1, .int 0)]) hx hb dX9_says_76 hl (k := 2) rfl (by rw [ez_11]; rfl) (by decide) rfl (fun ls hl => ?_)
          refine lv_goto (tgt := 209) hx hb dX9_says_79 (by decide) ?_
          obtain ⟨z_12, ez_12⟩ : ∃ y : Int32, y = L3_8 + 1 := ⟨_, rfl⟩
          have jz_12 : z_12.toInt = L3_8.toInt + 1 := by rw [ez_12]; exact g_add rfl t_1 (by omega) (by omega)
          refine lv_iinc (v := z_12) (lv' := [(3, .int z_12), (2, .int z_11), (4, .int z_7), (0, .ref mh), (1, .int 0)]) hx hb dX9_says_209 hl (k := 2) rfl (by rw [ez_12]; rfl) (by decide) rfl (fun ls hl => ?_)
          refine lv_goto (tgt := 8) hx hb dX9_says_212 (by decide) ?_
          exact ih_2 z_12 z_11 (upd mf45_8 (L2_8 : Int32).toNatClampNeg z_10) _ _ _ (by have h0 := t_0; (try dsimp only); omega) (by have h0 := t_0; (try dsimp only); omega) (by have hh := hgt_at (f := mf36) (b := 0) (i := L3_8) (j := z_12) (by omega) jz_12; rw [← ez_7] at hh; unfold dl at hh; (try dsimp only); (repeat' split at hh) <;> omega) hP hD hS (lv_sub hl [0, 1, 3, 4] rfl)
        ·
          have ic_8 : z_7.toInt ≠ 1 := mt (g_eq rfl t_1).mpr c_8
          clear c_8
          refine lv_iload hx hb dX9_says_38 (lv_at hl 0 rfl) ?_
          refine lv_bipush (v := 100) hx hb dX9_says_40 (by decide) ?_
          refine lv_icmp_lt (tgt := 82) hx hb dX9_says_42 (by decide) (fun c_13 => ?_) (fun c_13 => ?_)
          ·
            have ic_13 : z_7.toInt < 100 := by first | exact (g_lt rfl t_100).mp c_13 | (have h := mt (g_le t_100 rfl).mpr c_13; omega)
            clear c_13
            refine lv_iload hx hb dX9_says_82 (lv_at hl 0 rfl) ?_
            refine lv_bipush (v := 30) hx hb dX9_says_84 (by decide) ?_
            refine lv_icmp_ne (tgt := 116) hx hb dX9_says_86 (by decide) (fun c_14 => ?_) (fun c_14 => ?_)
            ·
              have ic_14 : z_7.toInt ≠ 30 := mt (g_eq rfl t_30).mpr c_14
              clear c_14
              refine lv_iload hx hb dX9_says_116 (lv_at hl 0 rfl) ?_
              refine lv_bipush (v := 70) hx hb dX9_says_118 (by decide) ?_
              refine lv_icmp_eq (tgt := 130) hx hb dX9_says_120 (by decide) (fun c_15 => ?_) (fun c_15 => ?_)
              ·
                have ic_15 : z_7.toInt = 70 := (g_eq rfl t_70).mp c_15
                clear c_15
                refine lv_aload_n hx hb dX9_says_130 rfl (lv_at hl 3 rfl) ?_
                refine va_get (D := D) (ci := 9) (v := .ref (ma 45)) (C := RX9) (T := TX9) (N := 68) hx hb htb iX9 hown hK.1 hP 0 rfl rfl 45 (by decide) (htb _ k_1003) (fun _ h9 => h9) rfl dX9_says_131 ?_
                refine lv_iload_n hx hb dX9_says_134 rfl (lv_at hl 2 rfl) ?_
                refine lv_iconst (v := 1) hx hb dX9_says_135 (by decide) ?_
                refine lv_isub hx hb dX9_says_136 ?_
                refine lv_topi (fun z_16 ez_16 => ?_)
                have jz_16 : z_16.toInt = L2_8.toInt - 1 := by rw [ez_16]; exact g_sub rfl t_1 (by omega) (by omega)
                refine lv_iload hx hb dX9_says_137 (lv_at hl 0 rfl) ?_
                refine lv_bipush (v := 71) hx hb dX9_says_139 (by decide) ?_
                refine lv_icmp_ne (tgt := 166) hx hb dX9_says_141 (by decide) (fun c_17 => ?_) (fun c_17 => absurd c_17 (by rw [g_eq rfl t_71]; omega))
                refine lv_aload_n hx hb dX9_says_166 rfl (lv_at hl 3 rfl) ?_
                refine va_get (D := D) (ci := 9) (v := .ref (ma 45)) (C := RX9) (T := TX9) (N := 68) hx hb htb iX9 hown hK.1 hP 0 rfl rfl 45 (by decide) (htb _ k_1003) (fun _ h9 => h9) rfl dX9_says_167 ?_
                refine lv_iload_n hx hb dX9_says_170 rfl (lv_at hl 2 rfl) ?_
                refine lv_iconst (v := 1) hx hb dX9_says_171 (by decide) ?_
                refine lv_isub hx hb dX9_says_172 ?_
                refine lv_topi (fun z_18 ez_18 => ?_)
                have jz_18 : z_18.toInt = L2_8.toInt - 1 := by rw [ez_18]; exact g_sub rfl t_1 (by omega) (by omega)
                refine va_iald hx hb hK.1 hP 4 0 rfl rfl (g_in rfl (by omega) (by omega)) dX9_says_173 ?_
                refine lv_topi (fun z_19 ez_19 => ?_)
                have kz_19 := congrArg Int32.toInt ez_19
                refine lv_ineg hx hb dX9_says_174 ?_
                refine lv_topi (fun z_20 ez_20 => ?_)
                refine va_iast hx hb hK.1 hP hD hS 4 0 rfl rfl (g_in rfl (by omega) (by omega)) dX9_says_175 (fun H locs hP hD hS => ?_)
                have hP : va_P D vwCl [(mh, .inr (9, G9 ma mcode mtoday moffs mmany msumW msumA msumR msumWW msumWA msumAA msumWR msumAR mupper mlower mrates mtaped mlaid mat mtk mtkAt mtkNumber mwaits mlisted mdealtMany)), ((ma 35), .inl (E 0, 2, .inl mf35)), ((ma 36), .inl (E 0, 384, .inl mf36)), ((ma 37), .inl (E 0, 384, .inl mf37)), ((ma 45), .inl (E 0, 130, .inl (upd mf45_8 (z_16 : Int32).toNatClampNeg z_20))), ((ma 46), .inl (E 0, 24, .inl mf46))] H := hP
                have hD := toW hP hD rfl
                refine lv_goto (tgt := 209) hx hb dX9_says_176 (by decide) ?_
                obtain ⟨z_21, ez_21⟩ : ∃ y : Int32, y = L3_8 + 1 := ⟨_, rfl⟩
                have jz_21 : z_21.toInt = L3_8.toInt + 1 := by rw [ez_21]; exact g_add rfl t_1 (by omega) (by omega)
                refine lv_iinc (v := z_21) (lv' := [(3, .int z_21), (4, .int z_7), (2, .int L2_8), (0, .ref mh), (1, .int 0)]) hx hb dX9_says_209 hl (k := 1) rfl (by rw [ez_21]; rfl) (by decide) rfl (fun ls hl => ?_)
                refine lv_goto (tgt := 8) hx hb dX9_says_212 (by decide) ?_
                exact ih_2 z_21 L2_8 (upd mf45_8 (z_16 : Int32).toNatClampNeg z_20) _ _ _ (by have h0 := t_0; (try dsimp only); omega) (by have h0 := t_0; (try dsimp only); omega) (by have hh := hgt_at (f := mf36) (b := 0) (i := L3_8) (j := z_21) (by omega) jz_21; rw [← ez_7] at hh; unfold dl at hh; (try dsimp only); (repeat' split at hh) <;> omega) hP hD hS (lv_sub hl [0, 2, 3, 4] rfl)
              ·
                have ic_15 : z_7.toInt ≠ 70 := mt (g_eq rfl t_70).mpr c_15
                clear c_15
                refine lv_iload hx hb dX9_says_123 (lv_at hl 0 rfl) ?_
                refine lv_bipush (v := 71) hx hb dX9_says_125 (by decide) ?_
                refine lv_icmp_ne (tgt := 179) hx hb dX9_says_127 (by decide) (fun c_22 => ?_) (fun c_22 => ?_)
                ·
                  have ic_22 : z_7.toInt ≠ 71 := mt (g_eq rfl t_71).mpr c_22
                  clear c_22
                  obtain ⟨z_23, ez_23⟩ : ∃ y : Int32, y = L2_8 + (-1) := ⟨_, rfl⟩
                  have jz_23 : z_23.toInt = L2_8.toInt + -1 := by rw [ez_23]; exact g_add rfl t_m1 (by omega) (by omega)
                  refine lv_iinc (v := z_23) (lv' := [(2, .int z_23), (4, .int z_7), (3, .int L3_8), (0, .ref mh), (1, .int 0)]) hx hb dX9_says_179 hl (k := 2) rfl (by rw [ez_23]; rfl) (by decide) rfl (fun ls hl => ?_)
                  refine lv_aload_n hx hb dX9_says_182 rfl (lv_at hl 3 rfl) ?_
                  refine va_get (D := D) (ci := 9) (v := .ref (ma 45)) (C := RX9) (T := TX9) (N := 68) hx hb htb iX9 hown hK.1 hP 0 rfl rfl 45 (by decide) (htb _ k_1003) (fun _ h9 => h9) rfl dX9_says_183 ?_
                  refine lv_iload_n hx hb dX9_says_186 rfl (lv_at hl 0 rfl) ?_
                  refine lv_iconst (v := 1) hx hb dX9_says_187 (by decide) ?_
                  refine lv_isub hx hb dX9_says_188 ?_
                  refine lv_topi (fun z_24 ez_24 => ?_)
                  have jz_24 : z_24.toInt = z_23.toInt - 1 := by rw [ez_24]; exact g_sub rfl t_1 (by omega) (by omega)
                  refine lv_iload hx hb dX9_says_189 (lv_at hl 1 rfl) ?_
                  refine lv_aload_n hx hb dX9_says_191 rfl (lv_at hl 3 rfl) ?_
                  refine va_get (D := D) (ci := 9) (v := .ref (ma 45)) (C := RX9) (T := TX9) (N := 68) hx hb htb iX9 hown hK.1 hP 0 rfl rfl 45 (by decide) (htb _ k_1003) (fun _ h9 => h9) rfl dX9_says_192 ?_
                  refine lv_iload_n hx hb dX9_says_195 rfl (lv_at hl 0 rfl) ?_
                  refine lv_iconst (v := 1) hx hb dX9_says_196 (by decide) ?_
                  refine lv_isub hx hb dX9_says_197 ?_
                  refine lv_topi (fun z_25 ez_25 => ?_)
                  have jz_25 : z_25.toInt = z_23.toInt - 1 := by rw [ez_25]; exact g_sub rfl t_1 (by omega) (by omega)
                  refine va_iald hx hb hK.1 hP 4 0 rfl rfl (g_in rfl (by omega) (by omega)) dX9_says_198 ?_
                  refine lv_topi (fun z_26 ez_26 => ?_)
                  have kz_26 := congrArg Int32.toInt ez_26
                  refine lv_aload_n hx hb dX9_says_199 rfl (lv_at hl 3 rfl) ?_
                  refine va_get (D := D) (ci := 9) (v := .ref (ma 45)) (C := RX9) (T := TX9) (N := 68) hx hb htb iX9 hown hK.1 hP 0 rfl rfl 45 (by decide) (htb _ k_1003) (fun _ h9 => h9) rfl dX9_says_200 ?_
                  refine lv_iload_n hx hb dX9_says_203 rfl (lv_at hl 0 rfl) ?_
                  refine va_iald hx hb hK.1 hP 4 0 rfl rfl (g_in rfl (by omega) (by omega)) dX9_says_204 ?_
                  refine lv_topi (fun z_27 ez_27 => ?_)
                  have kz_27 := congrArg Int32.toInt ez_27
                  refine callRS (rest := [.int z_24, .ref (ma 45)]) (As := [.int z_7, .int z_26, .int z_27]) hx hb hml hown htb hK (g_X9_both l D E z_7 z_26 z_27 ) ok_X9_both k_1399 k_1400 k_9 k_1401 ⟨(Nat.le_of_ble_eq_true rfl), (Nat.le_of_ble_eq_true rfl)⟩ ⟨(Nat.le_of_ble_eq_true rfl), (Nat.le_of_ble_eq_true rfl)⟩ hl.1 (Nat.le_of_ble_eq_true rfl) rfl rfl dX9_says_205 (hP.sub (ws' := ([] : va_W)) [] rfl) (fun r_28 hw_29 => ?_)
                  refine va_iast hx hb hK.1 hP hD hS 4 0 rfl rfl (g_in rfl (by omega) (by omega)) dX9_says_208 (fun H locs hP hD hS => ?_)
                  have hP : va_P D vwCl [(mh, .inr (9, G9 ma mcode mtoday moffs mmany msumW msumA msumR msumWW msumWA msumAA msumWR msumAR mupper mlower mrates mtaped mlaid mat mtk mtkAt mtkNumber mwaits mlisted mdealtMany)), ((ma 35), .inl (E 0, 2, .inl mf35)), ((ma 36), .inl (E 0, 384, .inl mf36)), ((ma 37), .inl (E 0, 384, .inl mf37)), ((ma 45), .inl (E 0, 130, .inl (upd mf45_8 (z_24 : Int32).toNatClampNeg r_28))), ((ma 46), .inl (E 0, 24, .inl mf46))] H := hP
                  have hD := toW hP hD rfl
                  obtain ⟨z_31, ez_31⟩ : ∃ y : Int32, y = L3_8 + 1 := ⟨_, rfl⟩
                  have jz_31 : z_31.toInt = L3_8.toInt + 1 := by rw [ez_31]; exact g_add rfl t_1 (by omega) (by omega)
                  refine lv_iinc (v := z_31) (lv' := [(3, .int z_31), (2, .int z_23), (4, .int z_7), (0, .ref mh), (1, .int 0)]) hx hb dX9_says_209 hl (k := 2) rfl (by rw [ez_31]; rfl) (by decide) rfl (fun ls hl => ?_)
                  refine lv_goto (tgt := 8) hx hb dX9_says_212 (by decide) ?_
                  exact ih_2 z_31 z_23 (upd mf45_8 (z_24 : Int32).toNatClampNeg r_28) _ _ _ (by have h0 := t_0; (try dsimp only); omega) (by have h0 := t_0; (try dsimp only); omega) (by have hh := hgt_at (f := mf36) (b := 0) (i := L3_8) (j := z_31) (by omega) jz_31; rw [← ez_7] at hh; unfold dl at hh; (try dsimp only); (repeat' split at hh) <;> omega) hP hD hS (lv_sub hl [0, 1, 3, 4] rfl)
                ·
                  have ic_22 : z_7.toInt = 71 := (g_eq rfl t_71).mp c_22
                  clear c_22
                  refine lv_aload_n hx hb dX9_says_130 rfl (lv_at hl 3 rfl) ?_
                  refine va_get (D := D) (ci := 9) (v := .ref (ma 45)) (C := RX9) (T := TX9) (N := 68) hx hb htb iX9 hown hK.1 hP 0 rfl rfl 45 (by decide) (htb _ k_1003) (fun _ h9 => h9) rfl dX9_says_131 ?_
                  refine lv_iload_n hx hb dX9_says_134 rfl (lv_at hl 2 rfl) ?_
                  refine lv_iconst (v := 1) hx hb dX9_says_135 (by decide) ?_
                  refine lv_isub hx hb dX9_says_136 ?_
                  refine lv_topi (fun z_32 ez_32 => ?_)
                  have jz_32 : z_32.toInt = L2_8.toInt - 1 := by rw [ez_32]; exact g_sub rfl t_1 (by omega) (by omega)
                  refine lv_iload hx hb dX9_says_137 (lv_at hl 0 rfl) ?_
                  refine lv_bipush (v := 71) hx hb dX9_says_139 (by decide) ?_
                  refine lv_icmp_ne (tgt := 166) hx hb dX9_says_141 (by decide) (fun c_33 => absurd (by rw [g_eq rfl t_71]; omega) c_33) (fun c_33 => ?_)
                  refine lv_aload_n hx hb dX9_says_144 rfl (lv_at hl 3 rfl) ?_
                  refine va_get (D := D) (ci := 9) (v := .ref (ma 45)) (C := RX9) (T := TX9) (N := 68) hx hb htb iX9 hown hK.1 hP 0 rfl rfl 45 (by decide) (htb _ k_1003) (fun _ h9 => h9) rfl dX9_says_145 ?_
                  refine lv_iload_n hx hb dX9_says_148 rfl (lv_at hl 2 rfl) ?_
                  refine lv_iconst (v := 1) hx hb dX9_says_149 (by decide) ?_
                  refine lv_isub hx hb dX9_says_150 ?_
                  refine lv_topi (fun z_34 ez_34 => ?_)
                  have jz_34 : z_34.toInt = L2_8.toInt - 1 := by rw [ez_34]; exact g_sub rfl t_1 (by omega) (by omega)
                  refine va_iald hx hb hK.1 hP 4 0 rfl rfl (g_in rfl (by omega) (by omega)) dX9_says_151 ?_
                  refine lv_topi (fun z_35 ez_35 => ?_)
                  have kz_35 := congrArg Int32.toInt ez_35
                  refine lv_if_lt (tgt := 166) hx hb dX9_says_152 (by decide) (fun c_36 => ?_) (fun c_36 => ?_)
                  ·
                    have ic_36 : z_35.toInt < 0 := by first | exact (g_lt rfl t_0).mp c_36 | (have h := mt (g_le t_0 rfl).mpr c_36; omega)
                    clear c_36
                    refine lv_aload_n hx hb dX9_says_166 rfl (lv_at hl 3 rfl) ?_
                    refine va_get (D := D) (ci := 9) (v := .ref (ma 45)) (C := RX9) (T := TX9) (N := 68) hx hb htb iX9 hown hK.1 hP 0 rfl rfl 45 (by decide) (htb _ k_1003) (fun _ h9 => h9) rfl dX9_says_167 ?_
                    refine lv_iload_n hx hb dX9_says_170 rfl (lv_at hl 2 rfl) ?_
                    refine lv_iconst (v := 1) hx hb dX9_says_171 (by decide) ?_
                    refine lv_isub hx hb dX9_says_172 ?_
                    refine lv_topi (fun z_37 ez_37 => ?_)
                    have jz_37 : z_37.toInt = L2_8.toInt - 1 := by rw [ez_37]; exact g_sub rfl t_1 (by omega) (by omega)
                    refine va_iald hx hb hK.1 hP 4 0 rfl rfl (g_in rfl (by omega) (by omega)) dX9_says_173 ?_
                    refine lv_topi (fun z_38 ez_38 => ?_)
                    have kz_38 := congrArg Int32.toInt ez_38
                    refine lv_ineg hx hb dX9_says_174 ?_
                    refine lv_topi (fun z_39 ez_39 => ?_)
                    refine va_iast hx hb hK.1 hP hD hS 4 0 rfl rfl (g_in rfl (by omega) (by omega)) dX9_says_175 (fun H locs hP hD hS => ?_)
                    have hP : va_P D vwCl [(mh, .inr (9, G9 ma mcode mtoday moffs mmany msumW msumA msumR msumWW msumWA msumAA msumWR msumAR mupper mlower mrates mtaped mlaid mat mtk mtkAt mtkNumber mwaits mlisted mdealtMany)), ((ma 35), .inl (E 0, 2, .inl mf35)), ((ma 36), .inl (E 0, 384, .inl mf36)), ((ma 37), .inl (E 0, 384, .inl mf37)), ((ma 45), .inl (E 0, 130, .inl (upd mf45_8 (z_32 : Int32).toNatClampNeg z_39))), ((ma 46), .inl (E 0, 24, .inl mf46))] H := hP
                    have hD := toW hP hD rfl
                    refine lv_goto (tgt := 209) hx hb dX9_says_176 (by decide) ?_
                    obtain ⟨z_40, ez_40⟩ : ∃ y : Int32, y = L3_8 + 1 := ⟨_, rfl⟩
                    have jz_40 : z_40.toInt = L3_8.toInt + 1 := by rw [ez_40]; exact g_add rfl t_1 (by omega) (by omega)
                    refine lv_iinc (v := z_40) (lv' := [(3, .int z_40), (4, .int z_7), (2, .int L2_8), (0, .ref mh), (1, .int 0)]) hx hb dX9_says_209 hl (k := 1) rfl (by rw [ez_40]; rfl) (by decide) rfl (fun ls hl => ?_)
                    refine lv_goto (tgt := 8) hx hb dX9_says_212 (by decide) ?_
                    exact ih_2 z_40 L2_8 (upd mf45_8 (z_32 : Int32).toNatClampNeg z_39) _ _ _ (by have h0 := t_0; (try dsimp only); omega) (by have h0 := t_0; (try dsimp only); omega) (by have hh := hgt_at (f := mf36) (b := 0) (i := L3_8) (j := z_40) (by omega) jz_40; rw [← ez_7] at hh; unfold dl at hh; (try dsimp only); (repeat' split at hh) <;> omega) hP hD hS (lv_sub hl [0, 2, 3, 4] rfl)
                  ·
                    have ic_36 : 0 ≤ z_35.toInt := by first | exact (g_le t_0 rfl).mp c_36 | (have h := mt (g_lt rfl t_0).mpr c_36; omega)
                    clear c_36
                    refine lv_aload_n hx hb dX9_says_155 rfl (lv_at hl 3 rfl) ?_
                    refine va_get (D := D) (ci := 9) (v := .ref (ma 45)) (C := RX9) (T := TX9) (N := 68) hx hb htb iX9 hown hK.1 hP 0 rfl rfl 45 (by decide) (htb _ k_1003) (fun _ h9 => h9) rfl dX9_says_156 ?_
                    refine lv_iload_n hx hb dX9_says_159 rfl (lv_at hl 2 rfl) ?_
                    refine lv_iconst (v := 1) hx hb dX9_says_160 (by decide) ?_
                    refine lv_isub hx hb dX9_says_161 ?_
                    refine lv_topi (fun z_41 ez_41 => ?_)
                    have jz_41 : z_41.toInt = L2_8.toInt - 1 := by rw [ez_41]; exact g_sub rfl t_1 (by omega) (by omega)
                    refine va_iald hx hb hK.1 hP 4 0 rfl rfl (g_in rfl (by omega) (by omega)) dX9_says_162 ?_
                    refine lv_topi (fun z_42 ez_42 => ?_)
                    have kz_42 := congrArg Int32.toInt ez_42
                    refine lv_goto (tgt := 175) hx hb dX9_says_163 (by decide) ?_
                    refine va_iast hx hb hK.1 hP hD hS 4 0 rfl rfl (g_in rfl (by omega) (by omega)) dX9_says_175 (fun H locs hP hD hS => ?_)
                    have hP : va_P D vwCl [(mh, .inr (9, G9 ma mcode mtoday moffs mmany msumW msumA msumR msumWW msumWA msumAA msumWR msumAR mupper mlower mrates mtaped mlaid mat mtk mtkAt mtkNumber mwaits mlisted mdealtMany)), ((ma 35), .inl (E 0, 2, .inl mf35)), ((ma 36), .inl (E 0, 384, .inl mf36)), ((ma 37), .inl (E 0, 384, .inl mf37)), ((ma 45), .inl (E 0, 130, .inl (upd mf45_8 (z_32 : Int32).toNatClampNeg z_42))), ((ma 46), .inl (E 0, 24, .inl mf46))] H := hP
                    have hD := toW hP hD rfl
                    refine lv_goto (tgt := 209) hx hb dX9_says_176 (by decide) ?_
                    obtain ⟨z_43, ez_43⟩ : ∃ y : Int32, y = L3_8 + 1 := ⟨_, rfl⟩
                    have jz_43 : z_43.toInt = L3_8.toInt + 1 := by rw [ez_43]; exact g_add rfl t_1 (by omega) (by omega)
                    refine lv_iinc (v := z_43) (lv' := [(3, .int z_43), (4, .int z_7), (2, .int L2_8), (0, .ref mh), (1, .int 0)]) hx hb dX9_says_209 hl (k := 1) rfl (by rw [ez_43]; rfl) (by decide) rfl (fun ls hl => ?_)
                    refine lv_goto (tgt := 8) hx hb dX9_says_212 (by decide) ?_
                    exact ih_2 z_43 L2_8 (upd mf45_8 (z_32 : Int32).toNatClampNeg z_42) _ _ _ (by have h0 := t_0; (try dsimp only); omega) (by have h0 := t_0; (try dsimp only); omega) (by have hh := hgt_at (f := mf36) (b := 0) (i := L3_8) (j := z_43) (by omega) jz_43; rw [← ez_7] at hh; unfold dl at hh; (try dsimp only); (repeat' split at hh) <;> omega) hP hD hS (lv_sub hl [0, 2, 3, 4] rfl)
            ·
              have ic_14 : z_7.toInt = 30 := (g_eq rfl t_30).mp c_14
              clear c_14
              refine lv_aload_n hx hb dX9_says_89 rfl (lv_at hl 3 rfl) ?_
              refine va_get (D := D) (ci := 9) (v := .ref (ma 45)) (C := RX9) (T := TX9) (N := 68) hx hb htb iX9 hown hK.1 hP 0 rfl rfl 45 (by decide) (htb _ k_1003) (fun _ h9 => h9) rfl dX9_says_90 ?_
              refine lv_iload_n hx hb dX9_says_93 rfl (lv_at hl 2 rfl) ?_
              refine lv_iconst (v := 1) hx hb dX9_says_94 (by decide) ?_
              refine lv_isub hx hb dX9_says_95 ?_
              refine lv_topi (fun z_44 ez_44 => ?_)
              have jz_44 : z_44.toInt = L2_8.toInt - 1 := by rw [ez_44]; exact g_sub rfl t_1 (by omega) (by omega)
              refine lv_aload_n hx hb dX9_says_96 rfl (lv_at hl 3 rfl) ?_
              refine va_get (D := D) (ci := 9) (v := .ref (ma 45)) (C := RX9) (T := TX9) (N := 68) hx hb htb iX9 hown hK.1 hP 0 rfl rfl 45 (by decide) (htb _ k_1003) (fun _ h9 => h9) rfl dX9_says_97 ?_
              refine lv_iload_n hx hb dX9_says_100 rfl (lv_at hl 2 rfl) ?_
              refine lv_iconst (v := 1) hx hb dX9_says_101 (by decide) ?_
              refine lv_isub hx hb dX9_says_102 ?_
              refine lv_topi (fun z_45 ez_45 => ?_)
              have jz_45 : z_45.toInt = L2_8.toInt - 1 := by rw [ez_45]; exact g_sub rfl t_1 (by omega) (by omega)
              refine va_iald hx hb hK.1 hP 4 0 rfl rfl (g_in rfl (by omega) (by omega)) dX9_says_103 ?_
              refine lv_topi (fun z_46 ez_46 => ?_)
              have kz_46 := congrArg Int32.toInt ez_46
              refine lv_if_ne (tgt := 111) hx hb dX9_says_104 (by decide) (fun c_47 => ?_) (fun c_47 => ?_)
              ·
                have ic_47 : z_46.toInt ≠ 0 := mt (g_eq rfl t_0).mpr c_47
                clear c_47
                refine lv_iconst (v := 0) hx hb dX9_says_111 (by decide) ?_
                refine va_iast hx hb hK.1 hP hD hS 4 0 rfl rfl (g_in rfl (by omega) (by omega)) dX9_says_112 (fun H locs hP hD hS => ?_)
                have hP : va_P D vwCl [(mh, .inr (9, G9 ma mcode mtoday moffs mmany msumW msumA msumR msumWW msumWA msumAA msumWR msumAR mupper mlower mrates mtaped mlaid mat mtk mtkAt mtkNumber mwaits mlisted mdealtMany)), ((ma 35), .inl (E 0, 2, .inl mf35)), ((ma 36), .inl (E 0, 384, .inl mf36)), ((ma 37), .inl (E 0, 384, .inl mf37)), ((ma 45), .inl (E 0, 130, .inl (upd mf45_8 (z_44 : Int32).toNatClampNeg 0))), ((ma 46), .inl (E 0, 24, .inl mf46))] H := hP
                have hD := toW hP hD rfl
                refine lv_goto (tgt := 209) hx hb dX9_says_113 (by decide) ?_
                obtain ⟨z_48, ez_48⟩ : ∃ y : Int32, y = L3_8 + 1 := ⟨_, rfl⟩
                have jz_48 : z_48.toInt = L3_8.toInt + 1 := by rw [ez_48]; exact g_add rfl t_1 (by omega) (by omega)
                refine lv_iinc (v := z_48) (lv' := [(3, .int z_48), (4, .int z_7), (2, .int L2_8), (0, .ref mh), (1, .int 0)]) hx hb dX9_says_209 hl (k := 1) rfl (by rw [ez_48]; rfl) (by decide) rfl (fun ls hl => ?_)
                refine lv_goto (tgt := 8) hx hb dX9_says_212 (by decide) ?_
                exact ih_2 z_48 L2_8 (upd mf45_8 (z_44 : Int32).toNatClampNeg 0) _ _ _ (by have h0 := t_0; (try dsimp only); omega) (by have h0 := t_0; (try dsimp only); omega) (by have hh := hgt_at (f := mf36) (b := 0) (i := L3_8) (j := z_48) (by omega) jz_48; rw [← ez_7] at hh; unfold dl at hh; (try dsimp only); (repeat' split at hh) <;> omega) hP hD hS (lv_sub hl [0, 2, 3, 4] rfl)
              ·
                have ic_47 : z_46.toInt = 0 := (g_eq rfl t_0).mp c_47
                clear c_47
                refine lv_iconst (v := 1) hx hb dX9_says_107 (by decide) ?_
                refine lv_goto (tgt := 112) hx hb dX9_says_108 (by decide) ?_
                refine va_iast hx hb hK.1 hP hD hS 4 0 rfl rfl (g_in rfl (by omega) (by omega)) dX9_says_112 (fun H locs hP hD hS => ?_)
                have hP : va_P D vwCl [(mh, .inr (9, G9 ma mcode mtoday moffs mmany msumW msumA msumR msumWW msumWA msumAA msumWR msumAR mupper mlower mrates mtaped mlaid mat mtk mtkAt mtkNumber mwaits mlisted mdealtMany)), ((ma 35), .inl (E 0, 2, .inl mf35)), ((ma 36), .inl (E 0, 384, .inl mf36)), ((ma 37), .inl (E 0, 384, .inl mf37)), ((ma 45), .inl (E 0, 130, .inl (upd mf45_8 (z_44 : Int32).toNatClampNeg 1))), ((ma 46), .inl (E 0, 24, .inl mf46))] H := hP
                have hD := toW hP hD rfl
                refine lv_goto (tgt := 209) hx hb dX9_says_113 (by decide) ?_
                obtain ⟨z_49, ez_49⟩ : ∃ y : Int32, y = L3_8 + 1 := ⟨_, rfl⟩
                have jz_49 : z_49.toInt = L3_8.toInt + 1 := by rw [ez_49]; exact g_add rfl t_1 (by omega) (by omega)
                refine lv_iinc (v := z_49) (lv' := [(3, .int z_49), (4, .int z_7), (2, .int L2_8), (0, .ref mh), (1, .int 0)]) hx hb dX9_says_209 hl (k := 1) rfl (by rw [ez_49]; rfl) (by decide) rfl (fun ls hl => ?_)
                refine lv_goto (tgt := 8) hx hb dX9_says_212 (by decide) ?_
                exact ih_2 z_49 L2_8 (upd mf45_8 (z_44 : Int32).toNatClampNeg 1) _ _ _ (by have h0 := t_0; (try dsimp only); omega) (by have h0 := t_0; (try dsimp only); omega) (by have hh := hgt_at (f := mf36) (b := 0) (i := L3_8) (j := z_49) (by omega) jz_49; rw [← ez_7] at hh; unfold dl at hh; (try dsimp only); (repeat' split at hh) <;> omega) hP hD hS (lv_sub hl [0, 2, 3, 4] rfl)
          ·
            have ic_13 : 100 ≤ z_7.toInt := by first | exact (g_le t_100 rfl).mp c_13 | (have h := mt (g_lt rfl t_100).mpr c_13; omega)
            clear c_13
            refine lv_aload_n hx hb dX9_says_45 rfl (lv_at hl 3 rfl) ?_
            refine va_get (D := D) (ci := 9) (v := .ref (ma 45)) (C := RX9) (T := TX9) (N := 68) hx hb htb iX9 hown hK.1 hP 0 rfl rfl 45 (by decide) (htb _ k_1003) (fun _ h9 => h9) rfl dX9_says_46 ?_
            refine lv_iload_n hx hb dX9_says_49 rfl (lv_at hl 2 rfl) ?_
            refine lv_iload hx hb dX9_says_50 (lv_at hl 0 rfl) ?_
            refine lv_iconst (v := 1) hx hb dX9_says_52 (by decide) ?_
            refine lv_icmp_ne (tgt := 65) hx hb dX9_says_53 (by decide) (fun c_50 => ?_) (fun c_50 => absurd c_50 (by rw [g_eq rfl t_1]; omega))
            refine lv_aload_n hx hb dX9_says_65 rfl (lv_at hl 3 rfl) ?_
            refine va_get (D := D) (ci := 9) (v := .ref (ma 46)) (C := RX9) (T := TX9) (N := 68) hx hb htb iX9 hown hK.1 hP 0 rfl rfl 46 (by decide) (htb _ k_1004) (fun _ h9 => h9) rfl dX9_says_66 ?_
            refine lv_iload hx hb dX9_says_69 (lv_at hl 0 rfl) ?_
            refine lv_bipush (v := 100) hx hb dX9_says_71 (by decide) ?_
            refine lv_isub hx hb dX9_says_73 ?_
            refine lv_topi (fun z_51 ez_51 => ?_)
            have jz_51 : z_51.toInt = z_7.toInt - 100 := by rw [ez_51]; exact g_sub rfl t_100 (by omega) (by omega)
            refine va_iald hx hb hK.1 hP 5 0 rfl rfl (g_in rfl (by omega) (by omega)) dX9_says_74 ?_
            refine lv_topi (fun z_52 ez_52 => ?_)
            have kz_52 := congrArg Int32.toInt ez_52
            refine va_iast hx hb hK.1 hP hD hS 4 0 rfl rfl (g_in rfl (by omega) (by omega)) dX9_says_75 (fun H locs hP hD hS => ?_)
            have hP : va_P D vwCl [(mh, .inr (9, G9 ma mcode mtoday moffs mmany msumW msumA msumR msumWW msumWA msumAA msumWR msumAR mupper mlower mrates mtaped mlaid mat mtk mtkAt mtkNumber mwaits mlisted mdealtMany)), ((ma 35), .inl (E 0, 2, .inl mf35)), ((ma 36), .inl (E 0, 384, .inl mf36)), ((ma 37), .inl (E 0, 384, .inl mf37)), ((ma 45), .inl (E 0, 130, .inl (upd mf45_8 (L2_8 : Int32).toNatClampNeg z_52))), ((ma 46), .inl (E 0, 24, .inl mf46))] H := hP
            have hD := toW hP hD rfl
            obtain ⟨z_53, ez_53⟩ : ∃ y : Int32, y = L2_8 + 1 := ⟨_, rfl⟩
            have jz_53 : z_53.toInt = L2_8.toInt + 1 := by rw [ez_53]; exact g_add rfl t_1 (by omega) (by omega)
            refine lv_iinc (v := z_53) (lv' := [(2, .int z_53), (4, .int z_7), (3, .int L3_8), (0, .ref mh), (1, .int 0)]) hx hb dX9_says_76 hl (k := 2) rfl (by rw [ez_53]; rfl) (by decide) rfl (fun ls hl => ?_)
            refine lv_goto (tgt := 209) hx hb dX9_says_79 (by decide) ?_
            obtain ⟨z_54, ez_54⟩ : ∃ y : Int32, y = L3_8 + 1 := ⟨_, rfl⟩
            have jz_54 : z_54.toInt = L3_8.toInt + 1 := by rw [ez_54]; exact g_add rfl t_1 (by omega) (by omega)
            refine lv_iinc (v := z_54) (lv' := [(3, .int z_54), (2, .int z_53), (4, .int z_7), (0, .ref mh), (1, .int 0)]) hx hb dX9_says_209 hl (k := 2) rfl (by rw [ez_54]; rfl) (by decide) rfl (fun ls hl => ?_)
            refine lv_goto (tgt := 8) hx hb dX9_says_212 (by decide) ?_
            exact ih_2 z_54 z_53 (upd mf45_8 (L2_8 : Int32).toNatClampNeg z_52) _ _ _ (by have h0 := t_0; (try dsimp only); omega) (by have h0 := t_0; (try dsimp only); omega) (by have hh := hgt_at (f := mf36) (b := 0) (i := L3_8) (j := z_54) (by omega) jz_54; rw [← ez_7] at hh; unfold dl at hh; (try dsimp only); (repeat' split at hh) <;> omega) hP hD hS (lv_sub hl [0, 1, 3, 4] rfl)
  exact loop_1 128 0 0 mf45 _ _ _ (by have h0 := t_0; (try dsimp only); omega) (by have h0 := t_0; (try dsimp only); omega) (by have h0 := t_0; have h1 := t_0; first | (rw [h0, h1]; rfl) | (rw [h0]; rfl)) hP hD hS (lv_sub hl [0, 1, 2, 3] rfl)
set_option maxHeartbeats 4000000 in
set_option maxRecDepth 100000 in
theorem g_X9_says1 (l : Launch) (D : va_G) (E : Nat → Nat) (mh : Nat) (ma : Nat → Nat) (mcode : Int32) (mtoday : Int32) (moffs : Int32) (mmany : Int64) (msumW : Int64) (msumA : Int64) (msumR : Int64) (msumWW : Int64) (msumWA : Int64) (msumAA : Int64) (msumWR : Int64) (msumAR : Int64) (mupper : Int64) (mlower : Int64) (mrates : Int32) (mtaped : Int32) (mlaid : Int32) (mat : Int32) (mtk : Int32) (mtkAt : Int32) (mtkNumber : Int32) (mwaits : Int32) (mlisted : Int32) (mdealtMany : Int32) (mf35 : Nat → Int32) (mf36 : Nat → Int32) (mf37 : Nat → Int32) (mf45 : Nat → Int32) (mf46 : Nat → Int32) (sz : Nat) (hi_m : (0 ≤ mtoday.toInt ∧ mtoday.toInt ≤ 399) ∧ (0 ≤ moffs.toInt ∧ moffs.toInt ≤ 60) ∧ (0 ≤ mrates.toInt ∧ mrates.toInt ≤ 60) ∧ (0 ≤ mtaped.toInt ∧ mtaped.toInt ≤ 120) ∧ (0 ≤ mlisted.toInt ∧ mlisted.toInt ≤ 9) ∧ (0 ≤ mdealtMany.toInt ∧ mdealtMany.toInt ≤ 9)) (hr_m35 : ∀ k : Nat, k < 2 → 0 ≤ (mf35 k).toInt ∧ (mf35 k).toInt ≤ 127) (hjw : JW mf36 mf35) : Met l yX9_says (wl yX9_says cX9_says 5 (some .int)) (RM 1 0 0) (mu_P D E [.ref mh, .int 1] [(mh, .inr (9, G9 ma mcode mtoday moffs mmany msumW msumA msumR msumWW msumWA msumAA msumWR msumAR mupper mlower mrates mtaped mlaid mat mtk mtkAt mtkNumber mwaits mlisted mdealtMany)), ((ma 35), .inl (E 0, 2, .inl mf35)), ((ma 36), .inl (E 0, 384, .inl mf36)), ((ma 37), .inl (E 0, 384, .inl mf37)), ((ma 45), .inl (E 0, 130, .inl mf45)), ((ma 46), .inl (E 0, 24, .inl mf46))] sz) (va_Qi (fun (r : Int32) (u : (Nat → Int32)) => True) (mu_B D (va_A [(mh, .inr (9, G9 ma mcode mtoday moffs mmany msumW msumA msumR msumWW msumWA msumAA msumWR msumAR mupper mlower mrates mtaped mlaid mat mtk mtkAt mtkNumber mwaits mlisted mdealtMany)), ((ma 35), .inl (E 0, 2, .inl mf35)), ((ma 36), .inl (E 0, 384, .inl mf36)), ((ma 37), .inl (E 0, 384, .inl mf37)), ((ma 45), .inl (E 0, 130, .inl mf45)), ((ma 46), .inl (E 0, 24, .inl mf46))] sz) (fun (u : (Nat → Int32)) => [(mh, .inr (9, G9 ma mcode mtoday moffs mmany msumW msumA msumR msumWW msumWA msumAA msumWR msumAR mupper mlower mrates mtaped mlaid mat mtk mtkAt mtkNumber mwaits mlisted mdealtMany)), ((ma 35), .inl (E 0, 2, .inl mf35)), ((ma 36), .inl (E 0, 384, .inl mf36)), ((ma 37), .inl (E 0, 384, .inl mf37)), ((ma 45), .inl (E 0, 130, .inl u)), ((ma 46), .inl (E 0, 24, .inl mf46))])) (va_A [(mh, .inr (9, G9 ma mcode mtoday moffs mmany msumW msumA msumR msumWW msumWA msumAA msumWR msumAR mupper mlower mrates mtaped mlaid mat mtk mtkAt mtkNumber mwaits mlisted mdealtMany)), ((ma 35), .inl (E 0, 2, .inl mf35)), ((ma 36), .inl (E 0, 384, .inl mf36)), ((ma 37), .inl (E 0, 384, .inl mf37)), ((ma 45), .inl (E 0, 130, .inl mf45)), ((ma 46), .inl (E 0, 24, .inl mf46))] sz)) 0 0 (va_A [(mh, .inr (9, G9 ma mcode mtoday moffs mmany msumW msumA msumR msumWW msumWA msumAA msumWR msumAR mupper mlower mrates mtaped mlaid mat mtk mtkAt mtkNumber mwaits mlisted mdealtMany)), ((ma 35), .inl (E 0, 2, .inl mf35)), ((ma 36), .inl (E 0, 384, .inl mf36)), ((ma 37), .inl (E 0, 384, .inl mf37)), ((ma 45), .inl (E 0, 130, .inl mf45)), ((ma 46), .inl (E 0, 24, .inl mf46))] sz) := by
  refine Met.ofW (cc := cX9_says) (maxL := 5) (ret := (some .int)) (by decide) rfl ?_
  intro p e s m args below meth c s₁ B hml hv
  obtain ⟨rfl, hsz, hP, hK, hD0⟩ := hv
  have hx := B.exec; have hb := B.bytes; have hr := B.returns
  have hts := atoms_spec (ws := wl yX9_says cX9_says 5 (some .int)) B.pre
  have htb : ∀ w ∈ tb, w.before _ s = true := fun w h => hts w (List.mem_cons_of_mem _ h)
  have hown : s.vm.findClass RX9 = some m.cls := findClass_of_methodNamed B.named
  have hlocks := B.notSynchronized
  subst hsz
  have hD := hD0.self (sz := s.heap.size)
  generalize hAe : va_A [(mh, .inr (9, G9 ma mcode mtoday moffs mmany msumW msumA msumR msumWW msumWA msumAA msumWR msumAR mupper mlower mrates mtaped mlaid mat mtk mtkAt mtkNumber mwaits mlisted mdealtMany)), ((ma 35), .inl (E 0, 2, .inl mf35)), ((ma 36), .inl (E 0, 384, .inl mf36)), ((ma 37), .inl (E 0, 384, .inl mf37)), ((ma 45), .inl (E 0, 130, .inl mf45)), ((ma 46), .inl (E 0, 24, .inl mf46))] s.heap.size = A at hD ⊢
  have hA : ∀ q : Nat, s.heap.size ≤ q → A q := fun q h => by rw [← hAe]; exact Or.inr h
  have hS : va_S A s.heap s.heap [] := va_S.rf
  have hP : va_P D vwCl [(mh, .inr (9, G9 ma mcode mtoday moffs mmany msumW msumA msumR msumWW msumWA msumAA msumWR msumAR mupper mlower mrates mtaped mlaid mat mtk mtkAt mtkNumber mwaits mlisted mdealtMany)), ((ma 35), .inl (E 0, 2, .inl mf35)), ((ma 36), .inl (E 0, 384, .inl mf36)), ((ma 37), .inl (E 0, 384, .inl mf37)), ((ma 45), .inl (E 0, 130, .inl mf45)), ((ma 46), .inl (E 0, 24, .inl mf46))] s.heap := hP
  have hl := lv_entry ([.ref mh, .int 1]) (n := 5) (Nat.le_of_ble_eq_true rfl)
  rw [lg_entry_eq]
  generalize (lg_sl ([.ref mh, .int 1]) ++ List.replicate (5 - (lg_sl ([.ref mh, .int 1])).length) Slot.unset).toArray = ls at hl ⊢
  have hl : lv_has ls 5 [(0, .ref mh), (1, .int 1)] := hl
  have hrs : 0 ≤ (mf35 (1 : Int32).toNatClampNeg).toInt ∧ (mf35 (1 : Int32).toNatClampNeg).toInt ≤ 127 := hr_m35 _ (by decide)
  have hrn := i_clamp0 (x := mf35 (1 : Int32).toNatClampNeg) hrs.1
  have hwf : WFc mf36 128 (mf35 (1 : Int32).toNatClampNeg).toNatClampNeg := hjw 1 (by decide)
  refine lv_iconst (v := 0) hx hb dX9_says_0 (by decide) ?_
  refine lv_istore_n (lv' := [(2, .int 0), (0, .ref mh), (1, .int 1)]) hx hb dX9_says_1 rfl hl (by decide) rfl (fun ls hl => ?_)
  refine lv_sipush (v := 128) hx hb dX9_says_2 (by decide) ?_
  refine lv_iload_n hx hb dX9_says_5 rfl (lv_at hl 2 rfl) ?_
  refine lv_imul hx hb dX9_says_6 ?_
  refine W_top (y := .int 128) (by decide) ?_
  refine lv_istore_n (lv' := [(3, .int 128), (2, .int 0), (0, .ref mh), (1, .int 1)]) hx hb dX9_says_7 rfl hl (by decide) rfl (fun ls hl => ?_)
  have loop_1 : ∀ (N_3 : Nat) (L3_8 : Int32) (L2_8 : Int32) (mf45_8 : Nat → Int32) (H : Heap) (locs : List Loc) (ls : Array Slot), 128 + (mf35 (1 : Int32).toNatClampNeg).toInt - L3_8.toInt < (N_3 : Int) → (128 ≤ L3_8.toInt ∧ L3_8.toInt ≤ 128 + (mf35 (1 : Int32).toNatClampNeg).toInt ∧ 0 ≤ L2_8.toInt ∧ L2_8.toInt ≤ L3_8.toInt - 128) → (L2_8.toInt = hgt mf36 128 (L3_8.toInt - ((128 : Nat) : Int)).toNat) → va_P D vwCl [(mh, .inr (9, G9 ma mcode mtoday moffs mmany msumW msumA msumR msumWW msumWA msumAA msumWR msumAR mupper mlower mrates mtaped mlaid mat mtk mtkAt mtkNumber mwaits mlisted mdealtMany)), ((ma 35), .inl (E 0, 2, .inl mf35)), ((ma 36), .inl (E 0, 384, .inl mf36)), ((ma 37), .inl (E 0, 384, .inl mf37)), ((ma 45), .inl (E 0, 130, .inl mf45_8)), ((ma 46), .inl (E 0, 24, .inl mf46))] H → va_D A [(mh, .inr (9, G9 ma mcode mtoday moffs mmany msumW msumA msumR msumWW msumWA msumAA msumWR msumAR mupper mlower mrates mtaped mlaid mat mtk mtkAt mtkNumber mwaits mlisted mdealtMany)), ((ma 35), .inl (E 0, 2, .inl mf35)), ((ma 36), .inl (E 0, 384, .inl mf36)), ((ma 37), .inl (E 0, 384, .inl mf37)), ((ma 45), .inl (E 0, 130, .inl mf45_8)), ((ma 46), .inl (E 0, 24, .inl mf46))] → va_S A s.heap H locs → lv_has ls 5 [(3, .int L3_8), (2, .int L2_8), (0, .ref mh), (1, .int 1)] → W p l e (headSpec (wl yX9_says cX9_says 5 (some .int)) (RM 1 0 0)).room s m [Value.ref mh, .int 1].toArray below meth c H locs 0 0 (MQ below (va_Qi (fun (r : Int32) (u : (Nat → Int32)) => True) (mu_B D A (fun (u : (Nat → Int32)) => [(mh, .inr (9, G9 ma mcode mtoday moffs mmany msumW msumA msumR msumWW msumWA msumAA msumWR msumAR mupper mlower mrates mtaped mlaid mat mtk mtkAt mtkNumber mwaits mlisted mdealtMany)), ((ma 35), .inl (E 0, 2, .inl mf35)), ((ma 36), .inl (E 0, 384, .inl mf36)), ((ma 37), .inl (E 0, 384, .inl mf37)), ((ma 45), .inl (E 0, 130, .inl u)), ((ma 46), .inl (E 0, 24, .inl mf46))])) A) [Value.ref mh, .int 1].toArray s 0 0 A) (F0 m 8 ls []) := by
    intro N_3
    induction N_3 with
    | zero => intro L3_8 L2_8 mf45_8 H locs ls hm v0_8 v1_8 _ _ _ _; exfalso; omega
    | succ N_3 ih_2 =>
      intro L3_8 L2_8 mf45_8 H locs ls hm v0_8 v1_8 hP hD hS hl
      have lo_L3_8 := i_lo L3_8; have hi_L3_8 := i_hi L3_8
      have lo_L2_8 := i_lo L2_8; have hi_L2_8 := i_hi L2_8
      refine lv_iload_n hx hb dX9_says_8 rfl (lv_at hl 0 rfl) ?_
      refine lv_sipush (v := 128) hx hb dX9_says_9 (by decide) ?_
      refine lv_iload_n hx hb dX9_says_12 rfl (lv_at hl 3 rfl) ?_
      refine lv_imul hx hb dX9_says_13 ?_
      refine W_top (y := .int 128) (by decide) ?_
      refine lv_aload_n hx hb dX9_says_14 rfl (lv_at hl 2 rfl) ?_
      refine va_get (D := D) (ci := 9) (v := .ref (ma 35)) (C := RX9) (T := TX9) (N := 68) hx hb htb iX9 hown hK.1 hP 0 rfl rfl 35 (by decide) (htb _ k_993) (fun _ h9 => h9) rfl dX9_says_15 ?_
      refine lv_iload_n hx hb dX9_says_18 rfl (lv_at hl 3 rfl) ?_
      refine va_iald hx hb hK.1 hP 1 0 rfl rfl (g_in t_1 (by decide) (by decide)) dX9_says_19 ?_
      refine lv_topi (fun z_4 ez_4 => ?_)
      have kz_4 := congrArg Int32.toInt ez_4
      have jz_4 : 0 ≤ z_4.toInt ∧ z_4.toInt ≤ 127 := by rw [ez_4]; exact hr_m35 _ (g_ix t_1 (by omega) (by omega))
      refine lv_iadd hx hb dX9_says_20 ?_
      refine lv_topi (fun z_5 ez_5 => ?_)
      have jz_5 : z_5.toInt = 128 + z_4.toInt := by rw [ez_5]; exact g_add t_128 rfl (by omega) (by omega)
      refine lv_icmp_ge (tgt := 215) hx hb dX9_says_21 (by decide) (fun c_6 => ?_) (fun c_6 => ?_)
      ·
        have ic_6 : z_5.toInt ≤ L3_8.toInt := by first | exact (g_le rfl rfl).mp c_6 | (have h := mt (g_lt rfl rfl).mpr c_6; omega)
        clear c_6
        refine lv_aload_n hx hb dX9_says_215 rfl (lv_at hl 2 rfl) ?_
        refine va_get (D := D) (ci := 9) (v := .ref (ma 45)) (C := RX9) (T := TX9) (N := 68) hx hb htb iX9 hown hK.1 hP 0 rfl rfl 45 (by decide) (htb _ k_1003) (fun _ h9 => h9) rfl dX9_says_216 ?_
        refine lv_iconst (v := 0) hx hb dX9_says_219 (by decide) ?_
        refine va_iald hx hb hK.1 hP 4 0 rfl rfl (g_in t_0 (by decide) (by decide)) dX9_says_220 ?_
        refine lv_topi (fun z_7 ez_7 => ?_)
        have kz_7 := congrArg Int32.toInt ez_7
        have hP9 := hP.sub (ws' := [(mh, .inr (9, G9 ma mcode mtoday moffs mmany msumW msumA msumR msumWW msumWA msumAA msumWR msumAR mupper mlower mrates mtaped mlaid mat mtk mtkAt mtkNumber mwaits mlisted mdealtMany)), ((ma 35), .inl (E 0, 2, .inl mf35)), ((ma 36), .inl (E 0, 384, .inl mf36)), ((ma 37), .inl (E 0, 384, .inl mf37)), ((ma 45), .inl (E 0, 130, .inl mf45_8)), ((ma 46), .inl (E 0, 24, .inl mf46))]) [0, 1, 2, 3, 4, 5] rfl
        have hD9 := hD.sub (ws' := [(mh, .inr (9, G9 ma mcode mtoday moffs mmany msumW msumA msumR msumWW msumWA msumAA msumWR msumAR mupper mlower mrates mtaped mlaid mat mtk mtkAt mtkNumber mwaits mlisted mdealtMany)), ((ma 35), .inl (E 0, 2, .inl mf35)), ((ma 36), .inl (E 0, 384, .inl mf36)), ((ma 37), .inl (E 0, 384, .inl mf37)), ((ma 45), .inl (E 0, 130, .inl mf45_8)), ((ma 46), .inl (E 0, 24, .inl mf46))]) [0, 1, 2, 3, 4, 5] (by decide) rfl
        exact W.iret (v := z_7) hx hb hr (fun t ht hW => ⟨⟨z_7, mf45_8, rfl, trivial, by rw [ht]; exact hP9, hD9⟩, hS.F ht⟩) hS.2.2 dX9_says_221
      ·
        have ic_6 : L3_8.toInt < z_5.toInt := by first | exact (g_lt rfl rfl).mp c_6 | (have h := mt (g_le rfl rfl).mpr c_6; omega)
        clear c_6
        refine lv_aload_n hx hb dX9_says_24 rfl (lv_at hl 2 rfl) ?_
        refine va_get (D := D) (ci := 9) (v := .ref (ma 36)) (C := RX9) (T := TX9) (N := 68) hx hb htb iX9 hown hK.1 hP 0 rfl rfl 36 (by decide) (htb _ k_994) (fun _ h9 => h9) rfl dX9_says_25 ?_
        refine lv_iload_n hx hb dX9_says_28 rfl (lv_at hl 0 rfl) ?_
        refine va_iald hx hb hK.1 hP 2 0 rfl rfl (g_in rfl (by omega) (by omega)) dX9_says_29 ?_
        refine lv_topi (fun z_8 ez_8 => ?_)
        have kz_8 := congrArg Int32.toInt ez_8
        have hok := WF_at hwf (i := L3_8) (by omega) (by omega) ez_8 v1_8
        refine lv_istore (lv' := [(4, .int z_8), (3, .int L3_8), (2, .int L2_8), (0, .ref mh), (1, .int 1)]) hx hb dX9_says_30 hl (by decide) rfl (fun ls hl => ?_)
        refine lv_iload hx hb dX9_says_32 (lv_at hl 0 rfl) ?_
        refine lv_iconst (v := 1) hx hb dX9_says_34 (by decide) ?_
        refine lv_icmp_eq (tgt := 45) hx hb dX9_says_35 (by decide) (fun c_9 => ?_) (fun c_9 => ?_)
        ·
          have ic_9 : z_8.toInt = 1 := (g_eq rfl t_1).mp c_9
          clear c_9
          refine lv_aload_n hx hb dX9_says_45 rfl (lv_at hl 3 rfl) ?_
          refine va_get (D := D) (ci := 9) (v := .ref (ma 45)) (C := RX9) (T := TX9) (N := 68) hx hb htb iX9 hown hK.1 hP 0 rfl rfl 45 (by decide) (htb _ k_1003) (fun _ h9 => h9) rfl dX9_says_46 ?_
          refine lv_iload_n hx hb dX9_says_49 rfl (lv_at hl 2 rfl) ?_
          refine lv_iload hx hb dX9_says_50 (lv_at hl 0 rfl) ?_
          refine lv_iconst (v := 1) hx hb dX9_says_52 (by decide) ?_
          refine lv_icmp_ne (tgt := 65) hx hb dX9_says_53 (by decide) (fun c_10 => absurd (by rw [g_eq rfl t_1]; omega) c_10) (fun c_10 => ?_)
          refine lv_aload_n hx hb dX9_says_56 rfl (lv_at hl 3 rfl) ?_
          refine va_get (D := D) (ci := 9) (v := .ref (ma 37)) (C := RX9) (T := TX9) (N := 68) hx hb htb iX9 hown hK.1 hP 0 rfl rfl 37 (by decide) (htb _ k_995) (fun _ h9 => h9) rfl dX9_says_57 ?_
          refine lv_iload_n hx hb dX9_says_60 rfl (lv_at hl 1 rfl) ?_
          refine va_iald hx hb hK.1 hP 3 0 rfl rfl (g_in rfl (by omega) (by omega)) dX9_says_61 ?_
          refine lv_topi (fun z_11 ez_11 => ?_)
          have kz_11 := congrArg Int32.toInt ez_11
          refine lv_goto (tgt := 75) hx hb dX9_says_62 (by decide) ?_
          refine va_iast hx hb hK.1 hP hD hS 4 0 rfl rfl (g_in rfl (by omega) (by omega)) dX9_says_75 (fun H locs hP hD hS => ?_)
          have hP : va_P D vwCl [(mh, .inr (9, G9 ma mcode mtoday moffs mmany msumW msumA msumR msumWW msumWA msumAA msumWR msumAR mupper mlower mrates mtaped mlaid mat mtk mtkAt mtkNumber mwaits mlisted mdealtMany)), ((ma 35), .inl (E 0, 2, .inl mf35)), ((ma 36), .inl (E 0, 384, .inl mf36)), ((ma 37), .inl (E 0, 384, .inl mf37)), ((ma 45), .inl (E 0, 130, .inl (upd mf45_8 (L2_8 : Int32).toNatClampNeg z_11))), ((ma 46), .inl (E 0, 24, .inl mf46))] H := hP
          have hD := toW hP hD rfl
          obtain ⟨z_12, ez_12⟩ : ∃ y : Int32, y = L2_8 + 1 := ⟨_, rfl⟩
          have jz_12 : z_12.toInt = L2_8.toInt + 1 := by rw [ez_12]; exact g_add rfl t_1 (by omega) (by omega)
          refine lv_iinc (v := z_12) (lv' := [(2, .int z_12), (4, .int z_8), (3, .int L3_8), (0, .ref mh), (1, .int 1)]) hx hb dX9_says_76 hl (k := 2) rfl (by rw [ez_12]; rfl) (by decide) rfl (fun ls hl => ?_)
          refine lv_goto (tgt := 209) hx hb dX9_says_79 (by decide) ?_
          obtain ⟨z_13, ez_13⟩ : ∃ y : Int32, y = L3_8 + 1 := ⟨_, rfl⟩
          have jz_13 : z_13.toInt = L3_8.toInt + 1 := by rw [ez_13]; exact g_add rfl t_1 (by omega) (by omega)
          refine lv_iinc (v := z_13) (lv' := [(3, .int z_13), (2, .int z_12), (4, .int z_8), (0, .ref mh), (1, .int 1)]) hx hb dX9_says_209 hl (k := 2) rfl (by rw [ez_13]; rfl) (by decide) rfl (fun ls hl => ?_)
          refine lv_goto (tgt := 8) hx hb dX9_says_212 (by decide) ?_
          exact ih_2 z_13 z_12 (upd mf45_8 (L2_8 : Int32).toNatClampNeg z_11) _ _ _ (by have h0 := t_1; (try dsimp only); omega) (by have h0 := t_1; (try dsimp only); omega) (by have hh := hgt_at (f := mf36) (b := 128) (i := L3_8) (j := z_13) (by omega) jz_13; rw [← ez_8] at hh; unfold dl at hh; (try dsimp only); (repeat' split at hh) <;> omega) hP hD hS (lv_sub hl [0, 1, 3, 4] rfl)
        ·
          have ic_9 : z_8.toInt ≠ 1 := mt (g_eq rfl t_1).mpr c_9
          clear c_9
          refine lv_iload hx hb dX9_says_38 (lv_at hl 0 rfl) ?_
          refine lv_bipush (v := 100) hx hb dX9_says_40 (by decide) ?_
          refine lv_icmp_lt (tgt := 82) hx hb dX9_says_42 (by decide) (fun c_14 => ?_) (fun c_14 => ?_)
          ·
            have ic_14 : z_8.toInt < 100 := by first | exact (g_lt rfl t_100).mp c_14 | (have h := mt (g_le t_100 rfl).mpr c_14; omega)
            clear c_14
            refine lv_iload hx hb dX9_says_82 (lv_at hl 0 rfl) ?_
            refine lv_bipush (v := 30) hx hb dX9_says_84 (by decide) ?_
            refine lv_icmp_ne (tgt := 116) hx hb dX9_says_86 (by decide) (fun c_15 => ?_) (fun c_15 => ?_)
            ·
              have ic_15 : z_8.toInt ≠ 30 := mt (g_eq rfl t_30).mpr c_15
              clear c_15
              refine lv_iload hx hb dX9_says_116 (lv_at hl 0 rfl) ?_
              refine lv_bipush (v := 70) hx hb dX9_says_118 (by decide) ?_
              refine lv_icmp_eq (tgt := 130) hx hb dX9_says_120 (by decide) (fun c_16 => ?_) (fun c_16 => ?_)
              ·
                have ic_16 : z_8.toInt = 70 := (g_eq rfl t_70).mp c_16
                clear c_16
                refine lv_aload_n hx hb dX9_says_130 rfl (lv_at hl 3 rfl) ?_
                refine va_get (D := D) (ci := 9) (v := .ref (ma 45)) (C := RX9) (T := TX9) (N := 68) hx hb htb iX9 hown hK.1 hP 0 rfl rfl 45 (by decide) (htb _ k_1003) (fun _ h9 => h9) rfl dX9_says_131 ?_
                refine lv_iload_n hx hb dX9_says_134 rfl (lv_at hl 2 rfl) ?_
                refine lv_iconst (v := 1) hx hb dX9_says_135 (by decide) ?_
                refine lv_isub hx hb dX9_says_136 ?_
                refine lv_topi (fun z_17 ez_17 => ?_)
                have jz_17 : z_17.toInt = L2_8.toInt - 1 := by rw [ez_17]; exact g_sub rfl t_1 (by omega) (by omega)
                refine lv_iload hx hb dX9_says_137 (lv_at hl 0 rfl) ?_
                refine lv_bipush (v := 71) hx hb dX9_says_139 (by decide) ?_
                refine lv_icmp_ne (tgt := 166) hx hb dX9_says_141 (by decide) (fun c_18 => ?_) (fun c_18 => absurd c_18 (by rw [g_eq rfl t_71]; omega))
                refine lv_aload_n hx hb dX9_says_166 rfl (lv_at hl 3 rfl) ?_
                refine va_get (D := D) (ci := 9) (v := .ref (ma 45)) (C := RX9) (T := TX9) (N := 68) hx hb htb iX9 hown hK.1 hP 0 rfl rfl 45 (by decide) (htb _ k_1003) (fun _ h9 => h9) rfl dX9_says_167 ?_
                refine lv_iload_n hx hb dX9_says_170 rfl (lv_at hl 2 rfl) ?_
                refine lv_iconst (v := 1) hx hb dX9_says_171 (by decide) ?_
                refine lv_isub hx hb dX9_says_172 ?_
                refine lv_topi (fun z_19 ez_19 => ?_)
                have jz_19 : z_19.toInt = L2_8.toInt - 1 := by rw [ez_19]; exact g_sub rfl t_1 (by omega) (by omega)
                refine va_iald hx hb hK.1 hP 4 0 rfl rfl (g_in rfl (by omega) (by omega)) dX9_says_173 ?_
                refine lv_topi (fun z_20 ez_20 => ?_)
                have kz_20 := congrArg Int32.toInt ez_20
                refine lv_ineg hx hb dX9_says_174 ?_
                refine lv_topi (fun z_21 ez_21 => ?_)
                refine va_iast hx hb hK.1 hP hD hS 4 0 rfl rfl (g_in rfl (by omega) (by omega)) dX9_says_175 (fun H locs hP hD hS => ?_)
                have hP : va_P D vwCl [(mh, .inr (9, G9 ma mcode mtoday moffs mmany msumW msumA msumR msumWW msumWA msumAA msumWR msumAR mupper mlower mrates mtaped mlaid mat mtk mtkAt mtkNumber mwaits mlisted mdealtMany)), ((ma 35), .inl (E 0, 2, .inl mf35)), ((ma 36), .inl (E 0, 384, .inl mf36)), ((ma 37), .inl (E 0, 384, .inl mf37)), ((ma 45), .inl (E 0, 130, .inl (upd mf45_8 (z_17 : Int32).toNatClampNeg z_21))), ((ma 46), .inl (E 0, 24, .inl mf46))] H := hP
                have hD := toW hP hD rfl
                refine lv_goto (tgt := 209) hx hb dX9_says_176 (by decide) ?_
                obtain ⟨z_22, ez_22⟩ : ∃ y : Int32, y = L3_8 + 1 := ⟨_, rfl⟩
                have jz_22 : z_22.toInt = L3_8.toInt + 1 := by rw [ez_22]; exact g_add rfl t_1 (by omega) (by omega)
                refine lv_iinc (v := z_22) (lv' := [(3, .int z_22), (4, .int z_8), (2, .int L2_8), (0, .ref mh), (1, .int 1)]) hx hb dX9_says_209 hl (k := 1) rfl (by rw [ez_22]; rfl) (by decide) rfl (fun ls hl => ?_)
                refine lv_goto (tgt := 8) hx hb dX9_says_212 (by decide) ?_
                exact ih_2 z_22 L2_8 (upd mf45_8 (z_17 : Int32).toNatClampNeg z_21) _ _ _ (by have h0 := t_1; (try dsimp only); omega) (by have h0 := t_1; (try dsimp only); omega) (by have hh := hgt_at (f := mf36) (b := 128) (i := L3_8) (j := z_22) (by omega) jz_22; rw [← ez_8] at hh; unfold dl at hh; (try dsimp only); (repeat' split at hh) <;> omega) hP hD hS (lv_sub hl [0, 2, 3, 4] rfl)
              ·
                have ic_16 : z_8.toInt ≠ 70 := mt (g_eq rfl t_70).mpr c_16
                clear c_16
                refine lv_iload hx hb dX9_says_123 (lv_at hl 0 rfl) ?_
                refine lv_bipush (v := 71) hx hb dX9_says_125 (by decide) ?_
                refine lv_icmp_ne (tgt := 179) hx hb dX9_says_127 (by decide) (fun c_23 => ?_) (fun c_23 => ?_)
                ·
                  have ic_23 : z_8.toInt ≠ 71 := mt (g_eq rfl t_71).mpr c_23
                  clear c_23
                  obtain ⟨z_24, ez_24⟩ : ∃ y : Int32, y = L2_8 + (-1) := ⟨_, rfl⟩
                  have jz_24 : z_24.toInt = L2_8.toInt + -1 := by rw [ez_24]; exact g_add rfl t_m1 (by omega) (by omega)
                  refine lv_iinc (v := z_24) (lv' := [(2, .int z_24), (4, .int z_8), (3, .int L3_8), (0, .ref mh), (1, .int 1)]) hx hb dX9_says_179 hl (k := 2) rfl (by rw [ez_24]; rfl) (by decide) rfl (fun ls hl => ?_)
                  refine lv_aload_n hx hb dX9_says_182 rfl (lv_at hl 3 rfl) ?_
                  refine va_get (D := D) (ci := 9) (v := .ref (ma 45)) (C := RX9) (T := TX9) (N := 68) hx hb htb iX9 hown hK.1 hP 0 rfl rfl 45 (by decide) (htb _ k_1003) (fun _ h9 => h9) rfl dX9_says_183 ?_
                  refine lv_iload_n hx hb dX9_says_186 rfl (lv_at hl 0 rfl) ?_
                  refine lv_iconst (v := 1) hx hb dX9_says_187 (by decide) ?_
                  refine lv_isub hx hb dX9_says_188 ?_
                  refine lv_topi (fun z_25 ez_25 => ?_)
                  have jz_25 : z_25.toInt = z_24.toInt - 1 := by rw [ez_25]; exact g_sub rfl t_1 (by omega) (by omega)
                  refine lv_iload hx hb dX9_says_189 (lv_at hl 1 rfl) ?_
                  refine lv_aload_n hx hb dX9_says_191 rfl (lv_at hl 3 rfl) ?_
                  refine va_get (D := D) (ci := 9) (v := .ref (ma 45)) (C := RX9) (T := TX9) (N := 68) hx hb htb iX9 hown hK.1 hP 0 rfl rfl 45 (by decide) (htb _ k_1003) (fun _ h9 => h9) rfl dX9_says_192 ?_
                  refine lv_iload_n hx hb dX9_says_195 rfl (lv_at hl 0 rfl) ?_
                  refine lv_iconst (v := 1) hx hb dX9_says_196 (by decide) ?_
                  refine lv_isub hx hb dX9_says_197 ?_
                  refine lv_topi (fun z_26 ez_26 => ?_)
                  have jz_26 : z_26.toInt = z_24.toInt - 1 := by rw [ez_26]; exact g_sub rfl t_1 (by omega) (by omega)
                  refine va_iald hx hb hK.1 hP 4 0 rfl rfl (g_in rfl (by omega) (by omega)) dX9_says_198 ?_
                  refine lv_topi (fun z_27 ez_27 => ?_)
                  have kz_27 := congrArg Int32.toInt ez_27
                  refine lv_aload_n hx hb dX9_says_199 rfl (lv_at hl 3 rfl) ?_
                  refine va_get (D := D) (ci := 9) (v := .ref (ma 45)) (C := RX9) (T := TX9) (N := 68) hx hb htb iX9 hown hK.1 hP 0 rfl rfl 45 (by decide) (htb _ k_1003) (fun _ h9 => h9) rfl dX9_says_200 ?_
                  refine lv_iload_n hx hb dX9_says_203 rfl (lv_at hl 0 rfl) ?_
                  refine va_iald hx hb hK.1 hP 4 0 rfl rfl (g_in rfl (by omega) (by omega)) dX9_says_204 ?_
                  refine lv_topi (fun z_28 ez_28 => ?_)
                  have kz_28 := congrArg Int32.toInt ez_28
                  refine callRS (rest := [.int z_25, .ref (ma 45)]) (As := [.int z_8, .int z_27, .int z_28]) hx hb hml hown htb hK (g_X9_both l D E z_8 z_27 z_28 ) ok_X9_both k_1399 k_1400 k_9 k_1401 ⟨(Nat.le_of_ble_eq_true rfl), (Nat.le_of_ble_eq_true rfl)⟩ ⟨(Nat.le_of_ble_eq_true rfl), (Nat.le_of_ble_eq_true rfl)⟩ hl.1 (Nat.le_of_ble_eq_true rfl) rfl rfl dX9_says_205 (hP.sub (ws' := ([] : va_W)) [] rfl) (fun r_29 hw_30 => ?_)
                  refine va_iast hx hb hK.1 hP hD hS 4 0 rfl rfl (g_in rfl (by omega) (by omega)) dX9_says_208 (fun H locs hP hD hS => ?_)
                  have hP : va_P D vwCl [(mh, .inr (9, G9 ma mcode mtoday moffs mmany msumW msumA msumR msumWW msumWA msumAA msumWR msumAR mupper mlower mrates mtaped mlaid mat mtk mtkAt mtkNumber mwaits mlisted mdealtMany)), ((ma 35), .inl (E 0, 2, .inl mf35)), ((ma 36), .inl (E 0, 384, .inl mf36)), ((ma 37), .inl (E 0, 384, .inl mf37)), ((ma 45), .inl (E 0, 130, .inl (upd mf45_8 (z_25 : Int32).toNatClampNeg r_29))), ((ma 46), .inl (E 0, 24, .inl mf46))] H := hP
                  have hD := toW hP hD rfl
                  obtain ⟨z_32, ez_32⟩ : ∃ y : Int32, y = L3_8 + 1 := ⟨_, rfl⟩
                  have jz_32 : z_32.toInt = L3_8.toInt + 1 := by rw [ez_32]; exact g_add rfl t_1 (by omega) (by omega)
                  refine lv_iinc (v := z_32) (lv' := [(3, .int z_32), (2, .int z_24), (4, .int z_8), (0, .ref mh), (1, .int 1)]) hx hb dX9_says_209 hl (k := 2) rfl (by rw [ez_32]; rfl) (by decide) rfl (fun ls hl => ?_)
                  refine lv_goto (tgt := 8) hx hb dX9_says_212 (by decide) ?_
                  exact ih_2 z_32 z_24 (upd mf45_8 (z_25 : Int32).toNatClampNeg r_29) _ _ _ (by have h0 := t_1; (try dsimp only); omega) (by have h0 := t_1; (try dsimp only); omega) (by have hh := hgt_at (f := mf36) (b := 128) (i := L3_8) (j := z_32) (by omega) jz_32; rw [← ez_8] at hh; unfold dl at hh; (try dsimp only); (repeat' split at hh) <;> omega) hP hD hS (lv_sub hl [0, 1, 3, 4] rfl)
                ·
                  have ic_23 : z_8.toInt = 71 := (g_eq rfl t_71).mp c_23
                  clear c_23
                  refine lv_aload_n hx hb dX9_says_130 rfl (lv_at hl 3 rfl) ?_
                  refine va_get (D := D) (ci := 9) (v := .ref (ma 45)) (C := RX9) (T := TX9) (N := 68) hx hb htb iX9 hown hK.1 hP 0 rfl rfl 45 (by decide) (htb _ k_1003) (fun _ h9 => h9) rfl dX9_says_131 ?_
                  refine lv_iload_n hx hb dX9_says_134 rfl (lv_at hl 2 rfl) ?_
                  refine lv_iconst (v := 1) hx hb dX9_says_135 (by decide) ?_
                  refine lv_isub hx hb dX9_says_136 ?_
                  refine lv_topi (fun z_33 ez_33 => ?_)
                  have jz_33 : z_33.toInt = L2_8.toInt - 1 := by rw [ez_33]; exact g_sub rfl t_1 (by omega) (by omega)
                  refine lv_iload hx hb dX9_says_137 (lv_at hl 0 rfl) ?_
                  refine lv_bipush (v := 71) hx hb dX9_says_139 (by decide) ?_
                  refine lv_icmp_ne (tgt := 166) hx hb dX9_says_141 (by decide) (fun c_34 => absurd (by rw [g_eq rfl t_71]; omega) c_34) (fun c_34 => ?_)
                  refine lv_aload_n hx hb dX9_says_144 rfl (lv_at hl 3 rfl) ?_
                  refine va_get (D := D) (ci := 9) (v := .ref (ma 45)) (C := RX9) (T := TX9) (N := 68) hx hb htb iX9 hown hK.1 hP 0 rfl rfl 45 (by decide) (htb _ k_1003) (fun _ h9 => h9) rfl dX9_says_145 ?_
                  refine lv_iload_n hx hb dX9_says_148 rfl (lv_at hl 2 rfl) ?_
                  refine lv_iconst (v := 1) hx hb dX9_says_149 (by decide) ?_
                  refine lv_isub hx hb dX9_says_150 ?_
                  refine lv_topi (fun z_35 ez_35 => ?_)
                  have jz_35 : z_35.toInt = L2_8.toInt - 1 := by rw [ez_35]; exact g_sub rfl t_1 (by omega) (by omega)
                  refine va_iald hx hb hK.1 hP 4 0 rfl rfl (g_in rfl (by omega) (by omega)) dX9_says_151 ?_
                  refine lv_topi (fun z_36 ez_36 => ?_)
                  have kz_36 := congrArg Int32.toInt ez_36
                  refine lv_if_lt (tgt := 166) hx hb dX9_says_152 (by decide) (fun c_37 => ?_) (fun c_37 => ?_)
                  ·
                    have ic_37 : z_36.toInt < 0 := by first | exact (g_lt rfl t_0).mp c_37 | (have h := mt (g_le t_0 rfl).mpr c_37; omega)
                    clear c_37
                    refine lv_aload_n hx hb dX9_says_166 rfl (lv_at hl 3 rfl) ?_
                    refine va_get (D := D) (ci := 9) (v := .ref (ma 45)) (C := RX9) (T := TX9) (N := 68) hx hb htb iX9 hown hK.1 hP 0 rfl rfl 45 (by decide) (htb _ k_1003) (fun _ h9 => h9) rfl dX9_says_167 ?_
                    refine lv_iload_n hx hb dX9_says_170 rfl (lv_at hl 2 rfl) ?_
                    refine lv_iconst (v := 1) hx hb dX9_says_171 (by decide) ?_
                    refine lv_isub hx hb dX9_says_172 ?_
                    refine lv_topi (fun z_38 ez_38 => ?_)
                    have jz_38 : z_38.toInt = L2_8.toInt - 1 := by rw [ez_38]; exact g_sub rfl t_1 (by omega) (by omega)
                    refine va_iald hx hb hK.1 hP 4 0 rfl rfl (g_in rfl (by omega) (by omega)) dX9_says_173 ?_
                    refine lv_topi (fun z_39 ez_39 => ?_)
                    have kz_39 := congrArg Int32.toInt ez_39
                    refine lv_ineg hx hb dX9_says_174 ?_
                    refine lv_topi (fun z_40 ez_40 => ?_)
                    refine va_iast hx hb hK.1 hP hD hS 4 0 rfl rfl (g_in rfl (by omega) (by omega)) dX9_says_175 (fun H locs hP hD hS => ?_)
                    have hP : va_P D vwCl [(mh, .inr (9, G9 ma mcode mtoday moffs mmany msumW msumA msumR msumWW msumWA msumAA msumWR msumAR mupper mlower mrates mtaped mlaid mat mtk mtkAt mtkNumber mwaits mlisted mdealtMany)), ((ma 35), .inl (E 0, 2, .inl mf35)), ((ma 36), .inl (E 0, 384, .inl mf36)), ((ma 37), .inl (E 0, 384, .inl mf37)), ((ma 45), .inl (E 0, 130, .inl (upd mf45_8 (z_33 : Int32).toNatClampNeg z_40))), ((ma 46), .inl (E 0, 24, .inl mf46))] H := hP
                    have hD := toW hP hD rfl
                    refine lv_goto (tgt := 209) hx hb dX9_says_176 (by decide) ?_
                    obtain ⟨z_41, ez_41⟩ : ∃ y : Int32, y = L3_8 + 1 := ⟨_, rfl⟩
                    have jz_41 : z_41.toInt = L3_8.toInt + 1 := by rw [ez_41]; exact g_add rfl t_1 (by omega) (by omega)
                    refine lv_iinc (v := z_41) (lv' := [(3, .int z_41), (4, .int z_8), (2, .int L2_8), (0, .ref mh), (1, .int 1)]) hx hb dX9_says_209 hl (k := 1) rfl (by rw [ez_41]; rfl) (by decide) rfl (fun ls hl => ?_)
                    refine lv_goto (tgt := 8) hx hb dX9_says_212 (by decide) ?_
                    exact ih_2 z_41 L2_8 (upd mf45_8 (z_33 : Int32).toNatClampNeg z_40) _ _ _ (by have h0 := t_1; (try dsimp only); omega) (by have h0 := t_1; (try dsimp only); omega) (by have hh := hgt_at (f := mf36) (b := 128) (i := L3_8) (j := z_41) (by omega) jz_41; rw [← ez_8] at hh; unfold dl at hh; (try dsimp only); (repeat' split at hh) <;> omega) hP hD hS (lv_sub hl [0, 2, 3, 4] rfl)
                  ·
                    have ic_37 : 0 ≤ z_36.toInt := by first | exact (g_le t_0 rfl).mp c_37 | (have h := mt (g_lt rfl t_0).mpr c_37; omega)
                    clear c_37
                    refine lv_aload_n hx hb dX9_says_155 rfl (lv_at hl 3 rfl) ?_
                    refine va_get (D := D) (ci := 9) (v := .ref (ma 45)) (C := RX9) (T := TX9) (N := 68) hx hb htb iX9 hown hK.1 hP 0 rfl rfl 45 (by decide) (htb _ k_1003) (fun _ h9 => h9) rfl dX9_says_156 ?_
                    refine lv_iload_n hx hb dX9_says_159 rfl (lv_at hl 2 rfl) ?_
                    refine lv_iconst (v := 1) hx hb dX9_says_160 (by decide) ?_
                    refine lv_isub hx hb dX9_says_161 ?_
                    refine lv_topi (fun z_42 ez_42 => ?_)
                    have jz_42 : z_42.toInt = L2_8.toInt - 1 := by rw [ez_42]; exact g_sub rfl t_1 (by omega) (by omega)
                    refine va_iald hx hb hK.1 hP 4 0 rfl rfl (g_in rfl (by omega) (by omega)) dX9_says_162 ?_
                    refine lv_topi (fun z_43 ez_43 => ?_)
                    have kz_43 := congrArg Int32.toInt ez_43
                    refine lv_goto (tgt := 175) hx hb dX9_says_163 (by decide) ?_
                    refine va_iast hx hb hK.1 hP hD hS 4 0 rfl rfl (g_in rfl (by omega) (by omega)) dX9_says_175 (fun H locs hP hD hS => ?_)
                    have hP : va_P D vwCl [(mh, .inr (9, G9 ma mcode mtoday moffs mmany msumW msumA msumR msumWW msumWA msumAA msumWR msumAR mupper mlower mrates mtaped mlaid mat mtk mtkAt mtkNumber mwaits mlisted mdealtMany)), ((ma 35), .inl (E 0, 2, .inl mf35)), ((ma 36), .inl (E 0, 384, .inl mf36)), ((ma 37), .inl (E 0, 384, .inl mf37)), ((ma 45), .inl (E 0, 130, .inl (upd mf45_8 (z_33 : Int32).toNatClampNeg z_43))), ((ma 46), .inl (E 0, 24, .inl mf46))] H := hP
                    have hD := toW hP hD rfl
                    refine lv_goto (tgt := 209) hx hb dX9_says_176 (by decide) ?_
                    obtain ⟨z_44, ez_44⟩ : ∃ y : Int32, y = L3_8 + 1 := ⟨_, rfl⟩
                    have jz_44 : z_44.toInt = L3_8.toInt + 1 := by rw [ez_44]; exact g_add rfl t_1 (by omega) (by omega)
                    refine lv_iinc (v := z_44) (lv' := [(3, .int z_44), (4, .int z_8), (2, .int L2_8), (0, .ref mh), (1, .int 1)]) hx hb dX9_says_209 hl (k := 1) rfl (by rw [ez_44]; rfl) (by decide) rfl (fun ls hl => ?_)
                    refine lv_goto (tgt := 8) hx hb dX9_says_212 (by decide) ?_
                    exact ih_2 z_44 L2_8 (upd mf45_8 (z_33 : Int32).toNatClampNeg z_43) _ _ _ (by have h0 := t_1; (try dsimp only); omega) (by have h0 := t_1; (try dsimp only); omega) (by have hh := hgt_at (f := mf36) (b := 128) (i := L3_8) (j := z_44) (by omega) jz_44; rw [← ez_8] at hh; unfold dl at hh; (try dsimp only); (repeat' split at hh) <;> omega) hP hD hS (lv_sub hl [0, 2, 3, 4] rfl)
            ·
              have ic_15 : z_8.toInt = 30 := (g_eq rfl t_30).mp c_15
              clear c_15
              refine lv_aload_n hx hb dX9_says_89 rfl (lv_at hl 3 rfl) ?_
              refine va_get (D := D) (ci := 9) (v := .ref (ma 45)) (C := RX9) (T := TX9) (N := 68) hx hb htb iX9 hown hK.1 hP 0 rfl rfl 45 (by decide) (htb _ k_1003) (fun _ h9 => h9) rfl dX9_says_90 ?_
              refine lv_iload_n hx hb dX9_says_93 rfl (lv_at hl 2 rfl) ?_
              refine lv_iconst (v := 1) hx hb dX9_says_94 (by decide) ?_
              refine lv_isub hx hb dX9_says_95 ?_
              refine lv_topi (fun z_45 ez_45 => ?_)
              have jz_45 : z_45.toInt = L2_8.toInt - 1 := by rw [ez_45]; exact g_sub rfl t_1 (by omega) (by omega)
              refine lv_aload_n hx hb dX9_says_96 rfl (lv_at hl 3 rfl) ?_
              refine va_get (D := D) (ci := 9) (v := .ref (ma 45)) (C := RX9) (T := TX9) (N := 68) hx hb htb iX9 hown hK.1 hP 0 rfl rfl 45 (by decide) (htb _ k_1003) (fun _ h9 => h9) rfl dX9_says_97 ?_
              refine lv_iload_n hx hb dX9_says_100 rfl (lv_at hl 2 rfl) ?_
              refine lv_iconst (v := 1) hx hb dX9_says_101 (by decide) ?_
              refine lv_isub hx hb dX9_says_102 ?_
              refine lv_topi (fun z_46 ez_46 => ?_)
              have jz_46 : z_46.toInt = L2_8.toInt - 1 := by rw [ez_46]; exact g_sub rfl t_1 (by omega) (by omega)
              refine va_iald hx hb hK.1 hP 4 0 rfl rfl (g_in rfl (by omega) (by omega)) dX9_says_103 ?_
              refine lv_topi (fun z_47 ez_47 => ?_)
              have kz_47 := congrArg Int32.toInt ez_47
              refine lv_if_ne (tgt := 111) hx hb dX9_says_104 (by decide) (fun c_48 => ?_) (fun c_48 => ?_)
              ·
                have ic_48 : z_47.toInt ≠ 0 := mt (g_eq rfl t_0).mpr c_48
                clear c_48
                refine lv_iconst (v := 0) hx hb dX9_says_111 (by decide) ?_
                refine va_iast hx hb hK.1 hP hD hS 4 0 rfl rfl (g_in rfl (by omega) (by omega)) dX9_says_112 (fun H locs hP hD hS => ?_)
                have hP : va_P D vwCl [(mh, .inr (9, G9 ma mcode mtoday moffs mmany msumW msumA msumR msumWW msumWA msumAA msumWR msumAR mupper mlower mrates mtaped mlaid mat mtk mtkAt mtkNumber mwaits mlisted mdealtMany)), ((ma 35), .inl (E 0, 2, .inl mf35)), ((ma 36), .inl (E 0, 384, .inl mf36)), ((ma 37), .inl (E 0, 384, .inl mf37)), ((ma 45), .inl (E 0, 130, .inl (upd mf45_8 (z_45 : Int32).toNatClampNeg 0))), ((ma 46), .inl (E 0, 24, .inl mf46))] H := hP
                have hD := toW hP hD rfl
                refine lv_goto (tgt := 209) hx hb dX9_says_113 (by decide) ?_
                obtain ⟨z_49, ez_49⟩ : ∃ y : Int32, y = L3_8 + 1 := ⟨_, rfl⟩
                have jz_49 : z_49.toInt = L3_8.toInt + 1 := by rw [ez_49]; exact g_add rfl t_1 (by omega) (by omega)
                refine lv_iinc (v := z_49) (lv' := [(3, .int z_49), (4, .int z_8), (2, .int L2_8), (0, .ref mh), (1, .int 1)]) hx hb dX9_says_209 hl (k := 1) rfl (by rw [ez_49]; rfl) (by decide) rfl (fun ls hl => ?_)
                refine lv_goto (tgt := 8) hx hb dX9_says_212 (by decide) ?_
                exact ih_2 z_49 L2_8 (upd mf45_8 (z_45 : Int32).toNatClampNeg 0) _ _ _ (by have h0 := t_1; (try dsimp only); omega) (by have h0 := t_1; (try dsimp only); omega) (by have hh := hgt_at (f := mf36) (b := 128) (i := L3_8) (j := z_49) (by omega) jz_49; rw [← ez_8] at hh; unfold dl at hh; (try dsimp only); (repeat' split at hh) <;> omega) hP hD hS (lv_sub hl [0, 2, 3, 4] rfl)
              ·
                have ic_48 : z_47.toInt = 0 := (g_eq rfl t_0).mp c_48
                clear c_48
                refine lv_iconst (v := 1) hx hb dX9_says_107 (by decide) ?_
                refine lv_goto (tgt := 112) hx hb dX9_says_108 (by decide) ?_
                refine va_iast hx hb hK.1 hP hD hS 4 0 rfl rfl (g_in rfl (by omega) (by omega)) dX9_says_112 (fun H locs hP hD hS => ?_)
                have hP : va_P D vwCl [(mh, .inr (9, G9 ma mcode mtoday moffs mmany msumW msumA msumR msumWW msumWA msumAA msumWR msumAR mupper mlower mrates mtaped mlaid mat mtk mtkAt mtkNumber mwaits mlisted mdealtMany)), ((ma 35), .inl (E 0, 2, .inl mf35)), ((ma 36), .inl (E 0, 384, .inl mf36)), ((ma 37), .inl (E 0, 384, .inl mf37)), ((ma 45), .inl (E 0, 130, .inl (upd mf45_8 (z_45 : Int32).toNatClampNeg 1))), ((ma 46), .inl (E 0, 24, .inl mf46))] H := hP
                have hD := toW hP hD rfl
                refine lv_goto (tgt := 209) hx hb dX9_says_113 (by decide) ?_
                obtain ⟨z_50, ez_50⟩ : ∃ y : Int32, y = L3_8 + 1 := ⟨_, rfl⟩
                have jz_50 : z_50.toInt = L3_8.toInt + 1 := by rw [ez_50]; exact g_add rfl t_1 (by omega) (by omega)
                refine lv_iinc (v := z_50) (lv' := [(3, .int z_50), (4, .int z_8), (2, .int L2_8), (0, .ref mh), (1, .int 1)]) hx hb dX9_says_209 hl (k := 1) rfl (by rw [ez_50]; rfl) (by decide) rfl (fun ls hl => ?_)
                refine lv_goto (tgt := 8) hx hb dX9_says_212 (by decide) ?_
                exact ih_2 z_50 L2_8 (upd mf45_8 (z_45 : Int32).toNatClampNeg 1) _ _ _ (by have h0 := t_1; (try dsimp only); omega) (by have h0 := t_1; (try dsimp only); omega) (by have hh := hgt_at (f := mf36) (b := 128) (i := L3_8) (j := z_50) (by omega) jz_50; rw [← ez_8] at hh; unfold dl at hh; (try dsimp only); (repeat' split at hh) <;> omega) hP hD hS (lv_sub hl [0, 2, 3, 4] rfl)
          ·
            have ic_14 : 100 ≤ z_8.toInt := by first | exact (g_le t_100 rfl).mp c_14 | (have h := mt (g_lt rfl t_100).mpr c_14; omega)
            clear c_14
            refine lv_aload_n hx hb dX9_says_45 rfl (lv_at hl 3 rfl) ?_
            refine va_get (D := D) (ci := 9) (v := .ref (ma 45)) (C := RX9) (T := TX9) (N := 68) hx hb htb iX9 hown hK.1 hP 0 rfl rfl 45 (by decide) (htb _ k_1003) (fun _ h9 => h9) rfl dX9_says_46 ?_
            refine lv_iload_n hx hb dX9_says_49 rfl (lv_at hl 2 rfl) ?_
            refine lv_iload hx hb dX9_says_50 (lv_at hl 0 rfl) ?_
            refine lv_iconst (v := 1) hx hb dX9_says_52 (by decide) ?_
            refine lv_icmp_ne (tgt := 65) hx hb dX9_says_53 (by decide) (fun c_51 => ?_) (fun c_51 => absurd c_51 (by rw [g_eq rfl t_1]; omega))
            refine lv_aload_n hx hb dX9_says_65 rfl (lv_at hl 3 rfl) ?_
            refine va_get (D := D) (ci := 9) (v := .ref (ma 46)) (C := RX9) (T := TX9) (N := 68) hx hb htb iX9 hown hK.1 hP 0 rfl rfl 46 (by decide) (htb _ k_1004) (fun _ h9 => h9) rfl dX9_says_66 ?_
            refine lv_iload hx hb dX9_says_69 (lv_at hl 0 rfl) ?_
            refine lv_bipush (v := 100) hx hb dX9_says_71 (by decide) ?_
            refine lv_isub hx hb dX9_says_73 ?_
            refine lv_topi (fun z_52 ez_52 => ?_)
            have jz_52 : z_52.toInt = z_8.toInt - 100 := by rw [ez_52]; exact g_sub rfl t_100 (by omega) (by omega)
            refine va_iald hx hb hK.1 hP 5 0 rfl rfl (g_in rfl (by omega) (by omega)) dX9_says_74 ?_
            refine lv_topi (fun z_53 ez_53 => ?_)
            have kz_53 := congrArg Int32.toInt ez_53
            refine va_iast hx hb hK.1 hP hD hS 4 0 rfl rfl (g_in rfl (by omega) (by omega)) dX9_says_75 (fun H locs hP hD hS => ?_)
            have hP : va_P D vwCl [(mh, .inr (9, G9 ma mcode mtoday moffs mmany msumW msumA msumR msumWW msumWA msumAA msumWR msumAR mupper mlower mrates mtaped mlaid mat mtk mtkAt mtkNumber mwaits mlisted mdealtMany)), ((ma 35), .inl (E 0, 2, .inl mf35)), ((ma 36), .inl (E 0, 384, .inl mf36)), ((ma 37), .inl (E 0, 384, .inl mf37)), ((ma 45), .inl (E 0, 130, .inl (upd mf45_8 (L2_8 : Int32).toNatClampNeg z_53))), ((ma 46), .inl (E 0, 24, .inl mf46))] H := hP
            have hD := toW hP hD rfl
            obtain ⟨z_54, ez_54⟩ : ∃ y : Int32, y = L2_8 + 1 := ⟨_, rfl⟩
            have jz_54 : z_54.toInt = L2_8.toInt + 1 := by rw [ez_54]; exact g_add rfl t_1 (by omega) (by omega)
            refine lv_iinc (v := z_54) (lv' := [(2, .int z_54), (4, .int z_8), (3, .int L3_8), (0, .ref mh), (1, .int 1)]) hx hb dX9_says_76 hl (k := 2) rfl (by rw [ez_54]; rfl) (by decide) rfl (fun ls hl => ?_)
            refine lv_goto (tgt := 209) hx hb dX9_says_79 (by decide) ?_
            obtain ⟨z_55, ez_55⟩ : ∃ y : Int32, y = L3_8 + 1 := ⟨_, rfl⟩
            have jz_55 : z_55.toInt = L3_8.toInt + 1 := by rw [ez_55]; exact g_add rfl t_1 (by omega) (by omega)
            refine lv_iinc (v := z_55) (lv' := [(3, .int z_55), (2, .int z_54), (4, .int z_8), (0, .ref mh), (1, .int 1)]) hx hb dX9_says_209 hl (k := 2) rfl (by rw [ez_55]; rfl) (by decide) rfl (fun ls hl => ?_)
            refine lv_goto (tgt := 8) hx hb dX9_says_212 (by decide) ?_
            exact ih_2 z_55 z_54 (upd mf45_8 (L2_8 : Int32).toNatClampNeg z_53) _ _ _ (by have h0 := t_1; (try dsimp only); omega) (by have h0 := t_1; (try dsimp only); omega) (by have hh := hgt_at (f := mf36) (b := 128) (i := L3_8) (j := z_55) (by omega) jz_55; rw [← ez_8] at hh; unfold dl at hh; (try dsimp only); (repeat' split at hh) <;> omega) hP hD hS (lv_sub hl [0, 1, 3, 4] rfl)
  exact loop_1 128 128 0 mf45 _ _ _ (by have h0 := t_0; have h1 := t_1; have h2 := t_128; (try dsimp only); omega) (by have h0 := t_0; have h1 := t_1; have h2 := t_128; (try dsimp only); omega) (by have h0 := t_0; have h1 := t_128; first | (rw [h0, h1]; rfl) | (rw [h0]; rfl)) hP hD hS (lv_sub hl [0, 1, 2, 3] rfl)
set_option maxHeartbeats 4000000 in
set_option maxRecDepth 100000 in
theorem g_X9_trialOf (l : Launch) (D : va_G) (E : Nat → Nat) (mh : Nat) (ma : Nat → Nat) (mcode : Int32) (mtoday : Int32) (moffs : Int32) (mmany : Int64) (msumW : Int64) (msumA : Int64) (msumR : Int64) (msumWW : Int64) (msumWA : Int64) (msumAA : Int64) (msumWR : Int64) (msumAR : Int64) (mupper : Int64) (mlower : Int64) (mrates : Int32) (mtaped : Int32) (mlaid : Int32) (mat : Int32) (mtk : Int32) (mtkAt : Int32) (mtkNumber : Int32) (mwaits : Int32) (mlisted : Int32) (mdealtMany : Int32) (mf2 : Nat → Int32) (mf3 : Nat → Int32) (mf4 : Nat → Int32) (mf5 : Nat → Int32) (mf6 : Nat → Int32) (mf7 : Nat → Int32) (mf8 : Nat → Int32) (mf9 : Nat → Int32) (mf12 : Nat → Int32) (mf13 : Nat → Int32) (mf14 : Nat → Int32) (mf15 : Nat → Int32) (mf16 : Nat → Int32) (mf29 : Nat → Int32) (mf30 : Nat → Int32) (mf31 : Nat → Int32) (mf34 : Nat → Int32) (mf35 : Nat → Int32) (mf36 : Nat → Int32) (mf37 : Nat → Int32) (mf45 : Nat → Int32) (mf46 : Nat → Int32) (p0 : Int32) (p1 : Int32) (p2 : Int32) (sz : Nat) (hi_m : (0 ≤ mtoday.toInt ∧ mtoday.toInt ≤ 399) ∧ (0 ≤ moffs.toInt ∧ moffs.toInt ≤ 60) ∧ (0 ≤ mrates.toInt ∧ mrates.toInt ≤ 60) ∧ (0 ≤ mtaped.toInt ∧ mtaped.toInt ≤ 120) ∧ (0 ≤ mlisted.toInt ∧ mlisted.toInt ≤ 9) ∧ (0 ≤ mdealtMany.toInt ∧ mdealtMany.toInt ≤ 9)) (hr_m29 : ∀ k : Nat, k < 60 → 0 ≤ (mf29 k).toInt ∧ (mf29 k).toInt ≤ 399) (hr_m35 : ∀ k : Nat, k < 2 → 0 ≤ (mf35 k).toInt ∧ (mf35 k).toInt ≤ 127) (g0 : 0 ≤ p0.toInt ∧ p0.toInt ≤ 15) (g1 : 0 ≤ p1.toInt ∧ p1.toInt ≤ p2.toInt ∧ p2.toInt ≤ 399 ∧ p2.toInt - p1.toInt ≤ 60) (hjw : JW mf36 mf35) : Met l yX9_trialOf (wl yX9_trialOf cX9_trialOf 11 (some .int)) (RM 4 0 0) (mu_P D E [.ref mh, .int p0, .int p1, .int p2] [(mh, .inr (9, G9 ma mcode mtoday moffs mmany msumW msumA msumR msumWW msumWA msumAA msumWR msumAR mupper mlower mrates mtaped mlaid mat mtk mtkAt mtkNumber mwaits mlisted mdealtMany)), ((ma 2), .inl (E 0, 400, .inl mf2)), ((ma 3), .inl (E 0, 16, .inl mf3)), ((ma 4), .inl (E 0, 16, .inl mf4)), ((ma 5), .inl (E 1, 6400, .inl mf5)), ((ma 6), .inl (E 0, 6400, .inl mf6)), ((ma 7), .inl (E 0, 6400, .inl mf7)), ((ma 8), .inl (E 1, 6400, .inl mf8)), ((ma 9), .inl (E 1, 6400, .inl mf9)), ((ma 12), .inl (E 0, 60, .inl mf12)), ((ma 13), .inl (E 0, 60, .inl mf13)), ((ma 14), .inl (E 0, 60, .inl mf14)), ((ma 15), .inl (E 0, 60, .inl mf15)), ((ma 16), .inl (E 0, 60, .inl mf16)), ((ma 29), .inl (E 0, 60, .inl mf29)), ((ma 30), .inl (E 0, 60, .inl mf30)), ((ma 31), .inl (E 0, 60, .inl mf31)), ((ma 34), .inl (E 1, 2, .inl mf34)), ((ma 35), .inl (E 0, 2, .inl mf35)), ((ma 36), .inl (E 0, 384, .inl mf36)), ((ma 37), .inl (E 0, 384, .inl mf37)), ((ma 45), .inl (E 0, 130, .inl mf45)), ((ma 46), .inl (E 0, 24, .inl mf46))] sz) (va_Qi (fun (r : Int32) (u : (Nat → Int32) × (Nat → Int32) × (Nat → Int32) × (Nat → Int32) × (Nat → Int32) × (Int32)) => (∀ k : Nat, k < 60 → 0 ≤ (u.1 k).toInt ∧ (u.1 k).toInt ≤ 399) ∧ (0 ≤ u.2.2.2.2.2.toInt ∧ u.2.2.2.2.2.toInt ≤ 60)) (mu_B D (va_A [(mh, .inr (9, G9 ma mcode mtoday moffs mmany msumW msumA msumR msumWW msumWA msumAA msumWR msumAR mupper mlower mrates mtaped mlaid mat mtk mtkAt mtkNumber mwaits mlisted mdealtMany)), ((ma 2), .inl (E 0, 400, .inl mf2)), ((ma 3), .inl (E 0, 16, .inl mf3)), ((ma 4), .inl (E 0, 16, .inl mf4)), ((ma 5), .inl (E 1, 6400, .inl mf5)), ((ma 6), .inl (E 0, 6400, .inl mf6)), ((ma 7), .inl (E 0, 6400, .inl mf7)), ((ma 8), .inl (E 1, 6400, .inl mf8)), ((ma 9), .inl (E 1, 6400, .inl mf9)), ((ma 12), .inl (E 0, 60, .inl mf12)), ((ma 13), .inl (E 0, 60, .inl mf13)), ((ma 14), .inl (E 0, 60, .inl mf14)), ((ma 15), .inl (E 0, 60, .inl mf15)), ((ma 16), .inl (E 0, 60, .inl mf16)), ((ma 29), .inl (E 0, 60, .inl mf29)), ((ma 30), .inl (E 0, 60, .inl mf30)), ((ma 31), .inl (E 0, 60, .inl mf31)), ((ma 34), .inl (E 1, 2, .inl mf34)), ((ma 35), .inl (E 0, 2, .inl mf35)), ((ma 36), .inl (E 0, 384, .inl mf36)), ((ma 37), .inl (E 0, 384, .inl mf37)), ((ma 45), .inl (E 0, 130, .inl mf45)), ((ma 46), .inl (E 0, 24, .inl mf46))] sz) (fun (u : (Nat → Int32) × (Nat → Int32) × (Nat → Int32) × (Nat → Int32) × (Nat → Int32) × (Int32)) => [(mh, .inr (9, G9 ma mcode mtoday moffs mmany msumW msumA msumR msumWW msumWA msumAA msumWR msumAR mupper mlower u.2.2.2.2.2 mtaped mlaid mat mtk mtkAt mtkNumber mwaits mlisted mdealtMany)), ((ma 2), .inl (E 0, 400, .inl mf2)), ((ma 3), .inl (E 0, 16, .inl mf3)), ((ma 4), .inl (E 0, 16, .inl mf4)), ((ma 5), .inl (E 1, 6400, .inl mf5)), ((ma 6), .inl (E 0, 6400, .inl mf6)), ((ma 7), .inl (E 0, 6400, .inl mf7)), ((ma 8), .inl (E 1, 6400, .inl mf8)), ((ma 9), .inl (E 1, 6400, .inl mf9)), ((ma 12), .inl (E 0, 60, .inl mf12)), ((ma 13), .inl (E 0, 60, .inl mf13)), ((ma 14), .inl (E 0, 60, .inl mf14)), ((ma 15), .inl (E 0, 60, .inl mf15)), ((ma 16), .inl (E 0, 60, .inl mf16)), ((ma 29), .inl (E 0, 60, .inl u.1)), ((ma 30), .inl (E 0, 60, .inl u.2.1)), ((ma 31), .inl (E 0, 60, .inl u.2.2.1)), ((ma 34), .inl (E 1, 2, .inl mf34)), ((ma 35), .inl (E 0, 2, .inl mf35)), ((ma 36), .inl (E 0, 384, .inl mf36)), ((ma 37), .inl (E 0, 384, .inl mf37)), ((ma 45), .inl (E 0, 130, .inl u.2.2.2.1)), ((ma 46), .inl (E 0, 24, .inl u.2.2.2.2.1))])) (va_A [(mh, .inr (9, G9 ma mcode mtoday moffs mmany msumW msumA msumR msumWW msumWA msumAA msumWR msumAR mupper mlower mrates mtaped mlaid mat mtk mtkAt mtkNumber mwaits mlisted mdealtMany)), ((ma 2), .inl (E 0, 400, .inl mf2)), ((ma 3), .inl (E 0, 16, .inl mf3)), ((ma 4), .inl (E 0, 16, .inl mf4)), ((ma 5), .inl (E 1, 6400, .inl mf5)), ((ma 6), .inl (E 0, 6400, .inl mf6)), ((ma 7), .inl (E 0, 6400, .inl mf7)), ((ma 8), .inl (E 1, 6400, .inl mf8)), ((ma 9), .inl (E 1, 6400, .inl mf9)), ((ma 12), .inl (E 0, 60, .inl mf12)), ((ma 13), .inl (E 0, 60, .inl mf13)), ((ma 14), .inl (E 0, 60, .inl mf14)), ((ma 15), .inl (E 0, 60, .inl mf15)), ((ma 16), .inl (E 0, 60, .inl mf16)), ((ma 29), .inl (E 0, 60, .inl mf29)), ((ma 30), .inl (E 0, 60, .inl mf30)), ((ma 31), .inl (E 0, 60, .inl mf31)), ((ma 34), .inl (E 1, 2, .inl mf34)), ((ma 35), .inl (E 0, 2, .inl mf35)), ((ma 36), .inl (E 0, 384, .inl mf36)), ((ma 37), .inl (E 0, 384, .inl mf37)), ((ma 45), .inl (E 0, 130, .inl mf45)), ((ma 46), .inl (E 0, 24, .inl mf46))] sz)) 0 0 (va_A [(mh, .inr (9, G9 ma mcode mtoday moffs mmany msumW msumA msumR msumWW msumWA msumAA msumWR msumAR mupper mlower mrates mtaped mlaid mat mtk mtkAt mtkNumber mwaits mlisted mdealtMany)), ((ma 2), .inl (E 0, 400, .inl mf2)), ((ma 3), .inl (E 0, 16, .inl mf3)), ((ma 4), .inl (E 0, 16, .inl mf4)), ((ma 5), .inl (E 1, 6400, .inl mf5)), ((ma 6), .inl (E 0, 6400, .inl mf6)), ((ma 7), .inl (E 0, 6400, .inl mf7)), ((ma 8), .inl (E 1, 6400, .inl mf8)), ((ma 9), .inl (E 1, 6400, .inl mf9)), ((ma 12), .inl (E 0, 60, .inl mf12)), ((ma 13), .inl (E 0, 60, .inl mf13)), ((ma 14), .inl (E 0, 60, .inl mf14)), ((ma 15), .inl (E 0, 60, .inl mf15)), ((ma 16), .inl (E 0, 60, .inl mf16)), ((ma 29), .inl (E 0, 60, .inl mf29)), ((ma 30), .inl (E 0, 60, .inl mf30)), ((ma 31), .inl (E 0, 60, .inl mf31)), ((ma 34), .inl (E 1, 2, .inl mf34)), ((ma 35), .inl (E 0, 2, .inl mf35)), ((ma 36), .inl (E 0, 384, .inl mf36)), ((ma 37), .inl (E 0, 384, .inl mf37)), ((ma 45), .inl (E 0, 130, .inl mf45)), ((ma 46), .inl (E 0, 24, .inl mf46))] sz) := by
  refine Met.ofW (cc := cX9_trialOf) (maxL := 11) (ret := (some .int)) (by decide) rfl ?_
  intro p e s m args below meth c s₁ B hml hv
  obtain ⟨rfl, hsz, hP, hK, hD0⟩ := hv
  have hx := B.exec; have hb := B.bytes; have hr := B.returns
  have hts := atoms_spec (ws := wl yX9_trialOf cX9_trialOf 11 (some .int)) B.pre
  have htb : ∀ w ∈ tb, w.before _ s = true := fun w h => hts w (List.mem_cons_of_mem _ h)
  have hown : s.vm.findClass RX9 = some m.cls := findClass_of_methodNamed B.named
  have hlocks := B.notSynchronized
  subst hsz
  have hD := hD0.self (sz := s.heap.size)
  generalize hAe : va_A [(mh, .inr (9, G9 ma mcode mtoday moffs mmany msumW msumA msumR msumWW msumWA msumAA msumWR msumAR mupper mlower mrates mtaped mlaid mat mtk mtkAt mtkNumber mwaits mlisted mdealtMany)), ((ma 2), .inl (E 0, 400, .inl mf2)), ((ma 3), .inl (E 0, 16, .inl mf3)), ((ma 4), .inl (E 0, 16, .inl mf4)), ((ma 5), .inl (E 1, 6400, .inl mf5)), ((ma 6), .inl (E 0, 6400, .inl mf6)), ((ma 7), .inl (E 0, 6400, .inl mf7)), ((ma 8), .inl (E 1, 6400, .inl mf8)), ((ma 9), .inl (E 1, 6400, .inl mf9)), ((ma 12), .inl (E 0, 60, .inl mf12)), ((ma 13), .inl (E 0, 60, .inl mf13)), ((ma 14), .inl (E 0, 60, .inl mf14)), ((ma 15), .inl (E 0, 60, .inl mf15)), ((ma 16), .inl (E 0, 60, .inl mf16)), ((ma 29), .inl (E 0, 60, .inl mf29)), ((ma 30), .inl (E 0, 60, .inl mf30)), ((ma 31), .inl (E 0, 60, .inl mf31)), ((ma 34), .inl (E 1, 2, .inl mf34)), ((ma 35), .inl (E 0, 2, .inl mf35)), ((ma 36), .inl (E 0, 384, .inl mf36)), ((ma 37), .inl (E 0, 384, .inl mf37)), ((ma 45), .inl (E 0, 130, .inl mf45)), ((ma 46), .inl (E 0, 24, .inl mf46))] s.heap.size = A at hD ⊢
  have hA : ∀ q : Nat, s.heap.size ≤ q → A q := fun q h => by rw [← hAe]; exact Or.inr h
  have hS : va_S A s.heap s.heap [] := va_S.rf
  have hP : va_P D vwCl [(mh, .inr (9, G9 ma mcode mtoday moffs mmany msumW msumA msumR msumWW msumWA msumAA msumWR msumAR mupper mlower mrates mtaped mlaid mat mtk mtkAt mtkNumber mwaits mlisted mdealtMany)), ((ma 2), .inl (E 0, 400, .inl mf2)), ((ma 3), .inl (E 0, 16, .inl mf3)), ((ma 4), .inl (E 0, 16, .inl mf4)), ((ma 5), .inl (E 1, 6400, .inl mf5)), ((ma 6), .inl (E 0, 6400, .inl mf6)), ((ma 7), .inl (E 0, 6400, .inl mf7)), ((ma 8), .inl (E 1, 6400, .inl mf8)), ((ma 9), .inl (E 1, 6400, .inl mf9)), ((ma 12), .inl (E 0, 60, .inl mf12)), ((ma 13), .inl (E 0, 60, .inl mf13)), ((ma 14), .inl (E 0, 60, .inl mf14)), ((ma 15), .inl (E 0, 60, .inl mf15)), ((ma 16), .inl (E 0, 60, .inl mf16)), ((ma 29), .inl (E 0, 60, .inl mf29)), ((ma 30), .inl (E 0, 60, .inl mf30)), ((ma 31), .inl (E 0, 60, .inl mf31)), ((ma 34), .inl (E 1, 2, .inl mf34)), ((ma 35), .inl (E 0, 2, .inl mf35)), ((ma 36), .inl (E 0, 384, .inl mf36)), ((ma 37), .inl (E 0, 384, .inl mf37)), ((ma 45), .inl (E 0, 130, .inl mf45)), ((ma 46), .inl (E 0, 24, .inl mf46))] s.heap := hP
  have hl := lv_entry ([.ref mh, .int p0, .int p1, .int p2]) (n := 11) (Nat.le_of_ble_eq_true rfl)
  rw [lg_entry_eq]
  generalize (lg_sl ([.ref mh, .int p0, .int p1, .int p2]) ++ List.replicate (11 - (lg_sl ([.ref mh, .int p0, .int p1, .int p2])).length) Slot.unset).toArray = ls at hl ⊢
  have hl : lv_has ls 11 [(0, .ref mh), (1, .int p0), (2, .int p1), (3, .int p2)] := hl
  have lo_p0 := i_lo p0; have hi_p0 := i_hi p0
  have lo_p1 := i_lo p1; have hi_p1 := i_hi p1
  have lo_p2 := i_lo p2; have hi_p2 := i_hi p2
  refine lv_aload_n hx hb dX9_trialOf_0 rfl (lv_at hl 0 rfl) ?_
  refine lv_iload_n hx hb dX9_trialOf_1 rfl (lv_at hl 1 rfl) ?_
  refine lv_iload_n hx hb dX9_trialOf_2 rfl (lv_at hl 2 rfl) ?_
  refine lv_iload_n hx hb dX9_trialOf_3 rfl (lv_at hl 3 rfl) ?_
  have hPc := hP.sub (ws' := [(mh, .inr (9, G9 ma mcode mtoday moffs mmany msumW msumA msumR msumWW msumWA msumAA msumWR msumAR mupper mlower mrates mtaped mlaid mat mtk mtkAt mtkNumber mwaits mlisted mdealtMany)), ((ma 5), .inl (E 1, 6400, .inl mf5)), ((ma 6), .inl (E 0, 6400, .inl mf6)), ((ma 7), .inl (E 0, 6400, .inl mf7)), ((ma 8), .inl (E 1, 6400, .inl mf8)), ((ma 9), .inl (E 1, 6400, .inl mf9)), ((ma 12), .inl (E 0, 60, .inl mf12)), ((ma 13), .inl (E 0, 60, .inl mf13)), ((ma 14), .inl (E 0, 60, .inl mf14)), ((ma 15), .inl (E 0, 60, .inl mf15)), ((ma 16), .inl (E 0, 60, .inl mf16)), ((ma 29), .inl (E 0, 60, .inl mf29)), ((ma 30), .inl (E 0, 60, .inl mf30)), ((ma 31), .inl (E 0, 60, .inl mf31))]) [0, 4, 5, 6, 7, 8, 9, 10, 11, 12, 13, 14, 15, 16] rfl
  have hDc := hD.sub (ws' := [(mh, .inr (9, G9 ma mcode mtoday moffs mmany msumW msumA msumR msumWW msumWA msumAA msumWR msumAR mupper mlower mrates mtaped mlaid mat mtk mtkAt mtkNumber mwaits mlisted mdealtMany)), ((ma 5), .inl (E 1, 6400, .inl mf5)), ((ma 6), .inl (E 0, 6400, .inl mf6)), ((ma 7), .inl (E 0, 6400, .inl mf7)), ((ma 8), .inl (E 1, 6400, .inl mf8)), ((ma 9), .inl (E 1, 6400, .inl mf9)), ((ma 12), .inl (E 0, 60, .inl mf12)), ((ma 13), .inl (E 0, 60, .inl mf13)), ((ma 14), .inl (E 0, 60, .inl mf14)), ((ma 15), .inl (E 0, 60, .inl mf15)), ((ma 16), .inl (E 0, 60, .inl mf16)), ((ma 29), .inl (E 0, 60, .inl mf29)), ((ma 30), .inl (E 0, 60, .inl mf30)), ((ma 31), .inl (E 0, 60, .inl mf31))]) [0, 4, 5, 6, 7, 8, 9, 10, 11, 12, 13, 14, 15, 16] (by decide) rfl
  refine aft_v (runMV (rest := []) (As := [.int p0, .int p1, .int p2]) hx hb hml hown htb hK (g_X9_findRates l D E mh ma mcode mtoday moffs mmany msumW msumA msumR msumWW msumWA msumAA msumWR msumAR mupper mlower mrates mtaped mlaid mat mtk mtkAt mtkNumber mwaits mlisted mdealtMany mf5 mf6 mf7 mf8 mf9 mf12 mf13 mf14 mf15 mf16 mf29 mf30 mf31 p0 p1 p2 _ (by (try dsimp only); omega) hr_m29 (by (try dsimp only); omega) (by (try dsimp only); omega)) ok_X9_findRates k_1322 k_1324 ks_53 k_9 k_1325 ⟨(Nat.le_of_ble_eq_true rfl), (Nat.le_of_ble_eq_true rfl)⟩ ⟨(Nat.le_of_ble_eq_true rfl), (Nat.le_of_ble_eq_true rfl)⟩ hl.1 (Nat.le_of_ble_eq_true rfl) rfl rfl dX9_trialOf_4 hPc hDc rfl rfl 0 rfl) hP hD hS hA [0, 4, 5, 6, 7, 8, 9, 10, 11, 12, 13, 14, 15, 16] [1, 2, 3, 17, 18, 19, 20, 21, 22] (wr := [((ma 2), .inl (E 0, 400, .inl mf2)), ((ma 3), .inl (E 0, 16, .inl mf3)), ((ma 4), .inl (E 0, 16, .inl mf4)), ((ma 34), .inl (E 1, 2, .inl mf34)), ((ma 35), .inl (E 0, 2, .inl mf35)), ((ma 36), .inl (E 0, 384, .inl mf36)), ((ma 37), .inl (E 0, 384, .inl mf37)), ((ma 45), .inl (E 0, 130, .inl mf45)), ((ma 46), .inl (E 0, 24, .inl mf46))]) rfl rfl (by decide) (by decide) (fun u_3 H locs hw_2 hP hD hS => ?_)
  clear hPc hDc
  obtain ⟨w_4, w_5, w_6, w_7⟩ := u_3
  try dsimp only at hw_2
  have hP : va_P D vwCl [((ma 2), .inl (E 0, 400, .inl mf2)), ((ma 3), .inl (E 0, 16, .inl mf3)), ((ma 4), .inl (E 0, 16, .inl mf4)), ((ma 34), .inl (E 1, 2, .inl mf34)), ((ma 35), .inl (E 0, 2, .inl mf35)), ((ma 36), .inl (E 0, 384, .inl mf36)), ((ma 37), .inl (E 0, 384, .inl mf37)), ((ma 45), .inl (E 0, 130, .inl mf45)), ((ma 46), .inl (E 0, 24, .inl mf46)), (mh, .inr (9, G9 ma mcode mtoday moffs mmany msumW msumA msumR msumWW msumWA msumAA msumWR msumAR mupper mlower w_7 mtaped mlaid mat mtk mtkAt mtkNumber mwaits mlisted mdealtMany)), ((ma 5), .inl (E 1, 6400, .inl mf5)), ((ma 6), .inl (E 0, 6400, .inl mf6)), ((ma 7), .inl (E 0, 6400, .inl mf7)), ((ma 8), .inl (E 1, 6400, .inl mf8)), ((ma 9), .inl (E 1, 6400, .inl mf9)), ((ma 12), .inl (E 0, 60, .inl mf12)), ((ma 13), .inl (E 0, 60, .inl mf13)), ((ma 14), .inl (E 0, 60, .inl mf14)), ((ma 15), .inl (E 0, 60, .inl mf15)), ((ma 16), .inl (E 0, 60, .inl mf16)), ((ma 29), .inl (E 0, 60, .inl w_4)), ((ma 30), .inl (E 0, 60, .inl w_5)), ((ma 31), .inl (E 0, 60, .inl w_6))] H := hP
  have hD := toW hP hD rfl
  obtain ⟨hw_2_0, hw_2_1, hw_2_2, hw_2_3, hw_2_4⟩ := hw_2
  refine lv_aload_n hx hb dX9_trialOf_7 rfl (lv_at hl 0 rfl) ?_
  refine va_get (D := D) (ci := 9) (v := .ref (ma 34)) (C := RX9) (T := TX9) (N := 68) hx hb htb iX9 hown hK.1 hP 9 rfl rfl 34 (by decide) (htb _ k_992) (fun _ h9 => h9) rfl dX9_trialOf_8 ?_
  refine lv_iconst (v := 0) hx hb dX9_trialOf_11 (by decide) ?_
  refine va_zald hx hb hK.1 hP 3 1 rfl rfl (g_in t_0 (by decide) (by decide)) dX9_trialOf_12 ?_
  refine lv_topi (fun z_8 ez_8 => ?_)
  have kz_8 := congrArg Int32.toInt ez_8
  refine lv_if_eq (tgt := 23) hx hb dX9_trialOf_13 (by decide) (fun c_9 => ?_) (fun c_9 => ?_)
  ·
    have ic_9 : z_8.toInt = 0 := (g_eq rfl t_0).mp c_9
    clear c_9
    refine lv_ldc hx hb hown (htb _ k_1205) dX9_trialOf_23 ?_
    have hP9 := hP.sub (ws' := [(mh, .inr (9, G9 ma mcode mtoday moffs mmany msumW msumA msumR msumWW msumWA msumAA msumWR msumAR mupper mlower w_7 mtaped mlaid mat mtk mtkAt mtkNumber mwaits mlisted mdealtMany)), ((ma 2), .inl (E 0, 400, .inl mf2)), ((ma 3), .inl (E 0, 16, .inl mf3)), ((ma 4), .inl (E 0, 16, .inl mf4)), ((ma 5), .inl (E 1, 6400, .inl mf5)), ((ma 6), .inl (E 0, 6400, .inl mf6)), ((ma 7), .inl (E 0, 6400, .inl mf7)), ((ma 8), .inl (E 1, 6400, .inl mf8)), ((ma 9), .inl (E 1, 6400, .inl mf9)), ((ma 12), .inl (E 0, 60, .inl mf12)), ((ma 13), .inl (E 0, 60, .inl mf13)), ((ma 14), .inl (E 0, 60, .inl mf14)), ((ma 15), .inl (E 0, 60, .inl mf15)), ((ma 16), .inl (E 0, 60, .inl mf16)), ((ma 29), .inl (E 0, 60, .inl w_4)), ((ma 30), .inl (E 0, 60, .inl w_5)), ((ma 31), .inl (E 0, 60, .inl w_6)), ((ma 34), .inl (E 1, 2, .inl mf34)), ((ma 35), .inl (E 0, 2, .inl mf35)), ((ma 36), .inl (E 0, 384, .inl mf36)), ((ma 37), .inl (E 0, 384, .inl mf37)), ((ma 45), .inl (E 0, 130, .inl mf45)), ((ma 46), .inl (E 0, 24, .inl mf46))]) [9, 0, 1, 2, 10, 11, 12, 13, 14, 15, 16, 17, 18, 19, 20, 21, 22, 3, 4, 5, 6, 7, 8] rfl
    have hD9 := hD.sub (ws' := [(mh, .inr (9, G9 ma mcode mtoday moffs mmany msumW msumA msumR msumWW msumWA msumAA msumWR msumAR mupper mlower w_7 mtaped mlaid mat mtk mtkAt mtkNumber mwaits mlisted mdealtMany)), ((ma 2), .inl (E 0, 400, .inl mf2)), ((ma 3), .inl (E 0, 16, .inl mf3)), ((ma 4), .inl (E 0, 16, .inl mf4)), ((ma 5), .inl (E 1, 6400, .inl mf5)), ((ma 6), .inl (E 0, 6400, .inl mf6)), ((ma 7), .inl (E 0, 6400, .inl mf7)), ((ma 8), .inl (E 1, 6400, .inl mf8)), ((ma 9), .inl (E 1, 6400, .inl mf9)), ((ma 12), .inl (E 0, 60, .inl mf12)), ((ma 13), .inl (E 0, 60, .inl mf13)), ((ma 14), .inl (E 0, 60, .inl mf14)), ((ma 15), .inl (E 0, 60, .inl mf15)), ((ma 16), .inl (E 0, 60, .inl mf16)), ((ma 29), .inl (E 0, 60, .inl w_4)), ((ma 30), .inl (E 0, 60, .inl w_5)), ((ma 31), .inl (E 0, 60, .inl w_6)), ((ma 34), .inl (E 1, 2, .inl mf34)), ((ma 35), .inl (E 0, 2, .inl mf35)), ((ma 36), .inl (E 0, 384, .inl mf36)), ((ma 37), .inl (E 0, 384, .inl mf37)), ((ma 45), .inl (E 0, 130, .inl mf45)), ((ma 46), .inl (E 0, 24, .inl mf46))]) [9, 0, 1, 2, 10, 11, 12, 13, 14, 15, 16, 17, 18, 19, 20, 21, 22, 3, 4, 5, 6, 7, 8] (by decide) rfl
    exact W.iret (v := (-2000000000)) hx hb hr (fun t ht hW => ⟨⟨(-2000000000), (w_4, w_5, w_6, mf45, mf46, w_7), rfl, ⟨hw_2_0, (by (try dsimp only); omega)⟩, by rw [ht]; exact hP9, hD9⟩, hS.F ht⟩) hS.2.2 dX9_trialOf_25
  ·
    have ic_9 : z_8.toInt ≠ 0 := mt (g_eq rfl t_0).mpr c_9
    clear c_9
    refine lv_aload_n hx hb dX9_trialOf_16 rfl (lv_at hl 0 rfl) ?_
    refine va_get (D := D) (ci := 9) (v := .int w_7) (C := RX9) (T := TX9) (N := 68) hx hb htb iX9 hown hK.1 hP 9 rfl rfl 28 (by decide) (htb _ k_986) (fun _ h9 => h9) rfl dX9_trialOf_17 ?_
    refine lv_if_ne (tgt := 26) hx hb dX9_trialOf_20 (by decide) (fun c_10 => ?_) (fun c_10 => ?_)
    ·
      have ic_10 : w_7.toInt ≠ 0 := mt (g_eq rfl t_0).mpr c_10
      clear c_10
      refine lv_iconst (v := 0) hx hb dX9_trialOf_26 (by decide) ?_
      refine lv_istore (lv' := [(4, .int 0), (0, .ref mh), (1, .int p0), (2, .int p1), (3, .int p2)]) hx hb dX9_trialOf_27 hl (by decide) rfl (fun ls hl => ?_)
      refine lv_iconst (v := 0) hx hb dX9_trialOf_29 (by decide) ?_
      refine lv_istore (lv' := [(5, .int 0), (4, .int 0), (0, .ref mh), (1, .int p0), (2, .int p1), (3, .int p2)]) hx hb dX9_trialOf_30 hl (by decide) rfl (fun ls hl => ?_)
      refine lv_bipush (v := 100) hx hb dX9_trialOf_32 (by decide) ?_
      refine lv_istore (lv' := [(6, .int 100), (5, .int 0), (4, .int 0), (0, .ref mh), (1, .int p0), (2, .int p1), (3, .int p2)]) hx hb dX9_trialOf_34 hl (by decide) rfl (fun ls hl => ?_)
      refine lv_bipush (v := (-100)) hx hb dX9_trialOf_36 (by decide) ?_
      refine lv_istore (lv' := [(7, .int (-100)), (6, .int 100), (5, .int 0), (4, .int 0), (0, .ref mh), (1, .int p0), (2, .int p1), (3, .int p2)]) hx hb dX9_trialOf_38 hl (by decide) rfl (fun ls hl => ?_)
      refine lv_iconst (v := 0) hx hb dX9_trialOf_40 (by decide) ?_
      refine lv_istore (lv' := [(8, .int 0), (7, .int (-100)), (6, .int 100), (5, .int 0), (4, .int 0), (0, .ref mh), (1, .int p0), (2, .int p1), (3, .int p2)]) hx hb dX9_trialOf_41 hl (by decide) rfl (fun ls hl => ?_)
      have loop_11 : ∀ (N_13 : Nat) (L8_43 : Int32) (L7_43 : Int32) (L4_43 : Int32) (L6_43 : Int32) (L5_43 : Int32) (H : Heap) (locs : List Loc) (ls : Array Slot), w_7.toInt - L8_43.toInt < (N_13 : Int) → (0 ≤ L8_43.toInt ∧ L8_43.toInt ≤ w_7.toInt) → va_P D vwCl [((ma 2), .inl (E 0, 400, .inl mf2)), ((ma 3), .inl (E 0, 16, .inl mf3)), ((ma 4), .inl (E 0, 16, .inl mf4)), ((ma 34), .inl (E 1, 2, .inl mf34)), ((ma 35), .inl (E 0, 2, .inl mf35)), ((ma 36), .inl (E 0, 384, .inl mf36)), ((ma 37), .inl (E 0, 384, .inl mf37)), ((ma 45), .inl (E 0, 130, .inl mf45)), ((ma 46), .inl (E 0, 24, .inl mf46)), (mh, .inr (9, G9 ma mcode mtoday moffs mmany msumW msumA msumR msumWW msumWA msumAA msumWR msumAR mupper mlower w_7 mtaped mlaid mat mtk mtkAt mtkNumber mwaits mlisted mdealtMany)), ((ma 5), .inl (E 1, 6400, .inl mf5)), ((ma 6), .inl (E 0, 6400, .inl mf6)), ((ma 7), .inl (E 0, 6400, .inl mf7)), ((ma 8), .inl (E 1, 6400, .inl mf8)), ((ma 9), .inl (E 1, 6400, .inl mf9)), ((ma 12), .inl (E 0, 60, .inl mf12)), ((ma 13), .inl (E 0, 60, .inl mf13)), ((ma 14), .inl (E 0, 60, .inl mf14)), ((ma 15), .inl (E 0, 60, .inl mf15)), ((ma 16), .inl (E 0, 60, .inl mf16)), ((ma 29), .inl (E 0, 60, .inl w_4)), ((ma 30), .inl (E 0, 60, .inl w_5)), ((ma 31), .inl (E 0, 60, .inl w_6))] H → va_D A [((ma 2), .inl (E 0, 400, .inl mf2)), ((ma 3), .inl (E 0, 16, .inl mf3)), ((ma 4), .inl (E 0, 16, .inl mf4)), ((ma 34), .inl (E 1, 2, .inl mf34)), ((ma 35), .inl (E 0, 2, .inl mf35)), ((ma 36), .inl (E 0, 384, .inl mf36)), ((ma 37), .inl (E 0, 384, .inl mf37)), ((ma 45), .inl (E 0, 130, .inl mf45)), ((ma 46), .inl (E 0, 24, .inl mf46)), (mh, .inr (9, G9 ma mcode mtoday moffs mmany msumW msumA msumR msumWW msumWA msumAA msumWR msumAR mupper mlower w_7 mtaped mlaid mat mtk mtkAt mtkNumber mwaits mlisted mdealtMany)), ((ma 5), .inl (E 1, 6400, .inl mf5)), ((ma 6), .inl (E 0, 6400, .inl mf6)), ((ma 7), .inl (E 0, 6400, .inl mf7)), ((ma 8), .inl (E 1, 6400, .inl mf8)), ((ma 9), .inl (E 1, 6400, .inl mf9)), ((ma 12), .inl (E 0, 60, .inl mf12)), ((ma 13), .inl (E 0, 60, .inl mf13)), ((ma 14), .inl (E 0, 60, .inl mf14)), ((ma 15), .inl (E 0, 60, .inl mf15)), ((ma 16), .inl (E 0, 60, .inl mf16)), ((ma 29), .inl (E 0, 60, .inl w_4)), ((ma 30), .inl (E 0, 60, .inl w_5)), ((ma 31), .inl (E 0, 60, .inl w_6))] → va_S A s.heap H locs → lv_has ls 11 [(8, .int L8_43), (7, .int L7_43), (6, .int L6_43), (5, .int L5_43), (4, .int L4_43), (0, .ref mh), (1, .int p0), (2, .int p1), (3, .int p2)] → W p l e (headSpec (wl yX9_trialOf cX9_trialOf 11 (some .int)) (RM 4 0 0)).room s m [Value.ref mh, .int p0, .int p1, .int p2].toArray below meth c H locs 0 0 (MQ below (va_Qi (fun (r : Int32) (u : (Nat → Int32) × (Nat → Int32) × (Nat → Int32) × (Nat → Int32) × (Nat → Int32) × (Int32)) => (∀ k : Nat, k < 60 → 0 ≤ (u.1 k).toInt ∧ (u.1 k).toInt ≤ 399) ∧ (0 ≤ u.2.2.2.2.2.toInt ∧ u.2.2.2.2.2.toInt ≤ 60)) (mu_B D A (fun (u : (Nat → Int32) × (Nat → Int32) × (Nat → Int32) × (Nat → Int32) × (Nat → Int32) × (Int32)) => [(mh, .inr (9, G9 ma mcode mtoday moffs mmany msumW msumA msumR msumWW msumWA msumAA msumWR msumAR mupper mlower u.2.2.2.2.2 mtaped mlaid mat mtk mtkAt mtkNumber mwaits mlisted mdealtMany)), ((ma 2), .inl (E 0, 400, .inl mf2)), ((ma 3), .inl (E 0, 16, .inl mf3)), ((ma 4), .inl (E 0, 16, .inl mf4)), ((ma 5), .inl (E 1, 6400, .inl mf5)), ((ma 6), .inl (E 0, 6400, .inl mf6)), ((ma 7), .inl (E 0, 6400, .inl mf7)), ((ma 8), .inl (E 1, 6400, .inl mf8)), ((ma 9), .inl (E 1, 6400, .inl mf9)), ((ma 12), .inl (E 0, 60, .inl mf12)), ((ma 13), .inl (E 0, 60, .inl mf13)), ((ma 14), .inl (E 0, 60, .inl mf14)), ((ma 15), .inl (E 0, 60, .inl mf15)), ((ma 16), .inl (E 0, 60, .inl mf16)), ((ma 29), .inl (E 0, 60, .inl u.1)), ((ma 30), .inl (E 0, 60, .inl u.2.1)), ((ma 31), .inl (E 0, 60, .inl u.2.2.1)), ((ma 34), .inl (E 1, 2, .inl mf34)), ((ma 35), .inl (E 0, 2, .inl mf35)), ((ma 36), .inl (E 0, 384, .inl mf36)), ((ma 37), .inl (E 0, 384, .inl mf37)), ((ma 45), .inl (E 0, 130, .inl u.2.2.2.1)), ((ma 46), .inl (E 0, 24, .inl u.2.2.2.2.1))])) A) [Value.ref mh, .int p0, .int p1, .int p2].toArray s 0 0 A) (F0 m 43 ls []) := by
        intro N_13
        induction N_13 with
        | zero => intro L8_43 L7_43 L4_43 L6_43 L5_43 H locs ls hm v0_43 _ _ _ _; exfalso; omega
        | succ N_13 ih_12 =>
          intro L8_43 L7_43 L4_43 L6_43 L5_43 H locs ls hm v0_43 hP hD hS hl
          have lo_L8_43 := i_lo L8_43; have hi_L8_43 := i_hi L8_43
          have lo_L7_43 := i_lo L7_43; have hi_L7_43 := i_hi L7_43
          have lo_L4_43 := i_lo L4_43; have hi_L4_43 := i_hi L4_43
          have lo_L6_43 := i_lo L6_43; have hi_L6_43 := i_hi L6_43
          have lo_L5_43 := i_lo L5_43; have hi_L5_43 := i_hi L5_43
          refine lv_iload hx hb dX9_trialOf_43 (lv_at hl 0 rfl) ?_
          refine lv_aload_n hx hb dX9_trialOf_45 rfl (lv_at hl 5 rfl) ?_
          refine va_get (D := D) (ci := 9) (v := .int w_7) (C := RX9) (T := TX9) (N := 68) hx hb htb iX9 hown hK.1 hP 9 rfl rfl 28 (by decide) (htb _ k_986) (fun _ h9 => h9) rfl dX9_trialOf_46 ?_
          refine lv_icmp_ge (tgt := 174) hx hb dX9_trialOf_49 (by decide) (fun c_14 => ?_) (fun c_14 => ?_)
          ·
            have ic_14 : w_7.toInt ≤ L8_43.toInt := by first | exact (g_le rfl rfl).mp c_14 | (have h := mt (g_lt rfl rfl).mpr c_14; omega)
            clear c_14
            refine lv_aload_n hx hb dX9_trialOf_174 rfl (lv_at hl 5 rfl) ?_
            refine va_get (D := D) (ci := 9) (v := .ref (ma 46)) (C := RX9) (T := TX9) (N := 68) hx hb htb iX9 hown hK.1 hP 9 rfl rfl 46 (by decide) (htb _ k_1004) (fun _ h9 => h9) rfl dX9_trialOf_175 ?_
            refine lv_iconst (v := 0) hx hb dX9_trialOf_178 (by decide) ?_
            refine lv_aload_n hx hb dX9_trialOf_179 rfl (lv_at hl 5 rfl) ?_
            refine va_get (D := D) (ci := 9) (v := .int w_7) (C := RX9) (T := TX9) (N := 68) hx hb htb iX9 hown hK.1 hP 9 rfl rfl 28 (by decide) (htb _ k_986) (fun _ h9 => h9) rfl dX9_trialOf_180 ?_
            refine va_iast hx hb hK.1 hP hD hS 8 0 rfl rfl (g_in t_0 (by decide) (by decide)) dX9_trialOf_183 (fun H locs hP hD hS => ?_)
            have hP : va_P D vwCl [((ma 2), .inl (E 0, 400, .inl mf2)), ((ma 3), .inl (E 0, 16, .inl mf3)), ((ma 4), .inl (E 0, 16, .inl mf4)), ((ma 34), .inl (E 1, 2, .inl mf34)), ((ma 35), .inl (E 0, 2, .inl mf35)), ((ma 36), .inl (E 0, 384, .inl mf36)), ((ma 37), .inl (E 0, 384, .inl mf37)), ((ma 45), .inl (E 0, 130, .inl mf45)), ((ma 46), .inl (E 0, 24, .inl (upd mf46 (0 : Int32).toNatClampNeg w_7))), (mh, .inr (9, G9 ma mcode mtoday moffs mmany msumW msumA msumR msumWW msumWA msumAA msumWR msumAR mupper mlower w_7 mtaped mlaid mat mtk mtkAt mtkNumber mwaits mlisted mdealtMany)), ((ma 5), .inl (E 1, 6400, .inl mf5)), ((ma 6), .inl (E 0, 6400, .inl mf6)), ((ma 7), .inl (E 0, 6400, .inl mf7)), ((ma 8), .inl (E 1, 6400, .inl mf8)), ((ma 9), .inl (E 1, 6400, .inl mf9)), ((ma 12), .inl (E 0, 60, .inl mf12)), ((ma 13), .inl (E 0, 60, .inl mf13)), ((ma 14), .inl (E 0, 60, .inl mf14)), ((ma 15), .inl (E 0, 60, .inl mf15)), ((ma 16), .inl (E 0, 60, .inl mf16)), ((ma 29), .inl (E 0, 60, .inl w_4)), ((ma 30), .inl (E 0, 60, .inl w_5)), ((ma 31), .inl (E 0, 60, .inl w_6))] H := hP
            have hD := toW hP hD rfl
            refine lv_aload_n hx hb dX9_trialOf_184 rfl (lv_at hl 5 rfl) ?_
            refine va_get (D := D) (ci := 9) (v := .ref (ma 46)) (C := RX9) (T := TX9) (N := 68) hx hb htb iX9 hown hK.1 hP 9 rfl rfl 46 (by decide) (htb _ k_1004) (fun _ h9 => h9) rfl dX9_trialOf_185 ?_
            refine lv_iconst (v := 1) hx hb dX9_trialOf_188 (by decide) ?_
            refine lv_aload_n hx hb dX9_trialOf_189 rfl (lv_at hl 5 rfl) ?_
            refine va_get (D := D) (ci := 9) (v := .ref (ma 31)) (C := RX9) (T := TX9) (N := 68) hx hb htb iX9 hown hK.1 hP 9 rfl rfl 31 (by decide) (htb _ k_989) (fun _ h9 => h9) rfl dX9_trialOf_190 ?_
            refine lv_iconst (v := 0) hx hb dX9_trialOf_193 (by decide) ?_
            refine va_iald hx hb hK.1 hP 22 0 rfl rfl (g_in t_0 (by decide) (by decide)) dX9_trialOf_194 ?_
            refine lv_topi (fun z_15 ez_15 => ?_)
            have kz_15 := congrArg Int32.toInt ez_15
            refine va_iast hx hb hK.1 hP hD hS 8 0 rfl rfl (g_in t_1 (by decide) (by decide)) dX9_trialOf_195 (fun H locs hP hD hS => ?_)
            have hP : va_P D vwCl [((ma 2), .inl (E 0, 400, .inl mf2)), ((ma 3), .inl (E 0, 16, .inl mf3)), ((ma 4), .inl (E 0, 16, .inl mf4)), ((ma 34), .inl (E 1, 2, .inl mf34)), ((ma 35), .inl (E 0, 2, .inl mf35)), ((ma 36), .inl (E 0, 384, .inl mf36)), ((ma 37), .inl (E 0, 384, .inl mf37)), ((ma 45), .inl (E 0, 130, .inl mf45)), ((ma 46), .inl (E 0, 24, .inl (upd (upd mf46 (0 : Int32).toNatClampNeg w_7) (1 : Int32).toNatClampNeg z_15))), (mh, .inr (9, G9 ma mcode mtoday moffs mmany msumW msumA msumR msumWW msumWA msumAA msumWR msumAR mupper mlower w_7 mtaped mlaid mat mtk mtkAt mtkNumber mwaits mlisted mdealtMany)), ((ma 5), .inl (E 1, 6400, .inl mf5)), ((ma 6), .inl (E 0, 6400, .inl mf6)), ((ma 7), .inl (E 0, 6400, .inl mf7)), ((ma 8), .inl (E 1, 6400, .inl mf8)), ((ma 9), .inl (E 1, 6400, .inl mf9)), ((ma 12), .inl (E 0, 60, .inl mf12)), ((ma 13), .inl (E 0, 60, .inl mf13)), ((ma 14), .inl (E 0, 60, .inl mf14)), ((ma 15), .inl (E 0, 60, .inl mf15)), ((ma 16), .inl (E 0, 60, .inl mf16)), ((ma 29), .inl (E 0, 60, .inl w_4)), ((ma 30), .inl (E 0, 60, .inl w_5)), ((ma 31), .inl (E 0, 60, .inl w_6))] H := hP
            have hD := toW hP hD rfl
            generalize (upd (upd mf46 (0 : Int32).toNatClampNeg w_7) (1 : Int32).toNatClampNeg z_15) = g_16 at hP hD
            refine lv_aload_n hx hb dX9_trialOf_196 rfl (lv_at hl 5 rfl) ?_
            refine va_get (D := D) (ci := 9) (v := .ref (ma 46)) (C := RX9) (T := TX9) (N := 68) hx hb htb iX9 hown hK.1 hP 9 rfl rfl 46 (by decide) (htb _ k_1004) (fun _ h9 => h9) rfl dX9_trialOf_197 ?_
            refine lv_iconst (v := 2) hx hb dX9_trialOf_200 (by decide) ?_
            refine lv_aload_n hx hb dX9_trialOf_201 rfl (lv_at hl 5 rfl) ?_
            refine va_get (D := D) (ci := 9) (v := .ref (ma 31)) (C := RX9) (T := TX9) (N := 68) hx hb htb iX9 hown hK.1 hP 9 rfl rfl 31 (by decide) (htb _ k_989) (fun _ h9 => h9) rfl dX9_trialOf_202 ?_
            refine lv_aload_n hx hb dX9_trialOf_205 rfl (lv_at hl 5 rfl) ?_
            refine va_get (D := D) (ci := 9) (v := .int w_7) (C := RX9) (T := TX9) (N := 68) hx hb htb iX9 hown hK.1 hP 9 rfl rfl 28 (by decide) (htb _ k_986) (fun _ h9 => h9) rfl dX9_trialOf_206 ?_
            refine lv_iconst (v := 1) hx hb dX9_trialOf_209 (by decide) ?_
            refine lv_isub hx hb dX9_trialOf_210 ?_
            refine lv_topi (fun z_17 ez_17 => ?_)
            have jz_17 : z_17.toInt = w_7.toInt - 1 := by rw [ez_17]; exact g_sub rfl t_1 (by omega) (by omega)
            refine va_iald hx hb hK.1 hP 22 0 rfl rfl (g_in rfl (by omega) (by omega)) dX9_trialOf_211 ?_
            refine lv_topi (fun z_18 ez_18 => ?_)
            have kz_18 := congrArg Int32.toInt ez_18
            refine va_iast hx hb hK.1 hP hD hS 8 0 rfl rfl (g_in t_2 (by decide) (by decide)) dX9_trialOf_212 (fun H locs hP hD hS => ?_)
            have hP : va_P D vwCl [((ma 2), .inl (E 0, 400, .inl mf2)), ((ma 3), .inl (E 0, 16, .inl mf3)), ((ma 4), .inl (E 0, 16, .inl mf4)), ((ma 34), .inl (E 1, 2, .inl mf34)), ((ma 35), .inl (E 0, 2, .inl mf35)), ((ma 36), .inl (E 0, 384, .inl mf36)), ((ma 37), .inl (E 0, 384, .inl mf37)), ((ma 45), .inl (E 0, 130, .inl mf45)), ((ma 46), .inl (E 0, 24, .inl (upd g_16 (2 : Int32).toNatClampNeg z_18))), (mh, .inr (9, G9 ma mcode mtoday moffs mmany msumW msumA msumR msumWW msumWA msumAA msumWR msumAR mupper mlower w_7 mtaped mlaid mat mtk mtkAt mtkNumber mwaits mlisted mdealtMany)), ((ma 5), .inl (E 1, 6400, .inl mf5)), ((ma 6), .inl (E 0, 6400, .inl mf6)), ((ma 7), .inl (E 0, 6400, .inl mf7)), ((ma 8), .inl (E 1, 6400, .inl mf8)), ((ma 9), .inl (E 1, 6400, .inl mf9)), ((ma 12), .inl (E 0, 60, .inl mf12)), ((ma 13), .inl (E 0, 60, .inl mf13)), ((ma 14), .inl (E 0, 60, .inl mf14)), ((ma 15), .inl (E 0, 60, .inl mf15)), ((ma 16), .inl (E 0, 60, .inl mf16)), ((ma 29), .inl (E 0, 60, .inl w_4)), ((ma 30), .inl (E 0, 60, .inl w_5)), ((ma 31), .inl (E 0, 60, .inl w_6))] H := hP
            have hD := toW hP hD rfl
            refine lv_aload_n hx hb dX9_trialOf_213 rfl (lv_at hl 5 rfl) ?_
            refine va_get (D := D) (ci := 9) (v := .ref (ma 46)) (C := RX9) (T := TX9) (N := 68) hx hb htb iX9 hown hK.1 hP 9 rfl rfl 46 (by decide) (htb _ k_1004) (fun _ h9 => h9) rfl dX9_trialOf_214 ?_
            refine lv_iconst (v := 3) hx hb dX9_trialOf_217 (by decide) ?_
            refine lv_aload_n hx hb dX9_trialOf_218 rfl (lv_at hl 5 rfl) ?_
            refine va_get (D := D) (ci := 9) (v := .ref (ma 31)) (C := RX9) (T := TX9) (N := 68) hx hb htb iX9 hown hK.1 hP 9 rfl rfl 31 (by decide) (htb _ k_989) (fun _ h9 => h9) rfl dX9_trialOf_219 ?_
            refine lv_aload_n hx hb dX9_trialOf_222 rfl (lv_at hl 5 rfl) ?_
            refine va_get (D := D) (ci := 9) (v := .int w_7) (C := RX9) (T := TX9) (N := 68) hx hb htb iX9 hown hK.1 hP 9 rfl rfl 28 (by decide) (htb _ k_986) (fun _ h9 => h9) rfl dX9_trialOf_223 ?_
            refine lv_iconst (v := 1) hx hb dX9_trialOf_226 (by decide) ?_
            refine lv_isub hx hb dX9_trialOf_227 ?_
            refine lv_topi (fun z_19 ez_19 => ?_)
            have jz_19 : z_19.toInt = w_7.toInt - 1 := by rw [ez_19]; exact g_sub rfl t_1 (by omega) (by omega)
            refine va_iald hx hb hK.1 hP 22 0 rfl rfl (g_in rfl (by omega) (by omega)) dX9_trialOf_228 ?_
            refine lv_topi (fun z_20 ez_20 => ?_)
            have kz_20 := congrArg Int32.toInt ez_20
            refine lv_aload_n hx hb dX9_trialOf_229 rfl (lv_at hl 5 rfl) ?_
            refine va_get (D := D) (ci := 9) (v := .ref (ma 31)) (C := RX9) (T := TX9) (N := 68) hx hb htb iX9 hown hK.1 hP 9 rfl rfl 31 (by decide) (htb _ k_989) (fun _ h9 => h9) rfl dX9_trialOf_230 ?_
            refine lv_iconst (v := 0) hx hb dX9_trialOf_233 (by decide) ?_
            refine va_iald hx hb hK.1 hP 22 0 rfl rfl (g_in t_0 (by decide) (by decide)) dX9_trialOf_234 ?_
            refine lv_topi (fun z_21 ez_21 => ?_)
            have kz_21 := congrArg Int32.toInt ez_21
            refine lv_isub hx hb dX9_trialOf_235 ?_
            refine lv_topi (fun z_22 ez_22 => ?_)
            refine va_iast hx hb hK.1 hP hD hS 8 0 rfl rfl (g_in t_3 (by decide) (by decide)) dX9_trialOf_236 (fun H locs hP hD hS => ?_)
            have hP : va_P D vwCl [((ma 2), .inl (E 0, 400, .inl mf2)), ((ma 3), .inl (E 0, 16, .inl mf3)), ((ma 4), .inl (E 0, 16, .inl mf4)), ((ma 34), .inl (E 1, 2, .inl mf34)), ((ma 35), .inl (E 0, 2, .inl mf35)), ((ma 36), .inl (E 0, 384, .inl mf36)), ((ma 37), .inl (E 0, 384, .inl mf37)), ((ma 45), .inl (E 0, 130, .inl mf45)), ((ma 46), .inl (E 0, 24, .inl (upd (upd g_16 (2 : Int32).toNatClampNeg z_18) (3 : Int32).toNatClampNeg z_22))), (mh, .inr (9, G9 ma mcode mtoday moffs mmany msumW msumA msumR msumWW msumWA msumAA msumWR msumAR mupper mlower w_7 mtaped mlaid mat mtk mtkAt mtkNumber mwaits mlisted mdealtMany)), ((ma 5), .inl (E 1, 6400, .inl mf5)), ((ma 6), .inl (E 0, 6400, .inl mf6)), ((ma 7), .inl (E 0, 6400, .inl mf7)), ((ma 8), .inl (E 1, 6400, .inl mf8)), ((ma 9), .inl (E 1, 6400, .inl mf9)), ((ma 12), .inl (E 0, 60, .inl mf12)), ((ma 13), .inl (E 0, 60, .inl mf13)), ((ma 14), .inl (E 0, 60, .inl mf14)), ((ma 15), .inl (E 0, 60, .inl mf15)), ((ma 16), .inl (E 0, 60, .inl mf16)), ((ma 29), .inl (E 0, 60, .inl w_4)), ((ma 30), .inl (E 0, 60, .inl w_5)), ((ma 31), .inl (E 0, 60, .inl w_6))] H := hP
            have hD := toW hP hD rfl
            generalize (upd (upd g_16 (2 : Int32).toNatClampNeg z_18) (3 : Int32).toNatClampNeg z_22) = g_23 at hP hD
            refine lv_aload_n hx hb dX9_trialOf_237 rfl (lv_at hl 5 rfl) ?_
            refine va_get (D := D) (ci := 9) (v := .ref (ma 46)) (C := RX9) (T := TX9) (N := 68) hx hb htb iX9 hown hK.1 hP 9 rfl rfl 46 (by decide) (htb _ k_1004) (fun _ h9 => h9) rfl dX9_trialOf_238 ?_
            refine lv_iconst (v := 4) hx hb dX9_trialOf_241 (by decide) ?_
            refine lv_iload_n hx hb dX9_trialOf_242 rfl (lv_at hl 8 rfl) ?_
            refine lv_iload_n hx hb dX9_trialOf_243 rfl (lv_at hl 7 rfl) ?_
            refine lv_isub hx hb dX9_trialOf_244 ?_
            refine lv_topi (fun z_24 ez_24 => ?_)
            have jz_24 : z_24.toInt = p2.toInt - p1.toInt := by rw [ez_24]; exact g_sub rfl rfl (by omega) (by omega)
            refine lv_aload_n hx hb dX9_trialOf_245 rfl (lv_at hl 5 rfl) ?_
            refine va_get (D := D) (ci := 9) (v := .int w_7) (C := RX9) (T := TX9) (N := 68) hx hb htb iX9 hown hK.1 hP 9 rfl rfl 28 (by decide) (htb _ k_986) (fun _ h9 => h9) rfl dX9_trialOf_246 ?_
            refine lv_isub hx hb dX9_trialOf_249 ?_
            refine lv_topi (fun z_25 ez_25 => ?_)
            have jz_25 : z_25.toInt = z_24.toInt - w_7.toInt := by rw [ez_25]; exact g_sub rfl rfl (by omega) (by omega)
            refine va_iast hx hb hK.1 hP hD hS 8 0 rfl rfl (g_in t_4 (by decide) (by decide)) dX9_trialOf_250 (fun H locs hP hD hS => ?_)
            have hP : va_P D vwCl [((ma 2), .inl (E 0, 400, .inl mf2)), ((ma 3), .inl (E 0, 16, .inl mf3)), ((ma 4), .inl (E 0, 16, .inl mf4)), ((ma 34), .inl (E 1, 2, .inl mf34)), ((ma 35), .inl (E 0, 2, .inl mf35)), ((ma 36), .inl (E 0, 384, .inl mf36)), ((ma 37), .inl (E 0, 384, .inl mf37)), ((ma 45), .inl (E 0, 130, .inl mf45)), ((ma 46), .inl (E 0, 24, .inl (upd g_23 (4 : Int32).toNatClampNeg z_25))), (mh, .inr (9, G9 ma mcode mtoday moffs mmany msumW msumA msumR msumWW msumWA msumAA msumWR msumAR mupper mlower w_7 mtaped mlaid mat mtk mtkAt mtkNumber mwaits mlisted mdealtMany)), ((ma 5), .inl (E 1, 6400, .inl mf5)), ((ma 6), .inl (E 0, 6400, .inl mf6)), ((ma 7), .inl (E 0, 6400, .inl mf7)), ((ma 8), .inl (E 1, 6400, .inl mf8)), ((ma 9), .inl (E 1, 6400, .inl mf9)), ((ma 12), .inl (E 0, 60, .inl mf12)), ((ma 13), .inl (E 0, 60, .inl mf13)), ((ma 14), .inl (E 0, 60, .inl mf14)), ((ma 15), .inl (E 0, 60, .inl mf15)), ((ma 16), .inl (E 0, 60, .inl mf16)), ((ma 29), .inl (E 0, 60, .inl w_4)), ((ma 30), .inl (E 0, 60, .inl w_5)), ((ma 31), .inl (E 0, 60, .inl w_6))] H := hP
            have hD := toW hP hD rfl
            refine lv_aload_n hx hb dX9_trialOf_251 rfl (lv_at hl 5 rfl) ?_
            refine va_get (D := D) (ci := 9) (v := .ref (ma 46)) (C := RX9) (T := TX9) (N := 68) hx hb htb iX9 hown hK.1 hP 9 rfl rfl 46 (by decide) (htb _ k_1004) (fun _ h9 => h9) rfl dX9_trialOf_252 ?_
            refine lv_iconst (v := 5) hx hb dX9_trialOf_255 (by decide) ?_
            refine lv_iload hx hb dX9_trialOf_256 (lv_at hl 3 rfl) ?_
            refine va_iast hx hb hK.1 hP hD hS 8 0 rfl rfl (g_in t_5 (by decide) (by decide)) dX9_trialOf_258 (fun H locs hP hD hS => ?_)
            have hP : va_P D vwCl [((ma 2), .inl (E 0, 400, .inl mf2)), ((ma 3), .inl (E 0, 16, .inl mf3)), ((ma 4), .inl (E 0, 16, .inl mf4)), ((ma 34), .inl (E 1, 2, .inl mf34)), ((ma 35), .inl (E 0, 2, .inl mf35)), ((ma 36), .inl (E 0, 384, .inl mf36)), ((ma 37), .inl (E 0, 384, .inl mf37)), ((ma 45), .inl (E 0, 130, .inl mf45)), ((ma 46), .inl (E 0, 24, .inl (upd (upd g_23 (4 : Int32).toNatClampNeg z_25) (5 : Int32).toNatClampNeg L5_43))), (mh, .inr (9, G9 ma mcode mtoday moffs mmany msumW msumA msumR msumWW msumWA msumAA msumWR msumAR mupper mlower w_7 mtaped mlaid mat mtk mtkAt mtkNumber mwaits mlisted mdealtMany)), ((ma 5), .inl (E 1, 6400, .inl mf5)), ((ma 6), .inl (E 0, 6400, .inl mf6)), ((ma 7), .inl (E 0, 6400, .inl mf7)), ((ma 8), .inl (E 1, 6400, .inl mf8)), ((ma 9), .inl (E 1, 6400, .inl mf9)), ((ma 12), .inl (E 0, 60, .inl mf12)), ((ma 13), .inl (E 0, 60, .inl mf13)), ((ma 14), .inl (E 0, 60, .inl mf14)), ((ma 15), .inl (E 0, 60, .inl mf15)), ((ma 16), .inl (E 0, 60, .inl mf16)), ((ma 29), .inl (E 0, 60, .inl w_4)), ((ma 30), .inl (E 0, 60, .inl w_5)), ((ma 31), .inl (E 0, 60, .inl w_6))] H := hP
            have hD := toW hP hD rfl
            generalize (upd (upd g_23 (4 : Int32).toNatClampNeg z_25) (5 : Int32).toNatClampNeg L5_43) = g_26 at hP hD
            refine lv_aload_n hx hb dX9_trialOf_259 rfl (lv_at hl 5 rfl) ?_
            refine va_get (D := D) (ci := 9) (v := .ref (ma 46)) (C := RX9) (T := TX9) (N := 68) hx hb htb iX9 hown hK.1 hP 9 rfl rfl 46 (by decide) (htb _ k_1004) (fun _ h9 => h9) rfl dX9_trialOf_260 ?_
            refine lv_bipush (v := 6) hx hb dX9_trialOf_263 (by decide) ?_
            refine lv_aload_n hx hb dX9_trialOf_265 rfl (lv_at hl 5 rfl) ?_
            refine va_get (D := D) (ci := 9) (v := .ref (ma 30)) (C := RX9) (T := TX9) (N := 68) hx hb htb iX9 hown hK.1 hP 9 rfl rfl 30 (by decide) (htb _ k_988) (fun _ h9 => h9) rfl dX9_trialOf_266 ?_
            refine lv_aload_n hx hb dX9_trialOf_269 rfl (lv_at hl 5 rfl) ?_
            refine va_get (D := D) (ci := 9) (v := .int w_7) (C := RX9) (T := TX9) (N := 68) hx hb htb iX9 hown hK.1 hP 9 rfl rfl 28 (by decide) (htb _ k_986) (fun _ h9 => h9) rfl dX9_trialOf_270 ?_
            refine lv_iconst (v := 1) hx hb dX9_trialOf_273 (by decide) ?_
            refine lv_isub hx hb dX9_trialOf_274 ?_
            refine lv_topi (fun z_27 ez_27 => ?_)
            have jz_27 : z_27.toInt = w_7.toInt - 1 := by rw [ez_27]; exact g_sub rfl t_1 (by omega) (by omega)
            refine va_iald hx hb hK.1 hP 21 0 rfl rfl (g_in rfl (by omega) (by omega)) dX9_trialOf_275 ?_
            refine lv_topi (fun z_28 ez_28 => ?_)
            have kz_28 := congrArg Int32.toInt ez_28
            refine lv_aload_n hx hb dX9_trialOf_276 rfl (lv_at hl 5 rfl) ?_
            refine va_get (D := D) (ci := 9) (v := .ref (ma 30)) (C := RX9) (T := TX9) (N := 68) hx hb htb iX9 hown hK.1 hP 9 rfl rfl 30 (by decide) (htb _ k_988) (fun _ h9 => h9) rfl dX9_trialOf_277 ?_
            refine lv_iconst (v := 0) hx hb dX9_trialOf_280 (by decide) ?_
            refine va_iald hx hb hK.1 hP 21 0 rfl rfl (g_in t_0 (by decide) (by decide)) dX9_trialOf_281 ?_
            refine lv_topi (fun z_29 ez_29 => ?_)
            have kz_29 := congrArg Int32.toInt ez_29
            refine lv_isub hx hb dX9_trialOf_282 ?_
            refine lv_topi (fun z_30 ez_30 => ?_)
            refine va_iast hx hb hK.1 hP hD hS 8 0 rfl rfl (g_in t_6 (by decide) (by decide)) dX9_trialOf_283 (fun H locs hP hD hS => ?_)
            have hP : va_P D vwCl [((ma 2), .inl (E 0, 400, .inl mf2)), ((ma 3), .inl (E 0, 16, .inl mf3)), ((ma 4), .inl (E 0, 16, .inl mf4)), ((ma 34), .inl (E 1, 2, .inl mf34)), ((ma 35), .inl (E 0, 2, .inl mf35)), ((ma 36), .inl (E 0, 384, .inl mf36)), ((ma 37), .inl (E 0, 384, .inl mf37)), ((ma 45), .inl (E 0, 130, .inl mf45)), ((ma 46), .inl (E 0, 24, .inl (upd g_26 (6 : Int32).toNatClampNeg z_30))), (mh, .inr (9, G9 ma mcode mtoday moffs mmany msumW msumA msumR msumWW msumWA msumAA msumWR msumAR mupper mlower w_7 mtaped mlaid mat mtk mtkAt mtkNumber mwaits mlisted mdealtMany)), ((ma 5), .inl (E 1, 6400, .inl mf5)), ((ma 6), .inl (E 0, 6400, .inl mf6)), ((ma 7), .inl (E 0, 6400, .inl mf7)), ((ma 8), .inl (E 1, 6400, .inl mf8)), ((ma 9), .inl (E 1, 6400, .inl mf9)), ((ma 12), .inl (E 0, 60, .inl mf12)), ((ma 13), .inl (E 0, 60, .inl mf13)), ((ma 14), .inl (E 0, 60, .inl mf14)), ((ma 15), .inl (E 0, 60, .inl mf15)), ((ma 16), .inl (E 0, 60, .inl mf16)), ((ma 29), .inl (E 0, 60, .inl w_4)), ((ma 30), .inl (E 0, 60, .inl w_5)), ((ma 31), .inl (E 0, 60, .inl w_6))] H := hP
            have hD := toW hP hD rfl
            refine lv_aload_n hx hb dX9_trialOf_284 rfl (lv_at hl 5 rfl) ?_
            refine va_get (D := D) (ci := 9) (v := .ref (ma 46)) (C := RX9) (T := TX9) (N := 68) hx hb htb iX9 hown hK.1 hP 9 rfl rfl 46 (by decide) (htb _ k_1004) (fun _ h9 => h9) rfl dX9_trialOf_285 ?_
            refine lv_bipush (v := 7) hx hb dX9_trialOf_288 (by decide) ?_
            refine lv_iload hx hb dX9_trialOf_290 (lv_at hl 4 rfl) ?_
            refine va_iast hx hb hK.1 hP hD hS 8 0 rfl rfl (g_in t_7 (by decide) (by decide)) dX9_trialOf_292 (fun H locs hP hD hS => ?_)
            have hP : va_P D vwCl [((ma 2), .inl (E 0, 400, .inl mf2)), ((ma 3), .inl (E 0, 16, .inl mf3)), ((ma 4), .inl (E 0, 16, .inl mf4)), ((ma 34), .inl (E 1, 2, .inl mf34)), ((ma 35), .inl (E 0, 2, .inl mf35)), ((ma 36), .inl (E 0, 384, .inl mf36)), ((ma 37), .inl (E 0, 384, .inl mf37)), ((ma 45), .inl (E 0, 130, .inl mf45)), ((ma 46), .inl (E 0, 24, .inl (upd (upd g_26 (6 : Int32).toNatClampNeg z_30) (7 : Int32).toNatClampNeg L4_43))), (mh, .inr (9, G9 ma mcode mtoday moffs mmany msumW msumA msumR msumWW msumWA msumAA msumWR msumAR mupper mlower w_7 mtaped mlaid mat mtk mtkAt mtkNumber mwaits mlisted mdealtMany)), ((ma 5), .inl (E 1, 6400, .inl mf5)), ((ma 6), .inl (E 0, 6400, .inl mf6)), ((ma 7), .inl (E 0, 6400, .inl mf7)), ((ma 8), .inl (E 1, 6400, .inl mf8)), ((ma 9), .inl (E 1, 6400, .inl mf9)), ((ma 12), .inl (E 0, 60, .inl mf12)), ((ma 13), .inl (E 0, 60, .inl mf13)), ((ma 14), .inl (E 0, 60, .inl mf14)), ((ma 15), .inl (E 0, 60, .inl mf15)), ((ma 16), .inl (E 0, 60, .inl mf16)), ((ma 29), .inl (E 0, 60, .inl w_4)), ((ma 30), .inl (E 0, 60, .inl w_5)), ((ma 31), .inl (E 0, 60, .inl w_6))] H := hP
            have hD := toW hP hD rfl
            generalize (upd (upd g_26 (6 : Int32).toNatClampNeg z_30) (7 : Int32).toNatClampNeg L4_43) = g_31 at hP hD
            refine lv_aload_n hx hb dX9_trialOf_293 rfl (lv_at hl 5 rfl) ?_
            refine va_get (D := D) (ci := 9) (v := .ref (ma 46)) (C := RX9) (T := TX9) (N := 68) hx hb htb iX9 hown hK.1 hP 9 rfl rfl 46 (by decide) (htb _ k_1004) (fun _ h9 => h9) rfl dX9_trialOf_294 ?_
            refine lv_bipush (v := 8) hx hb dX9_trialOf_297 (by decide) ?_
            refine lv_iload hx hb dX9_trialOf_299 (lv_at hl 1 rfl) ?_
            refine lv_iload hx hb dX9_trialOf_301 (lv_at hl 2 rfl) ?_
            refine lv_icmp_ge (tgt := 310) hx hb dX9_trialOf_303 (by decide) (fun c_32 => ?_) (fun c_32 => ?_)
            ·
              have ic_32 : L6_43.toInt ≤ L7_43.toInt := by first | exact (g_le rfl rfl).mp c_32 | (have h := mt (g_lt rfl rfl).mpr c_32; omega)
              clear c_32
              refine lv_iload hx hb dX9_trialOf_310 (lv_at hl 1 rfl) ?_
              refine lv_iload hx hb dX9_trialOf_312 (lv_at hl 2 rfl) ?_
              refine lv_isub hx hb dX9_trialOf_314 ?_
              refine lv_topi (fun z_33 ez_33 => ?_)
              refine va_iast hx hb hK.1 hP hD hS 8 0 rfl rfl (g_in t_8 (by decide) (by decide)) dX9_trialOf_315 (fun H locs hP hD hS => ?_)
              have hP : va_P D vwCl [((ma 2), .inl (E 0, 400, .inl mf2)), ((ma 3), .inl (E 0, 16, .inl mf3)), ((ma 4), .inl (E 0, 16, .inl mf4)), ((ma 34), .inl (E 1, 2, .inl mf34)), ((ma 35), .inl (E 0, 2, .inl mf35)), ((ma 36), .inl (E 0, 384, .inl mf36)), ((ma 37), .inl (E 0, 384, .inl mf37)), ((ma 45), .inl (E 0, 130, .inl mf45)), ((ma 46), .inl (E 0, 24, .inl (upd g_31 (8 : Int32).toNatClampNeg z_33))), (mh, .inr (9, G9 ma mcode mtoday moffs mmany msumW msumA msumR msumWW msumWA msumAA msumWR msumAR mupper mlower w_7 mtaped mlaid mat mtk mtkAt mtkNumber mwaits mlisted mdealtMany)), ((ma 5), .inl (E 1, 6400, .inl mf5)), ((ma 6), .inl (E 0, 6400, .inl mf6)), ((ma 7), .inl (E 0, 6400, .inl mf7)), ((ma 8), .inl (E 1, 6400, .inl mf8)), ((ma 9), .inl (E 1, 6400, .inl mf9)), ((ma 12), .inl (E 0, 60, .inl mf12)), ((ma 13), .inl (E 0, 60, .inl mf13)), ((ma 14), .inl (E 0, 60, .inl mf14)), ((ma 15), .inl (E 0, 60, .inl mf15)), ((ma 16), .inl (E 0, 60, .inl mf16)), ((ma 29), .inl (E 0, 60, .inl w_4)), ((ma 30), .inl (E 0, 60, .inl w_5)), ((ma 31), .inl (E 0, 60, .inl w_6))] H := hP
              have hD := toW hP hD rfl
              refine lv_aload_n hx hb dX9_trialOf_316 rfl (lv_at hl 5 rfl) ?_
              refine lv_iconst (v := 0) hx hb dX9_trialOf_317 (by decide) ?_
              have hPc := hP.sub (ws' := [(mh, .inr (9, G9 ma mcode mtoday moffs mmany msumW msumA msumR msumWW msumWA msumAA msumWR msumAR mupper mlower w_7 mtaped mlaid mat mtk mtkAt mtkNumber mwaits mlisted mdealtMany)), ((ma 35), .inl (E 0, 2, .inl mf35)), ((ma 36), .inl (E 0, 384, .inl mf36)), ((ma 37), .inl (E 0, 384, .inl mf37)), ((ma 45), .inl (E 0, 130, .inl mf45)), ((ma 46), .inl (E 0, 24, .inl (upd g_31 (8 : Int32).toNatClampNeg z_33)))]) [9, 4, 5, 6, 7, 8] rfl
              have hDc := hD.sub (ws' := [(mh, .inr (9, G9 ma mcode mtoday moffs mmany msumW msumA msumR msumWW msumWA msumAA msumWR msumAR mupper mlower w_7 mtaped mlaid mat mtk mtkAt mtkNumber mwaits mlisted mdealtMany)), ((ma 35), .inl (E 0, 2, .inl mf35)), ((ma 36), .inl (E 0, 384, .inl mf36)), ((ma 37), .inl (E 0, 384, .inl mf37)), ((ma 45), .inl (E 0, 130, .inl mf45)), ((ma 46), .inl (E 0, 24, .inl (upd g_31 (8 : Int32).toNatClampNeg z_33)))]) [9, 4, 5, 6, 7, 8] (by decide) rfl
              refine aft_i (runMV (rest := []) (As := [.int 0]) hx hb hml hown htb hK (g_X9_says0 l D E mh ma mcode mtoday moffs mmany msumW msumA msumR msumWW msumWA msumAA msumWR msumAR mupper mlower w_7 mtaped mlaid mat mtk mtkAt mtkNumber mwaits mlisted mdealtMany mf35 mf36 mf37 mf45 (upd g_31 (8 : Int32).toNatClampNeg z_33) _ (by (try dsimp only); omega) hr_m35 hjw) ok_X9_says k_1395 k_1397 ks_60 k_9 k_1398 ⟨(Nat.le_of_ble_eq_true rfl), (Nat.le_of_ble_eq_true rfl)⟩ ⟨(Nat.le_of_ble_eq_true rfl), (Nat.le_of_ble_eq_true rfl)⟩ hl.1 (Nat.le_of_ble_eq_true rfl) rfl rfl dX9_trialOf_318 hPc hDc rfl rfl 0 rfl) hP hD hS hA [9, 4, 5, 6, 7, 8] [0, 1, 2, 3, 10, 11, 12, 13, 14, 15, 16, 17, 18, 19, 20, 21, 22] (wr := [((ma 2), .inl (E 0, 400, .inl mf2)), ((ma 3), .inl (E 0, 16, .inl mf3)), ((ma 4), .inl (E 0, 16, .inl mf4)), ((ma 34), .inl (E 1, 2, .inl mf34)), ((ma 5), .inl (E 1, 6400, .inl mf5)), ((ma 6), .inl (E 0, 6400, .inl mf6)), ((ma 7), .inl (E 0, 6400, .inl mf7)), ((ma 8), .inl (E 1, 6400, .inl mf8)), ((ma 9), .inl (E 1, 6400, .inl mf9)), ((ma 12), .inl (E 0, 60, .inl mf12)), ((ma 13), .inl (E 0, 60, .inl mf13)), ((ma 14), .inl (E 0, 60, .inl mf14)), ((ma 15), .inl (E 0, 60, .inl mf15)), ((ma 16), .inl (E 0, 60, .inl mf16)), ((ma 29), .inl (E 0, 60, .inl w_4)), ((ma 30), .inl (E 0, 60, .inl w_5)), ((ma 31), .inl (E 0, 60, .inl w_6))]) rfl rfl (by decide) (by decide) (fun r_34 u_36 H locs hw_35 hP hD hS => ?_)
              clear hPc hDc
              have hP : va_P D vwCl [((ma 2), .inl (E 0, 400, .inl mf2)), ((ma 3), .inl (E 0, 16, .inl mf3)), ((ma 4), .inl (E 0, 16, .inl mf4)), ((ma 34), .inl (E 1, 2, .inl mf34)), ((ma 5), .inl (E 1, 6400, .inl mf5)), ((ma 6), .inl (E 0, 6400, .inl mf6)), ((ma 7), .inl (E 0, 6400, .inl mf7)), ((ma 8), .inl (E 1, 6400, .inl mf8)), ((ma 9), .inl (E 1, 6400, .inl mf9)), ((ma 12), .inl (E 0, 60, .inl mf12)), ((ma 13), .inl (E 0, 60, .inl mf13)), ((ma 14), .inl (E 0, 60, .inl mf14)), ((ma 15), .inl (E 0, 60, .inl mf15)), ((ma 16), .inl (E 0, 60, .inl mf16)), ((ma 29), .inl (E 0, 60, .inl w_4)), ((ma 30), .inl (E 0, 60, .inl w_5)), ((ma 31), .inl (E 0, 60, .inl w_6)), (mh, .inr (9, G9 ma mcode mtoday moffs mmany msumW msumA msumR msumWW msumWA msumAA msumWR msumAR mupper mlower w_7 mtaped mlaid mat mtk mtkAt mtkNumber mwaits mlisted mdealtMany)), ((ma 35), .inl (E 0, 2, .inl mf35)), ((ma 36), .inl (E 0, 384, .inl mf36)), ((ma 37), .inl (E 0, 384, .inl mf37)), ((ma 45), .inl (E 0, 130, .inl u_36)), ((ma 46), .inl (E 0, 24, .inl (upd g_31 (8 : Int32).toNatClampNeg z_33)))] H := hP
              have hD := toW hP hD rfl
              have hP9 := hP.sub (ws' := [(mh, .inr (9, G9 ma mcode mtoday moffs mmany msumW msumA msumR msumWW msumWA msumAA msumWR msumAR mupper mlower w_7 mtaped mlaid mat mtk mtkAt mtkNumber mwaits mlisted mdealtMany)), ((ma 2), .inl (E 0, 400, .inl mf2)), ((ma 3), .inl (E 0, 16, .inl mf3)), ((ma 4), .inl (E 0, 16, .inl mf4)), ((ma 5), .inl (E 1, 6400, .inl mf5)), ((ma 6), .inl (E 0, 6400, .inl mf6)), ((ma 7), .inl (E 0, 6400, .inl mf7)), ((ma 8), .inl (E 1, 6400, .inl mf8)), ((ma 9), .inl (E 1, 6400, .inl mf9)), ((ma 12), .inl (E 0, 60, .inl mf12)), ((ma 13), .inl (E 0, 60, .inl mf13)), ((ma 14), .inl (E 0, 60, .inl mf14)), ((ma 15), .inl (E 0, 60, .inl mf15)), ((ma 16), .inl (E 0, 60, .inl mf16)), ((ma 29), .inl (E 0, 60, .inl w_4)), ((ma 30), .inl (E 0, 60, .inl w_5)), ((ma 31), .inl (E 0, 60, .inl w_6)), ((ma 34), .inl (E 1, 2, .inl mf34)), ((ma 35), .inl (E 0, 2, .inl mf35)), ((ma 36), .inl (E 0, 384, .inl mf36)), ((ma 37), .inl (E 0, 384, .inl mf37)), ((ma 45), .inl (E 0, 130, .inl u_36)), ((ma 46), .inl (E 0, 24, .inl (upd g_31 (8 : Int32).toNatClampNeg z_33)))]) [17, 0, 1, 2, 4, 5, 6, 7, 8, 9, 10, 11, 12, 13, 14, 15, 16, 3, 18, 19, 20, 21, 22] rfl
              have hD9 := hD.sub (ws' := [(mh, .inr (9, G9 ma mcode mtoday moffs mmany msumW msumA msumR msumWW msumWA msumAA msumWR msumAR mupper mlower w_7 mtaped mlaid mat mtk mtkAt mtkNumber mwaits mlisted mdealtMany)), ((ma 2), .inl (E 0, 400, .inl mf2)), ((ma 3), .inl (E 0, 16, .inl mf3)), ((ma 4), .inl (E 0, 16, .inl mf4)), ((ma 5), .inl (E 1, 6400, .inl mf5)), ((ma 6), .inl (E 0, 6400, .inl mf6)), ((ma 7), .inl (E 0, 6400, .inl mf7)), ((ma 8), .inl (E 1, 6400, .inl mf8)), ((ma 9), .inl (E 1, 6400, .inl mf9)), ((ma 12), .inl (E 0, 60, .inl mf12)), ((ma 13), .inl (E 0, 60, .inl mf13)), ((ma 14), .inl (E 0, 60, .inl mf14)), ((ma 15), .inl (E 0, 60, .inl mf15)), ((ma 16), .inl (E 0, 60, .inl mf16)), ((ma 29), .inl (E 0, 60, .inl w_4)), ((ma 30), .inl (E 0, 60, .inl w_5)), ((ma 31), .inl (E 0, 60, .inl w_6)), ((ma 34), .inl (E 1, 2, .inl mf34)), ((ma 35), .inl (E 0, 2, .inl mf35)), ((ma 36), .inl (E 0, 384, .inl mf36)), ((ma 37), .inl (E 0, 384, .inl mf37)), ((ma 45), .inl (E 0, 130, .inl u_36)), ((ma 46), .inl (E 0, 24, .inl (upd g_31 (8 : Int32).toNatClampNeg z_33)))]) [17, 0, 1, 2, 4, 5, 6, 7, 8, 9, 10, 11, 12, 13, 14, 15, 16, 3, 18, 19, 20, 21, 22] (by decide) rfl
              exact W.iret (v := r_34) hx hb hr (fun t ht hW => ⟨⟨r_34, (w_4, w_5, w_6, u_36, (upd g_31 (8 : Int32).toNatClampNeg z_33), w_7), rfl, ⟨hw_2_0, (by (try dsimp only); omega)⟩, by rw [ht]; exact hP9, hD9⟩, hS.F ht⟩) hS.2.2 dX9_trialOf_321
            ·
              have ic_32 : L7_43.toInt < L6_43.toInt := by first | exact (g_lt rfl rfl).mp c_32 | (have h := mt (g_le rfl rfl).mpr c_32; omega)
              clear c_32
              refine lv_iconst (v := 0) hx hb dX9_trialOf_306 (by decide) ?_
              refine lv_goto (tgt := 315) hx hb dX9_trialOf_307 (by decide) ?_
              refine va_iast hx hb hK.1 hP hD hS 8 0 rfl rfl (g_in t_8 (by decide) (by decide)) dX9_trialOf_315 (fun H locs hP hD hS => ?_)
              have hP : va_P D vwCl [((ma 2), .inl (E 0, 400, .inl mf2)), ((ma 3), .inl (E 0, 16, .inl mf3)), ((ma 4), .inl (E 0, 16, .inl mf4)), ((ma 34), .inl (E 1, 2, .inl mf34)), ((ma 35), .inl (E 0, 2, .inl mf35)), ((ma 36), .inl (E 0, 384, .inl mf36)), ((ma 37), .inl (E 0, 384, .inl mf37)), ((ma 45), .inl (E 0, 130, .inl mf45)), ((ma 46), .inl (E 0, 24, .inl (upd g_31 (8 : Int32).toNatClampNeg 0))), (mh, .inr (9, G9 ma mcode mtoday moffs mmany msumW msumA msumR msumWW msumWA msumAA msumWR msumAR mupper mlower w_7 mtaped mlaid mat mtk mtkAt mtkNumber mwaits mlisted mdealtMany)), ((ma 5), .inl (E 1, 6400, .inl mf5)), ((ma 6), .inl (E 0, 6400, .inl mf6)), ((ma 7), .inl (E 0, 6400, .inl mf7)), ((ma 8), .inl (E 1, 6400, .inl mf8)), ((ma 9), .inl (E 1, 6400, .inl mf9)), ((ma 12), .inl (E 0, 60, .inl mf12)), ((ma 13), .inl (E 0, 60, .inl mf13)), ((ma 14), .inl (E 0, 60, .inl mf14)), ((ma 15), .inl (E 0, 60, .inl mf15)), ((ma 16), .inl (E 0, 60, .inl mf16)), ((ma 29), .inl (E 0, 60, .inl w_4)), ((ma 30), .inl (E 0, 60, .inl w_5)), ((ma 31), .inl (E 0, 60, .inl w_6))] H := hP
              have hD := toW hP hD rfl
              refine lv_aload_n hx hb dX9_trialOf_316 rfl (lv_at hl 5 rfl) ?_
              refine lv_iconst (v := 0) hx hb dX9_trialOf_317 (by decide) ?_
              have hPc := hP.sub (ws' := [(mh, .inr (9, G9 ma mcode mtoday moffs mmany msumW msumA msumR msumWW msumWA msumAA msumWR msumAR mupper mlower w_7 mtaped mlaid mat mtk mtkAt mtkNumber mwaits mlisted mdealtMany)), ((ma 35), .inl (E 0, 2, .inl mf35)), ((ma 36), .inl (E 0, 384, .inl mf36)), ((ma 37), .inl (E 0, 384, .inl mf37)), ((ma 45), .inl (E 0, 130, .inl mf45)), ((ma 46), .inl (E 0, 24, .inl (upd g_31 (8 : Int32).toNatClampNeg 0)))]) [9, 4, 5, 6, 7, 8] rfl
              have hDc := hD.sub (ws' := [(mh, .inr (9, G9 ma mcode mtoday moffs mmany msumW msumA msumR msumWW msumWA msumAA msumWR msumAR mupper mlower w_7 mtaped mlaid mat mtk mtkAt mtkNumber mwaits mlisted mdealtMany)), ((ma 35), .inl (E 0, 2, .inl mf35)), ((ma 36), .inl (E 0, 384, .inl mf36)), ((ma 37), .inl (E 0, 384, .inl mf37)), ((ma 45), .inl (E 0, 130, .inl mf45)), ((ma 46), .inl (E 0, 24, .inl (upd g_31 (8 : Int32).toNatClampNeg 0)))]) [9, 4, 5, 6, 7, 8] (by decide) rfl
              refine aft_i (runMV (rest := []) (As := [.int 0]) hx hb hml hown htb hK (g_X9_says0 l D E mh ma mcode mtoday moffs mmany msumW msumA msumR msumWW msumWA msumAA msumWR msumAR mupper mlower w_7 mtaped mlaid mat mtk mtkAt mtkNumber mwaits mlisted mdealtMany mf35 mf36 mf37 mf45 (upd g_31 (8 : Int32).toNatClampNeg 0) _ (by (try dsimp only); omega) hr_m35 hjw) ok_X9_says k_1395 k_1397 ks_60 k_9 k_1398 ⟨(Nat.le_of_ble_eq_true rfl), (Nat.le_of_ble_eq_true rfl)⟩ ⟨(Nat.le_of_ble_eq_true rfl), (Nat.le_of_ble_eq_true rfl)⟩ hl.1 (Nat.le_of_ble_eq_true rfl) rfl rfl dX9_trialOf_318 hPc hDc rfl rfl 0 rfl) hP hD hS hA [9, 4, 5, 6, 7, 8] [0, 1, 2, 3, 10, 11, 12, 13, 14, 15, 16, 17, 18, 19, 20, 21, 22] (wr := [((ma 2), .inl (E 0, 400, .inl mf2)), ((ma 3), .inl (E 0, 16, .inl mf3)), ((ma 4), .inl (E 0, 16, .inl mf4)), ((ma 34), .inl (E 1, 2, .inl mf34)), ((ma 5), .inl (E 1, 6400, .inl mf5)), ((ma 6), .inl (E 0, 6400, .inl mf6)), ((ma 7), .inl (E 0, 6400, .inl mf7)), ((ma 8), .inl (E 1, 6400, .inl mf8)), ((ma 9), .inl (E 1, 6400, .inl mf9)), ((ma 12), .inl (E 0, 60, .inl mf12)), ((ma 13), .inl (E 0, 60, .inl mf13)), ((ma 14), .inl (E 0, 60, .inl mf14)), ((ma 15), .inl (E 0, 60, .inl mf15)), ((ma 16), .inl (E 0, 60, .inl mf16)), ((ma 29), .inl (E 0, 60, .inl w_4)), ((ma 30), .inl (E 0, 60, .inl w_5)), ((ma 31), .inl (E 0, 60, .inl w_6))]) rfl rfl (by decide) (by decide) (fun r_37 u_39 H locs hw_38 hP hD hS => ?_)
              clear hPc hDc
              have hP : va_P D vwCl [((ma 2), .inl (E 0, 400, .inl mf2)), ((ma 3), .inl (E 0, 16, .inl mf3)), ((ma 4), .inl (E 0, 16, .inl mf4)), ((ma 34), .inl (E 1, 2, .inl mf34)), ((ma 5), .inl (E 1, 6400, .inl mf5)), ((ma 6), .inl (E 0, 6400, .inl mf6)), ((ma 7), .inl (E 0, 6400, .inl mf7)), ((ma 8), .inl (E 1, 6400, .inl mf8)), ((ma 9), .inl (E 1, 6400, .inl mf9)), ((ma 12), .inl (E 0, 60, .inl mf12)), ((ma 13), .inl (E 0, 60, .inl mf13)), ((ma 14), .inl (E 0, 60, .inl mf14)), ((ma 15), .inl (E 0, 60, .inl mf15)), ((ma 16), .inl (E 0, 60, .inl mf16)), ((ma 29), .inl (E 0, 60, .inl w_4)), ((ma 30), .inl (E 0, 60, .inl w_5)), ((ma 31), .inl (E 0, 60, .inl w_6)), (mh, .inr (9, G9 ma mcode mtoday moffs mmany msumW msumA msumR msumWW msumWA msumAA msumWR msumAR mupper mlower w_7 mtaped mlaid mat mtk mtkAt mtkNumber mwaits mlisted mdealtMany)), ((ma 35), .inl (E 0, 2, .inl mf35)), ((ma 36), .inl (E 0, 384, .inl mf36)), ((ma 37), .inl (E 0, 384, .inl mf37)), ((ma 45), .inl (E 0, 130, .inl u_39)), ((ma 46), .inl (E 0, 24, .inl (upd g_31 (8 : Int32).toNatClampNeg 0)))] H := hP
              have hD := toW hP hD rfl
              have hP9 := hP.sub (ws' := [(mh, .inr (9, G9 ma mcode mtoday moffs mmany msumW msumA msumR msumWW msumWA msumAA msumWR msumAR mupper mlower w_7 mtaped mlaid mat mtk mtkAt mtkNumber mwaits mlisted mdealtMany)), ((ma 2), .inl (E 0, 400, .inl mf2)), ((ma 3), .inl (E 0, 16, .inl mf3)), ((ma 4), .inl (E 0, 16, .inl mf4)), ((ma 5), .inl (E 1, 6400, .inl mf5)), ((ma 6), .inl (E 0, 6400, .inl mf6)), ((ma 7), .inl (E 0, 6400, .inl mf7)), ((ma 8), .inl (E 1, 6400, .inl mf8)), ((ma 9), .inl (E 1, 6400, .inl mf9)), ((ma 12), .inl (E 0, 60, .inl mf12)), ((ma 13), .inl (E 0, 60, .inl mf13)), ((ma 14), .inl (E 0, 60, .inl mf14)), ((ma 15), .inl (E 0, 60, .inl mf15)), ((ma 16), .inl (E 0, 60, .inl mf16)), ((ma 29), .inl (E 0, 60, .inl w_4)), ((ma 30), .inl (E 0, 60, .inl w_5)), ((ma 31), .inl (E 0, 60, .inl w_6)), ((ma 34), .inl (E 1, 2, .inl mf34)), ((ma 35), .inl (E 0, 2, .inl mf35)), ((ma 36), .inl (E 0, 384, .inl mf36)), ((ma 37), .inl (E 0, 384, .inl mf37)), ((ma 45), .inl (E 0, 130, .inl u_39)), ((ma 46), .inl (E 0, 24, .inl (upd g_31 (8 : Int32).toNatClampNeg 0)))]) [17, 0, 1, 2, 4, 5, 6, 7, 8, 9, 10, 11, 12, 13, 14, 15, 16, 3, 18, 19, 20, 21, 22] rfl
              have hD9 := hD.sub (ws' := [(mh, .inr (9, G9 ma mcode mtoday moffs mmany msumW msumA msumR msumWW msumWA msumAA msumWR msumAR mupper mlower w_7 mtaped mlaid mat mtk mtkAt mtkNumber mwaits mlisted mdealtMany)), ((ma 2), .inl (E 0, 400, .inl mf2)), ((ma 3), .inl (E 0, 16, .inl mf3)), ((ma 4), .inl (E 0, 16, .inl mf4)), ((ma 5), .inl (E 1, 6400, .inl mf5)), ((ma 6), .inl (E 0, 6400, .inl mf6)), ((ma 7), .inl (E 0, 6400, .inl mf7)), ((ma 8), .inl (E 1, 6400, .inl mf8)), ((ma 9), .inl (E 1, 6400, .inl mf9)), ((ma 12), .inl (E 0, 60, .inl mf12)), ((ma 13), .inl (E 0, 60, .inl mf13)), ((ma 14), .inl (E 0, 60, .inl mf14)), ((ma 15), .inl (E 0, 60, .inl mf15)), ((ma 16), .inl (E 0, 60, .inl mf16)), ((ma 29), .inl (E 0, 60, .inl w_4)), ((ma 30), .inl (E 0, 60, .inl w_5)), ((ma 31), .inl (E 0, 60, .inl w_6)), ((ma 34), .inl (E 1, 2, .inl mf34)), ((ma 35), .inl (E 0, 2, .inl mf35)), ((ma 36), .inl (E 0, 384, .inl mf36)), ((ma 37), .inl (E 0, 384, .inl mf37)), ((ma 45), .inl (E 0, 130, .inl u_39)), ((ma 46), .inl (E 0, 24, .inl (upd g_31 (8 : Int32).toNatClampNeg 0)))]) [17, 0, 1, 2, 4, 5, 6, 7, 8, 9, 10, 11, 12, 13, 14, 15, 16, 3, 18, 19, 20, 21, 22] (by decide) rfl
              exact W.iret (v := r_37) hx hb hr (fun t ht hW => ⟨⟨r_37, (w_4, w_5, w_6, u_39, (upd g_31 (8 : Int32).toNatClampNeg 0), w_7), rfl, ⟨hw_2_0, (by (try dsimp only); omega)⟩, by rw [ht]; exact hP9, hD9⟩, hS.F ht⟩) hS.2.2 dX9_trialOf_321
          ·
            have ic_14 : L8_43.toInt < w_7.toInt := by first | exact (g_lt rfl rfl).mp c_14 | (have h := mt (g_le rfl rfl).mpr c_14; omega)
            clear c_14
            refine lv_iload hx hb dX9_trialOf_52 (lv_at hl 4 rfl) ?_
            refine lv_aload_n hx hb dX9_trialOf_54 rfl (lv_at hl 5 rfl) ?_
            refine va_get (D := D) (ci := 9) (v := .ref (ma 30)) (C := RX9) (T := TX9) (N := 68) hx hb htb iX9 hown hK.1 hP 9 rfl rfl 30 (by decide) (htb _ k_988) (fun _ h9 => h9) rfl dX9_trialOf_55 ?_
            refine lv_iload hx hb dX9_trialOf_58 (lv_at hl 0 rfl) ?_
            refine va_iald hx hb hK.1 hP 21 0 rfl rfl (g_in rfl (by omega) (by omega)) dX9_trialOf_60 ?_
            refine lv_topi (fun z_40 ez_40 => ?_)
            have kz_40 := congrArg Int32.toInt ez_40
            refine lv_iadd hx hb dX9_trialOf_61 ?_
            refine lv_topi (fun z_41 ez_41 => ?_)
            refine lv_istore (lv' := [(4, .int z_41), (8, .int L8_43), (7, .int L7_43), (6, .int L6_43), (5, .int L5_43), (0, .ref mh), (1, .int p0), (2, .int p1), (3, .int p2)]) hx hb dX9_trialOf_62 hl (by decide) rfl (fun ls hl => ?_)
            refine lv_iload hx hb dX9_trialOf_64 (lv_at hl 1 rfl) ?_
            refine lv_if_ne (tgt := 73) hx hb dX9_trialOf_66 (by decide) (fun c_42 => ?_) (fun c_42 => ?_)
            ·
              have ic_42 : L8_43.toInt ≠ 0 := mt (g_eq rfl t_0).mpr c_42
              clear c_42
              refine lv_aload_n hx hb dX9_trialOf_73 rfl (lv_at hl 5 rfl) ?_
              refine va_get (D := D) (ci := 9) (v := .ref (ma 30)) (C := RX9) (T := TX9) (N := 68) hx hb htb iX9 hown hK.1 hP 9 rfl rfl 30 (by decide) (htb _ k_988) (fun _ h9 => h9) rfl dX9_trialOf_74 ?_
              refine lv_iload hx hb dX9_trialOf_77 (lv_at hl 1 rfl) ?_
              refine va_iald hx hb hK.1 hP 21 0 rfl rfl (g_in rfl (by omega) (by omega)) dX9_trialOf_79 ?_
              refine lv_topi (fun z_43 ez_43 => ?_)
              have kz_43 := congrArg Int32.toInt ez_43
              refine lv_aload_n hx hb dX9_trialOf_80 rfl (lv_at hl 5 rfl) ?_
              refine va_get (D := D) (ci := 9) (v := .ref (ma 30)) (C := RX9) (T := TX9) (N := 68) hx hb htb iX9 hown hK.1 hP 9 rfl rfl 30 (by decide) (htb _ k_988) (fun _ h9 => h9) rfl dX9_trialOf_81 ?_
              refine lv_iload hx hb dX9_trialOf_84 (lv_at hl 1 rfl) ?_
              refine lv_iconst (v := 1) hx hb dX9_trialOf_86 (by decide) ?_
              refine lv_isub hx hb dX9_trialOf_87 ?_
              refine lv_topi (fun z_44 ez_44 => ?_)
              have jz_44 : z_44.toInt = L8_43.toInt - 1 := by rw [ez_44]; exact g_sub rfl t_1 (by omega) (by omega)
              refine va_iald hx hb hK.1 hP 21 0 rfl rfl (g_in rfl (by omega) (by omega)) dX9_trialOf_88 ?_
              refine lv_topi (fun z_45 ez_45 => ?_)
              have kz_45 := congrArg Int32.toInt ez_45
              refine lv_isub hx hb dX9_trialOf_89 ?_
              refine lv_topi (fun z_46 ez_46 => ?_)
              refine callRS (rest := []) (As := [.int z_46]) hx hb hml hown htb hK (g_X9_size l D E z_46 ) ok_X9_size k_1235 k_1236 k_9 k_1237 ⟨(Nat.le_of_ble_eq_true rfl), (Nat.le_of_ble_eq_true rfl)⟩ ⟨(Nat.le_of_ble_eq_true rfl), (Nat.le_of_ble_eq_true rfl)⟩ hl.1 (Nat.le_of_ble_eq_true rfl) rfl rfl dX9_trialOf_90 (hP.sub (ws' := ([] : va_W)) [] rfl) (fun r_47 hw_48 => ?_)
              refine lv_istore (lv' := [(9, .int r_47), (4, .int z_41), (8, .int L8_43), (7, .int L7_43), (6, .int L6_43), (5, .int L5_43), (0, .ref mh), (1, .int p0), (2, .int p1), (3, .int p2)]) hx hb dX9_trialOf_93 hl (by decide) rfl (fun ls hl => ?_)
              refine lv_iload hx hb dX9_trialOf_95 (lv_at hl 0 rfl) ?_
              refine lv_iload hx hb dX9_trialOf_97 (lv_at hl 5 rfl) ?_
              refine lv_icmp_le (tgt := 107) hx hb dX9_trialOf_99 (by decide) (fun c_50 => ?_) (fun c_50 => ?_)
              ·
                have ic_50 : r_47.toInt ≤ L5_43.toInt := by first | exact (g_le rfl rfl).mp c_50 | (have h := mt (g_lt rfl rfl).mpr c_50; omega)
                clear c_50
                refine lv_iload hx hb dX9_trialOf_107 (lv_at hl 5 rfl) ?_
                refine lv_istore (lv' := [(5, .int L5_43), (9, .int r_47), (4, .int z_41), (8, .int L8_43), (7, .int L7_43), (6, .int L6_43), (0, .ref mh), (1, .int p0), (2, .int p1), (3, .int p2)]) hx hb dX9_trialOf_109 hl (by decide) rfl (fun ls hl => ?_)
                refine lv_aload_n hx hb dX9_trialOf_111 rfl (lv_at hl 6 rfl) ?_
                refine lv_iload_n hx hb dX9_trialOf_112 rfl (lv_at hl 7 rfl) ?_
                refine lv_aload_n hx hb dX9_trialOf_113 rfl (lv_at hl 6 rfl) ?_
                refine va_get (D := D) (ci := 9) (v := .ref (ma 29)) (C := RX9) (T := TX9) (N := 68) hx hb htb iX9 hown hK.1 hP 9 rfl rfl 29 (by decide) (htb _ k_987) (fun _ h9 => h9) rfl dX9_trialOf_114 ?_
                refine lv_iload hx hb dX9_trialOf_117 (lv_at hl 3 rfl) ?_
                refine va_iald hx hb hK.1 hP 20 0 rfl rfl (g_in rfl (by omega) (by omega)) dX9_trialOf_119 ?_
                refine lv_topi (fun z_51 ez_51 => ?_)
                have kz_51 := congrArg Int32.toInt ez_51
                have jz_51 : 0 ≤ z_51.toInt ∧ z_51.toInt ≤ 399 := by rw [ez_51]; exact hw_2_0 _ (g_ix rfl (by omega) (by omega))
                refine callRV (rest := []) (As := [.int p0, .int z_51]) hx hb hml hown htb hK (g_X9_warmthOf l D E mh ma mcode mtoday moffs mmany msumW msumA msumR msumWW msumWA msumAA msumWR msumAR mupper mlower w_7 mtaped mlaid mat mtk mtkAt mtkNumber mwaits mlisted mdealtMany mf2 mf3 mf4 p0 z_51 (by (try dsimp only); omega) (by (try dsimp only); omega) (by (try dsimp only); omega)) ok_X9_warmthOf k_1277 k_1279 ks_47 k_9 k_1280 ⟨(Nat.le_of_ble_eq_true rfl), (Nat.le_of_ble_eq_true rfl)⟩ ⟨(Nat.le_of_ble_eq_true rfl), (Nat.le_of_ble_eq_true rfl)⟩ hl.1 (Nat.le_of_ble_eq_true rfl) rfl rfl dX9_trialOf_120 (hP.sub (ws' := [(mh, .inr (9, G9 ma mcode mtoday moffs mmany msumW msumA msumR msumWW msumWA msumAA msumWR msumAR mupper mlower w_7 mtaped mlaid mat mtk mtkAt mtkNumber mwaits mlisted mdealtMany)), ((ma 2), .inl (E 0, 400, .inl mf2)), ((ma 3), .inl (E 0, 16, .inl mf3)), ((ma 4), .inl (E 0, 16, .inl mf4))]) [9, 0, 1, 2] rfl) rfl rfl 0 rfl (fun r_52 hw_53 => ?_)
                refine lv_istore (lv' := [(10, .int r_52), (5, .int L5_43), (9, .int r_47), (4, .int z_41), (8, .int L8_43), (7, .int L7_43), (6, .int L6_43), (0, .ref mh), (1, .int p0), (2, .int p1), (3, .int p2)]) hx hb dX9_trialOf_123 hl (by decide) rfl (fun ls hl => ?_)
                refine lv_iload hx hb dX9_trialOf_125 (lv_at hl 0 rfl) ?_
                refine lv_sipush (v := (-1000)) hx hb dX9_trialOf_127 (by decide) ?_
                refine lv_icmp_ne (tgt := 136) hx hb dX9_trialOf_130 (by decide) (fun c_55 => ?_) (fun c_55 => ?_)
                ·
                  have ic_55 : r_52.toInt ≠ -1000 := mt (g_eq rfl t_m1000).mpr c_55
                  clear c_55
                  refine lv_iload hx hb dX9_trialOf_136 (lv_at hl 0 rfl) ?_
                  refine lv_iload hx hb dX9_trialOf_138 (lv_at hl 6 rfl) ?_
                  refine lv_icmp_ge (tgt := 148) hx hb dX9_trialOf_140 (by decide) (fun c_56 => ?_) (fun c_56 => ?_)
                  ·
                    have ic_56 : L6_43.toInt ≤ r_52.toInt := by first | exact (g_le rfl rfl).mp c_56 | (have h := mt (g_lt rfl rfl).mpr c_56; omega)
                    clear c_56
                    refine lv_iload hx hb dX9_trialOf_148 (lv_at hl 6 rfl) ?_
                    refine lv_istore (lv' := [(6, .int L6_43), (10, .int r_52), (5, .int L5_43), (9, .int r_47), (4, .int z_41), (8, .int L8_43), (7, .int L7_43), (0, .ref mh), (1, .int p0), (2, .int p1), (3, .int p2)]) hx hb dX9_trialOf_150 hl (by decide) rfl (fun ls hl => ?_)
                    refine lv_iload hx hb dX9_trialOf_152 (lv_at hl 1 rfl) ?_
                    refine lv_iload hx hb dX9_trialOf_154 (lv_at hl 6 rfl) ?_
                    refine lv_icmp_le (tgt := 164) hx hb dX9_trialOf_156 (by decide) (fun c_57 => ?_) (fun c_57 => ?_)
                    ·
                      have ic_57 : r_52.toInt ≤ L7_43.toInt := by first | exact (g_le rfl rfl).mp c_57 | (have h := mt (g_lt rfl rfl).mpr c_57; omega)
                      clear c_57
                      refine lv_iload hx hb dX9_trialOf_164 (lv_at hl 6 rfl) ?_
                      refine lv_istore (lv' := [(7, .int L7_43), (6, .int L6_43), (10, .int r_52), (5, .int L5_43), (9, .int r_47), (4, .int z_41), (8, .int L8_43), (0, .ref mh), (1, .int p0), (2, .int p1), (3, .int p2)]) hx hb dX9_trialOf_166 hl (by decide) rfl (fun ls hl => ?_)
                      obtain ⟨z_58, ez_58⟩ : ∃ y : Int32, y = L8_43 + 1 := ⟨_, rfl⟩
                      have jz_58 : z_58.toInt = L8_43.toInt + 1 := by rw [ez_58]; exact g_add rfl t_1 (by omega) (by omega)
                      refine lv_iinc (v := z_58) (lv' := [(8, .int z_58), (7, .int L7_43), (6, .int L6_43), (10, .int r_52), (5, .int L5_43), (9, .int r_47), (4, .int z_41), (0, .ref mh), (1, .int p0), (2, .int p1), (3, .int p2)]) hx hb dX9_trialOf_168 hl (k := 6) rfl (by rw [ez_58]; rfl) (by decide) rfl (fun ls hl => ?_)
                      refine lv_goto (tgt := 43) hx hb dX9_trialOf_171 (by decide) ?_
                      exact ih_12 z_58 L7_43 z_41 L6_43 L5_43 _ _ _ (by (try dsimp only); omega) (by (try dsimp only); omega) hP hD hS (lv_sub hl [0, 1, 2, 4, 6, 7, 8, 9, 10] rfl)
                    ·
                      have ic_57 : L7_43.toInt < r_52.toInt := by first | exact (g_lt rfl rfl).mp c_57 | (have h := mt (g_le rfl rfl).mpr c_57; omega)
                      clear c_57
                      refine lv_iload hx hb dX9_trialOf_159 (lv_at hl 1 rfl) ?_
                      refine lv_goto (tgt := 166) hx hb dX9_trialOf_161 (by decide) ?_
                      refine lv_istore (lv' := [(7, .int r_52), (6, .int L6_43), (10, .int r_52), (5, .int L5_43), (9, .int r_47), (4, .int z_41), (8, .int L8_43), (0, .ref mh), (1, .int p0), (2, .int p1), (3, .int p2)]) hx hb dX9_trialOf_166 hl (by decide) rfl (fun ls hl => ?_)
                      obtain ⟨z_59, ez_59⟩ : ∃ y : Int32, y = L8_43 + 1 := ⟨_, rfl⟩
                      have jz_59 : z_59.toInt = L8_43.toInt + 1 := by rw [ez_59]; exact g_add rfl t_1 (by omega) (by omega)
                      refine lv_iinc (v := z_59) (lv' := [(8, .int z_59), (7, .int r_52), (6, .int L6_43), (10, .int r_52), (5, .int L5_43), (9, .int r_47), (4, .int z_41), (0, .ref mh), (1, .int p0), (2, .int p1), (3, .int p2)]) hx hb dX9_trialOf_168 hl (k := 6) rfl (by rw [ez_59]; rfl) (by decide) rfl (fun ls hl => ?_)
                      refine lv_goto (tgt := 43) hx hb dX9_trialOf_171 (by decide) ?_
                      exact ih_12 z_59 r_52 z_41 L6_43 L5_43 _ _ _ (by (try dsimp only); omega) (by (try dsimp only); omega) hP hD hS (lv_sub hl [0, 1, 2, 4, 6, 7, 8, 9, 10] rfl)
                  ·
                    have ic_56 : r_52.toInt < L6_43.toInt := by first | exact (g_lt rfl rfl).mp c_56 | (have h := mt (g_le rfl rfl).mpr c_56; omega)
                    clear c_56
                    refine lv_iload hx hb dX9_trialOf_143 (lv_at hl 0 rfl) ?_
                    refine lv_goto (tgt := 150) hx hb dX9_trialOf_145 (by decide) ?_
                    refine lv_istore (lv' := [(6, .int r_52), (10, .int r_52), (5, .int L5_43), (9, .int r_47), (4, .int z_41), (8, .int L8_43), (7, .int L7_43), (0, .ref mh), (1, .int p0), (2, .int p1), (3, .int p2)]) hx hb dX9_trialOf_150 hl (by decide) rfl (fun ls hl => ?_)
                    refine lv_iload hx hb dX9_trialOf_152 (lv_at hl 1 rfl) ?_
                    refine lv_iload hx hb dX9_trialOf_154 (lv_at hl 6 rfl) ?_
                    refine lv_icmp_le (tgt := 164) hx hb dX9_trialOf_156 (by decide) (fun c_60 => ?_) (fun c_60 => ?_)
                    ·
                      have ic_60 : r_52.toInt ≤ L7_43.toInt := by first | exact (g_le rfl rfl).mp c_60 | (have h := mt (g_lt rfl rfl).mpr c_60; omega)
                      clear c_60
                      refine lv_iload hx hb dX9_trialOf_164 (lv_at hl 6 rfl) ?_
                      refine lv_istore (lv' := [(7, .int L7_43), (6, .int r_52), (10, .int r_52), (5, .int L5_43), (9, .int r_47), (4, .int z_41), (8, .int L8_43), (0, .ref mh), (1, .int p0), (2, .int p1), (3, .int p2)]) hx hb dX9_trialOf_166 hl (by decide) rfl (fun ls hl => ?_)
                      obtain ⟨z_61, ez_61⟩ : ∃ y : Int32, y = L8_43 + 1 := ⟨_, rfl⟩
                      have jz_61 : z_61.toInt = L8_43.toInt + 1 := by rw [ez_61]; exact g_add rfl t_1 (by omega) (by omega)
                      refine lv_iinc (v := z_61) (lv' := [(8, .int z_61), (7, .int L7_43), (6, .int r_52), (10, .int r_52), (5, .int L5_43), (9, .int r_47), (4, .int z_41), (0, .ref mh), (1, .int p0), (2, .int p1), (3, .int p2)]) hx hb dX9_trialOf_168 hl (k := 6) rfl (by rw [ez_61]; rfl) (by decide) rfl (fun ls hl => ?_)
                      refine lv_goto (tgt := 43) hx hb dX9_trialOf_171 (by decide) ?_
                      exact ih_12 z_61 L7_43 z_41 r_52 L5_43 _ _ _ (by (try dsimp only); omega) (by (try dsimp only); omega) hP hD hS (lv_sub hl [0, 1, 2, 4, 6, 7, 8, 9, 10] rfl)
                    ·
                      have ic_60 : L7_43.toInt < r_52.toInt := by first | exact (g_lt rfl rfl).mp c_60 | (have h := mt (g_le rfl rfl).mpr c_60; omega)
                      clear c_60
                      refine lv_iload hx hb dX9_trialOf_159 (lv_at hl 1 rfl) ?_
                      refine lv_goto (tgt := 166) hx hb dX9_trialOf_161 (by decide) ?_
                      refine lv_istore (lv' := [(7, .int r_52), (6, .int r_52), (10, .int r_52), (5, .int L5_43), (9, .int r_47), (4, .int z_41), (8, .int L8_43), (0, .ref mh), (1, .int p0), (2, .int p1), (3, .int p2)]) hx hb dX9_trialOf_166 hl (by decide) rfl (fun ls hl => ?_)
                      obtain ⟨z_62, ez_62⟩ : ∃ y : Int32, y = L8_43 + 1 := ⟨_, rfl⟩
                      have jz_62 : z_62.toInt = L8_43.toInt + 1 := by rw [ez_62]; exact g_add rfl t_1 (by omega) (by omega)
                      refine lv_iinc (v := z_62) (lv' := [(8, .int z_62), (7, .int r_52), (6, .int r_52), (10, .int r_52), (5, .int L5_43), (9, .int r_47), (4, .int z_41), (0, .ref mh), (1, .int p0), (2, .int p1), (3, .int p2)]) hx hb dX9_trialOf_168 hl (k := 6) rfl (by rw [ez_62]; rfl) (by decide) rfl (fun ls hl => ?_)
                      refine lv_goto (tgt := 43) hx hb dX9_trialOf_171 (by decide) ?_
                      exact ih_12 z_62 r_52 z_41 r_52 L5_43 _ _ _ (by (try dsimp only); omega) (by (try dsimp only); omega) hP hD hS (lv_sub hl [0, 1, 2, 4, 6, 7, 8, 9, 10] rfl)
                ·
                  have ic_55 : r_52.toInt = -1000 := (g_eq rfl t_m1000).mp c_55
                  clear c_55
                  refine lv_goto (tgt := 168) hx hb dX9_trialOf_133 (by decide) ?_
                  obtain ⟨z_63, ez_63⟩ : ∃ y : Int32, y = L8_43 + 1 := ⟨_, rfl⟩
                  have jz_63 : z_63.toInt = L8_43.toInt + 1 := by rw [ez_63]; exact g_add rfl t_1 (by omega) (by omega)
                  refine lv_iinc (v := z_63) (lv' := [(8, .int z_63), (10, .int r_52), (5, .int L5_43), (9, .int r_47), (4, .int z_41), (7, .int L7_43), (6, .int L6_43), (0, .ref mh), (1, .int p0), (2, .int p1), (3, .int p2)]) hx hb dX9_trialOf_168 hl (k := 4) rfl (by rw [ez_63]; rfl) (by decide) rfl (fun ls hl => ?_)
                  refine lv_goto (tgt := 43) hx hb dX9_trialOf_171 (by decide) ?_
                  exact ih_12 z_63 L7_43 z_41 L6_43 L5_43 _ _ _ (by (try dsimp only); omega) (by (try dsimp only); omega) hP hD hS (lv_sub hl [0, 5, 6, 2, 4, 7, 8, 9, 10] rfl)
              ·
                have ic_50 : L5_43.toInt < r_47.toInt := by first | exact (g_lt rfl rfl).mp c_50 | (have h := mt (g_le rfl rfl).mpr c_50; omega)
                clear c_50
                refine lv_iload hx hb dX9_trialOf_102 (lv_at hl 0 rfl) ?_
                refine lv_goto (tgt := 109) hx hb dX9_trialOf_104 (by decide) ?_
                refine lv_istore (lv' := [(5, .int r_47), (9, .int r_47), (4, .int z_41), (8, .int L8_43), (7, .int L7_43), (6, .int L6_43), (0, .ref mh), (1, .int p0), (2, .int p1), (3, .int p2)]) hx hb dX9_trialOf_109 hl (by decide) rfl (fun ls hl => ?_)
                refine lv_aload_n hx hb dX9_trialOf_111 rfl (lv_at hl 6 rfl) ?_
                refine lv_iload_n hx hb dX9_trialOf_112 rfl (lv_at hl 7 rfl) ?_
                refine lv_aload_n hx hb dX9_trialOf_113 rfl (lv_at hl 6 rfl) ?_
                refine va_get (D := D) (ci := 9) (v := .ref (ma 29)) (C := RX9) (T := TX9) (N := 68) hx hb htb iX9 hown hK.1 hP 9 rfl rfl 29 (by decide) (htb _ k_987) (fun _ h9 => h9) rfl dX9_trialOf_114 ?_
                refine lv_iload hx hb dX9_trialOf_117 (lv_at hl 3 rfl) ?_
                refine va_iald hx hb hK.1 hP 20 0 rfl rfl (g_in rfl (by omega) (by omega)) dX9_trialOf_119 ?_
                refine lv_topi (fun z_64 ez_64 => ?_)
                have kz_64 := congrArg Int32.toInt ez_64
                have jz_64 : 0 ≤ z_64.toInt ∧ z_64.toInt ≤ 399 := by rw [ez_64]; exact hw_2_0 _ (g_ix rfl (by omega) (by omega))
                refine callRV (rest := []) (As := [.int p0, .int z_64]) hx hb hml hown htb hK (g_X9_warmthOf l D E mh ma mcode mtoday moffs mmany msumW msumA msumR msumWW msumWA msumAA msumWR msumAR mupper mlower w_7 mtaped mlaid mat mtk mtkAt mtkNumber mwaits mlisted mdealtMany mf2 mf3 mf4 p0 z_64 (by (try dsimp only); omega) (by (try dsimp only); omega) (by (try dsimp only); omega)) ok_X9_warmthOf k_1277 k_1279 ks_47 k_9 k_1280 ⟨(Nat.le_of_ble_eq_true rfl), (Nat.le_of_ble_eq_true rfl)⟩ ⟨(Nat.le_of_ble_eq_true rfl), (Nat.le_of_ble_eq_true rfl)⟩ hl.1 (Nat.le_of_ble_eq_true rfl) rfl rfl dX9_trialOf_120 (hP.sub (ws' := [(mh, .inr (9, G9 ma mcode mtoday moffs mmany msumW msumA msumR msumWW msumWA msumAA msumWR msumAR mupper mlower w_7 mtaped mlaid mat mtk mtkAt mtkNumber mwaits mlisted mdealtMany)), ((ma 2), .inl (E 0, 400, .inl mf2)), ((ma 3), .inl (E 0, 16, .inl mf3)), ((ma 4), .inl (E 0, 16, .inl mf4))]) [9, 0, 1, 2] rfl) rfl rfl 0 rfl (fun r_65 hw_66 => ?_)
                refine lv_istore (lv' := [(10, .int r_65), (5, .int r_47), (9, .int r_47), (4, .int z_41), (8, .int L8_43), (7, .int L7_43), (6, .int L6_43), (0, .ref mh), (1, .int p0), (2, .int p1), (3, .int p2)]) hx hb dX9_trialOf_123 hl (by decide) rfl (fun ls hl => ?_)
                refine lv_iload hx hb dX9_trialOf_125 (lv_at hl 0 rfl) ?_
                refine lv_sipush (v := (-1000)) hx hb dX9_trialOf_127 (by decide) ?_
                refine lv_icmp_ne (tgt := 136) hx hb dX9_trialOf_130 (by decide) (fun c_68 => ?_) (fun c_68 => ?_)
                ·
                  have ic_68 : r_65.toInt ≠ -1000 := mt (g_eq rfl t_m1000).mpr c_68
                  clear c_68
                  refine lv_iload hx hb dX9_trialOf_136 (lv_at hl 0 rfl) ?_
                  refine lv_iload hx hb dX9_trialOf_138 (lv_at hl 6 rfl) ?_
                  refine lv_icmp_ge (tgt := 148) hx hb dX9_trialOf_140 (by decide) (fun c_69 => ?_) (fun c_69 => ?_)
                  ·
                    have ic_69 : L6_43.toInt ≤ r_65.toInt := by first | exact (g_le rfl rfl).mp c_69 | (have h := mt (g_lt rfl rfl).mpr c_69; omega)
                    clear c_69
                    refine lv_iload hx hb dX9_trialOf_148 (lv_at hl 6 rfl) ?_
                    refine lv_istore (lv' := [(6, .int L6_43), (10, .int r_65), (5, .int r_47), (9, .int r_47), (4, .int z_41), (8, .int L8_43), (7, .int L7_43), (0, .ref mh), (1, .int p0), (2, .int p1), (3, .int p2)]) hx hb dX9_trialOf_150 hl (by decide) rfl (fun ls hl => ?_)
                    refine lv_iload hx hb dX9_trialOf_152 (lv_at hl 1 rfl) ?_
                    refine lv_iload hx hb dX9_trialOf_154 (lv_at hl 6 rfl) ?_
                    refine lv_icmp_le (tgt := 164) hx hb dX9_trialOf_156 (by decide) (fun c_70 => ?_) (fun c_70 => ?_)
                    ·
                      have ic_70 : r_65.toInt ≤ L7_43.toInt := by first | exact (g_le rfl rfl).mp c_70 | (have h := mt (g_lt rfl rfl).mpr c_70; omega)
                      clear c_70
                      refine lv_iload hx hb dX9_trialOf_164 (lv_at hl 6 rfl) ?_
                      refine lv_istore (lv' := [(7, .int L7_43), (6, .int L6_43), (10, .int r_65), (5, .int r_47), (9, .int r_47), (4, .int z_41), (8, .int L8_43), (0, .ref mh), (1, .int p0), (2, .int p1), (3, .int p2)]) hx hb dX9_trialOf_166 hl (by decide) rfl (fun ls hl => ?_)
                      obtain ⟨z_71, ez_71⟩ : ∃ y : Int32, y = L8_43 + 1 := ⟨_, rfl⟩
                      have jz_71 : z_71.toInt = L8_43.toInt + 1 := by rw [ez_71]; exact g_add rfl t_1 (by omega) (by omega)
                      refine lv_iinc (v := z_71) (lv' := [(8, .int z_71), (7, .int L7_43), (6, .int L6_43), (10, .int r_65), (5, .int r_47), (9, .int r_47), (4, .int z_41), (0, .ref mh), (1, .int p0), (2, .int p1), (3, .int p2)]) hx hb dX9_trialOf_168 hl (k := 6) rfl (by rw [ez_71]; rfl) (by decide) rfl (fun ls hl => ?_)
                      refine lv_goto (tgt := 43) hx hb dX9_trialOf_171 (by decide) ?_
                      exact ih_12 z_71 L7_43 z_41 L6_43 r_47 _ _ _ (by (try dsimp only); omega) (by (try dsimp only); omega) hP hD hS (lv_sub hl [0, 1, 2, 4, 6, 7, 8, 9, 10] rfl)
                    ·
                      have ic_70 : L7_43.toInt < r_65.toInt := by first | exact (g_lt rfl rfl).mp c_70 | (have h := mt (g_le rfl rfl).mpr c_70; omega)
                      clear c_70
                      refine lv_iload hx hb dX9_trialOf_159 (lv_at hl 1 rfl) ?_
                      refine lv_goto (tgt := 166) hx hb dX9_trialOf_161 (by decide) ?_
                      refine lv_istore (lv' := [(7, .int r_65), (6, .int L6_43), (10, .int r_65), (5, .int r_47), (9, .int r_47), (4, .int z_41), (8, .int L8_43), (0, .ref mh), (1, .int p0), (2, .int p1), (3, .int p2)]) hx hb dX9_trialOf_166 hl (by decide) rfl (fun ls hl => ?_)
                      obtain ⟨z_72, ez_72⟩ : ∃ y : Int32, y = L8_43 + 1 := ⟨_, rfl⟩
                      have jz_72 : z_72.toInt = L8_43.toInt + 1 := by rw [ez_72]; exact g_add rfl t_1 (by omega) (by omega)
                      refine lv_iinc (v := z_72) (lv' := [(8, .int z_72), (7, .int r_65), (6, .int L6_43), (10, .int r_65), (5, .int r_47), (9, .int r_47), (4, .int z_41), (0, .ref mh), (1, .int p0), (2, .int p1), (3, .int p2)]) hx hb dX9_trialOf_168 hl (k := 6) rfl (by rw [ez_72]; rfl) (by decide) rfl (fun ls hl => ?_)
                      refine lv_goto (tgt := 43) hx hb dX9_trialOf_171 (by decide) ?_
                      exact ih_12 z_72 r_65 z_41 L6_43 r_47 _ _ _ (by (try dsimp only); omega) (by (try dsimp only); omega) hP hD hS (lv_sub hl [0, 1, 2, 4, 6, 7, 8, 9, 10] rfl)
                  ·
                    have ic_69 : r_65.toInt < L6_43.toInt := by first | exact (g_lt rfl rfl).mp c_69 | (have h := mt (g_le rfl rfl).mpr c_69; omega)
                    clear c_69
                    refine lv_iload hx hb dX9_trialOf_143 (lv_at hl 0 rfl) ?_
                    refine lv_goto (tgt := 150) hx hb dX9_trialOf_145 (by decide) ?_
                    refine lv_istore (lv' := [(6, .int r_65), (10, .int r_65), (5, .int r_47), (9, .int r_47), (4, .int z_41), (8, .int L8_43), (7, .int L7_43), (0, .ref mh), (1, .int p0), (2, .int p1), (3, .int p2)]) hx hb dX9_trialOf_150 hl (by decide) rfl (fun ls hl => ?_)
                    refine lv_iload hx hb dX9_trialOf_152 (lv_at hl 1 rfl) ?_
                    refine lv_iload hx hb dX9_trialOf_154 (lv_at hl 6 rfl) ?_
                    refine lv_icmp_le (tgt := 164) hx hb dX9_trialOf_156 (by decide) (fun c_73 => ?_) (fun c_73 => ?_)
                    ·
                      have ic_73 : r_65.toInt ≤ L7_43.toInt := by first | exact (g_le rfl rfl).mp c_73 | (have h := mt (g_lt rfl rfl).mpr c_73; omega)
                      clear c_73
                      refine lv_iload hx hb dX9_trialOf_164 (lv_at hl 6 rfl) ?_
                      refine lv_istore (lv' := [(7, .int L7_43), (6, .int r_65), (10, .int r_65), (5, .int r_47), (9, .int r_47), (4, .int z_41), (8, .int L8_43), (0, .ref mh), (1, .int p0), (2, .int p1), (3, .int p2)]) hx hb dX9_trialOf_166 hl (by decide) rfl (fun ls hl => ?_)
                      obtain ⟨z_74, ez_74⟩ : ∃ y : Int32, y = L8_43 + 1 := ⟨_, rfl⟩
                      have jz_74 : z_74.toInt = L8_43.toInt + 1 := by rw [ez_74]; exact g_add rfl t_1 (by omega) (by omega)
                      refine lv_iinc (v := z_74) (lv' := [(8, .int z_74), (7, .int L7_43), (6, .int r_65), (10, .int r_65), (5, .int r_47), (9, .int r_47), (4, .int z_41), (0, .ref mh), (1, .int p0), (2, .int p1), (3, .int p2)]) hx hb dX9_trialOf_168 hl (k := 6) rfl (by rw [ez_74]; rfl) (by decide) rfl (fun ls hl => ?_)
                      refine lv_goto (tgt := 43) hx hb dX9_trialOf_171 (by decide) ?_
                      exact ih_12 z_74 L7_43 z_41 r_65 r_47 _ _ _ (by (try dsimp only); omega) (by (try dsimp only); omega) hP hD hS (lv_sub hl [0, 1, 2, 4, 6, 7, 8, 9, 10] rfl)
                    ·
                      have ic_73 : L7_43.toInt < r_65.toInt := by first | exact (g_lt rfl rfl).mp c_73 | (have h := mt (g_le rfl rfl).mpr c_73; omega)
                      clear c_73
                      refine lv_iload hx hb dX9_trialOf_159 (lv_at hl 1 rfl) ?_
                      refine lv_goto (tgt := 166) hx hb dX9_trialOf_161 (by decide) ?_
                      refine lv_istore (lv' := [(7, .int r_65), (6, .int r_65), (10, .int r_65), (5, .int r_47), (9, .int r_47), (4, .int z_41), (8, .int L8_43), (0, .ref mh), (1, .int p0), (2, .int p1), (3, .int p2)]) hx hb dX9_trialOf_166 hl (by decide) rfl (fun ls hl => ?_)
                      obtain ⟨z_75, ez_75⟩ : ∃ y : Int32, y = L8_43 + 1 := ⟨_, rfl⟩
                      have jz_75 : z_75.toInt = L8_43.toInt + 1 := by rw [ez_75]; exact g_add rfl t_1 (by omega) (by omega)
                      refine lv_iinc (v := z_75) (lv' := [(8, .int z_75), (7, .int r_65), (6, .int r_65), (10, .int r_65), (5, .int r_47), (9, .int r_47), (4, .int z_41), (0, .ref mh), (1, .int p0), (2, .int p1), (3, .int p2)]) hx hb dX9_trialOf_168 hl (k := 6) rfl (by rw [ez_75]; rfl) (by decide) rfl (fun ls hl => ?_)
                      refine lv_goto (tgt := 43) hx hb dX9_trialOf_171 (by decide) ?_
                      exact ih_12 z_75 r_65 z_41 r_65 r_47 _ _ _ (by (try dsimp only); omega) (by (try dsimp only); omega) hP hD hS (lv_sub hl [0, 1, 2, 4, 6, 7, 8, 9, 10] rfl)
                ·
                  have ic_68 : r_65.toInt = -1000 := (g_eq rfl t_m1000).mp c_68
                  clear c_68
                  refine lv_goto (tgt := 168) hx hb dX9_trialOf_133 (by decide) ?_
                  obtain ⟨z_76, ez_76⟩ : ∃ y : Int32, y = L8_43 + 1 := ⟨_, rfl⟩
                  have jz_76 : z_76.toInt = L8_43.toInt + 1 := by rw [ez_76]; exact g_add rfl t_1 (by omega) (by omega)
                  refine lv_iinc (v := z_76) (lv' := [(8, .int z_76), (10, .int r_65), (5, .int r_47), (9, .int r_47), (4, .int z_41), (7, .int L7_43), (6, .int L6_43), (0, .ref mh), (1, .int p0), (2, .int p1), (3, .int p2)]) hx hb dX9_trialOf_168 hl (k := 4) rfl (by rw [ez_76]; rfl) (by decide) rfl (fun ls hl => ?_)
                  refine lv_goto (tgt := 43) hx hb dX9_trialOf_171 (by decide) ?_
                  exact ih_12 z_76 L7_43 z_41 L6_43 r_47 _ _ _ (by (try dsimp only); omega) (by (try dsimp only); omega) hP hD hS (lv_sub hl [0, 5, 6, 2, 4, 7, 8, 9, 10] rfl)
            ·
              have ic_42 : L8_43.toInt = 0 := (g_eq rfl t_0).mp c_42
              clear c_42
              refine lv_iconst (v := 0) hx hb dX9_trialOf_69 (by decide) ?_
              refine lv_goto (tgt := 93) hx hb dX9_trialOf_70 (by decide) ?_
              refine lv_istore (lv' := [(9, .int 0), (4, .int z_41), (8, .int L8_43), (7, .int L7_43), (6, .int L6_43), (5, .int L5_43), (0, .ref mh), (1, .int p0), (2, .int p1), (3, .int p2)]) hx hb dX9_trialOf_93 hl (by decide) rfl (fun ls hl => ?_)
              refine lv_iload hx hb dX9_trialOf_95 (lv_at hl 0 rfl) ?_
              refine lv_iload hx hb dX9_trialOf_97 (lv_at hl 5 rfl) ?_
              refine lv_icmp_le (tgt := 107) hx hb dX9_trialOf_99 (by decide) (fun c_77 => ?_) (fun c_77 => ?_)
              ·
                have ic_77 : 0 ≤ L5_43.toInt := by first | exact (g_le t_0 rfl).mp c_77 | (have h := mt (g_lt rfl t_0).mpr c_77; omega)
                clear c_77
                refine lv_iload hx hb dX9_trialOf_107 (lv_at hl 5 rfl) ?_
                refine lv_istore (lv' := [(5, .int L5_43), (9, .int 0), (4, .int z_41), (8, .int L8_43), (7, .int L7_43), (6, .int L6_43), (0, .ref mh), (1, .int p0), (2, .int p1), (3, .int p2)]) hx hb dX9_trialOf_109 hl (by decide) rfl (fun ls hl => ?_)
                refine lv_aload_n hx hb dX9_trialOf_111 rfl (lv_at hl 6 rfl) ?_
                refine lv_iload_n hx hb dX9_trialOf_112 rfl (lv_at hl 7 rfl) ?_
                refine lv_aload_n hx hb dX9_trialOf_113 rfl (lv_at hl 6 rfl) ?_
                refine va_get (D := D) (ci := 9) (v := .ref (ma 29)) (C := RX9) (T := TX9) (N := 68) hx hb htb iX9 hown hK.1 hP 9 rfl rfl 29 (by decide) (htb _ k_987) (fun _ h9 => h9) rfl dX9_trialOf_114 ?_
                refine lv_iload hx hb dX9_trialOf_117 (lv_at hl 3 rfl) ?_
                refine va_iald hx hb hK.1 hP 20 0 rfl rfl (g_in rfl (by omega) (by omega)) dX9_trialOf_119 ?_
                refine lv_topi (fun z_78 ez_78 => ?_)
                have kz_78 := congrArg Int32.toInt ez_78
                have jz_78 : 0 ≤ z_78.toInt ∧ z_78.toInt ≤ 399 := by rw [ez_78]; exact hw_2_0 _ (g_ix rfl (by omega) (by omega))
                refine callRV (rest := []) (As := [.int p0, .int z_78]) hx hb hml hown htb hK (g_X9_warmthOf l D E mh ma mcode mtoday moffs mmany msumW msumA msumR msumWW msumWA msumAA msumWR msumAR mupper mlower w_7 mtaped mlaid mat mtk mtkAt mtkNumber mwaits mlisted mdealtMany mf2 mf3 mf4 p0 z_78 (by (try dsimp only); omega) (by (try dsimp only); omega) (by (try dsimp only); omega)) ok_X9_warmthOf k_1277 k_1279 ks_47 k_9 k_1280 ⟨(Nat.le_of_ble_eq_true rfl), (Nat.le_of_ble_eq_true rfl)⟩ ⟨(Nat.le_of_ble_eq_true rfl), (Nat.le_of_ble_eq_true rfl)⟩ hl.1 (Nat.le_of_ble_eq_true rfl) rfl rfl dX9_trialOf_120 (hP.sub (ws' := [(mh, .inr (9, G9 ma mcode mtoday moffs mmany msumW msumA msumR msumWW msumWA msumAA msumWR msumAR mupper mlower w_7 mtaped mlaid mat mtk mtkAt mtkNumber mwaits mlisted mdealtMany)), ((ma 2), .inl (E 0, 400, .inl mf2)), ((ma 3), .inl (E 0, 16, .inl mf3)), ((ma 4), .inl (E 0, 16, .inl mf4))]) [9, 0, 1, 2] rfl) rfl rfl 0 rfl (fun r_79 hw_80 => ?_)
                refine lv_istore (lv' := [(10, .int r_79), (5, .int L5_43), (9, .int 0), (4, .int z_41), (8, .int L8_43), (7, .int L7_43), (6, .int L6_43), (0, .ref mh), (1, .int p0), (2, .int p1), (3, .int p2)]) hx hb dX9_trialOf_123 hl (by decide) rfl (fun ls hl => ?_)
                refine lv_iload hx hb dX9_trialOf_125 (lv_at hl 0 rfl) ?_
                refine lv_sipush (v := (-1000)) hx hb dX9_trialOf_127 (by decide) ?_
                refine lv_icmp_ne (tgt := 136) hx hb dX9_trialOf_130 (by decide) (fun c_82 => ?_) (fun c_82 => ?_)
                ·
                  have ic_82 : r_79.toInt ≠ -1000 := mt (g_eq rfl t_m1000).mpr c_82
                  clear c_82
                  refine lv_iload hx hb dX9_trialOf_136 (lv_at hl 0 rfl) ?_
                  refine lv_iload hx hb dX9_trialOf_138 (lv_at hl 6 rfl) ?_
                  refine lv_icmp_ge (tgt := 148) hx hb dX9_trialOf_140 (by decide) (fun c_83 => ?_) (fun c_83 => ?_)
                  ·
                    have ic_83 : L6_43.toInt ≤ r_79.toInt := by first | exact (g_le rfl rfl).mp c_83 | (have h := mt (g_lt rfl rfl).mpr c_83; omega)
                    clear c_83
                    refine lv_iload hx hb dX9_trialOf_148 (lv_at hl 6 rfl) ?_
                    refine lv_istore (lv' := [(6, .int L6_43), (10, .int r_79), (5, .int L5_43), (9, .int 0), (4, .int z_41), (8, .int L8_43), (7, .int L7_43), (0, .ref mh), (1, .int p0), (2, .int p1), (3, .int p2)]) hx hb dX9_trialOf_150 hl (by decide) rfl (fun ls hl => ?_)
                    refine lv_iload hx hb dX9_trialOf_152 (lv_at hl 1 rfl) ?_
                    refine lv_iload hx hb dX9_trialOf_154 (lv_at hl 6 rfl) ?_
                    refine lv_icmp_le (tgt := 164) hx hb dX9_trialOf_156 (by decide) (fun c_84 => ?_) (fun c_84 => ?_)
                    ·
                      have ic_84 : r_79.toInt ≤ L7_43.toInt := by first | exact (g_le rfl rfl).mp c_84 | (have h := mt (g_lt rfl rfl).mpr c_84; omega)
                      clear c_84
                      refine lv_iload hx hb dX9_trialOf_164 (lv_at hl 6 rfl) ?_
                      refine lv_istore (lv' := [(7, .int L7_43), (6, .int L6_43), (10, .int r_79), (5, .int L5_43), (9, .int 0), (4, .int z_41), (8, .int L8_43), (0, .ref mh), (1, .int p0), (2, .int p1), (3, .int p2)]) hx hb dX9_trialOf_166 hl (by decide) rfl (fun ls hl => ?_)
                      obtain ⟨z_85, ez_85⟩ : ∃ y : Int32, y = L8_43 + 1 := ⟨_, rfl⟩
                      have jz_85 : z_85.toInt = L8_43.toInt + 1 := by rw [ez_85]; exact g_add rfl t_1 (by omega) (by omega)
                      refine lv_iinc (v := z_85) (lv' := [(8, .int z_85), (7, .int L7_43), (6, .int L6_43), (10, .int r_79), (5, .int L5_43), (9, .int 0), (4, .int z_41), (0, .ref mh), (1, .int p0), (2, .int p1), (3, .int p2)]) hx hb dX9_trialOf_168 hl (k := 6) rfl (by rw [ez_85]; rfl) (by decide) rfl (fun ls hl => ?_)
                      refine lv_goto (tgt := 43) hx hb dX9_trialOf_171 (by decide) ?_
                      exact ih_12 z_85 L7_43 z_41 L6_43 L5_43 _ _ _ (by have h0 := t_0; (try dsimp only); omega) (by have h0 := t_0; (try dsimp only); omega) hP hD hS (lv_sub hl [0, 1, 2, 4, 6, 7, 8, 9, 10] rfl)
                    ·
                      have ic_84 : L7_43.toInt < r_79.toInt := by first | exact (g_lt rfl rfl).mp c_84 | (have h := mt (g_le rfl rfl).mpr c_84; omega)
                      clear c_84
                      refine lv_iload hx hb dX9_trialOf_159 (lv_at hl 1 rfl) ?_
                      refine lv_goto (tgt := 166) hx hb dX9_trialOf_161 (by decide) ?_
                      refine lv_istore (lv' := [(7, .int r_79), (6, .int L6_43), (10, .int r_79), (5, .int L5_43), (9, .int 0), (4, .int z_41), (8, .int L8_43), (0, .ref mh), (1, .int p0), (2, .int p1), (3, .int p2)]) hx hb dX9_trialOf_166 hl (by decide) rfl (fun ls hl => ?_)
                      obtain ⟨z_86, ez_86⟩ : ∃ y : Int32, y = L8_43 + 1 := ⟨_, rfl⟩
                      have jz_86 : z_86.toInt = L8_43.toInt + 1 := by rw [ez_86]; exact g_add rfl t_1 (by omega) (by omega)
                      refine lv_iinc (v := z_86) (lv' := [(8, .int z_86), (7, .int r_79), (6, .int L6_43), (10, .int r_79), (5, .int L5_43), (9, .int 0), (4, .int z_41), (0, .ref mh), (1, .int p0), (2, .int p1), (3, .int p2)]) hx hb dX9_trialOf_168 hl (k := 6) rfl (by rw [ez_86]; rfl) (by decide) rfl (fun ls hl => ?_)
                      refine lv_goto (tgt := 43) hx hb dX9_trialOf_171 (by decide) ?_
                      exact ih_12 z_86 r_79 z_41 L6_43 L5_43 _ _ _ (by have h0 := t_0; (try dsimp only); omega) (by have h0 := t_0; (try dsimp only); omega) hP hD hS (lv_sub hl [0, 1, 2, 4, 6, 7, 8, 9, 10] rfl)
                  ·
                    have ic_83 : r_79.toInt < L6_43.toInt := by first | exact (g_lt rfl rfl).mp c_83 | (have h := mt (g_le rfl rfl).mpr c_83; omega)
                    clear c_83
                    refine lv_iload hx hb dX9_trialOf_143 (lv_at hl 0 rfl) ?_
                    refine lv_goto (tgt := 150) hx hb dX9_trialOf_145 (by decide) ?_
                    refine lv_istore (lv' := [(6, .int r_79), (10, .int r_79), (5, .int L5_43), (9, .int 0), (4, .int z_41), (8, .int L8_43), (7, .int L7_43), (0, .ref mh), (1, .int p0), (2, .int p1), (3, .int p2)]) hx hb dX9_trialOf_150 hl (by decide) rfl (fun ls hl => ?_)
                    refine lv_iload hx hb dX9_trialOf_152 (lv_at hl 1 rfl) ?_
                    refine lv_iload hx hb dX9_trialOf_154 (lv_at hl 6 rfl) ?_
                    refine lv_icmp_le (tgt := 164) hx hb dX9_trialOf_156 (by decide) (fun c_87 => ?_) (fun c_87 => ?_)
                    ·
                      have ic_87 : r_79.toInt ≤ L7_43.toInt := by first | exact (g_le rfl rfl).mp c_87 | (have h := mt (g_lt rfl rfl).mpr c_87; omega)
                      clear c_87
                      refine lv_iload hx hb dX9_trialOf_164 (lv_at hl 6 rfl) ?_
                      refine lv_istore (lv' := [(7, .int L7_43), (6, .int r_79), (10, .int r_79), (5, .int L5_43), (9, .int 0), (4, .int z_41), (8, .int L8_43), (0, .ref mh), (1, .int p0), (2, .int p1), (3, .int p2)]) hx hb dX9_trialOf_166 hl (by decide) rfl (fun ls hl => ?_)
                      obtain ⟨z_88, ez_88⟩ : ∃ y : Int32, y = L8_43 + 1 := ⟨_, rfl⟩
                      have jz_88 : z_88.toInt = L8_43.toInt + 1 := by rw [ez_88]; exact g_add rfl t_1 (by omega) (by omega)
                      refine lv_iinc (v := z_88) (lv' := [(8, .int z_88), (7, .int L7_43), (6, .int r_79), (10, .int r_79), (5, .int L5_43), (9, .int 0), (4, .int z_41), (0, .ref mh), (1, .int p0), (2, .int p1), (3, .int p2)]) hx hb dX9_trialOf_168 hl (k := 6) rfl (by rw [ez_88]; rfl) (by decide) rfl (fun ls hl => ?_)
                      refine lv_goto (tgt := 43) hx hb dX9_trialOf_171 (by decide) ?_
                      exact ih_12 z_88 L7_43 z_41 r_79 L5_43 _ _ _ (by have h0 := t_0; (try dsimp only); omega) (by have h0 := t_0; (try dsimp only); omega) hP hD hS (lv_sub hl [0, 1, 2, 4, 6, 7, 8, 9, 10] rfl)
                    ·
                      have ic_87 : L7_43.toInt < r_79.toInt := by first | exact (g_lt rfl rfl).mp c_87 | (have h := mt (g_le rfl rfl).mpr c_87; omega)
                      clear c_87
                      refine lv_iload hx hb dX9_trialOf_159 (lv_at hl 1 rfl) ?_
                      refine lv_goto (tgt := 166) hx hb dX9_trialOf_161 (by decide) ?_
                      refine lv_istore (lv' := [(7, .int r_79), (6, .int r_79), (10, .int r_79), (5, .int L5_43), (9, .int 0), (4, .int z_41), (8, .int L8_43), (0, .ref mh), (1, .int p0), (2, .int p1), (3, .int p2)]) hx hb dX9_trialOf_166 hl (by decide) rfl (fun ls hl => ?_)
                      obtain ⟨z_89, ez_89⟩ : ∃ y : Int32, y = L8_43 + 1 := ⟨_, rfl⟩
                      have jz_89 : z_89.toInt = L8_43.toInt + 1 := by rw [ez_89]; exact g_add rfl t_1 (by omega) (by omega)
                      refine lv_iinc (v := z_89) (lv' := [(8, .int z_89), (7, .int r_79), (6, .int r_79), (10, .int r_79), (5, .int L5_43), (9, .int 0), (4, .int z_41), (0, .ref mh), (1, .int p0), (2, .int p1), (3, .int p2)]) hx hb dX9_trialOf_168 hl (k := 6) rfl (by rw [ez_89]; rfl) (by decide) rfl (fun ls hl => ?_)
                      refine lv_goto (tgt := 43) hx hb dX9_trialOf_171 (by decide) ?_
                      exact ih_12 z_89 r_79 z_41 r_79 L5_43 _ _ _ (by have h0 := t_0; (try dsimp only); omega) (by have h0 := t_0; (try dsimp only); omega) hP hD hS (lv_sub hl [0, 1, 2, 4, 6, 7, 8, 9, 10] rfl)
                ·
                  have ic_82 : r_79.toInt = -1000 := (g_eq rfl t_m1000).mp c_82
                  clear c_82
                  refine lv_goto (tgt := 168) hx hb dX9_trialOf_133 (by decide) ?_
                  obtain ⟨z_90, ez_90⟩ : ∃ y : Int32, y = L8_43 + 1 := ⟨_, rfl⟩
                  have jz_90 : z_90.toInt = L8_43.toInt + 1 := by rw [ez_90]; exact g_add rfl t_1 (by omega) (by omega)
                  refine lv_iinc (v := z_90) (lv' := [(8, .int z_90), (10, .int r_79), (5, .int L5_43), (9, .int 0), (4, .int z_41), (7, .int L7_43), (6, .int L6_43), (0, .ref mh), (1, .int p0), (2, .int p1), (3, .int p2)]) hx hb dX9_trialOf_168 hl (k := 4) rfl (by rw [ez_90]; rfl) (by decide) rfl (fun ls hl => ?_)
                  refine lv_goto (tgt := 43) hx hb dX9_trialOf_171 (by decide) ?_
                  exact ih_12 z_90 L7_43 z_41 L6_43 L5_43 _ _ _ (by have h0 := t_0; (try dsimp only); omega) (by have h0 := t_0; (try dsimp only); omega) hP hD hS (lv_sub hl [0, 5, 6, 2, 4, 7, 8, 9, 10] rfl)
              ·
                have ic_77 : L5_43.toInt < 0 := by first | exact (g_lt rfl t_0).mp c_77 | (have h := mt (g_le t_0 rfl).mpr c_77; omega)
                clear c_77
                refine lv_iload hx hb dX9_trialOf_102 (lv_at hl 0 rfl) ?_
                refine lv_goto (tgt := 109) hx hb dX9_trialOf_104 (by decide) ?_
                refine lv_istore (lv' := [(5, .int 0), (9, .int 0), (4, .int z_41), (8, .int L8_43), (7, .int L7_43), (6, .int L6_43), (0, .ref mh), (1, .int p0), (2, .int p1), (3, .int p2)]) hx hb dX9_trialOf_109 hl (by decide) rfl (fun ls hl => ?_)
                refine lv_aload_n hx hb dX9_trialOf_111 rfl (lv_at hl 6 rfl) ?_
                refine lv_iload_n hx hb dX9_trialOf_112 rfl (lv_at hl 7 rfl) ?_
                refine lv_aload_n hx hb dX9_trialOf_113 rfl (lv_at hl 6 rfl) ?_
                refine va_get (D := D) (ci := 9) (v := .ref (ma 29)) (C := RX9) (T := TX9) (N := 68) hx hb htb iX9 hown hK.1 hP 9 rfl rfl 29 (by decide) (htb _ k_987) (fun _ h9 => h9) rfl dX9_trialOf_114 ?_
                refine lv_iload hx hb dX9_trialOf_117 (lv_at hl 3 rfl) ?_
                refine va_iald hx hb hK.1 hP 20 0 rfl rfl (g_in rfl (by omega) (by omega)) dX9_trialOf_119 ?_
                refine lv_topi (fun z_91 ez_91 => ?_)
                have kz_91 := congrArg Int32.toInt ez_91
                have jz_91 : 0 ≤ z_91.toInt ∧ z_91.toInt ≤ 399 := by rw [ez_91]; exact hw_2_0 _ (g_ix rfl (by omega) (by omega))
                refine callRV (rest := []) (As := [.int p0, .int z_91]) hx hb hml hown htb hK (g_X9_warmthOf l D E mh ma mcode mtoday moffs mmany msumW msumA msumR msumWW msumWA msumAA msumWR msumAR mupper mlower w_7 mtaped mlaid mat mtk mtkAt mtkNumber mwaits mlisted mdealtMany mf2 mf3 mf4 p0 z_91 (by (try dsimp only); omega) (by (try dsimp only); omega) (by (try dsimp only); omega)) ok_X9_warmthOf k_1277 k_1279 ks_47 k_9 k_1280 ⟨(Nat.le_of_ble_eq_true rfl), (Nat.le_of_ble_eq_true rfl)⟩ ⟨(Nat.le_of_ble_eq_true rfl), (Nat.le_of_ble_eq_true rfl)⟩ hl.1 (Nat.le_of_ble_eq_true rfl) rfl rfl dX9_trialOf_120 (hP.sub (ws' := [(mh, .inr (9, G9 ma mcode mtoday moffs mmany msumW msumA msumR msumWW msumWA msumAA msumWR msumAR mupper mlower w_7 mtaped mlaid mat mtk mtkAt mtkNumber mwaits mlisted mdealtMany)), ((ma 2), .inl (E 0, 400, .inl mf2)), ((ma 3), .inl (E 0, 16, .inl mf3)), ((ma 4), .inl (E 0, 16, .inl mf4))]) [9, 0, 1, 2] rfl) rfl rfl 0 rfl (fun r_92 hw_93 => ?_)
                refine lv_istore (lv' := [(10, .int r_92), (5, .int 0), (9, .int 0), (4, .int z_41), (8, .int L8_43), (7, .int L7_43), (6, .int L6_43), (0, .ref mh), (1, .int p0), (2, .int p1), (3, .int p2)]) hx hb dX9_trialOf_123 hl (by decide) rfl (fun ls hl => ?_)
                refine lv_iload hx hb dX9_trialOf_125 (lv_at hl 0 rfl) ?_
                refine lv_sipush (v := (-1000)) hx hb dX9_trialOf_127 (by decide) ?_
                refine lv_icmp_ne (tgt := 136) hx hb dX9_trialOf_130 (by decide) (fun c_95 => ?_) (fun c_95 => ?_)
                ·
                  have ic_95 : r_92.toInt ≠ -1000 := mt (g_eq rfl t_m1000).mpr c_95
                  clear c_95
                  refine lv_iload hx hb dX9_trialOf_136 (lv_at hl 0 rfl) ?_
                  refine lv_iload hx hb dX9_trialOf_138 (lv_at hl 6 rfl) ?_
                  refine lv_icmp_ge (tgt := 148) hx hb dX9_trialOf_140 (by decide) (fun c_96 => ?_) (fun c_96 => ?_)
                  ·
                    have ic_96 : L6_43.toInt ≤ r_92.toInt := by first | exact (g_le rfl rfl).mp c_96 | (have h := mt (g_lt rfl rfl).mpr c_96; omega)
                    clear c_96
                    refine lv_iload hx hb dX9_trialOf_148 (lv_at hl 6 rfl) ?_
                    refine lv_istore (lv' := [(6, .int L6_43), (10, .int r_92), (5, .int 0), (9, .int 0), (4, .int z_41), (8, .int L8_43), (7, .int L7_43), (0, .ref mh), (1, .int p0), (2, .int p1), (3, .int p2)]) hx hb dX9_trialOf_150 hl (by decide) rfl (fun ls hl => ?_)
                    refine lv_iload hx hb dX9_trialOf_152 (lv_at hl 1 rfl) ?_
                    refine lv_iload hx hb dX9_trialOf_154 (lv_at hl 6 rfl) ?_
                    refine lv_icmp_le (tgt := 164) hx hb dX9_trialOf_156 (by decide) (fun c_97 => ?_) (fun c_97 => ?_)
                    ·
                      have ic_97 : r_92.toInt ≤ L7_43.toInt := by first | exact (g_le rfl rfl).mp c_97 | (have h := mt (g_lt rfl rfl).mpr c_97; omega)
                      clear c_97
                      refine lv_iload hx hb dX9_trialOf_164 (lv_at hl 6 rfl) ?_
                      refine lv_istore (lv' := [(7, .int L7_43), (6, .int L6_43), (10, .int r_92), (5, .int 0), (9, .int 0), (4, .int z_41), (8, .int L8_43), (0, .ref mh), (1, .int p0), (2, .int p1), (3, .int p2)]) hx hb dX9_trialOf_166 hl (by decide) rfl (fun ls hl => ?_)
                      obtain ⟨z_98, ez_98⟩ : ∃ y : Int32, y = L8_43 + 1 := ⟨_, rfl⟩
                      have jz_98 : z_98.toInt = L8_43.toInt + 1 := by rw [ez_98]; exact g_add rfl t_1 (by omega) (by omega)
                      refine lv_iinc (v := z_98) (lv' := [(8, .int z_98), (7, .int L7_43), (6, .int L6_43), (10, .int r_92), (5, .int 0), (9, .int 0), (4, .int z_41), (0, .ref mh), (1, .int p0), (2, .int p1), (3, .int p2)]) hx hb dX9_trialOf_168 hl (k := 6) rfl (by rw [ez_98]; rfl) (by decide) rfl (fun ls hl => ?_)
                      refine lv_goto (tgt := 43) hx hb dX9_trialOf_171 (by decide) ?_
                      exact ih_12 z_98 L7_43 z_41 L6_43 0 _ _ _ (by have h0 := t_0; (try dsimp only); omega) (by have h0 := t_0; (try dsimp only); omega) hP hD hS (lv_sub hl [0, 1, 2, 4, 6, 7, 8, 9, 10] rfl)
                    ·
                      have ic_97 : L7_43.toInt < r_92.toInt := by first | exact (g_lt rfl rfl).mp c_97 | (have h := mt (g_le rfl rfl).mpr c_97; omega)
                      clear c_97
                      refine lv_iload hx hb dX9_trialOf_159 (lv_at hl 1 rfl) ?_
                      refine lv_goto (tgt := 166) hx hb dX9_trialOf_161 (by decide) ?_
                      refine lv_istore (lv' := [(7, .int r_92), (6, .int L6_43), (10, .int r_92), (5, .int 0), (9, .int 0), (4, .int z_41), (8, .int L8_43), (0, .ref mh), (1, .int p0), (2, .int p1), (3, .int p2)]) hx hb dX9_trialOf_166 hl (by decide) rfl (fun ls hl => ?_)
                      obtain ⟨z_99, ez_99⟩ : ∃ y : Int32, y = L8_43 + 1 := ⟨_, rfl⟩
                      have jz_99 : z_99.toInt = L8_43.toInt + 1 := by rw [ez_99]; exact g_add rfl t_1 (by omega) (by omega)
                      refine lv_iinc (v := z_99) (lv' := [(8, .int z_99), (7, .int r_92), (6, .int L6_43), (10, .int r_92), (5, .int 0), (9, .int 0), (4, .int z_41), (0, .ref mh), (1, .int p0), (2, .int p1), (3, .int p2)]) hx hb dX9_trialOf_168 hl (k := 6) rfl (by rw [ez_99]; rfl) (by decide) rfl (fun ls hl => ?_)
                      refine lv_goto (tgt := 43) hx hb dX9_trialOf_171 (by decide) ?_
                      exact ih_12 z_99 r_92 z_41 L6_43 0 _ _ _ (by have h0 := t_0; (try dsimp only); omega) (by have h0 := t_0; (try dsimp only); omega) hP hD hS (lv_sub hl [0, 1, 2, 4, 6, 7, 8, 9, 10] rfl)
                  ·
                    have ic_96 : r_92.toInt < L6_43.toInt := by first | exact (g_lt rfl rfl).mp c_96 | (have h := mt (g_le rfl rfl).mpr c_96; omega)
                    clear c_96
                    refine lv_iload hx hb dX9_trialOf_143 (lv_at hl 0 rfl) ?_
                    refine lv_goto (tgt := 150) hx hb dX9_trialOf_145 (by decide) ?_
                    refine lv_istore (lv' := [(6, .int r_92), (10, .int r_92), (5, .int 0), (9, .int 0), (4, .int z_41), (8, .int L8_43), (7, .int L7_43), (0, .ref mh), (1, .int p0), (2, .int p1), (3, .int p2)]) hx hb dX9_trialOf_150 hl (by decide) rfl (fun ls hl => ?_)
                    refine lv_iload hx hb dX9_trialOf_152 (lv_at hl 1 rfl) ?_
                    refine lv_iload hx hb dX9_trialOf_154 (lv_at hl 6 rfl) ?_
                    refine lv_icmp_le (tgt := 164) hx hb dX9_trialOf_156 (by decide) (fun c_100 => ?_) (fun c_100 => ?_)
                    ·
                      have ic_100 : r_92.toInt ≤ L7_43.toInt := by first | exact (g_le rfl rfl).mp c_100 | (have h := mt (g_lt rfl rfl).mpr c_100; omega)
                      clear c_100
                      refine lv_iload hx hb dX9_trialOf_164 (lv_at hl 6 rfl) ?_
                      refine lv_istore (lv' := [(7, .int L7_43), (6, .int r_92), (10, .int r_92), (5, .int 0), (9, .int 0), (4, .int z_41), (8, .int L8_43), (0, .ref mh), (1, .int p0), (2, .int p1), (3, .int p2)]) hx hb dX9_trialOf_166 hl (by decide) rfl (fun ls hl => ?_)
                      obtain ⟨z_101, ez_101⟩ : ∃ y : Int32, y = L8_43 + 1 := ⟨_, rfl⟩
                      have jz_101 : z_101.toInt = L8_43.toInt + 1 := by rw [ez_101]; exact g_add rfl t_1 (by omega) (by omega)
                      refine lv_iinc (v := z_101) (lv' := [(8, .int z_101), (7, .int L7_43), (6, .int r_92), (10, .int r_92), (5, .int 0), (9, .int 0), (4, .int z_41), (0, .ref mh), (1, .int p0), (2, .int p1), (3, .int p2)]) hx hb dX9_trialOf_168 hl (k := 6) rfl (by rw [ez_101]; rfl) (by decide) rfl (fun ls hl => ?_)
                      refine lv_goto (tgt := 43) hx hb dX9_trialOf_171 (by decide) ?_
                      exact ih_12 z_101 L7_43 z_41 r_92 0 _ _ _ (by have h0 := t_0; (try dsimp only); omega) (by have h0 := t_0; (try dsimp only); omega) hP hD hS (lv_sub hl [0, 1, 2, 4, 6, 7, 8, 9, 10] rfl)
                    ·
                      have ic_100 : L7_43.toInt < r_92.toInt := by first | exact (g_lt rfl rfl).mp c_100 | (have h := mt (g_le rfl rfl).mpr c_100; omega)
                      clear c_100
                      refine lv_iload hx hb dX9_trialOf_159 (lv_at hl 1 rfl) ?_
                      refine lv_goto (tgt := 166) hx hb dX9_trialOf_161 (by decide) ?_
                      refine lv_istore (lv' := [(7, .int r_92), (6, .int r_92), (10, .int r_92), (5, .int 0), (9, .int 0), (4, .int z_41), (8, .int L8_43), (0, .ref mh), (1, .int p0), (2, .int p1), (3, .int p2)]) hx hb dX9_trialOf_166 hl (by decide) rfl (fun ls hl => ?_)
                      obtain ⟨z_102, ez_102⟩ : ∃ y : Int32, y = L8_43 + 1 := ⟨_, rfl⟩
                      have jz_102 : z_102.toInt = L8_43.toInt + 1 := by rw [ez_102]; exact g_add rfl t_1 (by omega) (by omega)
                      refine lv_iinc (v := z_102) (lv' := [(8, .int z_102), (7, .int r_92), (6, .int r_92), (10, .int r_92), (5, .int 0), (9, .int 0), (4, .int z_41), (0, .ref mh), (1, .int p0), (2, .int p1), (3, .int p2)]) hx hb dX9_trialOf_168 hl (k := 6) rfl (by rw [ez_102]; rfl) (by decide) rfl (fun ls hl => ?_)
                      refine lv_goto (tgt := 43) hx hb dX9_trialOf_171 (by decide) ?_
                      exact ih_12 z_102 r_92 z_41 r_92 0 _ _ _ (by have h0 := t_0; (try dsimp only); omega) (by have h0 := t_0; (try dsimp only); omega) hP hD hS (lv_sub hl [0, 1, 2, 4, 6, 7, 8, 9, 10] rfl)
                ·
                  have ic_95 : r_92.toInt = -1000 := (g_eq rfl t_m1000).mp c_95
                  clear c_95
                  refine lv_goto (tgt := 168) hx hb dX9_trialOf_133 (by decide) ?_
                  obtain ⟨z_103, ez_103⟩ : ∃ y : Int32, y = L8_43 + 1 := ⟨_, rfl⟩
                  have jz_103 : z_103.toInt = L8_43.toInt + 1 := by rw [ez_103]; exact g_add rfl t_1 (by omega) (by omega)
                  refine lv_iinc (v := z_103) (lv' := [(8, .int z_103), (10, .int r_92), (5, .int 0), (9, .int 0), (4, .int z_41), (7, .int L7_43), (6, .int L6_43), (0, .ref mh), (1, .int p0), (2, .int p1), (3, .int p2)]) hx hb dX9_trialOf_168 hl (k := 4) rfl (by rw [ez_103]; rfl) (by decide) rfl (fun ls hl => ?_)
                  refine lv_goto (tgt := 43) hx hb dX9_trialOf_171 (by decide) ?_
                  exact ih_12 z_103 L7_43 z_41 L6_43 0 _ _ _ (by have h0 := t_0; (try dsimp only); omega) (by have h0 := t_0; (try dsimp only); omega) hP hD hS (lv_sub hl [0, 5, 6, 2, 4, 7, 8, 9, 10] rfl)
      exact loop_11 61 0 ((-100)) 0 100 0 _ _ _ (by have h0 := t_m100; have h1 := t_0; have h2 := t_100; (try dsimp only); omega) (by have h0 := t_m100; have h1 := t_0; have h2 := t_100; (try dsimp only); omega) hP hD hS (lv_sub hl [0, 1, 2, 3, 4, 5, 6, 7, 8] rfl)
    ·
      have ic_10 : w_7.toInt = 0 := (g_eq rfl t_0).mp c_10
      clear c_10
      refine lv_ldc hx hb hown (htb _ k_1205) dX9_trialOf_23 ?_
      have hP9 := hP.sub (ws' := [(mh, .inr (9, G9 ma mcode mtoday moffs mmany msumW msumA msumR msumWW msumWA msumAA msumWR msumAR mupper mlower w_7 mtaped mlaid mat mtk mtkAt mtkNumber mwaits mlisted mdealtMany)), ((ma 2), .inl (E 0, 400, .inl mf2)), ((ma 3), .inl (E 0, 16, .inl mf3)), ((ma 4), .inl (E 0, 16, .inl mf4)), ((ma 5), .inl (E 1, 6400, .inl mf5)), ((ma 6), .inl (E 0, 6400, .inl mf6)), ((ma 7), .inl (E 0, 6400, .inl mf7)), ((ma 8), .inl (E 1, 6400, .inl mf8)), ((ma 9), .inl (E 1, 6400, .inl mf9)), ((ma 12), .inl (E 0, 60, .inl mf12)), ((ma 13), .inl (E 0, 60, .inl mf13)), ((ma 14), .inl (E 0, 60, .inl mf14)), ((ma 15), .inl (E 0, 60, .inl mf15)), ((ma 16), .inl (E 0, 60, .inl mf16)), ((ma 29), .inl (E 0, 60, .inl w_4)), ((ma 30), .inl (E 0, 60, .inl w_5)), ((ma 31), .inl (E 0, 60, .inl w_6)), ((ma 34), .inl (E 1, 2, .inl mf34)), ((ma 35), .inl (E 0, 2, .inl mf35)), ((ma 36), .inl (E 0, 384, .inl mf36)), ((ma 37), .inl (E 0, 384, .inl mf37)), ((ma 45), .inl (E 0, 130, .inl mf45)), ((ma 46), .inl (E 0, 24, .inl mf46))]) [9, 0, 1, 2, 10, 11, 12, 13, 14, 15, 16, 17, 18, 19, 20, 21, 22, 3, 4, 5, 6, 7, 8] rfl
      have hD9 := hD.sub (ws' := [(mh, .inr (9, G9 ma mcode mtoday moffs mmany msumW msumA msumR msumWW msumWA msumAA msumWR msumAR mupper mlower w_7 mtaped mlaid mat mtk mtkAt mtkNumber mwaits mlisted mdealtMany)), ((ma 2), .inl (E 0, 400, .inl mf2)), ((ma 3), .inl (E 0, 16, .inl mf3)), ((ma 4), .inl (E 0, 16, .inl mf4)), ((ma 5), .inl (E 1, 6400, .inl mf5)), ((ma 6), .inl (E 0, 6400, .inl mf6)), ((ma 7), .inl (E 0, 6400, .inl mf7)), ((ma 8), .inl (E 1, 6400, .inl mf8)), ((ma 9), .inl (E 1, 6400, .inl mf9)), ((ma 12), .inl (E 0, 60, .inl mf12)), ((ma 13), .inl (E 0, 60, .inl mf13)), ((ma 14), .inl (E 0, 60, .inl mf14)), ((ma 15), .inl (E 0, 60, .inl mf15)), ((ma 16), .inl (E 0, 60, .inl mf16)), ((ma 29), .inl (E 0, 60, .inl w_4)), ((ma 30), .inl (E 0, 60, .inl w_5)), ((ma 31), .inl (E 0, 60, .inl w_6)), ((ma 34), .inl (E 1, 2, .inl mf34)), ((ma 35), .inl (E 0, 2, .inl mf35)), ((ma 36), .inl (E 0, 384, .inl mf36)), ((ma 37), .inl (E 0, 384, .inl mf37)), ((ma 45), .inl (E 0, 130, .inl mf45)), ((ma 46), .inl (E 0, 24, .inl mf46))]) [9, 0, 1, 2, 10, 11, 12, 13, 14, 15, 16, 17, 18, 19, 20, 21, 22, 3, 4, 5, 6, 7, 8] (by decide) rfl
      exact W.iret (v := (-2000000000)) hx hb hr (fun t ht hW => ⟨⟨(-2000000000), (w_4, w_5, w_6, mf45, mf46, w_7), rfl, ⟨hw_2_0, (by (try dsimp only); omega)⟩, by rw [ht]; exact hP9, hD9⟩, hS.F ht⟩) hS.2.2 dX9_trialOf_25
set_option maxHeartbeats 4000000 in
set_option maxRecDepth 100000 in
theorem g_X9_hasTrial (l : Launch) (D : va_G) (E : Nat → Nat) (mh : Nat) (ma : Nat → Nat) (mcode : Int32) (mtoday : Int32) (moffs : Int32) (mmany : Int64) (msumW : Int64) (msumA : Int64) (msumR : Int64) (msumWW : Int64) (msumWA : Int64) (msumAA : Int64) (msumWR : Int64) (msumAR : Int64) (mupper : Int64) (mlower : Int64) (mrates : Int32) (mtaped : Int32) (mlaid : Int32) (mat : Int32) (mtk : Int32) (mtkAt : Int32) (mtkNumber : Int32) (mwaits : Int32) (mlisted : Int32) (mdealtMany : Int32) (mf5 : Nat → Int32) (mf6 : Nat → Int32) (mf7 : Nat → Int32) (mf8 : Nat → Int32) (mf9 : Nat → Int32) (mf12 : Nat → Int32) (mf13 : Nat → Int32) (mf14 : Nat → Int32) (mf15 : Nat → Int32) (mf16 : Nat → Int32) (mf29 : Nat → Int32) (mf30 : Nat → Int32) (mf31 : Nat → Int32) (mf34 : Nat → Int32) (p0 : Int32) (p1 : Int32) (p2 : Int32) (sz : Nat) (hi_m : (0 ≤ mtoday.toInt ∧ mtoday.toInt ≤ 399) ∧ (0 ≤ moffs.toInt ∧ moffs.toInt ≤ 60) ∧ (0 ≤ mrates.toInt ∧ mrates.toInt ≤ 60) ∧ (0 ≤ mtaped.toInt ∧ mtaped.toInt ≤ 120) ∧ (0 ≤ mlisted.toInt ∧ mlisted.toInt ≤ 9) ∧ (0 ≤ mdealtMany.toInt ∧ mdealtMany.toInt ≤ 9)) (hr_m29 : ∀ k : Nat, k < 60 → 0 ≤ (mf29 k).toInt ∧ (mf29 k).toInt ≤ 399) (g0 : 0 ≤ p0.toInt ∧ p0.toInt ≤ 15) (g1 : 0 ≤ p1.toInt ∧ p1.toInt ≤ p2.toInt ∧ p2.toInt ≤ 399 ∧ p2.toInt - p1.toInt ≤ 60) : Met l yX9_hasTrial (wl yX9_hasTrial cX9_hasTrial 4 (some .boolean)) (RM 4 0 0) (mu_P D E [.ref mh, .int p0, .int p1, .int p2] [(mh, .inr (9, G9 ma mcode mtoday moffs mmany msumW msumA msumR msumWW msumWA msumAA msumWR msumAR mupper mlower mrates mtaped mlaid mat mtk mtkAt mtkNumber mwaits mlisted mdealtMany)), ((ma 5), .inl (E 1, 6400, .inl mf5)), ((ma 6), .inl (E 0, 6400, .inl mf6)), ((ma 7), .inl (E 0, 6400, .inl mf7)), ((ma 8), .inl (E 1, 6400, .inl mf8)), ((ma 9), .inl (E 1, 6400, .inl mf9)), ((ma 12), .inl (E 0, 60, .inl mf12)), ((ma 13), .inl (E 0, 60, .inl mf13)), ((ma 14), .inl (E 0, 60, .inl mf14)), ((ma 15), .inl (E 0, 60, .inl mf15)), ((ma 16), .inl (E 0, 60, .inl mf16)), ((ma 29), .inl (E 0, 60, .inl mf29)), ((ma 30), .inl (E 0, 60, .inl mf30)), ((ma 31), .inl (E 0, 60, .inl mf31)), ((ma 34), .inl (E 1, 2, .inl mf34))] sz) (va_Qi (fun (r : Int32) (u : (Nat → Int32) × (Nat → Int32) × (Nat → Int32) × (Int32)) => (∀ k : Nat, k < 60 → 0 ≤ (u.1 k).toInt ∧ (u.1 k).toInt ≤ 399) ∧ (0 ≤ u.2.2.2.toInt ∧ u.2.2.2.toInt ≤ 60)) (mu_B D (va_A [(mh, .inr (9, G9 ma mcode mtoday moffs mmany msumW msumA msumR msumWW msumWA msumAA msumWR msumAR mupper mlower mrates mtaped mlaid mat mtk mtkAt mtkNumber mwaits mlisted mdealtMany)), ((ma 5), .inl (E 1, 6400, .inl mf5)), ((ma 6), .inl (E 0, 6400, .inl mf6)), ((ma 7), .inl (E 0, 6400, .inl mf7)), ((ma 8), .inl (E 1, 6400, .inl mf8)), ((ma 9), .inl (E 1, 6400, .inl mf9)), ((ma 12), .inl (E 0, 60, .inl mf12)), ((ma 13), .inl (E 0, 60, .inl mf13)), ((ma 14), .inl (E 0, 60, .inl mf14)), ((ma 15), .inl (E 0, 60, .inl mf15)), ((ma 16), .inl (E 0, 60, .inl mf16)), ((ma 29), .inl (E 0, 60, .inl mf29)), ((ma 30), .inl (E 0, 60, .inl mf30)), ((ma 31), .inl (E 0, 60, .inl mf31)), ((ma 34), .inl (E 1, 2, .inl mf34))] sz) (fun (u : (Nat → Int32) × (Nat → Int32) × (Nat → Int32) × (Int32)) => [(mh, .inr (9, G9 ma mcode mtoday moffs mmany msumW msumA msumR msumWW msumWA msumAA msumWR msumAR mupper mlower u.2.2.2 mtaped mlaid mat mtk mtkAt mtkNumber mwaits mlisted mdealtMany)), ((ma 5), .inl (E 1, 6400, .inl mf5)), ((ma 6), .inl (E 0, 6400, .inl mf6)), ((ma 7), .inl (E 0, 6400, .inl mf7)), ((ma 8), .inl (E 1, 6400, .inl mf8)), ((ma 9), .inl (E 1, 6400, .inl mf9)), ((ma 12), .inl (E 0, 60, .inl mf12)), ((ma 13), .inl (E 0, 60, .inl mf13)), ((ma 14), .inl (E 0, 60, .inl mf14)), ((ma 15), .inl (E 0, 60, .inl mf15)), ((ma 16), .inl (E 0, 60, .inl mf16)), ((ma 29), .inl (E 0, 60, .inl u.1)), ((ma 30), .inl (E 0, 60, .inl u.2.1)), ((ma 31), .inl (E 0, 60, .inl u.2.2.1)), ((ma 34), .inl (E 1, 2, .inl mf34))])) (va_A [(mh, .inr (9, G9 ma mcode mtoday moffs mmany msumW msumA msumR msumWW msumWA msumAA msumWR msumAR mupper mlower mrates mtaped mlaid mat mtk mtkAt mtkNumber mwaits mlisted mdealtMany)), ((ma 5), .inl (E 1, 6400, .inl mf5)), ((ma 6), .inl (E 0, 6400, .inl mf6)), ((ma 7), .inl (E 0, 6400, .inl mf7)), ((ma 8), .inl (E 1, 6400, .inl mf8)), ((ma 9), .inl (E 1, 6400, .inl mf9)), ((ma 12), .inl (E 0, 60, .inl mf12)), ((ma 13), .inl (E 0, 60, .inl mf13)), ((ma 14), .inl (E 0, 60, .inl mf14)), ((ma 15), .inl (E 0, 60, .inl mf15)), ((ma 16), .inl (E 0, 60, .inl mf16)), ((ma 29), .inl (E 0, 60, .inl mf29)), ((ma 30), .inl (E 0, 60, .inl mf30)), ((ma 31), .inl (E 0, 60, .inl mf31)), ((ma 34), .inl (E 1, 2, .inl mf34))] sz)) 0 0 (va_A [(mh, .inr (9, G9 ma mcode mtoday moffs mmany msumW msumA msumR msumWW msumWA msumAA msumWR msumAR mupper mlower mrates mtaped mlaid mat mtk mtkAt mtkNumber mwaits mlisted mdealtMany)), ((ma 5), .inl (E 1, 6400, .inl mf5)), ((ma 6), .inl (E 0, 6400, .inl mf6)), ((ma 7), .inl (E 0, 6400, .inl mf7)), ((ma 8), .inl (E 1, 6400, .inl mf8)), ((ma 9), .inl (E 1, 6400, .inl mf9)), ((ma 12), .inl (E 0, 60, .inl mf12)), ((ma 13), .inl (E 0, 60, .inl mf13)), ((ma 14), .inl (E 0, 60, .inl mf14)), ((ma 15), .inl (E 0, 60, .inl mf15)), ((ma 16), .inl (E 0, 60, .inl mf16)), ((ma 29), .inl (E 0, 60, .inl mf29)), ((ma 30), .inl (E 0, 60, .inl mf30)), ((ma 31), .inl (E 0, 60, .inl mf31)), ((ma 34), .inl (E 1, 2, .inl mf34))] sz) := by
  refine Met.ofW (cc := cX9_hasTrial) (maxL := 4) (ret := (some .boolean)) (by decide) rfl ?_
  intro p e s m args below meth c s₁ B hml hv
  obtain ⟨rfl, hsz, hP, hK, hD0⟩ := hv
  have hx := B.exec; have hb := B.bytes; have hr := B.returns
  have hts := atoms_spec (ws := wl yX9_hasTrial cX9_hasTrial 4 (some .boolean)) B.pre
  have htb : ∀ w ∈ tb, w.before _ s = true := fun w h => hts w (List.mem_cons_of_mem _ h)
  have hown : s.vm.findClass RX9 = some m.cls := findClass_of_methodNamed B.named
  have hlocks := B.notSynchronized
  subst hsz
  have hD := hD0.self (sz := s.heap.size)
  generalize hAe : va_A [(mh, .inr (9, G9 ma mcode mtoday moffs mmany msumW msumA msumR msumWW msumWA msumAA msumWR msumAR mupper mlower mrates mtaped mlaid mat mtk mtkAt mtkNumber mwaits mlisted mdealtMany)), ((ma 5), .inl (E 1, 6400, .inl mf5)), ((ma 6), .inl (E 0, 6400, .inl mf6)), ((ma 7), .inl (E 0, 6400, .inl mf7)), ((ma 8), .inl (E 1, 6400, .inl mf8)), ((ma 9), .inl (E 1, 6400, .inl mf9)), ((ma 12), .inl (E 0, 60, .inl mf12)), ((ma 13), .inl (E 0, 60, .inl mf13)), ((ma 14), .inl (E 0, 60, .inl mf14)), ((ma 15), .inl (E 0, 60, .inl mf15)), ((ma 16), .inl (E 0, 60, .inl mf16)), ((ma 29), .inl (E 0, 60, .inl mf29)), ((ma 30), .inl (E 0, 60, .inl mf30)), ((ma 31), .inl (E 0, 60, .inl mf31)), ((ma 34), .inl (E 1, 2, .inl mf34))] s.heap.size = A at hD ⊢
  have hA : ∀ q : Nat, s.heap.size ≤ q → A q := fun q h => by rw [← hAe]; exact Or.inr h
  have hS : va_S A s.heap s.heap [] := va_S.rf
  have hP : va_P D vwCl [(mh, .inr (9, G9 ma mcode mtoday moffs mmany msumW msumA msumR msumWW msumWA msumAA msumWR msumAR mupper mlower mrates mtaped mlaid mat mtk mtkAt mtkNumber mwaits mlisted mdealtMany)), ((ma 5), .inl (E 1, 6400, .inl mf5)), ((ma 6), .inl (E 0, 6400, .inl mf6)), ((ma 7), .inl (E 0, 6400, .inl mf7)), ((ma 8), .inl (E 1, 6400, .inl mf8)), ((ma 9), .inl (E 1, 6400, .inl mf9)), ((ma 12), .inl (E 0, 60, .inl mf12)), ((ma 13), .inl (E 0, 60, .inl mf13)), ((ma 14), .inl (E 0, 60, .inl mf14)), ((ma 15), .inl (E 0, 60, .inl mf15)), ((ma 16), .inl (E 0, 60, .inl mf16)), ((ma 29), .inl (E 0, 60, .inl mf29)), ((ma 30), .inl (E 0, 60, .inl mf30)), ((ma 31), .inl (E 0, 60, .inl mf31)), ((ma 34), .inl (E 1, 2, .inl mf34))] s.heap := hP
  have hl := lv_entry ([.ref mh, .int p0, .int p1, .int p2]) (n := 4) (Nat.le_of_ble_eq_true rfl)
  rw [lg_entry_eq]
  generalize (lg_sl ([.ref mh, .int p0, .int p1, .int p2]) ++ List.replicate (4 - (lg_sl ([.ref mh, .int p0, .int p1, .int p2])).length) Slot.unset).toArray = ls at hl ⊢
  have hl : lv_has ls 4 [(0, .ref mh), (1, .int p0), (2, .int p1), (3, .int p2)] := hl
  have lo_p0 := i_lo p0; have hi_p0 := i_hi p0
  have lo_p1 := i_lo p1; have hi_p1 := i_hi p1
  have lo_p2 := i_lo p2; have hi_p2 := i_hi p2
  refine lv_aload_n hx hb dX9_hasTrial_0 rfl (lv_at hl 0 rfl) ?_
  refine lv_iload_n hx hb dX9_hasTrial_1 rfl (lv_at hl 1 rfl) ?_
  refine lv_iload_n hx hb dX9_hasTrial_2 rfl (lv_at hl 2 rfl) ?_
  refine lv_iload_n hx hb dX9_hasTrial_3 rfl (lv_at hl 3 rfl) ?_
  have hPc := hP.sub (ws' := [(mh, .inr (9, G9 ma mcode mtoday moffs mmany msumW msumA msumR msumWW msumWA msumAA msumWR msumAR mupper mlower mrates mtaped mlaid mat mtk mtkAt mtkNumber mwaits mlisted mdealtMany)), ((ma 5), .inl (E 1, 6400, .inl mf5)), ((ma 6), .inl (E 0, 6400, .inl mf6)), ((ma 7), .inl (E 0, 6400, .inl mf7)), ((ma 8), .inl (E 1, 6400, .inl mf8)), ((ma 9), .inl (E 1, 6400, .inl mf9)), ((ma 12), .inl (E 0, 60, .inl mf12)), ((ma 13), .inl (E 0, 60, .inl mf13)), ((ma 14), .inl (E 0, 60, .inl mf14)), ((ma 15), .inl (E 0, 60, .inl mf15)), ((ma 16), .inl (E 0, 60, .inl mf16)), ((ma 29), .inl (E 0, 60, .inl mf29)), ((ma 30), .inl (E 0, 60, .inl mf30)), ((ma 31), .inl (E 0, 60, .inl mf31))]) [0, 1, 2, 3, 4, 5, 6, 7, 8, 9, 10, 11, 12, 13] rfl
  have hDc := hD.sub (ws' := [(mh, .inr (9, G9 ma mcode mtoday moffs mmany msumW msumA msumR msumWW msumWA msumAA msumWR msumAR mupper mlower mrates mtaped mlaid mat mtk mtkAt mtkNumber mwaits mlisted mdealtMany)), ((ma 5), .inl (E 1, 6400, .inl mf5)), ((ma 6), .inl (E 0, 6400, .inl mf6)), ((ma 7), .inl (E 0, 6400, .inl mf7)), ((ma 8), .inl (E 1, 6400, .inl mf8)), ((ma 9), .inl (E 1, 6400, .inl mf9)), ((ma 12), .inl (E 0, 60, .inl mf12)), ((ma 13), .inl (E 0, 60, .inl mf13)), ((ma 14), .inl (E 0, 60, .inl mf14)), ((ma 15), .inl (E 0, 60, .inl mf15)), ((ma 16), .inl (E 0, 60, .inl mf16)), ((ma 29), .inl (E 0, 60, .inl mf29)), ((ma 30), .inl (E 0, 60, .inl mf30)), ((ma 31), .inl (E 0, 60, .inl mf31))]) [0, 1, 2, 3, 4, 5, 6, 7, 8, 9, 10, 11, 12, 13] (by decide) rfl
  refine aft_v (runMV (rest := []) (As := [.int p0, .int p1, .int p2]) hx hb hml hown htb hK (g_X9_findRates l D E mh ma mcode mtoday moffs mmany msumW msumA msumR msumWW msumWA msumAA msumWR msumAR mupper mlower mrates mtaped mlaid mat mtk mtkAt mtkNumber mwaits mlisted mdealtMany mf5 mf6 mf7 mf8 mf9 mf12 mf13 mf14 mf15 mf16 mf29 mf30 mf31 p0 p1 p2 _ (by (try dsimp only); omega) hr_m29 (by (try dsimp only); omega) (by (try dsimp only); omega)) ok_X9_findRates k_1322 k_1324 ks_53 k_9 k_1325 ⟨(Nat.le_of_ble_eq_true rfl), (Nat.le_of_ble_eq_true rfl)⟩ ⟨(Nat.le_of_ble_eq_true rfl), (Nat.le_of_ble_eq_true rfl)⟩ hl.1 (Nat.le_of_ble_eq_true rfl) rfl rfl dX9_hasTrial_4 hPc hDc rfl rfl 0 rfl) hP hD hS hA [0, 1, 2, 3, 4, 5, 6, 7, 8, 9, 10, 11, 12, 13] [14] (wr := [((ma 34), .inl (E 1, 2, .inl mf34))]) rfl rfl (by decide) (by decide) (fun u_3 H locs hw_2 hP hD hS => ?_)
  clear hPc hDc
  obtain ⟨w_4, w_5, w_6, w_7⟩ := u_3
  try dsimp only at hw_2
  have hP : va_P D vwCl [((ma 34), .inl (E 1, 2, .inl mf34)), (mh, .inr (9, G9 ma mcode mtoday moffs mmany msumW msumA msumR msumWW msumWA msumAA msumWR msumAR mupper mlower w_7 mtaped mlaid mat mtk mtkAt mtkNumber mwaits mlisted mdealtMany)), ((ma 5), .inl (E 1, 6400, .inl mf5)), ((ma 6), .inl (E 0, 6400, .inl mf6)), ((ma 7), .inl (E 0, 6400, .inl mf7)), ((ma 8), .inl (E 1, 6400, .inl mf8)), ((ma 9), .inl (E 1, 6400, .inl mf9)), ((ma 12), .inl (E 0, 60, .inl mf12)), ((ma 13), .inl (E 0, 60, .inl mf13)), ((ma 14), .inl (E 0, 60, .inl mf14)), ((ma 15), .inl (E 0, 60, .inl mf15)), ((ma 16), .inl (E 0, 60, .inl mf16)), ((ma 29), .inl (E 0, 60, .inl w_4)), ((ma 30), .inl (E 0, 60, .inl w_5)), ((ma 31), .inl (E 0, 60, .inl w_6))] H := hP
  have hD := toW hP hD rfl
  obtain ⟨hw_2_0, hw_2_1, hw_2_2, hw_2_3, hw_2_4⟩ := hw_2
  refine lv_aload_n hx hb dX9_hasTrial_7 rfl (lv_at hl 0 rfl) ?_
  refine va_get (D := D) (ci := 9) (v := .ref (ma 34)) (C := RX9) (T := TX9) (N := 68) hx hb htb iX9 hown hK.1 hP 1 rfl rfl 34 (by decide) (htb _ k_992) (fun _ h9 => h9) rfl dX9_hasTrial_8 ?_
  refine lv_iconst (v := 0) hx hb dX9_hasTrial_11 (by decide) ?_
  refine va_zald hx hb hK.1 hP 0 1 rfl rfl (g_in t_0 (by decide) (by decide)) dX9_hasTrial_12 ?_
  refine lv_topi (fun z_8 ez_8 => ?_)
  have kz_8 := congrArg Int32.toInt ez_8
  refine lv_if_eq (tgt := 27) hx hb dX9_hasTrial_13 (by decide) (fun c_9 => ?_) (fun c_9 => ?_)
  ·
    have ic_9 : z_8.toInt = 0 := (g_eq rfl t_0).mp c_9
    clear c_9
    refine lv_iconst (v := 0) hx hb dX9_hasTrial_27 (by decide) ?_
    have hP9 := hP.sub (ws' := [(mh, .inr (9, G9 ma mcode mtoday moffs mmany msumW msumA msumR msumWW msumWA msumAA msumWR msumAR mupper mlower w_7 mtaped mlaid mat mtk mtkAt mtkNumber mwaits mlisted mdealtMany)), ((ma 5), .inl (E 1, 6400, .inl mf5)), ((ma 6), .inl (E 0, 6400, .inl mf6)), ((ma 7), .inl (E 0, 6400, .inl mf7)), ((ma 8), .inl (E 1, 6400, .inl mf8)), ((ma 9), .inl (E 1, 6400, .inl mf9)), ((ma 12), .inl (E 0, 60, .inl mf12)), ((ma 13), .inl (E 0, 60, .inl mf13)), ((ma 14), .inl (E 0, 60, .inl mf14)), ((ma 15), .inl (E 0, 60, .inl mf15)), ((ma 16), .inl (E 0, 60, .inl mf16)), ((ma 29), .inl (E 0, 60, .inl w_4)), ((ma 30), .inl (E 0, 60, .inl w_5)), ((ma 31), .inl (E 0, 60, .inl w_6)), ((ma 34), .inl (E 1, 2, .inl mf34))]) [1, 2, 3, 4, 5, 6, 7, 8, 9, 10, 11, 12, 13, 14, 0] rfl
    have hD9 := hD.sub (ws' := [(mh, .inr (9, G9 ma mcode mtoday moffs mmany msumW msumA msumR msumWW msumWA msumAA msumWR msumAR mupper mlower w_7 mtaped mlaid mat mtk mtkAt mtkNumber mwaits mlisted mdealtMany)), ((ma 5), .inl (E 1, 6400, .inl mf5)), ((ma 6), .inl (E 0, 6400, .inl mf6)), ((ma 7), .inl (E 0, 6400, .inl mf7)), ((ma 8), .inl (E 1, 6400, .inl mf8)), ((ma 9), .inl (E 1, 6400, .inl mf9)), ((ma 12), .inl (E 0, 60, .inl mf12)), ((ma 13), .inl (E 0, 60, .inl mf13)), ((ma 14), .inl (E 0, 60, .inl mf14)), ((ma 15), .inl (E 0, 60, .inl mf15)), ((ma 16), .inl (E 0, 60, .inl mf16)), ((ma 29), .inl (E 0, 60, .inl w_4)), ((ma 30), .inl (E 0, 60, .inl w_5)), ((ma 31), .inl (E 0, 60, .inl w_6)), ((ma 34), .inl (E 1, 2, .inl mf34))]) [1, 2, 3, 4, 5, 6, 7, 8, 9, 10, 11, 12, 13, 14, 0] (by decide) rfl
    exact W.zret (v := 0) hx hb hr rfl (fun t ht hW => ⟨⟨0, (w_4, w_5, w_6, w_7), rfl, ⟨hw_2_0, (by (try dsimp only); omega)⟩, by rw [ht]; exact hP9, hD9⟩, hS.F ht⟩) hS.2.2 dX9_hasTrial_28
  ·
    have ic_9 : z_8.toInt ≠ 0 := mt (g_eq rfl t_0).mpr c_9
    clear c_9
    refine lv_aload_n hx hb dX9_hasTrial_16 rfl (lv_at hl 0 rfl) ?_
    refine va_get (D := D) (ci := 9) (v := .int w_7) (C := RX9) (T := TX9) (N := 68) hx hb htb iX9 hown hK.1 hP 1 rfl rfl 28 (by decide) (htb _ k_986) (fun _ h9 => h9) rfl dX9_hasTrial_17 ?_
    refine lv_if_le (tgt := 27) hx hb dX9_hasTrial_20 (by decide) (fun c_10 => ?_) (fun c_10 => ?_)
    ·
      have ic_10 : w_7.toInt ≤ 0 := by first | exact (g_le rfl t_0).mp c_10 | (have h := mt (g_lt t_0 rfl).mpr c_10; omega)
      clear c_10
      refine lv_iconst (v := 0) hx hb dX9_hasTrial_27 (by decide) ?_
      have hP9 := hP.sub (ws' := [(mh, .inr (9, G9 ma mcode mtoday moffs mmany msumW msumA msumR msumWW msumWA msumAA msumWR msumAR mupper mlower w_7 mtaped mlaid mat mtk mtkAt mtkNumber mwaits mlisted mdealtMany)), ((ma 5), .inl (E 1, 6400, .inl mf5)), ((ma 6), .inl (E 0, 6400, .inl mf6)), ((ma 7), .inl (E 0, 6400, .inl mf7)), ((ma 8), .inl (E 1, 6400, .inl mf8)), ((ma 9), .inl (E 1, 6400, .inl mf9)), ((ma 12), .inl (E 0, 60, .inl mf12)), ((ma 13), .inl (E 0, 60, .inl mf13)), ((ma 14), .inl (E 0, 60, .inl mf14)), ((ma 15), .inl (E 0, 60, .inl mf15)), ((ma 16), .inl (E 0, 60, .inl mf16)), ((ma 29), .inl (E 0, 60, .inl w_4)), ((ma 30), .inl (E 0, 60, .inl w_5)), ((ma 31), .inl (E 0, 60, .inl w_6)), ((ma 34), .inl (E 1, 2, .inl mf34))]) [1, 2, 3, 4, 5, 6, 7, 8, 9, 10, 11, 12, 13, 14, 0] rfl
      have hD9 := hD.sub (ws' := [(mh, .inr (9, G9 ma mcode mtoday moffs mmany msumW msumA msumR msumWW msumWA msumAA msumWR msumAR mupper mlower w_7 mtaped mlaid mat mtk mtkAt mtkNumber mwaits mlisted mdealtMany)), ((ma 5), .inl (E 1, 6400, .inl mf5)), ((ma 6), .inl (E 0, 6400, .inl mf6)), ((ma 7), .inl (E 0, 6400, .inl mf7)), ((ma 8), .inl (E 1, 6400, .inl mf8)), ((ma 9), .inl (E 1, 6400, .inl mf9)), ((ma 12), .inl (E 0, 60, .inl mf12)), ((ma 13), .inl (E 0, 60, .inl mf13)), ((ma 14), .inl (E 0, 60, .inl mf14)), ((ma 15), .inl (E 0, 60, .inl mf15)), ((ma 16), .inl (E 0, 60, .inl mf16)), ((ma 29), .inl (E 0, 60, .inl w_4)), ((ma 30), .inl (E 0, 60, .inl w_5)), ((ma 31), .inl (E 0, 60, .inl w_6)), ((ma 34), .inl (E 1, 2, .inl mf34))]) [1, 2, 3, 4, 5, 6, 7, 8, 9, 10, 11, 12, 13, 14, 0] (by decide) rfl
      exact W.zret (v := 0) hx hb hr rfl (fun t ht hW => ⟨⟨0, (w_4, w_5, w_6, w_7), rfl, ⟨hw_2_0, (by (try dsimp only); omega)⟩, by rw [ht]; exact hP9, hD9⟩, hS.F ht⟩) hS.2.2 dX9_hasTrial_28
    ·
      have ic_10 : 0 < w_7.toInt := by first | exact (g_lt t_0 rfl).mp c_10 | (have h := mt (g_le rfl t_0).mpr c_10; omega)
      clear c_10
      refine lv_iconst (v := 1) hx hb dX9_hasTrial_23 (by decide) ?_
      refine lv_goto (tgt := 28) hx hb dX9_hasTrial_24 (by decide) ?_
      have hP9 := hP.sub (ws' := [(mh, .inr (9, G9 ma mcode mtoday moffs mmany msumW msumA msumR msumWW msumWA msumAA msumWR msumAR mupper mlower w_7 mtaped mlaid mat mtk mtkAt mtkNumber mwaits mlisted mdealtMany)), ((ma 5), .inl (E 1, 6400, .inl mf5)), ((ma 6), .inl (E 0, 6400, .inl mf6)), ((ma 7), .inl (E 0, 6400, .inl mf7)), ((ma 8), .inl (E 1, 6400, .inl mf8)), ((ma 9), .inl (E 1, 6400, .inl mf9)), ((ma 12), .inl (E 0, 60, .inl mf12)), ((ma 13), .inl (E 0, 60, .inl mf13)), ((ma 14), .inl (E 0, 60, .inl mf14)), ((ma 15), .inl (E 0, 60, .inl mf15)), ((ma 16), .inl (E 0, 60, .inl mf16)), ((ma 29), .inl (E 0, 60, .inl w_4)), ((ma 30), .inl (E 0, 60, .inl w_5)), ((ma 31), .inl (E 0, 60, .inl w_6)), ((ma 34), .inl (E 1, 2, .inl mf34))]) [1, 2, 3, 4, 5, 6, 7, 8, 9, 10, 11, 12, 13, 14, 0] rfl
      have hD9 := hD.sub (ws' := [(mh, .inr (9, G9 ma mcode mtoday moffs mmany msumW msumA msumR msumWW msumWA msumAA msumWR msumAR mupper mlower w_7 mtaped mlaid mat mtk mtkAt mtkNumber mwaits mlisted mdealtMany)), ((ma 5), .inl (E 1, 6400, .inl mf5)), ((ma 6), .inl (E 0, 6400, .inl mf6)), ((ma 7), .inl (E 0, 6400, .inl mf7)), ((ma 8), .inl (E 1, 6400, .inl mf8)), ((ma 9), .inl (E 1, 6400, .inl mf9)), ((ma 12), .inl (E 0, 60, .inl mf12)), ((ma 13), .inl (E 0, 60, .inl mf13)), ((ma 14), .inl (E 0, 60, .inl mf14)), ((ma 15), .inl (E 0, 60, .inl mf15)), ((ma 16), .inl (E 0, 60, .inl mf16)), ((ma 29), .inl (E 0, 60, .inl w_4)), ((ma 30), .inl (E 0, 60, .inl w_5)), ((ma 31), .inl (E 0, 60, .inl w_6)), ((ma 34), .inl (E 1, 2, .inl mf34))]) [1, 2, 3, 4, 5, 6, 7, 8, 9, 10, 11, 12, 13, 14, 0] (by decide) rfl
      exact W.zret (v := 1) hx hb hr rfl (fun t ht hW => ⟨⟨1, (w_4, w_5, w_6, w_7), rfl, ⟨hw_2_0, (by (try dsimp only); omega)⟩, by rw [ht]; exact hP9, hD9⟩, hS.F ht⟩) hS.2.2 dX9_hasTrial_28
set_option maxHeartbeats 4000000 in
set_option maxRecDepth 100000 in
theorem g_X9_trial (l : Launch) (D : va_G) (E : Nat → Nat) (mh : Nat) (ma : Nat → Nat) (mcode : Int32) (mtoday : Int32) (moffs : Int32) (mmany : Int64) (msumW : Int64) (msumA : Int64) (msumR : Int64) (msumWW : Int64) (msumWA : Int64) (msumAA : Int64) (msumWR : Int64) (msumAR : Int64) (mupper : Int64) (mlower : Int64) (mrates : Int32) (mtaped : Int32) (mlaid : Int32) (mat : Int32) (mtk : Int32) (mtkAt : Int32) (mtkNumber : Int32) (mwaits : Int32) (mlisted : Int32) (mdealtMany : Int32) (mf2 : Nat → Int32) (mf3 : Nat → Int32) (mf4 : Nat → Int32) (mf5 : Nat → Int32) (mf6 : Nat → Int32) (mf7 : Nat → Int32) (mf8 : Nat → Int32) (mf9 : Nat → Int32) (mf12 : Nat → Int32) (mf13 : Nat → Int32) (mf14 : Nat → Int32) (mf15 : Nat → Int32) (mf16 : Nat → Int32) (mf29 : Nat → Int32) (mf30 : Nat → Int32) (mf31 : Nat → Int32) (mf34 : Nat → Int32) (mf35 : Nat → Int32) (mf36 : Nat → Int32) (mf37 : Nat → Int32) (mf45 : Nat → Int32) (mf46 : Nat → Int32) (p0 : Int32) (p1 : Int32) (p2 : Int32) (sz : Nat) (hi_m : (0 ≤ mtoday.toInt ∧ mtoday.toInt ≤ 399) ∧ (0 ≤ moffs.toInt ∧ moffs.toInt ≤ 60) ∧ (0 ≤ mrates.toInt ∧ mrates.toInt ≤ 60) ∧ (0 ≤ mtaped.toInt ∧ mtaped.toInt ≤ 120) ∧ (0 ≤ mlisted.toInt ∧ mlisted.toInt ≤ 9) ∧ (0 ≤ mdealtMany.toInt ∧ mdealtMany.toInt ≤ 9)) (hr_m29 : ∀ k : Nat, k < 60 → 0 ≤ (mf29 k).toInt ∧ (mf29 k).toInt ≤ 399) (hr_m35 : ∀ k : Nat, k < 2 → 0 ≤ (mf35 k).toInt ∧ (mf35 k).toInt ≤ 127) (hjw : JW mf36 mf35) : Met l yX9_trial (wl yX9_trial cX9_trial 4 (some .int)) (RM 5 0 0) (mu_P D E [.ref mh, .int p0, .int p1, .int p2] [(mh, .inr (9, G9 ma mcode mtoday moffs mmany msumW msumA msumR msumWW msumWA msumAA msumWR msumAR mupper mlower mrates mtaped mlaid mat mtk mtkAt mtkNumber mwaits mlisted mdealtMany)), ((ma 2), .inl (E 0, 400, .inl mf2)), ((ma 3), .inl (E 0, 16, .inl mf3)), ((ma 4), .inl (E 0, 16, .inl mf4)), ((ma 5), .inl (E 1, 6400, .inl mf5)), ((ma 6), .inl (E 0, 6400, .inl mf6)), ((ma 7), .inl (E 0, 6400, .inl mf7)), ((ma 8), .inl (E 1, 6400, .inl mf8)), ((ma 9), .inl (E 1, 6400, .inl mf9)), ((ma 12), .inl (E 0, 60, .inl mf12)), ((ma 13), .inl (E 0, 60, .inl mf13)), ((ma 14), .inl (E 0, 60, .inl mf14)), ((ma 15), .inl (E 0, 60, .inl mf15)), ((ma 16), .inl (E 0, 60, .inl mf16)), ((ma 29), .inl (E 0, 60, .inl mf29)), ((ma 30), .inl (E 0, 60, .inl mf30)), ((ma 31), .inl (E 0, 60, .inl mf31)), ((ma 34), .inl (E 1, 2, .inl mf34)), ((ma 35), .inl (E 0, 2, .inl mf35)), ((ma 36), .inl (E 0, 384, .inl mf36)), ((ma 37), .inl (E 0, 384, .inl mf37)), ((ma 45), .inl (E 0, 130, .inl mf45)), ((ma 46), .inl (E 0, 24, .inl mf46))] sz) (va_Qi (fun (r : Int32) (u : (Nat → Int32) × (Nat → Int32) × (Nat → Int32) × (Nat → Int32) × (Nat → Int32) × (Int32)) => (∀ k : Nat, k < 60 → 0 ≤ (u.1 k).toInt ∧ (u.1 k).toInt ≤ 399) ∧ (0 ≤ u.2.2.2.2.2.toInt ∧ u.2.2.2.2.2.toInt ≤ 60)) (mu_B D (va_A [(mh, .inr (9, G9 ma mcode mtoday moffs mmany msumW msumA msumR msumWW msumWA msumAA msumWR msumAR mupper mlower mrates mtaped mlaid mat mtk mtkAt mtkNumber mwaits mlisted mdealtMany)), ((ma 2), .inl (E 0, 400, .inl mf2)), ((ma 3), .inl (E 0, 16, .inl mf3)), ((ma 4), .inl (E 0, 16, .inl mf4)), ((ma 5), .inl (E 1, 6400, .inl mf5)), ((ma 6), .inl (E 0, 6400, .inl mf6)), ((ma 7), .inl (E 0, 6400, .inl mf7)), ((ma 8), .inl (E 1, 6400, .inl mf8)), ((ma 9), .inl (E 1, 6400, .inl mf9)), ((ma 12), .inl (E 0, 60, .inl mf12)), ((ma 13), .inl (E 0, 60, .inl mf13)), ((ma 14), .inl (E 0, 60, .inl mf14)), ((ma 15), .inl (E 0, 60, .inl mf15)), ((ma 16), .inl (E 0, 60, .inl mf16)), ((ma 29), .inl (E 0, 60, .inl mf29)), ((ma 30), .inl (E 0, 60, .inl mf30)), ((ma 31), .inl (E 0, 60, .inl mf31)), ((ma 34), .inl (E 1, 2, .inl mf34)), ((ma 35), .inl (E 0, 2, .inl mf35)), ((ma 36), .inl (E 0, 384, .inl mf36)), ((ma 37), .inl (E 0, 384, .inl mf37)), ((ma 45), .inl (E 0, 130, .inl mf45)), ((ma 46), .inl (E 0, 24, .inl mf46))] sz) (fun (u : (Nat → Int32) × (Nat → Int32) × (Nat → Int32) × (Nat → Int32) × (Nat → Int32) × (Int32)) => [(mh, .inr (9, G9 ma mcode mtoday moffs mmany msumW msumA msumR msumWW msumWA msumAA msumWR msumAR mupper mlower u.2.2.2.2.2 mtaped mlaid mat mtk mtkAt mtkNumber mwaits mlisted mdealtMany)), ((ma 2), .inl (E 0, 400, .inl mf2)), ((ma 3), .inl (E 0, 16, .inl mf3)), ((ma 4), .inl (E 0, 16, .inl mf4)), ((ma 5), .inl (E 1, 6400, .inl mf5)), ((ma 6), .inl (E 0, 6400, .inl mf6)), ((ma 7), .inl (E 0, 6400, .inl mf7)), ((ma 8), .inl (E 1, 6400, .inl mf8)), ((ma 9), .inl (E 1, 6400, .inl mf9)), ((ma 12), .inl (E 0, 60, .inl mf12)), ((ma 13), .inl (E 0, 60, .inl mf13)), ((ma 14), .inl (E 0, 60, .inl mf14)), ((ma 15), .inl (E 0, 60, .inl mf15)), ((ma 16), .inl (E 0, 60, .inl mf16)), ((ma 29), .inl (E 0, 60, .inl u.1)), ((ma 30), .inl (E 0, 60, .inl u.2.1)), ((ma 31), .inl (E 0, 60, .inl u.2.2.1)), ((ma 34), .inl (E 1, 2, .inl mf34)), ((ma 35), .inl (E 0, 2, .inl mf35)), ((ma 36), .inl (E 0, 384, .inl mf36)), ((ma 37), .inl (E 0, 384, .inl mf37)), ((ma 45), .inl (E 0, 130, .inl u.2.2.2.1)), ((ma 46), .inl (E 0, 24, .inl u.2.2.2.2.1))])) (va_A [(mh, .inr (9, G9 ma mcode mtoday moffs mmany msumW msumA msumR msumWW msumWA msumAA msumWR msumAR mupper mlower mrates mtaped mlaid mat mtk mtkAt mtkNumber mwaits mlisted mdealtMany)), ((ma 2), .inl (E 0, 400, .inl mf2)), ((ma 3), .inl (E 0, 16, .inl mf3)), ((ma 4), .inl (E 0, 16, .inl mf4)), ((ma 5), .inl (E 1, 6400, .inl mf5)), ((ma 6), .inl (E 0, 6400, .inl mf6)), ((ma 7), .inl (E 0, 6400, .inl mf7)), ((ma 8), .inl (E 1, 6400, .inl mf8)), ((ma 9), .inl (E 1, 6400, .inl mf9)), ((ma 12), .inl (E 0, 60, .inl mf12)), ((ma 13), .inl (E 0, 60, .inl mf13)), ((ma 14), .inl (E 0, 60, .inl mf14)), ((ma 15), .inl (E 0, 60, .inl mf15)), ((ma 16), .inl (E 0, 60, .inl mf16)), ((ma 29), .inl (E 0, 60, .inl mf29)), ((ma 30), .inl (E 0, 60, .inl mf30)), ((ma 31), .inl (E 0, 60, .inl mf31)), ((ma 34), .inl (E 1, 2, .inl mf34)), ((ma 35), .inl (E 0, 2, .inl mf35)), ((ma 36), .inl (E 0, 384, .inl mf36)), ((ma 37), .inl (E 0, 384, .inl mf37)), ((ma 45), .inl (E 0, 130, .inl mf45)), ((ma 46), .inl (E 0, 24, .inl mf46))] sz)) 0 0 (va_A [(mh, .inr (9, G9 ma mcode mtoday moffs mmany msumW msumA msumR msumWW msumWA msumAA msumWR msumAR mupper mlower mrates mtaped mlaid mat mtk mtkAt mtkNumber mwaits mlisted mdealtMany)), ((ma 2), .inl (E 0, 400, .inl mf2)), ((ma 3), .inl (E 0, 16, .inl mf3)), ((ma 4), .inl (E 0, 16, .inl mf4)), ((ma 5), .inl (E 1, 6400, .inl mf5)), ((ma 6), .inl (E 0, 6400, .inl mf6)), ((ma 7), .inl (E 0, 6400, .inl mf7)), ((ma 8), .inl (E 1, 6400, .inl mf8)), ((ma 9), .inl (E 1, 6400, .inl mf9)), ((ma 12), .inl (E 0, 60, .inl mf12)), ((ma 13), .inl (E 0, 60, .inl mf13)), ((ma 14), .inl (E 0, 60, .inl mf14)), ((ma 15), .inl (E 0, 60, .inl mf15)), ((ma 16), .inl (E 0, 60, .inl mf16)), ((ma 29), .inl (E 0, 60, .inl mf29)), ((ma 30), .inl (E 0, 60, .inl mf30)), ((ma 31), .inl (E 0, 60, .inl mf31)), ((ma 34), .inl (E 1, 2, .inl mf34)), ((ma 35), .inl (E 0, 2, .inl mf35)), ((ma 36), .inl (E 0, 384, .inl mf36)), ((ma 37), .inl (E 0, 384, .inl mf37)), ((ma 45), .inl (E 0, 130, .inl mf45)), ((ma 46), .inl (E 0, 24, .inl mf46))] sz) := by
  refine Met.ofW (cc := cX9_trial) (maxL := 4) (ret := (some .int)) (by decide) rfl ?_
  intro p e s m args below meth c s₁ B hml hv
  obtain ⟨rfl, hsz, hP, hK, hD0⟩ := hv
  have hx := B.exec; have hb := B.bytes; have hr := B.returns
  have hts := atoms_spec (ws := wl yX9_trial cX9_trial 4 (some .int)) B.pre
  have htb : ∀ w ∈ tb, w.before _ s = true := fun w h => hts w (List.mem_cons_of_mem _ h)
  have hown : s.vm.findClass RX9 = some m.cls := findClass_of_methodNamed B.named
  have hlocks := B.notSynchronized
  subst hsz
  have hD := hD0.self (sz := s.heap.size)
  generalize hAe : va_A [(mh, .inr (9, G9 ma mcode mtoday moffs mmany msumW msumA msumR msumWW msumWA msumAA msumWR msumAR mupper mlower mrates mtaped mlaid mat mtk mtkAt mtkNumber mwaits mlisted mdealtMany)), ((ma 2), .inl (E 0, 400, .inl mf2)), ((ma 3), .inl (E 0, 16, .inl mf3)), ((ma 4), .inl (E 0, 16, .inl mf4)), ((ma 5), .inl (E 1, 6400, .inl mf5)), ((ma 6), .inl (E 0, 6400, .inl mf6)), ((ma 7), .inl (E 0, 6400, .inl mf7)), ((ma 8), .inl (E 1, 6400, .inl mf8)), ((ma 9), .inl (E 1, 6400, .inl mf9)), ((ma 12), .inl (E 0, 60, .inl mf12)), ((ma 13), .inl (E 0, 60, .inl mf13)), ((ma 14), .inl (E 0, 60, .inl mf14)), ((ma 15), .inl (E 0, 60, .inl mf15)), ((ma 16), .inl (E 0, 60, .inl mf16)), ((ma 29), .inl (E 0, 60, .inl mf29)), ((ma 30), .inl (E 0, 60, .inl mf30)), ((ma 31), .inl (E 0, 60, .inl mf31)), ((ma 34), .inl (E 1, 2, .inl mf34)), ((ma 35), .inl (E 0, 2, .inl mf35)), ((ma 36), .inl (E 0, 384, .inl mf36)), ((ma 37), .inl (E 0, 384, .inl mf37)), ((ma 45), .inl (E 0, 130, .inl mf45)), ((ma 46), .inl (E 0, 24, .inl mf46))] s.heap.size = A at hD ⊢
  have hA : ∀ q : Nat, s.heap.size ≤ q → A q := fun q h => by rw [← hAe]; exact Or.inr h
  have hS : va_S A s.heap s.heap [] := va_S.rf
  have hP : va_P D vwCl [(mh, .inr (9, G9 ma mcode mtoday moffs mmany msumW msumA msumR msumWW msumWA msumAA msumWR msumAR mupper mlower mrates mtaped mlaid mat mtk mtkAt mtkNumber mwaits mlisted mdealtMany)), ((ma 2), .inl (E 0, 400, .inl mf2)), ((ma 3), .inl (E 0, 16, .inl mf3)), ((ma 4), .inl (E 0, 16, .inl mf4)), ((ma 5), .inl (E 1, 6400, .inl mf5)), ((ma 6), .inl (E 0, 6400, .inl mf6)), ((ma 7), .inl (E 0, 6400, .inl mf7)), ((ma 8), .inl (E 1, 6400, .inl mf8)), ((ma 9), .inl (E 1, 6400, .inl mf9)), ((ma 12), .inl (E 0, 60, .inl mf12)), ((ma 13), .inl (E 0, 60, .inl mf13)), ((ma 14), .inl (E 0, 60, .inl mf14)), ((ma 15), .inl (E 0, 60, .inl mf15)), ((ma 16), .inl (E 0, 60, .inl mf16)), ((ma 29), .inl (E 0, 60, .inl mf29)), ((ma 30), .inl (E 0, 60, .inl mf30)), ((ma 31), .inl (E 0, 60, .inl mf31)), ((ma 34), .inl (E 1, 2, .inl mf34)), ((ma 35), .inl (E 0, 2, .inl mf35)), ((ma 36), .inl (E 0, 384, .inl mf36)), ((ma 37), .inl (E 0, 384, .inl mf37)), ((ma 45), .inl (E 0, 130, .inl mf45)), ((ma 46), .inl (E 0, 24, .inl mf46))] s.heap := hP
  have hl := lv_entry ([.ref mh, .int p0, .int p1, .int p2]) (n := 4) (Nat.le_of_ble_eq_true rfl)
  rw [lg_entry_eq]
  generalize (lg_sl ([.ref mh, .int p0, .int p1, .int p2]) ++ List.replicate (4 - (lg_sl ([.ref mh, .int p0, .int p1, .int p2])).length) Slot.unset).toArray = ls at hl ⊢
  have hl : lv_has ls 4 [(0, .ref mh), (1, .int p0), (2, .int p1), (3, .int p2)] := hl
  have lo_p0 := i_lo p0; have hi_p0 := i_hi p0
  have lo_p1 := i_lo p1; have hi_p1 := i_hi p1
  have lo_p2 := i_lo p2; have hi_p2 := i_hi p2
  refine lv_aload_n hx hb dX9_trial_0 rfl (lv_at hl 0 rfl) ?_
  refine lv_iload_n hx hb dX9_trial_1 rfl (lv_at hl 1 rfl) ?_
  refine lv_iload_n hx hb dX9_trial_2 rfl (lv_at hl 2 rfl) ?_
  refine lv_iload_n hx hb dX9_trial_3 rfl (lv_at hl 3 rfl) ?_
  refine callRV (rest := []) (As := [.int p0, .int p1, .int p2]) hx hb hml hown htb hK (g_X9_asked l D E mh ma mcode mtoday moffs mmany msumW msumA msumR msumWW msumWA msumAA msumWR msumAR mupper mlower mrates mtaped mlaid mat mtk mtkAt mtkNumber mwaits mlisted mdealtMany mf3 p0 p1 p2 (by (try dsimp only); omega)) ok_X9_asked k_1269 k_1271 ks_45 k_9 k_1272 ⟨(Nat.le_of_ble_eq_true rfl), (Nat.le_of_ble_eq_true rfl)⟩ ⟨(Nat.le_of_ble_eq_true rfl), (Nat.le_of_ble_eq_true rfl)⟩ hl.1 (Nat.le_of_ble_eq_true rfl) rfl rfl dX9_trial_4 (hP.sub (ws' := [(mh, .inr (9, G9 ma mcode mtoday moffs mmany msumW msumA msumR msumWW msumWA msumAA msumWR msumAR mupper mlower mrates mtaped mlaid mat mtk mtkAt mtkNumber mwaits mlisted mdealtMany)), ((ma 3), .inl (E 0, 16, .inl mf3))]) [0, 2] rfl) rfl rfl 0 rfl (fun r_1 hw_2 => ?_)
  refine lv_if_ge (tgt := 15) hx hb dX9_trial_7 (by decide) (fun c_4 => ?_) (fun c_4 => ?_)
  ·
    have ic_4 : 0 ≤ r_1.toInt := by first | exact (g_le t_0 rfl).mp c_4 | (have h := mt (g_lt rfl t_0).mpr c_4; omega)
    clear c_4
    refine lv_aload_n hx hb dX9_trial_15 rfl (lv_at hl 0 rfl) ?_
    refine lv_iload_n hx hb dX9_trial_16 rfl (lv_at hl 1 rfl) ?_
    refine lv_iload_n hx hb dX9_trial_17 rfl (lv_at hl 2 rfl) ?_
    refine lv_iload_n hx hb dX9_trial_18 rfl (lv_at hl 3 rfl) ?_
    have hPc := hP.sub (ws' := [(mh, .inr (9, G9 ma mcode mtoday moffs mmany msumW msumA msumR msumWW msumWA msumAA msumWR msumAR mupper mlower mrates mtaped mlaid mat mtk mtkAt mtkNumber mwaits mlisted mdealtMany)), ((ma 2), .inl (E 0, 400, .inl mf2)), ((ma 3), .inl (E 0, 16, .inl mf3)), ((ma 4), .inl (E 0, 16, .inl mf4)), ((ma 5), .inl (E 1, 6400, .inl mf5)), ((ma 6), .inl (E 0, 6400, .inl mf6)), ((ma 7), .inl (E 0, 6400, .inl mf7)), ((ma 8), .inl (E 1, 6400, .inl mf8)), ((ma 9), .inl (E 1, 6400, .inl mf9)), ((ma 12), .inl (E 0, 60, .inl mf12)), ((ma 13), .inl (E 0, 60, .inl mf13)), ((ma 14), .inl (E 0, 60, .inl mf14)), ((ma 15), .inl (E 0, 60, .inl mf15)), ((ma 16), .inl (E 0, 60, .inl mf16)), ((ma 29), .inl (E 0, 60, .inl mf29)), ((ma 30), .inl (E 0, 60, .inl mf30)), ((ma 31), .inl (E 0, 60, .inl mf31)), ((ma 34), .inl (E 1, 2, .inl mf34)), ((ma 35), .inl (E 0, 2, .inl mf35)), ((ma 36), .inl (E 0, 384, .inl mf36)), ((ma 37), .inl (E 0, 384, .inl mf37)), ((ma 45), .inl (E 0, 130, .inl mf45)), ((ma 46), .inl (E 0, 24, .inl mf46))]) [0, 1, 2, 3, 4, 5, 6, 7, 8, 9, 10, 11, 12, 13, 14, 15, 16, 17, 18, 19, 20, 21, 22] rfl
    have hDc := hD.sub (ws' := [(mh, .inr (9, G9 ma mcode mtoday moffs mmany msumW msumA msumR msumWW msumWA msumAA msumWR msumAR mupper mlower mrates mtaped mlaid mat mtk mtkAt mtkNumber mwaits mlisted mdealtMany)), ((ma 2), .inl (E 0, 400, .inl mf2)), ((ma 3), .inl (E 0, 16, .inl mf3)), ((ma 4), .inl (E 0, 16, .inl mf4)), ((ma 5), .inl (E 1, 6400, .inl mf5)), ((ma 6), .inl (E 0, 6400, .inl mf6)), ((ma 7), .inl (E 0, 6400, .inl mf7)), ((ma 8), .inl (E 1, 6400, .inl mf8)), ((ma 9), .inl (E 1, 6400, .inl mf9)), ((ma 12), .inl (E 0, 60, .inl mf12)), ((ma 13), .inl (E 0, 60, .inl mf13)), ((ma 14), .inl (E 0, 60, .inl mf14)), ((ma 15), .inl (E 0, 60, .inl mf15)), ((ma 16), .inl (E 0, 60, .inl mf16)), ((ma 29), .inl (E 0, 60, .inl mf29)), ((ma 30), .inl (E 0, 60, .inl mf30)), ((ma 31), .inl (E 0, 60, .inl mf31)), ((ma 34), .inl (E 1, 2, .inl mf34)), ((ma 35), .inl (E 0, 2, .inl mf35)), ((ma 36), .inl (E 0, 384, .inl mf36)), ((ma 37), .inl (E 0, 384, .inl mf37)), ((ma 45), .inl (E 0, 130, .inl mf45)), ((ma 46), .inl (E 0, 24, .inl mf46))]) [0, 1, 2, 3, 4, 5, 6, 7, 8, 9, 10, 11, 12, 13, 14, 15, 16, 17, 18, 19, 20, 21, 22] (by decide) rfl
    refine aft_i (runMV (rest := []) (As := [.int p0, .int p1, .int p2]) hx hb hml hown htb hK (g_X9_trialOf l D E mh ma mcode mtoday moffs mmany msumW msumA msumR msumWW msumWA msumAA msumWR msumAR mupper mlower mrates mtaped mlaid mat mtk mtkAt mtkNumber mwaits mlisted mdealtMany mf2 mf3 mf4 mf5 mf6 mf7 mf8 mf9 mf12 mf13 mf14 mf15 mf16 mf29 mf30 mf31 mf34 mf35 mf36 mf37 mf45 mf46 p0 p1 p2 _ (by (try dsimp only); omega) hr_m29 hr_m35 (by (try dsimp only); omega) (by (try dsimp only); omega) hjw) ok_X9_trialOf k_1391 k_1393 ks_59 k_9 k_1394 ⟨(Nat.le_of_ble_eq_true rfl), (Nat.le_of_ble_eq_true rfl)⟩ ⟨(Nat.le_of_ble_eq_true rfl), (Nat.le_of_ble_eq_true rfl)⟩ hl.1 (Nat.le_of_ble_eq_true rfl) rfl rfl dX9_trial_19 hPc hDc rfl rfl 0 rfl) hP hD hS hA [0, 1, 2, 3, 4, 5, 6, 7, 8, 9, 10, 11, 12, 13, 14, 15, 16, 17, 18, 19, 20, 21, 22] [] (wr := ([] : va_W)) rfl rfl (by decide) (by decide) (fun r_5 u_7 H locs hw_6 hP hD hS => ?_)
    clear hPc hDc
    obtain ⟨w_8, w_9, w_10, w_11, w_12, w_13⟩ := u_7
    try dsimp only at hw_6
    have hP : va_P D vwCl [(mh, .inr (9, G9 ma mcode mtoday moffs mmany msumW msumA msumR msumWW msumWA msumAA msumWR msumAR mupper mlower w_13 mtaped mlaid mat mtk mtkAt mtkNumber mwaits mlisted mdealtMany)), ((ma 2), .inl (E 0, 400, .inl mf2)), ((ma 3), .inl (E 0, 16, .inl mf3)), ((ma 4), .inl (E 0, 16, .inl mf4)), ((ma 5), .inl (E 1, 6400, .inl mf5)), ((ma 6), .inl (E 0, 6400, .inl mf6)), ((ma 7), .inl (E 0, 6400, .inl mf7)), ((ma 8), .inl (E 1, 6400, .inl mf8)), ((ma 9), .inl (E 1, 6400, .inl mf9)), ((ma 12), .inl (E 0, 60, .inl mf12)), ((ma 13), .inl (E 0, 60, .inl mf13)), ((ma 14), .inl (E 0, 60, .inl mf14)), ((ma 15), .inl (E 0, 60, .inl mf15)), ((ma 16), .inl (E 0, 60, .inl mf16)), ((ma 29), .inl (E 0, 60, .inl w_8)), ((ma 30), .inl (E 0, 60, .inl w_9)), ((ma 31), .inl (E 0, 60, .inl w_10)), ((ma 34), .inl (E 1, 2, .inl mf34)), ((ma 35), .inl (E 0, 2, .inl mf35)), ((ma 36), .inl (E 0, 384, .inl mf36)), ((ma 37), .inl (E 0, 384, .inl mf37)), ((ma 45), .inl (E 0, 130, .inl w_11)), ((ma 46), .inl (E 0, 24, .inl w_12))] H := hP
    have hD := toW hP hD rfl
    obtain ⟨hw_6_0, hw_6_1⟩ := hw_6
    have hP9 := hP.sub (ws' := [(mh, .inr (9, G9 ma mcode mtoday moffs mmany msumW msumA msumR msumWW msumWA msumAA msumWR msumAR mupper mlower w_13 mtaped mlaid mat mtk mtkAt mtkNumber mwaits mlisted mdealtMany)), ((ma 2), .inl (E 0, 400, .inl mf2)), ((ma 3), .inl (E 0, 16, .inl mf3)), ((ma 4), .inl (E 0, 16, .inl mf4)), ((ma 5), .inl (E 1, 6400, .inl mf5)), ((ma 6), .inl (E 0, 6400, .inl mf6)), ((ma 7), .inl (E 0, 6400, .inl mf7)), ((ma 8), .inl (E 1, 6400, .inl mf8)), ((ma 9), .inl (E 1, 6400, .inl mf9)), ((ma 12), .inl (E 0, 60, .inl mf12)), ((ma 13), .inl (E 0, 60, .inl mf13)), ((ma 14), .inl (E 0, 60, .inl mf14)), ((ma 15), .inl (E 0, 60, .inl mf15)), ((ma 16), .inl (E 0, 60, .inl mf16)), ((ma 29), .inl (E 0, 60, .inl w_8)), ((ma 30), .inl (E 0, 60, .inl w_9)), ((ma 31), .inl (E 0, 60, .inl w_10)), ((ma 34), .inl (E 1, 2, .inl mf34)), ((ma 35), .inl (E 0, 2, .inl mf35)), ((ma 36), .inl (E 0, 384, .inl mf36)), ((ma 37), .inl (E 0, 384, .inl mf37)), ((ma 45), .inl (E 0, 130, .inl w_11)), ((ma 46), .inl (E 0, 24, .inl w_12))]) [0, 1, 2, 3, 4, 5, 6, 7, 8, 9, 10, 11, 12, 13, 14, 15, 16, 17, 18, 19, 20, 21, 22] rfl
    have hD9 := hD.sub (ws' := [(mh, .inr (9, G9 ma mcode mtoday moffs mmany msumW msumA msumR msumWW msumWA msumAA msumWR msumAR mupper mlower w_13 mtaped mlaid mat mtk mtkAt mtkNumber mwaits mlisted mdealtMany)), ((ma 2), .inl (E 0, 400, .inl mf2)), ((ma 3), .inl (E 0, 16, .inl mf3)), ((ma 4), .inl (E 0, 16, .inl mf4)), ((ma 5), .inl (E 1, 6400, .inl mf5)), ((ma 6), .inl (E 0, 6400, .inl mf6)), ((ma 7), .inl (E 0, 6400, .inl mf7)), ((ma 8), .inl (E 1, 6400, .inl mf8)), ((ma 9), .inl (E 1, 6400, .inl mf9)), ((ma 12), .inl (E 0, 60, .inl mf12)), ((ma 13), .inl (E 0, 60, .inl mf13)), ((ma 14), .inl (E 0, 60, .inl mf14)), ((ma 15), .inl (E 0, 60, .inl mf15)), ((ma 16), .inl (E 0, 60, .inl mf16)), ((ma 29), .inl (E 0, 60, .inl w_8)), ((ma 30), .inl (E 0, 60, .inl w_9)), ((ma 31), .inl (E 0, 60, .inl w_10)), ((ma 34), .inl (E 1, 2, .inl mf34)), ((ma 35), .inl (E 0, 2, .inl mf35)), ((ma 36), .inl (E 0, 384, .inl mf36)), ((ma 37), .inl (E 0, 384, .inl mf37)), ((ma 45), .inl (E 0, 130, .inl w_11)), ((ma 46), .inl (E 0, 24, .inl w_12))]) [0, 1, 2, 3, 4, 5, 6, 7, 8, 9, 10, 11, 12, 13, 14, 15, 16, 17, 18, 19, 20, 21, 22] (by decide) rfl
    exact W.iret (v := r_5) hx hb hr (fun t ht hW => ⟨⟨r_5, (w_8, w_9, w_10, w_11, w_12, w_13), rfl, ⟨hw_6_0, (by (try dsimp only); omega)⟩, by rw [ht]; exact hP9, hD9⟩, hS.F ht⟩) hS.2.2 dX9_trial_22
  ·
    have ic_4 : r_1.toInt < 0 := by first | exact (g_lt rfl t_0).mp c_4 | (have h := mt (g_le t_0 rfl).mpr c_4; omega)
    clear c_4
    refine lv_ldc hx hb hown (htb _ k_1205) dX9_trial_10 ?_
    refine lv_goto (tgt := 22) hx hb dX9_trial_12 (by decide) ?_
    have hP9 := hP.sub (ws' := [(mh, .inr (9, G9 ma mcode mtoday moffs mmany msumW msumA msumR msumWW msumWA msumAA msumWR msumAR mupper mlower mrates mtaped mlaid mat mtk mtkAt mtkNumber mwaits mlisted mdealtMany)), ((ma 2), .inl (E 0, 400, .inl mf2)), ((ma 3), .inl (E 0, 16, .inl mf3)), ((ma 4), .inl (E 0, 16, .inl mf4)), ((ma 5), .inl (E 1, 6400, .inl mf5)), ((ma 6), .inl (E 0, 6400, .inl mf6)), ((ma 7), .inl (E 0, 6400, .inl mf7)), ((ma 8), .inl (E 1, 6400, .inl mf8)), ((ma 9), .inl (E 1, 6400, .inl mf9)), ((ma 12), .inl (E 0, 60, .inl mf12)), ((ma 13), .inl (E 0, 60, .inl mf13)), ((ma 14), .inl (E 0, 60, .inl mf14)), ((ma 15), .inl (E 0, 60, .inl mf15)), ((ma 16), .inl (E 0, 60, .inl mf16)), ((ma 29), .inl (E 0, 60, .inl mf29)), ((ma 30), .inl (E 0, 60, .inl mf30)), ((ma 31), .inl (E 0, 60, .inl mf31)), ((ma 34), .inl (E 1, 2, .inl mf34)), ((ma 35), .inl (E 0, 2, .inl mf35)), ((ma 36), .inl (E 0, 384, .inl mf36)), ((ma 37), .inl (E 0, 384, .inl mf37)), ((ma 45), .inl (E 0, 130, .inl mf45)), ((ma 46), .inl (E 0, 24, .inl mf46))]) [0, 1, 2, 3, 4, 5, 6, 7, 8, 9, 10, 11, 12, 13, 14, 15, 16, 17, 18, 19, 20, 21, 22] rfl
    have hD9 := hD.sub (ws' := [(mh, .inr (9, G9 ma mcode mtoday moffs mmany msumW msumA msumR msumWW msumWA msumAA msumWR msumAR mupper mlower mrates mtaped mlaid mat mtk mtkAt mtkNumber mwaits mlisted mdealtMany)), ((ma 2), .inl (E 0, 400, .inl mf2)), ((ma 3), .inl (E 0, 16, .inl mf3)), ((ma 4), .inl (E 0, 16, .inl mf4)), ((ma 5), .inl (E 1, 6400, .inl mf5)), ((ma 6), .inl (E 0, 6400, .inl mf6)), ((ma 7), .inl (E 0, 6400, .inl mf7)), ((ma 8), .inl (E 1, 6400, .inl mf8)), ((ma 9), .inl (E 1, 6400, .inl mf9)), ((ma 12), .inl (E 0, 60, .inl mf12)), ((ma 13), .inl (E 0, 60, .inl mf13)), ((ma 14), .inl (E 0, 60, .inl mf14)), ((ma 15), .inl (E 0, 60, .inl mf15)), ((ma 16), .inl (E 0, 60, .inl mf16)), ((ma 29), .inl (E 0, 60, .inl mf29)), ((ma 30), .inl (E 0, 60, .inl mf30)), ((ma 31), .inl (E 0, 60, .inl mf31)), ((ma 34), .inl (E 1, 2, .inl mf34)), ((ma 35), .inl (E 0, 2, .inl mf35)), ((ma 36), .inl (E 0, 384, .inl mf36)), ((ma 37), .inl (E 0, 384, .inl mf37)), ((ma 45), .inl (E 0, 130, .inl mf45)), ((ma 46), .inl (E 0, 24, .inl mf46))]) [0, 1, 2, 3, 4, 5, 6, 7, 8, 9, 10, 11, 12, 13, 14, 15, 16, 17, 18, 19, 20, 21, 22] (by decide) rfl
    exact W.iret (v := (-2000000000)) hx hb hr (fun t ht hW => ⟨⟨(-2000000000), (mf29, mf30, mf31, mf45, mf46, mrates), rfl, ⟨hr_m29, (by (try dsimp only); omega)⟩, by rw [ht]; exact hP9, hD9⟩, hS.F ht⟩) hS.2.2 dX9_trial_22
set_option maxHeartbeats 4000000 in
set_option maxRecDepth 100000 in
theorem g_X9_order (l : Launch) (D : va_G) (E : Nat → Nat) (mh : Nat) (ma : Nat → Nat) (mcode : Int32) (mtoday : Int32) (moffs : Int32) (mmany : Int64) (msumW : Int64) (msumA : Int64) (msumR : Int64) (msumWW : Int64) (msumWA : Int64) (msumAA : Int64) (msumWR : Int64) (msumAR : Int64) (mupper : Int64) (mlower : Int64) (mrates : Int32) (mtaped : Int32) (mlaid : Int32) (mat : Int32) (mtk : Int32) (mtkAt : Int32) (mtkNumber : Int32) (mwaits : Int32) (mlisted : Int32) (mdealtMany : Int32) (mf2 : Nat → Int32) (mf3 : Nat → Int32) (mf4 : Nat → Int32) (mf5 : Nat → Int32) (mf6 : Nat → Int32) (mf7 : Nat → Int32) (mf8 : Nat → Int32) (mf9 : Nat → Int32) (mf12 : Nat → Int32) (mf13 : Nat → Int32) (mf14 : Nat → Int32) (mf15 : Nat → Int32) (mf16 : Nat → Int32) (mf29 : Nat → Int32) (mf30 : Nat → Int32) (mf31 : Nat → Int32) (mf34 : Nat → Int32) (mf35 : Nat → Int32) (mf36 : Nat → Int32) (mf37 : Nat → Int32) (mf45 : Nat → Int32) (mf46 : Nat → Int32) (p0 : Int32) (p1 : Int32) (p2 : Int32) (sz : Nat) (hi_m : (0 ≤ mtoday.toInt ∧ mtoday.toInt ≤ 399) ∧ (0 ≤ moffs.toInt ∧ moffs.toInt ≤ 60) ∧ (0 ≤ mrates.toInt ∧ mrates.toInt ≤ 60) ∧ (0 ≤ mtaped.toInt ∧ mtaped.toInt ≤ 120) ∧ (0 ≤ mlisted.toInt ∧ mlisted.toInt ≤ 9) ∧ (0 ≤ mdealtMany.toInt ∧ mdealtMany.toInt ≤ 9)) (hr_m29 : ∀ k : Nat, k < 60 → 0 ≤ (mf29 k).toInt ∧ (mf29 k).toInt ≤ 399) (hr_m35 : ∀ k : Nat, k < 2 → 0 ≤ (mf35 k).toInt ∧ (mf35 k).toInt ≤ 127) (hjw : JW mf36 mf35) : Met l yX9_order (wl yX9_order cX9_order 8 (some .int)) (RM 5 0 0) (mu_P D E [.ref mh, .int p0, .int p1, .int p2] [(mh, .inr (9, G9 ma mcode mtoday moffs mmany msumW msumA msumR msumWW msumWA msumAA msumWR msumAR mupper mlower mrates mtaped mlaid mat mtk mtkAt mtkNumber mwaits mlisted mdealtMany)), ((ma 2), .inl (E 0, 400, .inl mf2)), ((ma 3), .inl (E 0, 16, .inl mf3)), ((ma 4), .inl (E 0, 16, .inl mf4)), ((ma 5), .inl (E 1, 6400, .inl mf5)), ((ma 6), .inl (E 0, 6400, .inl mf6)), ((ma 7), .inl (E 0, 6400, .inl mf7)), ((ma 8), .inl (E 1, 6400, .inl mf8)), ((ma 9), .inl (E 1, 6400, .inl mf9)), ((ma 12), .inl (E 0, 60, .inl mf12)), ((ma 13), .inl (E 0, 60, .inl mf13)), ((ma 14), .inl (E 0, 60, .inl mf14)), ((ma 15), .inl (E 0, 60, .inl mf15)), ((ma 16), .inl (E 0, 60, .inl mf16)), ((ma 29), .inl (E 0, 60, .inl mf29)), ((ma 30), .inl (E 0, 60, .inl mf30)), ((ma 31), .inl (E 0, 60, .inl mf31)), ((ma 34), .inl (E 1, 2, .inl mf34)), ((ma 35), .inl (E 0, 2, .inl mf35)), ((ma 36), .inl (E 0, 384, .inl mf36)), ((ma 37), .inl (E 0, 384, .inl mf37)), ((ma 45), .inl (E 0, 130, .inl mf45)), ((ma 46), .inl (E 0, 24, .inl mf46))] sz) (va_Qi (fun (r : Int32) (u : (Nat → Int32) × (Nat → Int32) × (Nat → Int32) × (Nat → Int32) × (Nat → Int32) × (Int32)) => (∀ k : Nat, k < 60 → 0 ≤ (u.1 k).toInt ∧ (u.1 k).toInt ≤ 399) ∧ (0 ≤ u.2.2.2.2.2.toInt ∧ u.2.2.2.2.2.toInt ≤ 60)) (mu_B D (va_A [(mh, .inr (9, G9 ma mcode mtoday moffs mmany msumW msumA msumR msumWW msumWA msumAA msumWR msumAR mupper mlower mrates mtaped mlaid mat mtk mtkAt mtkNumber mwaits mlisted mdealtMany)), ((ma 2), .inl (E 0, 400, .inl mf2)), ((ma 3), .inl (E 0, 16, .inl mf3)), ((ma 4), .inl (E 0, 16, .inl mf4)), ((ma 5), .inl (E 1, 6400, .inl mf5)), ((ma 6), .inl (E 0, 6400, .inl mf6)), ((ma 7), .inl (E 0, 6400, .inl mf7)), ((ma 8), .inl (E 1, 6400, .inl mf8)), ((ma 9), .inl (E 1, 6400, .inl mf9)), ((ma 12), .inl (E 0, 60, .inl mf12)), ((ma 13), .inl (E 0, 60, .inl mf13)), ((ma 14), .inl (E 0, 60, .inl mf14)), ((ma 15), .inl (E 0, 60, .inl mf15)), ((ma 16), .inl (E 0, 60, .inl mf16)), ((ma 29), .inl (E 0, 60, .inl mf29)), ((ma 30), .inl (E 0, 60, .inl mf30)), ((ma 31), .inl (E 0, 60, .inl mf31)), ((ma 34), .inl (E 1, 2, .inl mf34)), ((ma 35), .inl (E 0, 2, .inl mf35)), ((ma 36), .inl (E 0, 384, .inl mf36)), ((ma 37), .inl (E 0, 384, .inl mf37)), ((ma 45), .inl (E 0, 130, .inl mf45)), ((ma 46), .inl (E 0, 24, .inl mf46))] sz) (fun (u : (Nat → Int32) × (Nat → Int32) × (Nat → Int32) × (Nat → Int32) × (Nat → Int32) × (Int32)) => [(mh, .inr (9, G9 ma mcode mtoday moffs mmany msumW msumA msumR msumWW msumWA msumAA msumWR msumAR mupper mlower u.2.2.2.2.2 mtaped mlaid mat mtk mtkAt mtkNumber mwaits mlisted mdealtMany)), ((ma 2), .inl (E 0, 400, .inl mf2)), ((ma 3), .inl (E 0, 16, .inl mf3)), ((ma 4), .inl (E 0, 16, .inl mf4)), ((ma 5), .inl (E 1, 6400, .inl mf5)), ((ma 6), .inl (E 0, 6400, .inl mf6)), ((ma 7), .inl (E 0, 6400, .inl mf7)), ((ma 8), .inl (E 1, 6400, .inl mf8)), ((ma 9), .inl (E 1, 6400, .inl mf9)), ((ma 12), .inl (E 0, 60, .inl mf12)), ((ma 13), .inl (E 0, 60, .inl mf13)), ((ma 14), .inl (E 0, 60, .inl mf14)), ((ma 15), .inl (E 0, 60, .inl mf15)), ((ma 16), .inl (E 0, 60, .inl mf16)), ((ma 29), .inl (E 0, 60, .inl u.1)), ((ma 30), .inl (E 0, 60, .inl u.2.1)), ((ma 31), .inl (E 0, 60, .inl u.2.2.1)), ((ma 34), .inl (E 1, 2, .inl mf34)), ((ma 35), .inl (E 0, 2, .inl mf35)), ((ma 36), .inl (E 0, 384, .inl mf36)), ((ma 37), .inl (E 0, 384, .inl mf37)), ((ma 45), .inl (E 0, 130, .inl u.2.2.2.1)), ((ma 46), .inl (E 0, 24, .inl u.2.2.2.2.1))])) (va_A [(mh, .inr (9, G9 ma mcode mtoday moffs mmany msumW msumA msumR msumWW msumWA msumAA msumWR msumAR mupper mlower mrates mtaped mlaid mat mtk mtkAt mtkNumber mwaits mlisted mdealtMany)), ((ma 2), .inl (E 0, 400, .inl mf2)), ((ma 3), .inl (E 0, 16, .inl mf3)), ((ma 4), .inl (E 0, 16, .inl mf4)), ((ma 5), .inl (E 1, 6400, .inl mf5)), ((ma 6), .inl (E 0, 6400, .inl mf6)), ((ma 7), .inl (E 0, 6400, .inl mf7)), ((ma 8), .inl (E 1, 6400, .inl mf8)), ((ma 9), .inl (E 1, 6400, .inl mf9)), ((ma 12), .inl (E 0, 60, .inl mf12)), ((ma 13), .inl (E 0, 60, .inl mf13)), ((ma 14), .inl (E 0, 60, .inl mf14)), ((ma 15), .inl (E 0, 60, .inl mf15)), ((ma 16), .inl (E 0, 60, .inl mf16)), ((ma 29), .inl (E 0, 60, .inl mf29)), ((ma 30), .inl (E 0, 60, .inl mf30)), ((ma 31), .inl (E 0, 60, .inl mf31)), ((ma 34), .inl (E 1, 2, .inl mf34)), ((ma 35), .inl (E 0, 2, .inl mf35)), ((ma 36), .inl (E 0, 384, .inl mf36)), ((ma 37), .inl (E 0, 384, .inl mf37)), ((ma 45), .inl (E 0, 130, .inl mf45)), ((ma 46), .inl (E 0, 24, .inl mf46))] sz)) 0 0 (va_A [(mh, .inr (9, G9 ma mcode mtoday moffs mmany msumW msumA msumR msumWW msumWA msumAA msumWR msumAR mupper mlower mrates mtaped mlaid mat mtk mtkAt mtkNumber mwaits mlisted mdealtMany)), ((ma 2), .inl (E 0, 400, .inl mf2)), ((ma 3), .inl (E 0, 16, .inl mf3)), ((ma 4), .inl (E 0, 16, .inl mf4)), ((ma 5), .inl (E 1, 6400, .inl mf5)), ((ma 6), .inl (E 0, 6400, .inl mf6)), ((ma 7), .inl (E 0, 6400, .inl mf7)), ((ma 8), .inl (E 1, 6400, .inl mf8)), ((ma 9), .inl (E 1, 6400, .inl mf9)), ((ma 12), .inl (E 0, 60, .inl mf12)), ((ma 13), .inl (E 0, 60, .inl mf13)), ((ma 14), .inl (E 0, 60, .inl mf14)), ((ma 15), .inl (E 0, 60, .inl mf15)), ((ma 16), .inl (E 0, 60, .inl mf16)), ((ma 29), .inl (E 0, 60, .inl mf29)), ((ma 30), .inl (E 0, 60, .inl mf30)), ((ma 31), .inl (E 0, 60, .inl mf31)), ((ma 34), .inl (E 1, 2, .inl mf34)), ((ma 35), .inl (E 0, 2, .inl mf35)), ((ma 36), .inl (E 0, 384, .inl mf36)), ((ma 37), .inl (E 0, 384, .inl mf37)), ((ma 45), .inl (E 0, 130, .inl mf45)), ((ma 46), .inl (E 0, 24, .inl mf46))] sz) := by
  refine Met.ofW (cc := cX9_order) (maxL := 8) (ret := (some .int)) (by decide) rfl ?_
  intro p e s m args below meth c s₁ B hml hv
  obtain ⟨rfl, hsz, hP, hK, hD0⟩ := hv
  have hx := B.exec; have hb := B.bytes; have hr := B.returns
  have hts := atoms_spec (ws := wl yX9_order cX9_order 8 (some .int)) B.pre
  have htb : ∀ w ∈ tb, w.before _ s = true := fun w h => hts w (List.mem_cons_of_mem _ h)
  have hown : s.vm.findClass RX9 = some m.cls := findClass_of_methodNamed B.named
  have hlocks := B.notSynchronized
  subst hsz
  have hD := hD0.self (sz := s.heap.size)
  generalize hAe : va_A [(mh, .inr (9, G9 ma mcode mtoday moffs mmany msumW msumA msumR msumWW msumWA msumAA msumWR msumAR mupper mlower mrates mtaped mlaid mat mtk mtkAt mtkNumber mwaits mlisted mdealtMany)), ((ma 2), .inl (E 0, 400, .inl mf2)), ((ma 3), .inl (E 0, 16, .inl mf3)), ((ma 4), .inl (E 0, 16, .inl mf4)), ((ma 5), .inl (E 1, 6400, .inl mf5)), ((ma 6), .inl (E 0, 6400, .inl mf6)), ((ma 7), .inl (E 0, 6400, .inl mf7)), ((ma 8), .inl (E 1, 6400, .inl mf8)), ((ma 9), .inl (E 1, 6400, .inl mf9)), ((ma 12), .inl (E 0, 60, .inl mf12)), ((ma 13), .inl (E 0, 60, .inl mf13)), ((ma 14), .inl (E 0, 60, .inl mf14)), ((ma 15), .inl (E 0, 60, .inl mf15)), ((ma 16), .inl (E 0, 60, .inl mf16)), ((ma 29), .inl (E 0, 60, .inl mf29)), ((ma 30), .inl (E 0, 60, .inl mf30)), ((ma 31), .inl (E 0, 60, .inl mf31)), ((ma 34), .inl (E 1, 2, .inl mf34)), ((ma 35), .inl (E 0, 2, .inl mf35)), ((ma 36), .inl (E 0, 384, .inl mf36)), ((ma 37), .inl (E 0, 384, .inl mf37)), ((ma 45), .inl (E 0, 130, .inl mf45)), ((ma 46), .inl (E 0, 24, .inl mf46))] s.heap.size = A at hD ⊢
  have hA : ∀ q : Nat, s.heap.size ≤ q → A q := fun q h => by rw [← hAe]; exact Or.inr h
  have hS : va_S A s.heap s.heap [] := va_S.rf
  have hP : va_P D vwCl [(mh, .inr (9, G9 ma mcode mtoday moffs mmany msumW msumA msumR msumWW msumWA msumAA msumWR msumAR mupper mlower mrates mtaped mlaid mat mtk mtkAt mtkNumber mwaits mlisted mdealtMany)), ((ma 2), .inl (E 0, 400, .inl mf2)), ((ma 3), .inl (E 0, 16, .inl mf3)), ((ma 4), .inl (E 0, 16, .inl mf4)), ((ma 5), .inl (E 1, 6400, .inl mf5)), ((ma 6), .inl (E 0, 6400, .inl mf6)), ((ma 7), .inl (E 0, 6400, .inl mf7)), ((ma 8), .inl (E 1, 6400, .inl mf8)), ((ma 9), .inl (E 1, 6400, .inl mf9)), ((ma 12), .inl (E 0, 60, .inl mf12)), ((ma 13), .inl (E 0, 60, .inl mf13)), ((ma 14), .inl (E 0, 60, .inl mf14)), ((ma 15), .inl (E 0, 60, .inl mf15)), ((ma 16), .inl (E 0, 60, .inl mf16)), ((ma 29), .inl (E 0, 60, .inl mf29)), ((ma 30), .inl (E 0, 60, .inl mf30)), ((ma 31), .inl (E 0, 60, .inl mf31)), ((ma 34), .inl (E 1, 2, .inl mf34)), ((ma 35), .inl (E 0, 2, .inl mf35)), ((ma 36), .inl (E 0, 384, .inl mf36)), ((ma 37), .inl (E 0, 384, .inl mf37)), ((ma 45), .inl (E 0, 130, .inl mf45)), ((ma 46), .inl (E 0, 24, .inl mf46))] s.heap := hP
  have hl := lv_entry ([.ref mh, .int p0, .int p1, .int p2]) (n := 8) (Nat.le_of_ble_eq_true rfl)
  rw [lg_entry_eq]
  generalize (lg_sl ([.ref mh, .int p0, .int p1, .int p2]) ++ List.replicate (8 - (lg_sl ([.ref mh, .int p0, .int p1, .int p2])).length) Slot.unset).toArray = ls at hl ⊢
  have hl : lv_has ls 8 [(0, .ref mh), (1, .int p0), (2, .int p1), (3, .int p2)] := hl
  have lo_p0 := i_lo p0; have hi_p0 := i_hi p0
  have lo_p1 := i_lo p1; have hi_p1 := i_hi p1
  have lo_p2 := i_lo p2; have hi_p2 := i_hi p2
  refine lv_aload_n hx hb dX9_order_0 rfl (lv_at hl 0 rfl) ?_
  refine lv_iload_n hx hb dX9_order_1 rfl (lv_at hl 1 rfl) ?_
  refine lv_iload_n hx hb dX9_order_2 rfl (lv_at hl 2 rfl) ?_
  refine lv_iload_n hx hb dX9_order_3 rfl (lv_at hl 3 rfl) ?_
  refine callRV (rest := []) (As := [.int p0, .int p1, .int p2]) hx hb hml hown htb hK (g_X9_asked l D E mh ma mcode mtoday moffs mmany msumW msumA msumR msumWW msumWA msumAA msumWR msumAR mupper mlower mrates mtaped mlaid mat mtk mtkAt mtkNumber mwaits mlisted mdealtMany mf3 p0 p1 p2 (by (try dsimp only); omega)) ok_X9_asked k_1269 k_1271 ks_45 k_9 k_1272 ⟨(Nat.le_of_ble_eq_true rfl), (Nat.le_of_ble_eq_true rfl)⟩ ⟨(Nat.le_of_ble_eq_true rfl), (Nat.le_of_ble_eq_true rfl)⟩ hl.1 (Nat.le_of_ble_eq_true rfl) rfl rfl dX9_order_4 (hP.sub (ws' := [(mh, .inr (9, G9 ma mcode mtoday moffs mmany msumW msumA msumR msumWW msumWA msumAA msumWR msumAR mupper mlower mrates mtaped mlaid mat mtk mtkAt mtkNumber mwaits mlisted mdealtMany)), ((ma 3), .inl (E 0, 16, .inl mf3))]) [0, 2] rfl) rfl rfl 0 rfl (fun r_1 hw_2 => ?_)
  refine lv_istore (lv' := [(4, .int r_1), (0, .ref mh), (1, .int p0), (2, .int p1), (3, .int p2)]) hx hb dX9_order_7 hl (by decide) rfl (fun ls hl => ?_)
  refine lv_iload hx hb dX9_order_9 (lv_at hl 0 rfl) ?_
  refine lv_if_ge (tgt := 17) hx hb dX9_order_11 (by decide) (fun c_4 => ?_) (fun c_4 => ?_)
  ·
    have ic_4 : 0 ≤ r_1.toInt := by first | exact (g_le t_0 rfl).mp c_4 | (have h := mt (g_lt rfl t_0).mpr c_4; omega)
    clear c_4
    refine lv_aload_n hx hb dX9_order_17 rfl (lv_at hl 1 rfl) ?_
    refine lv_iload_n hx hb dX9_order_18 rfl (lv_at hl 2 rfl) ?_
    refine lv_iload_n hx hb dX9_order_19 rfl (lv_at hl 3 rfl) ?_
    refine lv_iload_n hx hb dX9_order_20 rfl (lv_at hl 4 rfl) ?_
    have hPc := hP.sub (ws' := [(mh, .inr (9, G9 ma mcode mtoday moffs mmany msumW msumA msumR msumWW msumWA msumAA msumWR msumAR mupper mlower mrates mtaped mlaid mat mtk mtkAt mtkNumber mwaits mlisted mdealtMany)), ((ma 5), .inl (E 1, 6400, .inl mf5)), ((ma 6), .inl (E 0, 6400, .inl mf6)), ((ma 7), .inl (E 0, 6400, .inl mf7)), ((ma 8), .inl (E 1, 6400, .inl mf8)), ((ma 9), .inl (E 1, 6400, .inl mf9)), ((ma 12), .inl (E 0, 60, .inl mf12)), ((ma 13), .inl (E 0, 60, .inl mf13)), ((ma 14), .inl (E 0, 60, .inl mf14)), ((ma 15), .inl (E 0, 60, .inl mf15)), ((ma 16), .inl (E 0, 60, .inl mf16)), ((ma 29), .inl (E 0, 60, .inl mf29)), ((ma 30), .inl (E 0, 60, .inl mf30)), ((ma 31), .inl (E 0, 60, .inl mf31)), ((ma 34), .inl (E 1, 2, .inl mf34))]) [0, 4, 5, 6, 7, 8, 9, 10, 11, 12, 13, 14, 15, 16, 17] rfl
    have hDc := hD.sub (ws' := [(mh, .inr (9, G9 ma mcode mtoday moffs mmany msumW msumA msumR msumWW msumWA msumAA msumWR msumAR mupper mlower mrates mtaped mlaid mat mtk mtkAt mtkNumber mwaits mlisted mdealtMany)), ((ma 5), .inl (E 1, 6400, .inl mf5)), ((ma 6), .inl (E 0, 6400, .inl mf6)), ((ma 7), .inl (E 0, 6400, .inl mf7)), ((ma 8), .inl (E 1, 6400, .inl mf8)), ((ma 9), .inl (E 1, 6400, .inl mf9)), ((ma 12), .inl (E 0, 60, .inl mf12)), ((ma 13), .inl (E 0, 60, .inl mf13)), ((ma 14), .inl (E 0, 60, .inl mf14)), ((ma 15), .inl (E 0, 60, .inl mf15)), ((ma 16), .inl (E 0, 60, .inl mf16)), ((ma 29), .inl (E 0, 60, .inl mf29)), ((ma 30), .inl (E 0, 60, .inl mf30)), ((ma 31), .inl (E 0, 60, .inl mf31)), ((ma 34), .inl (E 1, 2, .inl mf34))]) [0, 4, 5, 6, 7, 8, 9, 10, 11, 12, 13, 14, 15, 16, 17] (by decide) rfl
    refine aft_i (runMV (rest := []) (As := [.int p0, .int p1, .int p2]) hx hb hml hown htb hK (g_X9_hasTrial l D E mh ma mcode mtoday moffs mmany msumW msumA msumR msumWW msumWA msumAA msumWR msumAR mupper mlower mrates mtaped mlaid mat mtk mtkAt mtkNumber mwaits mlisted mdealtMany mf5 mf6 mf7 mf8 mf9 mf12 mf13 mf14 mf15 mf16 mf29 mf30 mf31 mf34 p0 p1 p2 _ (by (try dsimp only); omega) hr_m29 (by (try dsimp only); omega) (by (try dsimp only); omega)) ok_X9_hasTrial k_1406 k_1408 ks_61 k_9 k_1409 ⟨(Nat.le_of_ble_eq_true rfl), (Nat.le_of_ble_eq_true rfl)⟩ ⟨(Nat.le_of_ble_eq_true rfl), (Nat.le_of_ble_eq_true rfl)⟩ hl.1 (Nat.le_of_ble_eq_true rfl) rfl rfl dX9_order_21 hPc hDc rfl rfl 0 rfl) hP hD hS hA [0, 4, 5, 6, 7, 8, 9, 10, 11, 12, 13, 14, 15, 16, 17] [1, 2, 3, 18, 19, 20, 21, 22] (wr := [((ma 2), .inl (E 0, 400, .inl mf2)), ((ma 3), .inl (E 0, 16, .inl mf3)), ((ma 4), .inl (E 0, 16, .inl mf4)), ((ma 35), .inl (E 0, 2, .inl mf35)), ((ma 36), .inl (E 0, 384, .inl mf36)), ((ma 37), .inl (E 0, 384, .inl mf37)), ((ma 45), .inl (E 0, 130, .inl mf45)), ((ma 46), .inl (E 0, 24, .inl mf46))]) rfl rfl (by decide) (by decide) (fun r_5 u_7 H locs hw_6 hP hD hS => ?_)
    clear hPc hDc
    obtain ⟨w_8, w_9, w_10, w_11⟩ := u_7
    try dsimp only at hw_6
    have hP : va_P D vwCl [((ma 2), .inl (E 0, 400, .inl mf2)), ((ma 3), .inl (E 0, 16, .inl mf3)), ((ma 4), .inl (E 0, 16, .inl mf4)), ((ma 35), .inl (E 0, 2, .inl mf35)), ((ma 36), .inl (E 0, 384, .inl mf36)), ((ma 37), .inl (E 0, 384, .inl mf37)), ((ma 45), .inl (E 0, 130, .inl mf45)), ((ma 46), .inl (E 0, 24, .inl mf46)), (mh, .inr (9, G9 ma mcode mtoday moffs mmany msumW msumA msumR msumWW msumWA msumAA msumWR msumAR mupper mlower w_11 mtaped mlaid mat mtk mtkAt mtkNumber mwaits mlisted mdealtMany)), ((ma 5), .inl (E 1, 6400, .inl mf5)), ((ma 6), .inl (E 0, 6400, .inl mf6)), ((ma 7), .inl (E 0, 6400, .inl mf7)), ((ma 8), .inl (E 1, 6400, .inl mf8)), ((ma 9), .inl (E 1, 6400, .inl mf9)), ((ma 12), .inl (E 0, 60, .inl mf12)), ((ma 13), .inl (E 0, 60, .inl mf13)), ((ma 14), .inl (E 0, 60, .inl mf14)), ((ma 15), .inl (E 0, 60, .inl mf15)), ((ma 16), .inl (E 0, 60, .inl mf16)), ((ma 29), .inl (E 0, 60, .inl w_8)), ((ma 30), .inl (E 0, 60, .inl w_9)), ((ma 31), .inl (E 0, 60, .inl w_10)), ((ma 34), .inl (E 1, 2, .inl mf34))] H := hP
    have hD := toW hP hD rfl
    obtain ⟨hw_6_0, hw_6_1⟩ := hw_6
    refine lv_if_ne (tgt := 30) hx hb dX9_order_24 (by decide) (fun c_12 => ?_) (fun c_12 => ?_)
    ·
      have ic_12 : r_5.toInt ≠ 0 := mt (g_eq rfl t_0).mpr c_12
      clear c_12
      refine lv_aload_n hx hb dX9_order_30 rfl (lv_at hl 1 rfl) ?_
      refine lv_iload_n hx hb dX9_order_31 rfl (lv_at hl 2 rfl) ?_
      refine lv_iload_n hx hb dX9_order_32 rfl (lv_at hl 3 rfl) ?_
      refine lv_iload_n hx hb dX9_order_33 rfl (lv_at hl 4 rfl) ?_
      have hPc := hP.sub (ws' := [(mh, .inr (9, G9 ma mcode mtoday moffs mmany msumW msumA msumR msumWW msumWA msumAA msumWR msumAR mupper mlower w_11 mtaped mlaid mat mtk mtkAt mtkNumber mwaits mlisted mdealtMany)), ((ma 2), .inl (E 0, 400, .inl mf2)), ((ma 3), .inl (E 0, 16, .inl mf3)), ((ma 4), .inl (E 0, 16, .inl mf4)), ((ma 5), .inl (E 1, 6400, .inl mf5)), ((ma 6), .inl (E 0, 6400, .inl mf6)), ((ma 7), .inl (E 0, 6400, .inl mf7)), ((ma 8), .inl (E 1, 6400, .inl mf8)), ((ma 9), .inl (E 1, 6400, .inl mf9)), ((ma 12), .inl (E 0, 60, .inl mf12)), ((ma 13), .inl (E 0, 60, .inl mf13)), ((ma 14), .inl (E 0, 60, .inl mf14)), ((ma 15), .inl (E 0, 60, .inl mf15)), ((ma 16), .inl (E 0, 60, .inl mf16)), ((ma 29), .inl (E 0, 60, .inl w_8)), ((ma 30), .inl (E 0, 60, .inl w_9)), ((ma 31), .inl (E 0, 60, .inl w_10)), ((ma 34), .inl (E 1, 2, .inl mf34)), ((ma 35), .inl (E 0, 2, .inl mf35)), ((ma 36), .inl (E 0, 384, .inl mf36)), ((ma 37), .inl (E 0, 384, .inl mf37)), ((ma 45), .inl (E 0, 130, .inl mf45)), ((ma 46), .inl (E 0, 24, .inl mf46))]) [8, 0, 1, 2, 9, 10, 11, 12, 13, 14, 15, 16, 17, 18, 19, 20, 21, 22, 3, 4, 5, 6, 7] rfl
      have hDc := hD.sub (ws' := [(mh, .inr (9, G9 ma mcode mtoday moffs mmany msumW msumA msumR msumWW msumWA msumAA msumWR msumAR mupper mlower w_11 mtaped mlaid mat mtk mtkAt mtkNumber mwaits mlisted mdealtMany)), ((ma 2), .inl (E 0, 400, .inl mf2)), ((ma 3), .inl (E 0, 16, .inl mf3)), ((ma 4), .inl (E 0, 16, .inl mf4)), ((ma 5), .inl (E 1, 6400, .inl mf5)), ((ma 6), .inl (E 0, 6400, .inl mf6)), ((ma 7), .inl (E 0, 6400, .inl mf7)), ((ma 8), .inl (E 1, 6400, .inl mf8)), ((ma 9), .inl (E 1, 6400, .inl mf9)), ((ma 12), .inl (E 0, 60, .inl mf12)), ((ma 13), .inl (E 0, 60, .inl mf13)), ((ma 14), .inl (E 0, 60, .inl mf14)), ((ma 15), .inl (E 0, 60, .inl mf15)), ((ma 16), .inl (E 0, 60, .inl mf16)), ((ma 29), .inl (E 0, 60, .inl w_8)), ((ma 30), .inl (E 0, 60, .inl w_9)), ((ma 31), .inl (E 0, 60, .inl w_10)), ((ma 34), .inl (E 1, 2, .inl mf34)), ((ma 35), .inl (E 0, 2, .inl mf35)), ((ma 36), .inl (E 0, 384, .inl mf36)), ((ma 37), .inl (E 0, 384, .inl mf37)), ((ma 45), .inl (E 0, 130, .inl mf45)), ((ma 46), .inl (E 0, 24, .inl mf46))]) [8, 0, 1, 2, 9, 10, 11, 12, 13, 14, 15, 16, 17, 18, 19, 20, 21, 22, 3, 4, 5, 6, 7] (by decide) rfl
      refine aft_i (runMV (rest := []) (As := [.int p0, .int p1, .int p2]) hx hb hml hown htb hK (g_X9_trialOf l D E mh ma mcode mtoday moffs mmany msumW msumA msumR msumWW msumWA msumAA msumWR msumAR mupper mlower w_11 mtaped mlaid mat mtk mtkAt mtkNumber mwaits mlisted mdealtMany mf2 mf3 mf4 mf5 mf6 mf7 mf8 mf9 mf12 mf13 mf14 mf15 mf16 w_8 w_9 w_10 mf34 mf35 mf36 mf37 mf45 mf46 p0 p1 p2 _ (by (try dsimp only); omega) hw_6_0 hr_m35 (by (try dsimp only); omega) (by (try dsimp only); omega) hjw) ok_X9_trialOf k_1391 k_1393 ks_59 k_9 k_1394 ⟨(Nat.le_of_ble_eq_true rfl), (Nat.le_of_ble_eq_true rfl)⟩ ⟨(Nat.le_of_ble_eq_true rfl), (Nat.le_of_ble_eq_true rfl)⟩ hl.1 (Nat.le_of_ble_eq_true rfl) rfl rfl dX9_order_34 hPc hDc rfl rfl 0 rfl) hP hD hS hA [8, 0, 1, 2, 9, 10, 11, 12, 13, 14, 15, 16, 17, 18, 19, 20, 21, 22, 3, 4, 5, 6, 7] [] (wr := ([] : va_W)) rfl rfl (by decide) (by decide) (fun r_13 u_15 H locs hw_14 hP hD hS => ?_)
      clear hPc hDc
      obtain ⟨w_16, w_17, w_18, w_19, w_20, w_21⟩ := u_15
      try dsimp only at hw_14
      have hP : va_P D vwCl [(mh, .inr (9, G9 ma mcode mtoday moffs mmany msumW msumA msumR msumWW msumWA msumAA msumWR msumAR mupper mlower w_21 mtaped mlaid mat mtk mtkAt mtkNumber mwaits mlisted mdealtMany)), ((ma 2), .inl (E 0, 400, .inl mf2)), ((ma 3), .inl (E 0, 16, .inl mf3)), ((ma 4), .inl (E 0, 16, .inl mf4)), ((ma 5), .inl (E 1, 6400, .inl mf5)), ((ma 6), .inl (E 0, 6400, .inl mf6)), ((ma 7), .inl (E 0, 6400, .inl mf7)), ((ma 8), .inl (E 1, 6400, .inl mf8)), ((ma 9), .inl (E 1, 6400, .inl mf9)), ((ma 12), .inl (E 0, 60, .inl mf12)), ((ma 13), .inl (E 0, 60, .inl mf13)), ((ma 14), .inl (E 0, 60, .inl mf14)), ((ma 15), .inl (E 0, 60, .inl mf15)), ((ma 16), .inl (E 0, 60, .inl mf16)), ((ma 29), .inl (E 0, 60, .inl w_16)), ((ma 30), .inl (E 0, 60, .inl w_17)), ((ma 31), .inl (E 0, 60, .inl w_18)), ((ma 34), .inl (E 1, 2, .inl mf34)), ((ma 35), .inl (E 0, 2, .inl mf35)), ((ma 36), .inl (E 0, 384, .inl mf36)), ((ma 37), .inl (E 0, 384, .inl mf37)), ((ma 45), .inl (E 0, 130, .inl w_19)), ((ma 46), .inl (E 0, 24, .inl w_20))] H := hP
      have hD := toW hP hD rfl
      obtain ⟨hw_14_0, hw_14_1⟩ := hw_14
      refine lv_istore (lv' := [(5, .int r_13), (4, .int r_1), (0, .ref mh), (1, .int p0), (2, .int p1), (3, .int p2)]) hx hb dX9_order_37 hl (by decide) rfl (fun ls hl => ?_)
      refine lv_iconst (v := 1) hx hb dX9_order_39 (by decide) ?_
      refine lv_istore (lv' := [(6, .int 1), (5, .int r_13), (4, .int r_1), (0, .ref mh), (1, .int p0), (2, .int p1), (3, .int p2)]) hx hb dX9_order_40 hl (by decide) rfl (fun ls hl => ?_)
      refine lv_iconst (v := 0) hx hb dX9_order_42 (by decide) ?_
      refine lv_istore (lv' := [(7, .int 0), (6, .int 1), (5, .int r_13), (4, .int r_1), (0, .ref mh), (1, .int p0), (2, .int p1), (3, .int p2)]) hx hb dX9_order_43 hl (by decide) rfl (fun ls hl => ?_)
      have loop_22 : ∀ (N_24 : Nat) (L7_45 : Int32) (mrates_45 : Int32) (mf29_45 : Nat → Int32) (mf30_45 : Nat → Int32) (mf31_45 : Nat → Int32) (mf45_45 : Nat → Int32) (mf46_45 : Nat → Int32) (L6_45 : Int32) (H : Heap) (locs : List Loc) (ls : Array Slot), 16 - L7_45.toInt < (N_24 : Int) → (0 ≤ mrates_45.toInt ∧ mrates_45.toInt ≤ 60) → (∀ k : Nat, k < 60 → 0 ≤ (mf29_45 k).toInt ∧ (mf29_45 k).toInt ≤ 399) → (0 ≤ L7_45.toInt ∧ L7_45.toInt ≤ 16) → va_P D vwCl [(mh, .inr (9, G9 ma mcode mtoday moffs mmany msumW msumA msumR msumWW msumWA msumAA msumWR msumAR mupper mlower mrates_45 mtaped mlaid mat mtk mtkAt mtkNumber mwaits mlisted mdealtMany)), ((ma 2), .inl (E 0, 400, .inl mf2)), ((ma 3), .inl (E 0, 16, .inl mf3)), ((ma 4), .inl (E 0, 16, .inl mf4)), ((ma 5), .inl (E 1, 6400, .inl mf5)), ((ma 6), .inl (E 0, 6400, .inl mf6)), ((ma 7), .inl (E 0, 6400, .inl mf7)), ((ma 8), .inl (E 1, 6400, .inl mf8)), ((ma 9), .inl (E 1, 6400, .inl mf9)), ((ma 12), .inl (E 0, 60, .inl mf12)), ((ma 13), .inl (E 0, 60, .inl mf13)), ((ma 14), .inl (E 0, 60, .inl mf14)), ((ma 15), .inl (E 0, 60, .inl mf15)), ((ma 16), .inl (E 0, 60, .inl mf16)), ((ma 29), .inl (E 0, 60, .inl mf29_45)), ((ma 30), .inl (E 0, 60, .inl mf30_45)), ((ma 31), .inl (E 0, 60, .inl mf31_45)), ((ma 34), .inl (E 1, 2, .inl mf34)), ((ma 35), .inl (E 0, 2, .inl mf35)), ((ma 36), .inl (E 0, 384, .inl mf36)), ((ma 37), .inl (E 0, 384, .inl mf37)), ((ma 45), .inl (E 0, 130, .inl mf45_45)), ((ma 46), .inl (E 0, 24, .inl mf46_45))] H → va_D A [(mh, .inr (9, G9 ma mcode mtoday moffs mmany msumW msumA msumR msumWW msumWA msumAA msumWR msumAR mupper mlower mrates_45 mtaped mlaid mat mtk mtkAt mtkNumber mwaits mlisted mdealtMany)), ((ma 2), .inl (E 0, 400, .inl mf2)), ((ma 3), .inl (E 0, 16, .inl mf3)), ((ma 4), .inl (E 0, 16, .inl mf4)), ((ma 5), .inl (E 1, 6400, .inl mf5)), ((ma 6), .inl (E 0, 6400, .inl mf6)), ((ma 7), .inl (E 0, 6400, .inl mf7)), ((ma 8), .inl (E 1, 6400, .inl mf8)), ((ma 9), .inl (E 1, 6400, .inl mf9)), ((ma 12), .inl (E 0, 60, .inl mf12)), ((ma 13), .inl (E 0, 60, .inl mf13)), ((ma 14), .inl (E 0, 60, .inl mf14)), ((ma 15), .inl (E 0, 60, .inl mf15)), ((ma 16), .inl (E 0, 60, .inl mf16)), ((ma 29), .inl (E 0, 60, .inl mf29_45)), ((ma 30), .inl (E 0, 60, .inl mf30_45)), ((ma 31), .inl (E 0, 60, .inl mf31_45)), ((ma 34), .inl (E 1, 2, .inl mf34)), ((ma 35), .inl (E 0, 2, .inl mf35)), ((ma 36), .inl (E 0, 384, .inl mf36)), ((ma 37), .inl (E 0, 384, .inl mf37)), ((ma 45), .inl (E 0, 130, .inl mf45_45)), ((ma 46), .inl (E 0, 24, .inl mf46_45))] → va_S A s.heap H locs → lv_has ls 8 [(7, .int L7_45), (6, .int L6_45), (5, .int r_13), (4, .int r_1), (0, .ref mh), (1, .int p0), (2, .int p1), (3, .int p2)] → W p l e (headSpec (wl yX9_order cX9_order 8 (some .int)) (RM 5 0 0)).room s m [Value.ref mh, .int p0, .int p1, .int p2].toArray below meth c H locs 0 0 (MQ below (va_Qi (fun (r : Int32) (u : (Nat → Int32) × (Nat → Int32) × (Nat → Int32) × (Nat → Int32) × (Nat → Int32) × (Int32)) => (∀ k : Nat, k < 60 → 0 ≤ (u.1 k).toInt ∧ (u.1 k).toInt ≤ 399) ∧ (0 ≤ u.2.2.2.2.2.toInt ∧ u.2.2.2.2.2.toInt ≤ 60)) (mu_B D A (fun (u : (Nat → Int32) × (Nat → Int32) × (Nat → Int32) × (Nat → Int32) × (Nat → Int32) × (Int32)) => [(mh, .inr (9, G9 ma mcode mtoday moffs mmany msumW msumA msumR msumWW msumWA msumAA msumWR msumAR mupper mlower u.2.2.2.2.2 mtaped mlaid mat mtk mtkAt mtkNumber mwaits mlisted mdealtMany)), ((ma 2), .inl (E 0, 400, .inl mf2)), ((ma 3), .inl (E 0, 16, .inl mf3)), ((ma 4), .inl (E 0, 16, .inl mf4)), ((ma 5), .inl (E 1, 6400, .inl mf5)), ((ma 6), .inl (E 0, 6400, .inl mf6)), ((ma 7), .inl (E 0, 6400, .inl mf7)), ((ma 8), .inl (E 1, 6400, .inl mf8)), ((ma 9), .inl (E 1, 6400, .inl mf9)), ((ma 12), .inl (E 0, 60, .inl mf12)), ((ma 13), .inl (E 0, 60, .inl mf13)), ((ma 14), .inl (E 0, 60, .inl mf14)), ((ma 15), .inl (E 0, 60, .inl mf15)), ((ma 16), .inl (E 0, 60, .inl mf16)), ((ma 29), .inl (E 0, 60, .inl u.1)), ((ma 30), .inl (E 0, 60, .inl u.2.1)), ((ma 31), .inl (E 0, 60, .inl u.2.2.1)), ((ma 34), .inl (E 1, 2, .inl mf34)), ((ma 35), .inl (E 0, 2, .inl mf35)), ((ma 36), .inl (E 0, 384, .inl mf36)), ((ma 37), .inl (E 0, 384, .inl mf37)), ((ma 45), .inl (E 0, 130, .inl u.2.2.2.1)), ((ma 46), .inl (E 0, 24, .inl u.2.2.2.2.1))])) A) [Value.ref mh, .int p0, .int p1, .int p2].toArray s 0 0 A) (F0 m 45 ls []) := by
        intro N_24
        induction N_24 with
        | zero => intro L7_45 mrates_45 mf29_45 mf30_45 mf31_45 mf45_45 mf46_45 L6_45 H locs ls hm v_mrates_45 v_mf29_45 v0_45 _ _ _ _; exfalso; omega
        | succ N_24 ih_23 =>
          intro L7_45 mrates_45 mf29_45 mf30_45 mf31_45 mf45_45 mf46_45 L6_45 H locs ls hm v_mrates_45 v_mf29_45 v0_45 hP hD hS hl
          have lo_L7_45 := i_lo L7_45; have hi_L7_45 := i_hi L7_45
          have lo_mrates_45 := i_lo mrates_45; have hi_mrates_45 := i_hi mrates_45
          have lo_L6_45 := i_lo L6_45; have hi_L6_45 := i_hi L6_45
          refine lv_iload hx hb dX9_order_45 (lv_at hl 0 rfl) ?_
          refine lv_bipush (v := 16) hx hb dX9_order_47 (by decide) ?_
          refine lv_icmp_ge (tgt := 94) hx hb dX9_order_49 (by decide) (fun c_25 => ?_) (fun c_25 => ?_)
          ·
            have ic_25 : 16 ≤ L7_45.toInt := by first | exact (g_le t_16 rfl).mp c_25 | (have h := mt (g_lt rfl t_16).mpr c_25; omega)
            clear c_25
            refine lv_iload hx hb dX9_order_94 (lv_at hl 1 rfl) ?_
            have hP9 := hP.sub (ws' := [(mh, .inr (9, G9 ma mcode mtoday moffs mmany msumW msumA msumR msumWW msumWA msumAA msumWR msumAR mupper mlower mrates_45 mtaped mlaid mat mtk mtkAt mtkNumber mwaits mlisted mdealtMany)), ((ma 2), .inl (E 0, 400, .inl mf2)), ((ma 3), .inl (E 0, 16, .inl mf3)), ((ma 4), .inl (E 0, 16, .inl mf4)), ((ma 5), .inl (E 1, 6400, .inl mf5)), ((ma 6), .inl (E 0, 6400, .inl mf6)), ((ma 7), .inl (E 0, 6400, .inl mf7)), ((ma 8), .inl (E 1, 6400, .inl mf8)), ((ma 9), .inl (E 1, 6400, .inl mf9)), ((ma 12), .inl (E 0, 60, .inl mf12)), ((ma 13), .inl (E 0, 60, .inl mf13)), ((ma 14), .inl (E 0, 60, .inl mf14)), ((ma 15), .inl (E 0, 60, .inl mf15)), ((ma 16), .inl (E 0, 60, .inl mf16)), ((ma 29), .inl (E 0, 60, .inl mf29_45)), ((ma 30), .inl (E 0, 60, .inl mf30_45)), ((ma 31), .inl (E 0, 60, .inl mf31_45)), ((ma 34), .inl (E 1, 2, .inl mf34)), ((ma 35), .inl (E 0, 2, .inl mf35)), ((ma 36), .inl (E 0, 384, .inl mf36)), ((ma 37), .inl (E 0, 384, .inl mf37)), ((ma 45), .inl (E 0, 130, .inl mf45_45)), ((ma 46), .inl (E 0, 24, .inl mf46_45))]) [0, 1, 2, 3, 4, 5, 6, 7, 8, 9, 10, 11, 12, 13, 14, 15, 16, 17, 18, 19, 20, 21, 22] rfl
            have hD9 := hD.sub (ws' := [(mh, .inr (9, G9 ma mcode mtoday moffs mmany msumW msumA msumR msumWW msumWA msumAA msumWR msumAR mupper mlower mrates_45 mtaped mlaid mat mtk mtkAt mtkNumber mwaits mlisted mdealtMany)), ((ma 2), .inl (E 0, 400, .inl mf2)), ((ma 3), .inl (E 0, 16, .inl mf3)), ((ma 4), .inl (E 0, 16, .inl mf4)), ((ma 5), .inl (E 1, 6400, .inl mf5)), ((ma 6), .inl (E 0, 6400, .inl mf6)), ((ma 7), .inl (E 0, 6400, .inl mf7)), ((ma 8), .inl (E 1, 6400, .inl mf8)), ((ma 9), .inl (E 1, 6400, .inl mf9)), ((ma 12), .inl (E 0, 60, .inl mf12)), ((ma 13), .inl (E 0, 60, .inl mf13)), ((ma 14), .inl (E 0, 60, .inl mf14)), ((ma 15), .inl (E 0, 60, .inl mf15)), ((ma 16), .inl (E 0, 60, .inl mf16)), ((ma 29), .inl (E 0, 60, .inl mf29_45)), ((ma 30), .inl (E 0, 60, .inl mf30_45)), ((ma 31), .inl (E 0, 60, .inl mf31_45)), ((ma 34), .inl (E 1, 2, .inl mf34)), ((ma 35), .inl (E 0, 2, .inl mf35)), ((ma 36), .inl (E 0, 384, .inl mf36)), ((ma 37), .inl (E 0, 384, .inl mf37)), ((ma 45), .inl (E 0, 130, .inl mf45_45)), ((ma 46), .inl (E 0, 24, .inl mf46_45))]) [0, 1, 2, 3, 4, 5, 6, 7, 8, 9, 10, 11, 12, 13, 14, 15, 16, 17, 18, 19, 20, 21, 22] (by decide) rfl
            exact W.iret (v := L6_45) hx hb hr (fun t ht hW => ⟨⟨L6_45, (mf29_45, mf30_45, mf31_45, mf45_45, mf46_45, mrates_45), rfl, ⟨v_mf29_45, (by (try dsimp only); omega)⟩, by rw [ht]; exact hP9, hD9⟩, hS.F ht⟩) hS.2.2 dX9_order_96
          ·
            have ic_25 : L7_45.toInt < 16 := by first | exact (g_lt rfl t_16).mp c_25 | (have h := mt (g_le t_16 rfl).mpr c_25; omega)
            clear c_25
            refine lv_aload_n hx hb dX9_order_52 rfl (lv_at hl 4 rfl) ?_
            refine lv_iload hx hb dX9_order_53 (lv_at hl 0 rfl) ?_
            refine callRV (rest := []) (As := [.int L7_45]) hx hb hml hown htb hK (g_X9_isWatch l D E mh ma mcode mtoday moffs mmany msumW msumA msumR msumWW msumWA msumAA msumWR msumAR mupper mlower mrates_45 mtaped mlaid mat mtk mtkAt mtkNumber mwaits mlisted mdealtMany mf3 L7_45 (by (try dsimp only); omega) (by (try dsimp only); omega)) ok_X9_isWatch k_1189 k_1191 ks_39 k_9 k_1192 ⟨(Nat.le_of_ble_eq_true rfl), (Nat.le_of_ble_eq_true rfl)⟩ ⟨(Nat.le_of_ble_eq_true rfl), (Nat.le_of_ble_eq_true rfl)⟩ hl.1 (Nat.le_of_ble_eq_true rfl) rfl rfl dX9_order_55 (hP.sub (ws' := [(mh, .inr (9, G9 ma mcode mtoday moffs mmany msumW msumA msumR msumWW msumWA msumAA msumWR msumAR mupper mlower mrates_45 mtaped mlaid mat mtk mtkAt mtkNumber mwaits mlisted mdealtMany)), ((ma 3), .inl (E 0, 16, .inl mf3))]) [0, 2] rfl) rfl rfl 0 rfl (fun r_26 hw_27 => ?_)
            refine lv_if_eq (tgt := 88) hx hb dX9_order_58 (by decide) (fun c_29 => ?_) (fun c_29 => ?_)
            ·
              have ic_29 : r_26.toInt = 0 := (g_eq rfl t_0).mp c_29
              clear c_29
              obtain ⟨z_30, ez_30⟩ : ∃ y : Int32, y = L7_45 + 1 := ⟨_, rfl⟩
              have jz_30 : z_30.toInt = L7_45.toInt + 1 := by rw [ez_30]; exact g_add rfl t_1 (by omega) (by omega)
              refine lv_iinc (v := z_30) (lv' := [(7, .int z_30), (6, .int L6_45), (5, .int r_13), (4, .int r_1), (0, .ref mh), (1, .int p0), (2, .int p1), (3, .int p2)]) hx hb dX9_order_88 hl (k := 0) rfl (by rw [ez_30]; rfl) (by decide) rfl (fun ls hl => ?_)
              refine lv_goto (tgt := 45) hx hb dX9_order_91 (by decide) ?_
              exact ih_23 z_30 mrates_45 mf29_45 mf30_45 mf31_45 mf45_45 mf46_45 L6_45 _ _ _ (by (try dsimp only); omega) (by (try dsimp only); omega) v_mf29_45 (by (try dsimp only); omega) hP hD hS (lv_sub hl [0, 1, 2, 3, 4, 5, 6, 7] rfl)
            ·
              have ic_29 : r_26.toInt ≠ 0 := mt (g_eq rfl t_0).mpr c_29
              clear c_29
              refine lv_aload_n hx hb dX9_order_61 rfl (lv_at hl 4 rfl) ?_
              refine lv_iload hx hb dX9_order_62 (lv_at hl 0 rfl) ?_
              refine lv_iload_n hx hb dX9_order_64 rfl (lv_at hl 6 rfl) ?_
              refine lv_iload_n hx hb dX9_order_65 rfl (lv_at hl 7 rfl) ?_
              have hPc := hP.sub (ws' := [(mh, .inr (9, G9 ma mcode mtoday moffs mmany msumW msumA msumR msumWW msumWA msumAA msumWR msumAR mupper mlower mrates_45 mtaped mlaid mat mtk mtkAt mtkNumber mwaits mlisted mdealtMany)), ((ma 5), .inl (E 1, 6400, .inl mf5)), ((ma 6), .inl (E 0, 6400, .inl mf6)), ((ma 7), .inl (E 0, 6400, .inl mf7)), ((ma 8), .inl (E 1, 6400, .inl mf8)), ((ma 9), .inl (E 1, 6400, .inl mf9)), ((ma 12), .inl (E 0, 60, .inl mf12)), ((ma 13), .inl (E 0, 60, .inl mf13)), ((ma 14), .inl (E 0, 60, .inl mf14)), ((ma 15), .inl (E 0, 60, .inl mf15)), ((ma 16), .inl (E 0, 60, .inl mf16)), ((ma 29), .inl (E 0, 60, .inl mf29_45)), ((ma 30), .inl (E 0, 60, .inl mf30_45)), ((ma 31), .inl (E 0, 60, .inl mf31_45)), ((ma 34), .inl (E 1, 2, .inl mf34))]) [0, 4, 5, 6, 7, 8, 9, 10, 11, 12, 13, 14, 15, 16, 17] rfl
              have hDc := hD.sub (ws' := [(mh, .inr (9, G9 ma mcode mtoday moffs mmany msumW msumA msumR msumWW msumWA msumAA msumWR msumAR mupper mlower mrates_45 mtaped mlaid mat mtk mtkAt mtkNumber mwaits mlisted mdealtMany)), ((ma 5), .inl (E 1, 6400, .inl mf5)), ((ma 6), .inl (E 0, 6400, .inl mf6)), ((ma 7), .inl (E 0, 6400, .inl mf7)), ((ma 8), .inl (E 1, 6400, .inl mf8)), ((ma 9), .inl (E 1, 6400, .inl mf9)), ((ma 12), .inl (E 0, 60, .inl mf12)), ((ma 13), .inl (E 0, 60, .inl mf13)), ((ma 14), .inl (E 0, 60, .inl mf14)), ((ma 15), .inl (E 0, 60, .inl mf15)), ((ma 16), .inl (E 0, 60, .inl mf16)), ((ma 29), .inl (E 0, 60, .inl mf29_45)), ((ma 30), .inl (E 0, 60, .inl mf30_45)), ((ma 31), .inl (E 0, 60, .inl mf31_45)), ((ma 34), .inl (E 1, 2, .inl mf34))]) [0, 4, 5, 6, 7, 8, 9, 10, 11, 12, 13, 14, 15, 16, 17] (by decide) rfl
              refine aft_i (runMV (rest := []) (As := [.int L7_45, .int p1, .int p2]) hx hb hml hown htb hK (g_X9_hasTrial l D E mh ma mcode mtoday moffs mmany msumW msumA msumR msumWW msumWA msumAA msumWR msumAR mupper mlower mrates_45 mtaped mlaid mat mtk mtkAt mtkNumber mwaits mlisted mdealtMany mf5 mf6 mf7 mf8 mf9 mf12 mf13 mf14 mf15 mf16 mf29_45 mf30_45 mf31_45 mf34 L7_45 p1 p2 _ (by (try dsimp only); omega) v_mf29_45 (by (try dsimp only); omega) (by (try dsimp only); omega)) ok_X9_hasTrial k_1406 k_1408 ks_61 k_9 k_1409 ⟨(Nat.le_of_ble_eq_true rfl), (Nat.le_of_ble_eq_true rfl)⟩ ⟨(Nat.le_of_ble_eq_true rfl), (Nat.le_of_ble_eq_true rfl)⟩ hl.1 (Nat.le_of_ble_eq_true rfl) rfl rfl dX9_order_66 hPc hDc rfl rfl 0 rfl) hP hD hS hA [0, 4, 5, 6, 7, 8, 9, 10, 11, 12, 13, 14, 15, 16, 17] [1, 2, 3, 18, 19, 20, 21, 22] (wr := [((ma 2), .inl (E 0, 400, .inl mf2)), ((ma 3), .inl (E 0, 16, .inl mf3)), ((ma 4), .inl (E 0, 16, .inl mf4)), ((ma 35), .inl (E 0, 2, .inl mf35)), ((ma 36), .inl (E 0, 384, .inl mf36)), ((ma 37), .inl (E 0, 384, .inl mf37)), ((ma 45), .inl (E 0, 130, .inl mf45_45)), ((ma 46), .inl (E 0, 24, .inl mf46_45))]) rfl rfl (by decide) (by decide) (fun r_31 u_33 H locs hw_32 hP hD hS => ?_)
              clear hPc hDc
              obtain ⟨w_34, w_35, w_36, w_37⟩ := u_33
              try dsimp only at hw_32
              have hP : va_P D vwCl [((ma 2), .inl (E 0, 400, .inl mf2)), ((ma 3), .inl (E 0, 16, .inl mf3)), ((ma 4), .inl (E 0, 16, .inl mf4)), ((ma 35), .inl (E 0, 2, .inl mf35)), ((ma 36), .inl (E 0, 384, .inl mf36)), ((ma 37), .inl (E 0, 384, .inl mf37)), ((ma 45), .inl (E 0, 130, .inl mf45_45)), ((ma 46), .inl (E 0, 24, .inl mf46_45)), (mh, .inr (9, G9 ma mcode mtoday moffs mmany msumW msumA msumR msumWW msumWA msumAA msumWR msumAR mupper mlower w_37 mtaped mlaid mat mtk mtkAt mtkNumber mwaits mlisted mdealtMany)), ((ma 5), .inl (E 1, 6400, .inl mf5)), ((ma 6), .inl (E 0, 6400, .inl mf6)), ((ma 7), .inl (E 0, 6400, .inl mf7)), ((ma 8), .inl (E 1, 6400, .inl mf8)), ((ma 9), .inl (E 1, 6400, .inl mf9)), ((ma 12), .inl (E 0, 60, .inl mf12)), ((ma 13), .inl (E 0, 60, .inl mf13)), ((ma 14), .inl (E 0, 60, .inl mf14)), ((ma 15), .inl (E 0, 60, .inl mf15)), ((ma 16), .inl (E 0, 60, .inl mf16)), ((ma 29), .inl (E 0, 60, .inl w_34)), ((ma 30), .inl (E 0, 60, .inl w_35)), ((ma 31), .inl (E 0, 60, .inl w_36)), ((ma 34), .inl (E 1, 2, .inl mf34))] H := hP
              have hD := toW hP hD rfl
              obtain ⟨hw_32_0, hw_32_1⟩ := hw_32
              refine lv_if_eq (tgt := 88) hx hb dX9_order_69 (by decide) (fun c_38 => ?_) (fun c_38 => ?_)
              ·
                have ic_38 : r_31.toInt = 0 := (g_eq rfl t_0).mp c_38
                clear c_38
                obtain ⟨z_39, ez_39⟩ : ∃ y : Int32, y = L7_45 + 1 := ⟨_, rfl⟩
                have jz_39 : z_39.toInt = L7_45.toInt + 1 := by rw [ez_39]; exact g_add rfl t_1 (by omega) (by omega)
                refine lv_iinc (v := z_39) (lv' := [(7, .int z_39), (6, .int L6_45), (5, .int r_13), (4, .int r_1), (0, .ref mh), (1, .int p0), (2, .int p1), (3, .int p2)]) hx hb dX9_order_88 hl (k := 0) rfl (by rw [ez_39]; rfl) (by decide) rfl (fun ls hl => ?_)
                refine lv_goto (tgt := 45) hx hb dX9_order_91 (by decide) ?_
                have hP := hP.sub (ws' := [(mh, .inr (9, G9 ma mcode mtoday moffs mmany msumW msumA msumR msumWW msumWA msumAA msumWR msumAR mupper mlower w_37 mtaped mlaid mat mtk mtkAt mtkNumber mwaits mlisted mdealtMany)), ((ma 2), .inl (E 0, 400, .inl mf2)), ((ma 3), .inl (E 0, 16, .inl mf3)), ((ma 4), .inl (E 0, 16, .inl mf4)), ((ma 5), .inl (E 1, 6400, .inl mf5)), ((ma 6), .inl (E 0, 6400, .inl mf6)), ((ma 7), .inl (E 0, 6400, .inl mf7)), ((ma 8), .inl (E 1, 6400, .inl mf8)), ((ma 9), .inl (E 1, 6400, .inl mf9)), ((ma 12), .inl (E 0, 60, .inl mf12)), ((ma 13), .inl (E 0, 60, .inl mf13)), ((ma 14), .inl (E 0, 60, .inl mf14)), ((ma 15), .inl (E 0, 60, .inl mf15)), ((ma 16), .inl (E 0, 60, .inl mf16)), ((ma 29), .inl (E 0, 60, .inl w_34)), ((ma 30), .inl (E 0, 60, .inl w_35)), ((ma 31), .inl (E 0, 60, .inl w_36)), ((ma 34), .inl (E 1, 2, .inl mf34)), ((ma 35), .inl (E 0, 2, .inl mf35)), ((ma 36), .inl (E 0, 384, .inl mf36)), ((ma 37), .inl (E 0, 384, .inl mf37)), ((ma 45), .inl (E 0, 130, .inl mf45_45)), ((ma 46), .inl (E 0, 24, .inl mf46_45))]) [8, 0, 1, 2, 9, 10, 11, 12, 13, 14, 15, 16, 17, 18, 19, 20, 21, 22, 3, 4, 5, 6, 7] rfl
                have hD := hD.sub (ws' := [(mh, .inr (9, G9 ma mcode mtoday moffs mmany msumW msumA msumR msumWW msumWA msumAA msumWR msumAR mupper mlower w_37 mtaped mlaid mat mtk mtkAt mtkNumber mwaits mlisted mdealtMany)), ((ma 2), .inl (E 0, 400, .inl mf2)), ((ma 3), .inl (E 0, 16, .inl mf3)), ((ma 4), .inl (E 0, 16, .inl mf4)), ((ma 5), .inl (E 1, 6400, .inl mf5)), ((ma 6), .inl (E 0, 6400, .inl mf6)), ((ma 7), .inl (E 0, 6400, .inl mf7)), ((ma 8), .inl (E 1, 6400, .inl mf8)), ((ma 9), .inl (E 1, 6400, .inl mf9)), ((ma 12), .inl (E 0, 60, .inl mf12)), ((ma 13), .inl (E 0, 60, .inl mf13)), ((ma 14), .inl (E 0, 60, .inl mf14)), ((ma 15), .inl (E 0, 60, .inl mf15)), ((ma 16), .inl (E 0, 60, .inl mf16)), ((ma 29), .inl (E 0, 60, .inl w_34)), ((ma 30), .inl (E 0, 60, .inl w_35)), ((ma 31), .inl (E 0, 60, .inl w_36)), ((ma 34), .inl (E 1, 2, .inl mf34)), ((ma 35), .inl (E 0, 2, .inl mf35)), ((ma 36), .inl (E 0, 384, .inl mf36)), ((ma 37), .inl (E 0, 384, .inl mf37)), ((ma 45), .inl (E 0, 130, .inl mf45_45)), ((ma 46), .inl (E 0, 24, .inl mf46_45))]) [8, 0, 1, 2, 9, 10, 11, 12, 13, 14, 15, 16, 17, 18, 19, 20, 21, 22, 3, 4, 5, 6, 7] (by decide) rfl
                exact ih_23 z_39 w_37 w_34 w_35 w_36 mf45_45 mf46_45 L6_45 _ _ _ (by (try dsimp only); omega) (by (try dsimp only); omega) hw_32_0 (by (try dsimp only); omega) hP hD hS (lv_sub hl [0, 1, 2, 3, 4, 5, 6, 7] rfl)
              ·
                have ic_38 : r_31.toInt ≠ 0 := mt (g_eq rfl t_0).mpr c_38
                clear c_38
                refine lv_aload_n hx hb dX9_order_72 rfl (lv_at hl 4 rfl) ?_
                refine lv_iload hx hb dX9_order_73 (lv_at hl 0 rfl) ?_
                refine lv_iload_n hx hb dX9_order_75 rfl (lv_at hl 6 rfl) ?_
                refine lv_iload_n hx hb dX9_order_76 rfl (lv_at hl 7 rfl) ?_
                have hPc := hP.sub (ws' := [(mh, .inr (9, G9 ma mcode mtoday moffs mmany msumW msumA msumR msumWW msumWA msumAA msumWR msumAR mupper mlower w_37 mtaped mlaid mat mtk mtkAt mtkNumber mwaits mlisted mdealtMany)), ((ma 2), .inl (E 0, 400, .inl mf2)), ((ma 3), .inl (E 0, 16, .inl mf3)), ((ma 4), .inl (E 0, 16, .inl mf4)), ((ma 5), .inl (E 1, 6400, .inl mf5)), ((ma 6), .inl (E 0, 6400, .inl mf6)), ((ma 7), .inl (E 0, 6400, .inl mf7)), ((ma 8), .inl (E 1, 6400, .inl mf8)), ((ma 9), .inl (E 1, 6400, .inl mf9)), ((ma 12), .inl (E 0, 60, .inl mf12)), ((ma 13), .inl (E 0, 60, .inl mf13)), ((ma 14), .inl (E 0, 60, .inl mf14)), ((ma 15), .inl (E 0, 60, .inl mf15)), ((ma 16), .inl (E 0, 60, .inl mf16)), ((ma 29), .inl (E 0, 60, .inl w_34)), ((ma 30), .inl (E 0, 60, .inl w_35)), ((ma 31), .inl (E 0, 60, .inl w_36)), ((ma 34), .inl (E 1, 2, .inl mf34)), ((ma 35), .inl (E 0, 2, .inl mf35)), ((ma 36), .inl (E 0, 384, .inl mf36)), ((ma 37), .inl (E 0, 384, .inl mf37)), ((ma 45), .inl (E 0, 130, .inl mf45_45)), ((ma 46), .inl (E 0, 24, .inl mf46_45))]) [8, 0, 1, 2, 9, 10, 11, 12, 13, 14, 15, 16, 17, 18, 19, 20, 21, 22, 3, 4, 5, 6, 7] rfl
                have hDc := hD.sub (ws' := [(mh, .inr (9, G9 ma mcode mtoday moffs mmany msumW msumA msumR msumWW msumWA msumAA msumWR msumAR mupper mlower w_37 mtaped mlaid mat mtk mtkAt mtkNumber mwaits mlisted mdealtMany)), ((ma 2), .inl (E 0, 400, .inl mf2)), ((ma 3), .inl (E 0, 16, .inl mf3)), ((ma 4), .inl (E 0, 16, .inl mf4)), ((ma 5), .inl (E 1, 6400, .inl mf5)), ((ma 6), .inl (E 0, 6400, .inl mf6)), ((ma 7), .inl (E 0, 6400, .inl mf7)), ((ma 8), .inl (E 1, 6400, .inl mf8)), ((ma 9), .inl (E 1, 6400, .inl mf9)), ((ma 12), .inl (E 0, 60, .inl mf12)), ((ma 13), .inl (E 0, 60, .inl mf13)), ((ma 14), .inl (E 0, 60, .inl mf14)), ((ma 15), .inl (E 0, 60, .inl mf15)), ((ma 16), .inl (E 0, 60, .inl mf16)), ((ma 29), .inl (E 0, 60, .inl w_34)), ((ma 30), .inl (E 0, 60, .inl w_35)), ((ma 31), .inl (E 0, 60, .inl w_36)), ((ma 34), .inl (E 1, 2, .inl mf34)), ((ma 35), .inl (E 0, 2, .inl mf35)), ((ma 36), .inl (E 0, 384, .inl mf36)), ((ma 37), .inl (E 0, 384, .inl mf37)), ((ma 45), .inl (E 0, 130, .inl mf45_45)), ((ma 46), .inl (E 0, 24, .inl mf46_45))]) [8, 0, 1, 2, 9, 10, 11, 12, 13, 14, 15, 16, 17, 18, 19, 20, 21, 22, 3, 4, 5, 6, 7] (by decide) rfl
                refine aft_i (runMV (rest := []) (As := [.int L7_45, .int p1, .int p2]) hx hb hml hown htb hK (g_X9_trialOf l D E mh ma mcode mtoday moffs mmany msumW msumA msumR msumWW msumWA msumAA msumWR msumAR mupper mlower w_37 mtaped mlaid mat mtk mtkAt mtkNumber mwaits mlisted mdealtMany mf2 mf3 mf4 mf5 mf6 mf7 mf8 mf9 mf12 mf13 mf14 mf15 mf16 w_34 w_35 w_36 mf34 mf35 mf36 mf37 mf45_45 mf46_45 L7_45 p1 p2 _ (by (try dsimp only); omega) hw_32_0 hr_m35 (by (try dsimp only); omega) (by (try dsimp only); omega) hjw) ok_X9_trialOf k_1391 k_1393 ks_59 k_9 k_1394 ⟨(Nat.le_of_ble_eq_true rfl), (Nat.le_of_ble_eq_true rfl)⟩ ⟨(Nat.le_of_ble_eq_true rfl), (Nat.le_of_ble_eq_true rfl)⟩ hl.1 (Nat.le_of_ble_eq_true rfl) rfl rfl dX9_order_77 hPc hDc rfl rfl 0 rfl) hP hD hS hA [8, 0, 1, 2, 9, 10, 11, 12, 13, 14, 15, 16, 17, 18, 19, 20, 21, 22, 3, 4, 5, 6, 7] [] (wr := ([] : va_W)) rfl rfl (by decide) (by decide) (fun r_40 u_42 H locs hw_41 hP hD hS => ?_)
                clear hPc hDc
                obtain ⟨w_43, w_44, w_45, w_46, w_47, w_48⟩ := u_42
                try dsimp only at hw_41
                have hP : va_P D vwCl [(mh, .inr (9, G9 ma mcode mtoday moffs mmany msumW msumA msumR msumWW msumWA msumAA msumWR msumAR mupper mlower w_48 mtaped mlaid mat mtk mtkAt mtkNumber mwaits mlisted mdealtMany)), ((ma 2), .inl (E 0, 400, .inl mf2)), ((ma 3), .inl (E 0, 16, .inl mf3)), ((ma 4), .inl (E 0, 16, .inl mf4)), ((ma 5), .inl (E 1, 6400, .inl mf5)), ((ma 6), .inl (E 0, 6400, .inl mf6)), ((ma 7), .inl (E 0, 6400, .inl mf7)), ((ma 8), .inl (E 1, 6400, .inl mf8)), ((ma 9), .inl (E 1, 6400, .inl mf9)), ((ma 12), .inl (E 0, 60, .inl mf12)), ((ma 13), .inl (E 0, 60, .inl mf13)), ((ma 14), .inl (E 0, 60, .inl mf14)), ((ma 15), .inl (E 0, 60, .inl mf15)), ((ma 16), .inl (E 0, 60, .inl mf16)), ((ma 29), .inl (E 0, 60, .inl w_43)), ((ma 30), .inl (E 0, 60, .inl w_44)), ((ma 31), .inl (E 0, 60, .inl w_45)), ((ma 34), .inl (E 1, 2, .inl mf34)), ((ma 35), .inl (E 0, 2, .inl mf35)), ((ma 36), .inl (E 0, 384, .inl mf36)), ((ma 37), .inl (E 0, 384, .inl mf37)), ((ma 45), .inl (E 0, 130, .inl w_46)), ((ma 46), .inl (E 0, 24, .inl w_47))] H := hP
                have hD := toW hP hD rfl
                obtain ⟨hw_41_0, hw_41_1⟩ := hw_41
                refine lv_iload hx hb dX9_order_80 (lv_at hl 2 rfl) ?_
                refine lv_icmp_ge (tgt := 88) hx hb dX9_order_82 (by decide) (fun c_49 => ?_) (fun c_49 => ?_)
                ·
                  have ic_49 : r_13.toInt ≤ r_40.toInt := by first | exact (g_le rfl rfl).mp c_49 | (have h := mt (g_lt rfl rfl).mpr c_49; omega)
                  clear c_49
                  obtain ⟨z_50, ez_50⟩ : ∃ y : Int32, y = L7_45 + 1 := ⟨_, rfl⟩
                  have jz_50 : z_50.toInt = L7_45.toInt + 1 := by rw [ez_50]; exact g_add rfl t_1 (by omega) (by omega)
                  refine lv_iinc (v := z_50) (lv' := [(7, .int z_50), (6, .int L6_45), (5, .int r_13), (4, .int r_1), (0, .ref mh), (1, .int p0), (2, .int p1), (3, .int p2)]) hx hb dX9_order_88 hl (k := 0) rfl (by rw [ez_50]; rfl) (by decide) rfl (fun ls hl => ?_)
                  refine lv_goto (tgt := 45) hx hb dX9_order_91 (by decide) ?_
                  exact ih_23 z_50 w_48 w_43 w_44 w_45 w_46 w_47 L6_45 _ _ _ (by (try dsimp only); omega) (by (try dsimp only); omega) hw_41_0 (by (try dsimp only); omega) hP hD hS (lv_sub hl [0, 1, 2, 3, 4, 5, 6, 7] rfl)
                ·
                  have ic_49 : r_40.toInt < r_13.toInt := by first | exact (g_lt rfl rfl).mp c_49 | (have h := mt (g_le rfl rfl).mpr c_49; omega)
                  clear c_49
                  obtain ⟨z_51, ez_51⟩ : ∃ y : Int32, y = L6_45 + 1 := ⟨_, rfl⟩
                  refine lv_iinc (v := z_51) (lv' := [(6, .int z_51), (7, .int L7_45), (5, .int r_13), (4, .int r_1), (0, .ref mh), (1, .int p0), (2, .int p1), (3, .int p2)]) hx hb dX9_order_85 hl (k := 1) rfl (by rw [ez_51]; rfl) (by decide) rfl (fun ls hl => ?_)
                  obtain ⟨z_52, ez_52⟩ : ∃ y : Int32, y = L7_45 + 1 := ⟨_, rfl⟩
                  have jz_52 : z_52.toInt = L7_45.toInt + 1 := by rw [ez_52]; exact g_add rfl t_1 (by omega) (by omega)
                  refine lv_iinc (v := z_52) (lv' := [(7, .int z_52), (6, .int z_51), (5, .int r_13), (4, .int r_1), (0, .ref mh), (1, .int p0), (2, .int p1), (3, .int p2)]) hx hb dX9_order_88 hl (k := 1) rfl (by rw [ez_52]; rfl) (by decide) rfl (fun ls hl => ?_)
                  refine lv_goto (tgt := 45) hx hb dX9_order_91 (by decide) ?_
                  exact ih_23 z_52 w_48 w_43 w_44 w_45 w_46 w_47 z_51 _ _ _ (by (try dsimp only); omega) (by (try dsimp only); omega) hw_41_0 (by (try dsimp only); omega) hP hD hS (lv_sub hl [0, 1, 2, 3, 4, 5, 6, 7] rfl)
      exact loop_22 17 0 w_21 w_16 w_17 w_18 w_19 w_20 1 _ _ _ (by have h0 := t_0; have h1 := t_1; (try dsimp only); omega) (by (try dsimp only); omega) hw_14_0 (by have h0 := t_0; have h1 := t_1; (try dsimp only); omega) hP hD hS (lv_sub hl [0, 1, 2, 3, 4, 5, 6, 7] rfl)
    ·
      have ic_12 : r_5.toInt = 0 := (g_eq rfl t_0).mp c_12
      clear c_12
      refine lv_bipush (v := (-4)) hx hb dX9_order_27 (by decide) ?_
      have hP9 := hP.sub (ws' := [(mh, .inr (9, G9 ma mcode mtoday moffs mmany msumW msumA msumR msumWW msumWA msumAA msumWR msumAR mupper mlower w_11 mtaped mlaid mat mtk mtkAt mtkNumber mwaits mlisted mdealtMany)), ((ma 2), .inl (E 0, 400, .inl mf2)), ((ma 3), .inl (E 0, 16, .inl mf3)), ((ma 4), .inl (E 0, 16, .inl mf4)), ((ma 5), .inl (E 1, 6400, .inl mf5)), ((ma 6), .inl (E 0, 6400, .inl mf6)), ((ma 7), .inl (E 0, 6400, .inl mf7)), ((ma 8), .inl (E 1, 6400, .inl mf8)), ((ma 9), .inl (E 1, 6400, .inl mf9)), ((ma 12), .inl (E 0, 60, .inl mf12)), ((ma 13), .inl (E 0, 60, .inl mf13)), ((ma 14), .inl (E 0, 60, .inl mf14)), ((ma 15), .inl (E 0, 60, .inl mf15)), ((ma 16), .inl (E 0, 60, .inl mf16)), ((ma 29), .inl (E 0, 60, .inl w_8)), ((ma 30), .inl (E 0, 60, .inl w_9)), ((ma 31), .inl (E 0, 60, .inl w_10)), ((ma 34), .inl (E 1, 2, .inl mf34)), ((ma 35), .inl (E 0, 2, .inl mf35)), ((ma 36), .inl (E 0, 384, .inl mf36)), ((ma 37), .inl (E 0, 384, .inl mf37)), ((ma 45), .inl (E 0, 130, .inl mf45)), ((ma 46), .inl (E 0, 24, .inl mf46))]) [8, 0, 1, 2, 9, 10, 11, 12, 13, 14, 15, 16, 17, 18, 19, 20, 21, 22, 3, 4, 5, 6, 7] rfl
      have hD9 := hD.sub (ws' := [(mh, .inr (9, G9 ma mcode mtoday moffs mmany msumW msumA msumR msumWW msumWA msumAA msumWR msumAR mupper mlower w_11 mtaped mlaid mat mtk mtkAt mtkNumber mwaits mlisted mdealtMany)), ((ma 2), .inl (E 0, 400, .inl mf2)), ((ma 3), .inl (E 0, 16, .inl mf3)), ((ma 4), .inl (E 0, 16, .inl mf4)), ((ma 5), .inl (E 1, 6400, .inl mf5)), ((ma 6), .inl (E 0, 6400, .inl mf6)), ((ma 7), .inl (E 0, 6400, .inl mf7)), ((ma 8), .inl (E 1, 6400, .inl mf8)), ((ma 9), .inl (E 1, 6400, .inl mf9)), ((ma 12), .inl (E 0, 60, .inl mf12)), ((ma 13), .inl (E 0, 60, .inl mf13)), ((ma 14), .inl (E 0, 60, .inl mf14)), ((ma 15), .inl (E 0, 60, .inl mf15)), ((ma 16), .inl (E 0, 60, .inl mf16)), ((ma 29), .inl (E 0, 60, .inl w_8)), ((ma 30), .inl (E 0, 60, .inl w_9)), ((ma 31), .inl (E 0, 60, .inl w_10)), ((ma 34), .inl (E 1, 2, .inl mf34)), ((ma 35), .inl (E 0, 2, .inl mf35)), ((ma 36), .inl (E 0, 384, .inl mf36)), ((ma 37), .inl (E 0, 384, .inl mf37)), ((ma 45), .inl (E 0, 130, .inl mf45)), ((ma 46), .inl (E 0, 24, .inl mf46))]) [8, 0, 1, 2, 9, 10, 11, 12, 13, 14, 15, 16, 17, 18, 19, 20, 21, 22, 3, 4, 5, 6, 7] (by decide) rfl
      exact W.iret (v := (-4)) hx hb hr (fun t ht hW => ⟨⟨(-4), (w_8, w_9, w_10, mf45, mf46, w_11), rfl, ⟨hw_6_0, (by (try dsimp only); omega)⟩, by rw [ht]; exact hP9, hD9⟩, hS.F ht⟩) hS.2.2 dX9_order_29
  ·
    have ic_4 : r_1.toInt < 0 := by first | exact (g_lt rfl t_0).mp c_4 | (have h := mt (g_le t_0 rfl).mpr c_4; omega)
    clear c_4
    refine lv_iload hx hb dX9_order_14 (lv_at hl 0 rfl) ?_
    have hP9 := hP.sub (ws' := [(mh, .inr (9, G9 ma mcode mtoday moffs mmany msumW msumA msumR msumWW msumWA msumAA msumWR msumAR mupper mlower mrates mtaped mlaid mat mtk mtkAt mtkNumber mwaits mlisted mdealtMany)), ((ma 2), .inl (E 0, 400, .inl mf2)), ((ma 3), .inl (E 0, 16, .inl mf3)), ((ma 4), .inl (E 0, 16, .inl mf4)), ((ma 5), .inl (E 1, 6400, .inl mf5)), ((ma 6), .inl (E 0, 6400, .inl mf6)), ((ma 7), .inl (E 0, 6400, .inl mf7)), ((ma 8), .inl (E 1, 6400, .inl mf8)), ((ma 9), .inl (E 1, 6400, .inl mf9)), ((ma 12), .inl (E 0, 60, .inl mf12)), ((ma 13), .inl (E 0, 60, .inl mf13)), ((ma 14), .inl (E 0, 60, .inl mf14)), ((ma 15), .inl (E 0, 60, .inl mf15)), ((ma 16), .inl (E 0, 60, .inl mf16)), ((ma 29), .inl (E 0, 60, .inl mf29)), ((ma 30), .inl (E 0, 60, .inl mf30)), ((ma 31), .inl (E 0, 60, .inl mf31)), ((ma 34), .inl (E 1, 2, .inl mf34)), ((ma 35), .inl (E 0, 2, .inl mf35)), ((ma 36), .inl (E 0, 384, .inl mf36)), ((ma 37), .inl (E 0, 384, .inl mf37)), ((ma 45), .inl (E 0, 130, .inl mf45)), ((ma 46), .inl (E 0, 24, .inl mf46))]) [0, 1, 2, 3, 4, 5, 6, 7, 8, 9, 10, 11, 12, 13, 14, 15, 16, 17, 18, 19, 20, 21, 22] rfl
    have hD9 := hD.sub (ws' := [(mh, .inr (9, G9 ma mcode mtoday moffs mmany msumW msumA msumR msumWW msumWA msumAA msumWR msumAR mupper mlower mrates mtaped mlaid mat mtk mtkAt mtkNumber mwaits mlisted mdealtMany)), ((ma 2), .inl (E 0, 400, .inl mf2)), ((ma 3), .inl (E 0, 16, .inl mf3)), ((ma 4), .inl (E 0, 16, .inl mf4)), ((ma 5), .inl (E 1, 6400, .inl mf5)), ((ma 6), .inl (E 0, 6400, .inl mf6)), ((ma 7), .inl (E 0, 6400, .inl mf7)), ((ma 8), .inl (E 1, 6400, .inl mf8)), ((ma 9), .inl (E 1, 6400, .inl mf9)), ((ma 12), .inl (E 0, 60, .inl mf12)), ((ma 13), .inl (E 0, 60, .inl mf13)), ((ma 14), .inl (E 0, 60, .inl mf14)), ((ma 15), .inl (E 0, 60, .inl mf15)), ((ma 16), .inl (E 0, 60, .inl mf16)), ((ma 29), .inl (E 0, 60, .inl mf29)), ((ma 30), .inl (E 0, 60, .inl mf30)), ((ma 31), .inl (E 0, 60, .inl mf31)), ((ma 34), .inl (E 1, 2, .inl mf34)), ((ma 35), .inl (E 0, 2, .inl mf35)), ((ma 36), .inl (E 0, 384, .inl mf36)), ((ma 37), .inl (E 0, 384, .inl mf37)), ((ma 45), .inl (E 0, 130, .inl mf45)), ((ma 46), .inl (E 0, 24, .inl mf46))]) [0, 1, 2, 3, 4, 5, 6, 7, 8, 9, 10, 11, 12, 13, 14, 15, 16, 17, 18, 19, 20, 21, 22] (by decide) rfl
    exact W.iret (v := r_1) hx hb hr (fun t ht hW => ⟨⟨r_1, (mf29, mf30, mf31, mf45, mf46, mrates), rfl, ⟨hr_m29, (by (try dsimp only); omega)⟩, by rw [ht]; exact hP9, hD9⟩, hS.F ht⟩) hS.2.2 dX9_order_16
set_option maxHeartbeats 4000000 in
set_option maxRecDepth 100000 in
theorem g_X9_maySail (l : Launch) (D : va_G) (E : Nat → Nat) (mh : Nat) (ma : Nat → Nat) (mcode : Int32) (mtoday : Int32) (moffs : Int32) (mmany : Int64) (msumW : Int64) (msumA : Int64) (msumR : Int64) (msumWW : Int64) (msumWA : Int64) (msumAA : Int64) (msumWR : Int64) (msumAR : Int64) (mupper : Int64) (mlower : Int64) (mrates : Int32) (mtaped : Int32) (mlaid : Int32) (mat : Int32) (mtk : Int32) (mtkAt : Int32) (mtkNumber : Int32) (mwaits : Int32) (mlisted : Int32) (mdealtMany : Int32) (mf5 : Nat → Int32) (mf6 : Nat → Int32) (mf7 : Nat → Int32) (mf8 : Nat → Int32) (mf9 : Nat → Int32) (mf10 : Nat → Int32) (mf12 : Nat → Int32) (mf13 : Nat → Int32) (mf14 : Nat → Int32) (mf15 : Nat → Int32) (mf16 : Nat → Int32) (mf29 : Nat → Int32) (mf30 : Nat → Int32) (mf31 : Nat → Int32) (p0 : Int32) (sz : Nat) (hi_m : (0 ≤ mtoday.toInt ∧ mtoday.toInt ≤ 399) ∧ (0 ≤ moffs.toInt ∧ moffs.toInt ≤ 60) ∧ (0 ≤ mrates.toInt ∧ mrates.toInt ≤ 60) ∧ (0 ≤ mtaped.toInt ∧ mtaped.toInt ≤ 120) ∧ (0 ≤ mlisted.toInt ∧ mlisted.toInt ≤ 9) ∧ (0 ≤ mdealtMany.toInt ∧ mdealtMany.toInt ≤ 9)) (hr_m29 : ∀ k : Nat, k < 60 → 0 ≤ (mf29 k).toInt ∧ (mf29 k).toInt ≤ 399) (g0 : 0 ≤ p0.toInt ∧ p0.toInt ≤ 15) : Met l yX9_maySail (wl yX9_maySail cX9_maySail 2 (some .boolean)) (RM 4 0 0) (mu_P D E [.ref mh, .int p0] [(mh, .inr (9, G9 ma mcode mtoday moffs mmany msumW msumA msumR msumWW msumWA msumAA msumWR msumAR mupper mlower mrates mtaped mlaid mat mtk mtkAt mtkNumber mwaits mlisted mdealtMany)), ((ma 5), .inl (E 1, 6400, .inl mf5)), ((ma 6), .inl (E 0, 6400, .inl mf6)), ((ma 7), .inl (E 0, 6400, .inl mf7)), ((ma 8), .inl (E 1, 6400, .inl mf8)), ((ma 9), .inl (E 1, 6400, .inl mf9)), ((ma 10), .inl (E 0, 6400, .inl mf10)), ((ma 12), .inl (E 0, 60, .inl mf12)), ((ma 13), .inl (E 0, 60, .inl mf13)), ((ma 14), .inl (E 0, 60, .inl mf14)), ((ma 15), .inl (E 0, 60, .inl mf15)), ((ma 16), .inl (E 0, 60, .inl mf16)), ((ma 29), .inl (E 0, 60, .inl mf29)), ((ma 30), .inl (E 0, 60, .inl mf30)), ((ma 31), .inl (E 0, 60, .inl mf31))] sz) (va_Qi (fun (r : Int32) (u : (Nat → Int32) × (Nat → Int32) × (Nat → Int32) × (Int32)) => (∀ k : Nat, k < 60 → 0 ≤ (u.1 k).toInt ∧ (u.1 k).toInt ≤ 399) ∧ (0 ≤ u.2.2.2.toInt ∧ u.2.2.2.toInt ≤ 60) ∧ ((r.toInt = 0 ∧ ¬ ((mf10 (400 * p0 + mtoday).toNatClampNeg).toInt = -1 ∧ (mf5 (400 * p0 + mtoday).toNatClampNeg).toInt ≠ 0 ∧ mtoday.toInt ≠ 0 ∧ 2 ≤ cntF (fun d => ratF mf5 mf6 mf7 mf8 mf9 mf12 mf13 mf14 mf15 mf16 moffs p0 d (-1)) (loD mtoday) (mtoday.toInt - (loD mtoday).toInt).toNat)) ∨ (r.toInt = 1 ∧ (mf10 (400 * p0 + mtoday).toNatClampNeg).toInt = -1 ∧ (mf5 (400 * p0 + mtoday).toNatClampNeg).toInt ≠ 0 ∧ mtoday.toInt ≠ 0 ∧ 2 ≤ cntF (fun d => ratF mf5 mf6 mf7 mf8 mf9 mf12 mf13 mf14 mf15 mf16 moffs p0 d (-1)) (loD mtoday) (mtoday.toInt - (loD mtoday).toInt).toNat))) (mu_B D (va_A [(mh, .inr (9, G9 ma mcode mtoday moffs mmany msumW msumA msumR msumWW msumWA msumAA msumWR msumAR mupper mlower mrates mtaped mlaid mat mtk mtkAt mtkNumber mwaits mlisted mdealtMany)), ((ma 5), .inl (E 1, 6400, .inl mf5)), ((ma 6), .inl (E 0, 6400, .inl mf6)), ((ma 7), .inl (E 0, 6400, .inl mf7)), ((ma 8), .inl (E 1, 6400, .inl mf8)), ((ma 9), .inl (E 1, 6400, .inl mf9)), ((ma 10), .inl (E 0, 6400, .inl mf10)), ((ma 12), .inl (E 0, 60, .inl mf12)), ((ma 13), .inl (E 0, 60, .inl mf13)), ((ma 14), .inl (E 0, 60, .inl mf14)), ((ma 15), .inl (E 0, 60, .inl mf15)), ((ma 16), .inl (E 0, 60, .inl mf16)), ((ma 29), .inl (E 0, 60, .inl mf29)), ((ma 30), .inl (E 0, 60, .inl mf30)), ((ma 31), .inl (E 0, 60, .inl mf31))] sz) (fun (u : (Nat → Int32) × (Nat → Int32) × (Nat → Int32) × (Int32)) => [(mh, .inr (9, G9 ma mcode mtoday moffs mmany msumW msumA msumR msumWW msumWA msumAA msumWR msumAR mupper mlower u.2.2.2 mtaped mlaid mat mtk mtkAt mtkNumber mwaits mlisted mdealtMany)), ((ma 5), .inl (E 1, 6400, .inl mf5)), ((ma 6), .inl (E 0, 6400, .inl mf6)), ((ma 7), .inl (E 0, 6400, .inl mf7)), ((ma 8), .inl (E 1, 6400, .inl mf8)), ((ma 9), .inl (E 1, 6400, .inl mf9)), ((ma 10), .inl (E 0, 6400, .inl mf10)), ((ma 12), .inl (E 0, 60, .inl mf12)), ((ma 13), .inl (E 0, 60, .inl mf13)), ((ma 14), .inl (E 0, 60, .inl mf14)), ((ma 15), .inl (E 0, 60, .inl mf15)), ((ma 16), .inl (E 0, 60, .inl mf16)), ((ma 29), .inl (E 0, 60, .inl u.1)), ((ma 30), .inl (E 0, 60, .inl u.2.1)), ((ma 31), .inl (E 0, 60, .inl u.2.2.1))])) (va_A [(mh, .inr (9, G9 ma mcode mtoday moffs mmany msumW msumA msumR msumWW msumWA msumAA msumWR msumAR mupper mlower mrates mtaped mlaid mat mtk mtkAt mtkNumber mwaits mlisted mdealtMany)), ((ma 5), .inl (E 1, 6400, .inl mf5)), ((ma 6), .inl (E 0, 6400, .inl mf6)), ((ma 7), .inl (E 0, 6400, .inl mf7)), ((ma 8), .inl (E 1, 6400, .inl mf8)), ((ma 9), .inl (E 1, 6400, .inl mf9)), ((ma 10), .inl (E 0, 6400, .inl mf10)), ((ma 12), .inl (E 0, 60, .inl mf12)), ((ma 13), .inl (E 0, 60, .inl mf13)), ((ma 14), .inl (E 0, 60, .inl mf14)), ((ma 15), .inl (E 0, 60, .inl mf15)), ((ma 16), .inl (E 0, 60, .inl mf16)), ((ma 29), .inl (E 0, 60, .inl mf29)), ((ma 30), .inl (E 0, 60, .inl mf30)), ((ma 31), .inl (E 0, 60, .inl mf31))] sz)) 0 0 (va_A [(mh, .inr (9, G9 ma mcode mtoday moffs mmany msumW msumA msumR msumWW msumWA msumAA msumWR msumAR mupper mlower mrates mtaped mlaid mat mtk mtkAt mtkNumber mwaits mlisted mdealtMany)), ((ma 5), .inl (E 1, 6400, .inl mf5)), ((ma 6), .inl (E 0, 6400, .inl mf6)), ((ma 7), .inl (E 0, 6400, .inl mf7)), ((ma 8), .inl (E 1, 6400, .inl mf8)), ((ma 9), .inl (E 1, 6400, .inl mf9)), ((ma 10), .inl (E 0, 6400, .inl mf10)), ((ma 12), .inl (E 0, 60, .inl mf12)), ((ma 13), .inl (E 0, 60, .inl mf13)), ((ma 14), .inl (E 0, 60, .inl mf14)), ((ma 15), .inl (E 0, 60, .inl mf15)), ((ma 16), .inl (E 0, 60, .inl mf16)), ((ma 29), .inl (E 0, 60, .inl mf29)), ((ma 30), .inl (E 0, 60, .inl mf30)), ((ma 31), .inl (E 0, 60, .inl mf31))] sz) := by
  refine Met.ofW (cc := cX9_maySail) (maxL := 2) (ret := (some .boolean)) (by decide) rfl ?_
  intro p e s m args below meth c s₁ B hml hv
  obtain ⟨rfl, hsz, hP, hK, hD0⟩ := hv
  have hx := B.exec; have hb := B.bytes; have hr := B.returns
  have hts := atoms_spec (ws := wl yX9_maySail cX9_maySail 2 (some .boolean)) B.pre
  have htb : ∀ w ∈ tb, w.before _ s = true := fun w h => hts w (List.mem_cons_of_mem _ h)
  have hown : s.vm.findClass RX9 = some m.cls := findClass_of_methodNamed B.named
  have hlocks := B.notSynchronized
  subst hsz
  have hD := hD0.self (sz := s.heap.size)
  generalize hAe : va_A [(mh, .inr (9, G9 ma mcode mtoday moffs mmany msumW msumA msumR msumWW msumWA msumAA msumWR msumAR mupper mlower mrates mtaped mlaid mat mtk mtkAt mtkNumber mwaits mlisted mdealtMany)), ((ma 5), .inl (E 1, 6400, .inl mf5)), ((ma 6), .inl (E 0, 6400, .inl mf6)), ((ma 7), .inl (E 0, 6400, .inl mf7)), ((ma 8), .inl (E 1, 6400, .inl mf8)), ((ma 9), .inl (E 1, 6400, .inl mf9)), ((ma 10), .inl (E 0, 6400, .inl mf10)), ((ma 12), .inl (E 0, 60, .inl mf12)), ((ma 13), .inl (E 0, 60, .inl mf13)), ((ma 14), .inl (E 0, 60, .inl mf14)), ((ma 15), .inl (E 0, 60, .inl mf15)), ((ma 16), .inl (E 0, 60, .inl mf16)), ((ma 29), .inl (E 0, 60, .inl mf29)), ((ma 30), .inl (E 0, 60, .inl mf30)), ((ma 31), .inl (E 0, 60, .inl mf31))] s.heap.size = A at hD ⊢
  have hA : ∀ q : Nat, s.heap.size ≤ q → A q := fun q h => by rw [← hAe]; exact Or.inr h
  have hS : va_S A s.heap s.heap [] := va_S.rf
  have hP : va_P D vwCl [(mh, .inr (9, G9 ma mcode mtoday moffs mmany msumW msumA msumR msumWW msumWA msumAA msumWR msumAR mupper mlower mrates mtaped mlaid mat mtk mtkAt mtkNumber mwaits mlisted mdealtMany)), ((ma 5), .inl (E 1, 6400, .inl mf5)), ((ma 6), .inl (E 0, 6400, .inl mf6)), ((ma 7), .inl (E 0, 6400, .inl mf7)), ((ma 8), .inl (E 1, 6400, .inl mf8)), ((ma 9), .inl (E 1, 6400, .inl mf9)), ((ma 10), .inl (E 0, 6400, .inl mf10)), ((ma 12), .inl (E 0, 60, .inl mf12)), ((ma 13), .inl (E 0, 60, .inl mf13)), ((ma 14), .inl (E 0, 60, .inl mf14)), ((ma 15), .inl (E 0, 60, .inl mf15)), ((ma 16), .inl (E 0, 60, .inl mf16)), ((ma 29), .inl (E 0, 60, .inl mf29)), ((ma 30), .inl (E 0, 60, .inl mf30)), ((ma 31), .inl (E 0, 60, .inl mf31))] s.heap := hP
  have hl := lv_entry ([.ref mh, .int p0]) (n := 2) (Nat.le_of_ble_eq_true rfl)
  rw [lg_entry_eq]
  generalize (lg_sl ([.ref mh, .int p0]) ++ List.replicate (2 - (lg_sl ([.ref mh, .int p0])).length) Slot.unset).toArray = ls at hl ⊢
  have hl : lv_has ls 2 [(0, .ref mh), (1, .int p0)] := hl
  have lo_p0 := i_lo p0; have hi_p0 := i_hi p0
  refine lv_aload_n hx hb dX9_maySail_0 rfl (lv_at hl 0 rfl) ?_
  refine lv_iload_n hx hb dX9_maySail_1 rfl (lv_at hl 1 rfl) ?_
  refine callRV (rest := []) (As := [.int p0]) hx hb hml hown htb hK (g_X9_holderNow l D E mh ma mcode mtoday moffs mmany msumW msumA msumR msumWW msumWA msumAA msumWR msumAR mupper mlower mrates mtaped mlaid mat mtk mtkAt mtkNumber mwaits mlisted mdealtMany mf10 p0 (by (try dsimp only); omega) (by (try dsimp only); omega)) ok_X9_holderNow k_1193 k_1195 ks_40 k_9 k_1196 ⟨(Nat.le_of_ble_eq_true rfl), (Nat.le_of_ble_eq_true rfl)⟩ ⟨(Nat.le_of_ble_eq_true rfl), (Nat.le_of_ble_eq_true rfl)⟩ hl.1 (Nat.le_of_ble_eq_true rfl) rfl rfl dX9_maySail_2 (hP.sub (ws' := [(mh, .inr (9, G9 ma mcode mtoday moffs mmany msumW msumA msumR msumWW msumWA msumAA msumWR msumAR mupper mlower mrates mtaped mlaid mat mtk mtkAt mtkNumber mwaits mlisted mdealtMany)), ((ma 10), .inl (E 0, 6400, .inl mf10))]) [0, 6] rfl) rfl rfl 0 rfl (fun r_1 hw_2 => ?_)
  refine lv_iconst (v := (-1)) hx hb dX9_maySail_5 (by decide) ?_
  refine lv_icmp_ne (tgt := 34) hx hb dX9_maySail_6 (by decide) (fun c_4 => ?_) (fun c_4 => ?_)
  ·
    have ic_4 : r_1.toInt ≠ -1 := mt (g_eq rfl t_m1).mpr c_4
    clear c_4
    refine lv_iconst (v := 0) hx hb dX9_maySail_34 (by decide) ?_
    have hP9 := hP.sub (ws' := [(mh, .inr (9, G9 ma mcode mtoday moffs mmany msumW msumA msumR msumWW msumWA msumAA msumWR msumAR mupper mlower mrates mtaped mlaid mat mtk mtkAt mtkNumber mwaits mlisted mdealtMany)), ((ma 5), .inl (E 1, 6400, .inl mf5)), ((ma 6), .inl (E 0, 6400, .inl mf6)), ((ma 7), .inl (E 0, 6400, .inl mf7)), ((ma 8), .inl (E 1, 6400, .inl mf8)), ((ma 9), .inl (E 1, 6400, .inl mf9)), ((ma 10), .inl (E 0, 6400, .inl mf10)), ((ma 12), .inl (E 0, 60, .inl mf12)), ((ma 13), .inl (E 0, 60, .inl mf13)), ((ma 14), .inl (E 0, 60, .inl mf14)), ((ma 15), .inl (E 0, 60, .inl mf15)), ((ma 16), .inl (E 0, 60, .inl mf16)), ((ma 29), .inl (E 0, 60, .inl mf29)), ((ma 30), .inl (E 0, 60, .inl mf30)), ((ma 31), .inl (E 0, 60, .inl mf31))]) [0, 1, 2, 3, 4, 5, 6, 7, 8, 9, 10, 11, 12, 13, 14] rfl
    have hD9 := hD.sub (ws' := [(mh, .inr (9, G9 ma mcode mtoday moffs mmany msumW msumA msumR msumWW msumWA msumAA msumWR msumAR mupper mlower mrates mtaped mlaid mat mtk mtkAt mtkNumber mwaits mlisted mdealtMany)), ((ma 5), .inl (E 1, 6400, .inl mf5)), ((ma 6), .inl (E 0, 6400, .inl mf6)), ((ma 7), .inl (E 0, 6400, .inl mf7)), ((ma 8), .inl (E 1, 6400, .inl mf8)), ((ma 9), .inl (E 1, 6400, .inl mf9)), ((ma 10), .inl (E 0, 6400, .inl mf10)), ((ma 12), .inl (E 0, 60, .inl mf12)), ((ma 13), .inl (E 0, 60, .inl mf13)), ((ma 14), .inl (E 0, 60, .inl mf14)), ((ma 15), .inl (E 0, 60, .inl mf15)), ((ma 16), .inl (E 0, 60, .inl mf16)), ((ma 29), .inl (E 0, 60, .inl mf29)), ((ma 30), .inl (E 0, 60, .inl mf30)), ((ma 31), .inl (E 0, 60, .inl mf31))]) [0, 1, 2, 3, 4, 5, 6, 7, 8, 9, 10, 11, 12, 13, 14] (by decide) rfl
    exact W.zret (v := 0) hx hb hr rfl (fun t ht hW => ⟨⟨0, (mf29, mf30, mf31, mrates), rfl, ⟨hr_m29, (by (try dsimp only); omega), (Or.inl ⟨by decide, fun hm => by have h1 := hm.1; have h2 := hm.2.1; have h3 := hm.2.2.1; subst_vars; omega⟩)⟩, by rw [ht]; exact hP9, hD9⟩, hS.F ht⟩) hS.2.2 dX9_maySail_35
  ·
    have ic_4 : r_1.toInt = -1 := (g_eq rfl t_m1).mp c_4
    clear c_4
    refine lv_aload_n hx hb dX9_maySail_9 rfl (lv_at hl 0 rfl) ?_
    refine va_get (D := D) (ci := 9) (v := .ref (ma 5)) (C := RX9) (T := TX9) (N := 68) hx hb htb iX9 hown hK.1 hP 0 rfl rfl 5 (by decide) (htb _ k_963) (fun _ h9 => h9) rfl dX9_maySail_10 ?_
    refine lv_sipush (v := 400) hx hb dX9_maySail_13 (by decide) ?_
    refine lv_iload_n hx hb dX9_maySail_16 rfl (lv_at hl 1 rfl) ?_
    refine lv_imul hx hb dX9_maySail_17 ?_
    refine lv_topi (fun z_5 ez_5 => ?_)
    have jz_5 : z_5.toInt = 400 * p0.toInt := by rw [ez_5]; exact g_mul t_400 rfl (by omega) (by omega)
    refine lv_aload_n hx hb dX9_maySail_18 rfl (lv_at hl 0 rfl) ?_
    refine va_get (D := D) (ci := 9) (v := .int mtoday) (C := RX9) (T := TX9) (N := 68) hx hb htb iX9 hown hK.1 hP 0 rfl rfl 1 (by decide) (htb _ k_959) (fun _ h9 => h9) rfl dX9_maySail_19 ?_
    refine lv_iadd hx hb dX9_maySail_22 ?_
    refine lv_topi (fun z_6 ez_6 => ?_)
    have jz_6 : z_6.toInt = z_5.toInt + mtoday.toInt := by rw [ez_6]; exact g_add rfl rfl (by omega) (by omega)
    refine va_zald hx hb hK.1 hP 1 1 rfl rfl (g_in rfl (by omega) (by omega)) dX9_maySail_23 ?_
    refine lv_topi (fun z_7 ez_7 => ?_)
    have kz_7 := congrArg Int32.toInt ez_7
    refine lv_if_eq (tgt := 34) hx hb dX9_maySail_24 (by decide) (fun c_8 => ?_) (fun c_8 => ?_)
    ·
      have ic_8 : z_7.toInt = 0 := (g_eq rfl t_0).mp c_8
      clear c_8
      refine lv_iconst (v := 0) hx hb dX9_maySail_34 (by decide) ?_
      have hP9 := hP.sub (ws' := [(mh, .inr (9, G9 ma mcode mtoday moffs mmany msumW msumA msumR msumWW msumWA msumAA msumWR msumAR mupper mlower mrates mtaped mlaid mat mtk mtkAt mtkNumber mwaits mlisted mdealtMany)), ((ma 5), .inl (E 1, 6400, .inl mf5)), ((ma 6), .inl (E 0, 6400, .inl mf6)), ((ma 7), .inl (E 0, 6400, .inl mf7)), ((ma 8), .inl (E 1, 6400, .inl mf8)), ((ma 9), .inl (E 1, 6400, .inl mf9)), ((ma 10), .inl (E 0, 6400, .inl mf10)), ((ma 12), .inl (E 0, 60, .inl mf12)), ((ma 13), .inl (E 0, 60, .inl mf13)), ((ma 14), .inl (E 0, 60, .inl mf14)), ((ma 15), .inl (E 0, 60, .inl mf15)), ((ma 16), .inl (E 0, 60, .inl mf16)), ((ma 29), .inl (E 0, 60, .inl mf29)), ((ma 30), .inl (E 0, 60, .inl mf30)), ((ma 31), .inl (E 0, 60, .inl mf31))]) [0, 1, 2, 3, 4, 5, 6, 7, 8, 9, 10, 11, 12, 13, 14] rfl
      have hD9 := hD.sub (ws' := [(mh, .inr (9, G9 ma mcode mtoday moffs mmany msumW msumA msumR msumWW msumWA msumAA msumWR msumAR mupper mlower mrates mtaped mlaid mat mtk mtkAt mtkNumber mwaits mlisted mdealtMany)), ((ma 5), .inl (E 1, 6400, .inl mf5)), ((ma 6), .inl (E 0, 6400, .inl mf6)), ((ma 7), .inl (E 0, 6400, .inl mf7)), ((ma 8), .inl (E 1, 6400, .inl mf8)), ((ma 9), .inl (E 1, 6400, .inl mf9)), ((ma 10), .inl (E 0, 6400, .inl mf10)), ((ma 12), .inl (E 0, 60, .inl mf12)), ((ma 13), .inl (E 0, 60, .inl mf13)), ((ma 14), .inl (E 0, 60, .inl mf14)), ((ma 15), .inl (E 0, 60, .inl mf15)), ((ma 16), .inl (E 0, 60, .inl mf16)), ((ma 29), .inl (E 0, 60, .inl mf29)), ((ma 30), .inl (E 0, 60, .inl mf30)), ((ma 31), .inl (E 0, 60, .inl mf31))]) [0, 1, 2, 3, 4, 5, 6, 7, 8, 9, 10, 11, 12, 13, 14] (by decide) rfl
      exact W.zret (v := 0) hx hb hr rfl (fun t ht hW => ⟨⟨0, (mf29, mf30, mf31, mrates), rfl, ⟨hr_m29, (by (try dsimp only); omega), (Or.inl ⟨by decide, fun hm => by have h1 := hm.1; have h2 := hm.2.1; have h3 := hm.2.2.1; subst_vars; omega⟩)⟩, by rw [ht]; exact hP9, hD9⟩, hS.F ht⟩) hS.2.2 dX9_maySail_35
    ·
      have ic_8 : z_7.toInt ≠ 0 := mt (g_eq rfl t_0).mpr c_8
      clear c_8
      refine lv_aload_n hx hb dX9_maySail_27 rfl (lv_at hl 0 rfl) ?_
      refine va_get (D := D) (ci := 9) (v := .int mtoday) (C := RX9) (T := TX9) (N := 68) hx hb htb iX9 hown hK.1 hP 0 rfl rfl 1 (by decide) (htb _ k_959) (fun _ h9 => h9) rfl dX9_maySail_28 ?_
      refine lv_if_ne (tgt := 36) hx hb dX9_maySail_31 (by decide) (fun c_9 => ?_) (fun c_9 => ?_)
      ·
        have ic_9 : mtoday.toInt ≠ 0 := mt (g_eq rfl t_0).mpr c_9
        clear c_9
        refine lv_aload_n hx hb dX9_maySail_36 rfl (lv_at hl 0 rfl) ?_
        refine lv_iload_n hx hb dX9_maySail_37 rfl (lv_at hl 1 rfl) ?_
        refine lv_aload_n hx hb dX9_maySail_38 rfl (lv_at hl 0 rfl) ?_
        refine va_get (D := D) (ci := 9) (v := .int mtoday) (C := RX9) (T := TX9) (N := 68) hx hb htb iX9 hown hK.1 hP 0 rfl rfl 1 (by decide) (htb _ k_959) (fun _ h9 => h9) rfl dX9_maySail_39 ?_
        refine lv_bipush (v := 30) hx hb dX9_maySail_42 (by decide) ?_
        refine lv_icmp_ge (tgt := 51) hx hb dX9_maySail_44 (by decide) (fun c_10 => ?_) (fun c_10 => ?_)
        ·
          have ic_10 : 30 ≤ mtoday.toInt := by first | exact (g_le t_30 rfl).mp c_10 | (have h := mt (g_lt rfl t_30).mpr c_10; omega)
          clear c_10
          refine lv_aload_n hx hb dX9_maySail_51 rfl (lv_at hl 0 rfl) ?_
          refine va_get (D := D) (ci := 9) (v := .int mtoday) (C := RX9) (T := TX9) (N := 68) hx hb htb iX9 hown hK.1 hP 0 rfl rfl 1 (by decide) (htb _ k_959) (fun _ h9 => h9) rfl dX9_maySail_52 ?_
          refine lv_bipush (v := 30) hx hb dX9_maySail_55 (by decide) ?_
          refine lv_isub hx hb dX9_maySail_57 ?_
          refine lv_topi (fun z_11 ez_11 => ?_)
          have jz_11 : z_11.toInt = mtoday.toInt - 30 := by rw [ez_11]; exact g_sub rfl t_30 (by omega) (by omega)
          refine lv_aload_n hx hb dX9_maySail_58 rfl (lv_at hl 0 rfl) ?_
          refine va_get (D := D) (ci := 9) (v := .int mtoday) (C := RX9) (T := TX9) (N := 68) hx hb htb iX9 hown hK.1 hP 0 rfl rfl 1 (by decide) (htb _ k_959) (fun _ h9 => h9) rfl dX9_maySail_59 ?_
          have hPc := hP.sub (ws' := [(mh, .inr (9, G9 ma mcode mtoday moffs mmany msumW msumA msumR msumWW msumWA msumAA msumWR msumAR mupper mlower mrates mtaped mlaid mat mtk mtkAt mtkNumber mwaits mlisted mdealtMany)), ((ma 5), .inl (E 1, 6400, .inl mf5)), ((ma 6), .inl (E 0, 6400, .inl mf6)), ((ma 7), .inl (E 0, 6400, .inl mf7)), ((ma 8), .inl (E 1, 6400, .inl mf8)), ((ma 9), .inl (E 1, 6400, .inl mf9)), ((ma 12), .inl (E 0, 60, .inl mf12)), ((ma 13), .inl (E 0, 60, .inl mf13)), ((ma 14), .inl (E 0, 60, .inl mf14)), ((ma 15), .inl (E 0, 60, .inl mf15)), ((ma 16), .inl (E 0, 60, .inl mf16)), ((ma 29), .inl (E 0, 60, .inl mf29)), ((ma 30), .inl (E 0, 60, .inl mf30)), ((ma 31), .inl (E 0, 60, .inl mf31))]) [0, 1, 2, 3, 4, 5, 7, 8, 9, 10, 11, 12, 13, 14] rfl
          have hDc := hD.sub (ws' := [(mh, .inr (9, G9 ma mcode mtoday moffs mmany msumW msumA msumR msumWW msumWA msumAA msumWR msumAR mupper mlower mrates mtaped mlaid mat mtk mtkAt mtkNumber mwaits mlisted mdealtMany)), ((ma 5), .inl (E 1, 6400, .inl mf5)), ((ma 6), .inl (E 0, 6400, .inl mf6)), ((ma 7), .inl (E 0, 6400, .inl mf7)), ((ma 8), .inl (E 1, 6400, .inl mf8)), ((ma 9), .inl (E 1, 6400, .inl mf9)), ((ma 12), .inl (E 0, 60, .inl mf12)), ((ma 13), .inl (E 0, 60, .inl mf13)), ((ma 14), .inl (E 0, 60, .inl mf14)), ((ma 15), .inl (E 0, 60, .inl mf15)), ((ma 16), .inl (E 0, 60, .inl mf16)), ((ma 29), .inl (E 0, 60, .inl mf29)), ((ma 30), .inl (E 0, 60, .inl mf30)), ((ma 31), .inl (E 0, 60, .inl mf31))]) [0, 1, 2, 3, 4, 5, 7, 8, 9, 10, 11, 12, 13, 14] (by decide) rfl
          refine aft_v (runMV (rest := []) (As := [.int p0, .int z_11, .int mtoday]) hx hb hml hown htb hK (g_X9_findRates l D E mh ma mcode mtoday moffs mmany msumW msumA msumR msumWW msumWA msumAA msumWR msumAR mupper mlower mrates mtaped mlaid mat mtk mtkAt mtkNumber mwaits mlisted mdealtMany mf5 mf6 mf7 mf8 mf9 mf12 mf13 mf14 mf15 mf16 mf29 mf30 mf31 p0 z_11 mtoday _ (by (try dsimp only); omega) hr_m29 (by (try dsimp only); omega) (by (try dsimp only); omega)) ok_X9_findRates k_1322 k_1324 ks_53 k_9 k_1325 ⟨(Nat.le_of_ble_eq_true rfl), (Nat.le_of_ble_eq_true rfl)⟩ ⟨(Nat.le_of_ble_eq_true rfl), (Nat.le_of_ble_eq_true rfl)⟩ hl.1 (Nat.le_of_ble_eq_true rfl) rfl rfl dX9_maySail_62 hPc hDc rfl rfl 0 rfl) hP hD hS hA [0, 1, 2, 3, 4, 5, 7, 8, 9, 10, 11, 12, 13, 14] [6] (wr := [((ma 10), .inl (E 0, 6400, .inl mf10))]) rfl rfl (by decide) (by decide) (fun u_14 H locs hw_13 hP hD hS => ?_)
          clear hPc hDc
          obtain ⟨w_15, w_16, w_17, w_18⟩ := u_14
          try dsimp only at hw_13
          have hP : va_P D vwCl [((ma 10), .inl (E 0, 6400, .inl mf10)), (mh, .inr (9, G9 ma mcode mtoday moffs mmany msumW msumA msumR msumWW msumWA msumAA msumWR msumAR mupper mlower w_18 mtaped mlaid mat mtk mtkAt mtkNumber mwaits mlisted mdealtMany)), ((ma 5), .inl (E 1, 6400, .inl mf5)), ((ma 6), .inl (E 0, 6400, .inl mf6)), ((ma 7), .inl (E 0, 6400, .inl mf7)), ((ma 8), .inl (E 1, 6400, .inl mf8)), ((ma 9), .inl (E 1, 6400, .inl mf9)), ((ma 12), .inl (E 0, 60, .inl mf12)), ((ma 13), .inl (E 0, 60, .inl mf13)), ((ma 14), .inl (E 0, 60, .inl mf14)), ((ma 15), .inl (E 0, 60, .inl mf15)), ((ma 16), .inl (E 0, 60, .inl mf16)), ((ma 29), .inl (E 0, 60, .inl w_15)), ((ma 30), .inl (E 0, 60, .inl w_16)), ((ma 31), .inl (E 0, 60, .inl w_17))] H := hP
          have hD := toW hP hD rfl
          obtain ⟨hw_13_0, hw_13_1, hw_13_2, hw_13_3, hw_13_4⟩ := hw_13
          refine lv_aload_n hx hb dX9_maySail_65 rfl (lv_at hl 0 rfl) ?_
          refine va_get (D := D) (ci := 9) (v := .int w_18) (C := RX9) (T := TX9) (N := 68) hx hb htb iX9 hown hK.1 hP 1 rfl rfl 28 (by decide) (htb _ k_986) (fun _ h9 => h9) rfl dX9_maySail_66 ?_
          refine lv_iconst (v := 2) hx hb dX9_maySail_69 (by decide) ?_
          refine lv_icmp_lt (tgt := 77) hx hb dX9_maySail_70 (by decide) (fun c_19 => ?_) (fun c_19 => ?_)
          ·
            have ic_19 : w_18.toInt < 2 := by first | exact (g_lt rfl t_2).mp c_19 | (have h := mt (g_le t_2 rfl).mpr c_19; omega)
            clear c_19
            refine lv_iconst (v := 0) hx hb dX9_maySail_77 (by decide) ?_
            have hP9 := hP.sub (ws' := [(mh, .inr (9, G9 ma mcode mtoday moffs mmany msumW msumA msumR msumWW msumWA msumAA msumWR msumAR mupper mlower w_18 mtaped mlaid mat mtk mtkAt mtkNumber mwaits mlisted mdealtMany)), ((ma 5), .inl (E 1, 6400, .inl mf5)), ((ma 6), .inl (E 0, 6400, .inl mf6)), ((ma 7), .inl (E 0, 6400, .inl mf7)), ((ma 8), .inl (E 1, 6400, .inl mf8)), ((ma 9), .inl (E 1, 6400, .inl mf9)), ((ma 10), .inl (E 0, 6400, .inl mf10)), ((ma 12), .inl (E 0, 60, .inl mf12)), ((ma 13), .inl (E 0, 60, .inl mf13)), ((ma 14), .inl (E 0, 60, .inl mf14)), ((ma 15), .inl (E 0, 60, .inl mf15)), ((ma 16), .inl (E 0, 60, .inl mf16)), ((ma 29), .inl (E 0, 60, .inl w_15)), ((ma 30), .inl (E 0, 60, .inl w_16)), ((ma 31), .inl (E 0, 60, .inl w_17))]) [1, 2, 3, 4, 5, 6, 0, 7, 8, 9, 10, 11, 12, 13, 14] rfl
            have hD9 := hD.sub (ws' := [(mh, .inr (9, G9 ma mcode mtoday moffs mmany msumW msumA msumR msumWW msumWA msumAA msumWR msumAR mupper mlower w_18 mtaped mlaid mat mtk mtkAt mtkNumber mwaits mlisted mdealtMany)), ((ma 5), .inl (E 1, 6400, .inl mf5)), ((ma 6), .inl (E 0, 6400, .inl mf6)), ((ma 7), .inl (E 0, 6400, .inl mf7)), ((ma 8), .inl (E 1, 6400, .inl mf8)), ((ma 9), .inl (E 1, 6400, .inl mf9)), ((ma 10), .inl (E 0, 6400, .inl mf10)), ((ma 12), .inl (E 0, 60, .inl mf12)), ((ma 13), .inl (E 0, 60, .inl mf13)), ((ma 14), .inl (E 0, 60, .inl mf14)), ((ma 15), .inl (E 0, 60, .inl mf15)), ((ma 16), .inl (E 0, 60, .inl mf16)), ((ma 29), .inl (E 0, 60, .inl w_15)), ((ma 30), .inl (E 0, 60, .inl w_16)), ((ma 31), .inl (E 0, 60, .inl w_17))]) [1, 2, 3, 4, 5, 6, 0, 7, 8, 9, 10, 11, 12, 13, 14] (by decide) rfl
            exact W.zret (v := 0) hx hb hr rfl (fun t ht hW => ⟨⟨0, (w_15, w_16, w_17, w_18), rfl, ⟨hw_13_0, (by (try dsimp only); omega), (Or.inl ⟨by decide, fun hm => by have h4 := hm.2.2.2; have hc := hw_13_2; unfold loD at h4; first | (rw [if_pos (by omega)] at h4; simp only [t_0] at h4; omega) | (rw [if_neg (by omega)] at h4; subst_vars; omega)⟩)⟩, by rw [ht]; exact hP9, hD9⟩, hS.F ht⟩) hS.2.2 dX9_maySail_78
          ·
            have ic_19 : 2 ≤ w_18.toInt := by first | exact (g_le t_2 rfl).mp c_19 | (have h := mt (g_lt rfl t_2).mpr c_19; omega)
            clear c_19
            refine lv_iconst (v := 1) hx hb dX9_maySail_73 (by decide) ?_
            refine lv_goto (tgt := 78) hx hb dX9_maySail_74 (by decide) ?_
            have hP9 := hP.sub (ws' := [(mh, .inr (9, G9 ma mcode mtoday moffs mmany msumW msumA msumR msumWW msumWA msumAA msumWR msumAR mupper mlower w_18 mtaped mlaid mat mtk mtkAt mtkNumber mwaits mlisted mdealtMany)), ((ma 5), .inl (E 1, 6400, .inl mf5)), ((ma 6), .inl (E 0, 6400, .inl mf6)), ((ma 7), .inl (E 0, 6400, .inl mf7)), ((ma 8), .inl (E 1, 6400, .inl mf8)), ((ma 9), .inl (E 1, 6400, .inl mf9)), ((ma 10), .inl (E 0, 6400, .inl mf10)), ((ma 12), .inl (E 0, 60, .inl mf12)), ((ma 13), .inl (E 0, 60, .inl mf13)), ((ma 14), .inl (E 0, 60, .inl mf14)), ((ma 15), .inl (E 0, 60, .inl mf15)), ((ma 16), .inl (E 0, 60, .inl mf16)), ((ma 29), .inl (E 0, 60, .inl w_15)), ((ma 30), .inl (E 0, 60, .inl w_16)), ((ma 31), .inl (E 0, 60, .inl w_17))]) [1, 2, 3, 4, 5, 6, 0, 7, 8, 9, 10, 11, 12, 13, 14] rfl
            have hD9 := hD.sub (ws' := [(mh, .inr (9, G9 ma mcode mtoday moffs mmany msumW msumA msumR msumWW msumWA msumAA msumWR msumAR mupper mlower w_18 mtaped mlaid mat mtk mtkAt mtkNumber mwaits mlisted mdealtMany)), ((ma 5), .inl (E 1, 6400, .inl mf5)), ((ma 6), .inl (E 0, 6400, .inl mf6)), ((ma 7), .inl (E 0, 6400, .inl mf7)), ((ma 8), .inl (E 1, 6400, .inl mf8)), ((ma 9), .inl (E 1, 6400, .inl mf9)), ((ma 10), .inl (E 0, 6400, .inl mf10)), ((ma 12), .inl (E 0, 60, .inl mf12)), ((ma 13), .inl (E 0, 60, .inl mf13)), ((ma 14), .inl (E 0, 60, .inl mf14)), ((ma 15), .inl (E 0, 60, .inl mf15)), ((ma 16), .inl (E 0, 60, .inl mf16)), ((ma 29), .inl (E 0, 60, .inl w_15)), ((ma 30), .inl (E 0, 60, .inl w_16)), ((ma 31), .inl (E 0, 60, .inl w_17))]) [1, 2, 3, 4, 5, 6, 0, 7, 8, 9, 10, 11, 12, 13, 14] (by decide) rfl
            exact W.zret (v := 1) hx hb hr rfl (fun t ht hW => ⟨⟨1, (w_15, w_16, w_17, w_18), rfl, ⟨hw_13_0, (by (try dsimp only); omega), (Or.inr ⟨by decide, by subst_vars; omega, by subst_vars; omega, by omega, by (try dsimp only); have hc := hw_13_2; unfold loD; first | (rw [if_pos (by omega)]; simp only [t_0]; omega) | (rw [if_neg (by omega)]; subst_vars; omega)⟩)⟩, by rw [ht]; exact hP9, hD9⟩, hS.F ht⟩) hS.2.2 dX9_maySail_78
        ·
          have ic_10 : mtoday.toInt < 30 := by first | exact (g_lt rfl t_30).mp c_10 | (have h := mt (g_le t_30 rfl).mpr c_10; omega)
          clear c_10
          refine lv_iconst (v := 0) hx hb dX9_maySail_47 (by decide) ?_
          refine lv_goto (tgt := 58) hx hb dX9_maySail_48 (by decide) ?_
          refine lv_aload_n hx hb dX9_maySail_58 rfl (lv_at hl 0 rfl) ?_
          refine va_get (D := D) (ci := 9) (v := .int mtoday) (C := RX9) (T := TX9) (N := 68) hx hb htb iX9 hown hK.1 hP 0 rfl rfl 1 (by decide) (htb _ k_959) (fun _ h9 => h9) rfl dX9_maySail_59 ?_
          have hPc := hP.sub (ws' := [(mh, .inr (9, G9 ma mcode mtoday moffs mmany msumW msumA msumR msumWW msumWA msumAA msumWR msumAR mupper mlower mrates mtaped mlaid mat mtk mtkAt mtkNumber mwaits mlisted mdealtMany)), ((ma 5), .inl (E 1, 6400, .inl mf5)), ((ma 6), .inl (E 0, 6400, .inl mf6)), ((ma 7), .inl (E 0, 6400, .inl mf7)), ((ma 8), .inl (E 1, 6400, .inl mf8)), ((ma 9), .inl (E 1, 6400, .inl mf9)), ((ma 12), .inl (E 0, 60, .inl mf12)), ((ma 13), .inl (E 0, 60, .inl mf13)), ((ma 14), .inl (E 0, 60, .inl mf14)), ((ma 15), .inl (E 0, 60, .inl mf15)), ((ma 16), .inl (E 0, 60, .inl mf16)), ((ma 29), .inl (E 0, 60, .inl mf29)), ((ma 30), .inl (E 0, 60, .inl mf30)), ((ma 31), .inl (E 0, 60, .inl mf31))]) [0, 1, 2, 3, 4, 5, 7, 8, 9, 10, 11, 12, 13, 14] rfl
          have hDc := hD.sub (ws' := [(mh, .inr (9, G9 ma mcode mtoday moffs mmany msumW msumA msumR msumWW msumWA msumAA msumWR msumAR mupper mlower mrates mtaped mlaid mat mtk mtkAt mtkNumber mwaits mlisted mdealtMany)), ((ma 5), .inl (E 1, 6400, .inl mf5)), ((ma 6), .inl (E 0, 6400, .inl mf6)), ((ma 7), .inl (E 0, 6400, .inl mf7)), ((ma 8), .inl (E 1, 6400, .inl mf8)), ((ma 9), .inl (E 1, 6400, .inl mf9)), ((ma 12), .inl (E 0, 60, .inl mf12)), ((ma 13), .inl (E 0, 60, .inl mf13)), ((ma 14), .inl (E 0, 60, .inl mf14)), ((ma 15), .inl (E 0, 60, .inl mf15)), ((ma 16), .inl (E 0, 60, .inl mf16)), ((ma 29), .inl (E 0, 60, .inl mf29)), ((ma 30), .inl (E 0, 60, .inl mf30)), ((ma 31), .inl (E 0, 60, .inl mf31))]) [0, 1, 2, 3, 4, 5, 7, 8, 9, 10, 11, 12, 13, 14] (by decide) rfl
          refine aft_v (runMV (rest := []) (As := [.int p0, .int 0, .int mtoday]) hx hb hml hown htb hK (g_X9_findRates l D E mh ma mcode mtoday moffs mmany msumW msumA msumR msumWW msumWA msumAA msumWR msumAR mupper mlower mrates mtaped mlaid mat mtk mtkAt mtkNumber mwaits mlisted mdealtMany mf5 mf6 mf7 mf8 mf9 mf12 mf13 mf14 mf15 mf16 mf29 mf30 mf31 p0 0 mtoday _ (by (try dsimp only); omega) hr_m29 (by have h0 := t_0; (try dsimp only); omega) (by have h0 := t_0; (try dsimp only); omega)) ok_X9_findRates k_1322 k_1324 ks_53 k_9 k_1325 ⟨(Nat.le_of_ble_eq_true rfl), (Nat.le_of_ble_eq_true rfl)⟩ ⟨(Nat.le_of_ble_eq_true rfl), (Nat.le_of_ble_eq_true rfl)⟩ hl.1 (Nat.le_of_ble_eq_true rfl) rfl rfl dX9_maySail_62 hPc hDc rfl rfl 0 rfl) hP hD hS hA [0, 1, 2, 3, 4, 5, 7, 8, 9, 10, 11, 12, 13, 14] [6] (wr := [((ma 10), .inl (E 0, 6400, .inl mf10))]) rfl rfl (by decide) (by decide) (fun u_22 H locs hw_21 hP hD hS => ?_)
          clear hPc hDc
          obtain ⟨w_23, w_24, w_25, w_26⟩ := u_22
          try dsimp only at hw_21
          have hP : va_P D vwCl [((ma 10), .inl (E 0, 6400, .inl mf10)), (mh, .inr (9, G9 ma mcode mtoday moffs mmany msumW msumA msumR msumWW msumWA msumAA msumWR msumAR mupper mlower w_26 mtaped mlaid mat mtk mtkAt mtkNumber mwaits mlisted mdealtMany)), ((ma 5), .inl (E 1, 6400, .inl mf5)), ((ma 6), .inl (E 0, 6400, .inl mf6)), ((ma 7), .inl (E 0, 6400, .inl mf7)), ((ma 8), .inl (E 1, 6400, .inl mf8)), ((ma 9), .inl (E 1, 6400, .inl mf9)), ((ma 12), .inl (E 0, 60, .inl mf12)), ((ma 13), .inl (E 0, 60, .inl mf13)), ((ma 14), .inl (E 0, 60, .inl mf14)), ((ma 15), .inl (E 0, 60, .inl mf15)), ((ma 16), .inl (E 0, 60, .inl mf16)), ((ma 29), .inl (E 0, 60, .inl w_23)), ((ma 30), .inl (E 0, 60, .inl w_24)), ((ma 31), .inl (E 0, 60, .inl w_25))] H := hP
          have hD := toW hP hD rfl
          obtain ⟨hw_21_0, hw_21_1, hw_21_2, hw_21_3, hw_21_4⟩ := hw_21
          try simp only [t_0] at hw_21_0
          try simp only [t_0] at hw_21_1
          try simp only [t_0] at hw_21_2
          try simp only [t_0] at hw_21_3
          try simp only [t_0] at hw_21_4
          refine lv_aload_n hx hb dX9_maySail_65 rfl (lv_at hl 0 rfl) ?_
          refine va_get (D := D) (ci := 9) (v := .int w_26) (C := RX9) (T := TX9) (N := 68) hx hb htb iX9 hown hK.1 hP 1 rfl rfl 28 (by decide) (htb _ k_986) (fun _ h9 => h9) rfl dX9_maySail_66 ?_
          refine lv_iconst (v := 2) hx hb dX9_maySail_69 (by decide) ?_
          refine lv_icmp_lt (tgt := 77) hx hb dX9_maySail_70 (by decide) (fun c_27 => ?_) (fun c_27 => ?_)
          ·
            have ic_27 : w_26.toInt < 2 := by first | exact (g_lt rfl t_2).mp c_27 | (have h := mt (g_le t_2 rfl).mpr c_27; omega)
            clear c_27
            refine lv_iconst (v := 0) hx hb dX9_maySail_77 (by decide) ?_
            have hP9 := hP.sub (ws' := [(mh, .inr (9, G9 ma mcode mtoday moffs mmany msumW msumA msumR msumWW msumWA msumAA msumWR msumAR mupper mlower w_26 mtaped mlaid mat mtk mtkAt mtkNumber mwaits mlisted mdealtMany)), ((ma 5), .inl (E 1, 6400, .inl mf5)), ((ma 6), .inl (E 0, 6400, .inl mf6)), ((ma 7), .inl (E 0, 6400, .inl mf7)), ((ma 8), .inl (E 1, 6400, .inl mf8)), ((ma 9), .inl (E 1, 6400, .inl mf9)), ((ma 10), .inl (E 0, 6400, .inl mf10)), ((ma 12), .inl (E 0, 60, .inl mf12)), ((ma 13), .inl (E 0, 60, .inl mf13)), ((ma 14), .inl (E 0, 60, .inl mf14)), ((ma 15), .inl (E 0, 60, .inl mf15)), ((ma 16), .inl (E 0, 60, .inl mf16)), ((ma 29), .inl (E 0, 60, .inl w_23)), ((ma 30), .inl (E 0, 60, .inl w_24)), ((ma 31), .inl (E 0, 60, .inl w_25))]) [1, 2, 3, 4, 5, 6, 0, 7, 8, 9, 10, 11, 12, 13, 14] rfl
            have hD9 := hD.sub (ws' := [(mh, .inr (9, G9 ma mcode mtoday moffs mmany msumW msumA msumR msumWW msumWA msumAA msumWR msumAR mupper mlower w_26 mtaped mlaid mat mtk mtkAt mtkNumber mwaits mlisted mdealtMany)), ((ma 5), .inl (E 1, 6400, .inl mf5)), ((ma 6), .inl (E 0, 6400, .inl mf6)), ((ma 7), .inl (E 0, 6400, .inl mf7)), ((ma 8), .inl (E 1, 6400, .inl mf8)), ((ma 9), .inl (E 1, 6400, .inl mf9)), ((ma 10), .inl (E 0, 6400, .inl mf10)), ((ma 12), .inl (E 0, 60, .inl mf12)), ((ma 13), .inl (E 0, 60, .inl mf13)), ((ma 14), .inl (E 0, 60, .inl mf14)), ((ma 15), .inl (E 0, 60, .inl mf15)), ((ma 16), .inl (E 0, 60, .inl mf16)), ((ma 29), .inl (E 0, 60, .inl w_23)), ((ma 30), .inl (E 0, 60, .inl w_24)), ((ma 31), .inl (E 0, 60, .inl w_25))]) [1, 2, 3, 4, 5, 6, 0, 7, 8, 9, 10, 11, 12, 13, 14] (by decide) rfl
            exact W.zret (v := 0) hx hb hr rfl (fun t ht hW => ⟨⟨0, (w_23, w_24, w_25, w_26), rfl, ⟨hw_21_0, (by (try dsimp only); omega), (Or.inl ⟨by decide, fun hm => by have h4 := hm.2.2.2; have hc := hw_21_2; unfold loD at h4; first | (rw [if_pos (by omega)] at h4; simp only [t_0] at h4; omega) | (rw [if_neg (by omega)] at h4; subst_vars; omega)⟩)⟩, by rw [ht]; exact hP9, hD9⟩, hS.F ht⟩) hS.2.2 dX9_maySail_78
          ·
            have ic_27 : 2 ≤ w_26.toInt := by first | exact (g_le t_2 rfl).mp c_27 | (have h := mt (g_lt rfl t_2).mpr c_27; omega)
            clear c_27
            refine lv_iconst (v := 1) hx hb dX9_maySail_73 (by decide) ?_
            refine lv_goto (tgt := 78) hx hb dX9_maySail_74 (by decide) ?_
            have hP9 := hP.sub (ws' := [(mh, .inr (9, G9 ma mcode mtoday moffs mmany msumW msumA msumR msumWW msumWA msumAA msumWR msumAR mupper mlower w_26 mtaped mlaid mat mtk mtkAt mtkNumber mwaits mlisted mdealtMany)), ((ma 5), .inl (E 1, 6400, .inl mf5)), ((ma 6), .inl (E 0, 6400, .inl mf6)), ((ma 7), .inl (E 0, 6400, .inl mf7)), ((ma 8), .inl (E 1, 6400, .inl mf8)), ((ma 9), .inl (E 1, 6400, .inl mf9)), ((ma 10), .inl (E 0, 6400, .inl mf10)), ((ma 12), .inl (E 0, 60, .inl mf12)), ((ma 13), .inl (E 0, 60, .inl mf13)), ((ma 14), .inl (E 0, 60, .inl mf14)), ((ma 15), .inl (E 0, 60, .inl mf15)), ((ma 16), .inl (E 0, 60, .inl mf16)), ((ma 29), .inl (E 0, 60, .inl w_23)), ((ma 30), .inl (E 0, 60, .inl w_24)), ((ma 31), .inl (E 0, 60, .inl w_25))]) [1, 2, 3, 4, 5, 6, 0, 7, 8, 9, 10, 11, 12, 13, 14] rfl
            have hD9 := hD.sub (ws' := [(mh, .inr (9, G9 ma mcode mtoday moffs mmany msumW msumA msumR msumWW msumWA msumAA msumWR msumAR mupper mlower w_26 mtaped mlaid mat mtk mtkAt mtkNumber mwaits mlisted mdealtMany)), ((ma 5), .inl (E 1, 6400, .inl mf5)), ((ma 6), .inl (E 0, 6400, .inl mf6)), ((ma 7), .inl (E 0, 6400, .inl mf7)), ((ma 8), .inl (E 1, 6400, .inl mf8)), ((ma 9), .inl (E 1, 6400, .inl mf9)), ((ma 10), .inl (E 0, 6400, .inl mf10)), ((ma 12), .inl (E 0, 60, .inl mf12)), ((ma 13), .inl (E 0, 60, .inl mf13)), ((ma 14), .inl (E 0, 60, .inl mf14)), ((ma 15), .inl (E 0, 60, .inl mf15)), ((ma 16), .inl (E 0, 60, .inl mf16)), ((ma 29), .inl (E 0, 60, .inl w_23)), ((ma 30), .inl (E 0, 60, .inl w_24)), ((ma 31), .inl (E 0, 60, .inl w_25))]) [1, 2, 3, 4, 5, 6, 0, 7, 8, 9, 10, 11, 12, 13, 14] (by decide) rfl
            exact W.zret (v := 1) hx hb hr rfl (fun t ht hW => ⟨⟨1, (w_23, w_24, w_25, w_26), rfl, ⟨hw_21_0, (by (try dsimp only); omega), (Or.inr ⟨by decide, by subst_vars; omega, by subst_vars; omega, by omega, by (try dsimp only); have hc := hw_21_2; unfold loD; first | (rw [if_pos (by omega)]; simp only [t_0]; omega) | (rw [if_neg (by omega)]; subst_vars; omega)⟩)⟩, by rw [ht]; exact hP9, hD9⟩, hS.F ht⟩) hS.2.2 dX9_maySail_78
      ·
        have ic_9 : mtoday.toInt = 0 := (g_eq rfl t_0).mp c_9
        clear c_9
        refine lv_iconst (v := 0) hx hb dX9_maySail_34 (by decide) ?_
        have hP9 := hP.sub (ws' := [(mh, .inr (9, G9 ma mcode mtoday moffs mmany msumW msumA msumR msumWW msumWA msumAA msumWR msumAR mupper mlower mrates mtaped mlaid mat mtk mtkAt mtkNumber mwaits mlisted mdealtMany)), ((ma 5), .inl (E 1, 6400, .inl mf5)), ((ma 6), .inl (E 0, 6400, .inl mf6)), ((ma 7), .inl (E 0, 6400, .inl mf7)), ((ma 8), .inl (E 1, 6400, .inl mf8)), ((ma 9), .inl (E 1, 6400, .inl mf9)), ((ma 10), .inl (E 0, 6400, .inl mf10)), ((ma 12), .inl (E 0, 60, .inl mf12)), ((ma 13), .inl (E 0, 60, .inl mf13)), ((ma 14), .inl (E 0, 60, .inl mf14)), ((ma 15), .inl (E 0, 60, .inl mf15)), ((ma 16), .inl (E 0, 60, .inl mf16)), ((ma 29), .inl (E 0, 60, .inl mf29)), ((ma 30), .inl (E 0, 60, .inl mf30)), ((ma 31), .inl (E 0, 60, .inl mf31))]) [0, 1, 2, 3, 4, 5, 6, 7, 8, 9, 10, 11, 12, 13, 14] rfl
        have hD9 := hD.sub (ws' := [(mh, .inr (9, G9 ma mcode mtoday moffs mmany msumW msumA msumR msumWW msumWA msumAA msumWR msumAR mupper mlower mrates mtaped mlaid mat mtk mtkAt mtkNumber mwaits mlisted mdealtMany)), ((ma 5), .inl (E 1, 6400, .inl mf5)), ((ma 6), .inl (E 0, 6400, .inl mf6)), ((ma 7), .inl (E 0, 6400, .inl mf7)), ((ma 8), .inl (E 1, 6400, .inl mf8)), ((ma 9), .inl (E 1, 6400, .inl mf9)), ((ma 10), .inl (E 0, 6400, .inl mf10)), ((ma 12), .inl (E 0, 60, .inl mf12)), ((ma 13), .inl (E 0, 60, .inl mf13)), ((ma 14), .inl (E 0, 60, .inl mf14)), ((ma 15), .inl (E 0, 60, .inl mf15)), ((ma 16), .inl (E 0, 60, .inl mf16)), ((ma 29), .inl (E 0, 60, .inl mf29)), ((ma 30), .inl (E 0, 60, .inl mf30)), ((ma 31), .inl (E 0, 60, .inl mf31))]) [0, 1, 2, 3, 4, 5, 6, 7, 8, 9, 10, 11, 12, 13, 14] (by decide) rfl
        exact W.zret (v := 0) hx hb hr rfl (fun t ht hW => ⟨⟨0, (mf29, mf30, mf31, mrates), rfl, ⟨hr_m29, (by (try dsimp only); omega), (Or.inl ⟨by decide, fun hm => by have h1 := hm.1; have h2 := hm.2.1; have h3 := hm.2.2.1; subst_vars; omega⟩)⟩, by rw [ht]; exact hP9, hD9⟩, hS.F ht⟩) hS.2.2 dX9_maySail_35
