section
set_option maxHeartbeats 4000000 in
set_option maxRecDepth 100000 in
theorem g_X9_errorOf (l : Launch) (D : va_G) (E : Nat → Nat) (mh : Nat) (ma : Nat → Nat) (mcode : Int32) (mtoday : Int32) (moffs : Int32) (mmany : Int64) (msumW : Int64) (msumA : Int64) (msumR : Int64) (msumWW : Int64) (msumWA : Int64) (msumAA : Int64) (msumWR : Int64) (msumAR : Int64) (mupper : Int64) (mlower : Int64) (mrates : Int32) (mtaped : Int32) (mlaid : Int32) (mat : Int32) (mtk : Int32) (mtkAt : Int32) (mtkNumber : Int32) (mwaits : Int32) (mlisted : Int32) (mdealtMany : Int32) (mf5 : Nat → Int32) (mf6 : Nat → Int32) (mf7 : Nat → Int32) (mf12 : Nat → Int32) (mf13 : Nat → Int32) (mf14 : Nat → Int32) (mf15 : Nat → Int32) (mf16 : Nat → Int32) (p0 : Int32) (p1 : Int32) (p2 : Int32) (hi_m : (0 ≤ mtoday.toInt ∧ mtoday.toInt ≤ 399) ∧ (0 ≤ moffs.toInt ∧ moffs.toInt ≤ 60) ∧ (0 ≤ mrates.toInt ∧ mrates.toInt ≤ 60) ∧ (0 ≤ mtaped.toInt ∧ mtaped.toInt ≤ 120) ∧ (0 ≤ mlisted.toInt ∧ mlisted.toInt ≤ 9) ∧ (0 ≤ mdealtMany.toInt ∧ mdealtMany.toInt ≤ 9)) (g0 : 0 ≤ p0.toInt ∧ p0.toInt ≤ 15) (g1 : 0 ≤ p1.toInt ∧ p1.toInt ≤ 399) : Met l yX9_errorOf (wl yX9_errorOf cX9_errorOf 7 (some .int)) (RM 1 0 0) (rd_P D E [.ref mh, .int p0, .int p1, .int p2] [(mh, .inr (9, G9 ma mcode mtoday moffs mmany msumW msumA msumR msumWW msumWA msumAA msumWR msumAR mupper mlower mrates mtaped mlaid mat mtk mtkAt mtkNumber mwaits mlisted mdealtMany)), ((ma 5), .inl (E 1, 6400, .inl mf5)), ((ma 6), .inl (E 0, 6400, .inl mf6)), ((ma 7), .inl (E 0, 6400, .inl mf7)), ((ma 12), .inl (E 0, 60, .inl mf12)), ((ma 13), .inl (E 0, 60, .inl mf13)), ((ma 14), .inl (E 0, 60, .inl mf14)), ((ma 15), .inl (E 0, 60, .inl mf15)), ((ma 16), .inl (E 0, 60, .inl mf16))]) (rd_Q (fun r => (r = errF mf5 mf6 mf7 mf12 mf13 mf14 mf15 mf16 moffs p0 p1 p2))) 0 0 (fun _ => False) := by
  refine Met.ofW (cc := cX9_errorOf) (maxL := 7) (ret := (some .int)) (by decide) rfl ?_
  intro p e s m args below meth c s₁ B hml hv
  obtain ⟨rfl, hP, hK⟩ := hv
  have hx := B.exec; have hb := B.bytes; have hr := B.returns
  have hts := atoms_spec (ws := wl yX9_errorOf cX9_errorOf 7 (some .int)) B.pre
  have htb : ∀ w ∈ tb, w.before _ s = true := fun w h => hts w (List.mem_cons_of_mem _ h)
  have hown : s.vm.findClass RX9 = some m.cls := findClass_of_methodNamed B.named
  have hlocks := B.notSynchronized
  have hP : va_P D vwCl [(mh, .inr (9, G9 ma mcode mtoday moffs mmany msumW msumA msumR msumWW msumWA msumAA msumWR msumAR mupper mlower mrates mtaped mlaid mat mtk mtkAt mtkNumber mwaits mlisted mdealtMany)), ((ma 5), .inl (E 1, 6400, .inl mf5)), ((ma 6), .inl (E 0, 6400, .inl mf6)), ((ma 7), .inl (E 0, 6400, .inl mf7)), ((ma 12), .inl (E 0, 60, .inl mf12)), ((ma 13), .inl (E 0, 60, .inl mf13)), ((ma 14), .inl (E 0, 60, .inl mf14)), ((ma 15), .inl (E 0, 60, .inl mf15)), ((ma 16), .inl (E 0, 60, .inl mf16))] s.heap := hP
  have hl := lv_entry ([.ref mh, .int p0, .int p1, .int p2]) (n := 7) (Nat.le_of_ble_eq_true rfl)
  rw [lg_entry_eq]
  generalize (lg_sl ([.ref mh, .int p0, .int p1, .int p2]) ++ List.replicate (7 - (lg_sl ([.ref mh, .int p0, .int p1, .int p2])).length) Slot.unset).toArray = ls at hl ⊢
  have hl : lv_has ls 7 [(0, .ref mh), (1, .int p0), (2, .int p1), (3, .int p2)] := hl
  have lo_p0 := i_lo p0; have hi_p0 := i_hi p0
  have lo_p1 := i_lo p1; have hi_p1 := i_hi p1
  have lo_p2 := i_lo p2; have hi_p2 := i_hi p2
  refine lv_sipush (v := 400) hx hb dX9_errorOf_0 (by decide) ?_
  refine lv_iload_n hx hb dX9_errorOf_3 rfl (lv_at hl 1 rfl) ?_
  refine lv_imul hx hb dX9_errorOf_4 ?_
  refine lv_topi (fun z_1 ez_1 => ?_)
  have jz_1 : z_1.toInt = 400 * p0.toInt := by rw [ez_1]; exact g_mul t_400 rfl (by omega) (by omega)
  refine lv_iload_n hx hb dX9_errorOf_5 rfl (lv_at hl 2 rfl) ?_
  refine lv_iadd hx hb dX9_errorOf_6 ?_
  refine lv_topi (fun z_2 ez_2 => ?_)
  have jz_2 : z_2.toInt = z_1.toInt + p1.toInt := by rw [ez_2]; exact g_add rfl rfl (by omega) (by omega)
  refine lv_istore (lv' := [(4, .int z_2), (0, .ref mh), (1, .int p0), (2, .int p1), (3, .int p2)]) hx hb dX9_errorOf_7 hl (by decide) rfl (fun ls hl => ?_)
  refine lv_aload_n hx hb dX9_errorOf_9 rfl (lv_at hl 1 rfl) ?_
  refine va_get (D := D) (ci := 9) (v := .ref (ma 5)) (C := RX9) (T := TX9) (N := 68) hx hb htb iX9 hown hK.1 hP 0 rfl rfl 5 (by decide) (htb _ k_963) (fun _ h9 => h9) rfl dX9_errorOf_10 ?_
  refine lv_iload hx hb dX9_errorOf_13 (lv_at hl 0 rfl) ?_
  refine va_zald hx hb hK.1 hP 1 1 rfl rfl (g_in rfl (by omega) (by omega)) dX9_errorOf_15 ?_
  refine lv_topi (fun z_3 ez_3 => ?_)
  have kz_3 := congrArg Int32.toInt ez_3
  refine lv_if_ne (tgt := 22) hx hb dX9_errorOf_16 (by decide) (fun c_4 => ?_) (fun c_4 => ?_)
  ·
    have ic_4 : z_3.toInt ≠ 0 := mt (g_eq rfl t_0).mpr c_4
    clear c_4
    refine lv_aload_n hx hb dX9_errorOf_22 rfl (lv_at hl 1 rfl) ?_
    refine va_get (D := D) (ci := 9) (v := .ref (ma 6)) (C := RX9) (T := TX9) (N := 68) hx hb htb iX9 hown hK.1 hP 0 rfl rfl 6 (by decide) (htb _ k_964) (fun _ h9 => h9) rfl dX9_errorOf_23 ?_
    refine lv_iload hx hb dX9_errorOf_26 (lv_at hl 0 rfl) ?_
    refine va_iald hx hb hK.1 hP 2 0 rfl rfl (g_in rfl (by omega) (by omega)) dX9_errorOf_28 ?_
    refine lv_topi (fun z_5 ez_5 => ?_)
    have kz_5 := congrArg Int32.toInt ez_5
    refine lv_istore (lv' := [(5, .int z_5), (4, .int z_2), (0, .ref mh), (1, .int p0), (2, .int p1), (3, .int p2)]) hx hb dX9_errorOf_29 hl (by decide) rfl (fun ls hl => ?_)
    refine lv_iconst (v := 0) hx hb dX9_errorOf_31 (by decide) ?_
    refine lv_istore (lv' := [(6, .int 0), (5, .int z_5), (4, .int z_2), (0, .ref mh), (1, .int p0), (2, .int p1), (3, .int p2)]) hx hb dX9_errorOf_32 hl (by decide) rfl (fun ls hl => ?_)
    have loop_6 : ∀ (N_8 : Nat) (L6_34 : Int32) (L5_34 : Int32)  (ls : Array Slot), moffs.toInt - L6_34.toInt < (N_8 : Int) → (0 ≤ L6_34.toInt ∧ L6_34.toInt ≤ moffs.toInt) → (L5_34 = errS mf12 mf13 mf14 mf15 mf16 (mf7 (400 * p0 + p1).toNatClampNeg) p1 p2 (mf6 (400 * p0 + p1).toNatClampNeg) (L6_34).toNatClampNeg) → lv_has ls 7 [(6, .int L6_34), (5, .int L5_34), (4, .int z_2), (0, .ref mh), (1, .int p0), (2, .int p1), (3, .int p2)] → W p l e (headSpec (wl yX9_errorOf cX9_errorOf 7 (some .int)) (RM 1 0 0)).room s m [Value.ref mh, .int p0, .int p1, .int p2].toArray below meth c s.heap [] 0 0 (MQ below (rd_Q (fun r => (r = errF mf5 mf6 mf7 mf12 mf13 mf14 mf15 mf16 moffs p0 p1 p2))) [Value.ref mh, .int p0, .int p1, .int p2].toArray s 0 0 (fun _ => False)) (F0 m 34 ls []) := by
      intro N_8
      induction N_8 with
      | zero => intro L6_34 L5_34  ls hm v0_34 v1_34 _; exfalso; omega
      | succ N_8 ih_7 =>
        intro L6_34 L5_34 ls hm v0_34 v1_34 hl
        have lo_L6_34 := i_lo L6_34; have hi_L6_34 := i_hi L6_34
        have lo_L5_34 := i_lo L5_34; have hi_L5_34 := i_hi L5_34
        refine lv_iload hx hb dX9_errorOf_34 (lv_at hl 0 rfl) ?_
        refine lv_aload_n hx hb dX9_errorOf_36 rfl (lv_at hl 3 rfl) ?_
        refine va_get (D := D) (ci := 9) (v := .int moffs) (C := RX9) (T := TX9) (N := 68) hx hb htb iX9 hown hK.1 hP 0 rfl rfl 11 (by decide) (htb _ k_969) (fun _ h9 => h9) rfl dX9_errorOf_37 ?_
        refine lv_icmp_ge (tgt := 114) hx hb dX9_errorOf_40 (by decide) (fun c_9 => ?_) (fun c_9 => ?_)
        ·
          have ic_9 : moffs.toInt ≤ L6_34.toInt := by first | exact (g_le rfl rfl).mp c_9 | (have h := mt (g_lt rfl rfl).mpr c_9; omega)
          clear c_9
          refine lv_iload hx hb dX9_errorOf_114 (lv_at hl 1 rfl) ?_
          exact W.iret (v := L5_34) hx hb hr (fun t ht hW => ⟨L5_34, rfl, (by unfold errF; have hcl := clampE (i := L6_34) (j := moffs) (by omega) (by omega); subst_vars; rw [if_neg (by assumption), hcl]), ht⟩) (fun q h => by cases h) dX9_errorOf_116
        ·
          have ic_9 : L6_34.toInt < moffs.toInt := by first | exact (g_lt rfl rfl).mp c_9 | (have h := mt (g_le rfl rfl).mpr c_9; omega)
          clear c_9
          refine lv_aload_n hx hb dX9_errorOf_43 rfl (lv_at hl 3 rfl) ?_
          refine va_get (D := D) (ci := 9) (v := .ref (ma 12)) (C := RX9) (T := TX9) (N := 68) hx hb htb iX9 hown hK.1 hP 0 rfl rfl 12 (by decide) (htb _ k_970) (fun _ h9 => h9) rfl dX9_errorOf_44 ?_
          refine lv_iload hx hb dX9_errorOf_47 (lv_at hl 0 rfl) ?_
          refine va_iald hx hb hK.1 hP 4 0 rfl rfl (g_in rfl (by omega) (by omega)) dX9_errorOf_49 ?_
          refine lv_topi (fun z_10 ez_10 => ?_)
          have kz_10 := congrArg Int32.toInt ez_10
          refine lv_aload_n hx hb dX9_errorOf_50 rfl (lv_at hl 3 rfl) ?_
          refine va_get (D := D) (ci := 9) (v := .ref (ma 7)) (C := RX9) (T := TX9) (N := 68) hx hb htb iX9 hown hK.1 hP 0 rfl rfl 7 (by decide) (htb _ k_965) (fun _ h9 => h9) rfl dX9_errorOf_51 ?_
          refine lv_iload hx hb dX9_errorOf_54 (lv_at hl 2 rfl) ?_
          refine va_iald hx hb hK.1 hP 3 0 rfl rfl (g_in rfl (by omega) (by omega)) dX9_errorOf_56 ?_
          refine lv_topi (fun z_11 ez_11 => ?_)
          have kz_11 := congrArg Int32.toInt ez_11
          refine lv_icmp_ne (tgt := 108) hx hb dX9_errorOf_57 (by decide) (fun c_12 => ?_) (fun c_12 => ?_)
          ·
            have ic_12 : z_10.toInt ≠ z_11.toInt := mt (g_eq rfl rfl).mpr c_12
            clear c_12
            obtain ⟨z_13, ez_13⟩ : ∃ y : Int32, y = L6_34 + 1 := ⟨_, rfl⟩
            have jz_13 : z_13.toInt = L6_34.toInt + 1 := by rw [ez_13]; exact g_add rfl t_1 (by omega) (by omega)
            refine lv_iinc (v := z_13) (lv' := [(6, .int z_13), (5, .int L5_34), (4, .int z_2), (0, .ref mh), (1, .int p0), (2, .int p1), (3, .int p2)]) hx hb dX9_errorOf_108 hl (k := 0) rfl (by rw [ez_13]; rfl) (by decide) rfl (fun ls hl => ?_)
            refine lv_goto (tgt := 34) hx hb dX9_errorOf_111 (by decide) ?_
            exact ih_7 z_13 L5_34 _ (by (try dsimp only); omega) (by (try dsimp only); omega) (by have hcl := clampS (by omega) jz_13; subst_vars; rw [hcl, errS_succ]; split <;> first | rfl | (exfalso; omega)) (lv_sub hl [0, 1, 2, 3, 4, 5, 6] rfl)
          ·
            have ic_12 : z_10.toInt = z_11.toInt := (g_eq rfl rfl).mp c_12
            clear c_12
            refine lv_iload_n hx hb dX9_errorOf_60 rfl (lv_at hl 5 rfl) ?_
            refine lv_aload_n hx hb dX9_errorOf_61 rfl (lv_at hl 3 rfl) ?_
            refine va_get (D := D) (ci := 9) (v := .ref (ma 13)) (C := RX9) (T := TX9) (N := 68) hx hb htb iX9 hown hK.1 hP 0 rfl rfl 13 (by decide) (htb _ k_971) (fun _ h9 => h9) rfl dX9_errorOf_62 ?_
            refine lv_iload hx hb dX9_errorOf_65 (lv_at hl 0 rfl) ?_
            refine va_iald hx hb hK.1 hP 5 0 rfl rfl (g_in rfl (by omega) (by omega)) dX9_errorOf_67 ?_
            refine lv_topi (fun z_14 ez_14 => ?_)
            have kz_14 := congrArg Int32.toInt ez_14
            refine lv_aload_n hx hb dX9_errorOf_68 rfl (lv_at hl 3 rfl) ?_
            refine va_get (D := D) (ci := 9) (v := .ref (ma 14)) (C := RX9) (T := TX9) (N := 68) hx hb htb iX9 hown hK.1 hP 0 rfl rfl 14 (by decide) (htb _ k_972) (fun _ h9 => h9) rfl dX9_errorOf_69 ?_
            refine lv_iload hx hb dX9_errorOf_72 (lv_at hl 0 rfl) ?_
            refine va_iald hx hb hK.1 hP 6 0 rfl rfl (g_in rfl (by omega) (by omega)) dX9_errorOf_74 ?_
            refine lv_topi (fun z_15 ez_15 => ?_)
            have kz_15 := congrArg Int32.toInt ez_15
            refine callRS (rest := []) (As := [.int p1, .int z_14, .int z_15]) hx hb hml hown htb hK (g_X9_in l D E p1 z_14 z_15 ) ok_X9_in k_1168 k_1169 k_9 k_1170 ⟨(Nat.le_of_ble_eq_true rfl), (Nat.le_of_ble_eq_true rfl)⟩ ⟨(Nat.le_of_ble_eq_true rfl), (Nat.le_of_ble_eq_true rfl)⟩ hl.1 (Nat.le_of_ble_eq_true rfl) rfl rfl dX9_errorOf_75 (hP.sub (ws' := ([] : va_W)) [] rfl) (fun r_16 hw_17 => ?_)
            rcases hw_17 with ⟨hr_16, hw_17⟩ | ⟨hr_16, hw_17⟩
            ·
              refine W_top (y := .int 1) (by rw [hr_16]) ?_
              refine lv_if_eq (tgt := 108) hx hb dX9_errorOf_78 (by decide) (fun c_19 => absurd c_19 (by decide)) (fun c_19 => ?_)
              refine lv_iload_n hx hb dX9_errorOf_81 rfl (lv_at hl 6 rfl) ?_
              refine lv_if_lt (tgt := 96) hx hb dX9_errorOf_82 (by decide) (fun c_20 => ?_) (fun c_20 => ?_)
              ·
                have ic_20 : p2.toInt < 0 := by first | exact (g_lt rfl t_0).mp c_20 | (have h := mt (g_le t_0 rfl).mpr c_20; omega)
                clear c_20
                refine lv_iload hx hb dX9_errorOf_96 (lv_at hl 1 rfl) ?_
                refine lv_aload_n hx hb dX9_errorOf_98 rfl (lv_at hl 3 rfl) ?_
                refine va_get (D := D) (ci := 9) (v := .ref (ma 15)) (C := RX9) (T := TX9) (N := 68) hx hb htb iX9 hown hK.1 hP 0 rfl rfl 15 (by decide) (htb _ k_973) (fun _ h9 => h9) rfl dX9_errorOf_99 ?_
                refine lv_iload hx hb dX9_errorOf_102 (lv_at hl 0 rfl) ?_
                refine va_iald hx hb hK.1 hP 7 0 rfl rfl (g_in rfl (by omega) (by omega)) dX9_errorOf_104 ?_
                refine lv_topi (fun z_21 ez_21 => ?_)
                have kz_21 := congrArg Int32.toInt ez_21
                refine lv_isub hx hb dX9_errorOf_105 ?_
                refine lv_topi (fun z_22 ez_22 => ?_)
                refine lv_istore (lv' := [(5, .int z_22), (6, .int L6_34), (4, .int z_2), (0, .ref mh), (1, .int p0), (2, .int p1), (3, .int p2)]) hx hb dX9_errorOf_106 hl (by decide) rfl (fun ls hl => ?_)
                obtain ⟨z_23, ez_23⟩ : ∃ y : Int32, y = L6_34 + 1 := ⟨_, rfl⟩
                have jz_23 : z_23.toInt = L6_34.toInt + 1 := by rw [ez_23]; exact g_add rfl t_1 (by omega) (by omega)
                refine lv_iinc (v := z_23) (lv' := [(6, .int z_23), (5, .int z_22), (4, .int z_2), (0, .ref mh), (1, .int p0), (2, .int p1), (3, .int p2)]) hx hb dX9_errorOf_108 hl (k := 1) rfl (by rw [ez_23]; rfl) (by decide) rfl (fun ls hl => ?_)
                refine lv_goto (tgt := 34) hx hb dX9_errorOf_111 (by decide) ?_
                exact ih_7 z_23 z_22 _ (by (try dsimp only); omega) (by (try dsimp only); omega) (by have hcl := clampS (by omega) jz_23; subst_vars; rw [hcl, errS_succ]; split <;> first | rfl | (exfalso; omega)) (lv_sub hl [0, 1, 2, 3, 4, 5, 6] rfl)
              ·
                have ic_20 : 0 ≤ p2.toInt := by first | exact (g_le t_0 rfl).mp c_20 | (have h := mt (g_lt rfl t_0).mpr c_20; omega)
                clear c_20
                refine lv_aload_n hx hb dX9_errorOf_85 rfl (lv_at hl 3 rfl) ?_
                refine va_get (D := D) (ci := 9) (v := .ref (ma 16)) (C := RX9) (T := TX9) (N := 68) hx hb htb iX9 hown hK.1 hP 0 rfl rfl 16 (by decide) (htb _ k_974) (fun _ h9 => h9) rfl dX9_errorOf_86 ?_
                refine lv_iload hx hb dX9_errorOf_89 (lv_at hl 0 rfl) ?_
                refine va_iald hx hb hK.1 hP 8 0 rfl rfl (g_in rfl (by omega) (by omega)) dX9_errorOf_91 ?_
                refine lv_topi (fun z_24 ez_24 => ?_)
                have kz_24 := congrArg Int32.toInt ez_24
                refine lv_iload_n hx hb dX9_errorOf_92 rfl (lv_at hl 6 rfl) ?_
                refine lv_icmp_gt (tgt := 108) hx hb dX9_errorOf_93 (by decide) (fun c_25 => ?_) (fun c_25 => ?_)
                ·
                  have ic_25 : p2.toInt < z_24.toInt := by first | exact (g_lt rfl rfl).mp c_25 | (have h := mt (g_le rfl rfl).mpr c_25; omega)
                  clear c_25
                  obtain ⟨z_26, ez_26⟩ : ∃ y : Int32, y = L6_34 + 1 := ⟨_, rfl⟩
                  have jz_26 : z_26.toInt = L6_34.toInt + 1 := by rw [ez_26]; exact g_add rfl t_1 (by omega) (by omega)
                  refine lv_iinc (v := z_26) (lv' := [(6, .int z_26), (5, .int L5_34), (4, .int z_2), (0, .ref mh), (1, .int p0), (2, .int p1), (3, .int p2)]) hx hb dX9_errorOf_108 hl (k := 0) rfl (by rw [ez_26]; rfl) (by decide) rfl (fun ls hl => ?_)
                  refine lv_goto (tgt := 34) hx hb dX9_errorOf_111 (by decide) ?_
                  exact ih_7 z_26 L5_34 _ (by (try dsimp only); omega) (by (try dsimp only); omega) (by have hcl := clampS (by omega) jz_26; subst_vars; rw [hcl, errS_succ]; split <;> first | rfl | (exfalso; omega)) (lv_sub hl [0, 1, 2, 3, 4, 5, 6] rfl)
                ·
                  have ic_25 : z_24.toInt ≤ p2.toInt := by first | exact (g_le rfl rfl).mp c_25 | (have h := mt (g_lt rfl rfl).mpr c_25; omega)
                  clear c_25
                  refine lv_iload hx hb dX9_errorOf_96 (lv_at hl 1 rfl) ?_
                  refine lv_aload_n hx hb dX9_errorOf_98 rfl (lv_at hl 3 rfl) ?_
                  refine va_get (D := D) (ci := 9) (v := .ref (ma 15)) (C := RX9) (T := TX9) (N := 68) hx hb htb iX9 hown hK.1 hP 0 rfl rfl 15 (by decide) (htb _ k_973) (fun _ h9 => h9) rfl dX9_errorOf_99 ?_
                  refine lv_iload hx hb dX9_errorOf_102 (lv_at hl 0 rfl) ?_
                  refine va_iald hx hb hK.1 hP 7 0 rfl rfl (g_in rfl (by omega) (by omega)) dX9_errorOf_104 ?_
                  refine lv_topi (fun z_27 ez_27 => ?_)
                  have kz_27 := congrArg Int32.toInt ez_27
                  refine lv_isub hx hb dX9_errorOf_105 ?_
                  refine lv_topi (fun z_28 ez_28 => ?_)
                  refine lv_istore (lv' := [(5, .int z_28), (6, .int L6_34), (4, .int z_2), (0, .ref mh), (1, .int p0), (2, .int p1), (3, .int p2)]) hx hb dX9_errorOf_106 hl (by decide) rfl (fun ls hl => ?_)
                  obtain ⟨z_29, ez_29⟩ : ∃ y : Int32, y = L6_34 + 1 := ⟨_, rfl⟩
                  have jz_29 : z_29.toInt = L6_34.toInt + 1 := by rw [ez_29]; exact g_add rfl t_1 (by omega) (by omega)
                  refine lv_iinc (v := z_29) (lv' := [(6, .int z_29), (5, .int z_28), (4, .int z_2), (0, .ref mh), (1, .int p0), (2, .int p1), (3, .int p2)]) hx hb dX9_errorOf_108 hl (k := 1) rfl (by rw [ez_29]; rfl) (by decide) rfl (fun ls hl => ?_)
                  refine lv_goto (tgt := 34) hx hb dX9_errorOf_111 (by decide) ?_
                  exact ih_7 z_29 z_28 _ (by (try dsimp only); omega) (by (try dsimp only); omega) (by have hcl := clampS (by omega) jz_29; subst_vars; rw [hcl, errS_succ]; split <;> first | rfl | (exfalso; omega)) (lv_sub hl [0, 1, 2, 3, 4, 5, 6] rfl)
            ·
              refine W_top (y := .int 0) (by rw [hr_16]) ?_
              refine lv_if_eq (tgt := 108) hx hb dX9_errorOf_78 (by decide) (fun c_30 => ?_) (fun c_30 => absurd (by decide) c_30)
              obtain ⟨z_31, ez_31⟩ : ∃ y : Int32, y = L6_34 + 1 := ⟨_, rfl⟩
              have jz_31 : z_31.toInt = L6_34.toInt + 1 := by rw [ez_31]; exact g_add rfl t_1 (by omega) (by omega)
              refine lv_iinc (v := z_31) (lv' := [(6, .int z_31), (5, .int L5_34), (4, .int z_2), (0, .ref mh), (1, .int p0), (2, .int p1), (3, .int p2)]) hx hb dX9_errorOf_108 hl (k := 0) rfl (by rw [ez_31]; rfl) (by decide) rfl (fun ls hl => ?_)
              refine lv_goto (tgt := 34) hx hb dX9_errorOf_111 (by decide) ?_
              exact ih_7 z_31 L5_34 _ (by (try dsimp only); omega) (by (try dsimp only); omega) (by have hcl := clampS (by omega) jz_31; subst_vars; rw [hcl, errS_succ]; split <;> first | rfl | (exfalso; omega)) (lv_sub hl [0, 1, 2, 3, 4, 5, 6] rfl)
    exact loop_6 61 0 z_5 _ (by have h0 := t_0; (try dsimp only); omega) (by have h0 := t_0; (try dsimp only); omega) (by subst_vars; rfl)  (lv_sub hl [0, 1, 2, 3, 4, 5, 6] rfl)
  ·
    have ic_4 : z_3.toInt = 0 := (g_eq rfl t_0).mp c_4
    clear c_4
    refine lv_ldc hx hb hown (htb _ k_1205) dX9_errorOf_19 ?_
    exact W.iret (v := (-2000000000)) hx hb hr (fun t ht hW => ⟨(-2000000000), rfl, (by unfold errF; subst_vars; rw [if_pos (by assumption)]), ht⟩) (fun q h => by cases h) dX9_errorOf_21
set_option maxHeartbeats 4000000 in
set_option maxRecDepth 100000 in
theorem g_X9_rateOf (l : Launch) (D : va_G) (E : Nat → Nat) (mh : Nat) (ma : Nat → Nat) (mcode : Int32) (mtoday : Int32) (moffs : Int32) (mmany : Int64) (msumW : Int64) (msumA : Int64) (msumR : Int64) (msumWW : Int64) (msumWA : Int64) (msumAA : Int64) (msumWR : Int64) (msumAR : Int64) (mupper : Int64) (mlower : Int64) (mrates : Int32) (mtaped : Int32) (mlaid : Int32) (mat : Int32) (mtk : Int32) (mtkAt : Int32) (mtkNumber : Int32) (mwaits : Int32) (mlisted : Int32) (mdealtMany : Int32) (mf5 : Nat → Int32) (mf6 : Nat → Int32) (mf7 : Nat → Int32) (mf8 : Nat → Int32) (mf9 : Nat → Int32) (mf12 : Nat → Int32) (mf13 : Nat → Int32) (mf14 : Nat → Int32) (mf15 : Nat → Int32) (mf16 : Nat → Int32) (p0 : Int32) (p1 : Int32) (p2 : Int32) (hi_m : (0 ≤ mtoday.toInt ∧ mtoday.toInt ≤ 399) ∧ (0 ≤ moffs.toInt ∧ moffs.toInt ≤ 60) ∧ (0 ≤ mrates.toInt ∧ mrates.toInt ≤ 60) ∧ (0 ≤ mtaped.toInt ∧ mtaped.toInt ≤ 120) ∧ (0 ≤ mlisted.toInt ∧ mlisted.toInt ≤ 9) ∧ (0 ≤ mdealtMany.toInt ∧ mdealtMany.toInt ≤ 9)) (g0 : 0 ≤ p0.toInt ∧ p0.toInt ≤ 15) (g1 : 0 ≤ p1.toInt ∧ p1.toInt ≤ 398) : Met l yX9_rateOf (wl yX9_rateOf cX9_rateOf 7 (some .int)) (RM 2 0 0) (rd_P D E [.ref mh, .int p0, .int p1, .int p2] [(mh, .inr (9, G9 ma mcode mtoday moffs mmany msumW msumA msumR msumWW msumWA msumAA msumWR msumAR mupper mlower mrates mtaped mlaid mat mtk mtkAt mtkNumber mwaits mlisted mdealtMany)), ((ma 5), .inl (E 1, 6400, .inl mf5)), ((ma 6), .inl (E 0, 6400, .inl mf6)), ((ma 7), .inl (E 0, 6400, .inl mf7)), ((ma 8), .inl (E 1, 6400, .inl mf8)), ((ma 9), .inl (E 1, 6400, .inl mf9)), ((ma 12), .inl (E 0, 60, .inl mf12)), ((ma 13), .inl (E 0, 60, .inl mf13)), ((ma 14), .inl (E 0, 60, .inl mf14)), ((ma 15), .inl (E 0, 60, .inl mf15)), ((ma 16), .inl (E 0, 60, .inl mf16))]) (rd_Q (fun r => (r = ratF mf5 mf6 mf7 mf8 mf9 mf12 mf13 mf14 mf15 mf16 moffs p0 p1 p2))) 0 0 (fun _ => False) := by
  refine Met.ofW (cc := cX9_rateOf) (maxL := 7) (ret := (some .int)) (by decide) rfl ?_
  intro p e s m args below meth c s₁ B hml hv
  obtain ⟨rfl, hP, hK⟩ := hv
  have hx := B.exec; have hb := B.bytes; have hr := B.returns
  have hts := atoms_spec (ws := wl yX9_rateOf cX9_rateOf 7 (some .int)) B.pre
  have htb : ∀ w ∈ tb, w.before _ s = true := fun w h => hts w (List.mem_cons_of_mem _ h)
  have hown : s.vm.findClass RX9 = some m.cls := findClass_of_methodNamed B.named
  have hlocks := B.notSynchronized
  have hP : va_P D vwCl [(mh, .inr (9, G9 ma mcode mtoday moffs mmany msumW msumA msumR msumWW msumWA msumAA msumWR msumAR mupper mlower mrates mtaped mlaid mat mtk mtkAt mtkNumber mwaits mlisted mdealtMany)), ((ma 5), .inl (E 1, 6400, .inl mf5)), ((ma 6), .inl (E 0, 6400, .inl mf6)), ((ma 7), .inl (E 0, 6400, .inl mf7)), ((ma 8), .inl (E 1, 6400, .inl mf8)), ((ma 9), .inl (E 1, 6400, .inl mf9)), ((ma 12), .inl (E 0, 60, .inl mf12)), ((ma 13), .inl (E 0, 60, .inl mf13)), ((ma 14), .inl (E 0, 60, .inl mf14)), ((ma 15), .inl (E 0, 60, .inl mf15)), ((ma 16), .inl (E 0, 60, .inl mf16))] s.heap := hP
  have hl := lv_entry ([.ref mh, .int p0, .int p1, .int p2]) (n := 7) (Nat.le_of_ble_eq_true rfl)
  rw [lg_entry_eq]
  generalize (lg_sl ([.ref mh, .int p0, .int p1, .int p2]) ++ List.replicate (7 - (lg_sl ([.ref mh, .int p0, .int p1, .int p2])).length) Slot.unset).toArray = ls at hl ⊢
  have hl : lv_has ls 7 [(0, .ref mh), (1, .int p0), (2, .int p1), (3, .int p2)] := hl
  have lo_p0 := i_lo p0; have hi_p0 := i_hi p0
  have lo_p1 := i_lo p1; have hi_p1 := i_hi p1
  have lo_p2 := i_lo p2; have hi_p2 := i_hi p2
  refine lv_sipush (v := 400) hx hb dX9_rateOf_0 (by decide) ?_
  refine lv_iload_n hx hb dX9_rateOf_3 rfl (lv_at hl 1 rfl) ?_
  refine lv_imul hx hb dX9_rateOf_4 ?_
  refine lv_topi (fun z_1 ez_1 => ?_)
  have jz_1 : z_1.toInt = 400 * p0.toInt := by rw [ez_1]; exact g_mul t_400 rfl (by omega) (by omega)
  refine lv_iload_n hx hb dX9_rateOf_5 rfl (lv_at hl 2 rfl) ?_
  refine lv_iadd hx hb dX9_rateOf_6 ?_
  refine lv_topi (fun z_2 ez_2 => ?_)
  have jz_2 : z_2.toInt = z_1.toInt + p1.toInt := by rw [ez_2]; exact g_add rfl rfl (by omega) (by omega)
  refine lv_istore (lv' := [(4, .int z_2), (0, .ref mh), (1, .int p0), (2, .int p1), (3, .int p2)]) hx hb dX9_rateOf_7 hl (by decide) rfl (fun ls hl => ?_)
  refine lv_aload_n hx hb dX9_rateOf_9 rfl (lv_at hl 1 rfl) ?_
  refine va_get (D := D) (ci := 9) (v := .ref (ma 8)) (C := RX9) (T := TX9) (N := 68) hx hb htb iX9 hown hK.1 hP 0 rfl rfl 8 (by decide) (htb _ k_966) (fun _ h9 => h9) rfl dX9_rateOf_10 ?_
  refine lv_iload hx hb dX9_rateOf_13 (lv_at hl 0 rfl) ?_
  refine lv_iconst (v := 1) hx hb dX9_rateOf_15 (by decide) ?_
  refine lv_iadd hx hb dX9_rateOf_16 ?_
  refine lv_topi (fun z_3 ez_3 => ?_)
  have jz_3 : z_3.toInt = z_2.toInt + 1 := by rw [ez_3]; exact g_add rfl t_1 (by omega) (by omega)
  refine va_zald hx hb hK.1 hP 4 1 rfl rfl (g_in rfl (by omega) (by omega)) dX9_rateOf_17 ?_
  refine lv_topi (fun z_4 ez_4 => ?_)
  have kz_4 := congrArg Int32.toInt ez_4
  refine lv_if_ne (tgt := 43) hx hb dX9_rateOf_18 (by decide) (fun c_5 => ?_) (fun c_5 => ?_)
  ·
    have ic_5 : z_4.toInt ≠ 0 := mt (g_eq rfl t_0).mpr c_5
    clear c_5
    refine lv_ldc hx hb hown (htb _ k_1205) dX9_rateOf_43 ?_
    exact W.iret (v := (-2000000000)) hx hb hr (fun t ht hW => ⟨(-2000000000), rfl, (by unfold ratF ratG; subst_vars; first | (rw [if_pos (by omega)]; done) | (rw [if_neg (by omega), if_pos (by omega)]; done) | (rw [if_neg (by omega), if_neg (by omega)]; done)), ht⟩) (fun q h => by cases h) dX9_rateOf_45
  ·
    have ic_5 : z_4.toInt = 0 := (g_eq rfl t_0).mp c_5
    clear c_5
    refine lv_aload_n hx hb dX9_rateOf_21 rfl (lv_at hl 1 rfl) ?_
    refine va_get (D := D) (ci := 9) (v := .ref (ma 9)) (C := RX9) (T := TX9) (N := 68) hx hb htb iX9 hown hK.1 hP 0 rfl rfl 9 (by decide) (htb _ k_967) (fun _ h9 => h9) rfl dX9_rateOf_22 ?_
    refine lv_iload hx hb dX9_rateOf_25 (lv_at hl 0 rfl) ?_
    refine va_zald hx hb hK.1 hP 5 1 rfl rfl (g_in rfl (by omega) (by omega)) dX9_rateOf_27 ?_
    refine lv_topi (fun z_6 ez_6 => ?_)
    have kz_6 := congrArg Int32.toInt ez_6
    refine lv_if_ne (tgt := 43) hx hb dX9_rateOf_28 (by decide) (fun c_7 => ?_) (fun c_7 => ?_)
    ·
      have ic_7 : z_6.toInt ≠ 0 := mt (g_eq rfl t_0).mpr c_7
      clear c_7
      refine lv_ldc hx hb hown (htb _ k_1205) dX9_rateOf_43 ?_
      exact W.iret (v := (-2000000000)) hx hb hr (fun t ht hW => ⟨(-2000000000), rfl, (by unfold ratF ratG; subst_vars; first | (rw [if_pos (by omega)]; done) | (rw [if_neg (by omega), if_pos (by omega)]; done) | (rw [if_neg (by omega), if_neg (by omega)]; done)), ht⟩) (fun q h => by cases h) dX9_rateOf_45
    ·
      have ic_7 : z_6.toInt = 0 := (g_eq rfl t_0).mp c_7
      clear c_7
      refine lv_aload_n hx hb dX9_rateOf_31 rfl (lv_at hl 1 rfl) ?_
      refine va_get (D := D) (ci := 9) (v := .ref (ma 9)) (C := RX9) (T := TX9) (N := 68) hx hb htb iX9 hown hK.1 hP 0 rfl rfl 9 (by decide) (htb _ k_967) (fun _ h9 => h9) rfl dX9_rateOf_32 ?_
      refine lv_iload hx hb dX9_rateOf_35 (lv_at hl 0 rfl) ?_
      refine lv_iconst (v := 1) hx hb dX9_rateOf_37 (by decide) ?_
      refine lv_iadd hx hb dX9_rateOf_38 ?_
      refine lv_topi (fun z_8 ez_8 => ?_)
      have jz_8 : z_8.toInt = z_2.toInt + 1 := by rw [ez_8]; exact g_add rfl t_1 (by omega) (by omega)
      refine va_zald hx hb hK.1 hP 5 1 rfl rfl (g_in rfl (by omega) (by omega)) dX9_rateOf_39 ?_
      refine lv_topi (fun z_9 ez_9 => ?_)
      have kz_9 := congrArg Int32.toInt ez_9
      refine lv_if_eq (tgt := 46) hx hb dX9_rateOf_40 (by decide) (fun c_10 => ?_) (fun c_10 => ?_)
      ·
        have ic_10 : z_9.toInt = 0 := (g_eq rfl t_0).mp c_10
        clear c_10
        refine lv_aload_n hx hb dX9_rateOf_46 rfl (lv_at hl 1 rfl) ?_
        refine lv_iload_n hx hb dX9_rateOf_47 rfl (lv_at hl 2 rfl) ?_
        refine lv_iload_n hx hb dX9_rateOf_48 rfl (lv_at hl 3 rfl) ?_
        refine lv_iload_n hx hb dX9_rateOf_49 rfl (lv_at hl 4 rfl) ?_
        refine callRV (rest := []) (As := [.int p0, .int p1, .int p2]) hx hb hml hown htb hK (g_X9_errorOf l D E mh ma mcode mtoday moffs mmany msumW msumA msumR msumWW msumWA msumAA msumWR msumAR mupper mlower mrates mtaped mlaid mat mtk mtkAt mtkNumber mwaits mlisted mdealtMany mf5 mf6 mf7 mf12 mf13 mf14 mf15 mf16 p0 p1 p2 (by (try dsimp only); omega) (by (try dsimp only); omega) (by (try dsimp only); omega)) ok_X9_errorOf k_1223 k_1225 ks_42 k_9 k_1226 ⟨(Nat.le_of_ble_eq_true rfl), (Nat.le_of_ble_eq_true rfl)⟩ ⟨(Nat.le_of_ble_eq_true rfl), (Nat.le_of_ble_eq_true rfl)⟩ hl.1 (Nat.le_of_ble_eq_true rfl) rfl rfl dX9_rateOf_50 (hP.sub (ws' := [(mh, .inr (9, G9 ma mcode mtoday moffs mmany msumW msumA msumR msumWW msumWA msumAA msumWR msumAR mupper mlower mrates mtaped mlaid mat mtk mtkAt mtkNumber mwaits mlisted mdealtMany)), ((ma 5), .inl (E 1, 6400, .inl mf5)), ((ma 6), .inl (E 0, 6400, .inl mf6)), ((ma 7), .inl (E 0, 6400, .inl mf7)), ((ma 12), .inl (E 0, 60, .inl mf12)), ((ma 13), .inl (E 0, 60, .inl mf13)), ((ma 14), .inl (E 0, 60, .inl mf14)), ((ma 15), .inl (E 0, 60, .inl mf15)), ((ma 16), .inl (E 0, 60, .inl mf16))]) [0, 1, 2, 3, 6, 7, 8, 9, 10] rfl) rfl rfl 0 rfl (fun r_11 hw_12 => ?_)
        refine lv_istore (lv' := [(5, .int r_11), (4, .int z_2), (0, .ref mh), (1, .int p0), (2, .int p1), (3, .int p2)]) hx hb dX9_rateOf_53 hl (by decide) rfl (fun ls hl => ?_)
        refine lv_aload_n hx hb dX9_rateOf_55 rfl (lv_at hl 2 rfl) ?_
        refine lv_iload_n hx hb dX9_rateOf_56 rfl (lv_at hl 3 rfl) ?_
        refine lv_iload_n hx hb dX9_rateOf_57 rfl (lv_at hl 4 rfl) ?_
        refine lv_iconst (v := 1) hx hb dX9_rateOf_58 (by decide) ?_
        refine lv_iadd hx hb dX9_rateOf_59 ?_
        refine lv_topi (fun z_14 ez_14 => ?_)
        have jz_14 : z_14.toInt = p1.toInt + 1 := by rw [ez_14]; exact g_add rfl t_1 (by omega) (by omega)
        refine lv_iload_n hx hb dX9_rateOf_60 rfl (lv_at hl 5 rfl) ?_
        refine callRV (rest := []) (As := [.int p0, .int z_14, .int p2]) hx hb hml hown htb hK (g_X9_errorOf l D E mh ma mcode mtoday moffs mmany msumW msumA msumR msumWW msumWA msumAA msumWR msumAR mupper mlower mrates mtaped mlaid mat mtk mtkAt mtkNumber mwaits mlisted mdealtMany mf5 mf6 mf7 mf12 mf13 mf14 mf15 mf16 p0 z_14 p2 (by (try dsimp only); omega) (by (try dsimp only); omega) (by (try dsimp only); omega)) ok_X9_errorOf k_1223 k_1225 ks_42 k_9 k_1226 ⟨(Nat.le_of_ble_eq_true rfl), (Nat.le_of_ble_eq_true rfl)⟩ ⟨(Nat.le_of_ble_eq_true rfl), (Nat.le_of_ble_eq_true rfl)⟩ hl.1 (Nat.le_of_ble_eq_true rfl) rfl rfl dX9_rateOf_61 (hP.sub (ws' := [(mh, .inr (9, G9 ma mcode mtoday moffs mmany msumW msumA msumR msumWW msumWA msumAA msumWR msumAR mupper mlower mrates mtaped mlaid mat mtk mtkAt mtkNumber mwaits mlisted mdealtMany)), ((ma 5), .inl (E 1, 6400, .inl mf5)), ((ma 6), .inl (E 0, 6400, .inl mf6)), ((ma 7), .inl (E 0, 6400, .inl mf7)), ((ma 12), .inl (E 0, 60, .inl mf12)), ((ma 13), .inl (E 0, 60, .inl mf13)), ((ma 14), .inl (E 0, 60, .inl mf14)), ((ma 15), .inl (E 0, 60, .inl mf15)), ((ma 16), .inl (E 0, 60, .inl mf16))]) [0, 1, 2, 3, 6, 7, 8, 9, 10] rfl) rfl rfl 0 rfl (fun r_15 hw_16 => ?_)
        refine lv_istore (lv' := [(6, .int r_15), (5, .int r_11), (4, .int z_2), (0, .ref mh), (1, .int p0), (2, .int p1), (3, .int p2)]) hx hb dX9_rateOf_64 hl (by decide) rfl (fun ls hl => ?_)
        refine lv_iload hx hb dX9_rateOf_66 (lv_at hl 1 rfl) ?_
        refine lv_ldc hx hb hown (htb _ k_1205) dX9_rateOf_68 ?_
        refine lv_icmp_eq (tgt := 94) hx hb dX9_rateOf_70 (by decide) (fun c_18 => ?_) (fun c_18 => ?_)
        ·
          have ic_18 : r_11.toInt = -2000000000 := (g_eq rfl t_m2000000000).mp c_18
          clear c_18
          refine lv_ldc hx hb hown (htb _ k_1205) dX9_rateOf_94 ?_
          refine lv_goto (tgt := 104) hx hb dX9_rateOf_96 (by decide) ?_
          exact W.iret (v := (-2000000000)) hx hb hr (fun t ht hW => ⟨(-2000000000), rfl, (by unfold ratF ratG; subst_vars; first | (rw [if_pos (by omega)]; done) | (rw [if_neg (by omega), if_pos (by omega)]; done) | (rw [if_neg (by omega), if_neg (by omega)]; done)), ht⟩) (fun q h => by cases h) dX9_rateOf_104
        ·
          have ic_18 : r_11.toInt ≠ -2000000000 := mt (g_eq rfl t_m2000000000).mpr c_18
          clear c_18
          refine lv_iload hx hb dX9_rateOf_73 (lv_at hl 0 rfl) ?_
          refine lv_ldc hx hb hown (htb _ k_1205) dX9_rateOf_75 ?_
          refine lv_icmp_eq (tgt := 94) hx hb dX9_rateOf_77 (by decide) (fun c_19 => ?_) (fun c_19 => ?_)
          ·
            have ic_19 : r_15.toInt = -2000000000 := (g_eq rfl t_m2000000000).mp c_19
            clear c_19
            refine lv_ldc hx hb hown (htb _ k_1205) dX9_rateOf_94 ?_
            refine lv_goto (tgt := 104) hx hb dX9_rateOf_96 (by decide) ?_
            exact W.iret (v := (-2000000000)) hx hb hr (fun t ht hW => ⟨(-2000000000), rfl, (by unfold ratF ratG; subst_vars; first | (rw [if_pos (by omega)]; done) | (rw [if_neg (by omega), if_pos (by omega)]; done) | (rw [if_neg (by omega), if_neg (by omega)]; done)), ht⟩) (fun q h => by cases h) dX9_rateOf_104
          ·
            have ic_19 : r_15.toInt ≠ -2000000000 := mt (g_eq rfl t_m2000000000).mpr c_19
            clear c_19
            refine lv_iload hx hb dX9_rateOf_80 (lv_at hl 0 rfl) ?_
            refine lv_iload hx hb dX9_rateOf_82 (lv_at hl 1 rfl) ?_
            refine lv_isub hx hb dX9_rateOf_84 ?_
            refine lv_topi (fun z_20 ez_20 => ?_)
            refine callRS (rest := []) (As := [.int z_20]) hx hb hml hown htb hK (g_X9_size l D E z_20 ) ok_X9_size k_1235 k_1236 k_9 k_1237 ⟨(Nat.le_of_ble_eq_true rfl), (Nat.le_of_ble_eq_true rfl)⟩ ⟨(Nat.le_of_ble_eq_true rfl), (Nat.le_of_ble_eq_true rfl)⟩ hl.1 (Nat.le_of_ble_eq_true rfl) rfl rfl dX9_rateOf_85 (hP.sub (ws' := ([] : va_W)) [] rfl) (fun r_21 hw_22 => ?_)
            refine lv_sipush (v := 999) hx hb dX9_rateOf_88 (by decide) ?_
            refine lv_icmp_le (tgt := 99) hx hb dX9_rateOf_91 (by decide) (fun c_24 => ?_) (fun c_24 => ?_)
            ·
              have ic_24 : r_21.toInt ≤ 999 := by first | exact (g_le rfl t_999).mp c_24 | (have h := mt (g_lt t_999 rfl).mpr c_24; omega)
              clear c_24
              refine lv_iload hx hb dX9_rateOf_99 (lv_at hl 0 rfl) ?_
              refine lv_iload hx hb dX9_rateOf_101 (lv_at hl 1 rfl) ?_
              refine lv_isub hx hb dX9_rateOf_103 ?_
              refine lv_topi (fun z_25 ez_25 => ?_)
              exact W.iret (v := z_25) hx hb hr (fun t ht hW => ⟨z_25, rfl, (by unfold ratF ratG; subst_vars; first | (rw [if_pos (by omega)]; done) | (rw [if_neg (by omega), if_pos (by omega)]; done) | (rw [if_neg (by omega), if_neg (by omega)]; done)), ht⟩) (fun q h => by cases h) dX9_rateOf_104
            ·
              have ic_24 : 999 < r_21.toInt := by first | exact (g_lt t_999 rfl).mp c_24 | (have h := mt (g_le rfl t_999).mpr c_24; omega)
              clear c_24
              refine lv_ldc hx hb hown (htb _ k_1205) dX9_rateOf_94 ?_
              refine lv_goto (tgt := 104) hx hb dX9_rateOf_96 (by decide) ?_
              exact W.iret (v := (-2000000000)) hx hb hr (fun t ht hW => ⟨(-2000000000), rfl, (by unfold ratF ratG; subst_vars; first | (rw [if_pos (by omega)]; done) | (rw [if_neg (by omega), if_pos (by omega)]; done) | (rw [if_neg (by omega), if_neg (by omega)]; done)), ht⟩) (fun q h => by cases h) dX9_rateOf_104
      ·
        have ic_10 : z_9.toInt ≠ 0 := mt (g_eq rfl t_0).mpr c_10
        clear c_10
        refine lv_ldc hx hb hown (htb _ k_1205) dX9_rateOf_43 ?_
        exact W.iret (v := (-2000000000)) hx hb hr (fun t ht hW => ⟨(-2000000000), rfl, (by unfold ratF ratG; subst_vars; first | (rw [if_pos (by omega)]; done) | (rw [if_neg (by omega), if_pos (by omega)]; done) | (rw [if_neg (by omega), if_neg (by omega)]; done)), ht⟩) (fun q h => by cases h) dX9_rateOf_45
end
section
set_option maxHeartbeats 4000000 in
set_option maxRecDepth 100000 in
theorem g_X9_error (l : Launch) (D : va_G) (E : Nat → Nat) (mh : Nat) (ma : Nat → Nat) (mcode : Int32) (mtoday : Int32) (moffs : Int32) (mmany : Int64) (msumW : Int64) (msumA : Int64) (msumR : Int64) (msumWW : Int64) (msumWA : Int64) (msumAA : Int64) (msumWR : Int64) (msumAR : Int64) (mupper : Int64) (mlower : Int64) (mrates : Int32) (mtaped : Int32) (mlaid : Int32) (mat : Int32) (mtk : Int32) (mtkAt : Int32) (mtkNumber : Int32) (mwaits : Int32) (mlisted : Int32) (mdealtMany : Int32) (mf3 : Nat → Int32) (mf5 : Nat → Int32) (mf6 : Nat → Int32) (mf7 : Nat → Int32) (mf12 : Nat → Int32) (mf13 : Nat → Int32) (mf14 : Nat → Int32) (mf15 : Nat → Int32) (mf16 : Nat → Int32) (p0 : Int32) (p1 : Int32) (p2 : Int32) (hi_m : (0 ≤ mtoday.toInt ∧ mtoday.toInt ≤ 399) ∧ (0 ≤ moffs.toInt ∧ moffs.toInt ≤ 60) ∧ (0 ≤ mrates.toInt ∧ mrates.toInt ≤ 60) ∧ (0 ≤ mtaped.toInt ∧ mtaped.toInt ≤ 120) ∧ (0 ≤ mlisted.toInt ∧ mlisted.toInt ≤ 9) ∧ (0 ≤ mdealtMany.toInt ∧ mdealtMany.toInt ≤ 9)) : Met l yX9_error (wl yX9_error cX9_error 4 (some .int)) (RM 3 0 0) (rd_P D E [.ref mh, .int p0, .int p1, .int p2] [(mh, .inr (9, G9 ma mcode mtoday moffs mmany msumW msumA msumR msumWW msumWA msumAA msumWR msumAR mupper mlower mrates mtaped mlaid mat mtk mtkAt mtkNumber mwaits mlisted mdealtMany)), ((ma 3), .inl (E 0, 16, .inl mf3)), ((ma 5), .inl (E 1, 6400, .inl mf5)), ((ma 6), .inl (E 0, 6400, .inl mf6)), ((ma 7), .inl (E 0, 6400, .inl mf7)), ((ma 12), .inl (E 0, 60, .inl mf12)), ((ma 13), .inl (E 0, 60, .inl mf13)), ((ma 14), .inl (E 0, 60, .inl mf14)), ((ma 15), .inl (E 0, 60, .inl mf15)), ((ma 16), .inl (E 0, 60, .inl mf16))]) (rd_Q (fun r => ((((0 ≤ p0.toInt ∧ p0.toInt ≤ 15) ∧ ((mf3 (p0).toNatClampNeg).toInt ≠ -5 ∧ (mf3 (p0).toNatClampNeg).toInt ≠ 2) ∧ (0 ≤ p1.toInt ∧ p1.toInt ≤ 399) ∧ (-1 ≤ p2.toInt ∧ p2.toInt ≤ 399)) ∧ r = errF mf5 mf6 mf7 mf12 mf13 mf14 mf15 mf16 moffs p0 p1 p2) ∨ (¬ ((0 ≤ p0.toInt ∧ p0.toInt ≤ 15) ∧ ((mf3 (p0).toNatClampNeg).toInt ≠ -5 ∧ (mf3 (p0).toNatClampNeg).toInt ≠ 2) ∧ (0 ≤ p1.toInt ∧ p1.toInt ≤ 399) ∧ (-1 ≤ p2.toInt ∧ p2.toInt ≤ 399)) ∧ r.toInt = -2000000000)))) 0 0 (fun _ => False) := by
  refine Met.ofW (cc := cX9_error) (maxL := 4) (ret := (some .int)) (by decide) rfl ?_
  intro p e s m args below meth c s₁ B hml hv
  obtain ⟨rfl, hP, hK⟩ := hv
  have hx := B.exec; have hb := B.bytes; have hr := B.returns
  have hts := atoms_spec (ws := wl yX9_error cX9_error 4 (some .int)) B.pre
  have htb : ∀ w ∈ tb, w.before _ s = true := fun w h => hts w (List.mem_cons_of_mem _ h)
  have hown : s.vm.findClass RX9 = some m.cls := findClass_of_methodNamed B.named
  have hlocks := B.notSynchronized
  have hP : va_P D vwCl [(mh, .inr (9, G9 ma mcode mtoday moffs mmany msumW msumA msumR msumWW msumWA msumAA msumWR msumAR mupper mlower mrates mtaped mlaid mat mtk mtkAt mtkNumber mwaits mlisted mdealtMany)), ((ma 3), .inl (E 0, 16, .inl mf3)), ((ma 5), .inl (E 1, 6400, .inl mf5)), ((ma 6), .inl (E 0, 6400, .inl mf6)), ((ma 7), .inl (E 0, 6400, .inl mf7)), ((ma 12), .inl (E 0, 60, .inl mf12)), ((ma 13), .inl (E 0, 60, .inl mf13)), ((ma 14), .inl (E 0, 60, .inl mf14)), ((ma 15), .inl (E 0, 60, .inl mf15)), ((ma 16), .inl (E 0, 60, .inl mf16))] s.heap := hP
  have hl := lv_entry ([.ref mh, .int p0, .int p1, .int p2]) (n := 4) (Nat.le_of_ble_eq_true rfl)
  rw [lg_entry_eq]
  generalize (lg_sl ([.ref mh, .int p0, .int p1, .int p2]) ++ List.replicate (4 - (lg_sl ([.ref mh, .int p0, .int p1, .int p2])).length) Slot.unset).toArray = ls at hl ⊢
  have hl : lv_has ls 4 [(0, .ref mh), (1, .int p0), (2, .int p1), (3, .int p2)] := hl
  have lo_p0 := i_lo p0; have hi_p0 := i_hi p0
  have lo_p1 := i_lo p1; have hi_p1 := i_hi p1
  have lo_p2 := i_lo p2; have hi_p2 := i_hi p2
  refine lv_aload_n hx hb dX9_error_0 rfl (lv_at hl 0 rfl) ?_
  refine lv_iload_n hx hb dX9_error_1 rfl (lv_at hl 1 rfl) ?_
  refine callRV (rest := []) (As := [.int p0]) hx hb hml hown htb hK (g_X9_watchAt l D E mh ma mcode mtoday moffs mmany msumW msumA msumR msumWW msumWA msumAA msumWR msumAR mupper mlower mrates mtaped mlaid mat mtk mtkAt mtkNumber mwaits mlisted mdealtMany mf3 p0 (by (try dsimp only); omega)) ok_X9_watchAt k_1212 k_1214 ks_41 k_9 k_1215 ⟨(Nat.le_of_ble_eq_true rfl), (Nat.le_of_ble_eq_true rfl)⟩ ⟨(Nat.le_of_ble_eq_true rfl), (Nat.le_of_ble_eq_true rfl)⟩ hl.1 (Nat.le_of_ble_eq_true rfl) rfl rfl dX9_error_2 (hP.sub (ws' := [(mh, .inr (9, G9 ma mcode mtoday moffs mmany msumW msumA msumR msumWW msumWA msumAA msumWR msumAR mupper mlower mrates mtaped mlaid mat mtk mtkAt mtkNumber mwaits mlisted mdealtMany)), ((ma 3), .inl (E 0, 16, .inl mf3))]) [0, 1] rfl) rfl rfl 0 rfl (fun r_1 hw_2 => ?_)
  refine lv_if_lt (tgt := 22) hx hb dX9_error_5 (by decide) (fun c_4 => ?_) (fun c_4 => ?_)
  ·
    have ic_4 : r_1.toInt < 0 := by first | exact (g_lt rfl t_0).mp c_4 | (have h := mt (g_le t_0 rfl).mpr c_4; omega)
    clear c_4
    refine lv_ldc hx hb hown (htb _ k_1205) dX9_error_22 ?_
    refine lv_goto (tgt := 34) hx hb dX9_error_24 (by decide) ?_
    exact W.iret (v := (-2000000000)) hx hb hr (fun t ht hW => ⟨(-2000000000), rfl, (by have hl0 := t_m2000000000; (try dsimp only); first | exact Or.inl ⟨by omega, by assumption⟩ | exact Or.inr ⟨by omega, by omega⟩), ht⟩) (fun q h => by cases h) dX9_error_34
  ·
    have ic_4 : 0 ≤ r_1.toInt := by first | exact (g_le t_0 rfl).mp c_4 | (have h := mt (g_lt rfl t_0).mpr c_4; omega)
    clear c_4
    refine lv_iload_n hx hb dX9_error_8 rfl (lv_at hl 2 rfl) ?_
    refine callRS (rest := []) (As := [.int p1]) hx hb hml hown htb hK (g_X9_isDay l D E p1 ) ok_X9_isDay k_1175 k_1176 k_9 k_1177 ⟨(Nat.le_of_ble_eq_true rfl), (Nat.le_of_ble_eq_true rfl)⟩ ⟨(Nat.le_of_ble_eq_true rfl), (Nat.le_of_ble_eq_true rfl)⟩ hl.1 (Nat.le_of_ble_eq_true rfl) rfl rfl dX9_error_9 (hP.sub (ws' := ([] : va_W)) [] rfl) (fun r_5 hw_6 => ?_)
    rcases hw_6 with ⟨hr_5, hw_6⟩ | ⟨hr_5, hw_6⟩
    ·
      refine W_top (y := .int 1) (by rw [hr_5]) ?_
      refine lv_if_eq (tgt := 22) hx hb dX9_error_12 (by decide) (fun c_8 => absurd c_8 (by decide)) (fun c_8 => ?_)
      refine lv_iload_n hx hb dX9_error_15 rfl (lv_at hl 3 rfl) ?_
      refine callRS (rest := []) (As := [.int p2]) hx hb hml hown htb hK (g_X9_isKnown l D E p2 ) ok_X9_isKnown k_1220 k_1221 k_9 k_1222 ⟨(Nat.le_of_ble_eq_true rfl), (Nat.le_of_ble_eq_true rfl)⟩ ⟨(Nat.le_of_ble_eq_true rfl), (Nat.le_of_ble_eq_true rfl)⟩ hl.1 (Nat.le_of_ble_eq_true rfl) rfl rfl dX9_error_16 (hP.sub (ws' := ([] : va_W)) [] rfl) (fun r_9 hw_10 => ?_)
      rcases hw_10 with ⟨hr_9, hw_10⟩ | ⟨hr_9, hw_10⟩
      ·
        refine W_top (y := .int 1) (by rw [hr_9]) ?_
        refine lv_if_ne (tgt := 27) hx hb dX9_error_19 (by decide) (fun c_12 => ?_) (fun c_12 => absurd c_12 (by decide))
        refine lv_aload_n hx hb dX9_error_27 rfl (lv_at hl 0 rfl) ?_
        refine lv_iload_n hx hb dX9_error_28 rfl (lv_at hl 1 rfl) ?_
        refine lv_iload_n hx hb dX9_error_29 rfl (lv_at hl 2 rfl) ?_
        refine lv_iload_n hx hb dX9_error_30 rfl (lv_at hl 3 rfl) ?_
        refine callRV (rest := []) (As := [.int p0, .int p1, .int p2]) hx hb hml hown htb hK (g_X9_errorOf l D E mh ma mcode mtoday moffs mmany msumW msumA msumR msumWW msumWA msumAA msumWR msumAR mupper mlower mrates mtaped mlaid mat mtk mtkAt mtkNumber mwaits mlisted mdealtMany mf5 mf6 mf7 mf12 mf13 mf14 mf15 mf16 p0 p1 p2 (by (try dsimp only); omega) (by (try dsimp only); omega) (by (try dsimp only); omega)) ok_X9_errorOf k_1223 k_1225 ks_42 k_9 k_1226 ⟨(Nat.le_of_ble_eq_true rfl), (Nat.le_of_ble_eq_true rfl)⟩ ⟨(Nat.le_of_ble_eq_true rfl), (Nat.le_of_ble_eq_true rfl)⟩ hl.1 (Nat.le_of_ble_eq_true rfl) rfl rfl dX9_error_31 (hP.sub (ws' := [(mh, .inr (9, G9 ma mcode mtoday moffs mmany msumW msumA msumR msumWW msumWA msumAA msumWR msumAR mupper mlower mrates mtaped mlaid mat mtk mtkAt mtkNumber mwaits mlisted mdealtMany)), ((ma 5), .inl (E 1, 6400, .inl mf5)), ((ma 6), .inl (E 0, 6400, .inl mf6)), ((ma 7), .inl (E 0, 6400, .inl mf7)), ((ma 12), .inl (E 0, 60, .inl mf12)), ((ma 13), .inl (E 0, 60, .inl mf13)), ((ma 14), .inl (E 0, 60, .inl mf14)), ((ma 15), .inl (E 0, 60, .inl mf15)), ((ma 16), .inl (E 0, 60, .inl mf16))]) [0, 2, 3, 4, 5, 6, 7, 8, 9] rfl) rfl rfl 0 rfl (fun r_13 hw_14 => ?_)
        exact W.iret (v := r_13) hx hb hr (fun t ht hW => ⟨r_13, rfl, (by (try dsimp only); first | exact Or.inl ⟨by omega, by assumption⟩ | exact Or.inr ⟨by omega, by omega⟩), ht⟩) (fun q h => by cases h) dX9_error_34
      ·
        refine W_top (y := .int 0) (by rw [hr_9]) ?_
        refine lv_if_ne (tgt := 27) hx hb dX9_error_19 (by decide) (fun c_16 => absurd (by decide) c_16) (fun c_16 => ?_)
        refine lv_ldc hx hb hown (htb _ k_1205) dX9_error_22 ?_
        refine lv_goto (tgt := 34) hx hb dX9_error_24 (by decide) ?_
        exact W.iret (v := (-2000000000)) hx hb hr (fun t ht hW => ⟨(-2000000000), rfl, (by have hl0 := t_m2000000000; (try dsimp only); first | exact Or.inl ⟨by omega, by assumption⟩ | exact Or.inr ⟨by omega, by omega⟩), ht⟩) (fun q h => by cases h) dX9_error_34
    ·
      refine W_top (y := .int 0) (by rw [hr_5]) ?_
      refine lv_if_eq (tgt := 22) hx hb dX9_error_12 (by decide) (fun c_17 => ?_) (fun c_17 => absurd (by decide) c_17)
      refine lv_ldc hx hb hown (htb _ k_1205) dX9_error_22 ?_
      refine lv_goto (tgt := 34) hx hb dX9_error_24 (by decide) ?_
      exact W.iret (v := (-2000000000)) hx hb hr (fun t ht hW => ⟨(-2000000000), rfl, (by have hl0 := t_m2000000000; (try dsimp only); first | exact Or.inl ⟨by omega, by assumption⟩ | exact Or.inr ⟨by omega, by omega⟩), ht⟩) (fun q h => by cases h) dX9_error_34
set_option maxHeartbeats 4000000 in
set_option maxRecDepth 100000 in
theorem g_X9_rate (l : Launch) (D : va_G) (E : Nat → Nat) (mh : Nat) (ma : Nat → Nat) (mcode : Int32) (mtoday : Int32) (moffs : Int32) (mmany : Int64) (msumW : Int64) (msumA : Int64) (msumR : Int64) (msumWW : Int64) (msumWA : Int64) (msumAA : Int64) (msumWR : Int64) (msumAR : Int64) (mupper : Int64) (mlower : Int64) (mrates : Int32) (mtaped : Int32) (mlaid : Int32) (mat : Int32) (mtk : Int32) (mtkAt : Int32) (mtkNumber : Int32) (mwaits : Int32) (mlisted : Int32) (mdealtMany : Int32) (mf3 : Nat → Int32) (mf5 : Nat → Int32) (mf6 : Nat → Int32) (mf7 : Nat → Int32) (mf8 : Nat → Int32) (mf9 : Nat → Int32) (mf12 : Nat → Int32) (mf13 : Nat → Int32) (mf14 : Nat → Int32) (mf15 : Nat → Int32) (mf16 : Nat → Int32) (p0 : Int32) (p1 : Int32) (p2 : Int32) (hi_m : (0 ≤ mtoday.toInt ∧ mtoday.toInt ≤ 399) ∧ (0 ≤ moffs.toInt ∧ moffs.toInt ≤ 60) ∧ (0 ≤ mrates.toInt ∧ mrates.toInt ≤ 60) ∧ (0 ≤ mtaped.toInt ∧ mtaped.toInt ≤ 120) ∧ (0 ≤ mlisted.toInt ∧ mlisted.toInt ≤ 9) ∧ (0 ≤ mdealtMany.toInt ∧ mdealtMany.toInt ≤ 9)) : Met l yX9_rate (wl yX9_rate cX9_rate 4 (some .int)) (RM 3 0 0) (rd_P D E [.ref mh, .int p0, .int p1, .int p2] [(mh, .inr (9, G9 ma mcode mtoday moffs mmany msumW msumA msumR msumWW msumWA msumAA msumWR msumAR mupper mlower mrates mtaped mlaid mat mtk mtkAt mtkNumber mwaits mlisted mdealtMany)), ((ma 3), .inl (E 0, 16, .inl mf3)), ((ma 5), .inl (E 1, 6400, .inl mf5)), ((ma 6), .inl (E 0, 6400, .inl mf6)), ((ma 7), .inl (E 0, 6400, .inl mf7)), ((ma 8), .inl (E 1, 6400, .inl mf8)), ((ma 9), .inl (E 1, 6400, .inl mf9)), ((ma 12), .inl (E 0, 60, .inl mf12)), ((ma 13), .inl (E 0, 60, .inl mf13)), ((ma 14), .inl (E 0, 60, .inl mf14)), ((ma 15), .inl (E 0, 60, .inl mf15)), ((ma 16), .inl (E 0, 60, .inl mf16))]) (rd_Q (fun r => ((((0 ≤ p0.toInt ∧ p0.toInt ≤ 15) ∧ ((mf3 (p0).toNatClampNeg).toInt ≠ -5 ∧ (mf3 (p0).toNatClampNeg).toInt ≠ 2) ∧ (0 ≤ p1.toInt ∧ p1.toInt ≤ 398) ∧ (-1 ≤ p2.toInt ∧ p2.toInt ≤ 399)) ∧ r = ratF mf5 mf6 mf7 mf8 mf9 mf12 mf13 mf14 mf15 mf16 moffs p0 p1 p2) ∨ (¬ ((0 ≤ p0.toInt ∧ p0.toInt ≤ 15) ∧ ((mf3 (p0).toNatClampNeg).toInt ≠ -5 ∧ (mf3 (p0).toNatClampNeg).toInt ≠ 2) ∧ (0 ≤ p1.toInt ∧ p1.toInt ≤ 398) ∧ (-1 ≤ p2.toInt ∧ p2.toInt ≤ 399)) ∧ r.toInt = -2000000000)))) 0 0 (fun _ => False) := by
  refine Met.ofW (cc := cX9_rate) (maxL := 4) (ret := (some .int)) (by decide) rfl ?_
  intro p e s m args below meth c s₁ B hml hv
  obtain ⟨rfl, hP, hK⟩ := hv
  have hx := B.exec; have hb := B.bytes; have hr := B.returns
  have hts := atoms_spec (ws := wl yX9_rate cX9_rate 4 (some .int)) B.pre
  have htb : ∀ w ∈ tb, w.before _ s = true := fun w h => hts w (List.mem_cons_of_mem _ h)
  have hown : s.vm.findClass RX9 = some m.cls := findClass_of_methodNamed B.named
  have hlocks := B.notSynchronized
  have hP : va_P D vwCl [(mh, .inr (9, G9 ma mcode mtoday moffs mmany msumW msumA msumR msumWW msumWA msumAA msumWR msumAR mupper mlower mrates mtaped mlaid mat mtk mtkAt mtkNumber mwaits mlisted mdealtMany)), ((ma 3), .inl (E 0, 16, .inl mf3)), ((ma 5), .inl (E 1, 6400, .inl mf5)), ((ma 6), .inl (E 0, 6400, .inl mf6)), ((ma 7), .inl (E 0, 6400, .inl mf7)), ((ma 8), .inl (E 1, 6400, .inl mf8)), ((ma 9), .inl (E 1, 6400, .inl mf9)), ((ma 12), .inl (E 0, 60, .inl mf12)), ((ma 13), .inl (E 0, 60, .inl mf13)), ((ma 14), .inl (E 0, 60, .inl mf14)), ((ma 15), .inl (E 0, 60, .inl mf15)), ((ma 16), .inl (E 0, 60, .inl mf16))] s.heap := hP
  have hl := lv_entry ([.ref mh, .int p0, .int p1, .int p2]) (n := 4) (Nat.le_of_ble_eq_true rfl)
  rw [lg_entry_eq]
  generalize (lg_sl ([.ref mh, .int p0, .int p1, .int p2]) ++ List.replicate (4 - (lg_sl ([.ref mh, .int p0, .int p1, .int p2])).length) Slot.unset).toArray = ls at hl ⊢
  have hl : lv_has ls 4 [(0, .ref mh), (1, .int p0), (2, .int p1), (3, .int p2)] := hl
  have lo_p0 := i_lo p0; have hi_p0 := i_hi p0
  have lo_p1 := i_lo p1; have hi_p1 := i_hi p1
  have lo_p2 := i_lo p2; have hi_p2 := i_hi p2
  refine lv_aload_n hx hb dX9_rate_0 rfl (lv_at hl 0 rfl) ?_
  refine lv_iload_n hx hb dX9_rate_1 rfl (lv_at hl 1 rfl) ?_
  refine callRV (rest := []) (As := [.int p0]) hx hb hml hown htb hK (g_X9_watchAt l D E mh ma mcode mtoday moffs mmany msumW msumA msumR msumWW msumWA msumAA msumWR msumAR mupper mlower mrates mtaped mlaid mat mtk mtkAt mtkNumber mwaits mlisted mdealtMany mf3 p0 (by (try dsimp only); omega)) ok_X9_watchAt k_1212 k_1214 ks_41 k_9 k_1215 ⟨(Nat.le_of_ble_eq_true rfl), (Nat.le_of_ble_eq_true rfl)⟩ ⟨(Nat.le_of_ble_eq_true rfl), (Nat.le_of_ble_eq_true rfl)⟩ hl.1 (Nat.le_of_ble_eq_true rfl) rfl rfl dX9_rate_2 (hP.sub (ws' := [(mh, .inr (9, G9 ma mcode mtoday moffs mmany msumW msumA msumR msumWW msumWA msumAA msumWR msumAR mupper mlower mrates mtaped mlaid mat mtk mtkAt mtkNumber mwaits mlisted mdealtMany)), ((ma 3), .inl (E 0, 16, .inl mf3))]) [0, 1] rfl) rfl rfl 0 rfl (fun r_1 hw_2 => ?_)
  refine lv_if_lt (tgt := 26) hx hb dX9_rate_5 (by decide) (fun c_4 => ?_) (fun c_4 => ?_)
  ·
    have ic_4 : r_1.toInt < 0 := by first | exact (g_lt rfl t_0).mp c_4 | (have h := mt (g_le t_0 rfl).mpr c_4; omega)
    clear c_4
    refine lv_ldc hx hb hown (htb _ k_1205) dX9_rate_26 ?_
    refine lv_goto (tgt := 38) hx hb dX9_rate_28 (by decide) ?_
    exact W.iret (v := (-2000000000)) hx hb hr (fun t ht hW => ⟨(-2000000000), rfl, (by have hl0 := t_m2000000000; (try dsimp only); first | exact Or.inl ⟨by omega, by assumption⟩ | exact Or.inr ⟨by omega, by omega⟩), ht⟩) (fun q h => by cases h) dX9_rate_38
  ·
    have ic_4 : 0 ≤ r_1.toInt := by first | exact (g_le t_0 rfl).mp c_4 | (have h := mt (g_lt rfl t_0).mpr c_4; omega)
    clear c_4
    refine lv_iload_n hx hb dX9_rate_8 rfl (lv_at hl 2 rfl) ?_
    refine lv_iconst (v := 0) hx hb dX9_rate_9 (by decide) ?_
    refine lv_sipush (v := 398) hx hb dX9_rate_10 (by decide) ?_
    refine callRS (rest := []) (As := [.int p1, .int 0, .int 398]) hx hb hml hown htb hK (g_X9_in l D E p1 0 398 ) ok_X9_in k_1168 k_1169 k_9 k_1170 ⟨(Nat.le_of_ble_eq_true rfl), (Nat.le_of_ble_eq_true rfl)⟩ ⟨(Nat.le_of_ble_eq_true rfl), (Nat.le_of_ble_eq_true rfl)⟩ hl.1 (Nat.le_of_ble_eq_true rfl) rfl rfl dX9_rate_13 (hP.sub (ws' := ([] : va_W)) [] rfl) (fun r_5 hw_6 => ?_)
    try simp only [t_0, t_398] at hw_6
    rcases hw_6 with ⟨hr_5, hw_6⟩ | ⟨hr_5, hw_6⟩
    ·
      try simp only [t_0, t_398] at hw_6
      refine W_top (y := .int 1) (by rw [hr_5]) ?_
      refine lv_if_eq (tgt := 26) hx hb dX9_rate_16 (by decide) (fun c_8 => absurd c_8 (by decide)) (fun c_8 => ?_)
      refine lv_iload_n hx hb dX9_rate_19 rfl (lv_at hl 3 rfl) ?_
      refine callRS (rest := []) (As := [.int p2]) hx hb hml hown htb hK (g_X9_isKnown l D E p2 ) ok_X9_isKnown k_1220 k_1221 k_9 k_1222 ⟨(Nat.le_of_ble_eq_true rfl), (Nat.le_of_ble_eq_true rfl)⟩ ⟨(Nat.le_of_ble_eq_true rfl), (Nat.le_of_ble_eq_true rfl)⟩ hl.1 (Nat.le_of_ble_eq_true rfl) rfl rfl dX9_rate_20 (hP.sub (ws' := ([] : va_W)) [] rfl) (fun r_9 hw_10 => ?_)
      rcases hw_10 with ⟨hr_9, hw_10⟩ | ⟨hr_9, hw_10⟩
      ·
        refine W_top (y := .int 1) (by rw [hr_9]) ?_
        refine lv_if_ne (tgt := 31) hx hb dX9_rate_23 (by decide) (fun c_12 => ?_) (fun c_12 => absurd c_12 (by decide))
        refine lv_aload_n hx hb dX9_rate_31 rfl (lv_at hl 0 rfl) ?_
        refine lv_iload_n hx hb dX9_rate_32 rfl (lv_at hl 1 rfl) ?_
        refine lv_iload_n hx hb dX9_rate_33 rfl (lv_at hl 2 rfl) ?_
        refine lv_iload_n hx hb dX9_rate_34 rfl (lv_at hl 3 rfl) ?_
        refine callRV (rest := []) (As := [.int p0, .int p1, .int p2]) hx hb hml hown htb hK (g_X9_rateOf l D E mh ma mcode mtoday moffs mmany msumW msumA msumR msumWW msumWA msumAA msumWR msumAR mupper mlower mrates mtaped mlaid mat mtk mtkAt mtkNumber mwaits mlisted mdealtMany mf5 mf6 mf7 mf8 mf9 mf12 mf13 mf14 mf15 mf16 p0 p1 p2 (by (try dsimp only); omega) (by (try dsimp only); omega) (by (try dsimp only); omega)) ok_X9_rateOf k_1231 k_1233 ks_43 k_9 k_1234 ⟨(Nat.le_of_ble_eq_true rfl), (Nat.le_of_ble_eq_true rfl)⟩ ⟨(Nat.le_of_ble_eq_true rfl), (Nat.le_of_ble_eq_true rfl)⟩ hl.1 (Nat.le_of_ble_eq_true rfl) rfl rfl dX9_rate_35 (hP.sub (ws' := [(mh, .inr (9, G9 ma mcode mtoday moffs mmany msumW msumA msumR msumWW msumWA msumAA msumWR msumAR mupper mlower mrates mtaped mlaid mat mtk mtkAt mtkNumber mwaits mlisted mdealtMany)), ((ma 5), .inl (E 1, 6400, .inl mf5)), ((ma 6), .inl (E 0, 6400, .inl mf6)), ((ma 7), .inl (E 0, 6400, .inl mf7)), ((ma 8), .inl (E 1, 6400, .inl mf8)), ((ma 9), .inl (E 1, 6400, .inl mf9)), ((ma 12), .inl (E 0, 60, .inl mf12)), ((ma 13), .inl (E 0, 60, .inl mf13)), ((ma 14), .inl (E 0, 60, .inl mf14)), ((ma 15), .inl (E 0, 60, .inl mf15)), ((ma 16), .inl (E 0, 60, .inl mf16))]) [0, 2, 3, 4, 5, 6, 7, 8, 9, 10, 11] rfl) rfl rfl 0 rfl (fun r_13 hw_14 => ?_)
        exact W.iret (v := r_13) hx hb hr (fun t ht hW => ⟨r_13, rfl, (by (try dsimp only); first | exact Or.inl ⟨by omega, by assumption⟩ | exact Or.inr ⟨by omega, by omega⟩), ht⟩) (fun q h => by cases h) dX9_rate_38
      ·
        refine W_top (y := .int 0) (by rw [hr_9]) ?_
        refine lv_if_ne (tgt := 31) hx hb dX9_rate_23 (by decide) (fun c_16 => absurd (by decide) c_16) (fun c_16 => ?_)
        refine lv_ldc hx hb hown (htb _ k_1205) dX9_rate_26 ?_
        refine lv_goto (tgt := 38) hx hb dX9_rate_28 (by decide) ?_
        exact W.iret (v := (-2000000000)) hx hb hr (fun t ht hW => ⟨(-2000000000), rfl, (by have hl0 := t_m2000000000; (try dsimp only); first | exact Or.inl ⟨by omega, by assumption⟩ | exact Or.inr ⟨by omega, by omega⟩), ht⟩) (fun q h => by cases h) dX9_rate_38
    ·
      try simp only [t_0, t_398] at hw_6
      refine W_top (y := .int 0) (by rw [hr_5]) ?_
      refine lv_if_eq (tgt := 26) hx hb dX9_rate_16 (by decide) (fun c_17 => ?_) (fun c_17 => absurd (by decide) c_17)
      refine lv_ldc hx hb hown (htb _ k_1205) dX9_rate_26 ?_
      refine lv_goto (tgt := 38) hx hb dX9_rate_28 (by decide) ?_
      exact W.iret (v := (-2000000000)) hx hb hr (fun t ht hW => ⟨(-2000000000), rfl, (by have hl0 := t_m2000000000; (try dsimp only); first | exact Or.inl ⟨by omega, by assumption⟩ | exact Or.inr ⟨by omega, by omega⟩), ht⟩) (fun q h => by cases h) dX9_rate_38
set_option maxHeartbeats 4000000 in
set_option maxRecDepth 100000 in
theorem g_X9_repair (l : Launch) (D : va_G) (E : Nat → Nat) (mh : Nat) (ma : Nat → Nat) (mcode : Int32) (mtoday : Int32) (moffs : Int32) (mmany : Int64) (msumW : Int64) (msumA : Int64) (msumR : Int64) (msumWW : Int64) (msumWA : Int64) (msumAA : Int64) (msumWR : Int64) (msumAR : Int64) (mupper : Int64) (mlower : Int64) (mrates : Int32) (mtaped : Int32) (mlaid : Int32) (mat : Int32) (mtk : Int32) (mtkAt : Int32) (mtkNumber : Int32) (mwaits : Int32) (mlisted : Int32) (mdealtMany : Int32) (mf3 : Nat → Int32) (mf8 : Nat → Int32) (p0 : Int32) (p1 : Int32) (sz : Nat) (hi_m : (0 ≤ mtoday.toInt ∧ mtoday.toInt ≤ 399) ∧ (0 ≤ moffs.toInt ∧ moffs.toInt ≤ 60) ∧ (0 ≤ mrates.toInt ∧ mrates.toInt ≤ 60) ∧ (0 ≤ mtaped.toInt ∧ mtaped.toInt ≤ 120) ∧ (0 ≤ mlisted.toInt ∧ mlisted.toInt ≤ 9) ∧ (0 ≤ mdealtMany.toInt ∧ mdealtMany.toInt ≤ 9)) : Met l yX9_repair (wl yX9_repair cX9_repair 5 (some .int)) (RM 3 0 0) (mu_P D E [.ref mh, .int p0, .int p1] [(mh, .inr (9, G9 ma mcode mtoday moffs mmany msumW msumA msumR msumWW msumWA msumAA msumWR msumAR mupper mlower mrates mtaped mlaid mat mtk mtkAt mtkNumber mwaits mlisted mdealtMany)), ((ma 3), .inl (E 0, 16, .inl mf3)), ((ma 8), .inl (E 1, 6400, .inl mf8))] sz) (va_Qi (fun (r : Int32) (u : (Nat → Int32)) => ((r.toInt = -1 ∧ ¬ ((0 ≤ p0.toInt ∧ p0.toInt ≤ 15) ∧ (0 ≤ p1.toInt ∧ p1.toInt ≤ mtoday.toInt)) ∧ u = mf8) ∨ (((0 ≤ p0.toInt ∧ p0.toInt ≤ 15) ∧ (0 ≤ p1.toInt ∧ p1.toInt ≤ mtoday.toInt)) ∧ (((mf3 (p0).toNatClampNeg).toInt = -5 ∧ r.toInt = -2) ∨ ((mf3 (p0).toNatClampNeg).toInt = 2 ∧ r.toInt = -3)) ∧ u = mf8) ∨ (((0 ≤ p0.toInt ∧ p0.toInt ≤ 15) ∧ (0 ≤ p1.toInt ∧ p1.toInt ≤ mtoday.toInt)) ∧ ((mf3 (p0).toNatClampNeg).toInt ≠ -5 ∧ (mf3 (p0).toNatClampNeg).toInt ≠ 2) ∧ (((mf8 (400 * p0 + p1).toNatClampNeg).toInt ≠ 0 ∧ r.toInt = 0) ∨ (¬ (mf8 (400 * p0 + p1).toNatClampNeg).toInt ≠ 0 ∧ r.toInt = 1)) ∧ u = upd mf8 (400 * p0 + p1).toNatClampNeg 1))) (mu_B D (va_A [(mh, .inr (9, G9 ma mcode mtoday moffs mmany msumW msumA msumR msumWW msumWA msumAA msumWR msumAR mupper mlower mrates mtaped mlaid mat mtk mtkAt mtkNumber mwaits mlisted mdealtMany)), ((ma 3), .inl (E 0, 16, .inl mf3)), ((ma 8), .inl (E 1, 6400, .inl mf8))] sz) (fun (u : (Nat → Int32)) => [(mh, .inr (9, G9 ma mcode mtoday moffs mmany msumW msumA msumR msumWW msumWA msumAA msumWR msumAR mupper mlower mrates mtaped mlaid mat mtk mtkAt mtkNumber mwaits mlisted mdealtMany)), ((ma 3), .inl (E 0, 16, .inl mf3)), ((ma 8), .inl (E 1, 6400, .inl u))])) (va_A [(mh, .inr (9, G9 ma mcode mtoday moffs mmany msumW msumA msumR msumWW msumWA msumAA msumWR msumAR mupper mlower mrates mtaped mlaid mat mtk mtkAt mtkNumber mwaits mlisted mdealtMany)), ((ma 3), .inl (E 0, 16, .inl mf3)), ((ma 8), .inl (E 1, 6400, .inl mf8))] sz)) 0 0 (va_A [(mh, .inr (9, G9 ma mcode mtoday moffs mmany msumW msumA msumR msumWW msumWA msumAA msumWR msumAR mupper mlower mrates mtaped mlaid mat mtk mtkAt mtkNumber mwaits mlisted mdealtMany)), ((ma 3), .inl (E 0, 16, .inl mf3)), ((ma 8), .inl (E 1, 6400, .inl mf8))] sz) := by
  refine Met.ofW (cc := cX9_repair) (maxL := 5) (ret := (some .int)) (by decide) rfl ?_
  intro p e s m args below meth c s₁ B hml hv
  obtain ⟨rfl, hsz, hP, hK, hD0⟩ := hv
  have hx := B.exec; have hb := B.bytes; have hr := B.returns
  have hts := atoms_spec (ws := wl yX9_repair cX9_repair 5 (some .int)) B.pre
  have htb : ∀ w ∈ tb, w.before _ s = true := fun w h => hts w (List.mem_cons_of_mem _ h)
  have hown : s.vm.findClass RX9 = some m.cls := findClass_of_methodNamed B.named
  have hlocks := B.notSynchronized
  subst hsz
  have hD := hD0.self (sz := s.heap.size)
  generalize hAe : va_A [(mh, .inr (9, G9 ma mcode mtoday moffs mmany msumW msumA msumR msumWW msumWA msumAA msumWR msumAR mupper mlower mrates mtaped mlaid mat mtk mtkAt mtkNumber mwaits mlisted mdealtMany)), ((ma 3), .inl (E 0, 16, .inl mf3)), ((ma 8), .inl (E 1, 6400, .inl mf8))] s.heap.size = A at hD ⊢
  have hA : ∀ q : Nat, s.heap.size ≤ q → A q := fun q h => by rw [← hAe]; exact Or.inr h
  have hS : va_S A s.heap s.heap [] := va_S.rf
  have hP : va_P D vwCl [(mh, .inr (9, G9 ma mcode mtoday moffs mmany msumW msumA msumR msumWW msumWA msumAA msumWR msumAR mupper mlower mrates mtaped mlaid mat mtk mtkAt mtkNumber mwaits mlisted mdealtMany)), ((ma 3), .inl (E 0, 16, .inl mf3)), ((ma 8), .inl (E 1, 6400, .inl mf8))] s.heap := hP
  have hl := lv_entry ([.ref mh, .int p0, .int p1]) (n := 5) (Nat.le_of_ble_eq_true rfl)
  rw [lg_entry_eq]
  generalize (lg_sl ([.ref mh, .int p0, .int p1]) ++ List.replicate (5 - (lg_sl ([.ref mh, .int p0, .int p1])).length) Slot.unset).toArray = ls at hl ⊢
  have hl : lv_has ls 5 [(0, .ref mh), (1, .int p0), (2, .int p1)] := hl
  have lo_p0 := i_lo p0; have hi_p0 := i_hi p0
  have lo_p1 := i_lo p1; have hi_p1 := i_hi p1
  refine lv_iload_n hx hb dX9_repair_0 rfl (lv_at hl 1 rfl) ?_
  refine callRS (rest := []) (As := [.int p0]) hx hb hml hown htb hK (g_X9_isPlace l D E p0 ) ok_X9_isPlace k_1182 k_1183 k_9 k_1184 ⟨(Nat.le_of_ble_eq_true rfl), (Nat.le_of_ble_eq_true rfl)⟩ ⟨(Nat.le_of_ble_eq_true rfl), (Nat.le_of_ble_eq_true rfl)⟩ hl.1 (Nat.le_of_ble_eq_true rfl) rfl rfl dX9_repair_1 (hP.sub (ws' := ([] : va_W)) [] rfl) (fun r_1 hw_2 => ?_)
  rcases hw_2 with ⟨hr_1, hw_2⟩ | ⟨hr_1, hw_2⟩
  ·
    refine W_top (y := .int 1) (by rw [hr_1]) ?_
    refine lv_if_eq (tgt := 19) hx hb dX9_repair_4 (by decide) (fun c_4 => absurd c_4 (by decide)) (fun c_4 => ?_)
    refine lv_iload_n hx hb dX9_repair_7 rfl (lv_at hl 2 rfl) ?_
    refine lv_iconst (v := 0) hx hb dX9_repair_8 (by decide) ?_
    refine lv_aload_n hx hb dX9_repair_9 rfl (lv_at hl 0 rfl) ?_
    refine va_get (D := D) (ci := 9) (v := .int mtoday) (C := RX9) (T := TX9) (N := 68) hx hb htb iX9 hown hK.1 hP 0 rfl rfl 1 (by decide) (htb _ k_959) (fun _ h9 => h9) rfl dX9_repair_10 ?_
    refine callRS (rest := []) (As := [.int p1, .int 0, .int mtoday]) hx hb hml hown htb hK (g_X9_in l D E p1 0 mtoday ) ok_X9_in k_1168 k_1169 k_9 k_1170 ⟨(Nat.le_of_ble_eq_true rfl), (Nat.le_of_ble_eq_true rfl)⟩ ⟨(Nat.le_of_ble_eq_true rfl), (Nat.le_of_ble_eq_true rfl)⟩ hl.1 (Nat.le_of_ble_eq_true rfl) rfl rfl dX9_repair_13 (hP.sub (ws' := ([] : va_W)) [] rfl) (fun r_5 hw_6 => ?_)
    try simp only [t_0] at hw_6
    rcases hw_6 with ⟨hr_5, hw_6⟩ | ⟨hr_5, hw_6⟩
    ·
      try simp only [t_0] at hw_6
      refine W_top (y := .int 1) (by rw [hr_5]) ?_
      refine lv_if_ne (tgt := 21) hx hb dX9_repair_16 (by decide) (fun c_8 => ?_) (fun c_8 => absurd c_8 (by decide))
      refine lv_aload_n hx hb dX9_repair_21 rfl (lv_at hl 0 rfl) ?_
      refine lv_iload_n hx hb dX9_repair_22 rfl (lv_at hl 1 rfl) ?_
      refine callRV (rest := []) (As := [.int p0]) hx hb hml hown htb hK (g_X9_watchAt l D E mh ma mcode mtoday moffs mmany msumW msumA msumR msumWW msumWA msumAA msumWR msumAR mupper mlower mrates mtaped mlaid mat mtk mtkAt mtkNumber mwaits mlisted mdealtMany mf3 p0 (by (try dsimp only); omega)) ok_X9_watchAt k_1212 k_1214 ks_41 k_9 k_1215 ⟨(Nat.le_of_ble_eq_true rfl), (Nat.le_of_ble_eq_true rfl)⟩ ⟨(Nat.le_of_ble_eq_true rfl), (Nat.le_of_ble_eq_true rfl)⟩ hl.1 (Nat.le_of_ble_eq_true rfl) rfl rfl dX9_repair_23 (hP.sub (ws' := [(mh, .inr (9, G9 ma mcode mtoday moffs mmany msumW msumA msumR msumWW msumWA msumAA msumWR msumAR mupper mlower mrates mtaped mlaid mat mtk mtkAt mtkNumber mwaits mlisted mdealtMany)), ((ma 3), .inl (E 0, 16, .inl mf3))]) [0, 1] rfl) rfl rfl 0 rfl (fun r_9 hw_10 => ?_)
      refine lv_istore_n (lv' := [(3, .int r_9), (0, .ref mh), (1, .int p0), (2, .int p1)]) hx hb dX9_repair_26 rfl hl (by decide) rfl (fun ls hl => ?_)
      refine lv_iload_n hx hb dX9_repair_27 rfl (lv_at hl 0 rfl) ?_
      refine lv_if_ge (tgt := 33) hx hb dX9_repair_28 (by decide) (fun c_12 => ?_) (fun c_12 => ?_)
      ·
        have ic_12 : 0 ≤ r_9.toInt := by first | exact (g_le t_0 rfl).mp c_12 | (have h := mt (g_lt rfl t_0).mpr c_12; omega)
        clear c_12
        refine lv_aload_n hx hb dX9_repair_33 rfl (lv_at hl 1 rfl) ?_
        refine va_get (D := D) (ci := 9) (v := .ref (ma 8)) (C := RX9) (T := TX9) (N := 68) hx hb htb iX9 hown hK.1 hP 0 rfl rfl 8 (by decide) (htb _ k_966) (fun _ h9 => h9) rfl dX9_repair_34 ?_
        refine lv_sipush (v := 400) hx hb dX9_repair_37 (by decide) ?_
        refine lv_iload_n hx hb dX9_repair_40 rfl (lv_at hl 2 rfl) ?_
        refine lv_imul hx hb dX9_repair_41 ?_
        refine lv_topi (fun z_13 ez_13 => ?_)
        have jz_13 : z_13.toInt = 400 * p0.toInt := by rw [ez_13]; exact g_mul t_400 rfl (by omega) (by omega)
        refine lv_iload_n hx hb dX9_repair_42 rfl (lv_at hl 3 rfl) ?_
        refine lv_iadd hx hb dX9_repair_43 ?_
        refine lv_topi (fun z_14 ez_14 => ?_)
        have jz_14 : z_14.toInt = z_13.toInt + p1.toInt := by rw [ez_14]; exact g_add rfl rfl (by omega) (by omega)
        refine va_zald hx hb hK.1 hP 2 1 rfl rfl (g_in rfl (by omega) (by omega)) dX9_repair_44 ?_
        refine lv_topi (fun z_15 ez_15 => ?_)
        have kz_15 := congrArg Int32.toInt ez_15
        refine lv_if_eq (tgt := 52) hx hb dX9_repair_45 (by decide) (fun c_16 => ?_) (fun c_16 => ?_)
        ·
          have ic_16 : z_15.toInt = 0 := (g_eq rfl t_0).mp c_16
          clear c_16
          refine lv_iconst (v := 1) hx hb dX9_repair_52 (by decide) ?_
          refine lv_istore (lv' := [(4, .int 1), (3, .int r_9), (0, .ref mh), (1, .int p0), (2, .int p1)]) hx hb dX9_repair_53 hl (by decide) rfl (fun ls hl => ?_)
          refine lv_aload_n hx hb dX9_repair_55 rfl (lv_at hl 2 rfl) ?_
          refine va_get (D := D) (ci := 9) (v := .ref (ma 8)) (C := RX9) (T := TX9) (N := 68) hx hb htb iX9 hown hK.1 hP 0 rfl rfl 8 (by decide) (htb _ k_966) (fun _ h9 => h9) rfl dX9_repair_56 ?_
          refine lv_sipush (v := 400) hx hb dX9_repair_59 (by decide) ?_
          refine lv_iload_n hx hb dX9_repair_62 rfl (lv_at hl 3 rfl) ?_
          refine lv_imul hx hb dX9_repair_63 ?_
          refine lv_topi (fun z_17 ez_17 => ?_)
          have jz_17 : z_17.toInt = 400 * p0.toInt := by rw [ez_17]; exact g_mul t_400 rfl (by omega) (by omega)
          refine lv_iload_n hx hb dX9_repair_64 rfl (lv_at hl 4 rfl) ?_
          refine lv_iadd hx hb dX9_repair_65 ?_
          refine lv_topi (fun z_18 ez_18 => ?_)
          have jz_18 : z_18.toInt = z_17.toInt + p1.toInt := by rw [ez_18]; exact g_add rfl rfl (by omega) (by omega)
          refine lv_iconst (v := 1) hx hb dX9_repair_66 (by decide) ?_
          refine va_zast hx hb hK.1 hP hD hS 2 1 rfl rfl (g_in rfl (by omega) (by omega)) dX9_repair_67 (fun H locs hP hD hS => ?_)
          have hP : va_P D vwCl [(mh, .inr (9, G9 ma mcode mtoday moffs mmany msumW msumA msumR msumWW msumWA msumAA msumWR msumAR mupper mlower mrates mtaped mlaid mat mtk mtkAt mtkNumber mwaits mlisted mdealtMany)), ((ma 3), .inl (E 0, 16, .inl mf3)), ((ma 8), .inl (E 1, 6400, .inl (upd mf8 (z_18 : Int32).toNatClampNeg (vp_nar .boolean 1))))] H := hP
          have hD := toW hP hD rfl
          refine lv_iload hx hb dX9_repair_68 (lv_at hl 0 rfl) ?_
          have hP9 := hP.sub (ws' := [(mh, .inr (9, G9 ma mcode mtoday moffs mmany msumW msumA msumR msumWW msumWA msumAA msumWR msumAR mupper mlower mrates mtaped mlaid mat mtk mtkAt mtkNumber mwaits mlisted mdealtMany)), ((ma 3), .inl (E 0, 16, .inl mf3)), ((ma 8), .inl (E 1, 6400, .inl (upd mf8 (z_18 : Int32).toNatClampNeg (vp_nar .boolean 1))))]) [0, 1, 2] rfl
          have hD9 := hD.sub (ws' := [(mh, .inr (9, G9 ma mcode mtoday moffs mmany msumW msumA msumR msumWW msumWA msumAA msumWR msumAR mupper mlower mrates mtaped mlaid mat mtk mtkAt mtkNumber mwaits mlisted mdealtMany)), ((ma 3), .inl (E 0, 16, .inl mf3)), ((ma 8), .inl (E 1, 6400, .inl (upd mf8 (z_18 : Int32).toNatClampNeg (vp_nar .boolean 1))))]) [0, 1, 2] (by decide) rfl
          exact W.iret (v := 1) hx hb hr (fun t ht hW => ⟨⟨1, (upd mf8 (z_18 : Int32).toNatClampNeg (vp_nar .boolean 1)), rfl, (by have hl0 := t_1; (try dsimp only); first | exact Or.inl ⟨by omega, by omega, rfl⟩ | exact Or.inr (Or.inl ⟨by omega, by omega, rfl⟩) | exact Or.inr (Or.inr ⟨by omega, by omega, by subst_vars; omega, by subst_vars; rfl⟩)), by rw [ht]; exact hP9, hD9⟩, hS.F ht⟩) hS.2.2 dX9_repair_70
        ·
          have ic_16 : z_15.toInt ≠ 0 := mt (g_eq rfl t_0).mpr c_16
          clear c_16
          refine lv_iconst (v := 0) hx hb dX9_repair_48 (by decide) ?_
          refine lv_goto (tgt := 53) hx hb dX9_repair_49 (by decide) ?_
          refine lv_istore (lv' := [(4, .int 0), (3, .int r_9), (0, .ref mh), (1, .int p0), (2, .int p1)]) hx hb dX9_repair_53 hl (by decide) rfl (fun ls hl => ?_)
          refine lv_aload_n hx hb dX9_repair_55 rfl (lv_at hl 2 rfl) ?_
          refine va_get (D := D) (ci := 9) (v := .ref (ma 8)) (C := RX9) (T := TX9) (N := 68) hx hb htb iX9 hown hK.1 hP 0 rfl rfl 8 (by decide) (htb _ k_966) (fun _ h9 => h9) rfl dX9_repair_56 ?_
          refine lv_sipush (v := 400) hx hb dX9_repair_59 (by decide) ?_
          refine lv_iload_n hx hb dX9_repair_62 rfl (lv_at hl 3 rfl) ?_
          refine lv_imul hx hb dX9_repair_63 ?_
          refine lv_topi (fun z_19 ez_19 => ?_)
          have jz_19 : z_19.toInt = 400 * p0.toInt := by rw [ez_19]; exact g_mul t_400 rfl (by omega) (by omega)
          refine lv_iload_n hx hb dX9_repair_64 rfl (lv_at hl 4 rfl) ?_
          refine lv_iadd hx hb dX9_repair_65 ?_
          refine lv_topi (fun z_20 ez_20 => ?_)
          have jz_20 : z_20.toInt = z_19.toInt + p1.toInt := by rw [ez_20]; exact g_add rfl rfl (by omega) (by omega)
          refine lv_iconst (v := 1) hx hb dX9_repair_66 (by decide) ?_
          refine va_zast hx hb hK.1 hP hD hS 2 1 rfl rfl (g_in rfl (by omega) (by omega)) dX9_repair_67 (fun H locs hP hD hS => ?_)
          have hP : va_P D vwCl [(mh, .inr (9, G9 ma mcode mtoday moffs mmany msumW msumA msumR msumWW msumWA msumAA msumWR msumAR mupper mlower mrates mtaped mlaid mat mtk mtkAt mtkNumber mwaits mlisted mdealtMany)), ((ma 3), .inl (E 0, 16, .inl mf3)), ((ma 8), .inl (E 1, 6400, .inl (upd mf8 (z_20 : Int32).toNatClampNeg (vp_nar .boolean 1))))] H := hP
          have hD := toW hP hD rfl
          refine lv_iload hx hb dX9_repair_68 (lv_at hl 0 rfl) ?_
          have hP9 := hP.sub (ws' := [(mh, .inr (9, G9 ma mcode mtoday moffs mmany msumW msumA msumR msumWW msumWA msumAA msumWR msumAR mupper mlower mrates mtaped mlaid mat mtk mtkAt mtkNumber mwaits mlisted mdealtMany)), ((ma 3), .inl (E 0, 16, .inl mf3)), ((ma 8), .inl (E 1, 6400, .inl (upd mf8 (z_20 : Int32).toNatClampNeg (vp_nar .boolean 1))))]) [0, 1, 2] rfl
          have hD9 := hD.sub (ws' := [(mh, .inr (9, G9 ma mcode mtoday moffs mmany msumW msumA msumR msumWW msumWA msumAA msumWR msumAR mupper mlower mrates mtaped mlaid mat mtk mtkAt mtkNumber mwaits mlisted mdealtMany)), ((ma 3), .inl (E 0, 16, .inl mf3)), ((ma 8), .inl (E 1, 6400, .inl (upd mf8 (z_20 : Int32).toNatClampNeg (vp_nar .boolean 1))))]) [0, 1, 2] (by decide) rfl
          exact W.iret (v := 0) hx hb hr (fun t ht hW => ⟨⟨0, (upd mf8 (z_20 : Int32).toNatClampNeg (vp_nar .boolean 1)), rfl, (by have hl0 := t_0; (try dsimp only); first | exact Or.inl ⟨by omega, by omega, rfl⟩ | exact Or.inr (Or.inl ⟨by omega, by omega, rfl⟩) | exact Or.inr (Or.inr ⟨by omega, by omega, by subst_vars; omega, by subst_vars; rfl⟩)), by rw [ht]; exact hP9, hD9⟩, hS.F ht⟩) hS.2.2 dX9_repair_70
      ·
        have ic_12 : r_9.toInt < 0 := by first | exact (g_lt rfl t_0).mp c_12 | (have h := mt (g_le t_0 rfl).mpr c_12; omega)
        clear c_12
        refine lv_iload_n hx hb dX9_repair_31 rfl (lv_at hl 0 rfl) ?_
        have hP9 := hP.sub (ws' := [(mh, .inr (9, G9 ma mcode mtoday moffs mmany msumW msumA msumR msumWW msumWA msumAA msumWR msumAR mupper mlower mrates mtaped mlaid mat mtk mtkAt mtkNumber mwaits mlisted mdealtMany)), ((ma 3), .inl (E 0, 16, .inl mf3)), ((ma 8), .inl (E 1, 6400, .inl mf8))]) [0, 1, 2] rfl
        have hD9 := hD.sub (ws' := [(mh, .inr (9, G9 ma mcode mtoday moffs mmany msumW msumA msumR msumWW msumWA msumAA msumWR msumAR mupper mlower mrates mtaped mlaid mat mtk mtkAt mtkNumber mwaits mlisted mdealtMany)), ((ma 3), .inl (E 0, 16, .inl mf3)), ((ma 8), .inl (E 1, 6400, .inl mf8))]) [0, 1, 2] (by decide) rfl
        exact W.iret (v := r_9) hx hb hr (fun t ht hW => ⟨⟨r_9, mf8, rfl, (by (try dsimp only); first | exact Or.inl ⟨by omega, by omega, rfl⟩ | exact Or.inr (Or.inl ⟨by omega, by omega, rfl⟩) | exact Or.inr (Or.inr ⟨by omega, by omega, by subst_vars; omega, by subst_vars; rfl⟩)), by rw [ht]; exact hP9, hD9⟩, hS.F ht⟩) hS.2.2 dX9_repair_32
    ·
      try simp only [t_0] at hw_6
      refine W_top (y := .int 0) (by rw [hr_5]) ?_
      refine lv_if_ne (tgt := 21) hx hb dX9_repair_16 (by decide) (fun c_21 => absurd (by decide) c_21) (fun c_21 => ?_)
      refine lv_iconst (v := (-1)) hx hb dX9_repair_19 (by decide) ?_
      have hP9 := hP.sub (ws' := [(mh, .inr (9, G9 ma mcode mtoday moffs mmany msumW msumA msumR msumWW msumWA msumAA msumWR msumAR mupper mlower mrates mtaped mlaid mat mtk mtkAt mtkNumber mwaits mlisted mdealtMany)), ((ma 3), .inl (E 0, 16, .inl mf3)), ((ma 8), .inl (E 1, 6400, .inl mf8))]) [0, 1, 2] rfl
      have hD9 := hD.sub (ws' := [(mh, .inr (9, G9 ma mcode mtoday moffs mmany msumW msumA msumR msumWW msumWA msumAA msumWR msumAR mupper mlower mrates mtaped mlaid mat mtk mtkAt mtkNumber mwaits mlisted mdealtMany)), ((ma 3), .inl (E 0, 16, .inl mf3)), ((ma 8), .inl (E 1, 6400, .inl mf8))]) [0, 1, 2] (by decide) rfl
      exact W.iret (v := (-1)) hx hb hr (fun t ht hW => ⟨⟨(-1), mf8, rfl, (by have hl0 := t_m1; (try dsimp only); first | exact Or.inl ⟨by omega, by omega, rfl⟩ | exact Or.inr (Or.inl ⟨by omega, by omega, rfl⟩) | exact Or.inr (Or.inr ⟨by omega, by omega, by subst_vars; omega, by subst_vars; rfl⟩)), by rw [ht]; exact hP9, hD9⟩, hS.F ht⟩) hS.2.2 dX9_repair_20
  ·
    refine W_top (y := .int 0) (by rw [hr_1]) ?_
    refine lv_if_eq (tgt := 19) hx hb dX9_repair_4 (by decide) (fun c_22 => ?_) (fun c_22 => absurd (by decide) c_22)
    refine lv_iconst (v := (-1)) hx hb dX9_repair_19 (by decide) ?_
    have hP9 := hP.sub (ws' := [(mh, .inr (9, G9 ma mcode mtoday moffs mmany msumW msumA msumR msumWW msumWA msumAA msumWR msumAR mupper mlower mrates mtaped mlaid mat mtk mtkAt mtkNumber mwaits mlisted mdealtMany)), ((ma 3), .inl (E 0, 16, .inl mf3)), ((ma 8), .inl (E 1, 6400, .inl mf8))]) [0, 1, 2] rfl
    have hD9 := hD.sub (ws' := [(mh, .inr (9, G9 ma mcode mtoday moffs mmany msumW msumA msumR msumWW msumWA msumAA msumWR msumAR mupper mlower mrates mtaped mlaid mat mtk mtkAt mtkNumber mwaits mlisted mdealtMany)), ((ma 3), .inl (E 0, 16, .inl mf3)), ((ma 8), .inl (E 1, 6400, .inl mf8))]) [0, 1, 2] (by decide) rfl
    exact W.iret (v := (-1)) hx hb hr (fun t ht hW => ⟨⟨(-1), mf8, rfl, (by have hl0 := t_m1; (try dsimp only); first | exact Or.inl ⟨by omega, by omega, rfl⟩ | exact Or.inr (Or.inl ⟨by omega, by omega, rfl⟩) | exact Or.inr (Or.inr ⟨by omega, by omega, by subst_vars; omega, by subst_vars; rfl⟩)), by rw [ht]; exact hP9, hD9⟩, hS.F ht⟩) hS.2.2 dX9_repair_20
set_option maxHeartbeats 4000000 in
set_option maxRecDepth 100000 in
theorem g_X9_late (l : Launch) (D : va_G) (E : Nat → Nat) (mh : Nat) (ma : Nat → Nat) (mcode : Int32) (mtoday : Int32) (moffs : Int32) (mmany : Int64) (msumW : Int64) (msumA : Int64) (msumR : Int64) (msumWW : Int64) (msumWA : Int64) (msumAA : Int64) (msumWR : Int64) (msumAR : Int64) (mupper : Int64) (mlower : Int64) (mrates : Int32) (mtaped : Int32) (mlaid : Int32) (mat : Int32) (mtk : Int32) (mtkAt : Int32) (mtkNumber : Int32) (mwaits : Int32) (mlisted : Int32) (mdealtMany : Int32) (mf3 : Nat → Int32) (mf9 : Nat → Int32) (p0 : Int32) (p1 : Int32) (sz : Nat) (hi_m : (0 ≤ mtoday.toInt ∧ mtoday.toInt ≤ 399) ∧ (0 ≤ moffs.toInt ∧ moffs.toInt ≤ 60) ∧ (0 ≤ mrates.toInt ∧ mrates.toInt ≤ 60) ∧ (0 ≤ mtaped.toInt ∧ mtaped.toInt ≤ 120) ∧ (0 ≤ mlisted.toInt ∧ mlisted.toInt ≤ 9) ∧ (0 ≤ mdealtMany.toInt ∧ mdealtMany.toInt ≤ 9)) : Met l yX9_late (wl yX9_late cX9_late 5 (some .int)) (RM 3 0 0) (mu_P D E [.ref mh, .int p0, .int p1] [(mh, .inr (9, G9 ma mcode mtoday moffs mmany msumW msumA msumR msumWW msumWA msumAA msumWR msumAR mupper mlower mrates mtaped mlaid mat mtk mtkAt mtkNumber mwaits mlisted mdealtMany)), ((ma 3), .inl (E 0, 16, .inl mf3)), ((ma 9), .inl (E 1, 6400, .inl mf9))] sz) (va_Qi (fun (r : Int32) (u : (Nat → Int32)) => ((r.toInt = -1 ∧ ¬ ((0 ≤ p0.toInt ∧ p0.toInt ≤ 15) ∧ (0 ≤ p1.toInt ∧ p1.toInt ≤ mtoday.toInt)) ∧ u = mf9) ∨ (((0 ≤ p0.toInt ∧ p0.toInt ≤ 15) ∧ (0 ≤ p1.toInt ∧ p1.toInt ≤ mtoday.toInt)) ∧ (((mf3 (p0).toNatClampNeg).toInt = -5 ∧ r.toInt = -2) ∨ ((mf3 (p0).toNatClampNeg).toInt = 2 ∧ r.toInt = -3)) ∧ u = mf9) ∨ (((0 ≤ p0.toInt ∧ p0.toInt ≤ 15) ∧ (0 ≤ p1.toInt ∧ p1.toInt ≤ mtoday.toInt)) ∧ ((mf3 (p0).toNatClampNeg).toInt ≠ -5 ∧ (mf3 (p0).toNatClampNeg).toInt ≠ 2) ∧ (((mf9 (400 * p0 + p1).toNatClampNeg).toInt ≠ 0 ∧ r.toInt = 0) ∨ (¬ (mf9 (400 * p0 + p1).toNatClampNeg).toInt ≠ 0 ∧ r.toInt = 1)) ∧ u = upd mf9 (400 * p0 + p1).toNatClampNeg 1))) (mu_B D (va_A [(mh, .inr (9, G9 ma mcode mtoday moffs mmany msumW msumA msumR msumWW msumWA msumAA msumWR msumAR mupper mlower mrates mtaped mlaid mat mtk mtkAt mtkNumber mwaits mlisted mdealtMany)), ((ma 3), .inl (E 0, 16, .inl mf3)), ((ma 9), .inl (E 1, 6400, .inl mf9))] sz) (fun (u : (Nat → Int32)) => [(mh, .inr (9, G9 ma mcode mtoday moffs mmany msumW msumA msumR msumWW msumWA msumAA msumWR msumAR mupper mlower mrates mtaped mlaid mat mtk mtkAt mtkNumber mwaits mlisted mdealtMany)), ((ma 3), .inl (E 0, 16, .inl mf3)), ((ma 9), .inl (E 1, 6400, .inl u))])) (va_A [(mh, .inr (9, G9 ma mcode mtoday moffs mmany msumW msumA msumR msumWW msumWA msumAA msumWR msumAR mupper mlower mrates mtaped mlaid mat mtk mtkAt mtkNumber mwaits mlisted mdealtMany)), ((ma 3), .inl (E 0, 16, .inl mf3)), ((ma 9), .inl (E 1, 6400, .inl mf9))] sz)) 0 0 (va_A [(mh, .inr (9, G9 ma mcode mtoday moffs mmany msumW msumA msumR msumWW msumWA msumAA msumWR msumAR mupper mlower mrates mtaped mlaid mat mtk mtkAt mtkNumber mwaits mlisted mdealtMany)), ((ma 3), .inl (E 0, 16, .inl mf3)), ((ma 9), .inl (E 1, 6400, .inl mf9))] sz) := by
  refine Met.ofW (cc := cX9_late) (maxL := 5) (ret := (some .int)) (by decide) rfl ?_
  intro p e s m args below meth c s₁ B hml hv
  obtain ⟨rfl, hsz, hP, hK, hD0⟩ := hv
  have hx := B.exec; have hb := B.bytes; have hr := B.returns
  have hts := atoms_spec (ws := wl yX9_late cX9_late 5 (some .int)) B.pre
  have htb : ∀ w ∈ tb, w.before _ s = true := fun w h => hts w (List.mem_cons_of_mem _ h)
  have hown : s.vm.findClass RX9 = some m.cls := findClass_of_methodNamed B.named
  have hlocks := B.notSynchronized
  subst hsz
  have hD := hD0.self (sz := s.heap.size)
  generalize hAe : va_A [(mh, .inr (9, G9 ma mcode mtoday moffs mmany msumW msumA msumR msumWW msumWA msumAA msumWR msumAR mupper mlower mrates mtaped mlaid mat mtk mtkAt mtkNumber mwaits mlisted mdealtMany)), ((ma 3), .inl (E 0, 16, .inl mf3)), ((ma 9), .inl (E 1, 6400, .inl mf9))] s.heap.size = A at hD ⊢
  have hA : ∀ q : Nat, s.heap.size ≤ q → A q := fun q h => by rw [← hAe]; exact Or.inr h
  have hS : va_S A s.heap s.heap [] := va_S.rf
  have hP : va_P D vwCl [(mh, .inr (9, G9 ma mcode mtoday moffs mmany msumW msumA msumR msumWW msumWA msumAA msumWR msumAR mupper mlower mrates mtaped mlaid mat mtk mtkAt mtkNumber mwaits mlisted mdealtMany)), ((ma 3), .inl (E 0, 16, .inl mf3)), ((ma 9), .inl (E 1, 6400, .inl mf9))] s.heap := hP
  have hl := lv_entry ([.ref mh, .int p0, .int p1]) (n := 5) (Nat.le_of_ble_eq_true rfl)
  rw [lg_entry_eq]
  generalize (lg_sl ([.ref mh, .int p0, .int p1]) ++ List.replicate (5 - (lg_sl ([.ref mh, .int p0, .int p1])).length) Slot.unset).toArray = ls at hl ⊢
  have hl : lv_has ls 5 [(0, .ref mh), (1, .int p0), (2, .int p1)] := hl
  have lo_p0 := i_lo p0; have hi_p0 := i_hi p0
  have lo_p1 := i_lo p1; have hi_p1 := i_hi p1
  refine lv_iload_n hx hb dX9_late_0 rfl (lv_at hl 1 rfl) ?_
  refine callRS (rest := []) (As := [.int p0]) hx hb hml hown htb hK (g_X9_isPlace l D E p0 ) ok_X9_isPlace k_1182 k_1183 k_9 k_1184 ⟨(Nat.le_of_ble_eq_true rfl), (Nat.le_of_ble_eq_true rfl)⟩ ⟨(Nat.le_of_ble_eq_true rfl), (Nat.le_of_ble_eq_true rfl)⟩ hl.1 (Nat.le_of_ble_eq_true rfl) rfl rfl dX9_late_1 (hP.sub (ws' := ([] : va_W)) [] rfl) (fun r_1 hw_2 => ?_)
  rcases hw_2 with ⟨hr_1, hw_2⟩ | ⟨hr_1, hw_2⟩
  ·
    refine W_top (y := .int 1) (by rw [hr_1]) ?_
    refine lv_if_eq (tgt := 19) hx hb dX9_late_4 (by decide) (fun c_4 => absurd c_4 (by decide)) (fun c_4 => ?_)
    refine lv_iload_n hx hb dX9_late_7 rfl (lv_at hl 2 rfl) ?_
    refine lv_iconst (v := 0) hx hb dX9_late_8 (by decide) ?_
    refine lv_aload_n hx hb dX9_late_9 rfl (lv_at hl 0 rfl) ?_
    refine va_get (D := D) (ci := 9) (v := .int mtoday) (C := RX9) (T := TX9) (N := 68) hx hb htb iX9 hown hK.1 hP 0 rfl rfl 1 (by decide) (htb _ k_959) (fun _ h9 => h9) rfl dX9_late_10 ?_
    refine callRS (rest := []) (As := [.int p1, .int 0, .int mtoday]) hx hb hml hown htb hK (g_X9_in l D E p1 0 mtoday ) ok_X9_in k_1168 k_1169 k_9 k_1170 ⟨(Nat.le_of_ble_eq_true rfl), (Nat.le_of_ble_eq_true rfl)⟩ ⟨(Nat.le_of_ble_eq_true rfl), (Nat.le_of_ble_eq_true rfl)⟩ hl.1 (Nat.le_of_ble_eq_true rfl) rfl rfl dX9_late_13 (hP.sub (ws' := ([] : va_W)) [] rfl) (fun r_5 hw_6 => ?_)
    try simp only [t_0] at hw_6
    rcases hw_6 with ⟨hr_5, hw_6⟩ | ⟨hr_5, hw_6⟩
    ·
      try simp only [t_0] at hw_6
      refine W_top (y := .int 1) (by rw [hr_5]) ?_
      refine lv_if_ne (tgt := 21) hx hb dX9_late_16 (by decide) (fun c_8 => ?_) (fun c_8 => absurd c_8 (by decide))
      refine lv_aload_n hx hb dX9_late_21 rfl (lv_at hl 0 rfl) ?_
      refine lv_iload_n hx hb dX9_late_22 rfl (lv_at hl 1 rfl) ?_
      refine callRV (rest := []) (As := [.int p0]) hx hb hml hown htb hK (g_X9_watchAt l D E mh ma mcode mtoday moffs mmany msumW msumA msumR msumWW msumWA msumAA msumWR msumAR mupper mlower mrates mtaped mlaid mat mtk mtkAt mtkNumber mwaits mlisted mdealtMany mf3 p0 (by (try dsimp only); omega)) ok_X9_watchAt k_1212 k_1214 ks_41 k_9 k_1215 ⟨(Nat.le_of_ble_eq_true rfl), (Nat.le_of_ble_eq_true rfl)⟩ ⟨(Nat.le_of_ble_eq_true rfl), (Nat.le_of_ble_eq_true rfl)⟩ hl.1 (Nat.le_of_ble_eq_true rfl) rfl rfl dX9_late_23 (hP.sub (ws' := [(mh, .inr (9, G9 ma mcode mtoday moffs mmany msumW msumA msumR msumWW msumWA msumAA msumWR msumAR mupper mlower mrates mtaped mlaid mat mtk mtkAt mtkNumber mwaits mlisted mdealtMany)), ((ma 3), .inl (E 0, 16, .inl mf3))]) [0, 1] rfl) rfl rfl 0 rfl (fun r_9 hw_10 => ?_)
      refine lv_istore_n (lv' := [(3, .int r_9), (0, .ref mh), (1, .int p0), (2, .int p1)]) hx hb dX9_late_26 rfl hl (by decide) rfl (fun ls hl => ?_)
      refine lv_iload_n hx hb dX9_late_27 rfl (lv_at hl 0 rfl) ?_
      refine lv_if_ge (tgt := 33) hx hb dX9_late_28 (by decide) (fun c_12 => ?_) (fun c_12 => ?_)
      ·
        have ic_12 : 0 ≤ r_9.toInt := by first | exact (g_le t_0 rfl).mp c_12 | (have h := mt (g_lt rfl t_0).mpr c_12; omega)
        clear c_12
        refine lv_aload_n hx hb dX9_late_33 rfl (lv_at hl 1 rfl) ?_
        refine va_get (D := D) (ci := 9) (v := .ref (ma 9)) (C := RX9) (T := TX9) (N := 68) hx hb htb iX9 hown hK.1 hP 0 rfl rfl 9 (by decide) (htb _ k_967) (fun _ h9 => h9) rfl dX9_late_34 ?_
        refine lv_sipush (v := 400) hx hb dX9_late_37 (by decide) ?_
        refine lv_iload_n hx hb dX9_late_40 rfl (lv_at hl 2 rfl) ?_
        refine lv_imul hx hb dX9_late_41 ?_
        refine lv_topi (fun z_13 ez_13 => ?_)
        have jz_13 : z_13.toInt = 400 * p0.toInt := by rw [ez_13]; exact g_mul t_400 rfl (by omega) (by omega)
        refine lv_iload_n hx hb dX9_late_42 rfl (lv_at hl 3 rfl) ?_
        refine lv_iadd hx hb dX9_late_43 ?_
        refine lv_topi (fun z_14 ez_14 => ?_)
        have jz_14 : z_14.toInt = z_13.toInt + p1.toInt := by rw [ez_14]; exact g_add rfl rfl (by omega) (by omega)
        refine va_zald hx hb hK.1 hP 2 1 rfl rfl (g_in rfl (by omega) (by omega)) dX9_late_44 ?_
        refine lv_topi (fun z_15 ez_15 => ?_)
        have kz_15 := congrArg Int32.toInt ez_15
        refine lv_if_eq (tgt := 52) hx hb dX9_late_45 (by decide) (fun c_16 => ?_) (fun c_16 => ?_)
        ·
          have ic_16 : z_15.toInt = 0 := (g_eq rfl t_0).mp c_16
          clear c_16
          refine lv_iconst (v := 1) hx hb dX9_late_52 (by decide) ?_
          refine lv_istore (lv' := [(4, .int 1), (3, .int r_9), (0, .ref mh), (1, .int p0), (2, .int p1)]) hx hb dX9_late_53 hl (by decide) rfl (fun ls hl => ?_)
          refine lv_aload_n hx hb dX9_late_55 rfl (lv_at hl 2 rfl) ?_
          refine va_get (D := D) (ci := 9) (v := .ref (ma 9)) (C := RX9) (T := TX9) (N := 68) hx hb htb iX9 hown hK.1 hP 0 rfl rfl 9 (by decide) (htb _ k_967) (fun _ h9 => h9) rfl dX9_late_56 ?_
          refine lv_sipush (v := 400) hx hb dX9_late_59 (by decide) ?_
          refine lv_iload_n hx hb dX9_late_62 rfl (lv_at hl 3 rfl) ?_
          refine lv_imul hx hb dX9_late_63 ?_
          refine lv_topi (fun z_17 ez_17 => ?_)
          have jz_17 : z_17.toInt = 400 * p0.toInt := by rw [ez_17]; exact g_mul t_400 rfl (by omega) (by omega)
          refine lv_iload_n hx hb dX9_late_64 rfl (lv_at hl 4 rfl) ?_
          refine lv_iadd hx hb dX9_late_65 ?_
          refine lv_topi (fun z_18 ez_18 => ?_)
          have jz_18 : z_18.toInt = z_17.toInt + p1.toInt := by rw [ez_18]; exact g_add rfl rfl (by omega) (by omega)
          refine lv_iconst (v := 1) hx hb dX9_late_66 (by decide) ?_
          refine va_zast hx hb hK.1 hP hD hS 2 1 rfl rfl (g_in rfl (by omega) (by omega)) dX9_late_67 (fun H locs hP hD hS => ?_)
          have hP : va_P D vwCl [(mh, .inr (9, G9 ma mcode mtoday moffs mmany msumW msumA msumR msumWW msumWA msumAA msumWR msumAR mupper mlower mrates mtaped mlaid mat mtk mtkAt mtkNumber mwaits mlisted mdealtMany)), ((ma 3), .inl (E 0, 16, .inl mf3)), ((ma 9), .inl (E 1, 6400, .inl (upd mf9 (z_18 : Int32).toNatClampNeg (vp_nar .boolean 1))))] H := hP
          have hD := toW hP hD rfl
          refine lv_iload hx hb dX9_late_68 (lv_at hl 0 rfl) ?_
          have hP9 := hP.sub (ws' := [(mh, .inr (9, G9 ma mcode mtoday moffs mmany msumW msumA msumR msumWW msumWA msumAA msumWR msumAR mupper mlower mrates mtaped mlaid mat mtk mtkAt mtkNumber mwaits mlisted mdealtMany)), ((ma 3), .inl (E 0, 16, .inl mf3)), ((ma 9), .inl (E 1, 6400, .inl (upd mf9 (z_18 : Int32).toNatClampNeg (vp_nar .boolean 1))))]) [0, 1, 2] rfl
          have hD9 := hD.sub (ws' := [(mh, .inr (9, G9 ma mcode mtoday moffs mmany msumW msumA msumR msumWW msumWA msumAA msumWR msumAR mupper mlower mrates mtaped mlaid mat mtk mtkAt mtkNumber mwaits mlisted mdealtMany)), ((ma 3), .inl (E 0, 16, .inl mf3)), ((ma 9), .inl (E 1, 6400, .inl (upd mf9 (z_18 : Int32).toNatClampNeg (vp_nar .boolean 1))))]) [0, 1, 2] (by decide) rfl
          exact W.iret (v := 1) hx hb hr (fun t ht hW => ⟨⟨1, (upd mf9 (z_18 : Int32).toNatClampNeg (vp_nar .boolean 1)), rfl, (by have hl0 := t_1; (try dsimp only); first | exact Or.inl ⟨by omega, by omega, rfl⟩ | exact Or.inr (Or.inl ⟨by omega, by omega, rfl⟩) | exact Or.inr (Or.inr ⟨by omega, by omega, by subst_vars; omega, by subst_vars; rfl⟩)), by rw [ht]; exact hP9, hD9⟩, hS.F ht⟩) hS.2.2 dX9_late_70
        ·
          have ic_16 : z_15.toInt ≠ 0 := mt (g_eq rfl t_0).mpr c_16
          clear c_16
          refine lv_iconst (v := 0) hx hb dX9_late_48 (by decide) ?_
          refine lv_goto (tgt := 53) hx hb dX9_late_49 (by decide) ?_
          refine lv_istore (lv' := [(4, .int 0), (3, .int r_9), (0, .ref mh), (1, .int p0), (2, .int p1)]) hx hb dX9_late_53 hl (by decide) rfl (fun ls hl => ?_)
          refine lv_aload_n hx hb dX9_late_55 rfl (lv_at hl 2 rfl) ?_
          refine va_get (D := D) (ci := 9) (v := .ref (ma 9)) (C := RX9) (T := TX9) (N := 68) hx hb htb iX9 hown hK.1 hP 0 rfl rfl 9 (by decide) (htb _ k_967) (fun _ h9 => h9) rfl dX9_late_56 ?_
          refine lv_sipush (v := 400) hx hb dX9_late_59 (by decide) ?_
          refine lv_iload_n hx hb dX9_late_62 rfl (lv_at hl 3 rfl) ?_
          refine lv_imul hx hb dX9_late_63 ?_
          refine lv_topi (fun z_19 ez_19 => ?_)
          have jz_19 : z_19.toInt = 400 * p0.toInt := by rw [ez_19]; exact g_mul t_400 rfl (by omega) (by omega)
          refine lv_iload_n hx hb dX9_late_64 rfl (lv_at hl 4 rfl) ?_
          refine lv_iadd hx hb dX9_late_65 ?_
          refine lv_topi (fun z_20 ez_20 => ?_)
          have jz_20 : z_20.toInt = z_19.toInt + p1.toInt := by rw [ez_20]; exact g_add rfl rfl (by omega) (by omega)
          refine lv_iconst (v := 1) hx hb dX9_late_66 (by decide) ?_
          refine va_zast hx hb hK.1 hP hD hS 2 1 rfl rfl (g_in rfl (by omega) (by omega)) dX9_late_67 (fun H locs hP hD hS => ?_)
          have hP : va_P D vwCl [(mh, .inr (9, G9 ma mcode mtoday moffs mmany msumW msumA msumR msumWW msumWA msumAA msumWR msumAR mupper mlower mrates mtaped mlaid mat mtk mtkAt mtkNumber mwaits mlisted mdealtMany)), ((ma 3), .inl (E 0, 16, .inl mf3)), ((ma 9), .inl (E 1, 6400, .inl (upd mf9 (z_20 : Int32).toNatClampNeg (vp_nar .boolean 1))))] H := hP
          have hD := toW hP hD rfl
          refine lv_iload hx hb dX9_late_68 (lv_at hl 0 rfl) ?_
          have hP9 := hP.sub (ws' := [(mh, .inr (9, G9 ma mcode mtoday moffs mmany msumW msumA msumR msumWW msumWA msumAA msumWR msumAR mupper mlower mrates mtaped mlaid mat mtk mtkAt mtkNumber mwaits mlisted mdealtMany)), ((ma 3), .inl (E 0, 16, .inl mf3)), ((ma 9), .inl (E 1, 6400, .inl (upd mf9 (z_20 : Int32).toNatClampNeg (vp_nar .boolean 1))))]) [0, 1, 2] rfl
          have hD9 := hD.sub (ws' := [(mh, .inr (9, G9 ma mcode mtoday moffs mmany msumW msumA msumR msumWW msumWA msumAA msumWR msumAR mupper mlower mrates mtaped mlaid mat mtk mtkAt mtkNumber mwaits mlisted mdealtMany)), ((ma 3), .inl (E 0, 16, .inl mf3)), ((ma 9), .inl (E 1, 6400, .inl (upd mf9 (z_20 : Int32).toNatClampNeg (vp_nar .boolean 1))))]) [0, 1, 2] (by decide) rfl
          exact W.iret (v := 0) hx hb hr (fun t ht hW => ⟨⟨0, (upd mf9 (z_20 : Int32).toNatClampNeg (vp_nar .boolean 1)), rfl, (by have hl0 := t_0; (try dsimp only); first | exact Or.inl ⟨by omega, by omega, rfl⟩ | exact Or.inr (Or.inl ⟨by omega, by omega, rfl⟩) | exact Or.inr (Or.inr ⟨by omega, by omega, by subst_vars; omega, by subst_vars; rfl⟩)), by rw [ht]; exact hP9, hD9⟩, hS.F ht⟩) hS.2.2 dX9_late_70
      ·
        have ic_12 : r_9.toInt < 0 := by first | exact (g_lt rfl t_0).mp c_12 | (have h := mt (g_le t_0 rfl).mpr c_12; omega)
        clear c_12
        refine lv_iload_n hx hb dX9_late_31 rfl (lv_at hl 0 rfl) ?_
        have hP9 := hP.sub (ws' := [(mh, .inr (9, G9 ma mcode mtoday moffs mmany msumW msumA msumR msumWW msumWA msumAA msumWR msumAR mupper mlower mrates mtaped mlaid mat mtk mtkAt mtkNumber mwaits mlisted mdealtMany)), ((ma 3), .inl (E 0, 16, .inl mf3)), ((ma 9), .inl (E 1, 6400, .inl mf9))]) [0, 1, 2] rfl
        have hD9 := hD.sub (ws' := [(mh, .inr (9, G9 ma mcode mtoday moffs mmany msumW msumA msumR msumWW msumWA msumAA msumWR msumAR mupper mlower mrates mtaped mlaid mat mtk mtkAt mtkNumber mwaits mlisted mdealtMany)), ((ma 3), .inl (E 0, 16, .inl mf3)), ((ma 9), .inl (E 1, 6400, .inl mf9))]) [0, 1, 2] (by decide) rfl
        exact W.iret (v := r_9) hx hb hr (fun t ht hW => ⟨⟨r_9, mf9, rfl, (by (try dsimp only); first | exact Or.inl ⟨by omega, by omega, rfl⟩ | exact Or.inr (Or.inl ⟨by omega, by omega, rfl⟩) | exact Or.inr (Or.inr ⟨by omega, by omega, by subst_vars; omega, by subst_vars; rfl⟩)), by rw [ht]; exact hP9, hD9⟩, hS.F ht⟩) hS.2.2 dX9_late_32
    ·
      try simp only [t_0] at hw_6
      refine W_top (y := .int 0) (by rw [hr_5]) ?_
      refine lv_if_ne (tgt := 21) hx hb dX9_late_16 (by decide) (fun c_21 => absurd (by decide) c_21) (fun c_21 => ?_)
      refine lv_iconst (v := (-1)) hx hb dX9_late_19 (by decide) ?_
      have hP9 := hP.sub (ws' := [(mh, .inr (9, G9 ma mcode mtoday moffs mmany msumW msumA msumR msumWW msumWA msumAA msumWR msumAR mupper mlower mrates mtaped mlaid mat mtk mtkAt mtkNumber mwaits mlisted mdealtMany)), ((ma 3), .inl (E 0, 16, .inl mf3)), ((ma 9), .inl (E 1, 6400, .inl mf9))]) [0, 1, 2] rfl
      have hD9 := hD.sub (ws' := [(mh, .inr (9, G9 ma mcode mtoday moffs mmany msumW msumA msumR msumWW msumWA msumAA msumWR msumAR mupper mlower mrates mtaped mlaid mat mtk mtkAt mtkNumber mwaits mlisted mdealtMany)), ((ma 3), .inl (E 0, 16, .inl mf3)), ((ma 9), .inl (E 1, 6400, .inl mf9))]) [0, 1, 2] (by decide) rfl
      exact W.iret (v := (-1)) hx hb hr (fun t ht hW => ⟨⟨(-1), mf9, rfl, (by have hl0 := t_m1; (try dsimp only); first | exact Or.inl ⟨by omega, by omega, rfl⟩ | exact Or.inr (Or.inl ⟨by omega, by omega, rfl⟩) | exact Or.inr (Or.inr ⟨by omega, by omega, by subst_vars; omega, by subst_vars; rfl⟩)), by rw [ht]; exact hP9, hD9⟩, hS.F ht⟩) hS.2.2 dX9_late_20
  ·
    refine W_top (y := .int 0) (by rw [hr_1]) ?_
    refine lv_if_eq (tgt := 19) hx hb dX9_late_4 (by decide) (fun c_22 => ?_) (fun c_22 => absurd (by decide) c_22)
    refine lv_iconst (v := (-1)) hx hb dX9_late_19 (by decide) ?_
    have hP9 := hP.sub (ws' := [(mh, .inr (9, G9 ma mcode mtoday moffs mmany msumW msumA msumR msumWW msumWA msumAA msumWR msumAR mupper mlower mrates mtaped mlaid mat mtk mtkAt mtkNumber mwaits mlisted mdealtMany)), ((ma 3), .inl (E 0, 16, .inl mf3)), ((ma 9), .inl (E 1, 6400, .inl mf9))]) [0, 1, 2] rfl
    have hD9 := hD.sub (ws' := [(mh, .inr (9, G9 ma mcode mtoday moffs mmany msumW msumA msumR msumWW msumWA msumAA msumWR msumAR mupper mlower mrates mtaped mlaid mat mtk mtkAt mtkNumber mwaits mlisted mdealtMany)), ((ma 3), .inl (E 0, 16, .inl mf3)), ((ma 9), .inl (E 1, 6400, .inl mf9))]) [0, 1, 2] (by decide) rfl
    exact W.iret (v := (-1)) hx hb hr (fun t ht hW => ⟨⟨(-1), mf9, rfl, (by have hl0 := t_m1; (try dsimp only); first | exact Or.inl ⟨by omega, by omega, rfl⟩ | exact Or.inr (Or.inl ⟨by omega, by omega, rfl⟩) | exact Or.inr (Or.inr ⟨by omega, by omega, by subst_vars; omega, by subst_vars; rfl⟩)), by rw [ht]; exact hP9, hD9⟩, hS.F ht⟩) hS.2.2 dX9_late_20
set_option maxHeartbeats 4000000 in
set_option maxRecDepth 100000 in
theorem g_X9_ageOf (l : Launch) (D : va_G) (E : Nat → Nat) (mh : Nat) (ma : Nat → Nat) (mcode : Int32) (mtoday : Int32) (moffs : Int32) (mmany : Int64) (msumW : Int64) (msumA : Int64) (msumR : Int64) (msumWW : Int64) (msumWA : Int64) (msumAA : Int64) (msumWR : Int64) (msumAR : Int64) (mupper : Int64) (mlower : Int64) (mrates : Int32) (mtaped : Int32) (mlaid : Int32) (mat : Int32) (mtk : Int32) (mtkAt : Int32) (mtkNumber : Int32) (mwaits : Int32) (mlisted : Int32) (mdealtMany : Int32) (mf8 : Nat → Int32) (p0 : Int32) (p1 : Int32) (hi_m : (0 ≤ mtoday.toInt ∧ mtoday.toInt ≤ 399) ∧ (0 ≤ moffs.toInt ∧ moffs.toInt ≤ 60) ∧ (0 ≤ mrates.toInt ∧ mrates.toInt ≤ 60) ∧ (0 ≤ mtaped.toInt ∧ mtaped.toInt ≤ 120) ∧ (0 ≤ mlisted.toInt ∧ mlisted.toInt ≤ 9) ∧ (0 ≤ mdealtMany.toInt ∧ mdealtMany.toInt ≤ 9)) (g0 : 0 ≤ p0.toInt ∧ p0.toInt ≤ 15) (g1 : 0 ≤ p1.toInt ∧ p1.toInt ≤ 399) : Met l yX9_ageOf (wl yX9_ageOf cX9_ageOf 4 (some .int)) (RM 0 0 0) (rd_P D E [.ref mh, .int p0, .int p1] [(mh, .inr (9, G9 ma mcode mtoday moffs mmany msumW msumA msumR msumWW msumWA msumAA msumWR msumAR mupper mlower mrates mtaped mlaid mat mtk mtkAt mtkNumber mwaits mlisted mdealtMany)), ((ma 8), .inl (E 1, 6400, .inl mf8))]) (rd_Q (fun r => (r.toInt = agM mf8 (400 * p0.toInt).toNat (p1.toInt).toNat))) 0 0 (fun _ => False) := by
  refine Met.ofW (cc := cX9_ageOf) (maxL := 4) (ret := (some .int)) (by decide) rfl ?_
  intro p e s m args below meth c s₁ B hml hv
  obtain ⟨rfl, hP, hK⟩ := hv
  have hx := B.exec; have hb := B.bytes; have hr := B.returns
  have hts := atoms_spec (ws := wl yX9_ageOf cX9_ageOf 4 (some .int)) B.pre
  have htb : ∀ w ∈ tb, w.before _ s = true := fun w h => hts w (List.mem_cons_of_mem _ h)
  have hown : s.vm.findClass RX9 = some m.cls := findClass_of_methodNamed B.named
  have hlocks := B.notSynchronized
  have hP : va_P D vwCl [(mh, .inr (9, G9 ma mcode mtoday moffs mmany msumW msumA msumR msumWW msumWA msumAA msumWR msumAR mupper mlower mrates mtaped mlaid mat mtk mtkAt mtkNumber mwaits mlisted mdealtMany)), ((ma 8), .inl (E 1, 6400, .inl mf8))] s.heap := hP
  have hl := lv_entry ([.ref mh, .int p0, .int p1]) (n := 4) (Nat.le_of_ble_eq_true rfl)
  rw [lg_entry_eq]
  generalize (lg_sl ([.ref mh, .int p0, .int p1]) ++ List.replicate (4 - (lg_sl ([.ref mh, .int p0, .int p1])).length) Slot.unset).toArray = ls at hl ⊢
  have hl : lv_has ls 4 [(0, .ref mh), (1, .int p0), (2, .int p1)] := hl
  have lo_p0 := i_lo p0; have hi_p0 := i_hi p0
  have lo_p1 := i_lo p1; have hi_p1 := i_hi p1
  refine lv_iload_n hx hb dX9_ageOf_0 rfl (lv_at hl 2 rfl) ?_
  refine lv_istore_n (lv' := [(3, .int p1), (0, .ref mh), (1, .int p0), (2, .int p1)]) hx hb dX9_ageOf_1 rfl hl (by decide) rfl (fun ls hl => ?_)
  have loop_1 : ∀ (N_3 : Nat) (L3_2 : Int32)  (ls : Array Slot), 1 + L3_2.toInt < (N_3 : Int) → (-1 ≤ L3_2.toInt ∧ L3_2.toInt ≤ p1.toInt) → ((0 ≤ L3_2.toInt ∧ agM mf8 (400 * p0.toInt).toNat p1.toInt.toNat - (p1.toInt - L3_2.toInt) = agM mf8 (400 * p0.toInt).toNat L3_2.toInt.toNat) ∨ (L3_2.toInt = -1 ∧ agM mf8 (400 * p0.toInt).toNat p1.toInt.toNat = p1.toInt)) → lv_has ls 4 [(3, .int L3_2), (0, .ref mh), (1, .int p0), (2, .int p1)] → W p l e (headSpec (wl yX9_ageOf cX9_ageOf 4 (some .int)) (RM 0 0 0)).room s m [Value.ref mh, .int p0, .int p1].toArray below meth c s.heap [] 0 0 (MQ below (rd_Q (fun r => (r.toInt = agM mf8 (400 * p0.toInt).toNat (p1.toInt).toNat))) [Value.ref mh, .int p0, .int p1].toArray s 0 0 (fun _ => False)) (F0 m 2 ls []) := by
    intro N_3
    induction N_3 with
    | zero => intro L3_2  ls hm v0_2 v1_2 _; exfalso; omega
    | succ N_3 ih_2 =>
      intro L3_2 ls hm v0_2 v1_2 hl
      have lo_L3_2 := i_lo L3_2; have hi_L3_2 := i_hi L3_2
      refine lv_iload_n hx hb dX9_ageOf_2 rfl (lv_at hl 0 rfl) ?_
      refine lv_if_lt (tgt := 27) hx hb dX9_ageOf_3 (by decide) (fun c_4 => ?_) (fun c_4 => ?_)
      ·
        have ic_4 : L3_2.toInt < 0 := by first | exact (g_lt rfl t_0).mp c_4 | (have h := mt (g_le t_0 rfl).mpr c_4; omega)
        clear c_4
        refine lv_iload_n hx hb dX9_ageOf_27 rfl (lv_at hl 0 rfl) ?_
        refine lv_if_ge (tgt := 35) hx hb dX9_ageOf_28 (by decide) (fun c_5 => absurd c_5 (by rw [g_le t_0 rfl]; omega)) (fun c_5 => ?_)
        refine lv_iload_n hx hb dX9_ageOf_31 rfl (lv_at hl 3 rfl) ?_
        refine lv_goto (tgt := 38) hx hb dX9_ageOf_32 (by decide) ?_
        exact W.iret (v := p1) hx hb hr (fun t ht hW => ⟨p1, rfl, (by have h9 := v1_2; omega), ht⟩) (fun q h => by cases h) dX9_ageOf_38
      ·
        have ic_4 : 0 ≤ L3_2.toInt := by first | exact (g_le t_0 rfl).mp c_4 | (have h := mt (g_lt rfl t_0).mpr c_4; omega)
        clear c_4
        refine lv_aload_n hx hb dX9_ageOf_6 rfl (lv_at hl 1 rfl) ?_
        refine va_get (D := D) (ci := 9) (v := .ref (ma 8)) (C := RX9) (T := TX9) (N := 68) hx hb htb iX9 hown hK.1 hP 0 rfl rfl 8 (by decide) (htb _ k_966) (fun _ h9 => h9) rfl dX9_ageOf_7 ?_
        refine lv_sipush (v := 400) hx hb dX9_ageOf_10 (by decide) ?_
        refine lv_iload_n hx hb dX9_ageOf_13 rfl (lv_at hl 2 rfl) ?_
        refine lv_imul hx hb dX9_ageOf_14 ?_
        refine lv_topi (fun z_6 ez_6 => ?_)
        have jz_6 : z_6.toInt = 400 * p0.toInt := by rw [ez_6]; exact g_mul t_400 rfl (by omega) (by omega)
        refine lv_iload_n hx hb dX9_ageOf_15 rfl (lv_at hl 0 rfl) ?_
        refine lv_iadd hx hb dX9_ageOf_16 ?_
        refine lv_topi (fun z_7 ez_7 => ?_)
        have jz_7 : z_7.toInt = z_6.toInt + L3_2.toInt := by rw [ez_7]; exact g_add rfl rfl (by omega) (by omega)
        refine va_zald hx hb hK.1 hP 1 1 rfl rfl (g_in rfl (by omega) (by omega)) dX9_ageOf_17 ?_
        refine lv_topi (fun z_8 ez_8 => ?_)
        have kz_8 := congrArg Int32.toInt ez_8
        refine lv_if_ne (tgt := 27) hx hb dX9_ageOf_18 (by decide) (fun c_9 => ?_) (fun c_9 => ?_)
        ·
          have ic_9 : z_8.toInt ≠ 0 := mt (g_eq rfl t_0).mpr c_9
          clear c_9
          refine lv_iload_n hx hb dX9_ageOf_27 rfl (lv_at hl 0 rfl) ?_
          refine lv_if_ge (tgt := 35) hx hb dX9_ageOf_28 (by decide) (fun c_10 => ?_) (fun c_10 => absurd (by rw [g_le t_0 rfl]; omega) c_10)
          refine lv_iload_n hx hb dX9_ageOf_35 rfl (lv_at hl 3 rfl) ?_
          refine lv_iload_n hx hb dX9_ageOf_36 rfl (lv_at hl 0 rfl) ?_
          refine lv_isub hx hb dX9_ageOf_37 ?_
          refine lv_topi (fun z_11 ez_11 => ?_)
          have jz_11 : z_11.toInt = p1.toInt - L3_2.toInt := by rw [ez_11]; exact g_sub rfl rfl (by omega) (by omega)
          exact W.iret (v := z_11) hx hb hr (fun t ht hW => ⟨z_11, rfl, (by have h8 := agm_here (f := mf8) (b := (400 * p0.toInt).toNat) (n := L3_2.toInt.toNat) (by have c1 := i_clamp0 (x := z_7) (by omega); rw [show (400 * p0.toInt).toNat + L3_2.toInt.toNat = (z_7).toNatClampNeg by omega, ← ez_8]; omega); have h9 := v1_2; omega), ht⟩) (fun q h => by cases h) dX9_ageOf_38
        ·
          have ic_9 : z_8.toInt = 0 := (g_eq rfl t_0).mp c_9
          clear c_9
          obtain ⟨z_12, ez_12⟩ : ∃ y : Int32, y = L3_2 + (-1) := ⟨_, rfl⟩
          have jz_12 : z_12.toInt = L3_2.toInt + -1 := by rw [ez_12]; exact g_add rfl t_m1 (by omega) (by omega)
          refine lv_iinc (v := z_12) (lv' := [(3, .int z_12), (0, .ref mh), (1, .int p0), (2, .int p1)]) hx hb dX9_ageOf_21 hl (k := 0) rfl (by rw [ez_12]; rfl) (by decide) rfl (fun ls hl => ?_)
          refine lv_goto (tgt := 2) hx hb dX9_ageOf_24 (by decide) ?_
          exact ih_2 z_12 _ (by (try dsimp only); omega) (by (try dsimp only); omega) (agm_back v1_2 (by omega) (by omega) (by have c1 := i_clamp0 (x := z_7) (by omega); rw [show (400 * p0.toInt).toNat + L3_2.toInt.toNat = (z_7).toNatClampNeg by omega, ← ez_8]; omega) (by omega)) (lv_sub hl [0, 1, 2, 3] rfl)
  exact loop_1 401 p1 _ (by (try dsimp only); omega) (by (try dsimp only); omega) (Or.inl ⟨by omega, by omega⟩)  (lv_sub hl [0, 1, 2, 3] rfl)
set_option maxHeartbeats 4000000 in
set_option maxRecDepth 100000 in
theorem g_X9_age (l : Launch) (D : va_G) (E : Nat → Nat) (mh : Nat) (ma : Nat → Nat) (mcode : Int32) (mtoday : Int32) (moffs : Int32) (mmany : Int64) (msumW : Int64) (msumA : Int64) (msumR : Int64) (msumWW : Int64) (msumWA : Int64) (msumAA : Int64) (msumWR : Int64) (msumAR : Int64) (mupper : Int64) (mlower : Int64) (mrates : Int32) (mtaped : Int32) (mlaid : Int32) (mat : Int32) (mtk : Int32) (mtkAt : Int32) (mtkNumber : Int32) (mwaits : Int32) (mlisted : Int32) (mdealtMany : Int32) (mf3 : Nat → Int32) (mf8 : Nat → Int32) (p0 : Int32) (p1 : Int32) (hi_m : (0 ≤ mtoday.toInt ∧ mtoday.toInt ≤ 399) ∧ (0 ≤ moffs.toInt ∧ moffs.toInt ≤ 60) ∧ (0 ≤ mrates.toInt ∧ mrates.toInt ≤ 60) ∧ (0 ≤ mtaped.toInt ∧ mtaped.toInt ≤ 120) ∧ (0 ≤ mlisted.toInt ∧ mlisted.toInt ≤ 9) ∧ (0 ≤ mdealtMany.toInt ∧ mdealtMany.toInt ≤ 9)) : Met l yX9_age (wl yX9_age cX9_age 4 (some .int)) (RM 3 0 0) (rd_P D E [.ref mh, .int p0, .int p1] [(mh, .inr (9, G9 ma mcode mtoday moffs mmany msumW msumA msumR msumWW msumWA msumAA msumWR msumAR mupper mlower mrates mtaped mlaid mat mtk mtkAt mtkNumber mwaits mlisted mdealtMany)), ((ma 3), .inl (E 0, 16, .inl mf3)), ((ma 8), .inl (E 1, 6400, .inl mf8))]) (rd_Q (fun r => ((r.toInt = -1 ∧ ¬ ((0 ≤ p0.toInt ∧ p0.toInt ≤ 15) ∧ (0 ≤ p1.toInt ∧ p1.toInt ≤ 399))) ∨ (((0 ≤ p0.toInt ∧ p0.toInt ≤ 15) ∧ (0 ≤ p1.toInt ∧ p1.toInt ≤ 399)) ∧ (((mf3 (p0).toNatClampNeg).toInt = -5 ∧ r.toInt = -2) ∨ ((mf3 (p0).toNatClampNeg).toInt = 2 ∧ r.toInt = -3))) ∨ (((0 ≤ p0.toInt ∧ p0.toInt ≤ 15) ∧ (0 ≤ p1.toInt ∧ p1.toInt ≤ 399)) ∧ ((mf3 (p0).toNatClampNeg).toInt ≠ -5 ∧ (mf3 (p0).toNatClampNeg).toInt ≠ 2) ∧ r.toInt = agM mf8 (400 * p0.toInt).toNat (p1.toInt).toNat)))) 0 0 (fun _ => False) := by
  refine Met.ofW (cc := cX9_age) (maxL := 4) (ret := (some .int)) (by decide) rfl ?_
  intro p e s m args below meth c s₁ B hml hv
  obtain ⟨rfl, hP, hK⟩ := hv
  have hx := B.exec; have hb := B.bytes; have hr := B.returns
  have hts := atoms_spec (ws := wl yX9_age cX9_age 4 (some .int)) B.pre
  have htb : ∀ w ∈ tb, w.before _ s = true := fun w h => hts w (List.mem_cons_of_mem _ h)
  have hown : s.vm.findClass RX9 = some m.cls := findClass_of_methodNamed B.named
  have hlocks := B.notSynchronized
  have hP : va_P D vwCl [(mh, .inr (9, G9 ma mcode mtoday moffs mmany msumW msumA msumR msumWW msumWA msumAA msumWR msumAR mupper mlower mrates mtaped mlaid mat mtk mtkAt mtkNumber mwaits mlisted mdealtMany)), ((ma 3), .inl (E 0, 16, .inl mf3)), ((ma 8), .inl (E 1, 6400, .inl mf8))] s.heap := hP
  have hl := lv_entry ([.ref mh, .int p0, .int p1]) (n := 4) (Nat.le_of_ble_eq_true rfl)
  rw [lg_entry_eq]
  generalize (lg_sl ([.ref mh, .int p0, .int p1]) ++ List.replicate (4 - (lg_sl ([.ref mh, .int p0, .int p1])).length) Slot.unset).toArray = ls at hl ⊢
  have hl : lv_has ls 4 [(0, .ref mh), (1, .int p0), (2, .int p1)] := hl
  have lo_p0 := i_lo p0; have hi_p0 := i_hi p0
  have lo_p1 := i_lo p1; have hi_p1 := i_hi p1
  refine lv_iload_n hx hb dX9_age_0 rfl (lv_at hl 1 rfl) ?_
  refine callRS (rest := []) (As := [.int p0]) hx hb hml hown htb hK (g_X9_isPlace l D E p0 ) ok_X9_isPlace k_1182 k_1183 k_9 k_1184 ⟨(Nat.le_of_ble_eq_true rfl), (Nat.le_of_ble_eq_true rfl)⟩ ⟨(Nat.le_of_ble_eq_true rfl), (Nat.le_of_ble_eq_true rfl)⟩ hl.1 (Nat.le_of_ble_eq_true rfl) rfl rfl dX9_age_1 (hP.sub (ws' := ([] : va_W)) [] rfl) (fun r_1 hw_2 => ?_)
  rcases hw_2 with ⟨hr_1, hw_2⟩ | ⟨hr_1, hw_2⟩
  ·
    refine W_top (y := .int 1) (by rw [hr_1]) ?_
    refine lv_if_eq (tgt := 14) hx hb dX9_age_4 (by decide) (fun c_4 => absurd c_4 (by decide)) (fun c_4 => ?_)
    refine lv_iload_n hx hb dX9_age_7 rfl (lv_at hl 2 rfl) ?_
    refine callRS (rest := []) (As := [.int p1]) hx hb hml hown htb hK (g_X9_isDay l D E p1 ) ok_X9_isDay k_1175 k_1176 k_9 k_1177 ⟨(Nat.le_of_ble_eq_true rfl), (Nat.le_of_ble_eq_true rfl)⟩ ⟨(Nat.le_of_ble_eq_true rfl), (Nat.le_of_ble_eq_true rfl)⟩ hl.1 (Nat.le_of_ble_eq_true rfl) rfl rfl dX9_age_8 (hP.sub (ws' := ([] : va_W)) [] rfl) (fun r_5 hw_6 => ?_)
    rcases hw_6 with ⟨hr_5, hw_6⟩ | ⟨hr_5, hw_6⟩
    ·
      refine W_top (y := .int 1) (by rw [hr_5]) ?_
      refine lv_if_ne (tgt := 16) hx hb dX9_age_11 (by decide) (fun c_8 => ?_) (fun c_8 => absurd c_8 (by decide))
      refine lv_aload_n hx hb dX9_age_16 rfl (lv_at hl 0 rfl) ?_
      refine lv_iload_n hx hb dX9_age_17 rfl (lv_at hl 1 rfl) ?_
      refine callRV (rest := []) (As := [.int p0]) hx hb hml hown htb hK (g_X9_watchAt l D E mh ma mcode mtoday moffs mmany msumW msumA msumR msumWW msumWA msumAA msumWR msumAR mupper mlower mrates mtaped mlaid mat mtk mtkAt mtkNumber mwaits mlisted mdealtMany mf3 p0 (by (try dsimp only); omega)) ok_X9_watchAt k_1212 k_1214 ks_41 k_9 k_1215 ⟨(Nat.le_of_ble_eq_true rfl), (Nat.le_of_ble_eq_true rfl)⟩ ⟨(Nat.le_of_ble_eq_true rfl), (Nat.le_of_ble_eq_true rfl)⟩ hl.1 (Nat.le_of_ble_eq_true rfl) rfl rfl dX9_age_18 (hP.sub (ws' := [(mh, .inr (9, G9 ma mcode mtoday moffs mmany msumW msumA msumR msumWW msumWA msumAA msumWR msumAR mupper mlower mrates mtaped mlaid mat mtk mtkAt mtkNumber mwaits mlisted mdealtMany)), ((ma 3), .inl (E 0, 16, .inl mf3))]) [0, 1] rfl) rfl rfl 0 rfl (fun r_9 hw_10 => ?_)
      refine lv_istore_n (lv' := [(3, .int r_9), (0, .ref mh), (1, .int p0), (2, .int p1)]) hx hb dX9_age_21 rfl hl (by decide) rfl (fun ls hl => ?_)
      refine lv_iload_n hx hb dX9_age_22 rfl (lv_at hl 0 rfl) ?_
      refine lv_if_ge (tgt := 30) hx hb dX9_age_23 (by decide) (fun c_12 => ?_) (fun c_12 => ?_)
      ·
        have ic_12 : 0 ≤ r_9.toInt := by first | exact (g_le t_0 rfl).mp c_12 | (have h := mt (g_lt rfl t_0).mpr c_12; omega)
        clear c_12
        refine lv_aload_n hx hb dX9_age_30 rfl (lv_at hl 1 rfl) ?_
        refine lv_iload_n hx hb dX9_age_31 rfl (lv_at hl 2 rfl) ?_
        refine lv_iload_n hx hb dX9_age_32 rfl (lv_at hl 3 rfl) ?_
        refine callRV (rest := []) (As := [.int p0, .int p1]) hx hb hml hown htb hK (g_X9_ageOf l D E mh ma mcode mtoday moffs mmany msumW msumA msumR msumWW msumWA msumAA msumWR msumAR mupper mlower mrates mtaped mlaid mat mtk mtkAt mtkNumber mwaits mlisted mdealtMany mf8 p0 p1 (by (try dsimp only); omega) (by (try dsimp only); omega) (by (try dsimp only); omega)) ok_X9_ageOf k_1250 k_1252 ks_44 k_9 k_1253 ⟨(Nat.le_of_ble_eq_true rfl), (Nat.le_of_ble_eq_true rfl)⟩ ⟨(Nat.le_of_ble_eq_true rfl), (Nat.le_of_ble_eq_true rfl)⟩ hl.1 (Nat.le_of_ble_eq_true rfl) rfl rfl dX9_age_33 (hP.sub (ws' := [(mh, .inr (9, G9 ma mcode mtoday moffs mmany msumW msumA msumR msumWW msumWA msumAA msumWR msumAR mupper mlower mrates mtaped mlaid mat mtk mtkAt mtkNumber mwaits mlisted mdealtMany)), ((ma 8), .inl (E 1, 6400, .inl mf8))]) [0, 2] rfl) rfl rfl 0 rfl (fun r_13 hw_14 => ?_)
        exact W.iret (v := r_13) hx hb hr (fun t ht hW => ⟨r_13, rfl, (by (try dsimp only); first | exact Or.inl ⟨by omega, by omega⟩ | exact Or.inr (Or.inl ⟨by omega, by omega⟩) | exact Or.inr (Or.inr ⟨by omega, by omega, by assumption⟩)), ht⟩) (fun q h => by cases h) dX9_age_36
      ·
        have ic_12 : r_9.toInt < 0 := by first | exact (g_lt rfl t_0).mp c_12 | (have h := mt (g_le t_0 rfl).mpr c_12; omega)
        clear c_12
        refine lv_iload_n hx hb dX9_age_26 rfl (lv_at hl 0 rfl) ?_
        refine lv_goto (tgt := 36) hx hb dX9_age_27 (by decide) ?_
        exact W.iret (v := r_9) hx hb hr (fun t ht hW => ⟨r_9, rfl, (by (try dsimp only); first | exact Or.inl ⟨by omega, by omega⟩ | exact Or.inr (Or.inl ⟨by omega, by omega⟩) | exact Or.inr (Or.inr ⟨by omega, by omega, by assumption⟩)), ht⟩) (fun q h => by cases h) dX9_age_36
    ·
      refine W_top (y := .int 0) (by rw [hr_5]) ?_
      refine lv_if_ne (tgt := 16) hx hb dX9_age_11 (by decide) (fun c_16 => absurd (by decide) c_16) (fun c_16 => ?_)
      refine lv_iconst (v := (-1)) hx hb dX9_age_14 (by decide) ?_
      exact W.iret (v := (-1)) hx hb hr (fun t ht hW => ⟨(-1), rfl, (by have hl0 := t_m1; (try dsimp only); first | exact Or.inl ⟨by omega, by omega⟩ | exact Or.inr (Or.inl ⟨by omega, by omega⟩) | exact Or.inr (Or.inr ⟨by omega, by omega, by assumption⟩)), ht⟩) (fun q h => by cases h) dX9_age_15
  ·
    refine W_top (y := .int 0) (by rw [hr_1]) ?_
    refine lv_if_eq (tgt := 14) hx hb dX9_age_4 (by decide) (fun c_17 => ?_) (fun c_17 => absurd (by decide) c_17)
    refine lv_iconst (v := (-1)) hx hb dX9_age_14 (by decide) ?_
    exact W.iret (v := (-1)) hx hb hr (fun t ht hW => ⟨(-1), rfl, (by have hl0 := t_m1; (try dsimp only); first | exact Or.inl ⟨by omega, by omega⟩ | exact Or.inr (Or.inl ⟨by omega, by omega⟩) | exact Or.inr (Or.inr ⟨by omega, by omega, by assumption⟩)), ht⟩) (fun q h => by cases h) dX9_age_15
set_option maxHeartbeats 4000000 in
set_option maxRecDepth 100000 in
theorem g_X9_off (l : Launch) (D : va_G) (E : Nat → Nat) (mh : Nat) (ma : Nat → Nat) (mcode : Int32) (mtoday : Int32) (moffs : Int32) (mmany : Int64) (msumW : Int64) (msumA : Int64) (msumR : Int64) (msumWW : Int64) (msumWA : Int64) (msumAA : Int64) (msumWR : Int64) (msumAR : Int64) (mupper : Int64) (mlower : Int64) (mrates : Int32) (mtaped : Int32) (mlaid : Int32) (mat : Int32) (mtk : Int32) (mtkAt : Int32) (mtkNumber : Int32) (mwaits : Int32) (mlisted : Int32) (mdealtMany : Int32) (mf12 : Nat → Int32) (mf13 : Nat → Int32) (mf14 : Nat → Int32) (mf15 : Nat → Int32) (mf16 : Nat → Int32) (p0 : Int32) (p1 : Int32) (p2 : Int32) (p3 : Int32) (sz : Nat) (hi_m : (0 ≤ mtoday.toInt ∧ mtoday.toInt ≤ 399) ∧ (0 ≤ moffs.toInt ∧ moffs.toInt ≤ 60) ∧ (0 ≤ mrates.toInt ∧ mrates.toInt ≤ 60) ∧ (0 ≤ mtaped.toInt ∧ mtaped.toInt ≤ 120) ∧ (0 ≤ mlisted.toInt ∧ mlisted.toInt ≤ 9) ∧ (0 ≤ mdealtMany.toInt ∧ mdealtMany.toInt ≤ 9)) : Met l yX9_off (wl yX9_off cX9_off 5 (some .int)) (RM 2 0 0) (mu_P D E [.ref mh, .int p0, .int p1, .int p2, .int p3] [(mh, .inr (9, G9 ma mcode mtoday moffs mmany msumW msumA msumR msumWW msumWA msumAA msumWR msumAR mupper mlower mrates mtaped mlaid mat mtk mtkAt mtkNumber mwaits mlisted mdealtMany)), ((ma 12), .inl (E 0, 60, .inl mf12)), ((ma 13), .inl (E 0, 60, .inl mf13)), ((ma 14), .inl (E 0, 60, .inl mf14)), ((ma 15), .inl (E 0, 60, .inl mf15)), ((ma 16), .inl (E 0, 60, .inl mf16))] sz) (va_Qi (fun (r : Int32) (u : (Nat → Int32) × (Nat → Int32) × (Nat → Int32) × (Nat → Int32) × (Nat → Int32) × (Int32)) => (0 ≤ u.2.2.2.2.2.toInt ∧ u.2.2.2.2.2.toInt ≤ 60) ∧ ((¬ ((1 ≤ p0.toInt ∧ p0.toInt ≤ 5) ∧ (0 ≤ p1.toInt ∧ p1.toInt ≤ 399) ∧ (0 ≤ p2.toInt ∧ p2.toInt ≤ 399) ∧ p1.toInt ≤ p2.toInt ∧ (-10000 ≤ p3.toInt ∧ p3.toInt ≤ 10000)) ∧ r.toInt = -1 ∧ u.2.2.2.2.2.toInt = moffs.toInt ∧ u.1 = mf12 ∧ u.2.1 = mf13 ∧ u.2.2.1 = mf14 ∧ u.2.2.2.1 = mf15 ∧ u.2.2.2.2.1 = mf16) ∨ (((1 ≤ p0.toInt ∧ p0.toInt ≤ 5) ∧ (0 ≤ p1.toInt ∧ p1.toInt ≤ 399) ∧ (0 ≤ p2.toInt ∧ p2.toInt ≤ 399) ∧ p1.toInt ≤ p2.toInt ∧ (-10000 ≤ p3.toInt ∧ p3.toInt ≤ 10000)) ∧ moffs.toInt = 60 ∧ r.toInt = -5 ∧ u.2.2.2.2.2.toInt = moffs.toInt ∧ u.1 = mf12 ∧ u.2.1 = mf13 ∧ u.2.2.1 = mf14 ∧ u.2.2.2.1 = mf15 ∧ u.2.2.2.2.1 = mf16) ∨ (((1 ≤ p0.toInt ∧ p0.toInt ≤ 5) ∧ (0 ≤ p1.toInt ∧ p1.toInt ≤ 399) ∧ (0 ≤ p2.toInt ∧ p2.toInt ≤ 399) ∧ p1.toInt ≤ p2.toInt ∧ (-10000 ≤ p3.toInt ∧ p3.toInt ≤ 10000)) ∧ moffs.toInt < 60 ∧ r.toInt = moffs.toInt + 1 ∧ u.2.2.2.2.2.toInt = r.toInt ∧ u.1 = upd mf12 (moffs).toNatClampNeg p0 ∧ u.2.1 = upd mf13 (moffs).toNatClampNeg p1 ∧ u.2.2.1 = upd mf14 (moffs).toNatClampNeg p2 ∧ u.2.2.2.1 = upd mf15 (moffs).toNatClampNeg p3 ∧ u.2.2.2.2.1 = upd mf16 (moffs).toNatClampNeg mtoday))) (mu_B D (va_A [(mh, .inr (9, G9 ma mcode mtoday moffs mmany msumW msumA msumR msumWW msumWA msumAA msumWR msumAR mupper mlower mrates mtaped mlaid mat mtk mtkAt mtkNumber mwaits mlisted mdealtMany)), ((ma 12), .inl (E 0, 60, .inl mf12)), ((ma 13), .inl (E 0, 60, .inl mf13)), ((ma 14), .inl (E 0, 60, .inl mf14)), ((ma 15), .inl (E 0, 60, .inl mf15)), ((ma 16), .inl (E 0, 60, .inl mf16))] sz) (fun (u : (Nat → Int32) × (Nat → Int32) × (Nat → Int32) × (Nat → Int32) × (Nat → Int32) × (Int32)) => [(mh, .inr (9, G9 ma mcode mtoday u.2.2.2.2.2 mmany msumW msumA msumR msumWW msumWA msumAA msumWR msumAR mupper mlower mrates mtaped mlaid mat mtk mtkAt mtkNumber mwaits mlisted mdealtMany)), ((ma 12), .inl (E 0, 60, .inl u.1)), ((ma 13), .inl (E 0, 60, .inl u.2.1)), ((ma 14), .inl (E 0, 60, .inl u.2.2.1)), ((ma 15), .inl (E 0, 60, .inl u.2.2.2.1)), ((ma 16), .inl (E 0, 60, .inl u.2.2.2.2.1))])) (va_A [(mh, .inr (9, G9 ma mcode mtoday moffs mmany msumW msumA msumR msumWW msumWA msumAA msumWR msumAR mupper mlower mrates mtaped mlaid mat mtk mtkAt mtkNumber mwaits mlisted mdealtMany)), ((ma 12), .inl (E 0, 60, .inl mf12)), ((ma 13), .inl (E 0, 60, .inl mf13)), ((ma 14), .inl (E 0, 60, .inl mf14)), ((ma 15), .inl (E 0, 60, .inl mf15)), ((ma 16), .inl (E 0, 60, .inl mf16))] sz)) 0 0 (va_A [(mh, .inr (9, G9 ma mcode mtoday moffs mmany msumW msumA msumR msumWW msumWA msumAA msumWR msumAR mupper mlower mrates mtaped mlaid mat mtk mtkAt mtkNumber mwaits mlisted mdealtMany)), ((ma 12), .inl (E 0, 60, .inl mf12)), ((ma 13), .inl (E 0, 60, .inl mf13)), ((ma 14), .inl (E 0, 60, .inl mf14)), ((ma 15), .inl (E 0, 60, .inl mf15)), ((ma 16), .inl (E 0, 60, .inl mf16))] sz) := by
  refine Met.ofW (cc := cX9_off) (maxL := 5) (ret := (some .int)) (by decide) rfl ?_
  intro p e s m args below meth c s₁ B hml hv
  obtain ⟨rfl, hsz, hP, hK, hD0⟩ := hv
  have hx := B.exec; have hb := B.bytes; have hr := B.returns
  have hts := atoms_spec (ws := wl yX9_off cX9_off 5 (some .int)) B.pre
  have htb : ∀ w ∈ tb, w.before _ s = true := fun w h => hts w (List.mem_cons_of_mem _ h)
  have hown : s.vm.findClass RX9 = some m.cls := findClass_of_methodNamed B.named
  have hlocks := B.notSynchronized
  subst hsz
  have hD := hD0.self (sz := s.heap.size)
  generalize hAe : va_A [(mh, .inr (9, G9 ma mcode mtoday moffs mmany msumW msumA msumR msumWW msumWA msumAA msumWR msumAR mupper mlower mrates mtaped mlaid mat mtk mtkAt mtkNumber mwaits mlisted mdealtMany)), ((ma 12), .inl (E 0, 60, .inl mf12)), ((ma 13), .inl (E 0, 60, .inl mf13)), ((ma 14), .inl (E 0, 60, .inl mf14)), ((ma 15), .inl (E 0, 60, .inl mf15)), ((ma 16), .inl (E 0, 60, .inl mf16))] s.heap.size = A at hD ⊢
  have hA : ∀ q : Nat, s.heap.size ≤ q → A q := fun q h => by rw [← hAe]; exact Or.inr h
  have hS : va_S A s.heap s.heap [] := va_S.rf
  have hP : va_P D vwCl [(mh, .inr (9, G9 ma mcode mtoday moffs mmany msumW msumA msumR msumWW msumWA msumAA msumWR msumAR mupper mlower mrates mtaped mlaid mat mtk mtkAt mtkNumber mwaits mlisted mdealtMany)), ((ma 12), .inl (E 0, 60, .inl mf12)), ((ma 13), .inl (E 0, 60, .inl mf13)), ((ma 14), .inl (E 0, 60, .inl mf14)), ((ma 15), .inl (E 0, 60, .inl mf15)), ((ma 16), .inl (E 0, 60, .inl mf16))] s.heap := hP
  have hl := lv_entry ([.ref mh, .int p0, .int p1, .int p2, .int p3]) (n := 5) (Nat.le_of_ble_eq_true rfl)
  rw [lg_entry_eq]
  generalize (lg_sl ([.ref mh, .int p0, .int p1, .int p2, .int p3]) ++ List.replicate (5 - (lg_sl ([.ref mh, .int p0, .int p1, .int p2, .int p3])).length) Slot.unset).toArray = ls at hl ⊢
  have hl : lv_has ls 5 [(0, .ref mh), (1, .int p0), (2, .int p1), (3, .int p2), (4, .int p3)] := hl
  have lo_p0 := i_lo p0; have hi_p0 := i_hi p0
  have lo_p1 := i_lo p1; have hi_p1 := i_hi p1
  have lo_p2 := i_lo p2; have hi_p2 := i_hi p2
  have lo_p3 := i_lo p3; have hi_p3 := i_hi p3
  refine lv_iload_n hx hb dX9_off_0 rfl (lv_at hl 1 rfl) ?_
  refine lv_iconst (v := 1) hx hb dX9_off_1 (by decide) ?_
  refine lv_iconst (v := 5) hx hb dX9_off_2 (by decide) ?_
  refine callRS (rest := []) (As := [.int p0, .int 1, .int 5]) hx hb hml hown htb hK (g_X9_in l D E p0 1 5 ) ok_X9_in k_1168 k_1169 k_9 k_1170 ⟨(Nat.le_of_ble_eq_true rfl), (Nat.le_of_ble_eq_true rfl)⟩ ⟨(Nat.le_of_ble_eq_true rfl), (Nat.le_of_ble_eq_true rfl)⟩ hl.1 (Nat.le_of_ble_eq_true rfl) rfl rfl dX9_off_3 (hP.sub (ws' := ([] : va_W)) [] rfl) (fun r_1 hw_2 => ?_)
  try simp only [t_1, t_5] at hw_2
  rcases hw_2 with ⟨hr_1, hw_2⟩ | ⟨hr_1, hw_2⟩
  ·
    try simp only [t_1, t_5] at hw_2
    refine W_top (y := .int 1) (by rw [hr_1]) ?_
    refine lv_if_eq (tgt := 42) hx hb dX9_off_6 (by decide) (fun c_4 => absurd c_4 (by decide)) (fun c_4 => ?_)
    refine lv_iload_n hx hb dX9_off_9 rfl (lv_at hl 2 rfl) ?_
    refine callRS (rest := []) (As := [.int p1]) hx hb hml hown htb hK (g_X9_isDay l D E p1 ) ok_X9_isDay k_1175 k_1176 k_9 k_1177 ⟨(Nat.le_of_ble_eq_true rfl), (Nat.le_of_ble_eq_true rfl)⟩ ⟨(Nat.le_of_ble_eq_true rfl), (Nat.le_of_ble_eq_true rfl)⟩ hl.1 (Nat.le_of_ble_eq_true rfl) rfl rfl dX9_off_10 (hP.sub (ws' := ([] : va_W)) [] rfl) (fun r_5 hw_6 => ?_)
    rcases hw_6 with ⟨hr_5, hw_6⟩ | ⟨hr_5, hw_6⟩
    ·
      refine W_top (y := .int 1) (by rw [hr_5]) ?_
      refine lv_if_eq (tgt := 42) hx hb dX9_off_13 (by decide) (fun c_8 => absurd c_8 (by decide)) (fun c_8 => ?_)
      refine lv_iload_n hx hb dX9_off_16 rfl (lv_at hl 3 rfl) ?_
      refine callRS (rest := []) (As := [.int p2]) hx hb hml hown htb hK (g_X9_isDay l D E p2 ) ok_X9_isDay k_1175 k_1176 k_9 k_1177 ⟨(Nat.le_of_ble_eq_true rfl), (Nat.le_of_ble_eq_true rfl)⟩ ⟨(Nat.le_of_ble_eq_true rfl), (Nat.le_of_ble_eq_true rfl)⟩ hl.1 (Nat.le_of_ble_eq_true rfl) rfl rfl dX9_off_17 (hP.sub (ws' := ([] : va_W)) [] rfl) (fun r_9 hw_10 => ?_)
      rcases hw_10 with ⟨hr_9, hw_10⟩ | ⟨hr_9, hw_10⟩
      ·
        refine W_top (y := .int 1) (by rw [hr_9]) ?_
        refine lv_if_eq (tgt := 42) hx hb dX9_off_20 (by decide) (fun c_12 => absurd c_12 (by decide)) (fun c_12 => ?_)
        refine lv_iload_n hx hb dX9_off_23 rfl (lv_at hl 2 rfl) ?_
        refine lv_iload_n hx hb dX9_off_24 rfl (lv_at hl 3 rfl) ?_
        refine lv_icmp_gt (tgt := 42) hx hb dX9_off_25 (by decide) (fun c_13 => ?_) (fun c_13 => ?_)
        ·
          have ic_13 : p2.toInt < p1.toInt := by first | exact (g_lt rfl rfl).mp c_13 | (have h := mt (g_le rfl rfl).mpr c_13; omega)
          clear c_13
          refine lv_iconst (v := (-1)) hx hb dX9_off_42 (by decide) ?_
          have hP9 := hP.sub (ws' := [(mh, .inr (9, G9 ma mcode mtoday moffs mmany msumW msumA msumR msumWW msumWA msumAA msumWR msumAR mupper mlower mrates mtaped mlaid mat mtk mtkAt mtkNumber mwaits mlisted mdealtMany)), ((ma 12), .inl (E 0, 60, .inl mf12)), ((ma 13), .inl (E 0, 60, .inl mf13)), ((ma 14), .inl (E 0, 60, .inl mf14)), ((ma 15), .inl (E 0, 60, .inl mf15)), ((ma 16), .inl (E 0, 60, .inl mf16))]) [0, 1, 2, 3, 4, 5] rfl
          have hD9 := hD.sub (ws' := [(mh, .inr (9, G9 ma mcode mtoday moffs mmany msumW msumA msumR msumWW msumWA msumAA msumWR msumAR mupper mlower mrates mtaped mlaid mat mtk mtkAt mtkNumber mwaits mlisted mdealtMany)), ((ma 12), .inl (E 0, 60, .inl mf12)), ((ma 13), .inl (E 0, 60, .inl mf13)), ((ma 14), .inl (E 0, 60, .inl mf14)), ((ma 15), .inl (E 0, 60, .inl mf15)), ((ma 16), .inl (E 0, 60, .inl mf16))]) [0, 1, 2, 3, 4, 5] (by decide) rfl
          exact W.iret (v := (-1)) hx hb hr (fun t ht hW => ⟨⟨(-1), (mf12, mf13, mf14, mf15, mf16, moffs), rfl, ⟨(by (try dsimp only); omega), (by have hl0 := t_m1; (try dsimp only); first | exact Or.inl ⟨by omega, by omega, by omega, rfl, rfl, rfl, rfl, rfl⟩ | exact Or.inr (Or.inl ⟨by omega, by omega, by omega, by omega, rfl, rfl, rfl, rfl, rfl⟩) | exact Or.inr (Or.inr ⟨by omega, by omega, by omega, by omega, rfl, rfl, rfl, rfl, rfl⟩))⟩, by rw [ht]; exact hP9, hD9⟩, hS.F ht⟩) hS.2.2 dX9_off_43
        ·
          have ic_13 : p1.toInt ≤ p2.toInt := by first | exact (g_le rfl rfl).mp c_13 | (have h := mt (g_lt rfl rfl).mpr c_13; omega)
          clear c_13
          refine lv_iload hx hb dX9_off_28 (lv_at hl 4 rfl) ?_
          refine lv_sipush (v := (-10000)) hx hb dX9_off_30 (by decide) ?_
          refine lv_sipush (v := 10000) hx hb dX9_off_33 (by decide) ?_
          refine callRS (rest := []) (As := [.int p3, .int (-10000), .int 10000]) hx hb hml hown htb hK (g_X9_in l D E p3 (-10000) 10000 ) ok_X9_in k_1168 k_1169 k_9 k_1170 ⟨(Nat.le_of_ble_eq_true rfl), (Nat.le_of_ble_eq_true rfl)⟩ ⟨(Nat.le_of_ble_eq_true rfl), (Nat.le_of_ble_eq_true rfl)⟩ hl.1 (Nat.le_of_ble_eq_true rfl) rfl rfl dX9_off_36 (hP.sub (ws' := ([] : va_W)) [] rfl) (fun r_14 hw_15 => ?_)
          try simp only [t_m10000, t_10000] at hw_15
          rcases hw_15 with ⟨hr_14, hw_15⟩ | ⟨hr_14, hw_15⟩
          ·
            try simp only [t_m10000, t_10000] at hw_15
            refine W_top (y := .int 1) (by rw [hr_14]) ?_
            refine lv_if_ne (tgt := 44) hx hb dX9_off_39 (by decide) (fun c_17 => ?_) (fun c_17 => absurd c_17 (by decide))
            refine lv_aload_n hx hb dX9_off_44 rfl (lv_at hl 0 rfl) ?_
            refine va_get (D := D) (ci := 9) (v := .int moffs) (C := RX9) (T := TX9) (N := 68) hx hb htb iX9 hown hK.1 hP 0 rfl rfl 11 (by decide) (htb _ k_969) (fun _ h9 => h9) rfl dX9_off_45 ?_
            refine lv_bipush (v := 60) hx hb dX9_off_48 (by decide) ?_
            refine lv_icmp_ne (tgt := 56) hx hb dX9_off_50 (by decide) (fun c_18 => ?_) (fun c_18 => ?_)
            ·
              have ic_18 : moffs.toInt ≠ 60 := mt (g_eq rfl t_60).mpr c_18
              clear c_18
              refine lv_aload_n hx hb dX9_off_56 rfl (lv_at hl 0 rfl) ?_
              refine va_get (D := D) (ci := 9) (v := .ref (ma 12)) (C := RX9) (T := TX9) (N := 68) hx hb htb iX9 hown hK.1 hP 0 rfl rfl 12 (by decide) (htb _ k_970) (fun _ h9 => h9) rfl dX9_off_57 ?_
              refine lv_aload_n hx hb dX9_off_60 rfl (lv_at hl 0 rfl) ?_
              refine va_get (D := D) (ci := 9) (v := .int moffs) (C := RX9) (T := TX9) (N := 68) hx hb htb iX9 hown hK.1 hP 0 rfl rfl 11 (by decide) (htb _ k_969) (fun _ h9 => h9) rfl dX9_off_61 ?_
              refine lv_iload_n hx hb dX9_off_64 rfl (lv_at hl 1 rfl) ?_
              refine va_iast hx hb hK.1 hP hD hS 1 0 rfl rfl (g_in rfl (by omega) (by omega)) dX9_off_65 (fun H locs hP hD hS => ?_)
              have hP : va_P D vwCl [(mh, .inr (9, G9 ma mcode mtoday moffs mmany msumW msumA msumR msumWW msumWA msumAA msumWR msumAR mupper mlower mrates mtaped mlaid mat mtk mtkAt mtkNumber mwaits mlisted mdealtMany)), ((ma 12), .inl (E 0, 60, .inl (upd mf12 (moffs : Int32).toNatClampNeg p0))), ((ma 13), .inl (E 0, 60, .inl mf13)), ((ma 14), .inl (E 0, 60, .inl mf14)), ((ma 15), .inl (E 0, 60, .inl mf15)), ((ma 16), .inl (E 0, 60, .inl mf16))] H := hP
              have hD := toW hP hD rfl
              refine lv_aload_n hx hb dX9_off_66 rfl (lv_at hl 0 rfl) ?_
              refine va_get (D := D) (ci := 9) (v := .ref (ma 13)) (C := RX9) (T := TX9) (N := 68) hx hb htb iX9 hown hK.1 hP 0 rfl rfl 13 (by decide) (htb _ k_971) (fun _ h9 => h9) rfl dX9_off_67 ?_
              refine lv_aload_n hx hb dX9_off_70 rfl (lv_at hl 0 rfl) ?_
              refine va_get (D := D) (ci := 9) (v := .int moffs) (C := RX9) (T := TX9) (N := 68) hx hb htb iX9 hown hK.1 hP 0 rfl rfl 11 (by decide) (htb _ k_969) (fun _ h9 => h9) rfl dX9_off_71 ?_
              refine lv_iload_n hx hb dX9_off_74 rfl (lv_at hl 2 rfl) ?_
              refine va_iast hx hb hK.1 hP hD hS 2 0 rfl rfl (g_in rfl (by omega) (by omega)) dX9_off_75 (fun H locs hP hD hS => ?_)
              have hP : va_P D vwCl [(mh, .inr (9, G9 ma mcode mtoday moffs mmany msumW msumA msumR msumWW msumWA msumAA msumWR msumAR mupper mlower mrates mtaped mlaid mat mtk mtkAt mtkNumber mwaits mlisted mdealtMany)), ((ma 12), .inl (E 0, 60, .inl (upd mf12 (moffs : Int32).toNatClampNeg p0))), ((ma 13), .inl (E 0, 60, .inl (upd mf13 (moffs : Int32).toNatClampNeg p1))), ((ma 14), .inl (E 0, 60, .inl mf14)), ((ma 15), .inl (E 0, 60, .inl mf15)), ((ma 16), .inl (E 0, 60, .inl mf16))] H := hP
              have hD := toW hP hD rfl
              refine lv_aload_n hx hb dX9_off_76 rfl (lv_at hl 0 rfl) ?_
              refine va_get (D := D) (ci := 9) (v := .ref (ma 14)) (C := RX9) (T := TX9) (N := 68) hx hb htb iX9 hown hK.1 hP 0 rfl rfl 14 (by decide) (htb _ k_972) (fun _ h9 => h9) rfl dX9_off_77 ?_
              refine lv_aload_n hx hb dX9_off_80 rfl (lv_at hl 0 rfl) ?_
              refine va_get (D := D) (ci := 9) (v := .int moffs) (C := RX9) (T := TX9) (N := 68) hx hb htb iX9 hown hK.1 hP 0 rfl rfl 11 (by decide) (htb _ k_969) (fun _ h9 => h9) rfl dX9_off_81 ?_
              refine lv_iload_n hx hb dX9_off_84 rfl (lv_at hl 3 rfl) ?_
              refine va_iast hx hb hK.1 hP hD hS 3 0 rfl rfl (g_in rfl (by omega) (by omega)) dX9_off_85 (fun H locs hP hD hS => ?_)
              have hP : va_P D vwCl [(mh, .inr (9, G9 ma mcode mtoday moffs mmany msumW msumA msumR msumWW msumWA msumAA msumWR msumAR mupper mlower mrates mtaped mlaid mat mtk mtkAt mtkNumber mwaits mlisted mdealtMany)), ((ma 12), .inl (E 0, 60, .inl (upd mf12 (moffs : Int32).toNatClampNeg p0))), ((ma 13), .inl (E 0, 60, .inl (upd mf13 (moffs : Int32).toNatClampNeg p1))), ((ma 14), .inl (E 0, 60, .inl (upd mf14 (moffs : Int32).toNatClampNeg p2))), ((ma 15), .inl (E 0, 60, .inl mf15)), ((ma 16), .inl (E 0, 60, .inl mf16))] H := hP
              have hD := toW hP hD rfl
              refine lv_aload_n hx hb dX9_off_86 rfl (lv_at hl 0 rfl) ?_
              refine va_get (D := D) (ci := 9) (v := .ref (ma 15)) (C := RX9) (T := TX9) (N := 68) hx hb htb iX9 hown hK.1 hP 0 rfl rfl 15 (by decide) (htb _ k_973) (fun _ h9 => h9) rfl dX9_off_87 ?_
              refine lv_aload_n hx hb dX9_off_90 rfl (lv_at hl 0 rfl) ?_
              refine va_get (D := D) (ci := 9) (v := .int moffs) (C := RX9) (T := TX9) (N := 68) hx hb htb iX9 hown hK.1 hP 0 rfl rfl 11 (by decide) (htb _ k_969) (fun _ h9 => h9) rfl dX9_off_91 ?_
              refine lv_iload hx hb dX9_off_94 (lv_at hl 4 rfl) ?_
              refine va_iast hx hb hK.1 hP hD hS 4 0 rfl rfl (g_in rfl (by omega) (by omega)) dX9_off_96 (fun H locs hP hD hS => ?_)
              have hP : va_P D vwCl [(mh, .inr (9, G9 ma mcode mtoday moffs mmany msumW msumA msumR msumWW msumWA msumAA msumWR msumAR mupper mlower mrates mtaped mlaid mat mtk mtkAt mtkNumber mwaits mlisted mdealtMany)), ((ma 12), .inl (E 0, 60, .inl (upd mf12 (moffs : Int32).toNatClampNeg p0))), ((ma 13), .inl (E 0, 60, .inl (upd mf13 (moffs : Int32).toNatClampNeg p1))), ((ma 14), .inl (E 0, 60, .inl (upd mf14 (moffs : Int32).toNatClampNeg p2))), ((ma 15), .inl (E 0, 60, .inl (upd mf15 (moffs : Int32).toNatClampNeg p3))), ((ma 16), .inl (E 0, 60, .inl mf16))] H := hP
              have hD := toW hP hD rfl
              refine lv_aload_n hx hb dX9_off_97 rfl (lv_at hl 0 rfl) ?_
              refine va_get (D := D) (ci := 9) (v := .ref (ma 16)) (C := RX9) (T := TX9) (N := 68) hx hb htb iX9 hown hK.1 hP 0 rfl rfl 16 (by decide) (htb _ k_974) (fun _ h9 => h9) rfl dX9_off_98 ?_
              refine lv_aload_n hx hb dX9_off_101 rfl (lv_at hl 0 rfl) ?_
              refine va_get (D := D) (ci := 9) (v := .int moffs) (C := RX9) (T := TX9) (N := 68) hx hb htb iX9 hown hK.1 hP 0 rfl rfl 11 (by decide) (htb _ k_969) (fun _ h9 => h9) rfl dX9_off_102 ?_
              refine lv_aload_n hx hb dX9_off_105 rfl (lv_at hl 0 rfl) ?_
              refine va_get (D := D) (ci := 9) (v := .int mtoday) (C := RX9) (T := TX9) (N := 68) hx hb htb iX9 hown hK.1 hP 0 rfl rfl 1 (by decide) (htb _ k_959) (fun _ h9 => h9) rfl dX9_off_106 ?_
              refine va_iast hx hb hK.1 hP hD hS 5 0 rfl rfl (g_in rfl (by omega) (by omega)) dX9_off_109 (fun H locs hP hD hS => ?_)
              have hP : va_P D vwCl [(mh, .inr (9, G9 ma mcode mtoday moffs mmany msumW msumA msumR msumWW msumWA msumAA msumWR msumAR mupper mlower mrates mtaped mlaid mat mtk mtkAt mtkNumber mwaits mlisted mdealtMany)), ((ma 12), .inl (E 0, 60, .inl (upd mf12 (moffs : Int32).toNatClampNeg p0))), ((ma 13), .inl (E 0, 60, .inl (upd mf13 (moffs : Int32).toNatClampNeg p1))), ((ma 14), .inl (E 0, 60, .inl (upd mf14 (moffs : Int32).toNatClampNeg p2))), ((ma 15), .inl (E 0, 60, .inl (upd mf15 (moffs : Int32).toNatClampNeg p3))), ((ma 16), .inl (E 0, 60, .inl (upd mf16 (moffs : Int32).toNatClampNeg mtoday)))] H := hP
              have hD := toW hP hD rfl
              refine lv_aload_n hx hb dX9_off_110 rfl (lv_at hl 0 rfl) ?_
              refine lv_dup hx hb dX9_off_111 rfl ?_
              refine va_get (D := D) (ci := 9) (v := .int moffs) (C := RX9) (T := TX9) (N := 68) hx hb htb iX9 hown hK.1 hP 0 rfl rfl 11 (by decide) (htb _ k_969) (fun _ h9 => h9) rfl dX9_off_112 ?_
              refine lv_iconst (v := 1) hx hb dX9_off_115 (by decide) ?_
              refine lv_iadd hx hb dX9_off_116 ?_
              refine lv_topi (fun z_19 ez_19 => ?_)
              have jz_19 : z_19.toInt = moffs.toInt + 1 := by rw [ez_19]; exact g_add rfl t_1 (by omega) (by omega)
              refine va_put (D := D) (ci := 9) (v := .int z_19) (ty := .int) (C := RX9) (T := TX9) (N := 68) hx hb htb iX9 tyX9 tyX9_ok nmX9 hown hK.1 hP hD hS 0 rfl rfl 11 (by decide) (htb _ k_969) (fun _ h9 => h9) rfl (by decide +kernel) rfl rfl (Nat.le_of_ble_eq_true rfl) dX9_off_117 (fun H locs hP hD hS => ?_)
              have hP : va_P D vwCl [(mh, .inr (9, G9 ma mcode mtoday z_19 mmany msumW msumA msumR msumWW msumWA msumAA msumWR msumAR mupper mlower mrates mtaped mlaid mat mtk mtkAt mtkNumber mwaits mlisted mdealtMany)), ((ma 12), .inl (E 0, 60, .inl (upd mf12 (moffs : Int32).toNatClampNeg p0))), ((ma 13), .inl (E 0, 60, .inl (upd mf13 (moffs : Int32).toNatClampNeg p1))), ((ma 14), .inl (E 0, 60, .inl (upd mf14 (moffs : Int32).toNatClampNeg p2))), ((ma 15), .inl (E 0, 60, .inl (upd mf15 (moffs : Int32).toNatClampNeg p3))), ((ma 16), .inl (E 0, 60, .inl (upd mf16 (moffs : Int32).toNatClampNeg mtoday)))] H := hP
              have hD := toW hP hD rfl
              refine lv_aload_n hx hb dX9_off_120 rfl (lv_at hl 0 rfl) ?_
              refine va_get (D := D) (ci := 9) (v := .int z_19) (C := RX9) (T := TX9) (N := 68) hx hb htb iX9 hown hK.1 hP 0 rfl rfl 11 (by decide) (htb _ k_969) (fun _ h9 => h9) rfl dX9_off_121 ?_
              have hP9 := hP.sub (ws' := [(mh, .inr (9, G9 ma mcode mtoday z_19 mmany msumW msumA msumR msumWW msumWA msumAA msumWR msumAR mupper mlower mrates mtaped mlaid mat mtk mtkAt mtkNumber mwaits mlisted mdealtMany)), ((ma 12), .inl (E 0, 60, .inl (upd mf12 (moffs : Int32).toNatClampNeg p0))), ((ma 13), .inl (E 0, 60, .inl (upd mf13 (moffs : Int32).toNatClampNeg p1))), ((ma 14), .inl (E 0, 60, .inl (upd mf14 (moffs : Int32).toNatClampNeg p2))), ((ma 15), .inl (E 0, 60, .inl (upd mf15 (moffs : Int32).toNatClampNeg p3))), ((ma 16), .inl (E 0, 60, .inl (upd mf16 (moffs : Int32).toNatClampNeg mtoday)))]) [0, 1, 2, 3, 4, 5] rfl
              have hD9 := hD.sub (ws' := [(mh, .inr (9, G9 ma mcode mtoday z_19 mmany msumW msumA msumR msumWW msumWA msumAA msumWR msumAR mupper mlower mrates mtaped mlaid mat mtk mtkAt mtkNumber mwaits mlisted mdealtMany)), ((ma 12), .inl (E 0, 60, .inl (upd mf12 (moffs : Int32).toNatClampNeg p0))), ((ma 13), .inl (E 0, 60, .inl (upd mf13 (moffs : Int32).toNatClampNeg p1))), ((ma 14), .inl (E 0, 60, .inl (upd mf14 (moffs : Int32).toNatClampNeg p2))), ((ma 15), .inl (E 0, 60, .inl (upd mf15 (moffs : Int32).toNatClampNeg p3))), ((ma 16), .inl (E 0, 60, .inl (upd mf16 (moffs : Int32).toNatClampNeg mtoday)))]) [0, 1, 2, 3, 4, 5] (by decide) rfl
              exact W.iret (v := z_19) hx hb hr (fun t ht hW => ⟨⟨z_19, ((upd mf12 (moffs : Int32).toNatClampNeg p0), (upd mf13 (moffs : Int32).toNatClampNeg p1), (upd mf14 (moffs : Int32).toNatClampNeg p2), (upd mf15 (moffs : Int32).toNatClampNeg p3), (upd mf16 (moffs : Int32).toNatClampNeg mtoday), z_19), rfl, ⟨(by (try dsimp only); omega), (by (try dsimp only); first | exact Or.inl ⟨by omega, by omega, by omega, rfl, rfl, rfl, rfl, rfl⟩ | exact Or.inr (Or.inl ⟨by omega, by omega, by omega, by omega, rfl, rfl, rfl, rfl, rfl⟩) | exact Or.inr (Or.inr ⟨by omega, by omega, by omega, by omega, rfl, rfl, rfl, rfl, rfl⟩))⟩, by rw [ht]; exact hP9, hD9⟩, hS.F ht⟩) hS.2.2 dX9_off_124
            ·
              have ic_18 : moffs.toInt = 60 := (g_eq rfl t_60).mp c_18
              clear c_18
              refine lv_bipush (v := (-5)) hx hb dX9_off_53 (by decide) ?_
              have hP9 := hP.sub (ws' := [(mh, .inr (9, G9 ma mcode mtoday moffs mmany msumW msumA msumR msumWW msumWA msumAA msumWR msumAR mupper mlower mrates mtaped mlaid mat mtk mtkAt mtkNumber mwaits mlisted mdealtMany)), ((ma 12), .inl (E 0, 60, .inl mf12)), ((ma 13), .inl (E 0, 60, .inl mf13)), ((ma 14), .inl (E 0, 60, .inl mf14)), ((ma 15), .inl (E 0, 60, .inl mf15)), ((ma 16), .inl (E 0, 60, .inl mf16))]) [0, 1, 2, 3, 4, 5] rfl
              have hD9 := hD.sub (ws' := [(mh, .inr (9, G9 ma mcode mtoday moffs mmany msumW msumA msumR msumWW msumWA msumAA msumWR msumAR mupper mlower mrates mtaped mlaid mat mtk mtkAt mtkNumber mwaits mlisted mdealtMany)), ((ma 12), .inl (E 0, 60, .inl mf12)), ((ma 13), .inl (E 0, 60, .inl mf13)), ((ma 14), .inl (E 0, 60, .inl mf14)), ((ma 15), .inl (E 0, 60, .inl mf15)), ((ma 16), .inl (E 0, 60, .inl mf16))]) [0, 1, 2, 3, 4, 5] (by decide) rfl
              exact W.iret (v := (-5)) hx hb hr (fun t ht hW => ⟨⟨(-5), (mf12, mf13, mf14, mf15, mf16, moffs), rfl, ⟨(by (try dsimp only); omega), (by have hl0 := t_m5; (try dsimp only); first | exact Or.inl ⟨by omega, by omega, by omega, rfl, rfl, rfl, rfl, rfl⟩ | exact Or.inr (Or.inl ⟨by omega, by omega, by omega, by omega, rfl, rfl, rfl, rfl, rfl⟩) | exact Or.inr (Or.inr ⟨by omega, by omega, by omega, by omega, rfl, rfl, rfl, rfl, rfl⟩))⟩, by rw [ht]; exact hP9, hD9⟩, hS.F ht⟩) hS.2.2 dX9_off_55
          ·
            try simp only [t_m10000, t_10000] at hw_15
            refine W_top (y := .int 0) (by rw [hr_14]) ?_
            refine lv_if_ne (tgt := 44) hx hb dX9_off_39 (by decide) (fun c_20 => absurd (by decide) c_20) (fun c_20 => ?_)
            refine lv_iconst (v := (-1)) hx hb dX9_off_42 (by decide) ?_
            have hP9 := hP.sub (ws' := [(mh, .inr (9, G9 ma mcode mtoday moffs mmany msumW msumA msumR msumWW msumWA msumAA msumWR msumAR mupper mlower mrates mtaped mlaid mat mtk mtkAt mtkNumber mwaits mlisted mdealtMany)), ((ma 12), .inl (E 0, 60, .inl mf12)), ((ma 13), .inl (E 0, 60, .inl mf13)), ((ma 14), .inl (E 0, 60, .inl mf14)), ((ma 15), .inl (E 0, 60, .inl mf15)), ((ma 16), .inl (E 0, 60, .inl mf16))]) [0, 1, 2, 3, 4, 5] rfl
            have hD9 := hD.sub (ws' := [(mh, .inr (9, G9 ma mcode mtoday moffs mmany msumW msumA msumR msumWW msumWA msumAA msumWR msumAR mupper mlower mrates mtaped mlaid mat mtk mtkAt mtkNumber mwaits mlisted mdealtMany)), ((ma 12), .inl (E 0, 60, .inl mf12)), ((ma 13), .inl (E 0, 60, .inl mf13)), ((ma 14), .inl (E 0, 60, .inl mf14)), ((ma 15), .inl (E 0, 60, .inl mf15)), ((ma 16), .inl (E 0, 60, .inl mf16))]) [0, 1, 2, 3, 4, 5] (by decide) rfl
            exact W.iret (v := (-1)) hx hb hr (fun t ht hW => ⟨⟨(-1), (mf12, mf13, mf14, mf15, mf16, moffs), rfl, ⟨(by (try dsimp only); omega), (by have hl0 := t_m1; (try dsimp only); first | exact Or.inl ⟨by omega, by omega, by omega, rfl, rfl, rfl, rfl, rfl⟩ | exact Or.inr (Or.inl ⟨by omega, by omega, by omega, by omega, rfl, rfl, rfl, rfl, rfl⟩) | exact Or.inr (Or.inr ⟨by omega, by omega, by omega, by omega, rfl, rfl, rfl, rfl, rfl⟩))⟩, by rw [ht]; exact hP9, hD9⟩, hS.F ht⟩) hS.2.2 dX9_off_43
      ·
        refine W_top (y := .int 0) (by rw [hr_9]) ?_
        refine lv_if_eq (tgt := 42) hx hb dX9_off_20 (by decide) (fun c_21 => ?_) (fun c_21 => absurd (by decide) c_21)
        refine lv_iconst (v := (-1)) hx hb dX9_off_42 (by decide) ?_
        have hP9 := hP.sub (ws' := [(mh, .inr (9, G9 ma mcode mtoday moffs mmany msumW msumA msumR msumWW msumWA msumAA msumWR msumAR mupper mlower mrates mtaped mlaid mat mtk mtkAt mtkNumber mwaits mlisted mdealtMany)), ((ma 12), .inl (E 0, 60, .inl mf12)), ((ma 13), .inl (E 0, 60, .inl mf13)), ((ma 14), .inl (E 0, 60, .inl mf14)), ((ma 15), .inl (E 0, 60, .inl mf15)), ((ma 16), .inl (E 0, 60, .inl mf16))]) [0, 1, 2, 3, 4, 5] rfl
        have hD9 := hD.sub (ws' := [(mh, .inr (9, G9 ma mcode mtoday moffs mmany msumW msumA msumR msumWW msumWA msumAA msumWR msumAR mupper mlower mrates mtaped mlaid mat mtk mtkAt mtkNumber mwaits mlisted mdealtMany)), ((ma 12), .inl (E 0, 60, .inl mf12)), ((ma 13), .inl (E 0, 60, .inl mf13)), ((ma 14), .inl (E 0, 60, .inl mf14)), ((ma 15), .inl (E 0, 60, .inl mf15)), ((ma 16), .inl (E 0, 60, .inl mf16))]) [0, 1, 2, 3, 4, 5] (by decide) rfl
        exact W.iret (v := (-1)) hx hb hr (fun t ht hW => ⟨⟨(-1), (mf12, mf13, mf14, mf15, mf16, moffs), rfl, ⟨(by (try dsimp only); omega), (by have hl0 := t_m1; (try dsimp only); first | exact Or.inl ⟨by omega, by omega, by omega, rfl, rfl, rfl, rfl, rfl⟩ | exact Or.inr (Or.inl ⟨by omega, by omega, by omega, by omega, rfl, rfl, rfl, rfl, rfl⟩) | exact Or.inr (Or.inr ⟨by omega, by omega, by omega, by omega, rfl, rfl, rfl, rfl, rfl⟩))⟩, by rw [ht]; exact hP9, hD9⟩, hS.F ht⟩) hS.2.2 dX9_off_43
    ·
      refine W_top (y := .int 0) (by rw [hr_5]) ?_
      refine lv_if_eq (tgt := 42) hx hb dX9_off_13 (by decide) (fun c_22 => ?_) (fun c_22 => absurd (by decide) c_22)
      refine lv_iconst (v := (-1)) hx hb dX9_off_42 (by decide) ?_
      have hP9 := hP.sub (ws' := [(mh, .inr (9, G9 ma mcode mtoday moffs mmany msumW msumA msumR msumWW msumWA msumAA msumWR msumAR mupper mlower mrates mtaped mlaid mat mtk mtkAt mtkNumber mwaits mlisted mdealtMany)), ((ma 12), .inl (E 0, 60, .inl mf12)), ((ma 13), .inl (E 0, 60, .inl mf13)), ((ma 14), .inl (E 0, 60, .inl mf14)), ((ma 15), .inl (E 0, 60, .inl mf15)), ((ma 16), .inl (E 0, 60, .inl mf16))]) [0, 1, 2, 3, 4, 5] rfl
      have hD9 := hD.sub (ws' := [(mh, .inr (9, G9 ma mcode mtoday moffs mmany msumW msumA msumR msumWW msumWA msumAA msumWR msumAR mupper mlower mrates mtaped mlaid mat mtk mtkAt mtkNumber mwaits mlisted mdealtMany)), ((ma 12), .inl (E 0, 60, .inl mf12)), ((ma 13), .inl (E 0, 60, .inl mf13)), ((ma 14), .inl (E 0, 60, .inl mf14)), ((ma 15), .inl (E 0, 60, .inl mf15)), ((ma 16), .inl (E 0, 60, .inl mf16))]) [0, 1, 2, 3, 4, 5] (by decide) rfl
      exact W.iret (v := (-1)) hx hb hr (fun t ht hW => ⟨⟨(-1), (mf12, mf13, mf14, mf15, mf16, moffs), rfl, ⟨(by (try dsimp only); omega), (by have hl0 := t_m1; (try dsimp only); first | exact Or.inl ⟨by omega, by omega, by omega, rfl, rfl, rfl, rfl, rfl⟩ | exact Or.inr (Or.inl ⟨by omega, by omega, by omega, by omega, rfl, rfl, rfl, rfl, rfl⟩) | exact Or.inr (Or.inr ⟨by omega, by omega, by omega, by omega, rfl, rfl, rfl, rfl, rfl⟩))⟩, by rw [ht]; exact hP9, hD9⟩, hS.F ht⟩) hS.2.2 dX9_off_43
  ·
    try simp only [t_1, t_5] at hw_2
    refine W_top (y := .int 0) (by rw [hr_1]) ?_
    refine lv_if_eq (tgt := 42) hx hb dX9_off_6 (by decide) (fun c_23 => ?_) (fun c_23 => absurd (by decide) c_23)
    refine lv_iconst (v := (-1)) hx hb dX9_off_42 (by decide) ?_
    have hP9 := hP.sub (ws' := [(mh, .inr (9, G9 ma mcode mtoday moffs mmany msumW msumA msumR msumWW msumWA msumAA msumWR msumAR mupper mlower mrates mtaped mlaid mat mtk mtkAt mtkNumber mwaits mlisted mdealtMany)), ((ma 12), .inl (E 0, 60, .inl mf12)), ((ma 13), .inl (E 0, 60, .inl mf13)), ((ma 14), .inl (E 0, 60, .inl mf14)), ((ma 15), .inl (E 0, 60, .inl mf15)), ((ma 16), .inl (E 0, 60, .inl mf16))]) [0, 1, 2, 3, 4, 5] rfl
    have hD9 := hD.sub (ws' := [(mh, .inr (9, G9 ma mcode mtoday moffs mmany msumW msumA msumR msumWW msumWA msumAA msumWR msumAR mupper mlower mrates mtaped mlaid mat mtk mtkAt mtkNumber mwaits mlisted mdealtMany)), ((ma 12), .inl (E 0, 60, .inl mf12)), ((ma 13), .inl (E 0, 60, .inl mf13)), ((ma 14), .inl (E 0, 60, .inl mf14)), ((ma 15), .inl (E 0, 60, .inl mf15)), ((ma 16), .inl (E 0, 60, .inl mf16))]) [0, 1, 2, 3, 4, 5] (by decide) rfl
    exact W.iret (v := (-1)) hx hb hr (fun t ht hW => ⟨⟨(-1), (mf12, mf13, mf14, mf15, mf16, moffs), rfl, ⟨(by (try dsimp only); omega), (by have hl0 := t_m1; (try dsimp only); first | exact Or.inl ⟨by omega, by omega, by omega, rfl, rfl, rfl, rfl, rfl⟩ | exact Or.inr (Or.inl ⟨by omega, by omega, by omega, by omega, rfl, rfl, rfl, rfl, rfl⟩) | exact Or.inr (Or.inr ⟨by omega, by omega, by omega, by omega, rfl, rfl, rfl, rfl, rfl⟩))⟩, by rw [ht]; exact hP9, hD9⟩, hS.F ht⟩) hS.2.2 dX9_off_43
set_option maxHeartbeats 4000000 in
set_option maxRecDepth 100000 in
theorem g_X9_changed (l : Launch) (D : va_G) (E : Nat → Nat) (mh : Nat) (ma : Nat → Nat) (mcode : Int32) (mtoday : Int32) (moffs : Int32) (mmany : Int64) (msumW : Int64) (msumA : Int64) (msumR : Int64) (msumWW : Int64) (msumWA : Int64) (msumAA : Int64) (msumWR : Int64) (msumAR : Int64) (mupper : Int64) (mlower : Int64) (mrates : Int32) (mtaped : Int32) (mlaid : Int32) (mat : Int32) (mtk : Int32) (mtkAt : Int32) (mtkNumber : Int32) (mwaits : Int32) (mlisted : Int32) (mdealtMany : Int32) (mf3 : Nat → Int32) (mf5 : Nat → Int32) (mf6 : Nat → Int32) (mf7 : Nat → Int32) (mf8 : Nat → Int32) (mf9 : Nat → Int32) (mf12 : Nat → Int32) (mf13 : Nat → Int32) (mf14 : Nat → Int32) (mf15 : Nat → Int32) (mf16 : Nat → Int32) (p0 : Int32) (p1 : Int32) (p2 : Int32) (p3 : Int32) (hi_m : (0 ≤ mtoday.toInt ∧ mtoday.toInt ≤ 399) ∧ (0 ≤ moffs.toInt ∧ moffs.toInt ≤ 60) ∧ (0 ≤ mrates.toInt ∧ mrates.toInt ≤ 60) ∧ (0 ≤ mtaped.toInt ∧ mtaped.toInt ≤ 120) ∧ (0 ≤ mlisted.toInt ∧ mlisted.toInt ≤ 9) ∧ (0 ≤ mdealtMany.toInt ∧ mdealtMany.toInt ≤ 9)) : Met l yX9_changed (wl yX9_changed cX9_changed 8 (some .int)) (RM 3 0 0) (rd_P D E [.ref mh, .int p0, .int p1, .int p2, .int p3] [(mh, .inr (9, G9 ma mcode mtoday moffs mmany msumW msumA msumR msumWW msumWA msumAA msumWR msumAR mupper mlower mrates mtaped mlaid mat mtk mtkAt mtkNumber mwaits mlisted mdealtMany)), ((ma 3), .inl (E 0, 16, .inl mf3)), ((ma 5), .inl (E 1, 6400, .inl mf5)), ((ma 6), .inl (E 0, 6400, .inl mf6)), ((ma 7), .inl (E 0, 6400, .inl mf7)), ((ma 8), .inl (E 1, 6400, .inl mf8)), ((ma 9), .inl (E 1, 6400, .inl mf9)), ((ma 12), .inl (E 0, 60, .inl mf12)), ((ma 13), .inl (E 0, 60, .inl mf13)), ((ma 14), .inl (E 0, 60, .inl mf14)), ((ma 15), .inl (E 0, 60, .inl mf15)), ((ma 16), .inl (E 0, 60, .inl mf16))]) (rd_Q (fun r => ((r.toInt = -1 ∧ ¬ ((0 ≤ p0.toInt ∧ p0.toInt ≤ 15) ∧ (0 ≤ p1.toInt ∧ p2.toInt ≤ 399 ∧ p1.toInt < p2.toInt ∧ p2.toInt - p1.toInt ≤ 60) ∧ (-1 ≤ p3.toInt ∧ p3.toInt ≤ 399))) ∨ (((0 ≤ p0.toInt ∧ p0.toInt ≤ 15) ∧ (0 ≤ p1.toInt ∧ p2.toInt ≤ 399 ∧ p1.toInt < p2.toInt ∧ p2.toInt - p1.toInt ≤ 60) ∧ (-1 ≤ p3.toInt ∧ p3.toInt ≤ 399)) ∧ (((mf3 (p0).toNatClampNeg).toInt = -5 ∧ r.toInt = -2) ∨ ((mf3 (p0).toNatClampNeg).toInt = 2 ∧ r.toInt = -3))) ∨ (((0 ≤ p0.toInt ∧ p0.toInt ≤ 15) ∧ (0 ≤ p1.toInt ∧ p2.toInt ≤ 399 ∧ p1.toInt < p2.toInt ∧ p2.toInt - p1.toInt ≤ 60) ∧ (-1 ≤ p3.toInt ∧ p3.toInt ≤ 399)) ∧ ((mf3 (p0).toNatClampNeg).toInt ≠ -5 ∧ (mf3 (p0).toNatClampNeg).toInt ≠ 2) ∧ r.toInt = chN (fun d => ratF mf5 mf6 mf7 mf8 mf9 mf12 mf13 mf14 mf15 mf16 moffs p0 d p3) (fun d => ratF mf5 mf6 mf7 mf8 mf9 mf12 mf13 mf14 mf15 mf16 moffs p0 d (-1)) p1 (p2.toInt - p1.toInt).toNat)))) 0 0 (fun _ => False) := by
  refine Met.ofW (cc := cX9_changed) (maxL := 8) (ret := (some .int)) (by decide) rfl ?_
  intro p e s m args below meth c s₁ B hml hv
  obtain ⟨rfl, hP, hK⟩ := hv
  have hx := B.exec; have hb := B.bytes; have hr := B.returns
  have hts := atoms_spec (ws := wl yX9_changed cX9_changed 8 (some .int)) B.pre
  have htb : ∀ w ∈ tb, w.before _ s = true := fun w h => hts w (List.mem_cons_of_mem _ h)
  have hown : s.vm.findClass RX9 = some m.cls := findClass_of_methodNamed B.named
  have hlocks := B.notSynchronized
  have hP : va_P D vwCl [(mh, .inr (9, G9 ma mcode mtoday moffs mmany msumW msumA msumR msumWW msumWA msumAA msumWR msumAR mupper mlower mrates mtaped mlaid mat mtk mtkAt mtkNumber mwaits mlisted mdealtMany)), ((ma 3), .inl (E 0, 16, .inl mf3)), ((ma 5), .inl (E 1, 6400, .inl mf5)), ((ma 6), .inl (E 0, 6400, .inl mf6)), ((ma 7), .inl (E 0, 6400, .inl mf7)), ((ma 8), .inl (E 1, 6400, .inl mf8)), ((ma 9), .inl (E 1, 6400, .inl mf9)), ((ma 12), .inl (E 0, 60, .inl mf12)), ((ma 13), .inl (E 0, 60, .inl mf13)), ((ma 14), .inl (E 0, 60, .inl mf14)), ((ma 15), .inl (E 0, 60, .inl mf15)), ((ma 16), .inl (E 0, 60, .inl mf16))] s.heap := hP
  have hl := lv_entry ([.ref mh, .int p0, .int p1, .int p2, .int p3]) (n := 8) (Nat.le_of_ble_eq_true rfl)
  rw [lg_entry_eq]
  generalize (lg_sl ([.ref mh, .int p0, .int p1, .int p2, .int p3]) ++ List.replicate (8 - (lg_sl ([.ref mh, .int p0, .int p1, .int p2, .int p3])).length) Slot.unset).toArray = ls at hl ⊢
  have hl : lv_has ls 8 [(0, .ref mh), (1, .int p0), (2, .int p1), (3, .int p2), (4, .int p3)] := hl
  have lo_p0 := i_lo p0; have hi_p0 := i_hi p0
  have lo_p1 := i_lo p1; have hi_p1 := i_hi p1
  have lo_p2 := i_lo p2; have hi_p2 := i_hi p2
  have lo_p3 := i_lo p3; have hi_p3 := i_hi p3
  refine lv_iload_n hx hb dX9_changed_0 rfl (lv_at hl 1 rfl) ?_
  refine callRS (rest := []) (As := [.int p0]) hx hb hml hown htb hK (g_X9_isPlace l D E p0 ) ok_X9_isPlace k_1182 k_1183 k_9 k_1184 ⟨(Nat.le_of_ble_eq_true rfl), (Nat.le_of_ble_eq_true rfl)⟩ ⟨(Nat.le_of_ble_eq_true rfl), (Nat.le_of_ble_eq_true rfl)⟩ hl.1 (Nat.le_of_ble_eq_true rfl) rfl rfl dX9_changed_1 (hP.sub (ws' := ([] : va_W)) [] rfl) (fun r_1 hw_2 => ?_)
  rcases hw_2 with ⟨hr_1, hw_2⟩ | ⟨hr_1, hw_2⟩
  ·
    refine W_top (y := .int 1) (by rw [hr_1]) ?_
    refine lv_if_eq (tgt := 23) hx hb dX9_changed_4 (by decide) (fun c_4 => absurd c_4 (by decide)) (fun c_4 => ?_)
    refine lv_iload_n hx hb dX9_changed_7 rfl (lv_at hl 2 rfl) ?_
    refine lv_iload_n hx hb dX9_changed_8 rfl (lv_at hl 3 rfl) ?_
    refine callRS (rest := []) (As := [.int p1, .int p2]) hx hb hml hown htb hK (g_X9_areDays l D E p1 p2 ) ok_X9_areDays k_1262 k_1263 k_9 k_1264 ⟨(Nat.le_of_ble_eq_true rfl), (Nat.le_of_ble_eq_true rfl)⟩ ⟨(Nat.le_of_ble_eq_true rfl), (Nat.le_of_ble_eq_true rfl)⟩ hl.1 (Nat.le_of_ble_eq_true rfl) rfl rfl dX9_changed_9 (hP.sub (ws' := ([] : va_W)) [] rfl) (fun r_5 hw_6 => ?_)
    rcases hw_6 with ⟨hr_5, hw_6⟩ | ⟨hr_5, hw_6⟩
    ·
      refine W_top (y := .int 1) (by rw [hr_5]) ?_
      refine lv_if_eq (tgt := 23) hx hb dX9_changed_12 (by decide) (fun c_8 => absurd c_8 (by decide)) (fun c_8 => ?_)
      refine lv_iload hx hb dX9_changed_15 (lv_at hl 4 rfl) ?_
      refine callRS (rest := []) (As := [.int p3]) hx hb hml hown htb hK (g_X9_isKnown l D E p3 ) ok_X9_isKnown k_1220 k_1221 k_9 k_1222 ⟨(Nat.le_of_ble_eq_true rfl), (Nat.le_of_ble_eq_true rfl)⟩ ⟨(Nat.le_of_ble_eq_true rfl), (Nat.le_of_ble_eq_true rfl)⟩ hl.1 (Nat.le_of_ble_eq_true rfl) rfl rfl dX9_changed_17 (hP.sub (ws' := ([] : va_W)) [] rfl) (fun r_9 hw_10 => ?_)
      rcases hw_10 with ⟨hr_9, hw_10⟩ | ⟨hr_9, hw_10⟩
      ·
        refine W_top (y := .int 1) (by rw [hr_9]) ?_
        refine lv_if_ne (tgt := 25) hx hb dX9_changed_20 (by decide) (fun c_12 => ?_) (fun c_12 => absurd c_12 (by decide))
        refine lv_aload_n hx hb dX9_changed_25 rfl (lv_at hl 0 rfl) ?_
        refine lv_iload_n hx hb dX9_changed_26 rfl (lv_at hl 1 rfl) ?_
        refine callRV (rest := []) (As := [.int p0]) hx hb hml hown htb hK (g_X9_watchAt l D E mh ma mcode mtoday moffs mmany msumW msumA msumR msumWW msumWA msumAA msumWR msumAR mupper mlower mrates mtaped mlaid mat mtk mtkAt mtkNumber mwaits mlisted mdealtMany mf3 p0 (by (try dsimp only); omega)) ok_X9_watchAt k_1212 k_1214 ks_41 k_9 k_1215 ⟨(Nat.le_of_ble_eq_true rfl), (Nat.le_of_ble_eq_true rfl)⟩ ⟨(Nat.le_of_ble_eq_true rfl), (Nat.le_of_ble_eq_true rfl)⟩ hl.1 (Nat.le_of_ble_eq_true rfl) rfl rfl dX9_changed_27 (hP.sub (ws' := [(mh, .inr (9, G9 ma mcode mtoday moffs mmany msumW msumA msumR msumWW msumWA msumAA msumWR msumAR mupper mlower mrates mtaped mlaid mat mtk mtkAt mtkNumber mwaits mlisted mdealtMany)), ((ma 3), .inl (E 0, 16, .inl mf3))]) [0, 1] rfl) rfl rfl 0 rfl (fun r_13 hw_14 => ?_)
        refine lv_istore (lv' := [(5, .int r_13), (0, .ref mh), (1, .int p0), (2, .int p1), (3, .int p2), (4, .int p3)]) hx hb dX9_changed_30 hl (by decide) rfl (fun ls hl => ?_)
        refine lv_iload hx hb dX9_changed_32 (lv_at hl 0 rfl) ?_
        refine lv_if_ge (tgt := 40) hx hb dX9_changed_34 (by decide) (fun c_16 => ?_) (fun c_16 => ?_)
        ·
          have ic_16 : 0 ≤ r_13.toInt := by first | exact (g_le t_0 rfl).mp c_16 | (have h := mt (g_lt rfl t_0).mpr c_16; omega)
          clear c_16
          refine lv_iconst (v := 0) hx hb dX9_changed_40 (by decide) ?_
          refine lv_istore (lv' := [(6, .int 0), (5, .int r_13), (0, .ref mh), (1, .int p0), (2, .int p1), (3, .int p2), (4, .int p3)]) hx hb dX9_changed_41 hl (by decide) rfl (fun ls hl => ?_)
          refine lv_iload_n hx hb dX9_changed_43 rfl (lv_at hl 4 rfl) ?_
          refine lv_istore (lv' := [(7, .int p1), (6, .int 0), (5, .int r_13), (0, .ref mh), (1, .int p0), (2, .int p1), (3, .int p2), (4, .int p3)]) hx hb dX9_changed_44 hl (by decide) rfl (fun ls hl => ?_)
          have loop_17 : ∀ (N_19 : Nat) (L7_46 : Int32) (L6_46 : Int32)  (ls : Array Slot), p2.toInt - L7_46.toInt < (N_19 : Int) → (p1.toInt ≤ L7_46.toInt ∧ L7_46.toInt ≤ p2.toInt ∧ 0 ≤ L6_46.toInt ∧ L6_46.toInt ≤ L7_46.toInt - p1.toInt) → (L6_46.toInt = chN (fun d => ratF mf5 mf6 mf7 mf8 mf9 mf12 mf13 mf14 mf15 mf16 moffs p0 d p3) (fun d => ratF mf5 mf6 mf7 mf8 mf9 mf12 mf13 mf14 mf15 mf16 moffs p0 d (-1)) p1 (L7_46.toInt - p1.toInt).toNat) → lv_has ls 8 [(7, .int L7_46), (6, .int L6_46), (5, .int r_13), (0, .ref mh), (1, .int p0), (2, .int p1), (3, .int p2), (4, .int p3)] → W p l e (headSpec (wl yX9_changed cX9_changed 8 (some .int)) (RM 3 0 0)).room s m [Value.ref mh, .int p0, .int p1, .int p2, .int p3].toArray below meth c s.heap [] 0 0 (MQ below (rd_Q (fun r => ((r.toInt = -1 ∧ ¬ ((0 ≤ p0.toInt ∧ p0.toInt ≤ 15) ∧ (0 ≤ p1.toInt ∧ p2.toInt ≤ 399 ∧ p1.toInt < p2.toInt ∧ p2.toInt - p1.toInt ≤ 60) ∧ (-1 ≤ p3.toInt ∧ p3.toInt ≤ 399))) ∨ (((0 ≤ p0.toInt ∧ p0.toInt ≤ 15) ∧ (0 ≤ p1.toInt ∧ p2.toInt ≤ 399 ∧ p1.toInt < p2.toInt ∧ p2.toInt - p1.toInt ≤ 60) ∧ (-1 ≤ p3.toInt ∧ p3.toInt ≤ 399)) ∧ (((mf3 (p0).toNatClampNeg).toInt = -5 ∧ r.toInt = -2) ∨ ((mf3 (p0).toNatClampNeg).toInt = 2 ∧ r.toInt = -3))) ∨ (((0 ≤ p0.toInt ∧ p0.toInt ≤ 15) ∧ (0 ≤ p1.toInt ∧ p2.toInt ≤ 399 ∧ p1.toInt < p2.toInt ∧ p2.toInt - p1.toInt ≤ 60) ∧ (-1 ≤ p3.toInt ∧ p3.toInt ≤ 399)) ∧ ((mf3 (p0).toNatClampNeg).toInt ≠ -5 ∧ (mf3 (p0).toNatClampNeg).toInt ≠ 2) ∧ r.toInt = chN (fun d => ratF mf5 mf6 mf7 mf8 mf9 mf12 mf13 mf14 mf15 mf16 moffs p0 d p3) (fun d => ratF mf5 mf6 mf7 mf8 mf9 mf12 mf13 mf14 mf15 mf16 moffs p0 d (-1)) p1 (p2.toInt - p1.toInt).toNat)))) [Value.ref mh, .int p0, .int p1, .int p2, .int p3].toArray s 0 0 (fun _ => False)) (F0 m 46 ls []) := by
            intro N_19
            induction N_19 with
            | zero => intro L7_46 L6_46  ls hm v0_46 v1_46 _; exfalso; omega
            | succ N_19 ih_18 =>
              intro L7_46 L6_46 ls hm v0_46 v1_46 hl
              have lo_L7_46 := i_lo L7_46; have hi_L7_46 := i_hi L7_46
              have lo_L6_46 := i_lo L6_46; have hi_L6_46 := i_hi L6_46
              refine lv_iload hx hb dX9_changed_46 (lv_at hl 0 rfl) ?_
              refine lv_iload_n hx hb dX9_changed_48 rfl (lv_at hl 6 rfl) ?_
              refine lv_icmp_ge (tgt := 88) hx hb dX9_changed_49 (by decide) (fun c_20 => ?_) (fun c_20 => ?_)
              ·
                have ic_20 : p2.toInt ≤ L7_46.toInt := by first | exact (g_le rfl rfl).mp c_20 | (have h := mt (g_lt rfl rfl).mpr c_20; omega)
                clear c_20
                refine lv_iload hx hb dX9_changed_88 (lv_at hl 1 rfl) ?_
                exact W.iret (v := L6_46) hx hb hr (fun t ht hW => ⟨L6_46, rfl, (by (try dsimp only); first | exact Or.inl ⟨by omega, by omega⟩ | exact Or.inr (Or.inl ⟨by omega, by omega⟩) | exact Or.inr (Or.inr ⟨by omega, by omega, by rw [show (p2.toInt - p1.toInt).toNat = (L7_46.toInt - p1.toInt).toNat by omega]; assumption⟩)), ht⟩) (fun q h => by cases h) dX9_changed_90
              ·
                have ic_20 : L7_46.toInt < p2.toInt := by first | exact (g_lt rfl rfl).mp c_20 | (have h := mt (g_le rfl rfl).mpr c_20; omega)
                clear c_20
                refine lv_iload hx hb dX9_changed_52 (lv_at hl 1 rfl) ?_
                refine lv_aload_n hx hb dX9_changed_54 rfl (lv_at hl 3 rfl) ?_
                refine lv_iload_n hx hb dX9_changed_55 rfl (lv_at hl 4 rfl) ?_
                refine lv_iload hx hb dX9_changed_56 (lv_at hl 0 rfl) ?_
                refine lv_iload hx hb dX9_changed_58 (lv_at hl 7 rfl) ?_
                refine callRV (rest := [.int L6_46]) (As := [.int p0, .int L7_46, .int p3]) hx hb hml hown htb hK (g_X9_rateOf l D E mh ma mcode mtoday moffs mmany msumW msumA msumR msumWW msumWA msumAA msumWR msumAR mupper mlower mrates mtaped mlaid mat mtk mtkAt mtkNumber mwaits mlisted mdealtMany mf5 mf6 mf7 mf8 mf9 mf12 mf13 mf14 mf15 mf16 p0 L7_46 p3 (by (try dsimp only); omega) (by (try dsimp only); omega) (by (try dsimp only); omega)) ok_X9_rateOf k_1231 k_1233 ks_43 k_9 k_1234 ⟨(Nat.le_of_ble_eq_true rfl), (Nat.le_of_ble_eq_true rfl)⟩ ⟨(Nat.le_of_ble_eq_true rfl), (Nat.le_of_ble_eq_true rfl)⟩ hl.1 (Nat.le_of_ble_eq_true rfl) rfl rfl dX9_changed_60 (hP.sub (ws' := [(mh, .inr (9, G9 ma mcode mtoday moffs mmany msumW msumA msumR msumWW msumWA msumAA msumWR msumAR mupper mlower mrates mtaped mlaid mat mtk mtkAt mtkNumber mwaits mlisted mdealtMany)), ((ma 5), .inl (E 1, 6400, .inl mf5)), ((ma 6), .inl (E 0, 6400, .inl mf6)), ((ma 7), .inl (E 0, 6400, .inl mf7)), ((ma 8), .inl (E 1, 6400, .inl mf8)), ((ma 9), .inl (E 1, 6400, .inl mf9)), ((ma 12), .inl (E 0, 60, .inl mf12)), ((ma 13), .inl (E 0, 60, .inl mf13)), ((ma 14), .inl (E 0, 60, .inl mf14)), ((ma 15), .inl (E 0, 60, .inl mf15)), ((ma 16), .inl (E 0, 60, .inl mf16))]) [0, 2, 3, 4, 5, 6, 7, 8, 9, 10, 11] rfl) rfl rfl 0 rfl (fun r_21 hw_22 => ?_)
                refine lv_aload_n hx hb dX9_changed_63 rfl (lv_at hl 3 rfl) ?_
                refine lv_iload_n hx hb dX9_changed_64 rfl (lv_at hl 4 rfl) ?_
                refine lv_iload hx hb dX9_changed_65 (lv_at hl 0 rfl) ?_
                refine lv_iconst (v := (-1)) hx hb dX9_changed_67 (by decide) ?_
                refine callRV (rest := [.int r_21, .int L6_46]) (As := [.int p0, .int L7_46, .int (-1)]) hx hb hml hown htb hK (g_X9_rateOf l D E mh ma mcode mtoday moffs mmany msumW msumA msumR msumWW msumWA msumAA msumWR msumAR mupper mlower mrates mtaped mlaid mat mtk mtkAt mtkNumber mwaits mlisted mdealtMany mf5 mf6 mf7 mf8 mf9 mf12 mf13 mf14 mf15 mf16 p0 L7_46 (-1) (by (try dsimp only); omega) (by have h0 := t_m1; (try dsimp only); omega) (by have h0 := t_m1; (try dsimp only); omega)) ok_X9_rateOf k_1231 k_1233 ks_43 k_9 k_1234 ⟨(Nat.le_of_ble_eq_true rfl), (Nat.le_of_ble_eq_true rfl)⟩ ⟨(Nat.le_of_ble_eq_true rfl), (Nat.le_of_ble_eq_true rfl)⟩ hl.1 (Nat.le_of_ble_eq_true rfl) rfl rfl dX9_changed_68 (hP.sub (ws' := [(mh, .inr (9, G9 ma mcode mtoday moffs mmany msumW msumA msumR msumWW msumWA msumAA msumWR msumAR mupper mlower mrates mtaped mlaid mat mtk mtkAt mtkNumber mwaits mlisted mdealtMany)), ((ma 5), .inl (E 1, 6400, .inl mf5)), ((ma 6), .inl (E 0, 6400, .inl mf6)), ((ma 7), .inl (E 0, 6400, .inl mf7)), ((ma 8), .inl (E 1, 6400, .inl mf8)), ((ma 9), .inl (E 1, 6400, .inl mf9)), ((ma 12), .inl (E 0, 60, .inl mf12)), ((ma 13), .inl (E 0, 60, .inl mf13)), ((ma 14), .inl (E 0, 60, .inl mf14)), ((ma 15), .inl (E 0, 60, .inl mf15)), ((ma 16), .inl (E 0, 60, .inl mf16))]) [0, 2, 3, 4, 5, 6, 7, 8, 9, 10, 11] rfl) rfl rfl 0 rfl (fun r_24 hw_25 => ?_)
                try simp only [t_m1] at hw_25
                refine lv_icmp_ne (tgt := 78) hx hb dX9_changed_71 (by decide) (fun c_27 => ?_) (fun c_27 => ?_)
                ·
                  have ic_27 : r_21.toInt ≠ r_24.toInt := mt (g_eq rfl rfl).mpr c_27
                  clear c_27
                  refine lv_iconst (v := 1) hx hb dX9_changed_78 (by decide) ?_
                  refine lv_iadd hx hb dX9_changed_79 ?_
                  refine lv_topi (fun z_28 ez_28 => ?_)
                  have jz_28 : z_28.toInt = L6_46.toInt + 1 := by rw [ez_28]; exact g_add rfl t_1 (by omega) (by omega)
                  refine lv_istore (lv' := [(6, .int z_28), (7, .int L7_46), (5, .int r_13), (0, .ref mh), (1, .int p0), (2, .int p1), (3, .int p2), (4, .int p3)]) hx hb dX9_changed_80 hl (by decide) rfl (fun ls hl => ?_)
                  obtain ⟨z_29, ez_29⟩ : ∃ y : Int32, y = L7_46 + 1 := ⟨_, rfl⟩
                  have jz_29 : z_29.toInt = L7_46.toInt + 1 := by rw [ez_29]; exact g_add rfl t_1 (by omega) (by omega)
                  refine lv_iinc (v := z_29) (lv' := [(7, .int z_29), (6, .int z_28), (5, .int r_13), (0, .ref mh), (1, .int p0), (2, .int p1), (3, .int p2), (4, .int p3)]) hx hb dX9_changed_82 hl (k := 1) rfl (by rw [ez_29]; rfl) (by decide) rfl (fun ls hl => ?_)
                  refine lv_goto (tgt := 46) hx hb dX9_changed_85 (by decide) ?_
                  exact ih_18 z_29 z_28 _ (by (try dsimp only); omega) (by (try dsimp only); omega) (by have hs := chN_step (A := (fun d => ratF mf5 mf6 mf7 mf8 mf9 mf12 mf13 mf14 mf15 mf16 moffs p0 d p3)) (B := (fun d => ratF mf5 mf6 mf7 mf8 mf9 mf12 mf13 mf14 mf15 mf16 moffs p0 d (-1))) (p := p1) (L := L7_46) (z := z_29) (by omega) (by omega) jz_29; rw [hs]; simp only [← hw_22, ← hw_25]; split <;> omega) (lv_sub hl [0, 1, 2, 3, 4, 5, 6, 7] rfl)
                ·
                  have ic_27 : r_21.toInt = r_24.toInt := (g_eq rfl rfl).mp c_27
                  clear c_27
                  refine lv_iconst (v := 0) hx hb dX9_changed_74 (by decide) ?_
                  refine lv_goto (tgt := 79) hx hb dX9_changed_75 (by decide) ?_
                  refine lv_iadd hx hb dX9_changed_79 ?_
                  refine lv_topi (fun z_30 ez_30 => ?_)
                  have jz_30 : z_30.toInt = L6_46.toInt + 0 := by rw [ez_30]; exact g_add rfl t_0 (by omega) (by omega)
                  refine lv_istore (lv' := [(6, .int z_30), (7, .int L7_46), (5, .int r_13), (0, .ref mh), (1, .int p0), (2, .int p1), (3, .int p2), (4, .int p3)]) hx hb dX9_changed_80 hl (by decide) rfl (fun ls hl => ?_)
                  obtain ⟨z_31, ez_31⟩ : ∃ y : Int32, y = L7_46 + 1 := ⟨_, rfl⟩
                  have jz_31 : z_31.toInt = L7_46.toInt + 1 := by rw [ez_31]; exact g_add rfl t_1 (by omega) (by omega)
                  refine lv_iinc (v := z_31) (lv' := [(7, .int z_31), (6, .int z_30), (5, .int r_13), (0, .ref mh), (1, .int p0), (2, .int p1), (3, .int p2), (4, .int p3)]) hx hb dX9_changed_82 hl (k := 1) rfl (by rw [ez_31]; rfl) (by decide) rfl (fun ls hl => ?_)
                  refine lv_goto (tgt := 46) hx hb dX9_changed_85 (by decide) ?_
                  exact ih_18 z_31 z_30 _ (by (try dsimp only); omega) (by (try dsimp only); omega) (by have hs := chN_step (A := (fun d => ratF mf5 mf6 mf7 mf8 mf9 mf12 mf13 mf14 mf15 mf16 moffs p0 d p3)) (B := (fun d => ratF mf5 mf6 mf7 mf8 mf9 mf12 mf13 mf14 mf15 mf16 moffs p0 d (-1))) (p := p1) (L := L7_46) (z := z_31) (by omega) (by omega) jz_31; rw [hs]; simp only [← hw_22, ← hw_25]; split <;> omega) (lv_sub hl [0, 1, 2, 3, 4, 5, 6, 7] rfl)
          exact loop_17 400 p1 0 _ (by have h0 := t_0; (try dsimp only); omega) (by have h0 := t_0; (try dsimp only); omega) (by have h0 := t_0; rw [show (p1.toInt - p1.toInt).toNat = 0 by omega, h0]; rfl)  (lv_sub hl [0, 1, 2, 3, 4, 5, 6, 7] rfl)
        ·
          have ic_16 : r_13.toInt < 0 := by first | exact (g_lt rfl t_0).mp c_16 | (have h := mt (g_le t_0 rfl).mpr c_16; omega)
          clear c_16
          refine lv_iload hx hb dX9_changed_37 (lv_at hl 0 rfl) ?_
          exact W.iret (v := r_13) hx hb hr (fun t ht hW => ⟨r_13, rfl, (by (try dsimp only); first | exact Or.inl ⟨by omega, by omega⟩ | exact Or.inr (Or.inl ⟨by omega, by omega⟩) | exact Or.inr (Or.inr ⟨by omega, by omega, by rw [show (p2.toInt - p1.toInt).toNat = (L7_46.toInt - p1.toInt).toNat by omega]; assumption⟩)), ht⟩) (fun q h => by cases h) dX9_changed_39
      ·
        refine W_top (y := .int 0) (by rw [hr_9]) ?_
        refine lv_if_ne (tgt := 25) hx hb dX9_changed_20 (by decide) (fun c_32 => absurd (by decide) c_32) (fun c_32 => ?_)
        refine lv_iconst (v := (-1)) hx hb dX9_changed_23 (by decide) ?_
        exact W.iret (v := (-1)) hx hb hr (fun t ht hW => ⟨(-1), rfl, (by have hl0 := t_m1; (try dsimp only); first | exact Or.inl ⟨by omega, by omega⟩ | exact Or.inr (Or.inl ⟨by omega, by omega⟩) | exact Or.inr (Or.inr ⟨by omega, by omega, by rw [show (p2.toInt - p1.toInt).toNat = (L7_46.toInt - p1.toInt).toNat by omega]; assumption⟩)), ht⟩) (fun q h => by cases h) dX9_changed_24
    ·
      refine W_top (y := .int 0) (by rw [hr_5]) ?_
      refine lv_if_eq (tgt := 23) hx hb dX9_changed_12 (by decide) (fun c_33 => ?_) (fun c_33 => absurd (by decide) c_33)
      refine lv_iconst (v := (-1)) hx hb dX9_changed_23 (by decide) ?_
      exact W.iret (v := (-1)) hx hb hr (fun t ht hW => ⟨(-1), rfl, (by have hl0 := t_m1; (try dsimp only); first | exact Or.inl ⟨by omega, by omega⟩ | exact Or.inr (Or.inl ⟨by omega, by omega⟩) | exact Or.inr (Or.inr ⟨by omega, by omega, by rw [show (p2.toInt - p1.toInt).toNat = (L7_46.toInt - p1.toInt).toNat by omega]; assumption⟩)), ht⟩) (fun q h => by cases h) dX9_changed_24
  ·
    refine W_top (y := .int 0) (by rw [hr_1]) ?_
    refine lv_if_eq (tgt := 23) hx hb dX9_changed_4 (by decide) (fun c_34 => ?_) (fun c_34 => absurd (by decide) c_34)
    refine lv_iconst (v := (-1)) hx hb dX9_changed_23 (by decide) ?_
    exact W.iret (v := (-1)) hx hb hr (fun t ht hW => ⟨(-1), rfl, (by have hl0 := t_m1; (try dsimp only); first | exact Or.inl ⟨by omega, by omega⟩ | exact Or.inr (Or.inl ⟨by omega, by omega⟩) | exact Or.inr (Or.inr ⟨by omega, by omega, by rw [show (p2.toInt - p1.toInt).toNat = (L7_46.toInt - p1.toInt).toNat by omega]; assumption⟩)), ht⟩) (fun q h => by cases h) dX9_changed_24
set_option maxHeartbeats 4000000 in
set_option maxRecDepth 100000 in
theorem g_X9_warmthOf (l : Launch) (D : va_G) (E : Nat → Nat) (mh : Nat) (ma : Nat → Nat) (mcode : Int32) (mtoday : Int32) (moffs : Int32) (mmany : Int64) (msumW : Int64) (msumA : Int64) (msumR : Int64) (msumWW : Int64) (msumWA : Int64) (msumAA : Int64) (msumWR : Int64) (msumAR : Int64) (mupper : Int64) (mlower : Int64) (mrates : Int32) (mtaped : Int32) (mlaid : Int32) (mat : Int32) (mtk : Int32) (mtkAt : Int32) (mtkNumber : Int32) (mwaits : Int32) (mlisted : Int32) (mdealtMany : Int32) (mf2 : Nat → Int32) (mf3 : Nat → Int32) (mf4 : Nat → Int32) (p0 : Int32) (p1 : Int32) (hi_m : (0 ≤ mtoday.toInt ∧ mtoday.toInt ≤ 399) ∧ (0 ≤ moffs.toInt ∧ moffs.toInt ≤ 60) ∧ (0 ≤ mrates.toInt ∧ mrates.toInt ≤ 60) ∧ (0 ≤ mtaped.toInt ∧ mtaped.toInt ≤ 120) ∧ (0 ≤ mlisted.toInt ∧ mlisted.toInt ≤ 9) ∧ (0 ≤ mdealtMany.toInt ∧ mdealtMany.toInt ≤ 9)) (g0 : 0 ≤ p0.toInt ∧ p0.toInt ≤ 15) (g1 : 0 ≤ p1.toInt ∧ p1.toInt ≤ 399) : Met l yX9_warmthOf (wl yX9_warmthOf cX9_warmthOf 3 (some .int)) (RM 0 0 0) (rd_P D E [.ref mh, .int p0, .int p1] [(mh, .inr (9, G9 ma mcode mtoday moffs mmany msumW msumA msumR msumWW msumWA msumAA msumWR msumAR mupper mlower mrates mtaped mlaid mat mtk mtkAt mtkNumber mwaits mlisted mdealtMany)), ((ma 2), .inl (E 0, 400, .inl mf2)), ((ma 3), .inl (E 0, 16, .inl mf3)), ((ma 4), .inl (E 0, 16, .inl mf4))]) (rd_Q (fun r => (r = wmF mf3 mf4 mf2 p0 p1))) 0 0 (fun _ => False) := by
  refine Met.ofW (cc := cX9_warmthOf) (maxL := 3) (ret := (some .int)) (by decide) rfl ?_
  intro p e s m args below meth c s₁ B hml hv
  obtain ⟨rfl, hP, hK⟩ := hv
  have hx := B.exec; have hb := B.bytes; have hr := B.returns
  have hts := atoms_spec (ws := wl yX9_warmthOf cX9_warmthOf 3 (some .int)) B.pre
  have htb : ∀ w ∈ tb, w.before _ s = true := fun w h => hts w (List.mem_cons_of_mem _ h)
  have hown : s.vm.findClass RX9 = some m.cls := findClass_of_methodNamed B.named
  have hlocks := B.notSynchronized
  have hP : va_P D vwCl [(mh, .inr (9, G9 ma mcode mtoday moffs mmany msumW msumA msumR msumWW msumWA msumAA msumWR msumAR mupper mlower mrates mtaped mlaid mat mtk mtkAt mtkNumber mwaits mlisted mdealtMany)), ((ma 2), .inl (E 0, 400, .inl mf2)), ((ma 3), .inl (E 0, 16, .inl mf3)), ((ma 4), .inl (E 0, 16, .inl mf4))] s.heap := hP
  have hl := lv_entry ([.ref mh, .int p0, .int p1]) (n := 3) (Nat.le_of_ble_eq_true rfl)
  rw [lg_entry_eq]
  generalize (lg_sl ([.ref mh, .int p0, .int p1]) ++ List.replicate (3 - (lg_sl ([.ref mh, .int p0, .int p1])).length) Slot.unset).toArray = ls at hl ⊢
  have hl : lv_has ls 3 [(0, .ref mh), (1, .int p0), (2, .int p1)] := hl
  have lo_p0 := i_lo p0; have hi_p0 := i_hi p0
  have lo_p1 := i_lo p1; have hi_p1 := i_hi p1
  refine lv_aload_n hx hb dX9_warmthOf_0 rfl (lv_at hl 0 rfl) ?_
  refine va_get (D := D) (ci := 9) (v := .ref (ma 3)) (C := RX9) (T := TX9) (N := 68) hx hb htb iX9 hown hK.1 hP 0 rfl rfl 3 (by decide) (htb _ k_961) (fun _ h9 => h9) rfl dX9_warmthOf_1 ?_
  refine lv_iload_n hx hb dX9_warmthOf_4 rfl (lv_at hl 1 rfl) ?_
  refine va_iald hx hb hK.1 hP 2 0 rfl rfl (g_in rfl (by omega) (by omega)) dX9_warmthOf_5 ?_
  refine lv_topi (fun z_1 ez_1 => ?_)
  have kz_1 := congrArg Int32.toInt ez_1
  refine lv_iconst (v := 1) hx hb dX9_warmthOf_6 (by decide) ?_
  refine lv_icmp_ne (tgt := 19) hx hb dX9_warmthOf_7 (by decide) (fun c_2 => ?_) (fun c_2 => ?_)
  ·
    have ic_2 : z_1.toInt ≠ 1 := mt (g_eq rfl t_1).mpr c_2
    clear c_2
    refine lv_aload_n hx hb dX9_warmthOf_19 rfl (lv_at hl 0 rfl) ?_
    refine va_get (D := D) (ci := 9) (v := .ref (ma 2)) (C := RX9) (T := TX9) (N := 68) hx hb htb iX9 hown hK.1 hP 0 rfl rfl 2 (by decide) (htb _ k_960) (fun _ h9 => h9) rfl dX9_warmthOf_20 ?_
    refine lv_iload_n hx hb dX9_warmthOf_23 rfl (lv_at hl 2 rfl) ?_
    refine va_iald hx hb hK.1 hP 1 0 rfl rfl (g_in rfl (by omega) (by omega)) dX9_warmthOf_24 ?_
    refine lv_topi (fun z_3 ez_3 => ?_)
    have kz_3 := congrArg Int32.toInt ez_3
    exact W.iret (v := z_3) hx hb hr (fun t ht hW => ⟨z_3, rfl, (by unfold wmF; first | (rw [if_pos (by omega)]; assumption) | (rw [if_neg (by omega)]; assumption)), ht⟩) (fun q h => by cases h) dX9_warmthOf_25
  ·
    have ic_2 : z_1.toInt = 1 := (g_eq rfl t_1).mp c_2
    clear c_2
    refine lv_aload_n hx hb dX9_warmthOf_10 rfl (lv_at hl 0 rfl) ?_
    refine va_get (D := D) (ci := 9) (v := .ref (ma 4)) (C := RX9) (T := TX9) (N := 68) hx hb htb iX9 hown hK.1 hP 0 rfl rfl 4 (by decide) (htb _ k_962) (fun _ h9 => h9) rfl dX9_warmthOf_11 ?_
    refine lv_iload_n hx hb dX9_warmthOf_14 rfl (lv_at hl 1 rfl) ?_
    refine va_iald hx hb hK.1 hP 3 0 rfl rfl (g_in rfl (by omega) (by omega)) dX9_warmthOf_15 ?_
    refine lv_topi (fun z_4 ez_4 => ?_)
    have kz_4 := congrArg Int32.toInt ez_4
    refine lv_goto (tgt := 25) hx hb dX9_warmthOf_16 (by decide) ?_
    exact W.iret (v := z_4) hx hb hr (fun t ht hW => ⟨z_4, rfl, (by unfold wmF; first | (rw [if_pos (by omega)]; assumption) | (rw [if_neg (by omega)]; assumption)), ht⟩) (fun q h => by cases h) dX9_warmthOf_25
set_option maxHeartbeats 4000000 in
set_option maxRecDepth 100000 in
theorem g_X9_feed (l : Launch) (D : va_G) (E : Nat → Nat) (mh : Nat) (ma : Nat → Nat) (mcode : Int32) (mtoday : Int32) (moffs : Int32) (mmany : Int64) (msumW : Int64) (msumA : Int64) (msumR : Int64) (msumWW : Int64) (msumWA : Int64) (msumAA : Int64) (msumWR : Int64) (msumAR : Int64) (mupper : Int64) (mlower : Int64) (mrates : Int32) (mtaped : Int32) (mlaid : Int32) (mat : Int32) (mtk : Int32) (mtkAt : Int32) (mtkNumber : Int32) (mwaits : Int32) (mlisted : Int32) (mdealtMany : Int32) (mf32 : Nat → Int32) (p0 : Int32) (p1 : Int32) (sz : Nat) (hi_m : (0 ≤ mtoday.toInt ∧ mtoday.toInt ≤ 399) ∧ (0 ≤ moffs.toInt ∧ moffs.toInt ≤ 60) ∧ (0 ≤ mrates.toInt ∧ mrates.toInt ≤ 60) ∧ (0 ≤ mtaped.toInt ∧ mtaped.toInt ≤ 120) ∧ (0 ≤ mlisted.toInt ∧ mlisted.toInt ≤ 9) ∧ (0 ≤ mdealtMany.toInt ∧ mdealtMany.toInt ≤ 9)) : Met l yX9_feed (wl yX9_feed cX9_feed 4 (some .int)) (RM 1 0 0) (mu_P D E [.ref mh, .int p0, .int p1] [(mh, .inr (9, G9 ma mcode mtoday moffs mmany msumW msumA msumR msumWW msumWA msumAA msumWR msumAR mupper mlower mrates mtaped mlaid mat mtk mtkAt mtkNumber mwaits mlisted mdealtMany)), ((ma 32), .inl (E 2, 120, .inl mf32))] sz) (va_Qi (fun (r : Int32) (u : (Nat → Int32) × (Int32)) => (0 ≤ u.2.toInt ∧ u.2.toInt ≤ 120) ∧ ((¬ (1 ≤ p0.toInt ∧ p0.toInt ≤ 4) ∧ r.toInt = -1 ∧ u.2.toInt = mtaped.toInt) ∨ ((1 ≤ p0.toInt ∧ p0.toInt ≤ 4) ∧ 120 < mtaped.toInt + p0.toInt ∧ r.toInt = -5 ∧ u.2.toInt = mtaped.toInt) ∨ ((1 ≤ p0.toInt ∧ p0.toInt ≤ 4) ∧ mtaped.toInt + p0.toInt ≤ 120 ∧ r.toInt = mtaped.toInt + p0.toInt ∧ u.2.toInt = r.toInt))) (mu_B D (va_A [(mh, .inr (9, G9 ma mcode mtoday moffs mmany msumW msumA msumR msumWW msumWA msumAA msumWR msumAR mupper mlower mrates mtaped mlaid mat mtk mtkAt mtkNumber mwaits mlisted mdealtMany)), ((ma 32), .inl (E 2, 120, .inl mf32))] sz) (fun (u : (Nat → Int32) × (Int32)) => [(mh, .inr (9, G9 ma mcode mtoday moffs mmany msumW msumA msumR msumWW msumWA msumAA msumWR msumAR mupper mlower mrates u.2 mlaid mat mtk mtkAt mtkNumber mwaits mlisted mdealtMany)), ((ma 32), .inl (E 2, 120, .inl u.1))])) (va_A [(mh, .inr (9, G9 ma mcode mtoday moffs mmany msumW msumA msumR msumWW msumWA msumAA msumWR msumAR mupper mlower mrates mtaped mlaid mat mtk mtkAt mtkNumber mwaits mlisted mdealtMany)), ((ma 32), .inl (E 2, 120, .inl mf32))] sz)) 0 0 (va_A [(mh, .inr (9, G9 ma mcode mtoday moffs mmany msumW msumA msumR msumWW msumWA msumAA msumWR msumAR mupper mlower mrates mtaped mlaid mat mtk mtkAt mtkNumber mwaits mlisted mdealtMany)), ((ma 32), .inl (E 2, 120, .inl mf32))] sz) := by
  refine Met.ofW (cc := cX9_feed) (maxL := 4) (ret := (some .int)) (by decide) rfl ?_
  intro p e s m args below meth c s₁ B hml hv
  obtain ⟨rfl, hsz, hP, hK, hD0⟩ := hv
  have hx := B.exec; have hb := B.bytes; have hr := B.returns
  have hts := atoms_spec (ws := wl yX9_feed cX9_feed 4 (some .int)) B.pre
  have htb : ∀ w ∈ tb, w.before _ s = true := fun w h => hts w (List.mem_cons_of_mem _ h)
  have hown : s.vm.findClass RX9 = some m.cls := findClass_of_methodNamed B.named
  have hlocks := B.notSynchronized
  subst hsz
  have hD := hD0.self (sz := s.heap.size)
  generalize hAe : va_A [(mh, .inr (9, G9 ma mcode mtoday moffs mmany msumW msumA msumR msumWW msumWA msumAA msumWR msumAR mupper mlower mrates mtaped mlaid mat mtk mtkAt mtkNumber mwaits mlisted mdealtMany)), ((ma 32), .inl (E 2, 120, .inl mf32))] s.heap.size = A at hD ⊢
  have hA : ∀ q : Nat, s.heap.size ≤ q → A q := fun q h => by rw [← hAe]; exact Or.inr h
  have hS : va_S A s.heap s.heap [] := va_S.rf
  have hP : va_P D vwCl [(mh, .inr (9, G9 ma mcode mtoday moffs mmany msumW msumA msumR msumWW msumWA msumAA msumWR msumAR mupper mlower mrates mtaped mlaid mat mtk mtkAt mtkNumber mwaits mlisted mdealtMany)), ((ma 32), .inl (E 2, 120, .inl mf32))] s.heap := hP
  have hl := lv_entry ([.ref mh, .int p0, .int p1]) (n := 4) (Nat.le_of_ble_eq_true rfl)
  rw [lg_entry_eq]
  generalize (lg_sl ([.ref mh, .int p0, .int p1]) ++ List.replicate (4 - (lg_sl ([.ref mh, .int p0, .int p1])).length) Slot.unset).toArray = ls at hl ⊢
  have hl : lv_has ls 4 [(0, .ref mh), (1, .int p0), (2, .int p1)] := hl
  have lo_p0 := i_lo p0; have hi_p0 := i_hi p0
  have lo_p1 := i_lo p1; have hi_p1 := i_hi p1
  refine lv_iload_n hx hb dX9_feed_0 rfl (lv_at hl 1 rfl) ?_
  refine lv_iconst (v := 1) hx hb dX9_feed_1 (by decide) ?_
  refine lv_iconst (v := 4) hx hb dX9_feed_2 (by decide) ?_
  refine callRS (rest := []) (As := [.int p0, .int 1, .int 4]) hx hb hml hown htb hK (g_X9_in l D E p0 1 4 ) ok_X9_in k_1168 k_1169 k_9 k_1170 ⟨(Nat.le_of_ble_eq_true rfl), (Nat.le_of_ble_eq_true rfl)⟩ ⟨(Nat.le_of_ble_eq_true rfl), (Nat.le_of_ble_eq_true rfl)⟩ hl.1 (Nat.le_of_ble_eq_true rfl) rfl rfl dX9_feed_3 (hP.sub (ws' := ([] : va_W)) [] rfl) (fun r_1 hw_2 => ?_)
  try simp only [t_1, t_4] at hw_2
  rcases hw_2 with ⟨hr_1, hw_2⟩ | ⟨hr_1, hw_2⟩
  ·
    try simp only [t_1, t_4] at hw_2
    refine W_top (y := .int 1) (by rw [hr_1]) ?_
    refine lv_if_ne (tgt := 11) hx hb dX9_feed_6 (by decide) (fun c_4 => ?_) (fun c_4 => absurd c_4 (by decide))
    refine lv_aload_n hx hb dX9_feed_11 rfl (lv_at hl 0 rfl) ?_
    refine va_get (D := D) (ci := 9) (v := .int mtaped) (C := RX9) (T := TX9) (N := 68) hx hb htb iX9 hown hK.1 hP 0 rfl rfl 33 (by decide) (htb _ k_991) (fun _ h9 => h9) rfl dX9_feed_12 ?_
    refine lv_iload_n hx hb dX9_feed_15 rfl (lv_at hl 1 rfl) ?_
    refine lv_iadd hx hb dX9_feed_16 ?_
    refine lv_topi (fun z_5 ez_5 => ?_)
    have jz_5 : z_5.toInt = mtaped.toInt + p0.toInt := by rw [ez_5]; exact g_add rfl rfl (by omega) (by omega)
    refine lv_bipush (v := 120) hx hb dX9_feed_17 (by decide) ?_
    refine lv_icmp_le (tgt := 25) hx hb dX9_feed_19 (by decide) (fun c_6 => ?_) (fun c_6 => ?_)
    ·
      have ic_6 : z_5.toInt ≤ 120 := by first | exact (g_le rfl t_120).mp c_6 | (have h := mt (g_lt t_120 rfl).mpr c_6; omega)
      clear c_6
      refine lv_iconst (v := 0) hx hb dX9_feed_25 (by decide) ?_
      refine lv_istore_n (lv' := [(3, .int 0), (0, .ref mh), (1, .int p0), (2, .int p1)]) hx hb dX9_feed_26 rfl hl (by decide) rfl (fun ls hl => ?_)
      have loop_7 : ∀ (N_9 : Nat) (L3_27 : Int32) (mtaped_27 : Int32) (mf32_27 : Nat → Int32) (H : Heap) (locs : List Loc) (ls : Array Slot), p0.toInt - L3_27.toInt < (N_9 : Int) → (0 ≤ mtaped_27.toInt ∧ mtaped_27.toInt ≤ 120) → (0 ≤ L3_27.toInt ∧ L3_27.toInt ≤ p0.toInt) → (mtaped_27.toInt = mtaped.toInt + L3_27.toInt) → va_P D vwCl [(mh, .inr (9, G9 ma mcode mtoday moffs mmany msumW msumA msumR msumWW msumWA msumAA msumWR msumAR mupper mlower mrates mtaped_27 mlaid mat mtk mtkAt mtkNumber mwaits mlisted mdealtMany)), ((ma 32), .inl (E 2, 120, .inl mf32_27))] H → va_D A [(mh, .inr (9, G9 ma mcode mtoday moffs mmany msumW msumA msumR msumWW msumWA msumAA msumWR msumAR mupper mlower mrates mtaped_27 mlaid mat mtk mtkAt mtkNumber mwaits mlisted mdealtMany)), ((ma 32), .inl (E 2, 120, .inl mf32_27))] → va_S A s.heap H locs → lv_has ls 4 [(3, .int L3_27), (0, .ref mh), (1, .int p0), (2, .int p1)] → W p l e (headSpec (wl yX9_feed cX9_feed 4 (some .int)) (RM 1 0 0)).room s m [Value.ref mh, .int p0, .int p1].toArray below meth c H locs 0 0 (MQ below (va_Qi (fun (r : Int32) (u : (Nat → Int32) × (Int32)) => (0 ≤ u.2.toInt ∧ u.2.toInt ≤ 120) ∧ ((¬ (1 ≤ p0.toInt ∧ p0.toInt ≤ 4) ∧ r.toInt = -1 ∧ u.2.toInt = mtaped.toInt) ∨ ((1 ≤ p0.toInt ∧ p0.toInt ≤ 4) ∧ 120 < mtaped.toInt + p0.toInt ∧ r.toInt = -5 ∧ u.2.toInt = mtaped.toInt) ∨ ((1 ≤ p0.toInt ∧ p0.toInt ≤ 4) ∧ mtaped.toInt + p0.toInt ≤ 120 ∧ r.toInt = mtaped.toInt + p0.toInt ∧ u.2.toInt = r.toInt))) (mu_B D A (fun (u : (Nat → Int32) × (Int32)) => [(mh, .inr (9, G9 ma mcode mtoday moffs mmany msumW msumA msumR msumWW msumWA msumAA msumWR msumAR mupper mlower mrates u.2 mlaid mat mtk mtkAt mtkNumber mwaits mlisted mdealtMany)), ((ma 32), .inl (E 2, 120, .inl u.1))])) A) [Value.ref mh, .int p0, .int p1].toArray s 0 0 A) (F0 m 27 ls []) := by
        intro N_9
        induction N_9 with
        | zero => intro L3_27 mtaped_27 mf32_27 H locs ls hm v_mtaped_27 v0_27 v1_27 _ _ _ _; exfalso; omega
        | succ N_9 ih_8 =>
          intro L3_27 mtaped_27 mf32_27 H locs ls hm v_mtaped_27 v0_27 v1_27 hP hD hS hl
          have lo_L3_27 := i_lo L3_27; have hi_L3_27 := i_hi L3_27
          have lo_mtaped_27 := i_lo mtaped_27; have hi_mtaped_27 := i_hi mtaped_27
          refine lv_iload_n hx hb dX9_feed_27 rfl (lv_at hl 0 rfl) ?_
          refine lv_iload_n hx hb dX9_feed_28 rfl (lv_at hl 2 rfl) ?_
          refine lv_icmp_ge (tgt := 64) hx hb dX9_feed_29 (by decide) (fun c_10 => ?_) (fun c_10 => ?_)
          ·
            have ic_10 : p0.toInt ≤ L3_27.toInt := by first | exact (g_le rfl rfl).mp c_10 | (have h := mt (g_lt rfl rfl).mpr c_10; omega)
            clear c_10
            refine lv_aload_n hx hb dX9_feed_64 rfl (lv_at hl 1 rfl) ?_
            refine va_get (D := D) (ci := 9) (v := .int mtaped_27) (C := RX9) (T := TX9) (N := 68) hx hb htb iX9 hown hK.1 hP 0 rfl rfl 33 (by decide) (htb _ k_991) (fun _ h9 => h9) rfl dX9_feed_65 ?_
            have hP9 := hP.sub (ws' := [(mh, .inr (9, G9 ma mcode mtoday moffs mmany msumW msumA msumR msumWW msumWA msumAA msumWR msumAR mupper mlower mrates mtaped_27 mlaid mat mtk mtkAt mtkNumber mwaits mlisted mdealtMany)), ((ma 32), .inl (E 2, 120, .inl mf32_27))]) [0, 1] rfl
            have hD9 := hD.sub (ws' := [(mh, .inr (9, G9 ma mcode mtoday moffs mmany msumW msumA msumR msumWW msumWA msumAA msumWR msumAR mupper mlower mrates mtaped_27 mlaid mat mtk mtkAt mtkNumber mwaits mlisted mdealtMany)), ((ma 32), .inl (E 2, 120, .inl mf32_27))]) [0, 1] (by decide) rfl
            exact W.iret (v := mtaped_27) hx hb hr (fun t ht hW => ⟨⟨mtaped_27, (mf32_27, mtaped_27), rfl, ⟨(by (try dsimp only); omega), (by (try dsimp only); omega)⟩, by rw [ht]; exact hP9, hD9⟩, hS.F ht⟩) hS.2.2 dX9_feed_68
          ·
            have ic_10 : L3_27.toInt < p0.toInt := by first | exact (g_lt rfl rfl).mp c_10 | (have h := mt (g_le rfl rfl).mpr c_10; omega)
            clear c_10
            refine lv_aload_n hx hb dX9_feed_32 rfl (lv_at hl 1 rfl) ?_
            refine va_get (D := D) (ci := 9) (v := .ref (ma 32)) (C := RX9) (T := TX9) (N := 68) hx hb htb iX9 hown hK.1 hP 0 rfl rfl 32 (by decide) (htb _ k_990) (fun _ h9 => h9) rfl dX9_feed_33 ?_
            refine lv_aload_n hx hb dX9_feed_36 rfl (lv_at hl 1 rfl) ?_
            refine va_get (D := D) (ci := 9) (v := .int mtaped_27) (C := RX9) (T := TX9) (N := 68) hx hb htb iX9 hown hK.1 hP 0 rfl rfl 33 (by decide) (htb _ k_991) (fun _ h9 => h9) rfl dX9_feed_37 ?_
            refine lv_iload_n hx hb dX9_feed_40 rfl (lv_at hl 3 rfl) ?_
            refine lv_bipush (v := 8) hx hb dX9_feed_41 (by decide) ?_
            refine lv_iload_n hx hb dX9_feed_43 rfl (lv_at hl 0 rfl) ?_
            refine lv_imul hx hb dX9_feed_44 ?_
            refine lv_topi (fun z_11 ez_11 => ?_)
            have jz_11 : z_11.toInt = 8 * L3_27.toInt := by rw [ez_11]; exact g_mul t_8 rfl (by omega) (by omega)
            refine lv_ishr hx hb dX9_feed_45 ?_
            refine lv_topi (fun z_12 ez_12 => ?_)
            obtain ⟨z_13, ez_13⟩ : ∃ y : Int32, (z_12 : Int32).toInt8.toInt32 = y := ⟨_, rfl⟩
            refine lv_i2b hx hb dX9_feed_46 ez_13 ?_
            refine va_bast hx hb hK.1 hP hD hS 1 2 rfl rfl (g_in rfl (by omega) (by omega)) dX9_feed_47 (fun H locs hP hD hS => ?_)
            have hP : va_P D vwCl [(mh, .inr (9, G9 ma mcode mtoday moffs mmany msumW msumA msumR msumWW msumWA msumAA msumWR msumAR mupper mlower mrates mtaped_27 mlaid mat mtk mtkAt mtkNumber mwaits mlisted mdealtMany)), ((ma 32), .inl (E 2, 120, .inl (upd mf32_27 (mtaped_27 : Int32).toNatClampNeg (vp_nar .byte z_13))))] H := hP
            have hD := toW hP hD rfl
            generalize (upd mf32_27 (mtaped_27 : Int32).toNatClampNeg (vp_nar .byte z_13)) = g_14 at hP hD
            refine lv_aload_n hx hb dX9_feed_48 rfl (lv_at hl 1 rfl) ?_
            refine lv_dup hx hb dX9_feed_49 rfl ?_
            refine va_get (D := D) (ci := 9) (v := .int mtaped_27) (C := RX9) (T := TX9) (N := 68) hx hb htb iX9 hown hK.1 hP 0 rfl rfl 33 (by decide) (htb _ k_991) (fun _ h9 => h9) rfl dX9_feed_50 ?_
            refine lv_iconst (v := 1) hx hb dX9_feed_53 (by decide) ?_
            refine lv_iadd hx hb dX9_feed_54 ?_
            refine lv_topi (fun z_15 ez_15 => ?_)
            have jz_15 : z_15.toInt = mtaped_27.toInt + 1 := by rw [ez_15]; exact g_add rfl t_1 (by omega) (by omega)
            refine va_put (D := D) (ci := 9) (v := .int z_15) (ty := .int) (C := RX9) (T := TX9) (N := 68) hx hb htb iX9 tyX9 tyX9_ok nmX9 hown hK.1 hP hD hS 0 rfl rfl 33 (by decide) (htb _ k_991) (fun _ h9 => h9) rfl (by decide +kernel) rfl rfl (Nat.le_of_ble_eq_true rfl) dX9_feed_55 (fun H locs hP hD hS => ?_)
            have hP : va_P D vwCl [(mh, .inr (9, G9 ma mcode mtoday moffs mmany msumW msumA msumR msumWW msumWA msumAA msumWR msumAR mupper mlower mrates z_15 mlaid mat mtk mtkAt mtkNumber mwaits mlisted mdealtMany)), ((ma 32), .inl (E 2, 120, .inl g_14))] H := hP
            have hD := toW hP hD rfl
            obtain ⟨z_16, ez_16⟩ : ∃ y : Int32, y = L3_27 + 1 := ⟨_, rfl⟩
            have jz_16 : z_16.toInt = L3_27.toInt + 1 := by rw [ez_16]; exact g_add rfl t_1 (by omega) (by omega)
            refine lv_iinc (v := z_16) (lv' := [(3, .int z_16), (0, .ref mh), (1, .int p0), (2, .int p1)]) hx hb dX9_feed_58 hl (k := 0) rfl (by rw [ez_16]; rfl) (by decide) rfl (fun ls hl => ?_)
            refine lv_goto (tgt := 27) hx hb dX9_feed_61 (by decide) ?_
            exact ih_8 z_16 z_15 g_14 _ _ _ (by (try dsimp only); omega) (by (try dsimp only); omega) (by (try dsimp only); omega) (by (try dsimp only); omega) hP hD hS (lv_sub hl [0, 1, 2, 3] rfl)
      exact loop_7 5 0 mtaped mf32 _ _ _ (by have h0 := t_0; (try dsimp only); omega) (by (try dsimp only); omega) (by have h0 := t_0; (try dsimp only); omega) (by have h0 := t_0; (try dsimp only); omega) hP hD hS (lv_sub hl [0, 1, 2, 3] rfl)
    ·
      have ic_6 : 120 < z_5.toInt := by first | exact (g_lt t_120 rfl).mp c_6 | (have h := mt (g_le rfl t_120).mpr c_6; omega)
      clear c_6
      refine lv_bipush (v := (-5)) hx hb dX9_feed_22 (by decide) ?_
      have hP9 := hP.sub (ws' := [(mh, .inr (9, G9 ma mcode mtoday moffs mmany msumW msumA msumR msumWW msumWA msumAA msumWR msumAR mupper mlower mrates mtaped mlaid mat mtk mtkAt mtkNumber mwaits mlisted mdealtMany)), ((ma 32), .inl (E 2, 120, .inl mf32))]) [0, 1] rfl
      have hD9 := hD.sub (ws' := [(mh, .inr (9, G9 ma mcode mtoday moffs mmany msumW msumA msumR msumWW msumWA msumAA msumWR msumAR mupper mlower mrates mtaped mlaid mat mtk mtkAt mtkNumber mwaits mlisted mdealtMany)), ((ma 32), .inl (E 2, 120, .inl mf32))]) [0, 1] (by decide) rfl
      exact W.iret (v := (-5)) hx hb hr (fun t ht hW => ⟨⟨(-5), (mf32, mtaped), rfl, ⟨(by (try dsimp only); omega), (by have h0 := t_m5; (try dsimp only); omega)⟩, by rw [ht]; exact hP9, hD9⟩, hS.F ht⟩) hS.2.2 dX9_feed_24
  ·
    try simp only [t_1, t_4] at hw_2
    refine W_top (y := .int 0) (by rw [hr_1]) ?_
    refine lv_if_ne (tgt := 11) hx hb dX9_feed_6 (by decide) (fun c_17 => absurd (by decide) c_17) (fun c_17 => ?_)
    refine lv_iconst (v := (-1)) hx hb dX9_feed_9 (by decide) ?_
    have hP9 := hP.sub (ws' := [(mh, .inr (9, G9 ma mcode mtoday moffs mmany msumW msumA msumR msumWW msumWA msumAA msumWR msumAR mupper mlower mrates mtaped mlaid mat mtk mtkAt mtkNumber mwaits mlisted mdealtMany)), ((ma 32), .inl (E 2, 120, .inl mf32))]) [0, 1] rfl
    have hD9 := hD.sub (ws' := [(mh, .inr (9, G9 ma mcode mtoday moffs mmany msumW msumA msumR msumWW msumWA msumAA msumWR msumAR mupper mlower mrates mtaped mlaid mat mtk mtkAt mtkNumber mwaits mlisted mdealtMany)), ((ma 32), .inl (E 2, 120, .inl mf32))]) [0, 1] (by decide) rfl
    exact W.iret (v := (-1)) hx hb hr (fun t ht hW => ⟨⟨(-1), (mf32, mtaped), rfl, ⟨(by (try dsimp only); omega), (by have h0 := t_m1; (try dsimp only); omega)⟩, by rw [ht]; exact hP9, hD9⟩, hS.F ht⟩) hS.2.2 dX9_feed_10
end
section
set_option maxHeartbeats 4000000 in
set_option maxRecDepth 100000 in
theorem g_X9_asked (l : Launch) (D : va_G) (E : Nat → Nat) (mh : Nat) (ma : Nat → Nat) (mcode : Int32) (mtoday : Int32) (moffs : Int32) (mmany : Int64) (msumW : Int64) (msumA : Int64) (msumR : Int64) (msumWW : Int64) (msumWA : Int64) (msumAA : Int64) (msumWR : Int64) (msumAR : Int64) (mupper : Int64) (mlower : Int64) (mrates : Int32) (mtaped : Int32) (mlaid : Int32) (mat : Int32) (mtk : Int32) (mtkAt : Int32) (mtkNumber : Int32) (mwaits : Int32) (mlisted : Int32) (mdealtMany : Int32) (mf3 : Nat → Int32) (p0 : Int32) (p1 : Int32) (p2 : Int32) (hi_m : (0 ≤ mtoday.toInt ∧ mtoday.toInt ≤ 399) ∧ (0 ≤ moffs.toInt ∧ moffs.toInt ≤ 60) ∧ (0 ≤ mrates.toInt ∧ mrates.toInt ≤ 60) ∧ (0 ≤ mtaped.toInt ∧ mtaped.toInt ≤ 120) ∧ (0 ≤ mlisted.toInt ∧ mlisted.toInt ≤ 9) ∧ (0 ≤ mdealtMany.toInt ∧ mdealtMany.toInt ≤ 9)) : Met l yX9_asked (wl yX9_asked cX9_asked 4 (some .int)) (RM 3 0 0) (rd_P D E [.ref mh, .int p0, .int p1, .int p2] [(mh, .inr (9, G9 ma mcode mtoday moffs mmany msumW msumA msumR msumWW msumWA msumAA msumWR msumAR mupper mlower mrates mtaped mlaid mat mtk mtkAt mtkNumber mwaits mlisted mdealtMany)), ((ma 3), .inl (E 0, 16, .inl mf3))]) (rd_Q (fun r => ((r.toInt = -1 ∧ ¬ ((0 ≤ p0.toInt ∧ p0.toInt ≤ 15) ∧ (0 ≤ p1.toInt ∧ p2.toInt ≤ 399 ∧ p1.toInt < p2.toInt ∧ p2.toInt - p1.toInt ≤ 60))) ∨ (((0 ≤ p0.toInt ∧ p0.toInt ≤ 15) ∧ (0 ≤ p1.toInt ∧ p2.toInt ≤ 399 ∧ p1.toInt < p2.toInt ∧ p2.toInt - p1.toInt ≤ 60)) ∧ (((mf3 (p0).toNatClampNeg).toInt = -5 ∧ r.toInt = -2) ∨ ((mf3 (p0).toNatClampNeg).toInt = 2 ∧ r.toInt = -3))) ∨ (((0 ≤ p0.toInt ∧ p0.toInt ≤ 15) ∧ (0 ≤ p1.toInt ∧ p2.toInt ≤ 399 ∧ p1.toInt < p2.toInt ∧ p2.toInt - p1.toInt ≤ 60)) ∧ ((mf3 (p0).toNatClampNeg).toInt ≠ -5 ∧ (mf3 (p0).toNatClampNeg).toInt ≠ 2) ∧ r.toInt = 0)))) 0 0 (fun _ => False) := by
  refine Met.ofW (cc := cX9_asked) (maxL := 4) (ret := (some .int)) (by decide) rfl ?_
  intro p e s m args below meth c s₁ B hml hv
  obtain ⟨rfl, hP, hK⟩ := hv
  have hx := B.exec; have hb := B.bytes; have hr := B.returns
  have hts := atoms_spec (ws := wl yX9_asked cX9_asked 4 (some .int)) B.pre
  have htb : ∀ w ∈ tb, w.before _ s = true := fun w h => hts w (List.mem_cons_of_mem _ h)
  have hown : s.vm.findClass RX9 = some m.cls := findClass_of_methodNamed B.named
  have hlocks := B.notSynchronized
  have hP : va_P D vwCl [(mh, .inr (9, G9 ma mcode mtoday moffs mmany msumW msumA msumR msumWW msumWA msumAA msumWR msumAR mupper mlower mrates mtaped mlaid mat mtk mtkAt mtkNumber mwaits mlisted mdealtMany)), ((ma 3), .inl (E 0, 16, .inl mf3))] s.heap := hP
  have hl := lv_entry ([.ref mh, .int p0, .int p1, .int p2]) (n := 4) (Nat.le_of_ble_eq_true rfl)
  rw [lg_entry_eq]
  generalize (lg_sl ([.ref mh, .int p0, .int p1, .int p2]) ++ List.replicate (4 - (lg_sl ([.ref mh, .int p0, .int p1, .int p2])).length) Slot.unset).toArray = ls at hl ⊢
  have hl : lv_has ls 4 [(0, .ref mh), (1, .int p0), (2, .int p1), (3, .int p2)] := hl
  have lo_p0 := i_lo p0; have hi_p0 := i_hi p0
  have lo_p1 := i_lo p1; have hi_p1 := i_hi p1
  have lo_p2 := i_lo p2; have hi_p2 := i_hi p2
  refine lv_iload_n hx hb dX9_asked_0 rfl (lv_at hl 1 rfl) ?_
  refine callRS (rest := []) (As := [.int p0]) hx hb hml hown htb hK (g_X9_isPlace l D E p0 ) ok_X9_isPlace k_1182 k_1183 k_9 k_1184 ⟨(Nat.le_of_ble_eq_true rfl), (Nat.le_of_ble_eq_true rfl)⟩ ⟨(Nat.le_of_ble_eq_true rfl), (Nat.le_of_ble_eq_true rfl)⟩ hl.1 (Nat.le_of_ble_eq_true rfl) rfl rfl dX9_asked_1 (hP.sub (ws' := ([] : va_W)) [] rfl) (fun r_1 hw_2 => ?_)
  rcases hw_2 with ⟨hr_1, hw_2⟩ | ⟨hr_1, hw_2⟩
  ·
    refine W_top (y := .int 1) (by rw [hr_1]) ?_
    refine lv_if_eq (tgt := 15) hx hb dX9_asked_4 (by decide) (fun c_4 => absurd c_4 (by decide)) (fun c_4 => ?_)
    refine lv_iload_n hx hb dX9_asked_7 rfl (lv_at hl 2 rfl) ?_
    refine lv_iload_n hx hb dX9_asked_8 rfl (lv_at hl 3 rfl) ?_
    refine callRS (rest := []) (As := [.int p1, .int p2]) hx hb hml hown htb hK (g_X9_areDays l D E p1 p2 ) ok_X9_areDays k_1262 k_1263 k_9 k_1264 ⟨(Nat.le_of_ble_eq_true rfl), (Nat.le_of_ble_eq_true rfl)⟩ ⟨(Nat.le_of_ble_eq_true rfl), (Nat.le_of_ble_eq_true rfl)⟩ hl.1 (Nat.le_of_ble_eq_true rfl) rfl rfl dX9_asked_9 (hP.sub (ws' := ([] : va_W)) [] rfl) (fun r_5 hw_6 => ?_)
    rcases hw_6 with ⟨hr_5, hw_6⟩ | ⟨hr_5, hw_6⟩
    ·
      refine W_top (y := .int 1) (by rw [hr_5]) ?_
      refine lv_if_ne (tgt := 19) hx hb dX9_asked_12 (by decide) (fun c_8 => ?_) (fun c_8 => absurd c_8 (by decide))
      refine lv_aload_n hx hb dX9_asked_19 rfl (lv_at hl 0 rfl) ?_
      refine lv_iload_n hx hb dX9_asked_20 rfl (lv_at hl 1 rfl) ?_
      refine callRV (rest := []) (As := [.int p0]) hx hb hml hown htb hK (g_X9_watchAt l D E mh ma mcode mtoday moffs mmany msumW msumA msumR msumWW msumWA msumAA msumWR msumAR mupper mlower mrates mtaped mlaid mat mtk mtkAt mtkNumber mwaits mlisted mdealtMany mf3 p0 (by (try dsimp only); omega)) ok_X9_watchAt k_1212 k_1214 ks_41 k_9 k_1215 ⟨(Nat.le_of_ble_eq_true rfl), (Nat.le_of_ble_eq_true rfl)⟩ ⟨(Nat.le_of_ble_eq_true rfl), (Nat.le_of_ble_eq_true rfl)⟩ hl.1 (Nat.le_of_ble_eq_true rfl) rfl rfl dX9_asked_21 (hP.sub (ws' := [(mh, .inr (9, G9 ma mcode mtoday moffs mmany msumW msumA msumR msumWW msumWA msumAA msumWR msumAR mupper mlower mrates mtaped mlaid mat mtk mtkAt mtkNumber mwaits mlisted mdealtMany)), ((ma 3), .inl (E 0, 16, .inl mf3))]) [0, 1] rfl) rfl rfl 0 rfl (fun r_9 hw_10 => ?_)
      exact W.iret (v := r_9) hx hb hr (fun t ht hW => ⟨r_9, rfl, (by rcases hw_10 with h9 | h9 | h9 | h9 <;> first | (exfalso; omega) | exact Or.inr (Or.inl ⟨by omega, by omega⟩) | exact Or.inr (Or.inr ⟨by omega, by omega, by omega⟩)), ht⟩) (fun q h => by cases h) dX9_asked_24
    ·
      refine W_top (y := .int 0) (by rw [hr_5]) ?_
      refine lv_if_ne (tgt := 19) hx hb dX9_asked_12 (by decide) (fun c_12 => absurd (by decide) c_12) (fun c_12 => ?_)
      refine lv_iconst (v := (-1)) hx hb dX9_asked_15 (by decide) ?_
      refine lv_goto (tgt := 24) hx hb dX9_asked_16 (by decide) ?_
      exact W.iret (v := (-1)) hx hb hr (fun t ht hW => ⟨(-1), rfl, (Or.inl ⟨by have hl0 := t_m1; omega, by omega⟩), ht⟩) (fun q h => by cases h) dX9_asked_24
  ·
    refine W_top (y := .int 0) (by rw [hr_1]) ?_
    refine lv_if_eq (tgt := 15) hx hb dX9_asked_4 (by decide) (fun c_13 => ?_) (fun c_13 => absurd (by decide) c_13)
    refine lv_iconst (v := (-1)) hx hb dX9_asked_15 (by decide) ?_
    refine lv_goto (tgt := 24) hx hb dX9_asked_16 (by decide) ?_
    exact W.iret (v := (-1)) hx hb hr (fun t ht hW => ⟨(-1), rfl, (Or.inl ⟨by have hl0 := t_m1; omega, by omega⟩), ht⟩) (fun q h => by cases h) dX9_asked_24
set_option maxHeartbeats 4000000 in
set_option maxRecDepth 100000 in
theorem g_X9_sumUp (l : Launch) (D : va_G) (E : Nat → Nat) (mh : Nat) (ma : Nat → Nat) (mcode : Int32) (mtoday : Int32) (moffs : Int32) (mmany : Int64) (msumW : Int64) (msumA : Int64) (msumR : Int64) (msumWW : Int64) (msumWA : Int64) (msumAA : Int64) (msumWR : Int64) (msumAR : Int64) (mupper : Int64) (mlower : Int64) (mrates : Int32) (mtaped : Int32) (mlaid : Int32) (mat : Int32) (mtk : Int32) (mtkAt : Int32) (mtkNumber : Int32) (mwaits : Int32) (mlisted : Int32) (mdealtMany : Int32) (mf2 : Nat → Int32) (mf3 : Nat → Int32) (mf4 : Nat → Int32) (mf5 : Nat → Int32) (mf6 : Nat → Int32) (mf7 : Nat → Int32) (mf8 : Nat → Int32) (mf9 : Nat → Int32) (mf12 : Nat → Int32) (mf13 : Nat → Int32) (mf14 : Nat → Int32) (mf15 : Nat → Int32) (mf16 : Nat → Int32) (p0 : Int32) (p1 : Int32) (p2 : Int32) (sz : Nat) (hi_m : (0 ≤ mtoday.toInt ∧ mtoday.toInt ≤ 399) ∧ (0 ≤ moffs.toInt ∧ moffs.toInt ≤ 60) ∧ (0 ≤ mrates.toInt ∧ mrates.toInt ≤ 60) ∧ (0 ≤ mtaped.toInt ∧ mtaped.toInt ≤ 120) ∧ (0 ≤ mlisted.toInt ∧ mlisted.toInt ≤ 9) ∧ (0 ≤ mdealtMany.toInt ∧ mdealtMany.toInt ≤ 9)) (g0 : 0 ≤ p0.toInt ∧ p0.toInt ≤ 15) (g1 : 0 ≤ p1.toInt ∧ p1.toInt ≤ p2.toInt ∧ p2.toInt ≤ 399 ∧ p2.toInt - p1.toInt ≤ 60) : Met l yX9_sumUp (wl yX9_sumUp cX9_sumUp 11 none) (RM 3 0 0) (mu_P D E [.ref mh, .int p0, .int p1, .int p2] [(mh, .inr (9, G9 ma mcode mtoday moffs mmany msumW msumA msumR msumWW msumWA msumAA msumWR msumAR mupper mlower mrates mtaped mlaid mat mtk mtkAt mtkNumber mwaits mlisted mdealtMany)), ((ma 2), .inl (E 0, 400, .inl mf2)), ((ma 3), .inl (E 0, 16, .inl mf3)), ((ma 4), .inl (E 0, 16, .inl mf4)), ((ma 5), .inl (E 1, 6400, .inl mf5)), ((ma 6), .inl (E 0, 6400, .inl mf6)), ((ma 7), .inl (E 0, 6400, .inl mf7)), ((ma 8), .inl (E 1, 6400, .inl mf8)), ((ma 9), .inl (E 1, 6400, .inl mf9)), ((ma 12), .inl (E 0, 60, .inl mf12)), ((ma 13), .inl (E 0, 60, .inl mf13)), ((ma 14), .inl (E 0, 60, .inl mf14)), ((ma 15), .inl (E 0, 60, .inl mf15)), ((ma 16), .inl (E 0, 60, .inl mf16))] sz) (va_Qv (fun (u : (Int64) × (Int64) × (Int64) × (Int64) × (Int64) × (Int64) × (Int64) × (Int64) × (Int64)) => ((u.1, u.2.2.2.2.1, u.2.2.2.2.2.1, u.2.1, u.2.2.2.2.2.2.2.2, u.2.2.1, u.2.2.2.2.2.2.1, u.2.2.2.2.2.2.2.1, u.2.2.2.1) = fold9 (fun d => wmF mf3 mf4 mf2 p0 d) (fun d => agI mf8 (400 * p0.toInt).toNat d) (-1000) (rateL (fun d => ratF mf5 mf6 mf7 mf8 mf9 mf12 mf13 mf14 mf15 mf16 moffs p0 d (-1)) p1 (p2.toInt - p1.toInt).toNat))) (mu_B D (va_A [(mh, .inr (9, G9 ma mcode mtoday moffs mmany msumW msumA msumR msumWW msumWA msumAA msumWR msumAR mupper mlower mrates mtaped mlaid mat mtk mtkAt mtkNumber mwaits mlisted mdealtMany)), ((ma 2), .inl (E 0, 400, .inl mf2)), ((ma 3), .inl (E 0, 16, .inl mf3)), ((ma 4), .inl (E 0, 16, .inl mf4)), ((ma 5), .inl (E 1, 6400, .inl mf5)), ((ma 6), .inl (E 0, 6400, .inl mf6)), ((ma 7), .inl (E 0, 6400, .inl mf7)), ((ma 8), .inl (E 1, 6400, .inl mf8)), ((ma 9), .inl (E 1, 6400, .inl mf9)), ((ma 12), .inl (E 0, 60, .inl mf12)), ((ma 13), .inl (E 0, 60, .inl mf13)), ((ma 14), .inl (E 0, 60, .inl mf14)), ((ma 15), .inl (E 0, 60, .inl mf15)), ((ma 16), .inl (E 0, 60, .inl mf16))] sz) (fun (u : (Int64) × (Int64) × (Int64) × (Int64) × (Int64) × (Int64) × (Int64) × (Int64) × (Int64)) => [(mh, .inr (9, G9 ma mcode mtoday moffs u.1 u.2.2.2.2.2.1 u.2.1 u.2.2.2.2.1 u.2.2.2.2.2.2.2.2 u.2.2.2.2.2.2.1 u.2.2.1 u.2.2.2.2.2.2.2.1 u.2.2.2.1 mupper mlower mrates mtaped mlaid mat mtk mtkAt mtkNumber mwaits mlisted mdealtMany)), ((ma 2), .inl (E 0, 400, .inl mf2)), ((ma 3), .inl (E 0, 16, .inl mf3)), ((ma 4), .inl (E 0, 16, .inl mf4)), ((ma 5), .inl (E 1, 6400, .inl mf5)), ((ma 6), .inl (E 0, 6400, .inl mf6)), ((ma 7), .inl (E 0, 6400, .inl mf7)), ((ma 8), .inl (E 1, 6400, .inl mf8)), ((ma 9), .inl (E 1, 6400, .inl mf9)), ((ma 12), .inl (E 0, 60, .inl mf12)), ((ma 13), .inl (E 0, 60, .inl mf13)), ((ma 14), .inl (E 0, 60, .inl mf14)), ((ma 15), .inl (E 0, 60, .inl mf15)), ((ma 16), .inl (E 0, 60, .inl mf16))])) (va_A [(mh, .inr (9, G9 ma mcode mtoday moffs mmany msumW msumA msumR msumWW msumWA msumAA msumWR msumAR mupper mlower mrates mtaped mlaid mat mtk mtkAt mtkNumber mwaits mlisted mdealtMany)), ((ma 2), .inl (E 0, 400, .inl mf2)), ((ma 3), .inl (E 0, 16, .inl mf3)), ((ma 4), .inl (E 0, 16, .inl mf4)), ((ma 5), .inl (E 1, 6400, .inl mf5)), ((ma 6), .inl (E 0, 6400, .inl mf6)), ((ma 7), .inl (E 0, 6400, .inl mf7)), ((ma 8), .inl (E 1, 6400, .inl mf8)), ((ma 9), .inl (E 1, 6400, .inl mf9)), ((ma 12), .inl (E 0, 60, .inl mf12)), ((ma 13), .inl (E 0, 60, .inl mf13)), ((ma 14), .inl (E 0, 60, .inl mf14)), ((ma 15), .inl (E 0, 60, .inl mf15)), ((ma 16), .inl (E 0, 60, .inl mf16))] sz)) 0 0 (va_A [(mh, .inr (9, G9 ma mcode mtoday moffs mmany msumW msumA msumR msumWW msumWA msumAA msumWR msumAR mupper mlower mrates mtaped mlaid mat mtk mtkAt mtkNumber mwaits mlisted mdealtMany)), ((ma 2), .inl (E 0, 400, .inl mf2)), ((ma 3), .inl (E 0, 16, .inl mf3)), ((ma 4), .inl (E 0, 16, .inl mf4)), ((ma 5), .inl (E 1, 6400, .inl mf5)), ((ma 6), .inl (E 0, 6400, .inl mf6)), ((ma 7), .inl (E 0, 6400, .inl mf7)), ((ma 8), .inl (E 1, 6400, .inl mf8)), ((ma 9), .inl (E 1, 6400, .inl mf9)), ((ma 12), .inl (E 0, 60, .inl mf12)), ((ma 13), .inl (E 0, 60, .inl mf13)), ((ma 14), .inl (E 0, 60, .inl mf14)), ((ma 15), .inl (E 0, 60, .inl mf15)), ((ma 16), .inl (E 0, 60, .inl mf16))] sz) := by
  refine Met.ofW (cc := cX9_sumUp) (maxL := 11) (ret := none) (by decide) rfl ?_
  intro p e s m args below meth c s₁ B hml hv
  obtain ⟨rfl, hsz, hP, hK, hD0⟩ := hv
  have hx := B.exec; have hb := B.bytes; have hr := B.returns
  have hts := atoms_spec (ws := wl yX9_sumUp cX9_sumUp 11 none) B.pre
  have htb : ∀ w ∈ tb, w.before _ s = true := fun w h => hts w (List.mem_cons_of_mem _ h)
  have hown : s.vm.findClass RX9 = some m.cls := findClass_of_methodNamed B.named
  have hlocks := B.notSynchronized
  subst hsz
  have hD := hD0.self (sz := s.heap.size)
  generalize hAe : va_A [(mh, .inr (9, G9 ma mcode mtoday moffs mmany msumW msumA msumR msumWW msumWA msumAA msumWR msumAR mupper mlower mrates mtaped mlaid mat mtk mtkAt mtkNumber mwaits mlisted mdealtMany)), ((ma 2), .inl (E 0, 400, .inl mf2)), ((ma 3), .inl (E 0, 16, .inl mf3)), ((ma 4), .inl (E 0, 16, .inl mf4)), ((ma 5), .inl (E 1, 6400, .inl mf5)), ((ma 6), .inl (E 0, 6400, .inl mf6)), ((ma 7), .inl (E 0, 6400, .inl mf7)), ((ma 8), .inl (E 1, 6400, .inl mf8)), ((ma 9), .inl (E 1, 6400, .inl mf9)), ((ma 12), .inl (E 0, 60, .inl mf12)), ((ma 13), .inl (E 0, 60, .inl mf13)), ((ma 14), .inl (E 0, 60, .inl mf14)), ((ma 15), .inl (E 0, 60, .inl mf15)), ((ma 16), .inl (E 0, 60, .inl mf16))] s.heap.size = A at hD ⊢
  have hA : ∀ q : Nat, s.heap.size ≤ q → A q := fun q h => by rw [← hAe]; exact Or.inr h
  have hS : va_S A s.heap s.heap [] := va_S.rf
  have hP : va_P D vwCl [(mh, .inr (9, G9 ma mcode mtoday moffs mmany msumW msumA msumR msumWW msumWA msumAA msumWR msumAR mupper mlower mrates mtaped mlaid mat mtk mtkAt mtkNumber mwaits mlisted mdealtMany)), ((ma 2), .inl (E 0, 400, .inl mf2)), ((ma 3), .inl (E 0, 16, .inl mf3)), ((ma 4), .inl (E 0, 16, .inl mf4)), ((ma 5), .inl (E 1, 6400, .inl mf5)), ((ma 6), .inl (E 0, 6400, .inl mf6)), ((ma 7), .inl (E 0, 6400, .inl mf7)), ((ma 8), .inl (E 1, 6400, .inl mf8)), ((ma 9), .inl (E 1, 6400, .inl mf9)), ((ma 12), .inl (E 0, 60, .inl mf12)), ((ma 13), .inl (E 0, 60, .inl mf13)), ((ma 14), .inl (E 0, 60, .inl mf14)), ((ma 15), .inl (E 0, 60, .inl mf15)), ((ma 16), .inl (E 0, 60, .inl mf16))] s.heap := hP
  have hl := lv_entry ([.ref mh, .int p0, .int p1, .int p2]) (n := 11) (Nat.le_of_ble_eq_true rfl)
  rw [lg_entry_eq]
  generalize (lg_sl ([.ref mh, .int p0, .int p1, .int p2]) ++ List.replicate (11 - (lg_sl ([.ref mh, .int p0, .int p1, .int p2])).length) Slot.unset).toArray = ls at hl ⊢
  have hl : lv_has ls 11 [(0, .ref mh), (1, .int p0), (2, .int p1), (3, .int p2)] := hl
  have lo_p0 := i_lo p0; have hi_p0 := i_hi p0
  have lo_p1 := i_lo p1; have hi_p1 := i_hi p1
  have lo_p2 := i_lo p2; have hi_p2 := i_hi p2
  refine lv_aload_n hx hb dX9_sumUp_0 rfl (lv_at hl 0 rfl) ?_
  refine lv_lconst (v := 0) hx hb dX9_sumUp_1 (by decide) ?_
  refine va_put (D := D) (ci := 9) (v := .long 0) (ty := .long) (C := RX9) (T := TX9) (N := 68) hx hb htb iX9 tyX9 tyX9_ok nmX9 hown hK.1 hP hD hS 0 rfl rfl 17 (by decide) (htb _ k_975) (fun _ h9 => h9) rfl (by decide +kernel) rfl rfl (Nat.le_of_ble_eq_true rfl) dX9_sumUp_2 (fun H locs hP hD hS => ?_)
  have hP : va_P D vwCl [(mh, .inr (9, G9 ma mcode mtoday moffs 0 msumW msumA msumR msumWW msumWA msumAA msumWR msumAR mupper mlower mrates mtaped mlaid mat mtk mtkAt mtkNumber mwaits mlisted mdealtMany)), ((ma 2), .inl (E 0, 400, .inl mf2)), ((ma 3), .inl (E 0, 16, .inl mf3)), ((ma 4), .inl (E 0, 16, .inl mf4)), ((ma 5), .inl (E 1, 6400, .inl mf5)), ((ma 6), .inl (E 0, 6400, .inl mf6)), ((ma 7), .inl (E 0, 6400, .inl mf7)), ((ma 8), .inl (E 1, 6400, .inl mf8)), ((ma 9), .inl (E 1, 6400, .inl mf9)), ((ma 12), .inl (E 0, 60, .inl mf12)), ((ma 13), .inl (E 0, 60, .inl mf13)), ((ma 14), .inl (E 0, 60, .inl mf14)), ((ma 15), .inl (E 0, 60, .inl mf15)), ((ma 16), .inl (E 0, 60, .inl mf16))] H := hP
  have hD := toW hP hD rfl
  refine lv_aload_n hx hb dX9_sumUp_5 rfl (lv_at hl 0 rfl) ?_
  refine lv_lconst (v := 0) hx hb dX9_sumUp_6 (by decide) ?_
  refine va_put (D := D) (ci := 9) (v := .long 0) (ty := .long) (C := RX9) (T := TX9) (N := 68) hx hb htb iX9 tyX9 tyX9_ok nmX9 hown hK.1 hP hD hS 0 rfl rfl 18 (by decide) (htb _ k_976) (fun _ h9 => h9) rfl (by decide +kernel) rfl rfl (Nat.le_of_ble_eq_true rfl) dX9_sumUp_7 (fun H locs hP hD hS => ?_)
  have hP : va_P D vwCl [(mh, .inr (9, G9 ma mcode mtoday moffs 0 0 msumA msumR msumWW msumWA msumAA msumWR msumAR mupper mlower mrates mtaped mlaid mat mtk mtkAt mtkNumber mwaits mlisted mdealtMany)), ((ma 2), .inl (E 0, 400, .inl mf2)), ((ma 3), .inl (E 0, 16, .inl mf3)), ((ma 4), .inl (E 0, 16, .inl mf4)), ((ma 5), .inl (E 1, 6400, .inl mf5)), ((ma 6), .inl (E 0, 6400, .inl mf6)), ((ma 7), .inl (E 0, 6400, .inl mf7)), ((ma 8), .inl (E 1, 6400, .inl mf8)), ((ma 9), .inl (E 1, 6400, .inl mf9)), ((ma 12), .inl (E 0, 60, .inl mf12)), ((ma 13), .inl (E 0, 60, .inl mf13)), ((ma 14), .inl (E 0, 60, .inl mf14)), ((ma 15), .inl (E 0, 60, .inl mf15)), ((ma 16), .inl (E 0, 60, .inl mf16))] H := hP
  have hD := toW hP hD rfl
  refine lv_aload_n hx hb dX9_sumUp_10 rfl (lv_at hl 0 rfl) ?_
  refine lv_lconst (v := 0) hx hb dX9_sumUp_11 (by decide) ?_
  refine va_put (D := D) (ci := 9) (v := .long 0) (ty := .long) (C := RX9) (T := TX9) (N := 68) hx hb htb iX9 tyX9 tyX9_ok nmX9 hown hK.1 hP hD hS 0 rfl rfl 19 (by decide) (htb _ k_977) (fun _ h9 => h9) rfl (by decide +kernel) rfl rfl (Nat.le_of_ble_eq_true rfl) dX9_sumUp_12 (fun H locs hP hD hS => ?_)
  have hP : va_P D vwCl [(mh, .inr (9, G9 ma mcode mtoday moffs 0 0 0 msumR msumWW msumWA msumAA msumWR msumAR mupper mlower mrates mtaped mlaid mat mtk mtkAt mtkNumber mwaits mlisted mdealtMany)), ((ma 2), .inl (E 0, 400, .inl mf2)), ((ma 3), .inl (E 0, 16, .inl mf3)), ((ma 4), .inl (E 0, 16, .inl mf4)), ((ma 5), .inl (E 1, 6400, .inl mf5)), ((ma 6), .inl (E 0, 6400, .inl mf6)), ((ma 7), .inl (E 0, 6400, .inl mf7)), ((ma 8), .inl (E 1, 6400, .inl mf8)), ((ma 9), .inl (E 1, 6400, .inl mf9)), ((ma 12), .inl (E 0, 60, .inl mf12)), ((ma 13), .inl (E 0, 60, .inl mf13)), ((ma 14), .inl (E 0, 60, .inl mf14)), ((ma 15), .inl (E 0, 60, .inl mf15)), ((ma 16), .inl (E 0, 60, .inl mf16))] H := hP
  have hD := toW hP hD rfl
  refine lv_aload_n hx hb dX9_sumUp_15 rfl (lv_at hl 0 rfl) ?_
  refine lv_lconst (v := 0) hx hb dX9_sumUp_16 (by decide) ?_
  refine va_put (D := D) (ci := 9) (v := .long 0) (ty := .long) (C := RX9) (T := TX9) (N := 68) hx hb htb iX9 tyX9 tyX9_ok nmX9 hown hK.1 hP hD hS 0 rfl rfl 20 (by decide) (htb _ k_978) (fun _ h9 => h9) rfl (by decide +kernel) rfl rfl (Nat.le_of_ble_eq_true rfl) dX9_sumUp_17 (fun H locs hP hD hS => ?_)
  have hP : va_P D vwCl [(mh, .inr (9, G9 ma mcode mtoday moffs 0 0 0 0 msumWW msumWA msumAA msumWR msumAR mupper mlower mrates mtaped mlaid mat mtk mtkAt mtkNumber mwaits mlisted mdealtMany)), ((ma 2), .inl (E 0, 400, .inl mf2)), ((ma 3), .inl (E 0, 16, .inl mf3)), ((ma 4), .inl (E 0, 16, .inl mf4)), ((ma 5), .inl (E 1, 6400, .inl mf5)), ((ma 6), .inl (E 0, 6400, .inl mf6)), ((ma 7), .inl (E 0, 6400, .inl mf7)), ((ma 8), .inl (E 1, 6400, .inl mf8)), ((ma 9), .inl (E 1, 6400, .inl mf9)), ((ma 12), .inl (E 0, 60, .inl mf12)), ((ma 13), .inl (E 0, 60, .inl mf13)), ((ma 14), .inl (E 0, 60, .inl mf14)), ((ma 15), .inl (E 0, 60, .inl mf15)), ((ma 16), .inl (E 0, 60, .inl mf16))] H := hP
  have hD := toW hP hD rfl
  refine lv_aload_n hx hb dX9_sumUp_20 rfl (lv_at hl 0 rfl) ?_
  refine lv_lconst (v := 0) hx hb dX9_sumUp_21 (by decide) ?_
  refine va_put (D := D) (ci := 9) (v := .long 0) (ty := .long) (C := RX9) (T := TX9) (N := 68) hx hb htb iX9 tyX9 tyX9_ok nmX9 hown hK.1 hP hD hS 0 rfl rfl 21 (by decide) (htb _ k_979) (fun _ h9 => h9) rfl (by decide +kernel) rfl rfl (Nat.le_of_ble_eq_true rfl) dX9_sumUp_22 (fun H locs hP hD hS => ?_)
  have hP : va_P D vwCl [(mh, .inr (9, G9 ma mcode mtoday moffs 0 0 0 0 0 msumWA msumAA msumWR msumAR mupper mlower mrates mtaped mlaid mat mtk mtkAt mtkNumber mwaits mlisted mdealtMany)), ((ma 2), .inl (E 0, 400, .inl mf2)), ((ma 3), .inl (E 0, 16, .inl mf3)), ((ma 4), .inl (E 0, 16, .inl mf4)), ((ma 5), .inl (E 1, 6400, .inl mf5)), ((ma 6), .inl (E 0, 6400, .inl mf6)), ((ma 7), .inl (E 0, 6400, .inl mf7)), ((ma 8), .inl (E 1, 6400, .inl mf8)), ((ma 9), .inl (E 1, 6400, .inl mf9)), ((ma 12), .inl (E 0, 60, .inl mf12)), ((ma 13), .inl (E 0, 60, .inl mf13)), ((ma 14), .inl (E 0, 60, .inl mf14)), ((ma 15), .inl (E 0, 60, .inl mf15)), ((ma 16), .inl (E 0, 60, .inl mf16))] H := hP
  have hD := toW hP hD rfl
  refine lv_aload_n hx hb dX9_sumUp_25 rfl (lv_at hl 0 rfl) ?_
  refine lv_lconst (v := 0) hx hb dX9_sumUp_26 (by decide) ?_
  refine va_put (D := D) (ci := 9) (v := .long 0) (ty := .long) (C := RX9) (T := TX9) (N := 68) hx hb htb iX9 tyX9 tyX9_ok nmX9 hown hK.1 hP hD hS 0 rfl rfl 22 (by decide) (htb _ k_980) (fun _ h9 => h9) rfl (by decide +kernel) rfl rfl (Nat.le_of_ble_eq_true rfl) dX9_sumUp_27 (fun H locs hP hD hS => ?_)
  have hP : va_P D vwCl [(mh, .inr (9, G9 ma mcode mtoday moffs 0 0 0 0 0 0 msumAA msumWR msumAR mupper mlower mrates mtaped mlaid mat mtk mtkAt mtkNumber mwaits mlisted mdealtMany)), ((ma 2), .inl (E 0, 400, .inl mf2)), ((ma 3), .inl (E 0, 16, .inl mf3)), ((ma 4), .inl (E 0, 16, .inl mf4)), ((ma 5), .inl (E 1, 6400, .inl mf5)), ((ma 6), .inl (E 0, 6400, .inl mf6)), ((ma 7), .inl (E 0, 6400, .inl mf7)), ((ma 8), .inl (E 1, 6400, .inl mf8)), ((ma 9), .inl (E 1, 6400, .inl mf9)), ((ma 12), .inl (E 0, 60, .inl mf12)), ((ma 13), .inl (E 0, 60, .inl mf13)), ((ma 14), .inl (E 0, 60, .inl mf14)), ((ma 15), .inl (E 0, 60, .inl mf15)), ((ma 16), .inl (E 0, 60, .inl mf16))] H := hP
  have hD := toW hP hD rfl
  refine lv_aload_n hx hb dX9_sumUp_30 rfl (lv_at hl 0 rfl) ?_
  refine lv_lconst (v := 0) hx hb dX9_sumUp_31 (by decide) ?_
  refine va_put (D := D) (ci := 9) (v := .long 0) (ty := .long) (C := RX9) (T := TX9) (N := 68) hx hb htb iX9 tyX9 tyX9_ok nmX9 hown hK.1 hP hD hS 0 rfl rfl 23 (by decide) (htb _ k_981) (fun _ h9 => h9) rfl (by decide +kernel) rfl rfl (Nat.le_of_ble_eq_true rfl) dX9_sumUp_32 (fun H locs hP hD hS => ?_)
  have hP : va_P D vwCl [(mh, .inr (9, G9 ma mcode mtoday moffs 0 0 0 0 0 0 0 msumWR msumAR mupper mlower mrates mtaped mlaid mat mtk mtkAt mtkNumber mwaits mlisted mdealtMany)), ((ma 2), .inl (E 0, 400, .inl mf2)), ((ma 3), .inl (E 0, 16, .inl mf3)), ((ma 4), .inl (E 0, 16, .inl mf4)), ((ma 5), .inl (E 1, 6400, .inl mf5)), ((ma 6), .inl (E 0, 6400, .inl mf6)), ((ma 7), .inl (E 0, 6400, .inl mf7)), ((ma 8), .inl (E 1, 6400, .inl mf8)), ((ma 9), .inl (E 1, 6400, .inl mf9)), ((ma 12), .inl (E 0, 60, .inl mf12)), ((ma 13), .inl (E 0, 60, .inl mf13)), ((ma 14), .inl (E 0, 60, .inl mf14)), ((ma 15), .inl (E 0, 60, .inl mf15)), ((ma 16), .inl (E 0, 60, .inl mf16))] H := hP
  have hD := toW hP hD rfl
  refine lv_aload_n hx hb dX9_sumUp_35 rfl (lv_at hl 0 rfl) ?_
  refine lv_lconst (v := 0) hx hb dX9_sumUp_36 (by decide) ?_
  refine va_put (D := D) (ci := 9) (v := .long 0) (ty := .long) (C := RX9) (T := TX9) (N := 68) hx hb htb iX9 tyX9 tyX9_ok nmX9 hown hK.1 hP hD hS 0 rfl rfl 24 (by decide) (htb _ k_982) (fun _ h9 => h9) rfl (by decide +kernel) rfl rfl (Nat.le_of_ble_eq_true rfl) dX9_sumUp_37 (fun H locs hP hD hS => ?_)
  have hP : va_P D vwCl [(mh, .inr (9, G9 ma mcode mtoday moffs 0 0 0 0 0 0 0 0 msumAR mupper mlower mrates mtaped mlaid mat mtk mtkAt mtkNumber mwaits mlisted mdealtMany)), ((ma 2), .inl (E 0, 400, .inl mf2)), ((ma 3), .inl (E 0, 16, .inl mf3)), ((ma 4), .inl (E 0, 16, .inl mf4)), ((ma 5), .inl (E 1, 6400, .inl mf5)), ((ma 6), .inl (E 0, 6400, .inl mf6)), ((ma 7), .inl (E 0, 6400, .inl mf7)), ((ma 8), .inl (E 1, 6400, .inl mf8)), ((ma 9), .inl (E 1, 6400, .inl mf9)), ((ma 12), .inl (E 0, 60, .inl mf12)), ((ma 13), .inl (E 0, 60, .inl mf13)), ((ma 14), .inl (E 0, 60, .inl mf14)), ((ma 15), .inl (E 0, 60, .inl mf15)), ((ma 16), .inl (E 0, 60, .inl mf16))] H := hP
  have hD := toW hP hD rfl
  refine lv_aload_n hx hb dX9_sumUp_40 rfl (lv_at hl 0 rfl) ?_
  refine lv_lconst (v := 0) hx hb dX9_sumUp_41 (by decide) ?_
  refine va_put (D := D) (ci := 9) (v := .long 0) (ty := .long) (C := RX9) (T := TX9) (N := 68) hx hb htb iX9 tyX9 tyX9_ok nmX9 hown hK.1 hP hD hS 0 rfl rfl 25 (by decide) (htb _ k_983) (fun _ h9 => h9) rfl (by decide +kernel) rfl rfl (Nat.le_of_ble_eq_true rfl) dX9_sumUp_42 (fun H locs hP hD hS => ?_)
  have hP : va_P D vwCl [(mh, .inr (9, G9 ma mcode mtoday moffs 0 0 0 0 0 0 0 0 0 mupper mlower mrates mtaped mlaid mat mtk mtkAt mtkNumber mwaits mlisted mdealtMany)), ((ma 2), .inl (E 0, 400, .inl mf2)), ((ma 3), .inl (E 0, 16, .inl mf3)), ((ma 4), .inl (E 0, 16, .inl mf4)), ((ma 5), .inl (E 1, 6400, .inl mf5)), ((ma 6), .inl (E 0, 6400, .inl mf6)), ((ma 7), .inl (E 0, 6400, .inl mf7)), ((ma 8), .inl (E 1, 6400, .inl mf8)), ((ma 9), .inl (E 1, 6400, .inl mf9)), ((ma 12), .inl (E 0, 60, .inl mf12)), ((ma 13), .inl (E 0, 60, .inl mf13)), ((ma 14), .inl (E 0, 60, .inl mf14)), ((ma 15), .inl (E 0, 60, .inl mf15)), ((ma 16), .inl (E 0, 60, .inl mf16))] H := hP
  have hD := toW hP hD rfl
  refine lv_iload_n hx hb dX9_sumUp_45 rfl (lv_at hl 2 rfl) ?_
  refine lv_istore (lv' := [(4, .int p1), (0, .ref mh), (1, .int p0), (2, .int p1), (3, .int p2)]) hx hb dX9_sumUp_46 hl (by decide) rfl (fun ls hl => ?_)
  have loop_1 : ∀ (N_3 : Nat) (L4_48 : Int32) (mmany_48 : Int64) (msumW_48 : Int64) (msumA_48 : Int64) (msumR_48 : Int64) (msumWW_48 : Int64) (msumWA_48 : Int64) (msumAA_48 : Int64) (msumWR_48 : Int64) (msumAR_48 : Int64) (H : Heap) (locs : List Loc) (ls : Array Slot), p2.toInt - L4_48.toInt < (N_3 : Int) → (p1.toInt ≤ L4_48.toInt ∧ L4_48.toInt ≤ p2.toInt) → (((mmany_48, msumR_48, msumW_48, msumA_48, msumWW_48, msumAA_48, msumWA_48, msumWR_48, msumAR_48) : S9) = fold9 (fun d => wmF mf3 mf4 mf2 p0 d) (fun d => agI mf8 (400 * p0.toInt).toNat d) (-1000) (rateL (fun d => ratF mf5 mf6 mf7 mf8 mf9 mf12 mf13 mf14 mf15 mf16 moffs p0 d (-1)) p1 (L4_48.toInt - p1.toInt).toNat)) → va_P D vwCl [(mh, .inr (9, G9 ma mcode mtoday moffs mmany_48 msumW_48 msumA_48 msumR_48 msumWW_48 msumWA_48 msumAA_48 msumWR_48 msumAR_48 mupper mlower mrates mtaped mlaid mat mtk mtkAt mtkNumber mwaits mlisted mdealtMany)), ((ma 2), .inl (E 0, 400, .inl mf2)), ((ma 3), .inl (E 0, 16, .inl mf3)), ((ma 4), .inl (E 0, 16, .inl mf4)), ((ma 5), .inl (E 1, 6400, .inl mf5)), ((ma 6), .inl (E 0, 6400, .inl mf6)), ((ma 7), .inl (E 0, 6400, .inl mf7)), ((ma 8), .inl (E 1, 6400, .inl mf8)), ((ma 9), .inl (E 1, 6400, .inl mf9)), ((ma 12), .inl (E 0, 60, .inl mf12)), ((ma 13), .inl (E 0, 60, .inl mf13)), ((ma 14), .inl (E 0, 60, .inl mf14)), ((ma 15), .inl (E 0, 60, .inl mf15)), ((ma 16), .inl (E 0, 60, .inl mf16))] H → va_D A [(mh, .inr (9, G9 ma mcode mtoday moffs mmany_48 msumW_48 msumA_48 msumR_48 msumWW_48 msumWA_48 msumAA_48 msumWR_48 msumAR_48 mupper mlower mrates mtaped mlaid mat mtk mtkAt mtkNumber mwaits mlisted mdealtMany)), ((ma 2), .inl (E 0, 400, .inl mf2)), ((ma 3), .inl (E 0, 16, .inl mf3)), ((ma 4), .inl (E 0, 16, .inl mf4)), ((ma 5), .inl (E 1, 6400, .inl mf5)), ((ma 6), .inl (E 0, 6400, .inl mf6)), ((ma 7), .inl (E 0, 6400, .inl mf7)), ((ma 8), .inl (E 1, 6400, .inl mf8)), ((ma 9), .inl (E 1, 6400, .inl mf9)), ((ma 12), .inl (E 0, 60, .inl mf12)), ((ma 13), .inl (E 0, 60, .inl mf13)), ((ma 14), .inl (E 0, 60, .inl mf14)), ((ma 15), .inl (E 0, 60, .inl mf15)), ((ma 16), .inl (E 0, 60, .inl mf16))] → va_S A s.heap H locs → lv_has ls 11 [(4, .int L4_48), (0, .ref mh), (1, .int p0), (2, .int p1), (3, .int p2)] → W p l e (headSpec (wl yX9_sumUp cX9_sumUp 11 none) (RM 3 0 0)).room s m [Value.ref mh, .int p0, .int p1, .int p2].toArray below meth c H locs 0 0 (MQ below (va_Qv (fun (u : (Int64) × (Int64) × (Int64) × (Int64) × (Int64) × (Int64) × (Int64) × (Int64) × (Int64)) => ((u.1, u.2.2.2.2.1, u.2.2.2.2.2.1, u.2.1, u.2.2.2.2.2.2.2.2, u.2.2.1, u.2.2.2.2.2.2.1, u.2.2.2.2.2.2.2.1, u.2.2.2.1) = fold9 (fun d => wmF mf3 mf4 mf2 p0 d) (fun d => agI mf8 (400 * p0.toInt).toNat d) (-1000) (rateL (fun d => ratF mf5 mf6 mf7 mf8 mf9 mf12 mf13 mf14 mf15 mf16 moffs p0 d (-1)) p1 (p2.toInt - p1.toInt).toNat))) (mu_B D A (fun (u : (Int64) × (Int64) × (Int64) × (Int64) × (Int64) × (Int64) × (Int64) × (Int64) × (Int64)) => [(mh, .inr (9, G9 ma mcode mtoday moffs u.1 u.2.2.2.2.2.1 u.2.1 u.2.2.2.2.1 u.2.2.2.2.2.2.2.2 u.2.2.2.2.2.2.1 u.2.2.1 u.2.2.2.2.2.2.2.1 u.2.2.2.1 mupper mlower mrates mtaped mlaid mat mtk mtkAt mtkNumber mwaits mlisted mdealtMany)), ((ma 2), .inl (E 0, 400, .inl mf2)), ((ma 3), .inl (E 0, 16, .inl mf3)), ((ma 4), .inl (E 0, 16, .inl mf4)), ((ma 5), .inl (E 1, 6400, .inl mf5)), ((ma 6), .inl (E 0, 6400, .inl mf6)), ((ma 7), .inl (E 0, 6400, .inl mf7)), ((ma 8), .inl (E 1, 6400, .inl mf8)), ((ma 9), .inl (E 1, 6400, .inl mf9)), ((ma 12), .inl (E 0, 60, .inl mf12)), ((ma 13), .inl (E 0, 60, .inl mf13)), ((ma 14), .inl (E 0, 60, .inl mf14)), ((ma 15), .inl (E 0, 60, .inl mf15)), ((ma 16), .inl (E 0, 60, .inl mf16))])) A) [Value.ref mh, .int p0, .int p1, .int p2].toArray s 0 0 A) (F0 m 48 ls []) := by
    intro N_3
    induction N_3 with
    | zero => intro L4_48 mmany_48 msumW_48 msumA_48 msumR_48 msumWW_48 msumWA_48 msumAA_48 msumWR_48 msumAR_48 H locs ls hm v0_48 v1_48 _ _ _ _; exfalso; omega
    | succ N_3 ih_2 =>
      intro L4_48 mmany_48 msumW_48 msumA_48 msumR_48 msumWW_48 msumWA_48 msumAA_48 msumWR_48 msumAR_48 H locs ls hm v0_48 v1_48 hP hD hS hl
      have lo_L4_48 := i_lo L4_48; have hi_L4_48 := i_hi L4_48
      refine lv_iload hx hb dX9_sumUp_48 (lv_at hl 0 rfl) ?_
      refine lv_iload_n hx hb dX9_sumUp_50 rfl (lv_at hl 4 rfl) ?_
      refine lv_icmp_ge (tgt := 225) hx hb dX9_sumUp_51 (by decide) (fun c_4 => ?_) (fun c_4 => ?_)
      ·
        have ic_4 : p2.toInt ≤ L4_48.toInt := by first | exact (g_le rfl rfl).mp c_4 | (have h := mt (g_lt rfl rfl).mpr c_4; omega)
        clear c_4
        have hP9 := hP.sub (ws' := [(mh, .inr (9, G9 ma mcode mtoday moffs mmany_48 msumW_48 msumA_48 msumR_48 msumWW_48 msumWA_48 msumAA_48 msumWR_48 msumAR_48 mupper mlower mrates mtaped mlaid mat mtk mtkAt mtkNumber mwaits mlisted mdealtMany)), ((ma 2), .inl (E 0, 400, .inl mf2)), ((ma 3), .inl (E 0, 16, .inl mf3)), ((ma 4), .inl (E 0, 16, .inl mf4)), ((ma 5), .inl (E 1, 6400, .inl mf5)), ((ma 6), .inl (E 0, 6400, .inl mf6)), ((ma 7), .inl (E 0, 6400, .inl mf7)), ((ma 8), .inl (E 1, 6400, .inl mf8)), ((ma 9), .inl (E 1, 6400, .inl mf9)), ((ma 12), .inl (E 0, 60, .inl mf12)), ((ma 13), .inl (E 0, 60, .inl mf13)), ((ma 14), .inl (E 0, 60, .inl mf14)), ((ma 15), .inl (E 0, 60, .inl mf15)), ((ma 16), .inl (E 0, 60, .inl mf16))]) [0, 1, 2, 3, 4, 5, 6, 7, 8, 9, 10, 11, 12, 13] rfl
        have hD9 := hD.sub (ws' := [(mh, .inr (9, G9 ma mcode mtoday moffs mmany_48 msumW_48 msumA_48 msumR_48 msumWW_48 msumWA_48 msumAA_48 msumWR_48 msumAR_48 mupper mlower mrates mtaped mlaid mat mtk mtkAt mtkNumber mwaits mlisted mdealtMany)), ((ma 2), .inl (E 0, 400, .inl mf2)), ((ma 3), .inl (E 0, 16, .inl mf3)), ((ma 4), .inl (E 0, 16, .inl mf4)), ((ma 5), .inl (E 1, 6400, .inl mf5)), ((ma 6), .inl (E 0, 6400, .inl mf6)), ((ma 7), .inl (E 0, 6400, .inl mf7)), ((ma 8), .inl (E 1, 6400, .inl mf8)), ((ma 9), .inl (E 1, 6400, .inl mf9)), ((ma 12), .inl (E 0, 60, .inl mf12)), ((ma 13), .inl (E 0, 60, .inl mf13)), ((ma 14), .inl (E 0, 60, .inl mf14)), ((ma 15), .inl (E 0, 60, .inl mf15)), ((ma 16), .inl (E 0, 60, .inl mf16))]) [0, 1, 2, 3, 4, 5, 6, 7, 8, 9, 10, 11, 12, 13] (by decide) rfl
        exact W.vret hx hb hr (fun t ht hW => ⟨⟨(mmany_48, msumA_48, msumAA_48, msumAR_48, msumR_48, msumW_48, msumWA_48, msumWR_48, msumWW_48), rfl, (by (try dsimp only); rw [show p2.toInt - p1.toInt = L4_48.toInt - p1.toInt by omega]; exact v1_48), by rw [ht]; exact hP9, hD9⟩, hS.F ht⟩) hS.2.2 dX9_sumUp_225
      ·
        have ic_4 : L4_48.toInt < p2.toInt := by first | exact (g_lt rfl rfl).mp c_4 | (have h := mt (g_le rfl rfl).mpr c_4; omega)
        clear c_4
        refine lv_aload_n hx hb dX9_sumUp_54 rfl (lv_at hl 1 rfl) ?_
        refine lv_iload_n hx hb dX9_sumUp_55 rfl (lv_at hl 2 rfl) ?_
        refine lv_iload hx hb dX9_sumUp_56 (lv_at hl 0 rfl) ?_
        refine lv_iconst (v := (-1)) hx hb dX9_sumUp_58 (by decide) ?_
        refine callRV (rest := []) (As := [.int p0, .int L4_48, .int (-1)]) hx hb hml hown htb hK (g_X9_rateOf l D E mh ma mcode mtoday moffs mmany_48 msumW_48 msumA_48 msumR_48 msumWW_48 msumWA_48 msumAA_48 msumWR_48 msumAR_48 mupper mlower mrates mtaped mlaid mat mtk mtkAt mtkNumber mwaits mlisted mdealtMany mf5 mf6 mf7 mf8 mf9 mf12 mf13 mf14 mf15 mf16 p0 L4_48 (-1) (by (try dsimp only); omega) (by have h0 := t_m1; (try dsimp only); omega) (by have h0 := t_m1; (try dsimp only); omega)) ok_X9_rateOf k_1231 k_1233 ks_43 k_9 k_1234 ⟨(Nat.le_of_ble_eq_true rfl), (Nat.le_of_ble_eq_true rfl)⟩ ⟨(Nat.le_of_ble_eq_true rfl), (Nat.le_of_ble_eq_true rfl)⟩ hl.1 (Nat.le_of_ble_eq_true rfl) rfl rfl dX9_sumUp_59 (hP.sub (ws' := [(mh, .inr (9, G9 ma mcode mtoday moffs mmany_48 msumW_48 msumA_48 msumR_48 msumWW_48 msumWA_48 msumAA_48 msumWR_48 msumAR_48 mupper mlower mrates mtaped mlaid mat mtk mtkAt mtkNumber mwaits mlisted mdealtMany)), ((ma 5), .inl (E 1, 6400, .inl mf5)), ((ma 6), .inl (E 0, 6400, .inl mf6)), ((ma 7), .inl (E 0, 6400, .inl mf7)), ((ma 8), .inl (E 1, 6400, .inl mf8)), ((ma 9), .inl (E 1, 6400, .inl mf9)), ((ma 12), .inl (E 0, 60, .inl mf12)), ((ma 13), .inl (E 0, 60, .inl mf13)), ((ma 14), .inl (E 0, 60, .inl mf14)), ((ma 15), .inl (E 0, 60, .inl mf15)), ((ma 16), .inl (E 0, 60, .inl mf16))]) [0, 4, 5, 6, 7, 8, 9, 10, 11, 12, 13] rfl) rfl rfl 0 rfl (fun r_5 hw_6 => ?_)
        try simp only [t_m1] at hw_6
        obtain ⟨z_8, ez_8⟩ : ∃ y : Int64, (r_5 : Int32).toInt64 = y := ⟨_, rfl⟩
        refine lv_i2l hx hb dX9_sumUp_62 ez_8 ?_
        refine lv_lstore (lv' := [(5, .long z_8), (4, .int L4_48), (0, .ref mh), (1, .int p0), (2, .int p1), (3, .int p2)]) hx hb dX9_sumUp_63 hl (by decide) rfl (fun ls hl => ?_)
        refine lv_aload_n hx hb dX9_sumUp_65 rfl (lv_at hl 2 rfl) ?_
        refine lv_iload_n hx hb dX9_sumUp_66 rfl (lv_at hl 3 rfl) ?_
        refine lv_iload hx hb dX9_sumUp_67 (lv_at hl 1 rfl) ?_
        refine callRV (rest := []) (As := [.int p0, .int L4_48]) hx hb hml hown htb hK (g_X9_warmthOf l D E mh ma mcode mtoday moffs mmany_48 msumW_48 msumA_48 msumR_48 msumWW_48 msumWA_48 msumAA_48 msumWR_48 msumAR_48 mupper mlower mrates mtaped mlaid mat mtk mtkAt mtkNumber mwaits mlisted mdealtMany mf2 mf3 mf4 p0 L4_48 (by (try dsimp only); omega) (by (try dsimp only); omega) (by (try dsimp only); omega)) ok_X9_warmthOf k_1277 k_1279 ks_47 k_9 k_1280 ⟨(Nat.le_of_ble_eq_true rfl), (Nat.le_of_ble_eq_true rfl)⟩ ⟨(Nat.le_of_ble_eq_true rfl), (Nat.le_of_ble_eq_true rfl)⟩ hl.1 (Nat.le_of_ble_eq_true rfl) rfl rfl dX9_sumUp_69 (hP.sub (ws' := [(mh, .inr (9, G9 ma mcode mtoday moffs mmany_48 msumW_48 msumA_48 msumR_48 msumWW_48 msumWA_48 msumAA_48 msumWR_48 msumAR_48 mupper mlower mrates mtaped mlaid mat mtk mtkAt mtkNumber mwaits mlisted mdealtMany)), ((ma 2), .inl (E 0, 400, .inl mf2)), ((ma 3), .inl (E 0, 16, .inl mf3)), ((ma 4), .inl (E 0, 16, .inl mf4))]) [0, 1, 2, 3] rfl) rfl rfl 0 rfl (fun r_9 hw_10 => ?_)
        obtain ⟨z_12, ez_12⟩ : ∃ y : Int64, (r_9 : Int32).toInt64 = y := ⟨_, rfl⟩
        refine lv_i2l hx hb dX9_sumUp_72 ez_12 ?_
        refine lv_lstore (lv' := [(7, .long z_12), (5, .long z_8), (4, .int L4_48), (0, .ref mh), (1, .int p0), (2, .int p1), (3, .int p2)]) hx hb dX9_sumUp_73 hl (by decide) rfl (fun ls hl => ?_)
        refine lv_lload hx hb dX9_sumUp_75 (lv_at hl 1 rfl) ?_
        refine lv_ldc2 hx hb hown (htb _ k_1281) dX9_sumUp_77 ?_
        refine W.lcmp hx hb dX9_sumUp_80 ?_
        refine lv_topi (fun z_13 ez_13 => ?_)
        refine lv_if_eq (tgt := 219) hx hb dX9_sumUp_81 (by decide) (fun c_14 => ?_) (fun c_14 => ?_)
        ·
          have lc_15 : (z_8 : Int64) = ((-2000000000) : Int64) := lc_eq (by rw [← ez_13]; exact c_14)
          obtain ⟨z_16, ez_16⟩ : ∃ y : Int32, y = L4_48 + 1 := ⟨_, rfl⟩
          have jz_16 : z_16.toInt = L4_48.toInt + 1 := by rw [ez_16]; exact g_add rfl t_1 (by omega) (by omega)
          refine lv_iinc (v := z_16) (lv' := [(4, .int z_16), (7, .long z_12), (5, .long z_8), (0, .ref mh), (1, .int p0), (2, .int p1), (3, .int p2)]) hx hb dX9_sumUp_219 hl (k := 2) rfl (by rw [ez_16]; rfl) (by decide) rfl (fun ls hl => ?_)
          refine lv_goto (tgt := 48) hx hb dX9_sumUp_222 (by decide) ?_
          exact ih_2 z_16 mmany_48 msumW_48 msumA_48 msumR_48 msumWW_48 msumWA_48 msumAA_48 msumWR_48 msumAR_48 _ _ _ (by (try dsimp only); omega) (by (try dsimp only); omega) (by rw [fold9_step (R := (fun d => ratF mf5 mf6 mf7 mf8 mf9 mf12 mf13 mf14 mf15 mf16 moffs p0 d (-1))) (p := p1) (L := L4_48) (z := z_16) (by omega) (by omega) jz_16]; (try dsimp only); rw [← hw_6]; rw [if_pos ((l_eqc ez_8 (show ((-2000000000) : Int64).toInt = (-2000000000) by decide)).mp lc_15)]; exact v1_48) hP hD hS (lv_sub hl [0, 3, 4, 5, 6] rfl)
        ·
          have lc_17 : ¬ (z_8 : Int64) = ((-2000000000) : Int64) := lc_ne (by rw [← ez_13]; exact c_14)
          refine lv_lload hx hb dX9_sumUp_84 (lv_at hl 0 rfl) ?_
          refine lv_ldc2 hx hb hown (htb _ k_1282) dX9_sumUp_86 ?_
          refine W.lcmp hx hb dX9_sumUp_89 ?_
          refine lv_topi (fun z_18 ez_18 => ?_)
          refine lv_if_ne (tgt := 96) hx hb dX9_sumUp_90 (by decide) (fun c_19 => ?_) (fun c_19 => ?_)
          ·
            have lc_20 : ¬ (z_12 : Int64) = ((-1000) : Int64) := lc_ne (by rw [← ez_18]; exact c_19)
            refine lv_aload_n hx hb dX9_sumUp_96 rfl (lv_at hl 3 rfl) ?_
            refine lv_iload_n hx hb dX9_sumUp_97 rfl (lv_at hl 4 rfl) ?_
            refine lv_iload hx hb dX9_sumUp_98 (lv_at hl 2 rfl) ?_
            refine callRV (rest := []) (As := [.int p0, .int L4_48]) hx hb hml hown htb hK (g_X9_ageOf l D E mh ma mcode mtoday moffs mmany_48 msumW_48 msumA_48 msumR_48 msumWW_48 msumWA_48 msumAA_48 msumWR_48 msumAR_48 mupper mlower mrates mtaped mlaid mat mtk mtkAt mtkNumber mwaits mlisted mdealtMany mf8 p0 L4_48 (by (try dsimp only); omega) (by (try dsimp only); omega) (by (try dsimp only); omega)) ok_X9_ageOf k_1250 k_1252 ks_44 k_9 k_1253 ⟨(Nat.le_of_ble_eq_true rfl), (Nat.le_of_ble_eq_true rfl)⟩ ⟨(Nat.le_of_ble_eq_true rfl), (Nat.le_of_ble_eq_true rfl)⟩ hl.1 (Nat.le_of_ble_eq_true rfl) rfl rfl dX9_sumUp_100 (hP.sub (ws' := [(mh, .inr (9, G9 ma mcode mtoday moffs mmany_48 msumW_48 msumA_48 msumR_48 msumWW_48 msumWA_48 msumAA_48 msumWR_48 msumAR_48 mupper mlower mrates mtaped mlaid mat mtk mtkAt mtkNumber mwaits mlisted mdealtMany)), ((ma 8), .inl (E 1, 6400, .inl mf8))]) [0, 7] rfl) rfl rfl 0 rfl (fun r_21 hw_22 => ?_)
            obtain ⟨z_24, ez_24⟩ : ∃ y : Int64, (r_21 : Int32).toInt64 = y := ⟨_, rfl⟩
            refine lv_i2l hx hb dX9_sumUp_103 ez_24 ?_
            refine lv_lstore (lv' := [(9, .long z_24), (7, .long z_12), (5, .long z_8), (4, .int L4_48), (0, .ref mh), (1, .int p0), (2, .int p1), (3, .int p2)]) hx hb dX9_sumUp_104 hl (by decide) rfl (fun ls hl => ?_)
            refine lv_aload_n hx hb dX9_sumUp_106 rfl (lv_at hl 4 rfl) ?_
            refine lv_dup hx hb dX9_sumUp_107 rfl ?_
            refine va_get (D := D) (ci := 9) (v := .long mmany_48) (C := RX9) (T := TX9) (N := 68) hx hb htb iX9 hown hK.1 hP 0 rfl rfl 17 (by decide) (htb _ k_975) (fun _ h9 => h9) rfl dX9_sumUp_108 ?_
            refine lv_lconst (v := 1) hx hb dX9_sumUp_111 (by decide) ?_
            refine lv_ladd hx hb dX9_sumUp_112 ?_
            refine lv_topl (fun z_25 ez_25 => ?_)
            refine va_put (D := D) (ci := 9) (v := .long z_25) (ty := .long) (C := RX9) (T := TX9) (N := 68) hx hb htb iX9 tyX9 tyX9_ok nmX9 hown hK.1 hP hD hS 0 rfl rfl 17 (by decide) (htb _ k_975) (fun _ h9 => h9) rfl (by decide +kernel) rfl rfl (Nat.le_of_ble_eq_true rfl) dX9_sumUp_113 (fun H locs hP hD hS => ?_)
            have hP : va_P D vwCl [(mh, .inr (9, G9 ma mcode mtoday moffs z_25 msumW_48 msumA_48 msumR_48 msumWW_48 msumWA_48 msumAA_48 msumWR_48 msumAR_48 mupper mlower mrates mtaped mlaid mat mtk mtkAt mtkNumber mwaits mlisted mdealtMany)), ((ma 2), .inl (E 0, 400, .inl mf2)), ((ma 3), .inl (E 0, 16, .inl mf3)), ((ma 4), .inl (E 0, 16, .inl mf4)), ((ma 5), .inl (E 1, 6400, .inl mf5)), ((ma 6), .inl (E 0, 6400, .inl mf6)), ((ma 7), .inl (E 0, 6400, .inl mf7)), ((ma 8), .inl (E 1, 6400, .inl mf8)), ((ma 9), .inl (E 1, 6400, .inl mf9)), ((ma 12), .inl (E 0, 60, .inl mf12)), ((ma 13), .inl (E 0, 60, .inl mf13)), ((ma 14), .inl (E 0, 60, .inl mf14)), ((ma 15), .inl (E 0, 60, .inl mf15)), ((ma 16), .inl (E 0, 60, .inl mf16))] H := hP
            have hD := toW hP hD rfl
            refine lv_aload_n hx hb dX9_sumUp_116 rfl (lv_at hl 4 rfl) ?_
            refine lv_dup hx hb dX9_sumUp_117 rfl ?_
            refine va_get (D := D) (ci := 9) (v := .long msumW_48) (C := RX9) (T := TX9) (N := 68) hx hb htb iX9 hown hK.1 hP 0 rfl rfl 18 (by decide) (htb _ k_976) (fun _ h9 => h9) rfl dX9_sumUp_118 ?_
            refine lv_lload hx hb dX9_sumUp_121 (lv_at hl 1 rfl) ?_
            refine lv_ladd hx hb dX9_sumUp_123 ?_
            refine lv_topl (fun z_26 ez_26 => ?_)
            refine va_put (D := D) (ci := 9) (v := .long z_26) (ty := .long) (C := RX9) (T := TX9) (N := 68) hx hb htb iX9 tyX9 tyX9_ok nmX9 hown hK.1 hP hD hS 0 rfl rfl 18 (by decide) (htb _ k_976) (fun _ h9 => h9) rfl (by decide +kernel) rfl rfl (Nat.le_of_ble_eq_true rfl) dX9_sumUp_124 (fun H locs hP hD hS => ?_)
            have hP : va_P D vwCl [(mh, .inr (9, G9 ma mcode mtoday moffs z_25 z_26 msumA_48 msumR_48 msumWW_48 msumWA_48 msumAA_48 msumWR_48 msumAR_48 mupper mlower mrates mtaped mlaid mat mtk mtkAt mtkNumber mwaits mlisted mdealtMany)), ((ma 2), .inl (E 0, 400, .inl mf2)), ((ma 3), .inl (E 0, 16, .inl mf3)), ((ma 4), .inl (E 0, 16, .inl mf4)), ((ma 5), .inl (E 1, 6400, .inl mf5)), ((ma 6), .inl (E 0, 6400, .inl mf6)), ((ma 7), .inl (E 0, 6400, .inl mf7)), ((ma 8), .inl (E 1, 6400, .inl mf8)), ((ma 9), .inl (E 1, 6400, .inl mf9)), ((ma 12), .inl (E 0, 60, .inl mf12)), ((ma 13), .inl (E 0, 60, .inl mf13)), ((ma 14), .inl (E 0, 60, .inl mf14)), ((ma 15), .inl (E 0, 60, .inl mf15)), ((ma 16), .inl (E 0, 60, .inl mf16))] H := hP
            have hD := toW hP hD rfl
            refine lv_aload_n hx hb dX9_sumUp_127 rfl (lv_at hl 4 rfl) ?_
            refine lv_dup hx hb dX9_sumUp_128 rfl ?_
            refine va_get (D := D) (ci := 9) (v := .long msumA_48) (C := RX9) (T := TX9) (N := 68) hx hb htb iX9 hown hK.1 hP 0 rfl rfl 19 (by decide) (htb _ k_977) (fun _ h9 => h9) rfl dX9_sumUp_129 ?_
            refine lv_lload hx hb dX9_sumUp_132 (lv_at hl 0 rfl) ?_
            refine lv_ladd hx hb dX9_sumUp_134 ?_
            refine lv_topl (fun z_27 ez_27 => ?_)
            refine va_put (D := D) (ci := 9) (v := .long z_27) (ty := .long) (C := RX9) (T := TX9) (N := 68) hx hb htb iX9 tyX9 tyX9_ok nmX9 hown hK.1 hP hD hS 0 rfl rfl 19 (by decide) (htb _ k_977) (fun _ h9 => h9) rfl (by decide +kernel) rfl rfl (Nat.le_of_ble_eq_true rfl) dX9_sumUp_135 (fun H locs hP hD hS => ?_)
            have hP : va_P D vwCl [(mh, .inr (9, G9 ma mcode mtoday moffs z_25 z_26 z_27 msumR_48 msumWW_48 msumWA_48 msumAA_48 msumWR_48 msumAR_48 mupper mlower mrates mtaped mlaid mat mtk mtkAt mtkNumber mwaits mlisted mdealtMany)), ((ma 2), .inl (E 0, 400, .inl mf2)), ((ma 3), .inl (E 0, 16, .inl mf3)), ((ma 4), .inl (E 0, 16, .inl mf4)), ((ma 5), .inl (E 1, 6400, .inl mf5)), ((ma 6), .inl (E 0, 6400, .inl mf6)), ((ma 7), .inl (E 0, 6400, .inl mf7)), ((ma 8), .inl (E 1, 6400, .inl mf8)), ((ma 9), .inl (E 1, 6400, .inl mf9)), ((ma 12), .inl (E 0, 60, .inl mf12)), ((ma 13), .inl (E 0, 60, .inl mf13)), ((ma 14), .inl (E 0, 60, .inl mf14)), ((ma 15), .inl (E 0, 60, .inl mf15)), ((ma 16), .inl (E 0, 60, .inl mf16))] H := hP
            have hD := toW hP hD rfl
            refine lv_aload_n hx hb dX9_sumUp_138 rfl (lv_at hl 4 rfl) ?_
            refine lv_dup hx hb dX9_sumUp_139 rfl ?_
            refine va_get (D := D) (ci := 9) (v := .long msumR_48) (C := RX9) (T := TX9) (N := 68) hx hb htb iX9 hown hK.1 hP 0 rfl rfl 20 (by decide) (htb _ k_978) (fun _ h9 => h9) rfl dX9_sumUp_140 ?_
            refine lv_lload hx hb dX9_sumUp_143 (lv_at hl 2 rfl) ?_
            refine lv_ladd hx hb dX9_sumUp_145 ?_
            refine lv_topl (fun z_28 ez_28 => ?_)
            refine va_put (D := D) (ci := 9) (v := .long z_28) (ty := .long) (C := RX9) (T := TX9) (N := 68) hx hb htb iX9 tyX9 tyX9_ok nmX9 hown hK.1 hP hD hS 0 rfl rfl 20 (by decide) (htb _ k_978) (fun _ h9 => h9) rfl (by decide +kernel) rfl rfl (Nat.le_of_ble_eq_true rfl) dX9_sumUp_146 (fun H locs hP hD hS => ?_)
            have hP : va_P D vwCl [(mh, .inr (9, G9 ma mcode mtoday moffs z_25 z_26 z_27 z_28 msumWW_48 msumWA_48 msumAA_48 msumWR_48 msumAR_48 mupper mlower mrates mtaped mlaid mat mtk mtkAt mtkNumber mwaits mlisted mdealtMany)), ((ma 2), .inl (E 0, 400, .inl mf2)), ((ma 3), .inl (E 0, 16, .inl mf3)), ((ma 4), .inl (E 0, 16, .inl mf4)), ((ma 5), .inl (E 1, 6400, .inl mf5)), ((ma 6), .inl (E 0, 6400, .inl mf6)), ((ma 7), .inl (E 0, 6400, .inl mf7)), ((ma 8), .inl (E 1, 6400, .inl mf8)), ((ma 9), .inl (E 1, 6400, .inl mf9)), ((ma 12), .inl (E 0, 60, .inl mf12)), ((ma 13), .inl (E 0, 60, .inl mf13)), ((ma 14), .inl (E 0, 60, .inl mf14)), ((ma 15), .inl (E 0, 60, .inl mf15)), ((ma 16), .inl (E 0, 60, .inl mf16))] H := hP
            have hD := toW hP hD rfl
            refine lv_aload_n hx hb dX9_sumUp_149 rfl (lv_at hl 4 rfl) ?_
            refine lv_dup hx hb dX9_sumUp_150 rfl ?_
            refine va_get (D := D) (ci := 9) (v := .long msumWW_48) (C := RX9) (T := TX9) (N := 68) hx hb htb iX9 hown hK.1 hP 0 rfl rfl 21 (by decide) (htb _ k_979) (fun _ h9 => h9) rfl dX9_sumUp_151 ?_
            refine lv_lload hx hb dX9_sumUp_154 (lv_at hl 1 rfl) ?_
            refine lv_lload hx hb dX9_sumUp_156 (lv_at hl 1 rfl) ?_
            refine lv_lmul hx hb dX9_sumUp_158 ?_
            refine lv_topl (fun z_29 ez_29 => ?_)
            refine lv_ladd hx hb dX9_sumUp_159 ?_
            refine lv_topl (fun z_30 ez_30 => ?_)
            refine va_put (D := D) (ci := 9) (v := .long z_30) (ty := .long) (C := RX9) (T := TX9) (N := 68) hx hb htb iX9 tyX9 tyX9_ok nmX9 hown hK.1 hP hD hS 0 rfl rfl 21 (by decide) (htb _ k_979) (fun _ h9 => h9) rfl (by decide +kernel) rfl rfl (Nat.le_of_ble_eq_true rfl) dX9_sumUp_160 (fun H locs hP hD hS => ?_)
            have hP : va_P D vwCl [(mh, .inr (9, G9 ma mcode mtoday moffs z_25 z_26 z_27 z_28 z_30 msumWA_48 msumAA_48 msumWR_48 msumAR_48 mupper mlower mrates mtaped mlaid mat mtk mtkAt mtkNumber mwaits mlisted mdealtMany)), ((ma 2), .inl (E 0, 400, .inl mf2)), ((ma 3), .inl (E 0, 16, .inl mf3)), ((ma 4), .inl (E 0, 16, .inl mf4)), ((ma 5), .inl (E 1, 6400, .inl mf5)), ((ma 6), .inl (E 0, 6400, .inl mf6)), ((ma 7), .inl (E 0, 6400, .inl mf7)), ((ma 8), .inl (E 1, 6400, .inl mf8)), ((ma 9), .inl (E 1, 6400, .inl mf9)), ((ma 12), .inl (E 0, 60, .inl mf12)), ((ma 13), .inl (E 0, 60, .inl mf13)), ((ma 14), .inl (E 0, 60, .inl mf14)), ((ma 15), .inl (E 0, 60, .inl mf15)), ((ma 16), .inl (E 0, 60, .inl mf16))] H := hP
            have hD := toW hP hD rfl
            refine lv_aload_n hx hb dX9_sumUp_163 rfl (lv_at hl 4 rfl) ?_
            refine lv_dup hx hb dX9_sumUp_164 rfl ?_
            refine va_get (D := D) (ci := 9) (v := .long msumWA_48) (C := RX9) (T := TX9) (N := 68) hx hb htb iX9 hown hK.1 hP 0 rfl rfl 22 (by decide) (htb _ k_980) (fun _ h9 => h9) rfl dX9_sumUp_165 ?_
            refine lv_lload hx hb dX9_sumUp_168 (lv_at hl 1 rfl) ?_
            refine lv_lload hx hb dX9_sumUp_170 (lv_at hl 0 rfl) ?_
            refine lv_lmul hx hb dX9_sumUp_172 ?_
            refine lv_topl (fun z_31 ez_31 => ?_)
            refine lv_ladd hx hb dX9_sumUp_173 ?_
            refine lv_topl (fun z_32 ez_32 => ?_)
            refine va_put (D := D) (ci := 9) (v := .long z_32) (ty := .long) (C := RX9) (T := TX9) (N := 68) hx hb htb iX9 tyX9 tyX9_ok nmX9 hown hK.1 hP hD hS 0 rfl rfl 22 (by decide) (htb _ k_980) (fun _ h9 => h9) rfl (by decide +kernel) rfl rfl (Nat.le_of_ble_eq_true rfl) dX9_sumUp_174 (fun H locs hP hD hS => ?_)
            have hP : va_P D vwCl [(mh, .inr (9, G9 ma mcode mtoday moffs z_25 z_26 z_27 z_28 z_30 z_32 msumAA_48 msumWR_48 msumAR_48 mupper mlower mrates mtaped mlaid mat mtk mtkAt mtkNumber mwaits mlisted mdealtMany)), ((ma 2), .inl (E 0, 400, .inl mf2)), ((ma 3), .inl (E 0, 16, .inl mf3)), ((ma 4), .inl (E 0, 16, .inl mf4)), ((ma 5), .inl (E 1, 6400, .inl mf5)), ((ma 6), .inl (E 0, 6400, .inl mf6)), ((ma 7), .inl (E 0, 6400, .inl mf7)), ((ma 8), .inl (E 1, 6400, .inl mf8)), ((ma 9), .inl (E 1, 6400, .inl mf9)), ((ma 12), .inl (E 0, 60, .inl mf12)), ((ma 13), .inl (E 0, 60, .inl mf13)), ((ma 14), .inl (E 0, 60, .inl mf14)), ((ma 15), .inl (E 0, 60, .inl mf15)), ((ma 16), .inl (E 0, 60, .inl mf16))] H := hP
            have hD := toW hP hD rfl
            refine lv_aload_n hx hb dX9_sumUp_177 rfl (lv_at hl 4 rfl) ?_
            refine lv_dup hx hb dX9_sumUp_178 rfl ?_
            refine va_get (D := D) (ci := 9) (v := .long msumAA_48) (C := RX9) (T := TX9) (N := 68) hx hb htb iX9 hown hK.1 hP 0 rfl rfl 23 (by decide) (htb _ k_981) (fun _ h9 => h9) rfl dX9_sumUp_179 ?_
            refine lv_lload hx hb dX9_sumUp_182 (lv_at hl 0 rfl) ?_
            refine lv_lload hx hb dX9_sumUp_184 (lv_at hl 0 rfl) ?_
            refine lv_lmul hx hb dX9_sumUp_186 ?_
            refine lv_topl (fun z_33 ez_33 => ?_)
            refine lv_ladd hx hb dX9_sumUp_187 ?_
            refine lv_topl (fun z_34 ez_34 => ?_)
            refine va_put (D := D) (ci := 9) (v := .long z_34) (ty := .long) (C := RX9) (T := TX9) (N := 68) hx hb htb iX9 tyX9 tyX9_ok nmX9 hown hK.1 hP hD hS 0 rfl rfl 23 (by decide) (htb _ k_981) (fun _ h9 => h9) rfl (by decide +kernel) rfl rfl (Nat.le_of_ble_eq_true rfl) dX9_sumUp_188 (fun H locs hP hD hS => ?_)
            have hP : va_P D vwCl [(mh, .inr (9, G9 ma mcode mtoday moffs z_25 z_26 z_27 z_28 z_30 z_32 z_34 msumWR_48 msumAR_48 mupper mlower mrates mtaped mlaid mat mtk mtkAt mtkNumber mwaits mlisted mdealtMany)), ((ma 2), .inl (E 0, 400, .inl mf2)), ((ma 3), .inl (E 0, 16, .inl mf3)), ((ma 4), .inl (E 0, 16, .inl mf4)), ((ma 5), .inl (E 1, 6400, .inl mf5)), ((ma 6), .inl (E 0, 6400, .inl mf6)), ((ma 7), .inl (E 0, 6400, .inl mf7)), ((ma 8), .inl (E 1, 6400, .inl mf8)), ((ma 9), .inl (E 1, 6400, .inl mf9)), ((ma 12), .inl (E 0, 60, .inl mf12)), ((ma 13), .inl (E 0, 60, .inl mf13)), ((ma 14), .inl (E 0, 60, .inl mf14)), ((ma 15), .inl (E 0, 60, .inl mf15)), ((ma 16), .inl (E 0, 60, .inl mf16))] H := hP
            have hD := toW hP hD rfl
            refine lv_aload_n hx hb dX9_sumUp_191 rfl (lv_at hl 4 rfl) ?_
            refine lv_dup hx hb dX9_sumUp_192 rfl ?_
            refine va_get (D := D) (ci := 9) (v := .long msumWR_48) (C := RX9) (T := TX9) (N := 68) hx hb htb iX9 hown hK.1 hP 0 rfl rfl 24 (by decide) (htb _ k_982) (fun _ h9 => h9) rfl dX9_sumUp_193 ?_
            refine lv_lload hx hb dX9_sumUp_196 (lv_at hl 1 rfl) ?_
            refine lv_lload hx hb dX9_sumUp_198 (lv_at hl 2 rfl) ?_
            refine lv_lmul hx hb dX9_sumUp_200 ?_
            refine lv_topl (fun z_35 ez_35 => ?_)
            refine lv_ladd hx hb dX9_sumUp_201 ?_
            refine lv_topl (fun z_36 ez_36 => ?_)
            refine va_put (D := D) (ci := 9) (v := .long z_36) (ty := .long) (C := RX9) (T := TX9) (N := 68) hx hb htb iX9 tyX9 tyX9_ok nmX9 hown hK.1 hP hD hS 0 rfl rfl 24 (by decide) (htb _ k_982) (fun _ h9 => h9) rfl (by decide +kernel) rfl rfl (Nat.le_of_ble_eq_true rfl) dX9_sumUp_202 (fun H locs hP hD hS => ?_)
            have hP : va_P D vwCl [(mh, .inr (9, G9 ma mcode mtoday moffs z_25 z_26 z_27 z_28 z_30 z_32 z_34 z_36 msumAR_48 mupper mlower mrates mtaped mlaid mat mtk mtkAt mtkNumber mwaits mlisted mdealtMany)), ((ma 2), .inl (E 0, 400, .inl mf2)), ((ma 3), .inl (E 0, 16, .inl mf3)), ((ma 4), .inl (E 0, 16, .inl mf4)), ((ma 5), .inl (E 1, 6400, .inl mf5)), ((ma 6), .inl (E 0, 6400, .inl mf6)), ((ma 7), .inl (E 0, 6400, .inl mf7)), ((ma 8), .inl (E 1, 6400, .inl mf8)), ((ma 9), .inl (E 1, 6400, .inl mf9)), ((ma 12), .inl (E 0, 60, .inl mf12)), ((ma 13), .inl (E 0, 60, .inl mf13)), ((ma 14), .inl (E 0, 60, .inl mf14)), ((ma 15), .inl (E 0, 60, .inl mf15)), ((ma 16), .inl (E 0, 60, .inl mf16))] H := hP
            have hD := toW hP hD rfl
            refine lv_aload_n hx hb dX9_sumUp_205 rfl (lv_at hl 4 rfl) ?_
            refine lv_dup hx hb dX9_sumUp_206 rfl ?_
            refine va_get (D := D) (ci := 9) (v := .long msumAR_48) (C := RX9) (T := TX9) (N := 68) hx hb htb iX9 hown hK.1 hP 0 rfl rfl 25 (by decide) (htb _ k_983) (fun _ h9 => h9) rfl dX9_sumUp_207 ?_
            refine lv_lload hx hb dX9_sumUp_210 (lv_at hl 0 rfl) ?_
            refine lv_lload hx hb dX9_sumUp_212 (lv_at hl 2 rfl) ?_
            refine lv_lmul hx hb dX9_sumUp_214 ?_
            refine lv_topl (fun z_37 ez_37 => ?_)
            refine lv_ladd hx hb dX9_sumUp_215 ?_
            refine lv_topl (fun z_38 ez_38 => ?_)
            refine va_put (D := D) (ci := 9) (v := .long z_38) (ty := .long) (C := RX9) (T := TX9) (N := 68) hx hb htb iX9 tyX9 tyX9_ok nmX9 hown hK.1 hP hD hS 0 rfl rfl 25 (by decide) (htb _ k_983) (fun _ h9 => h9) rfl (by decide +kernel) rfl rfl (Nat.le_of_ble_eq_true rfl) dX9_sumUp_216 (fun H locs hP hD hS => ?_)
            have hP : va_P D vwCl [(mh, .inr (9, G9 ma mcode mtoday moffs z_25 z_26 z_27 z_28 z_30 z_32 z_34 z_36 z_38 mupper mlower mrates mtaped mlaid mat mtk mtkAt mtkNumber mwaits mlisted mdealtMany)), ((ma 2), .inl (E 0, 400, .inl mf2)), ((ma 3), .inl (E 0, 16, .inl mf3)), ((ma 4), .inl (E 0, 16, .inl mf4)), ((ma 5), .inl (E 1, 6400, .inl mf5)), ((ma 6), .inl (E 0, 6400, .inl mf6)), ((ma 7), .inl (E 0, 6400, .inl mf7)), ((ma 8), .inl (E 1, 6400, .inl mf8)), ((ma 9), .inl (E 1, 6400, .inl mf9)), ((ma 12), .inl (E 0, 60, .inl mf12)), ((ma 13), .inl (E 0, 60, .inl mf13)), ((ma 14), .inl (E 0, 60, .inl mf14)), ((ma 15), .inl (E 0, 60, .inl mf15)), ((ma 16), .inl (E 0, 60, .inl mf16))] H := hP
            have hD := toW hP hD rfl
            obtain ⟨z_39, ez_39⟩ : ∃ y : Int32, y = L4_48 + 1 := ⟨_, rfl⟩
            have jz_39 : z_39.toInt = L4_48.toInt + 1 := by rw [ez_39]; exact g_add rfl t_1 (by omega) (by omega)
            refine lv_iinc (v := z_39) (lv' := [(4, .int z_39), (9, .long z_24), (7, .long z_12), (5, .long z_8), (0, .ref mh), (1, .int p0), (2, .int p1), (3, .int p2)]) hx hb dX9_sumUp_219 hl (k := 3) rfl (by rw [ez_39]; rfl) (by decide) rfl (fun ls hl => ?_)
            refine lv_goto (tgt := 48) hx hb dX9_sumUp_222 (by decide) ?_
            exact ih_2 z_39 z_25 z_26 z_27 z_28 z_30 z_32 z_34 z_36 z_38 _ _ _ (by (try dsimp only); omega) (by (try dsimp only); omega) (by rw [fold9_step (R := (fun d => ratF mf5 mf6 mf7 mf8 mf9 mf12 mf13 mf14 mf15 mf16 moffs p0 d (-1))) (p := p1) (L := L4_48) (z := z_39) (by omega) (by omega) jz_39]; (try dsimp only); rw [← hw_6]; rw [if_neg (fun h9 => lc_17 ((l_eqc ez_8 (show ((-2000000000) : Int64).toInt = (-2000000000) by decide)).mpr h9))]; rw [step9_n (by (try dsimp only); rw [← hw_10]; exact fun h9 => lc_20 ((l_eqc ez_12 (show ((-1000) : Int64).toInt = (-1000) by decide)).mpr h9))]; (try dsimp only); rw [← hw_10, ← v1_48, ← agI_of hw_22 (by omega)]; subst_vars; rfl) hP hD hS (lv_sub hl [0, 4, 5, 6, 7] rfl)
          ·
            have lc_40 : (z_12 : Int64) = ((-1000) : Int64) := lc_eq (by rw [← ez_18]; exact c_19)
            refine lv_goto (tgt := 219) hx hb dX9_sumUp_93 (by decide) ?_
            obtain ⟨z_41, ez_41⟩ : ∃ y : Int32, y = L4_48 + 1 := ⟨_, rfl⟩
            have jz_41 : z_41.toInt = L4_48.toInt + 1 := by rw [ez_41]; exact g_add rfl t_1 (by omega) (by omega)
            refine lv_iinc (v := z_41) (lv' := [(4, .int z_41), (7, .long z_12), (5, .long z_8), (0, .ref mh), (1, .int p0), (2, .int p1), (3, .int p2)]) hx hb dX9_sumUp_219 hl (k := 2) rfl (by rw [ez_41]; rfl) (by decide) rfl (fun ls hl => ?_)
            refine lv_goto (tgt := 48) hx hb dX9_sumUp_222 (by decide) ?_
            exact ih_2 z_41 mmany_48 msumW_48 msumA_48 msumR_48 msumWW_48 msumWA_48 msumAA_48 msumWR_48 msumAR_48 _ _ _ (by (try dsimp only); omega) (by (try dsimp only); omega) (by rw [fold9_step (R := (fun d => ratF mf5 mf6 mf7 mf8 mf9 mf12 mf13 mf14 mf15 mf16 moffs p0 d (-1))) (p := p1) (L := L4_48) (z := z_41) (by omega) (by omega) jz_41]; (try dsimp only); rw [← hw_6]; rw [if_neg (fun h9 => lc_17 ((l_eqc ez_8 (show ((-2000000000) : Int64).toInt = (-2000000000) by decide)).mpr h9))]; rw [step9_p (by (try dsimp only); rw [← hw_10]; exact (l_eqc ez_12 (show ((-1000) : Int64).toInt = (-1000) by decide)).mp lc_40)]; exact v1_48) hP hD hS (lv_sub hl [0, 3, 4, 5, 6] rfl)
  exact loop_1 400 p1 0 0 0 0 0 0 0 0 0 _ _ _ (by have h0 := t_0; (try dsimp only); omega) (by have h0 := t_0; (try dsimp only); omega) (by rw [show (p1.toInt - p1.toInt).toNat = 0 by omega]; rfl) hP hD hS (lv_sub hl [0, 1, 2, 3, 4] rfl)
set_option maxHeartbeats 4000000 in
set_option maxRecDepth 100000 in
theorem g_X9_three (l : Launch) (D : va_G) (E : Nat → Nat) (mh : Nat) (ma : Nat → Nat) (mcode : Int32) (mtoday : Int32) (moffs : Int32) (mmany : Int64) (msumW : Int64) (msumA : Int64) (msumR : Int64) (msumWW : Int64) (msumWA : Int64) (msumAA : Int64) (msumWR : Int64) (msumAR : Int64) (mupper : Int64) (mlower : Int64) (mrates : Int32) (mtaped : Int32) (mlaid : Int32) (mat : Int32) (mtk : Int32) (mtkAt : Int32) (mtkNumber : Int32) (mwaits : Int32) (mlisted : Int32) (mdealtMany : Int32) (hi_m : (0 ≤ mtoday.toInt ∧ mtoday.toInt ≤ 399) ∧ (0 ≤ moffs.toInt ∧ moffs.toInt ≤ 60) ∧ (0 ≤ mrates.toInt ∧ mrates.toInt ≤ 60) ∧ (0 ≤ mtaped.toInt ∧ mtaped.toInt ≤ 120) ∧ (0 ≤ mlisted.toInt ∧ mlisted.toInt ≤ 9) ∧ (0 ≤ mdealtMany.toInt ∧ mdealtMany.toInt ≤ 9)) : Met l yX9_three (wl yX9_three cX9_three 1 (some .long)) (RM 0 0 0) (rd_P D E [.ref mh] [(mh, .inr (9, G9 ma mcode mtoday moffs mmany msumW msumA msumR msumWW msumWA msumAA msumWR msumAR mupper mlower mrates mtaped mlaid mat mtk mtkAt mtkNumber mwaits mlisted mdealtMany))]) (rl_Q (fun r => (r = thrF mmany msumW msumA msumWW msumWA msumAA))) 0 0 (fun _ => False) := by
  refine Met.ofW (cc := cX9_three) (maxL := 1) (ret := (some .long)) (by decide) rfl ?_
  intro p e s m args below meth c s₁ B hml hv
  obtain ⟨rfl, hP, hK⟩ := hv
  have hx := B.exec; have hb := B.bytes; have hr := B.returns
  have hts := atoms_spec (ws := wl yX9_three cX9_three 1 (some .long)) B.pre
  have htb : ∀ w ∈ tb, w.before _ s = true := fun w h => hts w (List.mem_cons_of_mem _ h)
  have hown : s.vm.findClass RX9 = some m.cls := findClass_of_methodNamed B.named
  have hlocks := B.notSynchronized
  have hP : va_P D vwCl [(mh, .inr (9, G9 ma mcode mtoday moffs mmany msumW msumA msumR msumWW msumWA msumAA msumWR msumAR mupper mlower mrates mtaped mlaid mat mtk mtkAt mtkNumber mwaits mlisted mdealtMany))] s.heap := hP
  have hl := lv_entry ([.ref mh]) (n := 1) (Nat.le_of_ble_eq_true rfl)
  rw [lg_entry_eq]
  generalize (lg_sl ([.ref mh]) ++ List.replicate (1 - (lg_sl ([.ref mh])).length) Slot.unset).toArray = ls at hl ⊢
  have hl : lv_has ls 1 [(0, .ref mh)] := hl
  refine lv_aload_n hx hb dX9_three_0 rfl (lv_at hl 0 rfl) ?_
  refine va_get (D := D) (ci := 9) (v := .long mmany) (C := RX9) (T := TX9) (N := 68) hx hb htb iX9 hown hK.1 hP 0 rfl rfl 17 (by decide) (htb _ k_975) (fun _ h9 => h9) rfl dX9_three_1 ?_
  refine lv_aload_n hx hb dX9_three_4 rfl (lv_at hl 0 rfl) ?_
  refine va_get (D := D) (ci := 9) (v := .long msumWW) (C := RX9) (T := TX9) (N := 68) hx hb htb iX9 hown hK.1 hP 0 rfl rfl 21 (by decide) (htb _ k_979) (fun _ h9 => h9) rfl dX9_three_5 ?_
  refine lv_aload_n hx hb dX9_three_8 rfl (lv_at hl 0 rfl) ?_
  refine va_get (D := D) (ci := 9) (v := .long msumAA) (C := RX9) (T := TX9) (N := 68) hx hb htb iX9 hown hK.1 hP 0 rfl rfl 23 (by decide) (htb _ k_981) (fun _ h9 => h9) rfl dX9_three_9 ?_
  refine lv_lmul hx hb dX9_three_12 ?_
  refine lv_topl (fun z_1 ez_1 => ?_)
  refine lv_aload_n hx hb dX9_three_13 rfl (lv_at hl 0 rfl) ?_
  refine va_get (D := D) (ci := 9) (v := .long msumWA) (C := RX9) (T := TX9) (N := 68) hx hb htb iX9 hown hK.1 hP 0 rfl rfl 22 (by decide) (htb _ k_980) (fun _ h9 => h9) rfl dX9_three_14 ?_
  refine lv_aload_n hx hb dX9_three_17 rfl (lv_at hl 0 rfl) ?_
  refine va_get (D := D) (ci := 9) (v := .long msumWA) (C := RX9) (T := TX9) (N := 68) hx hb htb iX9 hown hK.1 hP 0 rfl rfl 22 (by decide) (htb _ k_980) (fun _ h9 => h9) rfl dX9_three_18 ?_
  refine lv_lmul hx hb dX9_three_21 ?_
  refine lv_topl (fun z_2 ez_2 => ?_)
  refine lv_lsub hx hb dX9_three_22 ?_
  refine lv_topl (fun z_3 ez_3 => ?_)
  refine lv_lmul hx hb dX9_three_23 ?_
  refine lv_topl (fun z_4 ez_4 => ?_)
  refine lv_aload_n hx hb dX9_three_24 rfl (lv_at hl 0 rfl) ?_
  refine va_get (D := D) (ci := 9) (v := .long msumW) (C := RX9) (T := TX9) (N := 68) hx hb htb iX9 hown hK.1 hP 0 rfl rfl 18 (by decide) (htb _ k_976) (fun _ h9 => h9) rfl dX9_three_25 ?_
  refine lv_aload_n hx hb dX9_three_28 rfl (lv_at hl 0 rfl) ?_
  refine va_get (D := D) (ci := 9) (v := .long msumW) (C := RX9) (T := TX9) (N := 68) hx hb htb iX9 hown hK.1 hP 0 rfl rfl 18 (by decide) (htb _ k_976) (fun _ h9 => h9) rfl dX9_three_29 ?_
  refine lv_aload_n hx hb dX9_three_32 rfl (lv_at hl 0 rfl) ?_
  refine va_get (D := D) (ci := 9) (v := .long msumAA) (C := RX9) (T := TX9) (N := 68) hx hb htb iX9 hown hK.1 hP 0 rfl rfl 23 (by decide) (htb _ k_981) (fun _ h9 => h9) rfl dX9_three_33 ?_
  refine lv_lmul hx hb dX9_three_36 ?_
  refine lv_topl (fun z_5 ez_5 => ?_)
  refine lv_aload_n hx hb dX9_three_37 rfl (lv_at hl 0 rfl) ?_
  refine va_get (D := D) (ci := 9) (v := .long msumWA) (C := RX9) (T := TX9) (N := 68) hx hb htb iX9 hown hK.1 hP 0 rfl rfl 22 (by decide) (htb _ k_980) (fun _ h9 => h9) rfl dX9_three_38 ?_
  refine lv_aload_n hx hb dX9_three_41 rfl (lv_at hl 0 rfl) ?_
  refine va_get (D := D) (ci := 9) (v := .long msumA) (C := RX9) (T := TX9) (N := 68) hx hb htb iX9 hown hK.1 hP 0 rfl rfl 19 (by decide) (htb _ k_977) (fun _ h9 => h9) rfl dX9_three_42 ?_
  refine lv_lmul hx hb dX9_three_45 ?_
  refine lv_topl (fun z_6 ez_6 => ?_)
  refine lv_lsub hx hb dX9_three_46 ?_
  refine lv_topl (fun z_7 ez_7 => ?_)
  refine lv_lmul hx hb dX9_three_47 ?_
  refine lv_topl (fun z_8 ez_8 => ?_)
  refine lv_lsub hx hb dX9_three_48 ?_
  refine lv_topl (fun z_9 ez_9 => ?_)
  refine lv_aload_n hx hb dX9_three_49 rfl (lv_at hl 0 rfl) ?_
  refine va_get (D := D) (ci := 9) (v := .long msumA) (C := RX9) (T := TX9) (N := 68) hx hb htb iX9 hown hK.1 hP 0 rfl rfl 19 (by decide) (htb _ k_977) (fun _ h9 => h9) rfl dX9_three_50 ?_
  refine lv_aload_n hx hb dX9_three_53 rfl (lv_at hl 0 rfl) ?_
  refine va_get (D := D) (ci := 9) (v := .long msumW) (C := RX9) (T := TX9) (N := 68) hx hb htb iX9 hown hK.1 hP 0 rfl rfl 18 (by decide) (htb _ k_976) (fun _ h9 => h9) rfl dX9_three_54 ?_
  refine lv_aload_n hx hb dX9_three_57 rfl (lv_at hl 0 rfl) ?_
  refine va_get (D := D) (ci := 9) (v := .long msumWA) (C := RX9) (T := TX9) (N := 68) hx hb htb iX9 hown hK.1 hP 0 rfl rfl 22 (by decide) (htb _ k_980) (fun _ h9 => h9) rfl dX9_three_58 ?_
  refine lv_lmul hx hb dX9_three_61 ?_
  refine lv_topl (fun z_10 ez_10 => ?_)
  refine lv_aload_n hx hb dX9_three_62 rfl (lv_at hl 0 rfl) ?_
  refine va_get (D := D) (ci := 9) (v := .long msumWW) (C := RX9) (T := TX9) (N := 68) hx hb htb iX9 hown hK.1 hP 0 rfl rfl 21 (by decide) (htb _ k_979) (fun _ h9 => h9) rfl dX9_three_63 ?_
  refine lv_aload_n hx hb dX9_three_66 rfl (lv_at hl 0 rfl) ?_
  refine va_get (D := D) (ci := 9) (v := .long msumA) (C := RX9) (T := TX9) (N := 68) hx hb htb iX9 hown hK.1 hP 0 rfl rfl 19 (by decide) (htb _ k_977) (fun _ h9 => h9) rfl dX9_three_67 ?_
  refine lv_lmul hx hb dX9_three_70 ?_
  refine lv_topl (fun z_11 ez_11 => ?_)
  refine lv_lsub hx hb dX9_three_71 ?_
  refine lv_topl (fun z_12 ez_12 => ?_)
  refine lv_lmul hx hb dX9_three_72 ?_
  refine lv_topl (fun z_13 ez_13 => ?_)
  refine lv_ladd hx hb dX9_three_73 ?_
  refine lv_topl (fun z_14 ez_14 => ?_)
  exact W.lret (v := z_14) hx hb hr (fun t ht hW => ⟨z_14, rfl, (by subst_vars; rfl), ht⟩) (fun q h => by cases h) dX9_three_74
set_option maxHeartbeats 4000000 in
set_option maxRecDepth 100000 in
theorem g_X9_two (l : Launch) (D : va_G) (E : Nat → Nat) (mh : Nat) (ma : Nat → Nat) (mcode : Int32) (mtoday : Int32) (moffs : Int32) (mmany : Int64) (msumW : Int64) (msumA : Int64) (msumR : Int64) (msumWW : Int64) (msumWA : Int64) (msumAA : Int64) (msumWR : Int64) (msumAR : Int64) (mupper : Int64) (mlower : Int64) (mrates : Int32) (mtaped : Int32) (mlaid : Int32) (mat : Int32) (mtk : Int32) (mtkAt : Int32) (mtkNumber : Int32) (mwaits : Int32) (mlisted : Int32) (mdealtMany : Int32) (p0 : Int64) (p1 : Int64) (hi_m : (0 ≤ mtoday.toInt ∧ mtoday.toInt ≤ 399) ∧ (0 ≤ moffs.toInt ∧ moffs.toInt ≤ 60) ∧ (0 ≤ mrates.toInt ∧ mrates.toInt ≤ 60) ∧ (0 ≤ mtaped.toInt ∧ mtaped.toInt ≤ 120) ∧ (0 ≤ mlisted.toInt ∧ mlisted.toInt ≤ 9) ∧ (0 ≤ mdealtMany.toInt ∧ mdealtMany.toInt ≤ 9)) : Met l yX9_two (wl yX9_two cX9_two 5 (some .long)) (RM 0 0 0) (rd_P D E [.ref mh, .long p0, .long p1] [(mh, .inr (9, G9 ma mcode mtoday moffs mmany msumW msumA msumR msumWW msumWA msumAA msumWR msumAR mupper mlower mrates mtaped mlaid mat mtk mtkAt mtkNumber mwaits mlisted mdealtMany))]) (rl_Q (fun r => (r = twoF mmany p0 p1))) 0 0 (fun _ => False) := by
  refine Met.ofW (cc := cX9_two) (maxL := 5) (ret := (some .long)) (by decide) rfl ?_
  intro p e s m args below meth c s₁ B hml hv
  obtain ⟨rfl, hP, hK⟩ := hv
  have hx := B.exec; have hb := B.bytes; have hr := B.returns
  have hts := atoms_spec (ws := wl yX9_two cX9_two 5 (some .long)) B.pre
  have htb : ∀ w ∈ tb, w.before _ s = true := fun w h => hts w (List.mem_cons_of_mem _ h)
  have hown : s.vm.findClass RX9 = some m.cls := findClass_of_methodNamed B.named
  have hlocks := B.notSynchronized
  have hP : va_P D vwCl [(mh, .inr (9, G9 ma mcode mtoday moffs mmany msumW msumA msumR msumWW msumWA msumAA msumWR msumAR mupper mlower mrates mtaped mlaid mat mtk mtkAt mtkNumber mwaits mlisted mdealtMany))] s.heap := hP
  have hl := lv_entry ([.ref mh, .long p0, .long p1]) (n := 5) (Nat.le_of_ble_eq_true rfl)
  rw [lg_entry_eq]
  generalize (lg_sl ([.ref mh, .long p0, .long p1]) ++ List.replicate (5 - (lg_sl ([.ref mh, .long p0, .long p1])).length) Slot.unset).toArray = ls at hl ⊢
  have hl : lv_has ls 5 [(0, .ref mh), (1, .long p0), (3, .long p1)] := hl
  refine lv_aload_n hx hb dX9_two_0 rfl (lv_at hl 0 rfl) ?_
  refine va_get (D := D) (ci := 9) (v := .long mmany) (C := RX9) (T := TX9) (N := 68) hx hb htb iX9 hown hK.1 hP 0 rfl rfl 17 (by decide) (htb _ k_975) (fun _ h9 => h9) rfl dX9_two_1 ?_
  refine lv_lload_n hx hb dX9_two_4 rfl (lv_at hl 2 rfl) ?_
  refine lv_lmul hx hb dX9_two_5 ?_
  refine lv_topl (fun z_1 ez_1 => ?_)
  refine lv_lload_n hx hb dX9_two_6 rfl (lv_at hl 1 rfl) ?_
  refine lv_lload_n hx hb dX9_two_7 rfl (lv_at hl 1 rfl) ?_
  refine lv_lmul hx hb dX9_two_8 ?_
  refine lv_topl (fun z_2 ez_2 => ?_)
  refine lv_lsub hx hb dX9_two_9 ?_
  refine lv_topl (fun z_3 ez_3 => ?_)
  exact W.lret (v := z_3) hx hb hr (fun t ht hW => ⟨z_3, rfl, (by subst_vars; rfl), ht⟩) (fun q h => by cases h) dX9_two_10
set_option maxHeartbeats 4000000 in
set_option maxRecDepth 100000 in
theorem g_X9_termsNow (l : Launch) (D : va_G) (E : Nat → Nat) (mh : Nat) (ma : Nat → Nat) (mcode : Int32) (mtoday : Int32) (moffs : Int32) (mmany : Int64) (msumW : Int64) (msumA : Int64) (msumR : Int64) (msumWW : Int64) (msumWA : Int64) (msumAA : Int64) (msumWR : Int64) (msumAR : Int64) (mupper : Int64) (mlower : Int64) (mrates : Int32) (mtaped : Int32) (mlaid : Int32) (mat : Int32) (mtk : Int32) (mtkAt : Int32) (mtkNumber : Int32) (mwaits : Int32) (mlisted : Int32) (mdealtMany : Int32) (hi_m : (0 ≤ mtoday.toInt ∧ mtoday.toInt ≤ 399) ∧ (0 ≤ moffs.toInt ∧ moffs.toInt ≤ 60) ∧ (0 ≤ mrates.toInt ∧ mrates.toInt ≤ 60) ∧ (0 ≤ mtaped.toInt ∧ mtaped.toInt ≤ 120) ∧ (0 ≤ mlisted.toInt ∧ mlisted.toInt ≤ 9) ∧ (0 ≤ mdealtMany.toInt ∧ mdealtMany.toInt ≤ 9)) : Met l yX9_termsNow (wl yX9_termsNow cX9_termsNow 1 (some .int)) (RM 1 0 0) (rd_P D E [.ref mh] [(mh, .inr (9, G9 ma mcode mtoday moffs mmany msumW msumA msumR msumWW msumWA msumAA msumWR msumAR mupper mlower mrates mtaped mlaid mat mtk mtkAt mtkNumber mwaits mlisted mdealtMany))]) (rd_Q (fun r => ((r = 3 ∧ ¬ thrF mmany msumW msumA msumWW msumWA msumAA = 0) ∨ (r = 2 ∧ (thrF mmany msumW msumA msumWW msumWA msumAA = 0 ∧ ¬ twoF mmany msumW msumWW = 0)) ∨ (r = 4 ∧ (thrF mmany msumW msumA msumWW msumWA msumAA = 0 ∧ twoF mmany msumW msumWW = 0 ∧ ¬ twoF mmany msumA msumAA = 0)) ∨ (r = 1 ∧ (thrF mmany msumW msumA msumWW msumWA msumAA = 0 ∧ twoF mmany msumW msumWW = 0 ∧ twoF mmany msumA msumAA = 0))))) 0 0 (fun _ => False) := by
  refine Met.ofW (cc := cX9_termsNow) (maxL := 1) (ret := (some .int)) (by decide) rfl ?_
  intro p e s m args below meth c s₁ B hml hv
  obtain ⟨rfl, hP, hK⟩ := hv
  have hx := B.exec; have hb := B.bytes; have hr := B.returns
  have hts := atoms_spec (ws := wl yX9_termsNow cX9_termsNow 1 (some .int)) B.pre
  have htb : ∀ w ∈ tb, w.before _ s = true := fun w h => hts w (List.mem_cons_of_mem _ h)
  have hown : s.vm.findClass RX9 = some m.cls := findClass_of_methodNamed B.named
  have hlocks := B.notSynchronized
  have hP : va_P D vwCl [(mh, .inr (9, G9 ma mcode mtoday moffs mmany msumW msumA msumR msumWW msumWA msumAA msumWR msumAR mupper mlower mrates mtaped mlaid mat mtk mtkAt mtkNumber mwaits mlisted mdealtMany))] s.heap := hP
  have hl := lv_entry ([.ref mh]) (n := 1) (Nat.le_of_ble_eq_true rfl)
  rw [lg_entry_eq]
  generalize (lg_sl ([.ref mh]) ++ List.replicate (1 - (lg_sl ([.ref mh])).length) Slot.unset).toArray = ls at hl ⊢
  have hl : lv_has ls 1 [(0, .ref mh)] := hl
  refine lv_aload_n hx hb dX9_termsNow_0 rfl (lv_at hl 0 rfl) ?_
  refine callLV (rest := []) (As := []) hx hb hml hown htb hK (g_X9_three l D E mh ma mcode mtoday moffs mmany msumW msumA msumR msumWW msumWA msumAA msumWR msumAR mupper mlower mrates mtaped mlaid mat mtk mtkAt mtkNumber mwaits mlisted mdealtMany (by (try dsimp only); omega)) ok_X9_three k_1291 k_1293 ks_49 k_9 k_1294 ⟨(Nat.le_of_ble_eq_true rfl), (Nat.le_of_ble_eq_true rfl)⟩ ⟨(Nat.le_of_ble_eq_true rfl), (Nat.le_of_ble_eq_true rfl)⟩ hl.1 (Nat.le_of_ble_eq_true rfl) rfl rfl dX9_termsNow_1 (hP.sub (ws' := [(mh, .inr (9, G9 ma mcode mtoday moffs mmany msumW msumA msumR msumWW msumWA msumAA msumWR msumAR mupper mlower mrates mtaped mlaid mat mtk mtkAt mtkNumber mwaits mlisted mdealtMany))]) [0] rfl) rfl rfl 0 rfl (fun r_1 hw_2 => ?_)
  refine lv_lconst (v := 0) hx hb dX9_termsNow_4 (by decide) ?_
  refine W.lcmp hx hb dX9_termsNow_5 ?_
  refine lv_topi (fun z_4 ez_4 => ?_)
  refine lv_if_eq (tgt := 13) hx hb dX9_termsNow_6 (by decide) (fun c_5 => ?_) (fun c_5 => ?_)
  ·
    have lc_6 : (r_1 : Int64) = (0 : Int64) := lc_eq (by rw [← ez_4]; exact c_5)
    refine lv_aload_n hx hb dX9_termsNow_13 rfl (lv_at hl 0 rfl) ?_
    refine lv_aload_n hx hb dX9_termsNow_14 rfl (lv_at hl 0 rfl) ?_
    refine va_get (D := D) (ci := 9) (v := .long msumW) (C := RX9) (T := TX9) (N := 68) hx hb htb iX9 hown hK.1 hP 0 rfl rfl 18 (by decide) (htb _ k_976) (fun _ h9 => h9) rfl dX9_termsNow_15 ?_
    refine lv_aload_n hx hb dX9_termsNow_18 rfl (lv_at hl 0 rfl) ?_
    refine va_get (D := D) (ci := 9) (v := .long msumWW) (C := RX9) (T := TX9) (N := 68) hx hb htb iX9 hown hK.1 hP 0 rfl rfl 21 (by decide) (htb _ k_979) (fun _ h9 => h9) rfl dX9_termsNow_19 ?_
    refine callLV (rest := []) (As := [.long msumW, .long msumWW]) hx hb hml hown htb hK (g_X9_two l D E mh ma mcode mtoday moffs mmany msumW msumA msumR msumWW msumWA msumAA msumWR msumAR mupper mlower mrates mtaped mlaid mat mtk mtkAt mtkNumber mwaits mlisted mdealtMany msumW msumWW (by (try dsimp only); omega)) ok_X9_two k_1295 k_1297 ks_50 k_9 k_1298 ⟨(Nat.le_of_ble_eq_true rfl), (Nat.le_of_ble_eq_true rfl)⟩ ⟨(Nat.le_of_ble_eq_true rfl), (Nat.le_of_ble_eq_true rfl)⟩ hl.1 (Nat.le_of_ble_eq_true rfl) rfl rfl dX9_termsNow_22 (hP.sub (ws' := [(mh, .inr (9, G9 ma mcode mtoday moffs mmany msumW msumA msumR msumWW msumWA msumAA msumWR msumAR mupper mlower mrates mtaped mlaid mat mtk mtkAt mtkNumber mwaits mlisted mdealtMany))]) [0] rfl) rfl rfl 0 rfl (fun r_7 hw_8 => ?_)
    refine lv_lconst (v := 0) hx hb dX9_termsNow_25 (by decide) ?_
    refine W.lcmp hx hb dX9_termsNow_26 ?_
    refine lv_topi (fun z_10 ez_10 => ?_)
    refine lv_if_eq (tgt := 34) hx hb dX9_termsNow_27 (by decide) (fun c_11 => ?_) (fun c_11 => ?_)
    ·
      have lc_12 : (r_7 : Int64) = (0 : Int64) := lc_eq (by rw [← ez_10]; exact c_11)
      refine lv_aload_n hx hb dX9_termsNow_34 rfl (lv_at hl 0 rfl) ?_
      refine lv_aload_n hx hb dX9_termsNow_35 rfl (lv_at hl 0 rfl) ?_
      refine va_get (D := D) (ci := 9) (v := .long msumA) (C := RX9) (T := TX9) (N := 68) hx hb htb iX9 hown hK.1 hP 0 rfl rfl 19 (by decide) (htb _ k_977) (fun _ h9 => h9) rfl dX9_termsNow_36 ?_
      refine lv_aload_n hx hb dX9_termsNow_39 rfl (lv_at hl 0 rfl) ?_
      refine va_get (D := D) (ci := 9) (v := .long msumAA) (C := RX9) (T := TX9) (N := 68) hx hb htb iX9 hown hK.1 hP 0 rfl rfl 23 (by decide) (htb _ k_981) (fun _ h9 => h9) rfl dX9_termsNow_40 ?_
      refine callLV (rest := []) (As := [.long msumA, .long msumAA]) hx hb hml hown htb hK (g_X9_two l D E mh ma mcode mtoday moffs mmany msumW msumA msumR msumWW msumWA msumAA msumWR msumAR mupper mlower mrates mtaped mlaid mat mtk mtkAt mtkNumber mwaits mlisted mdealtMany msumA msumAA (by (try dsimp only); omega)) ok_X9_two k_1295 k_1297 ks_50 k_9 k_1298 ⟨(Nat.le_of_ble_eq_true rfl), (Nat.le_of_ble_eq_true rfl)⟩ ⟨(Nat.le_of_ble_eq_true rfl), (Nat.le_of_ble_eq_true rfl)⟩ hl.1 (Nat.le_of_ble_eq_true rfl) rfl rfl dX9_termsNow_43 (hP.sub (ws' := [(mh, .inr (9, G9 ma mcode mtoday moffs mmany msumW msumA msumR msumWW msumWA msumAA msumWR msumAR mupper mlower mrates mtaped mlaid mat mtk mtkAt mtkNumber mwaits mlisted mdealtMany))]) [0] rfl) rfl rfl 0 rfl (fun r_13 hw_14 => ?_)
      refine lv_lconst (v := 0) hx hb dX9_termsNow_46 (by decide) ?_
      refine W.lcmp hx hb dX9_termsNow_47 ?_
      refine lv_topi (fun z_16 ez_16 => ?_)
      refine lv_if_eq (tgt := 55) hx hb dX9_termsNow_48 (by decide) (fun c_17 => ?_) (fun c_17 => ?_)
      ·
        have lc_18 : (r_13 : Int64) = (0 : Int64) := lc_eq (by rw [← ez_16]; exact c_17)
        refine lv_iconst (v := 1) hx hb dX9_termsNow_55 (by decide) ?_
        exact W.iret (v := 1) hx hb hr (fun t ht hW => ⟨1, rfl, (by subst_vars; first | exact Or.inl ⟨by decide, by assumption⟩ | exact Or.inr (Or.inl ⟨by decide, by assumption, by assumption⟩) | exact Or.inr (Or.inr (Or.inl ⟨by decide, by assumption, by assumption, by assumption⟩)) | exact Or.inr (Or.inr (Or.inr ⟨by decide, by assumption, by assumption, by assumption⟩))), ht⟩) (fun q h => by cases h) dX9_termsNow_56
      ·
        have lc_19 : ¬ (r_13 : Int64) = (0 : Int64) := lc_ne (by rw [← ez_16]; exact c_17)
        refine lv_iconst (v := 4) hx hb dX9_termsNow_51 (by decide) ?_
        refine lv_goto (tgt := 56) hx hb dX9_termsNow_52 (by decide) ?_
        exact W.iret (v := 4) hx hb hr (fun t ht hW => ⟨4, rfl, (by subst_vars; first | exact Or.inl ⟨by decide, by assumption⟩ | exact Or.inr (Or.inl ⟨by decide, by assumption, by assumption⟩) | exact Or.inr (Or.inr (Or.inl ⟨by decide, by assumption, by assumption, by assumption⟩)) | exact Or.inr (Or.inr (Or.inr ⟨by decide, by assumption, by assumption, by assumption⟩))), ht⟩) (fun q h => by cases h) dX9_termsNow_56
    ·
      have lc_20 : ¬ (r_7 : Int64) = (0 : Int64) := lc_ne (by rw [← ez_10]; exact c_11)
      refine lv_iconst (v := 2) hx hb dX9_termsNow_30 (by decide) ?_
      refine lv_goto (tgt := 56) hx hb dX9_termsNow_31 (by decide) ?_
      exact W.iret (v := 2) hx hb hr (fun t ht hW => ⟨2, rfl, (by subst_vars; first | exact Or.inl ⟨by decide, by assumption⟩ | exact Or.inr (Or.inl ⟨by decide, by assumption, by assumption⟩) | exact Or.inr (Or.inr (Or.inl ⟨by decide, by assumption, by assumption, by assumption⟩)) | exact Or.inr (Or.inr (Or.inr ⟨by decide, by assumption, by assumption, by assumption⟩))), ht⟩) (fun q h => by cases h) dX9_termsNow_56
  ·
    have lc_21 : ¬ (r_1 : Int64) = (0 : Int64) := lc_ne (by rw [← ez_4]; exact c_5)
    refine lv_iconst (v := 3) hx hb dX9_termsNow_9 (by decide) ?_
    refine lv_goto (tgt := 56) hx hb dX9_termsNow_10 (by decide) ?_
    exact W.iret (v := 3) hx hb hr (fun t ht hW => ⟨3, rfl, (by subst_vars; first | exact Or.inl ⟨by decide, by assumption⟩ | exact Or.inr (Or.inl ⟨by decide, by assumption, by assumption⟩) | exact Or.inr (Or.inr (Or.inl ⟨by decide, by assumption, by assumption, by assumption⟩)) | exact Or.inr (Or.inr (Or.inr ⟨by decide, by assumption, by assumption, by assumption⟩))), ht⟩) (fun q h => by cases h) dX9_termsNow_56
set_option maxHeartbeats 4000000 in
set_option maxRecDepth 100000 in
theorem g_X9_law (l : Launch) (D : va_G) (E : Nat → Nat) (mh : Nat) (ma : Nat → Nat) (mcode : Int32) (mtoday : Int32) (moffs : Int32) (mmany : Int64) (msumW : Int64) (msumA : Int64) (msumR : Int64) (msumWW : Int64) (msumWA : Int64) (msumAA : Int64) (msumWR : Int64) (msumAR : Int64) (mupper : Int64) (mlower : Int64) (mrates : Int32) (mtaped : Int32) (mlaid : Int32) (mat : Int32) (mtk : Int32) (mtkAt : Int32) (mtkNumber : Int32) (mwaits : Int32) (mlisted : Int32) (mdealtMany : Int32) (mf2 : Nat → Int32) (mf3 : Nat → Int32) (mf4 : Nat → Int32) (mf5 : Nat → Int32) (mf6 : Nat → Int32) (mf7 : Nat → Int32) (mf8 : Nat → Int32) (mf9 : Nat → Int32) (mf12 : Nat → Int32) (mf13 : Nat → Int32) (mf14 : Nat → Int32) (mf15 : Nat → Int32) (mf16 : Nat → Int32) (p0 : Int32) (p1 : Int32) (p2 : Int32) (sz : Nat) (hi_m : (0 ≤ mtoday.toInt ∧ mtoday.toInt ≤ 399) ∧ (0 ≤ moffs.toInt ∧ moffs.toInt ≤ 60) ∧ (0 ≤ mrates.toInt ∧ mrates.toInt ≤ 60) ∧ (0 ≤ mtaped.toInt ∧ mtaped.toInt ≤ 120) ∧ (0 ≤ mlisted.toInt ∧ mlisted.toInt ≤ 9) ∧ (0 ≤ mdealtMany.toInt ∧ mdealtMany.toInt ≤ 9)) : Met l yX9_law (wl yX9_law cX9_law 5 (some .int)) (RM 4 0 0) (mu_P D E [.ref mh, .int p0, .int p1, .int p2] [(mh, .inr (9, G9 ma mcode mtoday moffs mmany msumW msumA msumR msumWW msumWA msumAA msumWR msumAR mupper mlower mrates mtaped mlaid mat mtk mtkAt mtkNumber mwaits mlisted mdealtMany)), ((ma 2), .inl (E 0, 400, .inl mf2)), ((ma 3), .inl (E 0, 16, .inl mf3)), ((ma 4), .inl (E 0, 16, .inl mf4)), ((ma 5), .inl (E 1, 6400, .inl mf5)), ((ma 6), .inl (E 0, 6400, .inl mf6)), ((ma 7), .inl (E 0, 6400, .inl mf7)), ((ma 8), .inl (E 1, 6400, .inl mf8)), ((ma 9), .inl (E 1, 6400, .inl mf9)), ((ma 12), .inl (E 0, 60, .inl mf12)), ((ma 13), .inl (E 0, 60, .inl mf13)), ((ma 14), .inl (E 0, 60, .inl mf14)), ((ma 15), .inl (E 0, 60, .inl mf15)), ((ma 16), .inl (E 0, 60, .inl mf16))] sz) (va_Qi (fun (r : Int32) (u : (Int64) × (Int64) × (Int64) × (Int64) × (Int64) × (Int64) × (Int64) × (Int64) × (Int64)) => ((r.toInt = -1 ∧ ¬ ((0 ≤ p0.toInt ∧ p0.toInt ≤ 15) ∧ (0 ≤ p1.toInt ∧ p2.toInt ≤ 399 ∧ p1.toInt < p2.toInt ∧ p2.toInt - p1.toInt ≤ 60))) ∨ (((0 ≤ p0.toInt ∧ p0.toInt ≤ 15) ∧ (0 ≤ p1.toInt ∧ p2.toInt ≤ 399 ∧ p1.toInt < p2.toInt ∧ p2.toInt - p1.toInt ≤ 60)) ∧ (((mf3 (p0).toNatClampNeg).toInt = -5 ∧ r.toInt = -2) ∨ ((mf3 (p0).toNatClampNeg).toInt = 2 ∧ r.toInt = -3))) ∨ (((0 ≤ p0.toInt ∧ p0.toInt ≤ 15) ∧ (0 ≤ p1.toInt ∧ p2.toInt ≤ 399 ∧ p1.toInt < p2.toInt ∧ p2.toInt - p1.toInt ≤ 60)) ∧ ((mf3 (p0).toNatClampNeg).toInt ≠ -5 ∧ (mf3 (p0).toNatClampNeg).toInt ≠ 2) ∧ r = (fold9 (fun d => wmF mf3 mf4 mf2 p0 d) (fun d => agI mf8 (400 * p0.toInt).toNat d) (-1000) (rateL (fun d => ratF mf5 mf6 mf7 mf8 mf9 mf12 mf13 mf14 mf15 mf16 moffs p0 d (-1)) p1 (p2.toInt - p1.toInt).toNat)).1.toInt32))) (mu_B D (va_A [(mh, .inr (9, G9 ma mcode mtoday moffs mmany msumW msumA msumR msumWW msumWA msumAA msumWR msumAR mupper mlower mrates mtaped mlaid mat mtk mtkAt mtkNumber mwaits mlisted mdealtMany)), ((ma 2), .inl (E 0, 400, .inl mf2)), ((ma 3), .inl (E 0, 16, .inl mf3)), ((ma 4), .inl (E 0, 16, .inl mf4)), ((ma 5), .inl (E 1, 6400, .inl mf5)), ((ma 6), .inl (E 0, 6400, .inl mf6)), ((ma 7), .inl (E 0, 6400, .inl mf7)), ((ma 8), .inl (E 1, 6400, .inl mf8)), ((ma 9), .inl (E 1, 6400, .inl mf9)), ((ma 12), .inl (E 0, 60, .inl mf12)), ((ma 13), .inl (E 0, 60, .inl mf13)), ((ma 14), .inl (E 0, 60, .inl mf14)), ((ma 15), .inl (E 0, 60, .inl mf15)), ((ma 16), .inl (E 0, 60, .inl mf16))] sz) (fun (u : (Int64) × (Int64) × (Int64) × (Int64) × (Int64) × (Int64) × (Int64) × (Int64) × (Int64)) => [(mh, .inr (9, G9 ma mcode mtoday moffs u.1 u.2.2.2.2.2.1 u.2.1 u.2.2.2.2.1 u.2.2.2.2.2.2.2.2 u.2.2.2.2.2.2.1 u.2.2.1 u.2.2.2.2.2.2.2.1 u.2.2.2.1 mupper mlower mrates mtaped mlaid mat mtk mtkAt mtkNumber mwaits mlisted mdealtMany)), ((ma 2), .inl (E 0, 400, .inl mf2)), ((ma 3), .inl (E 0, 16, .inl mf3)), ((ma 4), .inl (E 0, 16, .inl mf4)), ((ma 5), .inl (E 1, 6400, .inl mf5)), ((ma 6), .inl (E 0, 6400, .inl mf6)), ((ma 7), .inl (E 0, 6400, .inl mf7)), ((ma 8), .inl (E 1, 6400, .inl mf8)), ((ma 9), .inl (E 1, 6400, .inl mf9)), ((ma 12), .inl (E 0, 60, .inl mf12)), ((ma 13), .inl (E 0, 60, .inl mf13)), ((ma 14), .inl (E 0, 60, .inl mf14)), ((ma 15), .inl (E 0, 60, .inl mf15)), ((ma 16), .inl (E 0, 60, .inl mf16))])) (va_A [(mh, .inr (9, G9 ma mcode mtoday moffs mmany msumW msumA msumR msumWW msumWA msumAA msumWR msumAR mupper mlower mrates mtaped mlaid mat mtk mtkAt mtkNumber mwaits mlisted mdealtMany)), ((ma 2), .inl (E 0, 400, .inl mf2)), ((ma 3), .inl (E 0, 16, .inl mf3)), ((ma 4), .inl (E 0, 16, .inl mf4)), ((ma 5), .inl (E 1, 6400, .inl mf5)), ((ma 6), .inl (E 0, 6400, .inl mf6)), ((ma 7), .inl (E 0, 6400, .inl mf7)), ((ma 8), .inl (E 1, 6400, .inl mf8)), ((ma 9), .inl (E 1, 6400, .inl mf9)), ((ma 12), .inl (E 0, 60, .inl mf12)), ((ma 13), .inl (E 0, 60, .inl mf13)), ((ma 14), .inl (E 0, 60, .inl mf14)), ((ma 15), .inl (E 0, 60, .inl mf15)), ((ma 16), .inl (E 0, 60, .inl mf16))] sz)) 0 0 (va_A [(mh, .inr (9, G9 ma mcode mtoday moffs mmany msumW msumA msumR msumWW msumWA msumAA msumWR msumAR mupper mlower mrates mtaped mlaid mat mtk mtkAt mtkNumber mwaits mlisted mdealtMany)), ((ma 2), .inl (E 0, 400, .inl mf2)), ((ma 3), .inl (E 0, 16, .inl mf3)), ((ma 4), .inl (E 0, 16, .inl mf4)), ((ma 5), .inl (E 1, 6400, .inl mf5)), ((ma 6), .inl (E 0, 6400, .inl mf6)), ((ma 7), .inl (E 0, 6400, .inl mf7)), ((ma 8), .inl (E 1, 6400, .inl mf8)), ((ma 9), .inl (E 1, 6400, .inl mf9)), ((ma 12), .inl (E 0, 60, .inl mf12)), ((ma 13), .inl (E 0, 60, .inl mf13)), ((ma 14), .inl (E 0, 60, .inl mf14)), ((ma 15), .inl (E 0, 60, .inl mf15)), ((ma 16), .inl (E 0, 60, .inl mf16))] sz) := by
  refine Met.ofW (cc := cX9_law) (maxL := 5) (ret := (some .int)) (by decide) rfl ?_
  intro p e s m args below meth c s₁ B hml hv
  obtain ⟨rfl, hsz, hP, hK, hD0⟩ := hv
  have hx := B.exec; have hb := B.bytes; have hr := B.returns
  have hts := atoms_spec (ws := wl yX9_law cX9_law 5 (some .int)) B.pre
  have htb : ∀ w ∈ tb, w.before _ s = true := fun w h => hts w (List.mem_cons_of_mem _ h)
  have hown : s.vm.findClass RX9 = some m.cls := findClass_of_methodNamed B.named
  have hlocks := B.notSynchronized
  subst hsz
  have hD := hD0.self (sz := s.heap.size)
  generalize hAe : va_A [(mh, .inr (9, G9 ma mcode mtoday moffs mmany msumW msumA msumR msumWW msumWA msumAA msumWR msumAR mupper mlower mrates mtaped mlaid mat mtk mtkAt mtkNumber mwaits mlisted mdealtMany)), ((ma 2), .inl (E 0, 400, .inl mf2)), ((ma 3), .inl (E 0, 16, .inl mf3)), ((ma 4), .inl (E 0, 16, .inl mf4)), ((ma 5), .inl (E 1, 6400, .inl mf5)), ((ma 6), .inl (E 0, 6400, .inl mf6)), ((ma 7), .inl (E 0, 6400, .inl mf7)), ((ma 8), .inl (E 1, 6400, .inl mf8)), ((ma 9), .inl (E 1, 6400, .inl mf9)), ((ma 12), .inl (E 0, 60, .inl mf12)), ((ma 13), .inl (E 0, 60, .inl mf13)), ((ma 14), .inl (E 0, 60, .inl mf14)), ((ma 15), .inl (E 0, 60, .inl mf15)), ((ma 16), .inl (E 0, 60, .inl mf16))] s.heap.size = A at hD ⊢
  have hA : ∀ q : Nat, s.heap.size ≤ q → A q := fun q h => by rw [← hAe]; exact Or.inr h
  have hS : va_S A s.heap s.heap [] := va_S.rf
  have hP : va_P D vwCl [(mh, .inr (9, G9 ma mcode mtoday moffs mmany msumW msumA msumR msumWW msumWA msumAA msumWR msumAR mupper mlower mrates mtaped mlaid mat mtk mtkAt mtkNumber mwaits mlisted mdealtMany)), ((ma 2), .inl (E 0, 400, .inl mf2)), ((ma 3), .inl (E 0, 16, .inl mf3)), ((ma 4), .inl (E 0, 16, .inl mf4)), ((ma 5), .inl (E 1, 6400, .inl mf5)), ((ma 6), .inl (E 0, 6400, .inl mf6)), ((ma 7), .inl (E 0, 6400, .inl mf7)), ((ma 8), .inl (E 1, 6400, .inl mf8)), ((ma 9), .inl (E 1, 6400, .inl mf9)), ((ma 12), .inl (E 0, 60, .inl mf12)), ((ma 13), .inl (E 0, 60, .inl mf13)), ((ma 14), .inl (E 0, 60, .inl mf14)), ((ma 15), .inl (E 0, 60, .inl mf15)), ((ma 16), .inl (E 0, 60, .inl mf16))] s.heap := hP
  have hl := lv_entry ([.ref mh, .int p0, .int p1, .int p2]) (n := 5) (Nat.le_of_ble_eq_true rfl)
  rw [lg_entry_eq]
  generalize (lg_sl ([.ref mh, .int p0, .int p1, .int p2]) ++ List.replicate (5 - (lg_sl ([.ref mh, .int p0, .int p1, .int p2])).length) Slot.unset).toArray = ls at hl ⊢
  have hl : lv_has ls 5 [(0, .ref mh), (1, .int p0), (2, .int p1), (3, .int p2)] := hl
  have lo_p0 := i_lo p0; have hi_p0 := i_hi p0
  have lo_p1 := i_lo p1; have hi_p1 := i_hi p1
  have lo_p2 := i_lo p2; have hi_p2 := i_hi p2
  refine lv_aload_n hx hb dX9_law_0 rfl (lv_at hl 0 rfl) ?_
  refine lv_iload_n hx hb dX9_law_1 rfl (lv_at hl 1 rfl) ?_
  refine lv_iload_n hx hb dX9_law_2 rfl (lv_at hl 2 rfl) ?_
  refine lv_iload_n hx hb dX9_law_3 rfl (lv_at hl 3 rfl) ?_
  refine callRV (rest := []) (As := [.int p0, .int p1, .int p2]) hx hb hml hown htb hK (g_X9_asked l D E mh ma mcode mtoday moffs mmany msumW msumA msumR msumWW msumWA msumAA msumWR msumAR mupper mlower mrates mtaped mlaid mat mtk mtkAt mtkNumber mwaits mlisted mdealtMany mf3 p0 p1 p2 (by (try dsimp only); omega)) ok_X9_asked k_1269 k_1271 ks_45 k_9 k_1272 ⟨(Nat.le_of_ble_eq_true rfl), (Nat.le_of_ble_eq_true rfl)⟩ ⟨(Nat.le_of_ble_eq_true rfl), (Nat.le_of_ble_eq_true rfl)⟩ hl.1 (Nat.le_of_ble_eq_true rfl) rfl rfl dX9_law_4 (hP.sub (ws' := [(mh, .inr (9, G9 ma mcode mtoday moffs mmany msumW msumA msumR msumWW msumWA msumAA msumWR msumAR mupper mlower mrates mtaped mlaid mat mtk mtkAt mtkNumber mwaits mlisted mdealtMany)), ((ma 3), .inl (E 0, 16, .inl mf3))]) [0, 2] rfl) rfl rfl 0 rfl (fun r_1 hw_2 => ?_)
  refine lv_istore (lv' := [(4, .int r_1), (0, .ref mh), (1, .int p0), (2, .int p1), (3, .int p2)]) hx hb dX9_law_7 hl (by decide) rfl (fun ls hl => ?_)
  refine lv_iload hx hb dX9_law_9 (lv_at hl 0 rfl) ?_
  refine lv_if_ge (tgt := 17) hx hb dX9_law_11 (by decide) (fun c_4 => ?_) (fun c_4 => ?_)
  ·
    have ic_4 : 0 ≤ r_1.toInt := by first | exact (g_le t_0 rfl).mp c_4 | (have h := mt (g_lt rfl t_0).mpr c_4; omega)
    clear c_4
    refine lv_aload_n hx hb dX9_law_17 rfl (lv_at hl 1 rfl) ?_
    refine lv_iload_n hx hb dX9_law_18 rfl (lv_at hl 2 rfl) ?_
    refine lv_iload_n hx hb dX9_law_19 rfl (lv_at hl 3 rfl) ?_
    refine lv_iload_n hx hb dX9_law_20 rfl (lv_at hl 4 rfl) ?_
    have hPc := hP.sub (ws' := [(mh, .inr (9, G9 ma mcode mtoday moffs mmany msumW msumA msumR msumWW msumWA msumAA msumWR msumAR mupper mlower mrates mtaped mlaid mat mtk mtkAt mtkNumber mwaits mlisted mdealtMany)), ((ma 2), .inl (E 0, 400, .inl mf2)), ((ma 3), .inl (E 0, 16, .inl mf3)), ((ma 4), .inl (E 0, 16, .inl mf4)), ((ma 5), .inl (E 1, 6400, .inl mf5)), ((ma 6), .inl (E 0, 6400, .inl mf6)), ((ma 7), .inl (E 0, 6400, .inl mf7)), ((ma 8), .inl (E 1, 6400, .inl mf8)), ((ma 9), .inl (E 1, 6400, .inl mf9)), ((ma 12), .inl (E 0, 60, .inl mf12)), ((ma 13), .inl (E 0, 60, .inl mf13)), ((ma 14), .inl (E 0, 60, .inl mf14)), ((ma 15), .inl (E 0, 60, .inl mf15)), ((ma 16), .inl (E 0, 60, .inl mf16))]) [0, 1, 2, 3, 4, 5, 6, 7, 8, 9, 10, 11, 12, 13] rfl
    have hDc := hD.sub (ws' := [(mh, .inr (9, G9 ma mcode mtoday moffs mmany msumW msumA msumR msumWW msumWA msumAA msumWR msumAR mupper mlower mrates mtaped mlaid mat mtk mtkAt mtkNumber mwaits mlisted mdealtMany)), ((ma 2), .inl (E 0, 400, .inl mf2)), ((ma 3), .inl (E 0, 16, .inl mf3)), ((ma 4), .inl (E 0, 16, .inl mf4)), ((ma 5), .inl (E 1, 6400, .inl mf5)), ((ma 6), .inl (E 0, 6400, .inl mf6)), ((ma 7), .inl (E 0, 6400, .inl mf7)), ((ma 8), .inl (E 1, 6400, .inl mf8)), ((ma 9), .inl (E 1, 6400, .inl mf9)), ((ma 12), .inl (E 0, 60, .inl mf12)), ((ma 13), .inl (E 0, 60, .inl mf13)), ((ma 14), .inl (E 0, 60, .inl mf14)), ((ma 15), .inl (E 0, 60, .inl mf15)), ((ma 16), .inl (E 0, 60, .inl mf16))]) [0, 1, 2, 3, 4, 5, 6, 7, 8, 9, 10, 11, 12, 13] (by decide) rfl
    refine aft_v (runMV (rest := []) (As := [.int p0, .int p1, .int p2]) hx hb hml hown htb hK (g_X9_sumUp l D E mh ma mcode mtoday moffs mmany msumW msumA msumR msumWW msumWA msumAA msumWR msumAR mupper mlower mrates mtaped mlaid mat mtk mtkAt mtkNumber mwaits mlisted mdealtMany mf2 mf3 mf4 mf5 mf6 mf7 mf8 mf9 mf12 mf13 mf14 mf15 mf16 p0 p1 p2 _ (by (try dsimp only); omega) (by (try dsimp only); omega) (by (try dsimp only); omega)) ok_X9_sumUp k_1273 k_1275 ks_46 k_9 k_1276 ⟨(Nat.le_of_ble_eq_true rfl), (Nat.le_of_ble_eq_true rfl)⟩ ⟨(Nat.le_of_ble_eq_true rfl), (Nat.le_of_ble_eq_true rfl)⟩ hl.1 (Nat.le_of_ble_eq_true rfl) rfl rfl dX9_law_21 hPc hDc rfl rfl 0 rfl) hP hD hS hA [0, 1, 2, 3, 4, 5, 6, 7, 8, 9, 10, 11, 12, 13] [] (wr := ([] : va_W)) rfl rfl (by decide) (by decide) (fun u_7 H locs hw_6 hP hD hS => ?_)
    clear hPc hDc
    obtain ⟨w_8, w_9, w_10, w_11, w_12, w_13, w_14, w_15, w_16⟩ := u_7
    try dsimp only at hw_6
    have hP : va_P D vwCl [(mh, .inr (9, G9 ma mcode mtoday moffs w_8 w_13 w_9 w_12 w_16 w_14 w_10 w_15 w_11 mupper mlower mrates mtaped mlaid mat mtk mtkAt mtkNumber mwaits mlisted mdealtMany)), ((ma 2), .inl (E 0, 400, .inl mf2)), ((ma 3), .inl (E 0, 16, .inl mf3)), ((ma 4), .inl (E 0, 16, .inl mf4)), ((ma 5), .inl (E 1, 6400, .inl mf5)), ((ma 6), .inl (E 0, 6400, .inl mf6)), ((ma 7), .inl (E 0, 6400, .inl mf7)), ((ma 8), .inl (E 1, 6400, .inl mf8)), ((ma 9), .inl (E 1, 6400, .inl mf9)), ((ma 12), .inl (E 0, 60, .inl mf12)), ((ma 13), .inl (E 0, 60, .inl mf13)), ((ma 14), .inl (E 0, 60, .inl mf14)), ((ma 15), .inl (E 0, 60, .inl mf15)), ((ma 16), .inl (E 0, 60, .inl mf16))] H := hP
    have hD := toW hP hD rfl
    refine lv_aload_n hx hb dX9_law_24 rfl (lv_at hl 1 rfl) ?_
    refine va_get (D := D) (ci := 9) (v := .long w_8) (C := RX9) (T := TX9) (N := 68) hx hb htb iX9 hown hK.1 hP 0 rfl rfl 17 (by decide) (htb _ k_975) (fun _ h9 => h9) rfl dX9_law_25 ?_
    obtain ⟨z_17, ez_17⟩ : ∃ y : Int32, (w_8 : Int64).toInt32 = y := ⟨_, rfl⟩
    refine lv_l2i hx hb dX9_law_28 ez_17 ?_
    have hP9 := hP.sub (ws' := [(mh, .inr (9, G9 ma mcode mtoday moffs w_8 w_13 w_9 w_12 w_16 w_14 w_10 w_15 w_11 mupper mlower mrates mtaped mlaid mat mtk mtkAt mtkNumber mwaits mlisted mdealtMany)), ((ma 2), .inl (E 0, 400, .inl mf2)), ((ma 3), .inl (E 0, 16, .inl mf3)), ((ma 4), .inl (E 0, 16, .inl mf4)), ((ma 5), .inl (E 1, 6400, .inl mf5)), ((ma 6), .inl (E 0, 6400, .inl mf6)), ((ma 7), .inl (E 0, 6400, .inl mf7)), ((ma 8), .inl (E 1, 6400, .inl mf8)), ((ma 9), .inl (E 1, 6400, .inl mf9)), ((ma 12), .inl (E 0, 60, .inl mf12)), ((ma 13), .inl (E 0, 60, .inl mf13)), ((ma 14), .inl (E 0, 60, .inl mf14)), ((ma 15), .inl (E 0, 60, .inl mf15)), ((ma 16), .inl (E 0, 60, .inl mf16))]) [0, 1, 2, 3, 4, 5, 6, 7, 8, 9, 10, 11, 12, 13] rfl
    have hD9 := hD.sub (ws' := [(mh, .inr (9, G9 ma mcode mtoday moffs w_8 w_13 w_9 w_12 w_16 w_14 w_10 w_15 w_11 mupper mlower mrates mtaped mlaid mat mtk mtkAt mtkNumber mwaits mlisted mdealtMany)), ((ma 2), .inl (E 0, 400, .inl mf2)), ((ma 3), .inl (E 0, 16, .inl mf3)), ((ma 4), .inl (E 0, 16, .inl mf4)), ((ma 5), .inl (E 1, 6400, .inl mf5)), ((ma 6), .inl (E 0, 6400, .inl mf6)), ((ma 7), .inl (E 0, 6400, .inl mf7)), ((ma 8), .inl (E 1, 6400, .inl mf8)), ((ma 9), .inl (E 1, 6400, .inl mf9)), ((ma 12), .inl (E 0, 60, .inl mf12)), ((ma 13), .inl (E 0, 60, .inl mf13)), ((ma 14), .inl (E 0, 60, .inl mf14)), ((ma 15), .inl (E 0, 60, .inl mf15)), ((ma 16), .inl (E 0, 60, .inl mf16))]) [0, 1, 2, 3, 4, 5, 6, 7, 8, 9, 10, 11, 12, 13] (by decide) rfl
    exact W.iret (v := z_17) hx hb hr (fun t ht hW => ⟨⟨z_17, (w_8, w_9, w_10, w_11, w_12, w_13, w_14, w_15, w_16), rfl, (Or.inr (Or.inr ⟨by have h9 := hw_2; omega, by have h9 := hw_2; omega, by rw [← hw_6]; exact ez_17.symm⟩)), by rw [ht]; exact hP9, hD9⟩, hS.F ht⟩) hS.2.2 dX9_law_29
  ·
    have ic_4 : r_1.toInt < 0 := by first | exact (g_lt rfl t_0).mp c_4 | (have h := mt (g_le t_0 rfl).mpr c_4; omega)
    clear c_4
    refine lv_iload hx hb dX9_law_14 (lv_at hl 0 rfl) ?_
    have hP9 := hP.sub (ws' := [(mh, .inr (9, G9 ma mcode mtoday moffs mmany msumW msumA msumR msumWW msumWA msumAA msumWR msumAR mupper mlower mrates mtaped mlaid mat mtk mtkAt mtkNumber mwaits mlisted mdealtMany)), ((ma 2), .inl (E 0, 400, .inl mf2)), ((ma 3), .inl (E 0, 16, .inl mf3)), ((ma 4), .inl (E 0, 16, .inl mf4)), ((ma 5), .inl (E 1, 6400, .inl mf5)), ((ma 6), .inl (E 0, 6400, .inl mf6)), ((ma 7), .inl (E 0, 6400, .inl mf7)), ((ma 8), .inl (E 1, 6400, .inl mf8)), ((ma 9), .inl (E 1, 6400, .inl mf9)), ((ma 12), .inl (E 0, 60, .inl mf12)), ((ma 13), .inl (E 0, 60, .inl mf13)), ((ma 14), .inl (E 0, 60, .inl mf14)), ((ma 15), .inl (E 0, 60, .inl mf15)), ((ma 16), .inl (E 0, 60, .inl mf16))]) [0, 1, 2, 3, 4, 5, 6, 7, 8, 9, 10, 11, 12, 13] rfl
    have hD9 := hD.sub (ws' := [(mh, .inr (9, G9 ma mcode mtoday moffs mmany msumW msumA msumR msumWW msumWA msumAA msumWR msumAR mupper mlower mrates mtaped mlaid mat mtk mtkAt mtkNumber mwaits mlisted mdealtMany)), ((ma 2), .inl (E 0, 400, .inl mf2)), ((ma 3), .inl (E 0, 16, .inl mf3)), ((ma 4), .inl (E 0, 16, .inl mf4)), ((ma 5), .inl (E 1, 6400, .inl mf5)), ((ma 6), .inl (E 0, 6400, .inl mf6)), ((ma 7), .inl (E 0, 6400, .inl mf7)), ((ma 8), .inl (E 1, 6400, .inl mf8)), ((ma 9), .inl (E 1, 6400, .inl mf9)), ((ma 12), .inl (E 0, 60, .inl mf12)), ((ma 13), .inl (E 0, 60, .inl mf13)), ((ma 14), .inl (E 0, 60, .inl mf14)), ((ma 15), .inl (E 0, 60, .inl mf15)), ((ma 16), .inl (E 0, 60, .inl mf16))]) [0, 1, 2, 3, 4, 5, 6, 7, 8, 9, 10, 11, 12, 13] (by decide) rfl
    exact W.iret (v := r_1) hx hb hr (fun t ht hW => ⟨⟨r_1, (mmany, msumA, msumAA, msumAR, msumR, msumW, msumWA, msumWR, msumWW), rfl, (by rcases hw_2 with h9 | h9 | h9 <;> first | (exfalso; omega) | exact Or.inl ⟨by omega, by omega⟩ | exact Or.inr (Or.inl ⟨by omega, by omega⟩)), by rw [ht]; exact hP9, hD9⟩, hS.F ht⟩) hS.2.2 dX9_law_16
set_option maxHeartbeats 4000000 in
set_option maxRecDepth 100000 in
theorem g_X9_terms (l : Launch) (D : va_G) (E : Nat → Nat) (mh : Nat) (ma : Nat → Nat) (mcode : Int32) (mtoday : Int32) (moffs : Int32) (mmany : Int64) (msumW : Int64) (msumA : Int64) (msumR : Int64) (msumWW : Int64) (msumWA : Int64) (msumAA : Int64) (msumWR : Int64) (msumAR : Int64) (mupper : Int64) (mlower : Int64) (mrates : Int32) (mtaped : Int32) (mlaid : Int32) (mat : Int32) (mtk : Int32) (mtkAt : Int32) (mtkNumber : Int32) (mwaits : Int32) (mlisted : Int32) (mdealtMany : Int32) (mf2 : Nat → Int32) (mf3 : Nat → Int32) (mf4 : Nat → Int32) (mf5 : Nat → Int32) (mf6 : Nat → Int32) (mf7 : Nat → Int32) (mf8 : Nat → Int32) (mf9 : Nat → Int32) (mf12 : Nat → Int32) (mf13 : Nat → Int32) (mf14 : Nat → Int32) (mf15 : Nat → Int32) (mf16 : Nat → Int32) (p0 : Int32) (p1 : Int32) (p2 : Int32) (sz : Nat) (hi_m : (0 ≤ mtoday.toInt ∧ mtoday.toInt ≤ 399) ∧ (0 ≤ moffs.toInt ∧ moffs.toInt ≤ 60) ∧ (0 ≤ mrates.toInt ∧ mrates.toInt ≤ 60) ∧ (0 ≤ mtaped.toInt ∧ mtaped.toInt ≤ 120) ∧ (0 ≤ mlisted.toInt ∧ mlisted.toInt ≤ 9) ∧ (0 ≤ mdealtMany.toInt ∧ mdealtMany.toInt ≤ 9)) : Met l yX9_terms (wl yX9_terms cX9_terms 5 (some .int)) (RM 4 0 0) (mu_P D E [.ref mh, .int p0, .int p1, .int p2] [(mh, .inr (9, G9 ma mcode mtoday moffs mmany msumW msumA msumR msumWW msumWA msumAA msumWR msumAR mupper mlower mrates mtaped mlaid mat mtk mtkAt mtkNumber mwaits mlisted mdealtMany)), ((ma 2), .inl (E 0, 400, .inl mf2)), ((ma 3), .inl (E 0, 16, .inl mf3)), ((ma 4), .inl (E 0, 16, .inl mf4)), ((ma 5), .inl (E 1, 6400, .inl mf5)), ((ma 6), .inl (E 0, 6400, .inl mf6)), ((ma 7), .inl (E 0, 6400, .inl mf7)), ((ma 8), .inl (E 1, 6400, .inl mf8)), ((ma 9), .inl (E 1, 6400, .inl mf9)), ((ma 12), .inl (E 0, 60, .inl mf12)), ((ma 13), .inl (E 0, 60, .inl mf13)), ((ma 14), .inl (E 0, 60, .inl mf14)), ((ma 15), .inl (E 0, 60, .inl mf15)), ((ma 16), .inl (E 0, 60, .inl mf16))] sz) (va_Qi (fun (r : Int32) (u : (Int64) × (Int64) × (Int64) × (Int64) × (Int64) × (Int64) × (Int64) × (Int64) × (Int64)) => ((r.toInt = -1 ∧ ¬ ((0 ≤ p0.toInt ∧ p0.toInt ≤ 15) ∧ (0 ≤ p1.toInt ∧ p2.toInt ≤ 399 ∧ p1.toInt < p2.toInt ∧ p2.toInt - p1.toInt ≤ 60))) ∨ (((0 ≤ p0.toInt ∧ p0.toInt ≤ 15) ∧ (0 ≤ p1.toInt ∧ p2.toInt ≤ 399 ∧ p1.toInt < p2.toInt ∧ p2.toInt - p1.toInt ≤ 60)) ∧ (((mf3 (p0).toNatClampNeg).toInt = -5 ∧ r.toInt = -2) ∨ ((mf3 (p0).toNatClampNeg).toInt = 2 ∧ r.toInt = -3))) ∨ (((0 ≤ p0.toInt ∧ p0.toInt ≤ 15) ∧ (0 ≤ p1.toInt ∧ p2.toInt ≤ 399 ∧ p1.toInt < p2.toInt ∧ p2.toInt - p1.toInt ≤ 60)) ∧ ((mf3 (p0).toNatClampNeg).toInt ≠ -5 ∧ (mf3 (p0).toNatClampNeg).toInt ≠ 2) ∧ (((fold9 (fun d => wmF mf3 mf4 mf2 p0 d) (fun d => agI mf8 (400 * p0.toInt).toNat d) (-1000) (rateL (fun d => ratF mf5 mf6 mf7 mf8 mf9 mf12 mf13 mf14 mf15 mf16 moffs p0 d (-1)) p1 (p2.toInt - p1.toInt).toNat)).1 = 0 ∧ r.toInt = -4) ∨ (¬ (fold9 (fun d => wmF mf3 mf4 mf2 p0 d) (fun d => agI mf8 (400 * p0.toInt).toNat d) (-1000) (rateL (fun d => ratF mf5 mf6 mf7 mf8 mf9 mf12 mf13 mf14 mf15 mf16 moffs p0 d (-1)) p1 (p2.toInt - p1.toInt).toNat)).1 = 0 ∧ r.toInt = frmM (fold9 (fun d => wmF mf3 mf4 mf2 p0 d) (fun d => agI mf8 (400 * p0.toInt).toNat d) (-1000) (rateL (fun d => ratF mf5 mf6 mf7 mf8 mf9 mf12 mf13 mf14 mf15 mf16 moffs p0 d (-1)) p1 (p2.toInt - p1.toInt).toNat))))))) (mu_B D (va_A [(mh, .inr (9, G9 ma mcode mtoday moffs mmany msumW msumA msumR msumWW msumWA msumAA msumWR msumAR mupper mlower mrates mtaped mlaid mat mtk mtkAt mtkNumber mwaits mlisted mdealtMany)), ((ma 2), .inl (E 0, 400, .inl mf2)), ((ma 3), .inl (E 0, 16, .inl mf3)), ((ma 4), .inl (E 0, 16, .inl mf4)), ((ma 5), .inl (E 1, 6400, .inl mf5)), ((ma 6), .inl (E 0, 6400, .inl mf6)), ((ma 7), .inl (E 0, 6400, .inl mf7)), ((ma 8), .inl (E 1, 6400, .inl mf8)), ((ma 9), .inl (E 1, 6400, .inl mf9)), ((ma 12), .inl (E 0, 60, .inl mf12)), ((ma 13), .inl (E 0, 60, .inl mf13)), ((ma 14), .inl (E 0, 60, .inl mf14)), ((ma 15), .inl (E 0, 60, .inl mf15)), ((ma 16), .inl (E 0, 60, .inl mf16))] sz) (fun (u : (Int64) × (Int64) × (Int64) × (Int64) × (Int64) × (Int64) × (Int64) × (Int64) × (Int64)) => [(mh, .inr (9, G9 ma mcode mtoday moffs u.1 u.2.2.2.2.2.1 u.2.1 u.2.2.2.2.1 u.2.2.2.2.2.2.2.2 u.2.2.2.2.2.2.1 u.2.2.1 u.2.2.2.2.2.2.2.1 u.2.2.2.1 mupper mlower mrates mtaped mlaid mat mtk mtkAt mtkNumber mwaits mlisted mdealtMany)), ((ma 2), .inl (E 0, 400, .inl mf2)), ((ma 3), .inl (E 0, 16, .inl mf3)), ((ma 4), .inl (E 0, 16, .inl mf4)), ((ma 5), .inl (E 1, 6400, .inl mf5)), ((ma 6), .inl (E 0, 6400, .inl mf6)), ((ma 7), .inl (E 0, 6400, .inl mf7)), ((ma 8), .inl (E 1, 6400, .inl mf8)), ((ma 9), .inl (E 1, 6400, .inl mf9)), ((ma 12), .inl (E 0, 60, .inl mf12)), ((ma 13), .inl (E 0, 60, .inl mf13)), ((ma 14), .inl (E 0, 60, .inl mf14)), ((ma 15), .inl (E 0, 60, .inl mf15)), ((ma 16), .inl (E 0, 60, .inl mf16))])) (va_A [(mh, .inr (9, G9 ma mcode mtoday moffs mmany msumW msumA msumR msumWW msumWA msumAA msumWR msumAR mupper mlower mrates mtaped mlaid mat mtk mtkAt mtkNumber mwaits mlisted mdealtMany)), ((ma 2), .inl (E 0, 400, .inl mf2)), ((ma 3), .inl (E 0, 16, .inl mf3)), ((ma 4), .inl (E 0, 16, .inl mf4)), ((ma 5), .inl (E 1, 6400, .inl mf5)), ((ma 6), .inl (E 0, 6400, .inl mf6)), ((ma 7), .inl (E 0, 6400, .inl mf7)), ((ma 8), .inl (E 1, 6400, .inl mf8)), ((ma 9), .inl (E 1, 6400, .inl mf9)), ((ma 12), .inl (E 0, 60, .inl mf12)), ((ma 13), .inl (E 0, 60, .inl mf13)), ((ma 14), .inl (E 0, 60, .inl mf14)), ((ma 15), .inl (E 0, 60, .inl mf15)), ((ma 16), .inl (E 0, 60, .inl mf16))] sz)) 0 0 (va_A [(mh, .inr (9, G9 ma mcode mtoday moffs mmany msumW msumA msumR msumWW msumWA msumAA msumWR msumAR mupper mlower mrates mtaped mlaid mat mtk mtkAt mtkNumber mwaits mlisted mdealtMany)), ((ma 2), .inl (E 0, 400, .inl mf2)), ((ma 3), .inl (E 0, 16, .inl mf3)), ((ma 4), .inl (E 0, 16, .inl mf4)), ((ma 5), .inl (E 1, 6400, .inl mf5)), ((ma 6), .inl (E 0, 6400, .inl mf6)), ((ma 7), .inl (E 0, 6400, .inl mf7)), ((ma 8), .inl (E 1, 6400, .inl mf8)), ((ma 9), .inl (E 1, 6400, .inl mf9)), ((ma 12), .inl (E 0, 60, .inl mf12)), ((ma 13), .inl (E 0, 60, .inl mf13)), ((ma 14), .inl (E 0, 60, .inl mf14)), ((ma 15), .inl (E 0, 60, .inl mf15)), ((ma 16), .inl (E 0, 60, .inl mf16))] sz) := by
  refine Met.ofW (cc := cX9_terms) (maxL := 5) (ret := (some .int)) (by decide) rfl ?_
  intro p e s m args below meth c s₁ B hml hv
  obtain ⟨rfl, hsz, hP, hK, hD0⟩ := hv
  have hx := B.exec; have hb := B.bytes; have hr := B.returns
  have hts := atoms_spec (ws := wl yX9_terms cX9_terms 5 (some .int)) B.pre
  have htb : ∀ w ∈ tb, w.before _ s = true := fun w h => hts w (List.mem_cons_of_mem _ h)
  have hown : s.vm.findClass RX9 = some m.cls := findClass_of_methodNamed B.named
  have hlocks := B.notSynchronized
  subst hsz
  have hD := hD0.self (sz := s.heap.size)
  generalize hAe : va_A [(mh, .inr (9, G9 ma mcode mtoday moffs mmany msumW msumA msumR msumWW msumWA msumAA msumWR msumAR mupper mlower mrates mtaped mlaid mat mtk mtkAt mtkNumber mwaits mlisted mdealtMany)), ((ma 2), .inl (E 0, 400, .inl mf2)), ((ma 3), .inl (E 0, 16, .inl mf3)), ((ma 4), .inl (E 0, 16, .inl mf4)), ((ma 5), .inl (E 1, 6400, .inl mf5)), ((ma 6), .inl (E 0, 6400, .inl mf6)), ((ma 7), .inl (E 0, 6400, .inl mf7)), ((ma 8), .inl (E 1, 6400, .inl mf8)), ((ma 9), .inl (E 1, 6400, .inl mf9)), ((ma 12), .inl (E 0, 60, .inl mf12)), ((ma 13), .inl (E 0, 60, .inl mf13)), ((ma 14), .inl (E 0, 60, .inl mf14)), ((ma 15), .inl (E 0, 60, .inl mf15)), ((ma 16), .inl (E 0, 60, .inl mf16))] s.heap.size = A at hD ⊢
  have hA : ∀ q : Nat, s.heap.size ≤ q → A q := fun q h => by rw [← hAe]; exact Or.inr h
  have hS : va_S A s.heap s.heap [] := va_S.rf
  have hP : va_P D vwCl [(mh, .inr (9, G9 ma mcode mtoday moffs mmany msumW msumA msumR msumWW msumWA msumAA msumWR msumAR mupper mlower mrates mtaped mlaid mat mtk mtkAt mtkNumber mwaits mlisted mdealtMany)), ((ma 2), .inl (E 0, 400, .inl mf2)), ((ma 3), .inl (E 0, 16, .inl mf3)), ((ma 4), .inl (E 0, 16, .inl mf4)), ((ma 5), .inl (E 1, 6400, .inl mf5)), ((ma 6), .inl (E 0, 6400, .inl mf6)), ((ma 7), .inl (E 0, 6400, .inl mf7)), ((ma 8), .inl (E 1, 6400, .inl mf8)), ((ma 9), .inl (E 1, 6400, .inl mf9)), ((ma 12), .inl (E 0, 60, .inl mf12)), ((ma 13), .inl (E 0, 60, .inl mf13)), ((ma 14), .inl (E 0, 60, .inl mf14)), ((ma 15), .inl (E 0, 60, .inl mf15)), ((ma 16), .inl (E 0, 60, .inl mf16))] s.heap := hP
  have hl := lv_entry ([.ref mh, .int p0, .int p1, .int p2]) (n := 5) (Nat.le_of_ble_eq_true rfl)
  rw [lg_entry_eq]
  generalize (lg_sl ([.ref mh, .int p0, .int p1, .int p2]) ++ List.replicate (5 - (lg_sl ([.ref mh, .int p0, .int p1, .int p2])).length) Slot.unset).toArray = ls at hl ⊢
  have hl : lv_has ls 5 [(0, .ref mh), (1, .int p0), (2, .int p1), (3, .int p2)] := hl
  have lo_p0 := i_lo p0; have hi_p0 := i_hi p0
  have lo_p1 := i_lo p1; have hi_p1 := i_hi p1
  have lo_p2 := i_lo p2; have hi_p2 := i_hi p2
  refine lv_aload_n hx hb dX9_terms_0 rfl (lv_at hl 0 rfl) ?_
  refine lv_iload_n hx hb dX9_terms_1 rfl (lv_at hl 1 rfl) ?_
  refine lv_iload_n hx hb dX9_terms_2 rfl (lv_at hl 2 rfl) ?_
  refine lv_iload_n hx hb dX9_terms_3 rfl (lv_at hl 3 rfl) ?_
  refine callRV (rest := []) (As := [.int p0, .int p1, .int p2]) hx hb hml hown htb hK (g_X9_asked l D E mh ma mcode mtoday moffs mmany msumW msumA msumR msumWW msumWA msumAA msumWR msumAR mupper mlower mrates mtaped mlaid mat mtk mtkAt mtkNumber mwaits mlisted mdealtMany mf3 p0 p1 p2 (by (try dsimp only); omega)) ok_X9_asked k_1269 k_1271 ks_45 k_9 k_1272 ⟨(Nat.le_of_ble_eq_true rfl), (Nat.le_of_ble_eq_true rfl)⟩ ⟨(Nat.le_of_ble_eq_true rfl), (Nat.le_of_ble_eq_true rfl)⟩ hl.1 (Nat.le_of_ble_eq_true rfl) rfl rfl dX9_terms_4 (hP.sub (ws' := [(mh, .inr (9, G9 ma mcode mtoday moffs mmany msumW msumA msumR msumWW msumWA msumAA msumWR msumAR mupper mlower mrates mtaped mlaid mat mtk mtkAt mtkNumber mwaits mlisted mdealtMany)), ((ma 3), .inl (E 0, 16, .inl mf3))]) [0, 2] rfl) rfl rfl 0 rfl (fun r_1 hw_2 => ?_)
  refine lv_istore (lv' := [(4, .int r_1), (0, .ref mh), (1, .int p0), (2, .int p1), (3, .int p2)]) hx hb dX9_terms_7 hl (by decide) rfl (fun ls hl => ?_)
  refine lv_iload hx hb dX9_terms_9 (lv_at hl 0 rfl) ?_
  refine lv_if_ge (tgt := 17) hx hb dX9_terms_11 (by decide) (fun c_4 => ?_) (fun c_4 => ?_)
  ·
    have ic_4 : 0 ≤ r_1.toInt := by first | exact (g_le t_0 rfl).mp c_4 | (have h := mt (g_lt rfl t_0).mpr c_4; omega)
    clear c_4
    refine lv_aload_n hx hb dX9_terms_17 rfl (lv_at hl 1 rfl) ?_
    refine lv_iload_n hx hb dX9_terms_18 rfl (lv_at hl 2 rfl) ?_
    refine lv_iload_n hx hb dX9_terms_19 rfl (lv_at hl 3 rfl) ?_
    refine lv_iload_n hx hb dX9_terms_20 rfl (lv_at hl 4 rfl) ?_
    have hPc := hP.sub (ws' := [(mh, .inr (9, G9 ma mcode mtoday moffs mmany msumW msumA msumR msumWW msumWA msumAA msumWR msumAR mupper mlower mrates mtaped mlaid mat mtk mtkAt mtkNumber mwaits mlisted mdealtMany)), ((ma 2), .inl (E 0, 400, .inl mf2)), ((ma 3), .inl (E 0, 16, .inl mf3)), ((ma 4), .inl (E 0, 16, .inl mf4)), ((ma 5), .inl (E 1, 6400, .inl mf5)), ((ma 6), .inl (E 0, 6400, .inl mf6)), ((ma 7), .inl (E 0, 6400, .inl mf7)), ((ma 8), .inl (E 1, 6400, .inl mf8)), ((ma 9), .inl (E 1, 6400, .inl mf9)), ((ma 12), .inl (E 0, 60, .inl mf12)), ((ma 13), .inl (E 0, 60, .inl mf13)), ((ma 14), .inl (E 0, 60, .inl mf14)), ((ma 15), .inl (E 0, 60, .inl mf15)), ((ma 16), .inl (E 0, 60, .inl mf16))]) [0, 1, 2, 3, 4, 5, 6, 7, 8, 9, 10, 11, 12, 13] rfl
    have hDc := hD.sub (ws' := [(mh, .inr (9, G9 ma mcode mtoday moffs mmany msumW msumA msumR msumWW msumWA msumAA msumWR msumAR mupper mlower mrates mtaped mlaid mat mtk mtkAt mtkNumber mwaits mlisted mdealtMany)), ((ma 2), .inl (E 0, 400, .inl mf2)), ((ma 3), .inl (E 0, 16, .inl mf3)), ((ma 4), .inl (E 0, 16, .inl mf4)), ((ma 5), .inl (E 1, 6400, .inl mf5)), ((ma 6), .inl (E 0, 6400, .inl mf6)), ((ma 7), .inl (E 0, 6400, .inl mf7)), ((ma 8), .inl (E 1, 6400, .inl mf8)), ((ma 9), .inl (E 1, 6400, .inl mf9)), ((ma 12), .inl (E 0, 60, .inl mf12)), ((ma 13), .inl (E 0, 60, .inl mf13)), ((ma 14), .inl (E 0, 60, .inl mf14)), ((ma 15), .inl (E 0, 60, .inl mf15)), ((ma 16), .inl (E 0, 60, .inl mf16))]) [0, 1, 2, 3, 4, 5, 6, 7, 8, 9, 10, 11, 12, 13] (by decide) rfl
    refine aft_v (runMV (rest := []) (As := [.int p0, .int p1, .int p2]) hx hb hml hown htb hK (g_X9_sumUp l D E mh ma mcode mtoday moffs mmany msumW msumA msumR msumWW msumWA msumAA msumWR msumAR mupper mlower mrates mtaped mlaid mat mtk mtkAt mtkNumber mwaits mlisted mdealtMany mf2 mf3 mf4 mf5 mf6 mf7 mf8 mf9 mf12 mf13 mf14 mf15 mf16 p0 p1 p2 _ (by (try dsimp only); omega) (by (try dsimp only); omega) (by (try dsimp only); omega)) ok_X9_sumUp k_1273 k_1275 ks_46 k_9 k_1276 ⟨(Nat.le_of_ble_eq_true rfl), (Nat.le_of_ble_eq_true rfl)⟩ ⟨(Nat.le_of_ble_eq_true rfl), (Nat.le_of_ble_eq_true rfl)⟩ hl.1 (Nat.le_of_ble_eq_true rfl) rfl rfl dX9_terms_21 hPc hDc rfl rfl 0 rfl) hP hD hS hA [0, 1, 2, 3, 4, 5, 6, 7, 8, 9, 10, 11, 12, 13] [] (wr := ([] : va_W)) rfl rfl (by decide) (by decide) (fun u_7 H locs hw_6 hP hD hS => ?_)
    clear hPc hDc
    obtain ⟨w_8, w_9, w_10, w_11, w_12, w_13, w_14, w_15, w_16⟩ := u_7
    try dsimp only at hw_6
    have hP : va_P D vwCl [(mh, .inr (9, G9 ma mcode mtoday moffs w_8 w_13 w_9 w_12 w_16 w_14 w_10 w_15 w_11 mupper mlower mrates mtaped mlaid mat mtk mtkAt mtkNumber mwaits mlisted mdealtMany)), ((ma 2), .inl (E 0, 400, .inl mf2)), ((ma 3), .inl (E 0, 16, .inl mf3)), ((ma 4), .inl (E 0, 16, .inl mf4)), ((ma 5), .inl (E 1, 6400, .inl mf5)), ((ma 6), .inl (E 0, 6400, .inl mf6)), ((ma 7), .inl (E 0, 6400, .inl mf7)), ((ma 8), .inl (E 1, 6400, .inl mf8)), ((ma 9), .inl (E 1, 6400, .inl mf9)), ((ma 12), .inl (E 0, 60, .inl mf12)), ((ma 13), .inl (E 0, 60, .inl mf13)), ((ma 14), .inl (E 0, 60, .inl mf14)), ((ma 15), .inl (E 0, 60, .inl mf15)), ((ma 16), .inl (E 0, 60, .inl mf16))] H := hP
    have hD := toW hP hD rfl
    refine lv_aload_n hx hb dX9_terms_24 rfl (lv_at hl 1 rfl) ?_
    refine va_get (D := D) (ci := 9) (v := .long w_8) (C := RX9) (T := TX9) (N := 68) hx hb htb iX9 hown hK.1 hP 0 rfl rfl 17 (by decide) (htb _ k_975) (fun _ h9 => h9) rfl dX9_terms_25 ?_
    refine lv_lconst (v := 0) hx hb dX9_terms_28 (by decide) ?_
    refine W.lcmp hx hb dX9_terms_29 ?_
    refine lv_topi (fun z_17 ez_17 => ?_)
    refine lv_if_ne (tgt := 38) hx hb dX9_terms_30 (by decide) (fun c_18 => ?_) (fun c_18 => ?_)
    ·
      have lc_19 : ¬ (w_8 : Int64) = (0 : Int64) := lc_ne (by rw [← ez_17]; exact c_18)
      refine lv_aload_n hx hb dX9_terms_38 rfl (lv_at hl 1 rfl) ?_
      refine callRV (rest := []) (As := []) hx hb hml hown htb hK (g_X9_termsNow l D E mh ma mcode mtoday moffs w_8 w_13 w_9 w_12 w_16 w_14 w_10 w_15 w_11 mupper mlower mrates mtaped mlaid mat mtk mtkAt mtkNumber mwaits mlisted mdealtMany (by (try dsimp only); omega)) ok_X9_termsNow k_1287 k_1289 ks_48 k_9 k_1290 ⟨(Nat.le_of_ble_eq_true rfl), (Nat.le_of_ble_eq_true rfl)⟩ ⟨(Nat.le_of_ble_eq_true rfl), (Nat.le_of_ble_eq_true rfl)⟩ hl.1 (Nat.le_of_ble_eq_true rfl) rfl rfl dX9_terms_39 (hP.sub (ws' := [(mh, .inr (9, G9 ma mcode mtoday moffs w_8 w_13 w_9 w_12 w_16 w_14 w_10 w_15 w_11 mupper mlower mrates mtaped mlaid mat mtk mtkAt mtkNumber mwaits mlisted mdealtMany))]) [0] rfl) rfl rfl 0 rfl (fun r_20 hw_21 => ?_)
      rcases hw_21 with ⟨hr_20, hw_21⟩ | ⟨hr_20, hw_21⟩ | ⟨hr_20, hw_21⟩ | ⟨hr_20, hw_21⟩
      ·
        refine W_top (y := .int 3) (by rw [hr_20]) ?_
        have hP9 := hP.sub (ws' := [(mh, .inr (9, G9 ma mcode mtoday moffs w_8 w_13 w_9 w_12 w_16 w_14 w_10 w_15 w_11 mupper mlower mrates mtaped mlaid mat mtk mtkAt mtkNumber mwaits mlisted mdealtMany)), ((ma 2), .inl (E 0, 400, .inl mf2)), ((ma 3), .inl (E 0, 16, .inl mf3)), ((ma 4), .inl (E 0, 16, .inl mf4)), ((ma 5), .inl (E 1, 6400, .inl mf5)), ((ma 6), .inl (E 0, 6400, .inl mf6)), ((ma 7), .inl (E 0, 6400, .inl mf7)), ((ma 8), .inl (E 1, 6400, .inl mf8)), ((ma 9), .inl (E 1, 6400, .inl mf9)), ((ma 12), .inl (E 0, 60, .inl mf12)), ((ma 13), .inl (E 0, 60, .inl mf13)), ((ma 14), .inl (E 0, 60, .inl mf14)), ((ma 15), .inl (E 0, 60, .inl mf15)), ((ma 16), .inl (E 0, 60, .inl mf16))]) [0, 1, 2, 3, 4, 5, 6, 7, 8, 9, 10, 11, 12, 13] rfl
        have hD9 := hD.sub (ws' := [(mh, .inr (9, G9 ma mcode mtoday moffs w_8 w_13 w_9 w_12 w_16 w_14 w_10 w_15 w_11 mupper mlower mrates mtaped mlaid mat mtk mtkAt mtkNumber mwaits mlisted mdealtMany)), ((ma 2), .inl (E 0, 400, .inl mf2)), ((ma 3), .inl (E 0, 16, .inl mf3)), ((ma 4), .inl (E 0, 16, .inl mf4)), ((ma 5), .inl (E 1, 6400, .inl mf5)), ((ma 6), .inl (E 0, 6400, .inl mf6)), ((ma 7), .inl (E 0, 6400, .inl mf7)), ((ma 8), .inl (E 1, 6400, .inl mf8)), ((ma 9), .inl (E 1, 6400, .inl mf9)), ((ma 12), .inl (E 0, 60, .inl mf12)), ((ma 13), .inl (E 0, 60, .inl mf13)), ((ma 14), .inl (E 0, 60, .inl mf14)), ((ma 15), .inl (E 0, 60, .inl mf15)), ((ma 16), .inl (E 0, 60, .inl mf16))]) [0, 1, 2, 3, 4, 5, 6, 7, 8, 9, 10, 11, 12, 13] (by decide) rfl
        exact W.iret (v := 3) hx hb hr (fun t ht hW => ⟨⟨3, (w_8, w_9, w_10, w_11, w_12, w_13, w_14, w_15, w_16), rfl, (Or.inr (Or.inr ⟨by have h9 := hw_2; omega, by have h9 := hw_2; omega, Or.inr ⟨by rw [← hw_6]; exact lc_19, by rw [← hw_6]; unfold frmM; (try dsimp only); rw [if_neg hw_21]; decide⟩⟩)), by rw [ht]; exact hP9, hD9⟩, hS.F ht⟩) hS.2.2 dX9_terms_42
      ·
        refine W_top (y := .int 2) (by rw [hr_20]) ?_
        have hP9 := hP.sub (ws' := [(mh, .inr (9, G9 ma mcode mtoday moffs w_8 w_13 w_9 w_12 w_16 w_14 w_10 w_15 w_11 mupper mlower mrates mtaped mlaid mat mtk mtkAt mtkNumber mwaits mlisted mdealtMany)), ((ma 2), .inl (E 0, 400, .inl mf2)), ((ma 3), .inl (E 0, 16, .inl mf3)), ((ma 4), .inl (E 0, 16, .inl mf4)), ((ma 5), .inl (E 1, 6400, .inl mf5)), ((ma 6), .inl (E 0, 6400, .inl mf6)), ((ma 7), .inl (E 0, 6400, .inl mf7)), ((ma 8), .inl (E 1, 6400, .inl mf8)), ((ma 9), .inl (E 1, 6400, .inl mf9)), ((ma 12), .inl (E 0, 60, .inl mf12)), ((ma 13), .inl (E 0, 60, .inl mf13)), ((ma 14), .inl (E 0, 60, .inl mf14)), ((ma 15), .inl (E 0, 60, .inl mf15)), ((ma 16), .inl (E 0, 60, .inl mf16))]) [0, 1, 2, 3, 4, 5, 6, 7, 8, 9, 10, 11, 12, 13] rfl
        have hD9 := hD.sub (ws' := [(mh, .inr (9, G9 ma mcode mtoday moffs w_8 w_13 w_9 w_12 w_16 w_14 w_10 w_15 w_11 mupper mlower mrates mtaped mlaid mat mtk mtkAt mtkNumber mwaits mlisted mdealtMany)), ((ma 2), .inl (E 0, 400, .inl mf2)), ((ma 3), .inl (E 0, 16, .inl mf3)), ((ma 4), .inl (E 0, 16, .inl mf4)), ((ma 5), .inl (E 1, 6400, .inl mf5)), ((ma 6), .inl (E 0, 6400, .inl mf6)), ((ma 7), .inl (E 0, 6400, .inl mf7)), ((ma 8), .inl (E 1, 6400, .inl mf8)), ((ma 9), .inl (E 1, 6400, .inl mf9)), ((ma 12), .inl (E 0, 60, .inl mf12)), ((ma 13), .inl (E 0, 60, .inl mf13)), ((ma 14), .inl (E 0, 60, .inl mf14)), ((ma 15), .inl (E 0, 60, .inl mf15)), ((ma 16), .inl (E 0, 60, .inl mf16))]) [0, 1, 2, 3, 4, 5, 6, 7, 8, 9, 10, 11, 12, 13] (by decide) rfl
        exact W.iret (v := 2) hx hb hr (fun t ht hW => ⟨⟨2, (w_8, w_9, w_10, w_11, w_12, w_13, w_14, w_15, w_16), rfl, (Or.inr (Or.inr ⟨by have h9 := hw_2; omega, by have h9 := hw_2; omega, Or.inr ⟨by rw [← hw_6]; exact lc_19, by rw [← hw_6]; unfold frmM; (try dsimp only); rw [if_pos hw_21.1, if_neg hw_21.2]; decide⟩⟩)), by rw [ht]; exact hP9, hD9⟩, hS.F ht⟩) hS.2.2 dX9_terms_42
      ·
        refine W_top (y := .int 4) (by rw [hr_20]) ?_
        have hP9 := hP.sub (ws' := [(mh, .inr (9, G9 ma mcode mtoday moffs w_8 w_13 w_9 w_12 w_16 w_14 w_10 w_15 w_11 mupper mlower mrates mtaped mlaid mat mtk mtkAt mtkNumber mwaits mlisted mdealtMany)), ((ma 2), .inl (E 0, 400, .inl mf2)), ((ma 3), .inl (E 0, 16, .inl mf3)), ((ma 4), .inl (E 0, 16, .inl mf4)), ((ma 5), .inl (E 1, 6400, .inl mf5)), ((ma 6), .inl (E 0, 6400, .inl mf6)), ((ma 7), .inl (E 0, 6400, .inl mf7)), ((ma 8), .inl (E 1, 6400, .inl mf8)), ((ma 9), .inl (E 1, 6400, .inl mf9)), ((ma 12), .inl (E 0, 60, .inl mf12)), ((ma 13), .inl (E 0, 60, .inl mf13)), ((ma 14), .inl (E 0, 60, .inl mf14)), ((ma 15), .inl (E 0, 60, .inl mf15)), ((ma 16), .inl (E 0, 60, .inl mf16))]) [0, 1, 2, 3, 4, 5, 6, 7, 8, 9, 10, 11, 12, 13] rfl
        have hD9 := hD.sub (ws' := [(mh, .inr (9, G9 ma mcode mtoday moffs w_8 w_13 w_9 w_12 w_16 w_14 w_10 w_15 w_11 mupper mlower mrates mtaped mlaid mat mtk mtkAt mtkNumber mwaits mlisted mdealtMany)), ((ma 2), .inl (E 0, 400, .inl mf2)), ((ma 3), .inl (E 0, 16, .inl mf3)), ((ma 4), .inl (E 0, 16, .inl mf4)), ((ma 5), .inl (E 1, 6400, .inl mf5)), ((ma 6), .inl (E 0, 6400, .inl mf6)), ((ma 7), .inl (E 0, 6400, .inl mf7)), ((ma 8), .inl (E 1, 6400, .inl mf8)), ((ma 9), .inl (E 1, 6400, .inl mf9)), ((ma 12), .inl (E 0, 60, .inl mf12)), ((ma 13), .inl (E 0, 60, .inl mf13)), ((ma 14), .inl (E 0, 60, .inl mf14)), ((ma 15), .inl (E 0, 60, .inl mf15)), ((ma 16), .inl (E 0, 60, .inl mf16))]) [0, 1, 2, 3, 4, 5, 6, 7, 8, 9, 10, 11, 12, 13] (by decide) rfl
        exact W.iret (v := 4) hx hb hr (fun t ht hW => ⟨⟨4, (w_8, w_9, w_10, w_11, w_12, w_13, w_14, w_15, w_16), rfl, (Or.inr (Or.inr ⟨by have h9 := hw_2; omega, by have h9 := hw_2; omega, Or.inr ⟨by rw [← hw_6]; exact lc_19, by rw [← hw_6]; unfold frmM; (try dsimp only); rw [if_pos hw_21.1, if_pos hw_21.2.1, if_neg hw_21.2.2]; decide⟩⟩)), by rw [ht]; exact hP9, hD9⟩, hS.F ht⟩) hS.2.2 dX9_terms_42
      ·
        refine W_top (y := .int 1) (by rw [hr_20]) ?_
        have hP9 := hP.sub (ws' := [(mh, .inr (9, G9 ma mcode mtoday moffs w_8 w_13 w_9 w_12 w_16 w_14 w_10 w_15 w_11 mupper mlower mrates mtaped mlaid mat mtk mtkAt mtkNumber mwaits mlisted mdealtMany)), ((ma 2), .inl (E 0, 400, .inl mf2)), ((ma 3), .inl (E 0, 16, .inl mf3)), ((ma 4), .inl (E 0, 16, .inl mf4)), ((ma 5), .inl (E 1, 6400, .inl mf5)), ((ma 6), .inl (E 0, 6400, .inl mf6)), ((ma 7), .inl (E 0, 6400, .inl mf7)), ((ma 8), .inl (E 1, 6400, .inl mf8)), ((ma 9), .inl (E 1, 6400, .inl mf9)), ((ma 12), .inl (E 0, 60, .inl mf12)), ((ma 13), .inl (E 0, 60, .inl mf13)), ((ma 14), .inl (E 0, 60, .inl mf14)), ((ma 15), .inl (E 0, 60, .inl mf15)), ((ma 16), .inl (E 0, 60, .inl mf16))]) [0, 1, 2, 3, 4, 5, 6, 7, 8, 9, 10, 11, 12, 13] rfl
        have hD9 := hD.sub (ws' := [(mh, .inr (9, G9 ma mcode mtoday moffs w_8 w_13 w_9 w_12 w_16 w_14 w_10 w_15 w_11 mupper mlower mrates mtaped mlaid mat mtk mtkAt mtkNumber mwaits mlisted mdealtMany)), ((ma 2), .inl (E 0, 400, .inl mf2)), ((ma 3), .inl (E 0, 16, .inl mf3)), ((ma 4), .inl (E 0, 16, .inl mf4)), ((ma 5), .inl (E 1, 6400, .inl mf5)), ((ma 6), .inl (E 0, 6400, .inl mf6)), ((ma 7), .inl (E 0, 6400, .inl mf7)), ((ma 8), .inl (E 1, 6400, .inl mf8)), ((ma 9), .inl (E 1, 6400, .inl mf9)), ((ma 12), .inl (E 0, 60, .inl mf12)), ((ma 13), .inl (E 0, 60, .inl mf13)), ((ma 14), .inl (E 0, 60, .inl mf14)), ((ma 15), .inl (E 0, 60, .inl mf15)), ((ma 16), .inl (E 0, 60, .inl mf16))]) [0, 1, 2, 3, 4, 5, 6, 7, 8, 9, 10, 11, 12, 13] (by decide) rfl
        exact W.iret (v := 1) hx hb hr (fun t ht hW => ⟨⟨1, (w_8, w_9, w_10, w_11, w_12, w_13, w_14, w_15, w_16), rfl, (Or.inr (Or.inr ⟨by have h9 := hw_2; omega, by have h9 := hw_2; omega, Or.inr ⟨by rw [← hw_6]; exact lc_19, by rw [← hw_6]; unfold frmM; (try dsimp only); rw [if_pos hw_21.1, if_pos hw_21.2.1, if_pos hw_21.2.2]; decide⟩⟩)), by rw [ht]; exact hP9, hD9⟩, hS.F ht⟩) hS.2.2 dX9_terms_42
    ·
      have lc_23 : (w_8 : Int64) = (0 : Int64) := lc_eq (by rw [← ez_17]; exact c_18)
      refine lv_bipush (v := (-4)) hx hb dX9_terms_33 (by decide) ?_
      refine lv_goto (tgt := 42) hx hb dX9_terms_35 (by decide) ?_
      have hP9 := hP.sub (ws' := [(mh, .inr (9, G9 ma mcode mtoday moffs w_8 w_13 w_9 w_12 w_16 w_14 w_10 w_15 w_11 mupper mlower mrates mtaped mlaid mat mtk mtkAt mtkNumber mwaits mlisted mdealtMany)), ((ma 2), .inl (E 0, 400, .inl mf2)), ((ma 3), .inl (E 0, 16, .inl mf3)), ((ma 4), .inl (E 0, 16, .inl mf4)), ((ma 5), .inl (E 1, 6400, .inl mf5)), ((ma 6), .inl (E 0, 6400, .inl mf6)), ((ma 7), .inl (E 0, 6400, .inl mf7)), ((ma 8), .inl (E 1, 6400, .inl mf8)), ((ma 9), .inl (E 1, 6400, .inl mf9)), ((ma 12), .inl (E 0, 60, .inl mf12)), ((ma 13), .inl (E 0, 60, .inl mf13)), ((ma 14), .inl (E 0, 60, .inl mf14)), ((ma 15), .inl (E 0, 60, .inl mf15)), ((ma 16), .inl (E 0, 60, .inl mf16))]) [0, 1, 2, 3, 4, 5, 6, 7, 8, 9, 10, 11, 12, 13] rfl
      have hD9 := hD.sub (ws' := [(mh, .inr (9, G9 ma mcode mtoday moffs w_8 w_13 w_9 w_12 w_16 w_14 w_10 w_15 w_11 mupper mlower mrates mtaped mlaid mat mtk mtkAt mtkNumber mwaits mlisted mdealtMany)), ((ma 2), .inl (E 0, 400, .inl mf2)), ((ma 3), .inl (E 0, 16, .inl mf3)), ((ma 4), .inl (E 0, 16, .inl mf4)), ((ma 5), .inl (E 1, 6400, .inl mf5)), ((ma 6), .inl (E 0, 6400, .inl mf6)), ((ma 7), .inl (E 0, 6400, .inl mf7)), ((ma 8), .inl (E 1, 6400, .inl mf8)), ((ma 9), .inl (E 1, 6400, .inl mf9)), ((ma 12), .inl (E 0, 60, .inl mf12)), ((ma 13), .inl (E 0, 60, .inl mf13)), ((ma 14), .inl (E 0, 60, .inl mf14)), ((ma 15), .inl (E 0, 60, .inl mf15)), ((ma 16), .inl (E 0, 60, .inl mf16))]) [0, 1, 2, 3, 4, 5, 6, 7, 8, 9, 10, 11, 12, 13] (by decide) rfl
      exact W.iret (v := (-4)) hx hb hr (fun t ht hW => ⟨⟨(-4), (w_8, w_9, w_10, w_11, w_12, w_13, w_14, w_15, w_16), rfl, (Or.inr (Or.inr ⟨by have h9 := hw_2; omega, by have h9 := hw_2; omega, Or.inl ⟨by rw [← hw_6]; exact lc_23, by decide⟩⟩)), by rw [ht]; exact hP9, hD9⟩, hS.F ht⟩) hS.2.2 dX9_terms_42
  ·
    have ic_4 : r_1.toInt < 0 := by first | exact (g_lt rfl t_0).mp c_4 | (have h := mt (g_le t_0 rfl).mpr c_4; omega)
    clear c_4
    refine lv_iload hx hb dX9_terms_14 (lv_at hl 0 rfl) ?_
    have hP9 := hP.sub (ws' := [(mh, .inr (9, G9 ma mcode mtoday moffs mmany msumW msumA msumR msumWW msumWA msumAA msumWR msumAR mupper mlower mrates mtaped mlaid mat mtk mtkAt mtkNumber mwaits mlisted mdealtMany)), ((ma 2), .inl (E 0, 400, .inl mf2)), ((ma 3), .inl (E 0, 16, .inl mf3)), ((ma 4), .inl (E 0, 16, .inl mf4)), ((ma 5), .inl (E 1, 6400, .inl mf5)), ((ma 6), .inl (E 0, 6400, .inl mf6)), ((ma 7), .inl (E 0, 6400, .inl mf7)), ((ma 8), .inl (E 1, 6400, .inl mf8)), ((ma 9), .inl (E 1, 6400, .inl mf9)), ((ma 12), .inl (E 0, 60, .inl mf12)), ((ma 13), .inl (E 0, 60, .inl mf13)), ((ma 14), .inl (E 0, 60, .inl mf14)), ((ma 15), .inl (E 0, 60, .inl mf15)), ((ma 16), .inl (E 0, 60, .inl mf16))]) [0, 1, 2, 3, 4, 5, 6, 7, 8, 9, 10, 11, 12, 13] rfl
    have hD9 := hD.sub (ws' := [(mh, .inr (9, G9 ma mcode mtoday moffs mmany msumW msumA msumR msumWW msumWA msumAA msumWR msumAR mupper mlower mrates mtaped mlaid mat mtk mtkAt mtkNumber mwaits mlisted mdealtMany)), ((ma 2), .inl (E 0, 400, .inl mf2)), ((ma 3), .inl (E 0, 16, .inl mf3)), ((ma 4), .inl (E 0, 16, .inl mf4)), ((ma 5), .inl (E 1, 6400, .inl mf5)), ((ma 6), .inl (E 0, 6400, .inl mf6)), ((ma 7), .inl (E 0, 6400, .inl mf7)), ((ma 8), .inl (E 1, 6400, .inl mf8)), ((ma 9), .inl (E 1, 6400, .inl mf9)), ((ma 12), .inl (E 0, 60, .inl mf12)), ((ma 13), .inl (E 0, 60, .inl mf13)), ((ma 14), .inl (E 0, 60, .inl mf14)), ((ma 15), .inl (E 0, 60, .inl mf15)), ((ma 16), .inl (E 0, 60, .inl mf16))]) [0, 1, 2, 3, 4, 5, 6, 7, 8, 9, 10, 11, 12, 13] (by decide) rfl
    exact W.iret (v := r_1) hx hb hr (fun t ht hW => ⟨⟨r_1, (mmany, msumA, msumAA, msumAR, msumR, msumW, msumWA, msumWR, msumWW), rfl, (by rcases hw_2 with h9 | h9 | h9 <;> first | (exfalso; omega) | exact Or.inl ⟨by omega, by omega⟩ | exact Or.inr (Or.inl ⟨by omega, by omega⟩)), by rw [ht]; exact hP9, hD9⟩, hS.F ht⟩) hS.2.2 dX9_terms_16
set_option maxHeartbeats 4000000 in
set_option maxRecDepth 100000 in
theorem g_X9_byTwo (l : Launch) (D : va_G) (E : Nat → Nat) (mh : Nat) (ma : Nat → Nat) (mcode : Int32) (mtoday : Int32) (moffs : Int32) (mmany : Int64) (msumW : Int64) (msumA : Int64) (msumR : Int64) (msumWW : Int64) (msumWA : Int64) (msumAA : Int64) (msumWR : Int64) (msumAR : Int64) (mupper : Int64) (mlower : Int64) (mrates : Int32) (mtaped : Int32) (mlaid : Int32) (mat : Int32) (mtk : Int32) (mtkAt : Int32) (mtkNumber : Int32) (mwaits : Int32) (mlisted : Int32) (mdealtMany : Int32) (p0 : Int64) (p1 : Int64) (p2 : Int64) (p3 : Int64) (sz : Nat) (hi_m : (0 ≤ mtoday.toInt ∧ mtoday.toInt ≤ 399) ∧ (0 ≤ moffs.toInt ∧ moffs.toInt ≤ 60) ∧ (0 ≤ mrates.toInt ∧ mrates.toInt ≤ 60) ∧ (0 ≤ mtaped.toInt ∧ mtaped.toInt ≤ 120) ∧ (0 ≤ mlisted.toInt ∧ mlisted.toInt ≤ 9) ∧ (0 ≤ mdealtMany.toInt ∧ mdealtMany.toInt ≤ 9)) : Met l yX9_byTwo (wl yX9_byTwo cX9_byTwo 9 none) (RM 1 0 0) (mu_P D E [.ref mh, .long p0, .long p1, .long p2, .long p3] [(mh, .inr (9, G9 ma mcode mtoday moffs mmany msumW msumA msumR msumWW msumWA msumAA msumWR msumAR mupper mlower mrates mtaped mlaid mat mtk mtkAt mtkNumber mwaits mlisted mdealtMany))] sz) (va_Qv (fun (u : (Int64) × (Int64)) => (u.1 = twoF mmany p0 p1)) (mu_B D (va_A [(mh, .inr (9, G9 ma mcode mtoday moffs mmany msumW msumA msumR msumWW msumWA msumAA msumWR msumAR mupper mlower mrates mtaped mlaid mat mtk mtkAt mtkNumber mwaits mlisted mdealtMany))] sz) (fun (u : (Int64) × (Int64)) => [(mh, .inr (9, G9 ma mcode mtoday moffs mmany msumW msumA msumR msumWW msumWA msumAA msumWR msumAR u.2 u.1 mrates mtaped mlaid mat mtk mtkAt mtkNumber mwaits mlisted mdealtMany))])) (va_A [(mh, .inr (9, G9 ma mcode mtoday moffs mmany msumW msumA msumR msumWW msumWA msumAA msumWR msumAR mupper mlower mrates mtaped mlaid mat mtk mtkAt mtkNumber mwaits mlisted mdealtMany))] sz)) 0 0 (va_A [(mh, .inr (9, G9 ma mcode mtoday moffs mmany msumW msumA msumR msumWW msumWA msumAA msumWR msumAR mupper mlower mrates mtaped mlaid mat mtk mtkAt mtkNumber mwaits mlisted mdealtMany))] sz) := by
  refine Met.ofW (cc := cX9_byTwo) (maxL := 9) (ret := none) (by decide) rfl ?_
  intro p e s m args below meth c s₁ B hml hv
  obtain ⟨rfl, hsz, hP, hK, hD0⟩ := hv
  have hx := B.exec; have hb := B.bytes; have hr := B.returns
  have hts := atoms_spec (ws := wl yX9_byTwo cX9_byTwo 9 none) B.pre
  have htb : ∀ w ∈ tb, w.before _ s = true := fun w h => hts w (List.mem_cons_of_mem _ h)
  have hown : s.vm.findClass RX9 = some m.cls := findClass_of_methodNamed B.named
  have hlocks := B.notSynchronized
  subst hsz
  have hD := hD0.self (sz := s.heap.size)
  generalize hAe : va_A [(mh, .inr (9, G9 ma mcode mtoday moffs mmany msumW msumA msumR msumWW msumWA msumAA msumWR msumAR mupper mlower mrates mtaped mlaid mat mtk mtkAt mtkNumber mwaits mlisted mdealtMany))] s.heap.size = A at hD ⊢
  have hA : ∀ q : Nat, s.heap.size ≤ q → A q := fun q h => by rw [← hAe]; exact Or.inr h
  have hS : va_S A s.heap s.heap [] := va_S.rf
  have hP : va_P D vwCl [(mh, .inr (9, G9 ma mcode mtoday moffs mmany msumW msumA msumR msumWW msumWA msumAA msumWR msumAR mupper mlower mrates mtaped mlaid mat mtk mtkAt mtkNumber mwaits mlisted mdealtMany))] s.heap := hP
  have hl := lv_entry ([.ref mh, .long p0, .long p1, .long p2, .long p3]) (n := 9) (Nat.le_of_ble_eq_true rfl)
  rw [lg_entry_eq]
  generalize (lg_sl ([.ref mh, .long p0, .long p1, .long p2, .long p3]) ++ List.replicate (9 - (lg_sl ([.ref mh, .long p0, .long p1, .long p2, .long p3])).length) Slot.unset).toArray = ls at hl ⊢
  have hl : lv_has ls 9 [(0, .ref mh), (1, .long p0), (3, .long p1), (5, .long p2), (7, .long p3)] := hl
  refine lv_aload_n hx hb dX9_byTwo_0 rfl (lv_at hl 0 rfl) ?_
  refine lv_aload_n hx hb dX9_byTwo_1 rfl (lv_at hl 0 rfl) ?_
  refine lv_lload_n hx hb dX9_byTwo_2 rfl (lv_at hl 1 rfl) ?_
  refine lv_lload_n hx hb dX9_byTwo_3 rfl (lv_at hl 2 rfl) ?_
  refine callLV (rest := [.ref mh]) (As := [.long p0, .long p1]) hx hb hml hown htb hK (g_X9_two l D E mh ma mcode mtoday moffs mmany msumW msumA msumR msumWW msumWA msumAA msumWR msumAR mupper mlower mrates mtaped mlaid mat mtk mtkAt mtkNumber mwaits mlisted mdealtMany p0 p1 (by (try dsimp only); omega)) ok_X9_two k_1295 k_1297 ks_50 k_9 k_1298 ⟨(Nat.le_of_ble_eq_true rfl), (Nat.le_of_ble_eq_true rfl)⟩ ⟨(Nat.le_of_ble_eq_true rfl), (Nat.le_of_ble_eq_true rfl)⟩ hl.1 (Nat.le_of_ble_eq_true rfl) rfl rfl dX9_byTwo_4 (hP.sub (ws' := [(mh, .inr (9, G9 ma mcode mtoday moffs mmany msumW msumA msumR msumWW msumWA msumAA msumWR msumAR mupper mlower mrates mtaped mlaid mat mtk mtkAt mtkNumber mwaits mlisted mdealtMany))]) [0] rfl) rfl rfl 0 rfl (fun r_1 hw_2 => ?_)
  refine va_put (D := D) (ci := 9) (v := .long r_1) (ty := .long) (C := RX9) (T := TX9) (N := 68) hx hb htb iX9 tyX9 tyX9_ok nmX9 hown hK.1 hP hD hS 0 rfl rfl 27 (by decide) (htb _ k_985) (fun _ h9 => h9) rfl (by decide +kernel) rfl rfl (Nat.le_of_ble_eq_true rfl) dX9_byTwo_7 (fun H locs hP hD hS => ?_)
  have hP : va_P D vwCl [(mh, .inr (9, G9 ma mcode mtoday moffs mmany msumW msumA msumR msumWW msumWA msumAA msumWR msumAR mupper r_1 mrates mtaped mlaid mat mtk mtkAt mtkNumber mwaits mlisted mdealtMany))] H := hP
  have hD := toW hP hD rfl
  refine lv_aload_n hx hb dX9_byTwo_10 rfl (lv_at hl 0 rfl) ?_
  refine lv_aload_n hx hb dX9_byTwo_11 rfl (lv_at hl 0 rfl) ?_
  refine va_get (D := D) (ci := 9) (v := .long msumR) (C := RX9) (T := TX9) (N := 68) hx hb htb iX9 hown hK.1 hP 0 rfl rfl 20 (by decide) (htb _ k_978) (fun _ h9 => h9) rfl dX9_byTwo_12 ?_
  refine lv_lload_n hx hb dX9_byTwo_15 rfl (lv_at hl 2 rfl) ?_
  refine lv_lmul hx hb dX9_byTwo_16 ?_
  refine lv_topl (fun z_4 ez_4 => ?_)
  refine lv_lload_n hx hb dX9_byTwo_17 rfl (lv_at hl 1 rfl) ?_
  refine lv_lload hx hb dX9_byTwo_18 (lv_at hl 3 rfl) ?_
  refine lv_lmul hx hb dX9_byTwo_20 ?_
  refine lv_topl (fun z_5 ez_5 => ?_)
  refine lv_lsub hx hb dX9_byTwo_21 ?_
  refine lv_topl (fun z_6 ez_6 => ?_)
  refine lv_aload_n hx hb dX9_byTwo_22 rfl (lv_at hl 0 rfl) ?_
  refine va_get (D := D) (ci := 9) (v := .long mmany) (C := RX9) (T := TX9) (N := 68) hx hb htb iX9 hown hK.1 hP 0 rfl rfl 17 (by decide) (htb _ k_975) (fun _ h9 => h9) rfl dX9_byTwo_23 ?_
  refine lv_lload hx hb dX9_byTwo_26 (lv_at hl 3 rfl) ?_
  refine lv_lmul hx hb dX9_byTwo_28 ?_
  refine lv_topl (fun z_7 ez_7 => ?_)
  refine lv_lload_n hx hb dX9_byTwo_29 rfl (lv_at hl 1 rfl) ?_
  refine lv_aload_n hx hb dX9_byTwo_30 rfl (lv_at hl 0 rfl) ?_
  refine va_get (D := D) (ci := 9) (v := .long msumR) (C := RX9) (T := TX9) (N := 68) hx hb htb iX9 hown hK.1 hP 0 rfl rfl 20 (by decide) (htb _ k_978) (fun _ h9 => h9) rfl dX9_byTwo_31 ?_
  refine lv_lmul hx hb dX9_byTwo_34 ?_
  refine lv_topl (fun z_8 ez_8 => ?_)
  refine lv_lsub hx hb dX9_byTwo_35 ?_
  refine lv_topl (fun z_9 ez_9 => ?_)
  refine lv_lload hx hb dX9_byTwo_36 (lv_at hl 4 rfl) ?_
  refine lv_lmul hx hb dX9_byTwo_38 ?_
  refine lv_topl (fun z_10 ez_10 => ?_)
  refine lv_ladd hx hb dX9_byTwo_39 ?_
  refine lv_topl (fun z_11 ez_11 => ?_)
  refine va_put (D := D) (ci := 9) (v := .long z_11) (ty := .long) (C := RX9) (T := TX9) (N := 68) hx hb htb iX9 tyX9 tyX9_ok nmX9 hown hK.1 hP hD hS 0 rfl rfl 26 (by decide) (htb _ k_984) (fun _ h9 => h9) rfl (by decide +kernel) rfl rfl (Nat.le_of_ble_eq_true rfl) dX9_byTwo_40 (fun H locs hP hD hS => ?_)
  have hP : va_P D vwCl [(mh, .inr (9, G9 ma mcode mtoday moffs mmany msumW msumA msumR msumWW msumWA msumAA msumWR msumAR z_11 r_1 mrates mtaped mlaid mat mtk mtkAt mtkNumber mwaits mlisted mdealtMany))] H := hP
  have hD := toW hP hD rfl
  have hP9 := hP.sub (ws' := [(mh, .inr (9, G9 ma mcode mtoday moffs mmany msumW msumA msumR msumWW msumWA msumAA msumWR msumAR z_11 r_1 mrates mtaped mlaid mat mtk mtkAt mtkNumber mwaits mlisted mdealtMany))]) [0] rfl
  have hD9 := hD.sub (ws' := [(mh, .inr (9, G9 ma mcode mtoday moffs mmany msumW msumA msumR msumWW msumWA msumAA msumWR msumAR z_11 r_1 mrates mtaped mlaid mat mtk mtkAt mtkNumber mwaits mlisted mdealtMany))]) [0] (by decide) rfl
  exact W.vret hx hb hr (fun t ht hW => ⟨⟨(r_1, z_11), rfl, (by (try dsimp only); subst_vars; rfl), by rw [ht]; exact hP9, hD9⟩, hS.F ht⟩) hS.2.2 dX9_byTwo_43
set_option maxHeartbeats 4000000 in
set_option maxRecDepth 100000 in
theorem g_X9_byThree (l : Launch) (D : va_G) (E : Nat → Nat) (mh : Nat) (ma : Nat → Nat) (mcode : Int32) (mtoday : Int32) (moffs : Int32) (mmany : Int64) (msumW : Int64) (msumA : Int64) (msumR : Int64) (msumWW : Int64) (msumWA : Int64) (msumAA : Int64) (msumWR : Int64) (msumAR : Int64) (mupper : Int64) (mlower : Int64) (mrates : Int32) (mtaped : Int32) (mlaid : Int32) (mat : Int32) (mtk : Int32) (mtkAt : Int32) (mtkNumber : Int32) (mwaits : Int32) (mlisted : Int32) (mdealtMany : Int32) (p0 : Int64) (p1 : Int64) (sz : Nat) (hi_m : (0 ≤ mtoday.toInt ∧ mtoday.toInt ≤ 399) ∧ (0 ≤ moffs.toInt ∧ moffs.toInt ≤ 60) ∧ (0 ≤ mrates.toInt ∧ mrates.toInt ≤ 60) ∧ (0 ≤ mtaped.toInt ∧ mtaped.toInt ≤ 120) ∧ (0 ≤ mlisted.toInt ∧ mlisted.toInt ≤ 9) ∧ (0 ≤ mdealtMany.toInt ∧ mdealtMany.toInt ≤ 9)) : Met l yX9_byThree (wl yX9_byThree cX9_byThree 11 none) (RM 1 0 0) (mu_P D E [.ref mh, .long p0, .long p1] [(mh, .inr (9, G9 ma mcode mtoday moffs mmany msumW msumA msumR msumWW msumWA msumAA msumWR msumAR mupper mlower mrates mtaped mlaid mat mtk mtkAt mtkNumber mwaits mlisted mdealtMany))] sz) (va_Qv (fun (u : (Int64) × (Int64)) => (u.1 = thrF mmany msumW msumA msumWW msumWA msumAA)) (mu_B D (va_A [(mh, .inr (9, G9 ma mcode mtoday moffs mmany msumW msumA msumR msumWW msumWA msumAA msumWR msumAR mupper mlower mrates mtaped mlaid mat mtk mtkAt mtkNumber mwaits mlisted mdealtMany))] sz) (fun (u : (Int64) × (Int64)) => [(mh, .inr (9, G9 ma mcode mtoday moffs mmany msumW msumA msumR msumWW msumWA msumAA msumWR msumAR u.2 u.1 mrates mtaped mlaid mat mtk mtkAt mtkNumber mwaits mlisted mdealtMany))])) (va_A [(mh, .inr (9, G9 ma mcode mtoday moffs mmany msumW msumA msumR msumWW msumWA msumAA msumWR msumAR mupper mlower mrates mtaped mlaid mat mtk mtkAt mtkNumber mwaits mlisted mdealtMany))] sz)) 0 0 (va_A [(mh, .inr (9, G9 ma mcode mtoday moffs mmany msumW msumA msumR msumWW msumWA msumAA msumWR msumAR mupper mlower mrates mtaped mlaid mat mtk mtkAt mtkNumber mwaits mlisted mdealtMany))] sz) := by
  refine Met.ofW (cc := cX9_byThree) (maxL := 11) (ret := none) (by decide) rfl ?_
  intro p e s m args below meth c s₁ B hml hv
  obtain ⟨rfl, hsz, hP, hK, hD0⟩ := hv
  have hx := B.exec; have hb := B.bytes; have hr := B.returns
  have hts := atoms_spec (ws := wl yX9_byThree cX9_byThree 11 none) B.pre
  have htb : ∀ w ∈ tb, w.before _ s = true := fun w h => hts w (List.mem_cons_of_mem _ h)
  have hown : s.vm.findClass RX9 = some m.cls := findClass_of_methodNamed B.named
  have hlocks := B.notSynchronized
  subst hsz
  have hD := hD0.self (sz := s.heap.size)
  generalize hAe : va_A [(mh, .inr (9, G9 ma mcode mtoday moffs mmany msumW msumA msumR msumWW msumWA msumAA msumWR msumAR mupper mlower mrates mtaped mlaid mat mtk mtkAt mtkNumber mwaits mlisted mdealtMany))] s.heap.size = A at hD ⊢
  have hA : ∀ q : Nat, s.heap.size ≤ q → A q := fun q h => by rw [← hAe]; exact Or.inr h
  have hS : va_S A s.heap s.heap [] := va_S.rf
  have hP : va_P D vwCl [(mh, .inr (9, G9 ma mcode mtoday moffs mmany msumW msumA msumR msumWW msumWA msumAA msumWR msumAR mupper mlower mrates mtaped mlaid mat mtk mtkAt mtkNumber mwaits mlisted mdealtMany))] s.heap := hP
  have hl := lv_entry ([.ref mh, .long p0, .long p1]) (n := 11) (Nat.le_of_ble_eq_true rfl)
  rw [lg_entry_eq]
  generalize (lg_sl ([.ref mh, .long p0, .long p1]) ++ List.replicate (11 - (lg_sl ([.ref mh, .long p0, .long p1])).length) Slot.unset).toArray = ls at hl ⊢
  have hl : lv_has ls 11 [(0, .ref mh), (1, .long p0), (3, .long p1)] := hl
  refine lv_aload_n hx hb dX9_byThree_0 rfl (lv_at hl 0 rfl) ?_
  refine lv_aload_n hx hb dX9_byThree_1 rfl (lv_at hl 0 rfl) ?_
  refine callLV (rest := [.ref mh]) (As := []) hx hb hml hown htb hK (g_X9_three l D E mh ma mcode mtoday moffs mmany msumW msumA msumR msumWW msumWA msumAA msumWR msumAR mupper mlower mrates mtaped mlaid mat mtk mtkAt mtkNumber mwaits mlisted mdealtMany (by (try dsimp only); omega)) ok_X9_three k_1291 k_1293 ks_49 k_9 k_1294 ⟨(Nat.le_of_ble_eq_true rfl), (Nat.le_of_ble_eq_true rfl)⟩ ⟨(Nat.le_of_ble_eq_true rfl), (Nat.le_of_ble_eq_true rfl)⟩ hl.1 (Nat.le_of_ble_eq_true rfl) rfl rfl dX9_byThree_2 (hP.sub (ws' := [(mh, .inr (9, G9 ma mcode mtoday moffs mmany msumW msumA msumR msumWW msumWA msumAA msumWR msumAR mupper mlower mrates mtaped mlaid mat mtk mtkAt mtkNumber mwaits mlisted mdealtMany))]) [0] rfl) rfl rfl 0 rfl (fun r_1 hw_2 => ?_)
  refine va_put (D := D) (ci := 9) (v := .long r_1) (ty := .long) (C := RX9) (T := TX9) (N := 68) hx hb htb iX9 tyX9 tyX9_ok nmX9 hown hK.1 hP hD hS 0 rfl rfl 27 (by decide) (htb _ k_985) (fun _ h9 => h9) rfl (by decide +kernel) rfl rfl (Nat.le_of_ble_eq_true rfl) dX9_byThree_5 (fun H locs hP hD hS => ?_)
  have hP : va_P D vwCl [(mh, .inr (9, G9 ma mcode mtoday moffs mmany msumW msumA msumR msumWW msumWA msumAA msumWR msumAR mupper r_1 mrates mtaped mlaid mat mtk mtkAt mtkNumber mwaits mlisted mdealtMany))] H := hP
  have hD := toW hP hD rfl
  refine lv_aload_n hx hb dX9_byThree_8 rfl (lv_at hl 0 rfl) ?_
  refine va_get (D := D) (ci := 9) (v := .long msumR) (C := RX9) (T := TX9) (N := 68) hx hb htb iX9 hown hK.1 hP 0 rfl rfl 20 (by decide) (htb _ k_978) (fun _ h9 => h9) rfl dX9_byThree_9 ?_
  refine lv_aload_n hx hb dX9_byThree_12 rfl (lv_at hl 0 rfl) ?_
  refine va_get (D := D) (ci := 9) (v := .long msumWW) (C := RX9) (T := TX9) (N := 68) hx hb htb iX9 hown hK.1 hP 0 rfl rfl 21 (by decide) (htb _ k_979) (fun _ h9 => h9) rfl dX9_byThree_13 ?_
  refine lv_aload_n hx hb dX9_byThree_16 rfl (lv_at hl 0 rfl) ?_
  refine va_get (D := D) (ci := 9) (v := .long msumAA) (C := RX9) (T := TX9) (N := 68) hx hb htb iX9 hown hK.1 hP 0 rfl rfl 23 (by decide) (htb _ k_981) (fun _ h9 => h9) rfl dX9_byThree_17 ?_
  refine lv_lmul hx hb dX9_byThree_20 ?_
  refine lv_topl (fun z_4 ez_4 => ?_)
  refine lv_aload_n hx hb dX9_byThree_21 rfl (lv_at hl 0 rfl) ?_
  refine va_get (D := D) (ci := 9) (v := .long msumWA) (C := RX9) (T := TX9) (N := 68) hx hb htb iX9 hown hK.1 hP 0 rfl rfl 22 (by decide) (htb _ k_980) (fun _ h9 => h9) rfl dX9_byThree_22 ?_
  refine lv_aload_n hx hb dX9_byThree_25 rfl (lv_at hl 0 rfl) ?_
  refine va_get (D := D) (ci := 9) (v := .long msumWA) (C := RX9) (T := TX9) (N := 68) hx hb htb iX9 hown hK.1 hP 0 rfl rfl 22 (by decide) (htb _ k_980) (fun _ h9 => h9) rfl dX9_byThree_26 ?_
  refine lv_lmul hx hb dX9_byThree_29 ?_
  refine lv_topl (fun z_5 ez_5 => ?_)
  refine lv_lsub hx hb dX9_byThree_30 ?_
  refine lv_topl (fun z_6 ez_6 => ?_)
  refine lv_lmul hx hb dX9_byThree_31 ?_
  refine lv_topl (fun z_7 ez_7 => ?_)
  refine lv_aload_n hx hb dX9_byThree_32 rfl (lv_at hl 0 rfl) ?_
  refine va_get (D := D) (ci := 9) (v := .long msumW) (C := RX9) (T := TX9) (N := 68) hx hb htb iX9 hown hK.1 hP 0 rfl rfl 18 (by decide) (htb _ k_976) (fun _ h9 => h9) rfl dX9_byThree_33 ?_
  refine lv_aload_n hx hb dX9_byThree_36 rfl (lv_at hl 0 rfl) ?_
  refine va_get (D := D) (ci := 9) (v := .long msumWR) (C := RX9) (T := TX9) (N := 68) hx hb htb iX9 hown hK.1 hP 0 rfl rfl 24 (by decide) (htb _ k_982) (fun _ h9 => h9) rfl dX9_byThree_37 ?_
  refine lv_aload_n hx hb dX9_byThree_40 rfl (lv_at hl 0 rfl) ?_
  refine va_get (D := D) (ci := 9) (v := .long msumAA) (C := RX9) (T := TX9) (N := 68) hx hb htb iX9 hown hK.1 hP 0 rfl rfl 23 (by decide) (htb _ k_981) (fun _ h9 => h9) rfl dX9_byThree_41 ?_
  refine lv_lmul hx hb dX9_byThree_44 ?_
  refine lv_topl (fun z_8 ez_8 => ?_)
  refine lv_aload_n hx hb dX9_byThree_45 rfl (lv_at hl 0 rfl) ?_
  refine va_get (D := D) (ci := 9) (v := .long msumWA) (C := RX9) (T := TX9) (N := 68) hx hb htb iX9 hown hK.1 hP 0 rfl rfl 22 (by decide) (htb _ k_980) (fun _ h9 => h9) rfl dX9_byThree_46 ?_
  refine lv_aload_n hx hb dX9_byThree_49 rfl (lv_at hl 0 rfl) ?_
  refine va_get (D := D) (ci := 9) (v := .long msumAR) (C := RX9) (T := TX9) (N := 68) hx hb htb iX9 hown hK.1 hP 0 rfl rfl 25 (by decide) (htb _ k_983) (fun _ h9 => h9) rfl dX9_byThree_50 ?_
  refine lv_lmul hx hb dX9_byThree_53 ?_
  refine lv_topl (fun z_9 ez_9 => ?_)
  refine lv_lsub hx hb dX9_byThree_54 ?_
  refine lv_topl (fun z_10 ez_10 => ?_)
  refine lv_lmul hx hb dX9_byThree_55 ?_
  refine lv_topl (fun z_11 ez_11 => ?_)
  refine lv_lsub hx hb dX9_byThree_56 ?_
  refine lv_topl (fun z_12 ez_12 => ?_)
  refine lv_aload_n hx hb dX9_byThree_57 rfl (lv_at hl 0 rfl) ?_
  refine va_get (D := D) (ci := 9) (v := .long msumA) (C := RX9) (T := TX9) (N := 68) hx hb htb iX9 hown hK.1 hP 0 rfl rfl 19 (by decide) (htb _ k_977) (fun _ h9 => h9) rfl dX9_byThree_58 ?_
  refine lv_aload_n hx hb dX9_byThree_61 rfl (lv_at hl 0 rfl) ?_
  refine va_get (D := D) (ci := 9) (v := .long msumWR) (C := RX9) (T := TX9) (N := 68) hx hb htb iX9 hown hK.1 hP 0 rfl rfl 24 (by decide) (htb _ k_982) (fun _ h9 => h9) rfl dX9_byThree_62 ?_
  refine lv_aload_n hx hb dX9_byThree_65 rfl (lv_at hl 0 rfl) ?_
  refine va_get (D := D) (ci := 9) (v := .long msumWA) (C := RX9) (T := TX9) (N := 68) hx hb htb iX9 hown hK.1 hP 0 rfl rfl 22 (by decide) (htb _ k_980) (fun _ h9 => h9) rfl dX9_byThree_66 ?_
  refine lv_lmul hx hb dX9_byThree_69 ?_
  refine lv_topl (fun z_13 ez_13 => ?_)
  refine lv_aload_n hx hb dX9_byThree_70 rfl (lv_at hl 0 rfl) ?_
  refine va_get (D := D) (ci := 9) (v := .long msumWW) (C := RX9) (T := TX9) (N := 68) hx hb htb iX9 hown hK.1 hP 0 rfl rfl 21 (by decide) (htb _ k_979) (fun _ h9 => h9) rfl dX9_byThree_71 ?_
  refine lv_aload_n hx hb dX9_byThree_74 rfl (lv_at hl 0 rfl) ?_
  refine va_get (D := D) (ci := 9) (v := .long msumAR) (C := RX9) (T := TX9) (N := 68) hx hb htb iX9 hown hK.1 hP 0 rfl rfl 25 (by decide) (htb _ k_983) (fun _ h9 => h9) rfl dX9_byThree_75 ?_
  refine lv_lmul hx hb dX9_byThree_78 ?_
  refine lv_topl (fun z_14 ez_14 => ?_)
  refine lv_lsub hx hb dX9_byThree_79 ?_
  refine lv_topl (fun z_15 ez_15 => ?_)
  refine lv_lmul hx hb dX9_byThree_80 ?_
  refine lv_topl (fun z_16 ez_16 => ?_)
  refine lv_ladd hx hb dX9_byThree_81 ?_
  refine lv_topl (fun z_17 ez_17 => ?_)
  refine lv_lstore (lv' := [(5, .long z_17), (0, .ref mh), (1, .long p0), (3, .long p1)]) hx hb dX9_byThree_82 hl (by decide) rfl (fun ls hl => ?_)
  refine lv_aload_n hx hb dX9_byThree_84 rfl (lv_at hl 1 rfl) ?_
  refine va_get (D := D) (ci := 9) (v := .long mmany) (C := RX9) (T := TX9) (N := 68) hx hb htb iX9 hown hK.1 hP 0 rfl rfl 17 (by decide) (htb _ k_975) (fun _ h9 => h9) rfl dX9_byThree_85 ?_
  refine lv_aload_n hx hb dX9_byThree_88 rfl (lv_at hl 1 rfl) ?_
  refine va_get (D := D) (ci := 9) (v := .long msumWR) (C := RX9) (T := TX9) (N := 68) hx hb htb iX9 hown hK.1 hP 0 rfl rfl 24 (by decide) (htb _ k_982) (fun _ h9 => h9) rfl dX9_byThree_89 ?_
  refine lv_aload_n hx hb dX9_byThree_92 rfl (lv_at hl 1 rfl) ?_
  refine va_get (D := D) (ci := 9) (v := .long msumAA) (C := RX9) (T := TX9) (N := 68) hx hb htb iX9 hown hK.1 hP 0 rfl rfl 23 (by decide) (htb _ k_981) (fun _ h9 => h9) rfl dX9_byThree_93 ?_
  refine lv_lmul hx hb dX9_byThree_96 ?_
  refine lv_topl (fun z_18 ez_18 => ?_)
  refine lv_aload_n hx hb dX9_byThree_97 rfl (lv_at hl 1 rfl) ?_
  refine va_get (D := D) (ci := 9) (v := .long msumWA) (C := RX9) (T := TX9) (N := 68) hx hb htb iX9 hown hK.1 hP 0 rfl rfl 22 (by decide) (htb _ k_980) (fun _ h9 => h9) rfl dX9_byThree_98 ?_
  refine lv_aload_n hx hb dX9_byThree_101 rfl (lv_at hl 1 rfl) ?_
  refine va_get (D := D) (ci := 9) (v := .long msumAR) (C := RX9) (T := TX9) (N := 68) hx hb htb iX9 hown hK.1 hP 0 rfl rfl 25 (by decide) (htb _ k_983) (fun _ h9 => h9) rfl dX9_byThree_102 ?_
  refine lv_lmul hx hb dX9_byThree_105 ?_
  refine lv_topl (fun z_19 ez_19 => ?_)
  refine lv_lsub hx hb dX9_byThree_106 ?_
  refine lv_topl (fun z_20 ez_20 => ?_)
  refine lv_lmul hx hb dX9_byThree_107 ?_
  refine lv_topl (fun z_21 ez_21 => ?_)
  refine lv_aload_n hx hb dX9_byThree_108 rfl (lv_at hl 1 rfl) ?_
  refine va_get (D := D) (ci := 9) (v := .long msumR) (C := RX9) (T := TX9) (N := 68) hx hb htb iX9 hown hK.1 hP 0 rfl rfl 20 (by decide) (htb _ k_978) (fun _ h9 => h9) rfl dX9_byThree_109 ?_
  refine lv_aload_n hx hb dX9_byThree_112 rfl (lv_at hl 1 rfl) ?_
  refine va_get (D := D) (ci := 9) (v := .long msumW) (C := RX9) (T := TX9) (N := 68) hx hb htb iX9 hown hK.1 hP 0 rfl rfl 18 (by decide) (htb _ k_976) (fun _ h9 => h9) rfl dX9_byThree_113 ?_
  refine lv_aload_n hx hb dX9_byThree_116 rfl (lv_at hl 1 rfl) ?_
  refine va_get (D := D) (ci := 9) (v := .long msumAA) (C := RX9) (T := TX9) (N := 68) hx hb htb iX9 hown hK.1 hP 0 rfl rfl 23 (by decide) (htb _ k_981) (fun _ h9 => h9) rfl dX9_byThree_117 ?_
  refine lv_lmul hx hb dX9_byThree_120 ?_
  refine lv_topl (fun z_22 ez_22 => ?_)
  refine lv_aload_n hx hb dX9_byThree_121 rfl (lv_at hl 1 rfl) ?_
  refine va_get (D := D) (ci := 9) (v := .long msumWA) (C := RX9) (T := TX9) (N := 68) hx hb htb iX9 hown hK.1 hP 0 rfl rfl 22 (by decide) (htb _ k_980) (fun _ h9 => h9) rfl dX9_byThree_122 ?_
  refine lv_aload_n hx hb dX9_byThree_125 rfl (lv_at hl 1 rfl) ?_
  refine va_get (D := D) (ci := 9) (v := .long msumA) (C := RX9) (T := TX9) (N := 68) hx hb htb iX9 hown hK.1 hP 0 rfl rfl 19 (by decide) (htb _ k_977) (fun _ h9 => h9) rfl dX9_byThree_126 ?_
  refine lv_lmul hx hb dX9_byThree_129 ?_
  refine lv_topl (fun z_23 ez_23 => ?_)
  refine lv_lsub hx hb dX9_byThree_130 ?_
  refine lv_topl (fun z_24 ez_24 => ?_)
  refine lv_lmul hx hb dX9_byThree_131 ?_
  refine lv_topl (fun z_25 ez_25 => ?_)
  refine lv_lsub hx hb dX9_byThree_132 ?_
  refine lv_topl (fun z_26 ez_26 => ?_)
  refine lv_aload_n hx hb dX9_byThree_133 rfl (lv_at hl 1 rfl) ?_
  refine va_get (D := D) (ci := 9) (v := .long msumA) (C := RX9) (T := TX9) (N := 68) hx hb htb iX9 hown hK.1 hP 0 rfl rfl 19 (by decide) (htb _ k_977) (fun _ h9 => h9) rfl dX9_byThree_134 ?_
  refine lv_aload_n hx hb dX9_byThree_137 rfl (lv_at hl 1 rfl) ?_
  refine va_get (D := D) (ci := 9) (v := .long msumW) (C := RX9) (T := TX9) (N := 68) hx hb htb iX9 hown hK.1 hP 0 rfl rfl 18 (by decide) (htb _ k_976) (fun _ h9 => h9) rfl dX9_byThree_138 ?_
  refine lv_aload_n hx hb dX9_byThree_141 rfl (lv_at hl 1 rfl) ?_
  refine va_get (D := D) (ci := 9) (v := .long msumAR) (C := RX9) (T := TX9) (N := 68) hx hb htb iX9 hown hK.1 hP 0 rfl rfl 25 (by decide) (htb _ k_983) (fun _ h9 => h9) rfl dX9_byThree_142 ?_
  refine lv_lmul hx hb dX9_byThree_145 ?_
  refine lv_topl (fun z_27 ez_27 => ?_)
  refine lv_aload_n hx hb dX9_byThree_146 rfl (lv_at hl 1 rfl) ?_
  refine va_get (D := D) (ci := 9) (v := .long msumWR) (C := RX9) (T := TX9) (N := 68) hx hb htb iX9 hown hK.1 hP 0 rfl rfl 24 (by decide) (htb _ k_982) (fun _ h9 => h9) rfl dX9_byThree_147 ?_
  refine lv_aload_n hx hb dX9_byThree_150 rfl (lv_at hl 1 rfl) ?_
  refine va_get (D := D) (ci := 9) (v := .long msumA) (C := RX9) (T := TX9) (N := 68) hx hb htb iX9 hown hK.1 hP 0 rfl rfl 19 (by decide) (htb _ k_977) (fun _ h9 => h9) rfl dX9_byThree_151 ?_
  refine lv_lmul hx hb dX9_byThree_154 ?_
  refine lv_topl (fun z_28 ez_28 => ?_)
  refine lv_lsub hx hb dX9_byThree_155 ?_
  refine lv_topl (fun z_29 ez_29 => ?_)
  refine lv_lmul hx hb dX9_byThree_156 ?_
  refine lv_topl (fun z_30 ez_30 => ?_)
  refine lv_ladd hx hb dX9_byThree_157 ?_
  refine lv_topl (fun z_31 ez_31 => ?_)
  refine lv_lstore (lv' := [(7, .long z_31), (5, .long z_17), (0, .ref mh), (1, .long p0), (3, .long p1)]) hx hb dX9_byThree_158 hl (by decide) rfl (fun ls hl => ?_)
  refine lv_aload_n hx hb dX9_byThree_160 rfl (lv_at hl 2 rfl) ?_
  refine va_get (D := D) (ci := 9) (v := .long mmany) (C := RX9) (T := TX9) (N := 68) hx hb htb iX9 hown hK.1 hP 0 rfl rfl 17 (by decide) (htb _ k_975) (fun _ h9 => h9) rfl dX9_byThree_161 ?_
  refine lv_aload_n hx hb dX9_byThree_164 rfl (lv_at hl 2 rfl) ?_
  refine va_get (D := D) (ci := 9) (v := .long msumWW) (C := RX9) (T := TX9) (N := 68) hx hb htb iX9 hown hK.1 hP 0 rfl rfl 21 (by decide) (htb _ k_979) (fun _ h9 => h9) rfl dX9_byThree_165 ?_
  refine lv_aload_n hx hb dX9_byThree_168 rfl (lv_at hl 2 rfl) ?_
  refine va_get (D := D) (ci := 9) (v := .long msumAR) (C := RX9) (T := TX9) (N := 68) hx hb htb iX9 hown hK.1 hP 0 rfl rfl 25 (by decide) (htb _ k_983) (fun _ h9 => h9) rfl dX9_byThree_169 ?_
  refine lv_lmul hx hb dX9_byThree_172 ?_
  refine lv_topl (fun z_32 ez_32 => ?_)
  refine lv_aload_n hx hb dX9_byThree_173 rfl (lv_at hl 2 rfl) ?_
  refine va_get (D := D) (ci := 9) (v := .long msumWR) (C := RX9) (T := TX9) (N := 68) hx hb htb iX9 hown hK.1 hP 0 rfl rfl 24 (by decide) (htb _ k_982) (fun _ h9 => h9) rfl dX9_byThree_174 ?_
  refine lv_aload_n hx hb dX9_byThree_177 rfl (lv_at hl 2 rfl) ?_
  refine va_get (D := D) (ci := 9) (v := .long msumWA) (C := RX9) (T := TX9) (N := 68) hx hb htb iX9 hown hK.1 hP 0 rfl rfl 22 (by decide) (htb _ k_980) (fun _ h9 => h9) rfl dX9_byThree_178 ?_
  refine lv_lmul hx hb dX9_byThree_181 ?_
  refine lv_topl (fun z_33 ez_33 => ?_)
  refine lv_lsub hx hb dX9_byThree_182 ?_
  refine lv_topl (fun z_34 ez_34 => ?_)
  refine lv_lmul hx hb dX9_byThree_183 ?_
  refine lv_topl (fun z_35 ez_35 => ?_)
  refine lv_aload_n hx hb dX9_byThree_184 rfl (lv_at hl 2 rfl) ?_
  refine va_get (D := D) (ci := 9) (v := .long msumW) (C := RX9) (T := TX9) (N := 68) hx hb htb iX9 hown hK.1 hP 0 rfl rfl 18 (by decide) (htb _ k_976) (fun _ h9 => h9) rfl dX9_byThree_185 ?_
  refine lv_aload_n hx hb dX9_byThree_188 rfl (lv_at hl 2 rfl) ?_
  refine va_get (D := D) (ci := 9) (v := .long msumW) (C := RX9) (T := TX9) (N := 68) hx hb htb iX9 hown hK.1 hP 0 rfl rfl 18 (by decide) (htb _ k_976) (fun _ h9 => h9) rfl dX9_byThree_189 ?_
  refine lv_aload_n hx hb dX9_byThree_192 rfl (lv_at hl 2 rfl) ?_
  refine va_get (D := D) (ci := 9) (v := .long msumAR) (C := RX9) (T := TX9) (N := 68) hx hb htb iX9 hown hK.1 hP 0 rfl rfl 25 (by decide) (htb _ k_983) (fun _ h9 => h9) rfl dX9_byThree_193 ?_
  refine lv_lmul hx hb dX9_byThree_196 ?_
  refine lv_topl (fun z_36 ez_36 => ?_)
  refine lv_aload_n hx hb dX9_byThree_197 rfl (lv_at hl 2 rfl) ?_
  refine va_get (D := D) (ci := 9) (v := .long msumWR) (C := RX9) (T := TX9) (N := 68) hx hb htb iX9 hown hK.1 hP 0 rfl rfl 24 (by decide) (htb _ k_982) (fun _ h9 => h9) rfl dX9_byThree_198 ?_
  refine lv_aload_n hx hb dX9_byThree_201 rfl (lv_at hl 2 rfl) ?_
  refine va_get (D := D) (ci := 9) (v := .long msumA) (C := RX9) (T := TX9) (N := 68) hx hb htb iX9 hown hK.1 hP 0 rfl rfl 19 (by decide) (htb _ k_977) (fun _ h9 => h9) rfl dX9_byThree_202 ?_
  refine lv_lmul hx hb dX9_byThree_205 ?_
  refine lv_topl (fun z_37 ez_37 => ?_)
  refine lv_lsub hx hb dX9_byThree_206 ?_
  refine lv_topl (fun z_38 ez_38 => ?_)
  refine lv_lmul hx hb dX9_byThree_207 ?_
  refine lv_topl (fun z_39 ez_39 => ?_)
  refine lv_lsub hx hb dX9_byThree_208 ?_
  refine lv_topl (fun z_40 ez_40 => ?_)
  refine lv_aload_n hx hb dX9_byThree_209 rfl (lv_at hl 2 rfl) ?_
  refine va_get (D := D) (ci := 9) (v := .long msumR) (C := RX9) (T := TX9) (N := 68) hx hb htb iX9 hown hK.1 hP 0 rfl rfl 20 (by decide) (htb _ k_978) (fun _ h9 => h9) rfl dX9_byThree_210 ?_
  refine lv_aload_n hx hb dX9_byThree_213 rfl (lv_at hl 2 rfl) ?_
  refine va_get (D := D) (ci := 9) (v := .long msumW) (C := RX9) (T := TX9) (N := 68) hx hb htb iX9 hown hK.1 hP 0 rfl rfl 18 (by decide) (htb _ k_976) (fun _ h9 => h9) rfl dX9_byThree_214 ?_
  refine lv_aload_n hx hb dX9_byThree_217 rfl (lv_at hl 2 rfl) ?_
  refine va_get (D := D) (ci := 9) (v := .long msumWA) (C := RX9) (T := TX9) (N := 68) hx hb htb iX9 hown hK.1 hP 0 rfl rfl 22 (by decide) (htb _ k_980) (fun _ h9 => h9) rfl dX9_byThree_218 ?_
  refine lv_lmul hx hb dX9_byThree_221 ?_
  refine lv_topl (fun z_41 ez_41 => ?_)
  refine lv_aload_n hx hb dX9_byThree_222 rfl (lv_at hl 2 rfl) ?_
  refine va_get (D := D) (ci := 9) (v := .long msumWW) (C := RX9) (T := TX9) (N := 68) hx hb htb iX9 hown hK.1 hP 0 rfl rfl 21 (by decide) (htb _ k_979) (fun _ h9 => h9) rfl dX9_byThree_223 ?_
  refine lv_aload_n hx hb dX9_byThree_226 rfl (lv_at hl 2 rfl) ?_
  refine va_get (D := D) (ci := 9) (v := .long msumA) (C := RX9) (T := TX9) (N := 68) hx hb htb iX9 hown hK.1 hP 0 rfl rfl 19 (by decide) (htb _ k_977) (fun _ h9 => h9) rfl dX9_byThree_227 ?_
  refine lv_lmul hx hb dX9_byThree_230 ?_
  refine lv_topl (fun z_42 ez_42 => ?_)
  refine lv_lsub hx hb dX9_byThree_231 ?_
  refine lv_topl (fun z_43 ez_43 => ?_)
  refine lv_lmul hx hb dX9_byThree_232 ?_
  refine lv_topl (fun z_44 ez_44 => ?_)
  refine lv_ladd hx hb dX9_byThree_233 ?_
  refine lv_topl (fun z_45 ez_45 => ?_)
  refine lv_lstore (lv' := [(9, .long z_45), (7, .long z_31), (5, .long z_17), (0, .ref mh), (1, .long p0), (3, .long p1)]) hx hb dX9_byThree_234 hl (by decide) rfl (fun ls hl => ?_)
  refine lv_aload_n hx hb dX9_byThree_236 rfl (lv_at hl 3 rfl) ?_
  refine lv_lload hx hb dX9_byThree_237 (lv_at hl 2 rfl) ?_
  refine lv_lload hx hb dX9_byThree_239 (lv_at hl 1 rfl) ?_
  refine lv_lload_n hx hb dX9_byThree_241 rfl (lv_at hl 4 rfl) ?_
  refine lv_lmul hx hb dX9_byThree_242 ?_
  refine lv_topl (fun z_46 ez_46 => ?_)
  refine lv_ladd hx hb dX9_byThree_243 ?_
  refine lv_topl (fun z_47 ez_47 => ?_)
  refine lv_lload hx hb dX9_byThree_244 (lv_at hl 0 rfl) ?_
  refine lv_lload_n hx hb dX9_byThree_246 rfl (lv_at hl 5 rfl) ?_
  refine lv_lmul hx hb dX9_byThree_247 ?_
  refine lv_topl (fun z_48 ez_48 => ?_)
  refine lv_ladd hx hb dX9_byThree_248 ?_
  refine lv_topl (fun z_49 ez_49 => ?_)
  refine va_put (D := D) (ci := 9) (v := .long z_49) (ty := .long) (C := RX9) (T := TX9) (N := 68) hx hb htb iX9 tyX9 tyX9_ok nmX9 hown hK.1 hP hD hS 0 rfl rfl 26 (by decide) (htb _ k_984) (fun _ h9 => h9) rfl (by decide +kernel) rfl rfl (Nat.le_of_ble_eq_true rfl) dX9_byThree_249 (fun H locs hP hD hS => ?_)
  have hP : va_P D vwCl [(mh, .inr (9, G9 ma mcode mtoday moffs mmany msumW msumA msumR msumWW msumWA msumAA msumWR msumAR z_49 r_1 mrates mtaped mlaid mat mtk mtkAt mtkNumber mwaits mlisted mdealtMany))] H := hP
  have hD := toW hP hD rfl
  have hP9 := hP.sub (ws' := [(mh, .inr (9, G9 ma mcode mtoday moffs mmany msumW msumA msumR msumWW msumWA msumAA msumWR msumAR z_49 r_1 mrates mtaped mlaid mat mtk mtkAt mtkNumber mwaits mlisted mdealtMany))]) [0] rfl
  have hD9 := hD.sub (ws' := [(mh, .inr (9, G9 ma mcode mtoday moffs mmany msumW msumA msumR msumWW msumWA msumAA msumWR msumAR z_49 r_1 mrates mtaped mlaid mat mtk mtkAt mtkNumber mwaits mlisted mdealtMany))]) [0] (by decide) rfl
  exact W.vret hx hb hr (fun t ht hW => ⟨⟨(r_1, z_49), rfl, (by (try dsimp only); subst_vars; rfl), by rw [ht]; exact hP9, hD9⟩, hS.F ht⟩) hS.2.2 dX9_byThree_252
set_option maxHeartbeats 4000000 in
set_option maxRecDepth 100000 in
theorem g_X9_foretold (l : Launch) (D : va_G) (E : Nat → Nat) (mh : Nat) (ma : Nat → Nat) (mcode : Int32) (mtoday : Int32) (moffs : Int32) (mmany : Int64) (msumW : Int64) (msumA : Int64) (msumR : Int64) (msumWW : Int64) (msumWA : Int64) (msumAA : Int64) (msumWR : Int64) (msumAR : Int64) (mupper : Int64) (mlower : Int64) (mrates : Int32) (mtaped : Int32) (mlaid : Int32) (mat : Int32) (mtk : Int32) (mtkAt : Int32) (mtkNumber : Int32) (mwaits : Int32) (mlisted : Int32) (mdealtMany : Int32) (mf2 : Nat → Int32) (mf3 : Nat → Int32) (mf4 : Nat → Int32) (mf5 : Nat → Int32) (mf6 : Nat → Int32) (mf7 : Nat → Int32) (mf8 : Nat → Int32) (mf9 : Nat → Int32) (mf12 : Nat → Int32) (mf13 : Nat → Int32) (mf14 : Nat → Int32) (mf15 : Nat → Int32) (mf16 : Nat → Int32) (p0 : Int32) (p1 : Int32) (p2 : Int32) (p3 : Int32) (p4 : Int32) (sz : Nat) (hi_m : (0 ≤ mtoday.toInt ∧ mtoday.toInt ≤ 399) ∧ (0 ≤ moffs.toInt ∧ moffs.toInt ≤ 60) ∧ (0 ≤ mrates.toInt ∧ mrates.toInt ≤ 60) ∧ (0 ≤ mtaped.toInt ∧ mtaped.toInt ≤ 120) ∧ (0 ≤ mlisted.toInt ∧ mlisted.toInt ≤ 9) ∧ (0 ≤ mdealtMany.toInt ∧ mdealtMany.toInt ≤ 9)) : Met l yX9_foretold (wl yX9_foretold cX9_foretold 10 (some .int)) (RM 4 0 0) (mu_P D E [.ref mh, .int p0, .int p1, .int p2, .int p3, .int p4] [(mh, .inr (9, G9 ma mcode mtoday moffs mmany msumW msumA msumR msumWW msumWA msumAA msumWR msumAR mupper mlower mrates mtaped mlaid mat mtk mtkAt mtkNumber mwaits mlisted mdealtMany)), ((ma 2), .inl (E 0, 400, .inl mf2)), ((ma 3), .inl (E 0, 16, .inl mf3)), ((ma 4), .inl (E 0, 16, .inl mf4)), ((ma 5), .inl (E 1, 6400, .inl mf5)), ((ma 6), .inl (E 0, 6400, .inl mf6)), ((ma 7), .inl (E 0, 6400, .inl mf7)), ((ma 8), .inl (E 1, 6400, .inl mf8)), ((ma 9), .inl (E 1, 6400, .inl mf9)), ((ma 12), .inl (E 0, 60, .inl mf12)), ((ma 13), .inl (E 0, 60, .inl mf13)), ((ma 14), .inl (E 0, 60, .inl mf14)), ((ma 15), .inl (E 0, 60, .inl mf15)), ((ma 16), .inl (E 0, 60, .inl mf16))] sz) (va_Qi (fun (r : Int32) (u : (Int64) × (Int64) × (Int64) × (Int64) × (Int64) × (Int64) × (Int64) × (Int64) × (Int64) × (Int64) × (Int64)) => True) (mu_B D (va_A [(mh, .inr (9, G9 ma mcode mtoday moffs mmany msumW msumA msumR msumWW msumWA msumAA msumWR msumAR mupper mlower mrates mtaped mlaid mat mtk mtkAt mtkNumber mwaits mlisted mdealtMany)), ((ma 2), .inl (E 0, 400, .inl mf2)), ((ma 3), .inl (E 0, 16, .inl mf3)), ((ma 4), .inl (E 0, 16, .inl mf4)), ((ma 5), .inl (E 1, 6400, .inl mf5)), ((ma 6), .inl (E 0, 6400, .inl mf6)), ((ma 7), .inl (E 0, 6400, .inl mf7)), ((ma 8), .inl (E 1, 6400, .inl mf8)), ((ma 9), .inl (E 1, 6400, .inl mf9)), ((ma 12), .inl (E 0, 60, .inl mf12)), ((ma 13), .inl (E 0, 60, .inl mf13)), ((ma 14), .inl (E 0, 60, .inl mf14)), ((ma 15), .inl (E 0, 60, .inl mf15)), ((ma 16), .inl (E 0, 60, .inl mf16))] sz) (fun (u : (Int64) × (Int64) × (Int64) × (Int64) × (Int64) × (Int64) × (Int64) × (Int64) × (Int64) × (Int64) × (Int64)) => [(mh, .inr (9, G9 ma mcode mtoday moffs u.2.1 u.2.2.2.2.2.2.1 u.2.2.1 u.2.2.2.2.2.1 u.2.2.2.2.2.2.2.2.2.1 u.2.2.2.2.2.2.2.1 u.2.2.2.1 u.2.2.2.2.2.2.2.2.1 u.2.2.2.2.1 u.2.2.2.2.2.2.2.2.2.2 u.1 mrates mtaped mlaid mat mtk mtkAt mtkNumber mwaits mlisted mdealtMany)), ((ma 2), .inl (E 0, 400, .inl mf2)), ((ma 3), .inl (E 0, 16, .inl mf3)), ((ma 4), .inl (E 0, 16, .inl mf4)), ((ma 5), .inl (E 1, 6400, .inl mf5)), ((ma 6), .inl (E 0, 6400, .inl mf6)), ((ma 7), .inl (E 0, 6400, .inl mf7)), ((ma 8), .inl (E 1, 6400, .inl mf8)), ((ma 9), .inl (E 1, 6400, .inl mf9)), ((ma 12), .inl (E 0, 60, .inl mf12)), ((ma 13), .inl (E 0, 60, .inl mf13)), ((ma 14), .inl (E 0, 60, .inl mf14)), ((ma 15), .inl (E 0, 60, .inl mf15)), ((ma 16), .inl (E 0, 60, .inl mf16))])) (va_A [(mh, .inr (9, G9 ma mcode mtoday moffs mmany msumW msumA msumR msumWW msumWA msumAA msumWR msumAR mupper mlower mrates mtaped mlaid mat mtk mtkAt mtkNumber mwaits mlisted mdealtMany)), ((ma 2), .inl (E 0, 400, .inl mf2)), ((ma 3), .inl (E 0, 16, .inl mf3)), ((ma 4), .inl (E 0, 16, .inl mf4)), ((ma 5), .inl (E 1, 6400, .inl mf5)), ((ma 6), .inl (E 0, 6400, .inl mf6)), ((ma 7), .inl (E 0, 6400, .inl mf7)), ((ma 8), .inl (E 1, 6400, .inl mf8)), ((ma 9), .inl (E 1, 6400, .inl mf9)), ((ma 12), .inl (E 0, 60, .inl mf12)), ((ma 13), .inl (E 0, 60, .inl mf13)), ((ma 14), .inl (E 0, 60, .inl mf14)), ((ma 15), .inl (E 0, 60, .inl mf15)), ((ma 16), .inl (E 0, 60, .inl mf16))] sz)) 0 0 (va_A [(mh, .inr (9, G9 ma mcode mtoday moffs mmany msumW msumA msumR msumWW msumWA msumAA msumWR msumAR mupper mlower mrates mtaped mlaid mat mtk mtkAt mtkNumber mwaits mlisted mdealtMany)), ((ma 2), .inl (E 0, 400, .inl mf2)), ((ma 3), .inl (E 0, 16, .inl mf3)), ((ma 4), .inl (E 0, 16, .inl mf4)), ((ma 5), .inl (E 1, 6400, .inl mf5)), ((ma 6), .inl (E 0, 6400, .inl mf6)), ((ma 7), .inl (E 0, 6400, .inl mf7)), ((ma 8), .inl (E 1, 6400, .inl mf8)), ((ma 9), .inl (E 1, 6400, .inl mf9)), ((ma 12), .inl (E 0, 60, .inl mf12)), ((ma 13), .inl (E 0, 60, .inl mf13)), ((ma 14), .inl (E 0, 60, .inl mf14)), ((ma 15), .inl (E 0, 60, .inl mf15)), ((ma 16), .inl (E 0, 60, .inl mf16))] sz) := by
  refine Met.ofW (cc := cX9_foretold) (maxL := 10) (ret := (some .int)) (by decide) rfl ?_
  intro p e s m args below meth c s₁ B hml hv
  obtain ⟨rfl, hsz, hP, hK, hD0⟩ := hv
  have hx := B.exec; have hb := B.bytes; have hr := B.returns
  have hts := atoms_spec (ws := wl yX9_foretold cX9_foretold 10 (some .int)) B.pre
  have htb : ∀ w ∈ tb, w.before _ s = true := fun w h => hts w (List.mem_cons_of_mem _ h)
  have hown : s.vm.findClass RX9 = some m.cls := findClass_of_methodNamed B.named
  have hlocks := B.notSynchronized
  subst hsz
  have hD := hD0.self (sz := s.heap.size)
  generalize hAe : va_A [(mh, .inr (9, G9 ma mcode mtoday moffs mmany msumW msumA msumR msumWW msumWA msumAA msumWR msumAR mupper mlower mrates mtaped mlaid mat mtk mtkAt mtkNumber mwaits mlisted mdealtMany)), ((ma 2), .inl (E 0, 400, .inl mf2)), ((ma 3), .inl (E 0, 16, .inl mf3)), ((ma 4), .inl (E 0, 16, .inl mf4)), ((ma 5), .inl (E 1, 6400, .inl mf5)), ((ma 6), .inl (E 0, 6400, .inl mf6)), ((ma 7), .inl (E 0, 6400, .inl mf7)), ((ma 8), .inl (E 1, 6400, .inl mf8)), ((ma 9), .inl (E 1, 6400, .inl mf9)), ((ma 12), .inl (E 0, 60, .inl mf12)), ((ma 13), .inl (E 0, 60, .inl mf13)), ((ma 14), .inl (E 0, 60, .inl mf14)), ((ma 15), .inl (E 0, 60, .inl mf15)), ((ma 16), .inl (E 0, 60, .inl mf16))] s.heap.size = A at hD ⊢
  have hA : ∀ q : Nat, s.heap.size ≤ q → A q := fun q h => by rw [← hAe]; exact Or.inr h
  have hS : va_S A s.heap s.heap [] := va_S.rf
  have hP : va_P D vwCl [(mh, .inr (9, G9 ma mcode mtoday moffs mmany msumW msumA msumR msumWW msumWA msumAA msumWR msumAR mupper mlower mrates mtaped mlaid mat mtk mtkAt mtkNumber mwaits mlisted mdealtMany)), ((ma 2), .inl (E 0, 400, .inl mf2)), ((ma 3), .inl (E 0, 16, .inl mf3)), ((ma 4), .inl (E 0, 16, .inl mf4)), ((ma 5), .inl (E 1, 6400, .inl mf5)), ((ma 6), .inl (E 0, 6400, .inl mf6)), ((ma 7), .inl (E 0, 6400, .inl mf7)), ((ma 8), .inl (E 1, 6400, .inl mf8)), ((ma 9), .inl (E 1, 6400, .inl mf9)), ((ma 12), .inl (E 0, 60, .inl mf12)), ((ma 13), .inl (E 0, 60, .inl mf13)), ((ma 14), .inl (E 0, 60, .inl mf14)), ((ma 15), .inl (E 0, 60, .inl mf15)), ((ma 16), .inl (E 0, 60, .inl mf16))] s.heap := hP
  have hl := lv_entry ([.ref mh, .int p0, .int p1, .int p2, .int p3, .int p4]) (n := 10) (Nat.le_of_ble_eq_true rfl)
  rw [lg_entry_eq]
  generalize (lg_sl ([.ref mh, .int p0, .int p1, .int p2, .int p3, .int p4]) ++ List.replicate (10 - (lg_sl ([.ref mh, .int p0, .int p1, .int p2, .int p3, .int p4])).length) Slot.unset).toArray = ls at hl ⊢
  have hl : lv_has ls 10 [(0, .ref mh), (1, .int p0), (2, .int p1), (3, .int p2), (4, .int p3), (5, .int p4)] := hl
  have lo_p0 := i_lo p0; have hi_p0 := i_hi p0
  have lo_p1 := i_lo p1; have hi_p1 := i_hi p1
  have lo_p2 := i_lo p2; have hi_p2 := i_hi p2
  have lo_p3 := i_lo p3; have hi_p3 := i_hi p3
  have lo_p4 := i_lo p4; have hi_p4 := i_hi p4
  refine lv_aload_n hx hb dX9_foretold_0 rfl (lv_at hl 0 rfl) ?_
  refine lv_iload_n hx hb dX9_foretold_1 rfl (lv_at hl 1 rfl) ?_
  refine lv_iload_n hx hb dX9_foretold_2 rfl (lv_at hl 2 rfl) ?_
  refine lv_iload_n hx hb dX9_foretold_3 rfl (lv_at hl 3 rfl) ?_
  refine callRV (rest := []) (As := [.int p0, .int p1, .int p2]) hx hb hml hown htb hK (g_X9_asked l D E mh ma mcode mtoday moffs mmany msumW msumA msumR msumWW msumWA msumAA msumWR msumAR mupper mlower mrates mtaped mlaid mat mtk mtkAt mtkNumber mwaits mlisted mdealtMany mf3 p0 p1 p2 (by (try dsimp only); omega)) ok_X9_asked k_1269 k_1271 ks_45 k_9 k_1272 ⟨(Nat.le_of_ble_eq_true rfl), (Nat.le_of_ble_eq_true rfl)⟩ ⟨(Nat.le_of_ble_eq_true rfl), (Nat.le_of_ble_eq_true rfl)⟩ hl.1 (Nat.le_of_ble_eq_true rfl) rfl rfl dX9_foretold_4 (hP.sub (ws' := [(mh, .inr (9, G9 ma mcode mtoday moffs mmany msumW msumA msumR msumWW msumWA msumAA msumWR msumAR mupper mlower mrates mtaped mlaid mat mtk mtkAt mtkNumber mwaits mlisted mdealtMany)), ((ma 3), .inl (E 0, 16, .inl mf3))]) [0, 2] rfl) rfl rfl 0 rfl (fun r_1 hw_2 => ?_)
  refine lv_if_lt (tgt := 34) hx hb dX9_foretold_7 (by decide) (fun c_4 => ?_) (fun c_4 => ?_)
  ·
    have ic_4 : r_1.toInt < 0 := by first | exact (g_lt rfl t_0).mp c_4 | (have h := mt (g_le t_0 rfl).mpr c_4; omega)
    clear c_4
    refine lv_ldc hx hb hown (htb _ k_1205) dX9_foretold_34 ?_
    have hP9 := hP.sub (ws' := [(mh, .inr (9, G9 ma mcode mtoday moffs mmany msumW msumA msumR msumWW msumWA msumAA msumWR msumAR mupper mlower mrates mtaped mlaid mat mtk mtkAt mtkNumber mwaits mlisted mdealtMany)), ((ma 2), .inl (E 0, 400, .inl mf2)), ((ma 3), .inl (E 0, 16, .inl mf3)), ((ma 4), .inl (E 0, 16, .inl mf4)), ((ma 5), .inl (E 1, 6400, .inl mf5)), ((ma 6), .inl (E 0, 6400, .inl mf6)), ((ma 7), .inl (E 0, 6400, .inl mf7)), ((ma 8), .inl (E 1, 6400, .inl mf8)), ((ma 9), .inl (E 1, 6400, .inl mf9)), ((ma 12), .inl (E 0, 60, .inl mf12)), ((ma 13), .inl (E 0, 60, .inl mf13)), ((ma 14), .inl (E 0, 60, .inl mf14)), ((ma 15), .inl (E 0, 60, .inl mf15)), ((ma 16), .inl (E 0, 60, .inl mf16))]) [0, 1, 2, 3, 4, 5, 6, 7, 8, 9, 10, 11, 12, 13] rfl
    have hD9 := hD.sub (ws' := [(mh, .inr (9, G9 ma mcode mtoday moffs mmany msumW msumA msumR msumWW msumWA msumAA msumWR msumAR mupper mlower mrates mtaped mlaid mat mtk mtkAt mtkNumber mwaits mlisted mdealtMany)), ((ma 2), .inl (E 0, 400, .inl mf2)), ((ma 3), .inl (E 0, 16, .inl mf3)), ((ma 4), .inl (E 0, 16, .inl mf4)), ((ma 5), .inl (E 1, 6400, .inl mf5)), ((ma 6), .inl (E 0, 6400, .inl mf6)), ((ma 7), .inl (E 0, 6400, .inl mf7)), ((ma 8), .inl (E 1, 6400, .inl mf8)), ((ma 9), .inl (E 1, 6400, .inl mf9)), ((ma 12), .inl (E 0, 60, .inl mf12)), ((ma 13), .inl (E 0, 60, .inl mf13)), ((ma 14), .inl (E 0, 60, .inl mf14)), ((ma 15), .inl (E 0, 60, .inl mf15)), ((ma 16), .inl (E 0, 60, .inl mf16))]) [0, 1, 2, 3, 4, 5, 6, 7, 8, 9, 10, 11, 12, 13] (by decide) rfl
    exact W.iret (v := (-2000000000)) hx hb hr (fun t ht hW => ⟨⟨(-2000000000), (mlower, mmany, msumA, msumAA, msumAR, msumR, msumW, msumWA, msumWR, msumWW, mupper), rfl, trivial, by rw [ht]; exact hP9, hD9⟩, hS.F ht⟩) hS.2.2 dX9_foretold_36
  ·
    have ic_4 : 0 ≤ r_1.toInt := by first | exact (g_le t_0 rfl).mp c_4 | (have h := mt (g_lt rfl t_0).mpr c_4; omega)
    clear c_4
    refine lv_iload hx hb dX9_foretold_10 (lv_at hl 4 rfl) ?_
    refine lv_bipush (v := (-50)) hx hb dX9_foretold_12 (by decide) ?_
    refine lv_bipush (v := 50) hx hb dX9_foretold_14 (by decide) ?_
    refine callRS (rest := []) (As := [.int p3, .int (-50), .int 50]) hx hb hml hown htb hK (g_X9_in l D E p3 (-50) 50 ) ok_X9_in k_1168 k_1169 k_9 k_1170 ⟨(Nat.le_of_ble_eq_true rfl), (Nat.le_of_ble_eq_true rfl)⟩ ⟨(Nat.le_of_ble_eq_true rfl), (Nat.le_of_ble_eq_true rfl)⟩ hl.1 (Nat.le_of_ble_eq_true rfl) rfl rfl dX9_foretold_16 (hP.sub (ws' := ([] : va_W)) [] rfl) (fun r_5 hw_6 => ?_)
    try simp only [t_m50, t_50] at hw_6
    rcases hw_6 with ⟨hr_5, hw_6⟩ | ⟨hr_5, hw_6⟩
    ·
      try simp only [t_m50, t_50] at hw_6
      refine W_top (y := .int 1) (by rw [hr_5]) ?_
      refine lv_if_eq (tgt := 34) hx hb dX9_foretold_19 (by decide) (fun c_8 => absurd c_8 (by decide)) (fun c_8 => ?_)
      refine lv_iload hx hb dX9_foretold_22 (lv_at hl 5 rfl) ?_
      refine lv_iconst (v := 0) hx hb dX9_foretold_24 (by decide) ?_
      refine lv_sipush (v := 399) hx hb dX9_foretold_25 (by decide) ?_
      refine callRS (rest := []) (As := [.int p4, .int 0, .int 399]) hx hb hml hown htb hK (g_X9_in l D E p4 0 399 ) ok_X9_in k_1168 k_1169 k_9 k_1170 ⟨(Nat.le_of_ble_eq_true rfl), (Nat.le_of_ble_eq_true rfl)⟩ ⟨(Nat.le_of_ble_eq_true rfl), (Nat.le_of_ble_eq_true rfl)⟩ hl.1 (Nat.le_of_ble_eq_true rfl) rfl rfl dX9_foretold_28 (hP.sub (ws' := ([] : va_W)) [] rfl) (fun r_9 hw_10 => ?_)
      try simp only [t_0, t_399] at hw_10
      rcases hw_10 with ⟨hr_9, hw_10⟩ | ⟨hr_9, hw_10⟩
      ·
        try simp only [t_0, t_399] at hw_10
        refine W_top (y := .int 1) (by rw [hr_9]) ?_
        refine lv_if_ne (tgt := 37) hx hb dX9_foretold_31 (by decide) (fun c_12 => ?_) (fun c_12 => absurd c_12 (by decide))
        refine lv_aload_n hx hb dX9_foretold_37 rfl (lv_at hl 0 rfl) ?_
        refine lv_iload_n hx hb dX9_foretold_38 rfl (lv_at hl 1 rfl) ?_
        refine lv_iload_n hx hb dX9_foretold_39 rfl (lv_at hl 2 rfl) ?_
        refine lv_iload_n hx hb dX9_foretold_40 rfl (lv_at hl 3 rfl) ?_
        have hPc := hP.sub (ws' := [(mh, .inr (9, G9 ma mcode mtoday moffs mmany msumW msumA msumR msumWW msumWA msumAA msumWR msumAR mupper mlower mrates mtaped mlaid mat mtk mtkAt mtkNumber mwaits mlisted mdealtMany)), ((ma 2), .inl (E 0, 400, .inl mf2)), ((ma 3), .inl (E 0, 16, .inl mf3)), ((ma 4), .inl (E 0, 16, .inl mf4)), ((ma 5), .inl (E 1, 6400, .inl mf5)), ((ma 6), .inl (E 0, 6400, .inl mf6)), ((ma 7), .inl (E 0, 6400, .inl mf7)), ((ma 8), .inl (E 1, 6400, .inl mf8)), ((ma 9), .inl (E 1, 6400, .inl mf9)), ((ma 12), .inl (E 0, 60, .inl mf12)), ((ma 13), .inl (E 0, 60, .inl mf13)), ((ma 14), .inl (E 0, 60, .inl mf14)), ((ma 15), .inl (E 0, 60, .inl mf15)), ((ma 16), .inl (E 0, 60, .inl mf16))]) [0, 1, 2, 3, 4, 5, 6, 7, 8, 9, 10, 11, 12, 13] rfl
        have hDc := hD.sub (ws' := [(mh, .inr (9, G9 ma mcode mtoday moffs mmany msumW msumA msumR msumWW msumWA msumAA msumWR msumAR mupper mlower mrates mtaped mlaid mat mtk mtkAt mtkNumber mwaits mlisted mdealtMany)), ((ma 2), .inl (E 0, 400, .inl mf2)), ((ma 3), .inl (E 0, 16, .inl mf3)), ((ma 4), .inl (E 0, 16, .inl mf4)), ((ma 5), .inl (E 1, 6400, .inl mf5)), ((ma 6), .inl (E 0, 6400, .inl mf6)), ((ma 7), .inl (E 0, 6400, .inl mf7)), ((ma 8), .inl (E 1, 6400, .inl mf8)), ((ma 9), .inl (E 1, 6400, .inl mf9)), ((ma 12), .inl (E 0, 60, .inl mf12)), ((ma 13), .inl (E 0, 60, .inl mf13)), ((ma 14), .inl (E 0, 60, .inl mf14)), ((ma 15), .inl (E 0, 60, .inl mf15)), ((ma 16), .inl (E 0, 60, .inl mf16))]) [0, 1, 2, 3, 4, 5, 6, 7, 8, 9, 10, 11, 12, 13] (by decide) rfl
        refine aft_v (runMV (rest := []) (As := [.int p0, .int p1, .int p2]) hx hb hml hown htb hK (g_X9_sumUp l D E mh ma mcode mtoday moffs mmany msumW msumA msumR msumWW msumWA msumAA msumWR msumAR mupper mlower mrates mtaped mlaid mat mtk mtkAt mtkNumber mwaits mlisted mdealtMany mf2 mf3 mf4 mf5 mf6 mf7 mf8 mf9 mf12 mf13 mf14 mf15 mf16 p0 p1 p2 _ (by (try dsimp only); omega) (by (try dsimp only); omega) (by (try dsimp only); omega)) ok_X9_sumUp k_1273 k_1275 ks_46 k_9 k_1276 ⟨(Nat.le_of_ble_eq_true rfl), (Nat.le_of_ble_eq_true rfl)⟩ ⟨(Nat.le_of_ble_eq_true rfl), (Nat.le_of_ble_eq_true rfl)⟩ hl.1 (Nat.le_of_ble_eq_true rfl) rfl rfl dX9_foretold_41 hPc hDc rfl rfl 0 rfl) hP hD hS hA [0, 1, 2, 3, 4, 5, 6, 7, 8, 9, 10, 11, 12, 13] [] (wr := ([] : va_W)) rfl rfl (by decide) (by decide) (fun u_15 H locs hw_14 hP hD hS => ?_)
        clear hPc hDc
        obtain ⟨w_16, w_17, w_18, w_19, w_20, w_21, w_22, w_23, w_24⟩ := u_15
        try dsimp only at hw_14
        have hP : va_P D vwCl [(mh, .inr (9, G9 ma mcode mtoday moffs w_16 w_21 w_17 w_20 w_24 w_22 w_18 w_23 w_19 mupper mlower mrates mtaped mlaid mat mtk mtkAt mtkNumber mwaits mlisted mdealtMany)), ((ma 2), .inl (E 0, 400, .inl mf2)), ((ma 3), .inl (E 0, 16, .inl mf3)), ((ma 4), .inl (E 0, 16, .inl mf4)), ((ma 5), .inl (E 1, 6400, .inl mf5)), ((ma 6), .inl (E 0, 6400, .inl mf6)), ((ma 7), .inl (E 0, 6400, .inl mf7)), ((ma 8), .inl (E 1, 6400, .inl mf8)), ((ma 9), .inl (E 1, 6400, .inl mf9)), ((ma 12), .inl (E 0, 60, .inl mf12)), ((ma 13), .inl (E 0, 60, .inl mf13)), ((ma 14), .inl (E 0, 60, .inl mf14)), ((ma 15), .inl (E 0, 60, .inl mf15)), ((ma 16), .inl (E 0, 60, .inl mf16))] H := hP
        have hD := toW hP hD rfl
        refine lv_aload_n hx hb dX9_foretold_44 rfl (lv_at hl 0 rfl) ?_
        refine va_get (D := D) (ci := 9) (v := .long w_16) (C := RX9) (T := TX9) (N := 68) hx hb htb iX9 hown hK.1 hP 0 rfl rfl 17 (by decide) (htb _ k_975) (fun _ h9 => h9) rfl dX9_foretold_45 ?_
        refine lv_lconst (v := 0) hx hb dX9_foretold_48 (by decide) ?_
        refine W.lcmp hx hb dX9_foretold_49 ?_
        refine lv_topi (fun z_25 ez_25 => ?_)
        refine lv_if_ne (tgt := 56) hx hb dX9_foretold_50 (by decide) (fun c_26 => ?_) (fun c_26 => ?_)
        ·
          have lc_27 : ¬ (w_16 : Int64) = (0 : Int64) := lc_ne (by rw [← ez_25]; exact c_26)
          refine lv_aload_n hx hb dX9_foretold_56 rfl (lv_at hl 0 rfl) ?_
          refine callRV (rest := []) (As := []) hx hb hml hown htb hK (g_X9_termsNow l D E mh ma mcode mtoday moffs w_16 w_21 w_17 w_20 w_24 w_22 w_18 w_23 w_19 mupper mlower mrates mtaped mlaid mat mtk mtkAt mtkNumber mwaits mlisted mdealtMany (by (try dsimp only); omega)) ok_X9_termsNow k_1287 k_1289 ks_48 k_9 k_1290 ⟨(Nat.le_of_ble_eq_true rfl), (Nat.le_of_ble_eq_true rfl)⟩ ⟨(Nat.le_of_ble_eq_true rfl), (Nat.le_of_ble_eq_true rfl)⟩ hl.1 (Nat.le_of_ble_eq_true rfl) rfl rfl dX9_foretold_57 (hP.sub (ws' := [(mh, .inr (9, G9 ma mcode mtoday moffs w_16 w_21 w_17 w_20 w_24 w_22 w_18 w_23 w_19 mupper mlower mrates mtaped mlaid mat mtk mtkAt mtkNumber mwaits mlisted mdealtMany))]) [0] rfl) rfl rfl 0 rfl (fun r_28 hw_29 => ?_)
          rcases hw_29 with ⟨hr_28, hw_29⟩ | ⟨hr_28, hw_29⟩ | ⟨hr_28, hw_29⟩ | ⟨hr_28, hw_29⟩
          ·
            refine W_top (y := .int 3) (by rw [hr_28]) ?_
            refine lv_tableIn (x := 3) (off := 28) (tgt := 88) hx hb dX9_foretold_60 (by decide) (by decide) (by decide) (by decide) ?_
            refine lv_aload_n hx hb dX9_foretold_88 rfl (lv_at hl 0 rfl) ?_
            refine lv_iload hx hb dX9_foretold_89 (lv_at hl 4 rfl) ?_
            obtain ⟨z_31, ez_31⟩ : ∃ y : Int64, (p3 : Int32).toInt64 = y := ⟨_, rfl⟩
            refine lv_i2l hx hb dX9_foretold_91 ez_31 ?_
            refine lv_iload hx hb dX9_foretold_92 (lv_at hl 5 rfl) ?_
            obtain ⟨z_32, ez_32⟩ : ∃ y : Int64, (p4 : Int32).toInt64 = y := ⟨_, rfl⟩
            refine lv_i2l hx hb dX9_foretold_94 ez_32 ?_
            have hPc := hP.sub (ws' := [(mh, .inr (9, G9 ma mcode mtoday moffs w_16 w_21 w_17 w_20 w_24 w_22 w_18 w_23 w_19 mupper mlower mrates mtaped mlaid mat mtk mtkAt mtkNumber mwaits mlisted mdealtMany))]) [0] rfl
            have hDc := hD.sub (ws' := [(mh, .inr (9, G9 ma mcode mtoday moffs w_16 w_21 w_17 w_20 w_24 w_22 w_18 w_23 w_19 mupper mlower mrates mtaped mlaid mat mtk mtkAt mtkNumber mwaits mlisted mdealtMany))]) [0] (by decide) rfl
            refine aft_v (runMV (rest := []) (As := [.long z_31, .long z_32]) hx hb hml hown htb hK (g_X9_byThree l D E mh ma mcode mtoday moffs w_16 w_21 w_17 w_20 w_24 w_22 w_18 w_23 w_19 mupper mlower mrates mtaped mlaid mat mtk mtkAt mtkNumber mwaits mlisted mdealtMany z_31 z_32 _ (by (try dsimp only); omega)) ok_X9_byThree k_1303 k_1305 ks_51 k_9 k_1306 ⟨(Nat.le_of_ble_eq_true rfl), (Nat.le_of_ble_eq_true rfl)⟩ ⟨(Nat.le_of_ble_eq_true rfl), (Nat.le_of_ble_eq_true rfl)⟩ hl.1 (Nat.le_of_ble_eq_true rfl) rfl rfl dX9_foretold_95 hPc hDc rfl rfl 0 rfl) hP hD hS hA [0] [1, 2, 3, 4, 5, 6, 7, 8, 9, 10, 11, 12, 13] (wr := [((ma 2), .inl (E 0, 400, .inl mf2)), ((ma 3), .inl (E 0, 16, .inl mf3)), ((ma 4), .inl (E 0, 16, .inl mf4)), ((ma 5), .inl (E 1, 6400, .inl mf5)), ((ma 6), .inl (E 0, 6400, .inl mf6)), ((ma 7), .inl (E 0, 6400, .inl mf7)), ((ma 8), .inl (E 1, 6400, .inl mf8)), ((ma 9), .inl (E 1, 6400, .inl mf9)), ((ma 12), .inl (E 0, 60, .inl mf12)), ((ma 13), .inl (E 0, 60, .inl mf13)), ((ma 14), .inl (E 0, 60, .inl mf14)), ((ma 15), .inl (E 0, 60, .inl mf15)), ((ma 16), .inl (E 0, 60, .inl mf16))]) rfl rfl (by decide) (by decide) (fun u_35 H locs hw_34 hP hD hS => ?_)
            clear hPc hDc
            obtain ⟨w_36, w_37⟩ := u_35
            try dsimp only at hw_34
            have hP : va_P D vwCl [((ma 2), .inl (E 0, 400, .inl mf2)), ((ma 3), .inl (E 0, 16, .inl mf3)), ((ma 4), .inl (E 0, 16, .inl mf4)), ((ma 5), .inl (E 1, 6400, .inl mf5)), ((ma 6), .inl (E 0, 6400, .inl mf6)), ((ma 7), .inl (E 0, 6400, .inl mf7)), ((ma 8), .inl (E 1, 6400, .inl mf8)), ((ma 9), .inl (E 1, 6400, .inl mf9)), ((ma 12), .inl (E 0, 60, .inl mf12)), ((ma 13), .inl (E 0, 60, .inl mf13)), ((ma 14), .inl (E 0, 60, .inl mf14)), ((ma 15), .inl (E 0, 60, .inl mf15)), ((ma 16), .inl (E 0, 60, .inl mf16)), (mh, .inr (9, G9 ma mcode mtoday moffs w_16 w_21 w_17 w_20 w_24 w_22 w_18 w_23 w_19 w_37 w_36 mrates mtaped mlaid mat mtk mtkAt mtkNumber mwaits mlisted mdealtMany))] H := hP
            have hD := toW hP hD rfl
            have nz_38 : ¬ w_36 = 0 := by rw [hw_34]; first | assumption | exact hw_29.2 | exact hw_29.2.2
            refine lv_goto (tgt := 161) hx hb dX9_foretold_98 (by decide) ?_
            refine lv_aload_n hx hb dX9_foretold_161 rfl (lv_at hl 0 rfl) ?_
            refine va_get (D := D) (ci := 9) (v := .long w_36) (C := RX9) (T := TX9) (N := 68) hx hb htb iX9 hown hK.1 hP 13 rfl rfl 27 (by decide) (htb _ k_985) (fun _ h9 => h9) rfl dX9_foretold_162 ?_
            refine lv_lconst (v := 0) hx hb dX9_foretold_165 (by decide) ?_
            refine W.lcmp hx hb dX9_foretold_166 ?_
            refine lv_topi (fun z_39 ez_39 => ?_)
            refine lv_if_ge (tgt := 188) hx hb dX9_foretold_167 (by decide) (fun c_40 => ?_) (fun c_40 => ?_)
            ·
              refine lv_aload_n hx hb dX9_foretold_188 rfl (lv_at hl 0 rfl) ?_
              refine va_get (D := D) (ci := 9) (v := .long w_37) (C := RX9) (T := TX9) (N := 68) hx hb htb iX9 hown hK.1 hP 13 rfl rfl 26 (by decide) (htb _ k_984) (fun _ h9 => h9) rfl dX9_foretold_189 ?_
              refine lv_aload_n hx hb dX9_foretold_192 rfl (lv_at hl 0 rfl) ?_
              refine va_get (D := D) (ci := 9) (v := .long w_36) (C := RX9) (T := TX9) (N := 68) hx hb htb iX9 hown hK.1 hP 13 rfl rfl 27 (by decide) (htb _ k_985) (fun _ h9 => h9) rfl dX9_foretold_193 ?_
              refine callLS (rest := []) (As := [.long w_37, .long w_36]) hx hb hml hown htb hK (g_X9_floor l D E w_37 w_36 nz_38) ok_X9_floor k_1311 k_1312 k_9 k_1313 ⟨(Nat.le_of_ble_eq_true rfl), (Nat.le_of_ble_eq_true rfl)⟩ ⟨(Nat.le_of_ble_eq_true rfl), (Nat.le_of_ble_eq_true rfl)⟩ hl.1 (Nat.le_of_ble_eq_true rfl) rfl rfl dX9_foretold_196 (hP.sub (ws' := ([] : va_W)) [] rfl) (fun r_42 hw_43 => ?_)
              refine lv_lstore (lv' := [(6, .long r_42), (0, .ref mh), (1, .int p0), (2, .int p1), (3, .int p2), (4, .int p3), (5, .int p4)]) hx hb dX9_foretold_199 hl (by decide) rfl (fun ls hl => ?_)
              refine lv_lload hx hb dX9_foretold_201 (lv_at hl 0 rfl) ?_
              refine lv_ldc2 hx hb hown (htb _ k_1314) dX9_foretold_203 ?_
              refine W.lcmp hx hb dX9_foretold_206 ?_
              refine lv_topi (fun z_45 ez_45 => ?_)
              refine lv_if_gt (tgt := 219) hx hb dX9_foretold_207 (by decide) (fun c_46 => ?_) (fun c_46 => ?_)
              ·
                refine lv_ldc hx hb hown (htb _ k_1205) dX9_foretold_219 ?_
                have hP9 := hP.sub (ws' := [(mh, .inr (9, G9 ma mcode mtoday moffs w_16 w_21 w_17 w_20 w_24 w_22 w_18 w_23 w_19 w_37 w_36 mrates mtaped mlaid mat mtk mtkAt mtkNumber mwaits mlisted mdealtMany)), ((ma 2), .inl (E 0, 400, .inl mf2)), ((ma 3), .inl (E 0, 16, .inl mf3)), ((ma 4), .inl (E 0, 16, .inl mf4)), ((ma 5), .inl (E 1, 6400, .inl mf5)), ((ma 6), .inl (E 0, 6400, .inl mf6)), ((ma 7), .inl (E 0, 6400, .inl mf7)), ((ma 8), .inl (E 1, 6400, .inl mf8)), ((ma 9), .inl (E 1, 6400, .inl mf9)), ((ma 12), .inl (E 0, 60, .inl mf12)), ((ma 13), .inl (E 0, 60, .inl mf13)), ((ma 14), .inl (E 0, 60, .inl mf14)), ((ma 15), .inl (E 0, 60, .inl mf15)), ((ma 16), .inl (E 0, 60, .inl mf16))]) [13, 0, 1, 2, 3, 4, 5, 6, 7, 8, 9, 10, 11, 12] rfl
                have hD9 := hD.sub (ws' := [(mh, .inr (9, G9 ma mcode mtoday moffs w_16 w_21 w_17 w_20 w_24 w_22 w_18 w_23 w_19 w_37 w_36 mrates mtaped mlaid mat mtk mtkAt mtkNumber mwaits mlisted mdealtMany)), ((ma 2), .inl (E 0, 400, .inl mf2)), ((ma 3), .inl (E 0, 16, .inl mf3)), ((ma 4), .inl (E 0, 16, .inl mf4)), ((ma 5), .inl (E 1, 6400, .inl mf5)), ((ma 6), .inl (E 0, 6400, .inl mf6)), ((ma 7), .inl (E 0, 6400, .inl mf7)), ((ma 8), .inl (E 1, 6400, .inl mf8)), ((ma 9), .inl (E 1, 6400, .inl mf9)), ((ma 12), .inl (E 0, 60, .inl mf12)), ((ma 13), .inl (E 0, 60, .inl mf13)), ((ma 14), .inl (E 0, 60, .inl mf14)), ((ma 15), .inl (E 0, 60, .inl mf15)), ((ma 16), .inl (E 0, 60, .inl mf16))]) [13, 0, 1, 2, 3, 4, 5, 6, 7, 8, 9, 10, 11, 12] (by decide) rfl
                exact W.iret (v := (-2000000000)) hx hb hr (fun t ht hW => ⟨⟨(-2000000000), (w_36, w_16, w_17, w_18, w_19, w_20, w_21, w_22, w_23, w_24, w_37), rfl, trivial, by rw [ht]; exact hP9, hD9⟩, hS.F ht⟩) hS.2.2 dX9_foretold_221
              ·
                refine lv_lload hx hb dX9_foretold_210 (lv_at hl 0 rfl) ?_
                refine lv_ldc2 hx hb hown (htb _ k_1315) dX9_foretold_212 ?_
                refine W.lcmp hx hb dX9_foretold_215 ?_
                refine lv_topi (fun z_49 ez_49 => ?_)
                refine lv_if_ge (tgt := 222) hx hb dX9_foretold_216 (by decide) (fun c_50 => ?_) (fun c_50 => ?_)
                ·
                  refine lv_ldc2 hx hb hown (htb _ k_1316) dX9_foretold_222 ?_
                  refine lv_lload hx hb dX9_foretold_225 (lv_at hl 0 rfl) ?_
                  refine lv_lmul hx hb dX9_foretold_227 ?_
                  refine lv_topl (fun z_52 ez_52 => ?_)
                  refine lv_ldc2 hx hb hown (htb _ k_1316) dX9_foretold_228 ?_
                  refine lv_aload_n hx hb dX9_foretold_231 rfl (lv_at hl 1 rfl) ?_
                  refine va_get (D := D) (ci := 9) (v := .long w_37) (C := RX9) (T := TX9) (N := 68) hx hb htb iX9 hown hK.1 hP 13 rfl rfl 26 (by decide) (htb _ k_984) (fun _ h9 => h9) rfl dX9_foretold_232 ?_
                  refine lv_lload hx hb dX9_foretold_235 (lv_at hl 0 rfl) ?_
                  refine lv_aload_n hx hb dX9_foretold_237 rfl (lv_at hl 1 rfl) ?_
                  refine va_get (D := D) (ci := 9) (v := .long w_36) (C := RX9) (T := TX9) (N := 68) hx hb htb iX9 hown hK.1 hP 13 rfl rfl 27 (by decide) (htb _ k_985) (fun _ h9 => h9) rfl dX9_foretold_238 ?_
                  refine lv_lmul hx hb dX9_foretold_241 ?_
                  refine lv_topl (fun z_53 ez_53 => ?_)
                  refine lv_lsub hx hb dX9_foretold_242 ?_
                  refine lv_topl (fun z_54 ez_54 => ?_)
                  refine lv_lmul hx hb dX9_foretold_243 ?_
                  refine lv_topl (fun z_55 ez_55 => ?_)
                  refine lv_aload_n hx hb dX9_foretold_244 rfl (lv_at hl 1 rfl) ?_
                  refine va_get (D := D) (ci := 9) (v := .long w_36) (C := RX9) (T := TX9) (N := 68) hx hb htb iX9 hown hK.1 hP 13 rfl rfl 27 (by decide) (htb _ k_985) (fun _ h9 => h9) rfl dX9_foretold_245 ?_
                  refine lv_ldiv hx hb dX9_foretold_248 nz_38 ?_
                  refine lv_topl (fun z_56 ez_56 => ?_)
                  refine lv_ladd hx hb dX9_foretold_249 ?_
                  refine lv_topl (fun z_57 ez_57 => ?_)
                  refine lv_lstore (lv' := [(8, .long z_57), (6, .long r_42), (0, .ref mh), (1, .int p0), (2, .int p1), (3, .int p2), (4, .int p3), (5, .int p4)]) hx hb dX9_foretold_250 hl (by decide) rfl (fun ls hl => ?_)
                  refine lv_lload hx hb dX9_foretold_252 (lv_at hl 0 rfl) ?_
                  refine lv_ldc2 hx hb hown (htb _ k_1317) dX9_foretold_254 ?_
                  refine W.lcmp hx hb dX9_foretold_257 ?_
                  refine lv_topi (fun z_58 ez_58 => ?_)
                  refine lv_if_gt (tgt := 270) hx hb dX9_foretold_258 (by decide) (fun c_59 => ?_) (fun c_59 => ?_)
                  ·
                    refine lv_ldc hx hb hown (htb _ k_1205) dX9_foretold_270 ?_
                    refine lv_goto (tgt := 278) hx hb dX9_foretold_272 (by decide) ?_
                    have hP9 := hP.sub (ws' := [(mh, .inr (9, G9 ma mcode mtoday moffs w_16 w_21 w_17 w_20 w_24 w_22 w_18 w_23 w_19 w_37 w_36 mrates mtaped mlaid mat mtk mtkAt mtkNumber mwaits mlisted mdealtMany)), ((ma 2), .inl (E 0, 400, .inl mf2)), ((ma 3), .inl (E 0, 16, .inl mf3)), ((ma 4), .inl (E 0, 16, .inl mf4)), ((ma 5), .inl (E 1, 6400, .inl mf5)), ((ma 6), .inl (E 0, 6400, .inl mf6)), ((ma 7), .inl (E 0, 6400, .inl mf7)), ((ma 8), .inl (E 1, 6400, .inl mf8)), ((ma 9), .inl (E 1, 6400, .inl mf9)), ((ma 12), .inl (E 0, 60, .inl mf12)), ((ma 13), .inl (E 0, 60, .inl mf13)), ((ma 14), .inl (E 0, 60, .inl mf14)), ((ma 15), .inl (E 0, 60, .inl mf15)), ((ma 16), .inl (E 0, 60, .inl mf16))]) [13, 0, 1, 2, 3, 4, 5, 6, 7, 8, 9, 10, 11, 12] rfl
                    have hD9 := hD.sub (ws' := [(mh, .inr (9, G9 ma mcode mtoday moffs w_16 w_21 w_17 w_20 w_24 w_22 w_18 w_23 w_19 w_37 w_36 mrates mtaped mlaid mat mtk mtkAt mtkNumber mwaits mlisted mdealtMany)), ((ma 2), .inl (E 0, 400, .inl mf2)), ((ma 3), .inl (E 0, 16, .inl mf3)), ((ma 4), .inl (E 0, 16, .inl mf4)), ((ma 5), .inl (E 1, 6400, .inl mf5)), ((ma 6), .inl (E 0, 6400, .inl mf6)), ((ma 7), .inl (E 0, 6400, .inl mf7)), ((ma 8), .inl (E 1, 6400, .inl mf8)), ((ma 9), .inl (E 1, 6400, .inl mf9)), ((ma 12), .inl (E 0, 60, .inl mf12)), ((ma 13), .inl (E 0, 60, .inl mf13)), ((ma 14), .inl (E 0, 60, .inl mf14)), ((ma 15), .inl (E 0, 60, .inl mf15)), ((ma 16), .inl (E 0, 60, .inl mf16))]) [13, 0, 1, 2, 3, 4, 5, 6, 7, 8, 9, 10, 11, 12] (by decide) rfl
                    exact W.iret (v := (-2000000000)) hx hb hr (fun t ht hW => ⟨⟨(-2000000000), (w_36, w_16, w_17, w_18, w_19, w_20, w_21, w_22, w_23, w_24, w_37), rfl, trivial, by rw [ht]; exact hP9, hD9⟩, hS.F ht⟩) hS.2.2 dX9_foretold_278
                  ·
                    refine lv_lload hx hb dX9_foretold_261 (lv_at hl 0 rfl) ?_
                    refine lv_ldc2 hx hb hown (htb _ k_1281) dX9_foretold_263 ?_
                    refine W.lcmp hx hb dX9_foretold_266 ?_
                    refine lv_topi (fun z_62 ez_62 => ?_)
                    refine lv_if_ge (tgt := 275) hx hb dX9_foretold_267 (by decide) (fun c_63 => ?_) (fun c_63 => ?_)
                    ·
                      refine lv_lload hx hb dX9_foretold_275 (lv_at hl 0 rfl) ?_
                      obtain ⟨z_65, ez_65⟩ : ∃ y : Int32, (z_57 : Int64).toInt32 = y := ⟨_, rfl⟩
                      refine lv_l2i hx hb dX9_foretold_277 ez_65 ?_
                      have hP9 := hP.sub (ws' := [(mh, .inr (9, G9 ma mcode mtoday moffs w_16 w_21 w_17 w_20 w_24 w_22 w_18 w_23 w_19 w_37 w_36 mrates mtaped mlaid mat mtk mtkAt mtkNumber mwaits mlisted mdealtMany)), ((ma 2), .inl (E 0, 400, .inl mf2)), ((ma 3), .inl (E 0, 16, .inl mf3)), ((ma 4), .inl (E 0, 16, .inl mf4)), ((ma 5), .inl (E 1, 6400, .inl mf5)), ((ma 6), .inl (E 0, 6400, .inl mf6)), ((ma 7), .inl (E 0, 6400, .inl mf7)), ((ma 8), .inl (E 1, 6400, .inl mf8)), ((ma 9), .inl (E 1, 6400, .inl mf9)), ((ma 12), .inl (E 0, 60, .inl mf12)), ((ma 13), .inl (E 0, 60, .inl mf13)), ((ma 14), .inl (E 0, 60, .inl mf14)), ((ma 15), .inl (E 0, 60, .inl mf15)), ((ma 16), .inl (E 0, 60, .inl mf16))]) [13, 0, 1, 2, 3, 4, 5, 6, 7, 8, 9, 10, 11, 12] rfl
                      have hD9 := hD.sub (ws' := [(mh, .inr (9, G9 ma mcode mtoday moffs w_16 w_21 w_17 w_20 w_24 w_22 w_18 w_23 w_19 w_37 w_36 mrates mtaped mlaid mat mtk mtkAt mtkNumber mwaits mlisted mdealtMany)), ((ma 2), .inl (E 0, 400, .inl mf2)), ((ma 3), .inl (E 0, 16, .inl mf3)), ((ma 4), .inl (E 0, 16, .inl mf4)), ((ma 5), .inl (E 1, 6400, .inl mf5)), ((ma 6), .inl (E 0, 6400, .inl mf6)), ((ma 7), .inl (E 0, 6400, .inl mf7)), ((ma 8), .inl (E 1, 6400, .inl mf8)), ((ma 9), .inl (E 1, 6400, .inl mf9)), ((ma 12), .inl (E 0, 60, .inl mf12)), ((ma 13), .inl (E 0, 60, .inl mf13)), ((ma 14), .inl (E 0, 60, .inl mf14)), ((ma 15), .inl (E 0, 60, .inl mf15)), ((ma 16), .inl (E 0, 60, .inl mf16))]) [13, 0, 1, 2, 3, 4, 5, 6, 7, 8, 9, 10, 11, 12] (by decide) rfl
                      exact W.iret (v := z_65) hx hb hr (fun t ht hW => ⟨⟨z_65, (w_36, w_16, w_17, w_18, w_19, w_20, w_21, w_22, w_23, w_24, w_37), rfl, trivial, by rw [ht]; exact hP9, hD9⟩, hS.F ht⟩) hS.2.2 dX9_foretold_278
                    ·
                      refine lv_ldc hx hb hown (htb _ k_1205) dX9_foretold_270 ?_
                      refine lv_goto (tgt := 278) hx hb dX9_foretold_272 (by decide) ?_
                      have hP9 := hP.sub (ws' := [(mh, .inr (9, G9 ma mcode mtoday moffs w_16 w_21 w_17 w_20 w_24 w_22 w_18 w_23 w_19 w_37 w_36 mrates mtaped mlaid mat mtk mtkAt mtkNumber mwaits mlisted mdealtMany)), ((ma 2), .inl (E 0, 400, .inl mf2)), ((ma 3), .inl (E 0, 16, .inl mf3)), ((ma 4), .inl (E 0, 16, .inl mf4)), ((ma 5), .inl (E 1, 6400, .inl mf5)), ((ma 6), .inl (E 0, 6400, .inl mf6)), ((ma 7), .inl (E 0, 6400, .inl mf7)), ((ma 8), .inl (E 1, 6400, .inl mf8)), ((ma 9), .inl (E 1, 6400, .inl mf9)), ((ma 12), .inl (E 0, 60, .inl mf12)), ((ma 13), .inl (E 0, 60, .inl mf13)), ((ma 14), .inl (E 0, 60, .inl mf14)), ((ma 15), .inl (E 0, 60, .inl mf15)), ((ma 16), .inl (E 0, 60, .inl mf16))]) [13, 0, 1, 2, 3, 4, 5, 6, 7, 8, 9, 10, 11, 12] rfl
                      have hD9 := hD.sub (ws' := [(mh, .inr (9, G9 ma mcode mtoday moffs w_16 w_21 w_17 w_20 w_24 w_22 w_18 w_23 w_19 w_37 w_36 mrates mtaped mlaid mat mtk mtkAt mtkNumber mwaits mlisted mdealtMany)), ((ma 2), .inl (E 0, 400, .inl mf2)), ((ma 3), .inl (E 0, 16, .inl mf3)), ((ma 4), .inl (E 0, 16, .inl mf4)), ((ma 5), .inl (E 1, 6400, .inl mf5)), ((ma 6), .inl (E 0, 6400, .inl mf6)), ((ma 7), .inl (E 0, 6400, .inl mf7)), ((ma 8), .inl (E 1, 6400, .inl mf8)), ((ma 9), .inl (E 1, 6400, .inl mf9)), ((ma 12), .inl (E 0, 60, .inl mf12)), ((ma 13), .inl (E 0, 60, .inl mf13)), ((ma 14), .inl (E 0, 60, .inl mf14)), ((ma 15), .inl (E 0, 60, .inl mf15)), ((ma 16), .inl (E 0, 60, .inl mf16))]) [13, 0, 1, 2, 3, 4, 5, 6, 7, 8, 9, 10, 11, 12] (by decide) rfl
                      exact W.iret (v := (-2000000000)) hx hb hr (fun t ht hW => ⟨⟨(-2000000000), (w_36, w_16, w_17, w_18, w_19, w_20, w_21, w_22, w_23, w_24, w_37), rfl, trivial, by rw [ht]; exact hP9, hD9⟩, hS.F ht⟩) hS.2.2 dX9_foretold_278
                ·
                  refine lv_ldc hx hb hown (htb _ k_1205) dX9_foretold_219 ?_
                  have hP9 := hP.sub (ws' := [(mh, .inr (9, G9 ma mcode mtoday moffs w_16 w_21 w_17 w_20 w_24 w_22 w_18 w_23 w_19 w_37 w_36 mrates mtaped mlaid mat mtk mtkAt mtkNumber mwaits mlisted mdealtMany)), ((ma 2), .inl (E 0, 400, .inl mf2)), ((ma 3), .inl (E 0, 16, .inl mf3)), ((ma 4), .inl (E 0, 16, .inl mf4)), ((ma 5), .inl (E 1, 6400, .inl mf5)), ((ma 6), .inl (E 0, 6400, .inl mf6)), ((ma 7), .inl (E 0, 6400, .inl mf7)), ((ma 8), .inl (E 1, 6400, .inl mf8)), ((ma 9), .inl (E 1, 6400, .inl mf9)), ((ma 12), .inl (E 0, 60, .inl mf12)), ((ma 13), .inl (E 0, 60, .inl mf13)), ((ma 14), .inl (E 0, 60, .inl mf14)), ((ma 15), .inl (E 0, 60, .inl mf15)), ((ma 16), .inl (E 0, 60, .inl mf16))]) [13, 0, 1, 2, 3, 4, 5, 6, 7, 8, 9, 10, 11, 12] rfl
                  have hD9 := hD.sub (ws' := [(mh, .inr (9, G9 ma mcode mtoday moffs w_16 w_21 w_17 w_20 w_24 w_22 w_18 w_23 w_19 w_37 w_36 mrates mtaped mlaid mat mtk mtkAt mtkNumber mwaits mlisted mdealtMany)), ((ma 2), .inl (E 0, 400, .inl mf2)), ((ma 3), .inl (E 0, 16, .inl mf3)), ((ma 4), .inl (E 0, 16, .inl mf4)), ((ma 5), .inl (E 1, 6400, .inl mf5)), ((ma 6), .inl (E 0, 6400, .inl mf6)), ((ma 7), .inl (E 0, 6400, .inl mf7)), ((ma 8), .inl (E 1, 6400, .inl mf8)), ((ma 9), .inl (E 1, 6400, .inl mf9)), ((ma 12), .inl (E 0, 60, .inl mf12)), ((ma 13), .inl (E 0, 60, .inl mf13)), ((ma 14), .inl (E 0, 60, .inl mf14)), ((ma 15), .inl (E 0, 60, .inl mf15)), ((ma 16), .inl (E 0, 60, .inl mf16))]) [13, 0, 1, 2, 3, 4, 5, 6, 7, 8, 9, 10, 11, 12] (by decide) rfl
                  exact W.iret (v := (-2000000000)) hx hb hr (fun t ht hW => ⟨⟨(-2000000000), (w_36, w_16, w_17, w_18, w_19, w_20, w_21, w_22, w_23, w_24, w_37), rfl, trivial, by rw [ht]; exact hP9, hD9⟩, hS.F ht⟩) hS.2.2 dX9_foretold_221
            ·
              refine lv_aload_n hx hb dX9_foretold_170 rfl (lv_at hl 0 rfl) ?_
              refine lv_aload_n hx hb dX9_foretold_171 rfl (lv_at hl 0 rfl) ?_
              refine va_get (D := D) (ci := 9) (v := .long w_36) (C := RX9) (T := TX9) (N := 68) hx hb htb iX9 hown hK.1 hP 13 rfl rfl 27 (by decide) (htb _ k_985) (fun _ h9 => h9) rfl dX9_foretold_172 ?_
              refine lv_lneg hx hb dX9_foretold_175 ?_
              refine lv_topl (fun z_69 ez_69 => ?_)
              have nz_69 : ¬ z_69 = 0 := neg_nz ez_69 nz_38
              refine va_put (D := D) (ci := 9) (v := .long z_69) (ty := .long) (C := RX9) (T := TX9) (N := 68) hx hb htb iX9 tyX9 tyX9_ok nmX9 hown hK.1 hP hD hS 13 rfl rfl 27 (by decide) (htb _ k_985) (fun _ h9 => h9) rfl (by decide +kernel) rfl rfl (Nat.le_of_ble_eq_true rfl) dX9_foretold_176 (fun H locs hP hD hS => ?_)
              have hP : va_P D vwCl [((ma 2), .inl (E 0, 400, .inl mf2)), ((ma 3), .inl (E 0, 16, .inl mf3)), ((ma 4), .inl (E 0, 16, .inl mf4)), ((ma 5), .inl (E 1, 6400, .inl mf5)), ((ma 6), .inl (E 0, 6400, .inl mf6)), ((ma 7), .inl (E 0, 6400, .inl mf7)), ((ma 8), .inl (E 1, 6400, .inl mf8)), ((ma 9), .inl (E 1, 6400, .inl mf9)), ((ma 12), .inl (E 0, 60, .inl mf12)), ((ma 13), .inl (E 0, 60, .inl mf13)), ((ma 14), .inl (E 0, 60, .inl mf14)), ((ma 15), .inl (E 0, 60, .inl mf15)), ((ma 16), .inl (E 0, 60, .inl mf16)), (mh, .inr (9, G9 ma mcode mtoday moffs w_16 w_21 w_17 w_20 w_24 w_22 w_18 w_23 w_19 w_37 z_69 mrates mtaped mlaid mat mtk mtkAt mtkNumber mwaits mlisted mdealtMany))] H := hP
              have hD := toW hP hD rfl
              refine lv_aload_n hx hb dX9_foretold_179 rfl (lv_at hl 0 rfl) ?_
              refine lv_aload_n hx hb dX9_foretold_180 rfl (lv_at hl 0 rfl) ?_
              refine va_get (D := D) (ci := 9) (v := .long w_37) (C := RX9) (T := TX9) (N := 68) hx hb htb iX9 hown hK.1 hP 13 rfl rfl 26 (by decide) (htb _ k_984) (fun _ h9 => h9) rfl dX9_foretold_181 ?_
              refine lv_lneg hx hb dX9_foretold_184 ?_
              refine lv_topl (fun z_70 ez_70 => ?_)
              refine va_put (D := D) (ci := 9) (v := .long z_70) (ty := .long) (C := RX9) (T := TX9) (N := 68) hx hb htb iX9 tyX9 tyX9_ok nmX9 hown hK.1 hP hD hS 13 rfl rfl 26 (by decide) (htb _ k_984) (fun _ h9 => h9) rfl (by decide +kernel) rfl rfl (Nat.le_of_ble_eq_true rfl) dX9_foretold_185 (fun H locs hP hD hS => ?_)
              have hP : va_P D vwCl [((ma 2), .inl (E 0, 400, .inl mf2)), ((ma 3), .inl (E 0, 16, .inl mf3)), ((ma 4), .inl (E 0, 16, .inl mf4)), ((ma 5), .inl (E 1, 6400, .inl mf5)), ((ma 6), .inl (E 0, 6400, .inl mf6)), ((ma 7), .inl (E 0, 6400, .inl mf7)), ((ma 8), .inl (E 1, 6400, .inl mf8)), ((ma 9), .inl (E 1, 6400, .inl mf9)), ((ma 12), .inl (E 0, 60, .inl mf12)), ((ma 13), .inl (E 0, 60, .inl mf13)), ((ma 14), .inl (E 0, 60, .inl mf14)), ((ma 15), .inl (E 0, 60, .inl mf15)), ((ma 16), .inl (E 0, 60, .inl mf16)), (mh, .inr (9, G9 ma mcode mtoday moffs w_16 w_21 w_17 w_20 w_24 w_22 w_18 w_23 w_19 z_70 z_69 mrates mtaped mlaid mat mtk mtkAt mtkNumber mwaits mlisted mdealtMany))] H := hP
              have hD := toW hP hD rfl
              refine lv_aload_n hx hb dX9_foretold_188 rfl (lv_at hl 0 rfl) ?_
              refine va_get (D := D) (ci := 9) (v := .long z_70) (C := RX9) (T := TX9) (N := 68) hx hb htb iX9 hown hK.1 hP 13 rfl rfl 26 (by decide) (htb _ k_984) (fun _ h9 => h9) rfl dX9_foretold_189 ?_
              refine lv_aload_n hx hb dX9_foretold_192 rfl (lv_at hl 0 rfl) ?_
              refine va_get (D := D) (ci := 9) (v := .long z_69) (C := RX9) (T := TX9) (N := 68) hx hb htb iX9 hown hK.1 hP 13 rfl rfl 27 (by decide) (htb _ k_985) (fun _ h9 => h9) rfl dX9_foretold_193 ?_
              refine callLS (rest := []) (As := [.long z_70, .long z_69]) hx hb hml hown htb hK (g_X9_floor l D E z_70 z_69 nz_69) ok_X9_floor k_1311 k_1312 k_9 k_1313 ⟨(Nat.le_of_ble_eq_true rfl), (Nat.le_of_ble_eq_true rfl)⟩ ⟨(Nat.le_of_ble_eq_true rfl), (Nat.le_of_ble_eq_true rfl)⟩ hl.1 (Nat.le_of_ble_eq_true rfl) rfl rfl dX9_foretold_196 (hP.sub (ws' := ([] : va_W)) [] rfl) (fun r_71 hw_72 => ?_)
              refine lv_lstore (lv' := [(6, .long r_71), (0, .ref mh), (1, .int p0), (2, .int p1), (3, .int p2), (4, .int p3), (5, .int p4)]) hx hb dX9_foretold_199 hl (by decide) rfl (fun ls hl => ?_)
              refine lv_lload hx hb dX9_foretold_201 (lv_at hl 0 rfl) ?_
              refine lv_ldc2 hx hb hown (htb _ k_1314) dX9_foretold_203 ?_
              refine W.lcmp hx hb dX9_foretold_206 ?_
              refine lv_topi (fun z_74 ez_74 => ?_)
              refine lv_if_gt (tgt := 219) hx hb dX9_foretold_207 (by decide) (fun c_75 => ?_) (fun c_75 => ?_)
              ·
                refine lv_ldc hx hb hown (htb _ k_1205) dX9_foretold_219 ?_
                have hP9 := hP.sub (ws' := [(mh, .inr (9, G9 ma mcode mtoday moffs w_16 w_21 w_17 w_20 w_24 w_22 w_18 w_23 w_19 z_70 z_69 mrates mtaped mlaid mat mtk mtkAt mtkNumber mwaits mlisted mdealtMany)), ((ma 2), .inl (E 0, 400, .inl mf2)), ((ma 3), .inl (E 0, 16, .inl mf3)), ((ma 4), .inl (E 0, 16, .inl mf4)), ((ma 5), .inl (E 1, 6400, .inl mf5)), ((ma 6), .inl (E 0, 6400, .inl mf6)), ((ma 7), .inl (E 0, 6400, .inl mf7)), ((ma 8), .inl (E 1, 6400, .inl mf8)), ((ma 9), .inl (E 1, 6400, .inl mf9)), ((ma 12), .inl (E 0, 60, .inl mf12)), ((ma 13), .inl (E 0, 60, .inl mf13)), ((ma 14), .inl (E 0, 60, .inl mf14)), ((ma 15), .inl (E 0, 60, .inl mf15)), ((ma 16), .inl (E 0, 60, .inl mf16))]) [13, 0, 1, 2, 3, 4, 5, 6, 7, 8, 9, 10, 11, 12] rfl
                have hD9 := hD.sub (ws' := [(mh, .inr (9, G9 ma mcode mtoday moffs w_16 w_21 w_17 w_20 w_24 w_22 w_18 w_23 w_19 z_70 z_69 mrates mtaped mlaid mat mtk mtkAt mtkNumber mwaits mlisted mdealtMany)), ((ma 2), .inl (E 0, 400, .inl mf2)), ((ma 3), .inl (E 0, 16, .inl mf3)), ((ma 4), .inl (E 0, 16, .inl mf4)), ((ma 5), .inl (E 1, 6400, .inl mf5)), ((ma 6), .inl (E 0, 6400, .inl mf6)), ((ma 7), .inl (E 0, 6400, .inl mf7)), ((ma 8), .inl (E 1, 6400, .inl mf8)), ((ma 9), .inl (E 1, 6400, .inl mf9)), ((ma 12), .inl (E 0, 60, .inl mf12)), ((ma 13), .inl (E 0, 60, .inl mf13)), ((ma 14), .inl (E 0, 60, .inl mf14)), ((ma 15), .inl (E 0, 60, .inl mf15)), ((ma 16), .inl (E 0, 60, .inl mf16))]) [13, 0, 1, 2, 3, 4, 5, 6, 7, 8, 9, 10, 11, 12] (by decide) rfl
                exact W.iret (v := (-2000000000)) hx hb hr (fun t ht hW => ⟨⟨(-2000000000), (z_69, w_16, w_17, w_18, w_19, w_20, w_21, w_22, w_23, w_24, z_70), rfl, trivial, by rw [ht]; exact hP9, hD9⟩, hS.F ht⟩) hS.2.2 dX9_foretold_221
              ·
                refine lv_lload hx hb dX9_foretold_210 (lv_at hl 0 rfl) ?_
                refine lv_ldc2 hx hb hown (htb _ k_1315) dX9_foretold_212 ?_
                refine W.lcmp hx hb dX9_foretold_215 ?_
                refine lv_topi (fun z_78 ez_78 => ?_)
                refine lv_if_ge (tgt := 222) hx hb dX9_foretold_216 (by decide) (fun c_79 => ?_) (fun c_79 => ?_)
                ·
                  refine lv_ldc2 hx hb hown (htb _ k_1316) dX9_foretold_222 ?_
                  refine lv_lload hx hb dX9_foretold_225 (lv_at hl 0 rfl) ?_
                  refine lv_lmul hx hb dX9_foretold_227 ?_
                  refine lv_topl (fun z_81 ez_81 => ?_)
                  refine lv_ldc2 hx hb hown (htb _ k_1316) dX9_foretold_228 ?_
                  refine lv_aload_n hx hb dX9_foretold_231 rfl (lv_at hl 1 rfl) ?_
                  refine va_get (D := D) (ci := 9) (v := .long z_70) (C := RX9) (T := TX9) (N := 68) hx hb htb iX9 hown hK.1 hP 13 rfl rfl 26 (by decide) (htb _ k_984) (fun _ h9 => h9) rfl dX9_foretold_232 ?_
                  refine lv_lload hx hb dX9_foretold_235 (lv_at hl 0 rfl) ?_
                  refine lv_aload_n hx hb dX9_foretold_237 rfl (lv_at hl 1 rfl) ?_
                  refine va_get (D := D) (ci := 9) (v := .long z_69) (C := RX9) (T := TX9) (N := 68) hx hb htb iX9 hown hK.1 hP 13 rfl rfl 27 (by decide) (htb _ k_985) (fun _ h9 => h9) rfl dX9_foretold_238 ?_
                  refine lv_lmul hx hb dX9_foretold_241 ?_
                  refine lv_topl (fun z_82 ez_82 => ?_)
                  refine lv_lsub hx hb dX9_foretold_242 ?_
                  refine lv_topl (fun z_83 ez_83 => ?_)
                  refine lv_lmul hx hb dX9_foretold_243 ?_
                  refine lv_topl (fun z_84 ez_84 => ?_)
                  refine lv_aload_n hx hb dX9_foretold_244 rfl (lv_at hl 1 rfl) ?_
                  refine va_get (D := D) (ci := 9) (v := .long z_69) (C := RX9) (T := TX9) (N := 68) hx hb htb iX9 hown hK.1 hP 13 rfl rfl 27 (by decide) (htb _ k_985) (fun _ h9 => h9) rfl dX9_foretold_245 ?_
                  refine lv_ldiv hx hb dX9_foretold_248 nz_69 ?_
                  refine lv_topl (fun z_85 ez_85 => ?_)
                  refine lv_ladd hx hb dX9_foretold_249 ?_
                  refine lv_topl (fun z_86 ez_86 => ?_)
                  refine lv_lstore (lv' := [(8, .long z_86), (6, .long r_71), (0, .ref mh), (1, .int p0), (2, .int p1), (3, .int p2), (4, .int p3), (5, .int p4)]) hx hb dX9_foretold_250 hl (by decide) rfl (fun ls hl => ?_)
                  refine lv_lload hx hb dX9_foretold_252 (lv_at hl 0 rfl) ?_
                  refine lv_ldc2 hx hb hown (htb _ k_1317) dX9_foretold_254 ?_
                  refine W.lcmp hx hb dX9_foretold_257 ?_
                  refine lv_topi (fun z_87 ez_87 => ?_)
                  refine lv_if_gt (tgt := 270) hx hb dX9_foretold_258 (by decide) (fun c_88 => ?_) (fun c_88 => ?_)
                  ·
                    refine lv_ldc hx hb hown (htb _ k_1205) dX9_foretold_270 ?_
                    refine lv_goto (tgt := 278) hx hb dX9_foretold_272 (by decide) ?_
                    have hP9 := hP.sub (ws' := [(mh, .inr (9, G9 ma mcode mtoday moffs w_16 w_21 w_17 w_20 w_24 w_22 w_18 w_23 w_19 z_70 z_69 mrates mtaped mlaid mat mtk mtkAt mtkNumber mwaits mlisted mdealtMany)), ((ma 2), .inl (E 0, 400, .inl mf2)), ((ma 3), .inl (E 0, 16, .inl mf3)), ((ma 4), .inl (E 0, 16, .inl mf4)), ((ma 5), .inl (E 1, 6400, .inl mf5)), ((ma 6), .inl (E 0, 6400, .inl mf6)), ((ma 7), .inl (E 0, 6400, .inl mf7)), ((ma 8), .inl (E 1, 6400, .inl mf8)), ((ma 9), .inl (E 1, 6400, .inl mf9)), ((ma 12), .inl (E 0, 60, .inl mf12)), ((ma 13), .inl (E 0, 60, .inl mf13)), ((ma 14), .inl (E 0, 60, .inl mf14)), ((ma 15), .inl (E 0, 60, .inl mf15)), ((ma 16), .inl (E 0, 60, .inl mf16))]) [13, 0, 1, 2, 3, 4, 5, 6, 7, 8, 9, 10, 11, 12] rfl
                    have hD9 := hD.sub (ws' := [(mh, .inr (9, G9 ma mcode mtoday moffs w_16 w_21 w_17 w_20 w_24 w_22 w_18 w_23 w_19 z_70 z_69 mrates mtaped mlaid mat mtk mtkAt mtkNumber mwaits mlisted mdealtMany)), ((ma 2), .inl (E 0, 400, .inl mf2)), ((ma 3), .inl (E 0, 16, .inl mf3)), ((ma 4), .inl (E 0, 16, .inl mf4)), ((ma 5), .inl (E 1, 6400, .inl mf5)), ((ma 6), .inl (E 0, 6400, .inl mf6)), ((ma 7), .inl (E 0, 6400, .inl mf7)), ((ma 8), .inl (E 1, 6400, .inl mf8)), ((ma 9), .inl (E 1, 6400, .inl mf9)), ((ma 12), .inl (E 0, 60, .inl mf12)), ((ma 13), .inl (E 0, 60, .inl mf13)), ((ma 14), .inl (E 0, 60, .inl mf14)), ((ma 15), .inl (E 0, 60, .inl mf15)), ((ma 16), .inl (E 0, 60, .inl mf16))]) [13, 0, 1, 2, 3, 4, 5, 6, 7, 8, 9, 10, 11, 12] (by decide) rfl
                    exact W.iret (v := (-2000000000)) hx hb hr (fun t ht hW => ⟨⟨(-2000000000), (z_69, w_16, w_17, w_18, w_19, w_20, w_21, w_22, w_23, w_24, z_70), rfl, trivial, by rw [ht]; exact hP9, hD9⟩, hS.F ht⟩) hS.2.2 dX9_foretold_278
                  ·
                    refine lv_lload hx hb dX9_foretold_261 (lv_at hl 0 rfl) ?_
                    refine lv_ldc2 hx hb hown (htb _ k_1281) dX9_foretold_263 ?_
                    refine W.lcmp hx hb dX9_foretold_266 ?_
                    refine lv_topi (fun z_91 ez_91 => ?_)
                    refine lv_if_ge (tgt := 275) hx hb dX9_foretold_267 (by decide) (fun c_92 => ?_) (fun c_92 => ?_)
                    ·
                      refine lv_lload hx hb dX9_foretold_275 (lv_at hl 0 rfl) ?_
                      obtain ⟨z_94, ez_94⟩ : ∃ y : Int32, (z_86 : Int64).toInt32 = y := ⟨_, rfl⟩
                      refine lv_l2i hx hb dX9_foretold_277 ez_94 ?_
                      have hP9 := hP.sub (ws' := [(mh, .inr (9, G9 ma mcode mtoday moffs w_16 w_21 w_17 w_20 w_24 w_22 w_18 w_23 w_19 z_70 z_69 mrates mtaped mlaid mat mtk mtkAt mtkNumber mwaits mlisted mdealtMany)), ((ma 2), .inl (E 0, 400, .inl mf2)), ((ma 3), .inl (E 0, 16, .inl mf3)), ((ma 4), .inl (E 0, 16, .inl mf4)), ((ma 5), .inl (E 1, 6400, .inl mf5)), ((ma 6), .inl (E 0, 6400, .inl mf6)), ((ma 7), .inl (E 0, 6400, .inl mf7)), ((ma 8), .inl (E 1, 6400, .inl mf8)), ((ma 9), .inl (E 1, 6400, .inl mf9)), ((ma 12), .inl (E 0, 60, .inl mf12)), ((ma 13), .inl (E 0, 60, .inl mf13)), ((ma 14), .inl (E 0, 60, .inl mf14)), ((ma 15), .inl (E 0, 60, .inl mf15)), ((ma 16), .inl (E 0, 60, .inl mf16))]) [13, 0, 1, 2, 3, 4, 5, 6, 7, 8, 9, 10, 11, 12] rfl
                      have hD9 := hD.sub (ws' := [(mh, .inr (9, G9 ma mcode mtoday moffs w_16 w_21 w_17 w_20 w_24 w_22 w_18 w_23 w_19 z_70 z_69 mrates mtaped mlaid mat mtk mtkAt mtkNumber mwaits mlisted mdealtMany)), ((ma 2), .inl (E 0, 400, .inl mf2)), ((ma 3), .inl (E 0, 16, .inl mf3)), ((ma 4), .inl (E 0, 16, .inl mf4)), ((ma 5), .inl (E 1, 6400, .inl mf5)), ((ma 6), .inl (E 0, 6400, .inl mf6)), ((ma 7), .inl (E 0, 6400, .inl mf7)), ((ma 8), .inl (E 1, 6400, .inl mf8)), ((ma 9), .inl (E 1, 6400, .inl mf9)), ((ma 12), .inl (E 0, 60, .inl mf12)), ((ma 13), .inl (E 0, 60, .inl mf13)), ((ma 14), .inl (E 0, 60, .inl mf14)), ((ma 15), .inl (E 0, 60, .inl mf15)), ((ma 16), .inl (E 0, 60, .inl mf16))]) [13, 0, 1, 2, 3, 4, 5, 6, 7, 8, 9, 10, 11, 12] (by decide) rfl
                      exact W.iret (v := z_94) hx hb hr (fun t ht hW => ⟨⟨z_94, (z_69, w_16, w_17, w_18, w_19, w_20, w_21, w_22, w_23, w_24, z_70), rfl, trivial, by rw [ht]; exact hP9, hD9⟩, hS.F ht⟩) hS.2.2 dX9_foretold_278
                    ·
                      refine lv_ldc hx hb hown (htb _ k_1205) dX9_foretold_270 ?_
                      refine lv_goto (tgt := 278) hx hb dX9_foretold_272 (by decide) ?_
                      have hP9 := hP.sub (ws' := [(mh, .inr (9, G9 ma mcode mtoday moffs w_16 w_21 w_17 w_20 w_24 w_22 w_18 w_23 w_19 z_70 z_69 mrates mtaped mlaid mat mtk mtkAt mtkNumber mwaits mlisted mdealtMany)), ((ma 2), .inl (E 0, 400, .inl mf2)), ((ma 3), .inl (E 0, 16, .inl mf3)), ((ma 4), .inl (E 0, 16, .inl mf4)), ((ma 5), .inl (E 1, 6400, .inl mf5)), ((ma 6), .inl (E 0, 6400, .inl mf6)), ((ma 7), .inl (E 0, 6400, .inl mf7)), ((ma 8), .inl (E 1, 6400, .inl mf8)), ((ma 9), .inl (E 1, 6400, .inl mf9)), ((ma 12), .inl (E 0, 60, .inl mf12)), ((ma 13), .inl (E 0, 60, .inl mf13)), ((ma 14), .inl (E 0, 60, .inl mf14)), ((ma 15), .inl (E 0, 60, .inl mf15)), ((ma 16), .inl (E 0, 60, .inl mf16))]) [13, 0, 1, 2, 3, 4, 5, 6, 7, 8, 9, 10, 11, 12] rfl
                      have hD9 := hD.sub (ws' := [(mh, .inr (9, G9 ma mcode mtoday moffs w_16 w_21 w_17 w_20 w_24 w_22 w_18 w_23 w_19 z_70 z_69 mrates mtaped mlaid mat mtk mtkAt mtkNumber mwaits mlisted mdealtMany)), ((ma 2), .inl (E 0, 400, .inl mf2)), ((ma 3), .inl (E 0, 16, .inl mf3)), ((ma 4), .inl (E 0, 16, .inl mf4)), ((ma 5), .inl (E 1, 6400, .inl mf5)), ((ma 6), .inl (E 0, 6400, .inl mf6)), ((ma 7), .inl (E 0, 6400, .inl mf7)), ((ma 8), .inl (E 1, 6400, .inl mf8)), ((ma 9), .inl (E 1, 6400, .inl mf9)), ((ma 12), .inl (E 0, 60, .inl mf12)), ((ma 13), .inl (E 0, 60, .inl mf13)), ((ma 14), .inl (E 0, 60, .inl mf14)), ((ma 15), .inl (E 0, 60, .inl mf15)), ((ma 16), .inl (E 0, 60, .inl mf16))]) [13, 0, 1, 2, 3, 4, 5, 6, 7, 8, 9, 10, 11, 12] (by decide) rfl
                      exact W.iret (v := (-2000000000)) hx hb hr (fun t ht hW => ⟨⟨(-2000000000), (z_69, w_16, w_17, w_18, w_19, w_20, w_21, w_22, w_23, w_24, z_70), rfl, trivial, by rw [ht]; exact hP9, hD9⟩, hS.F ht⟩) hS.2.2 dX9_foretold_278
                ·
                  refine lv_ldc hx hb hown (htb _ k_1205) dX9_foretold_219 ?_
                  have hP9 := hP.sub (ws' := [(mh, .inr (9, G9 ma mcode mtoday moffs w_16 w_21 w_17 w_20 w_24 w_22 w_18 w_23 w_19 z_70 z_69 mrates mtaped mlaid mat mtk mtkAt mtkNumber mwaits mlisted mdealtMany)), ((ma 2), .inl (E 0, 400, .inl mf2)), ((ma 3), .inl (E 0, 16, .inl mf3)), ((ma 4), .inl (E 0, 16, .inl mf4)), ((ma 5), .inl (E 1, 6400, .inl mf5)), ((ma 6), .inl (E 0, 6400, .inl mf6)), ((ma 7), .inl (E 0, 6400, .inl mf7)), ((ma 8), .inl (E 1, 6400, .inl mf8)), ((ma 9), .inl (E 1, 6400, .inl mf9)), ((ma 12), .inl (E 0, 60, .inl mf12)), ((ma 13), .inl (E 0, 60, .inl mf13)), ((ma 14), .inl (E 0, 60, .inl mf14)), ((ma 15), .inl (E 0, 60, .inl mf15)), ((ma 16), .inl (E 0, 60, .inl mf16))]) [13, 0, 1, 2, 3, 4, 5, 6, 7, 8, 9, 10, 11, 12] rfl
                  have hD9 := hD.sub (ws' := [(mh, .inr (9, G9 ma mcode mtoday moffs w_16 w_21 w_17 w_20 w_24 w_22 w_18 w_23 w_19 z_70 z_69 mrates mtaped mlaid mat mtk mtkAt mtkNumber mwaits mlisted mdealtMany)), ((ma 2), .inl (E 0, 400, .inl mf2)), ((ma 3), .inl (E 0, 16, .inl mf3)), ((ma 4), .inl (E 0, 16, .inl mf4)), ((ma 5), .inl (E 1, 6400, .inl mf5)), ((ma 6), .inl (E 0, 6400, .inl mf6)), ((ma 7), .inl (E 0, 6400, .inl mf7)), ((ma 8), .inl (E 1, 6400, .inl mf8)), ((ma 9), .inl (E 1, 6400, .inl mf9)), ((ma 12), .inl (E 0, 60, .inl mf12)), ((ma 13), .inl (E 0, 60, .inl mf13)), ((ma 14), .inl (E 0, 60, .inl mf14)), ((ma 15), .inl (E 0, 60, .inl mf15)), ((ma 16), .inl (E 0, 60, .inl mf16))]) [13, 0, 1, 2, 3, 4, 5, 6, 7, 8, 9, 10, 11, 12] (by decide) rfl
                  exact W.iret (v := (-2000000000)) hx hb hr (fun t ht hW => ⟨⟨(-2000000000), (z_69, w_16, w_17, w_18, w_19, w_20, w_21, w_22, w_23, w_24, z_70), rfl, trivial, by rw [ht]; exact hP9, hD9⟩, hS.F ht⟩) hS.2.2 dX9_foretold_221
          ·
            refine W_top (y := .int 2) (by rw [hr_28]) ?_
            refine lv_tableIn (x := 2) (off := 41) (tgt := 101) hx hb dX9_foretold_60 (by decide) (by decide) (by decide) (by decide) ?_
            refine lv_aload_n hx hb dX9_foretold_101 rfl (lv_at hl 0 rfl) ?_
            refine lv_aload_n hx hb dX9_foretold_102 rfl (lv_at hl 0 rfl) ?_
            refine va_get (D := D) (ci := 9) (v := .long w_21) (C := RX9) (T := TX9) (N := 68) hx hb htb iX9 hown hK.1 hP 0 rfl rfl 18 (by decide) (htb _ k_976) (fun _ h9 => h9) rfl dX9_foretold_103 ?_
            refine lv_aload_n hx hb dX9_foretold_106 rfl (lv_at hl 0 rfl) ?_
            refine va_get (D := D) (ci := 9) (v := .long w_24) (C := RX9) (T := TX9) (N := 68) hx hb htb iX9 hown hK.1 hP 0 rfl rfl 21 (by decide) (htb _ k_979) (fun _ h9 => h9) rfl dX9_foretold_107 ?_
            refine lv_aload_n hx hb dX9_foretold_110 rfl (lv_at hl 0 rfl) ?_
            refine va_get (D := D) (ci := 9) (v := .long w_23) (C := RX9) (T := TX9) (N := 68) hx hb htb iX9 hown hK.1 hP 0 rfl rfl 24 (by decide) (htb _ k_982) (fun _ h9 => h9) rfl dX9_foretold_111 ?_
            refine lv_iload hx hb dX9_foretold_114 (lv_at hl 4 rfl) ?_
            obtain ⟨z_97, ez_97⟩ : ∃ y : Int64, (p3 : Int32).toInt64 = y := ⟨_, rfl⟩
            refine lv_i2l hx hb dX9_foretold_116 ez_97 ?_
            have hPc := hP.sub (ws' := [(mh, .inr (9, G9 ma mcode mtoday moffs w_16 w_21 w_17 w_20 w_24 w_22 w_18 w_23 w_19 mupper mlower mrates mtaped mlaid mat mtk mtkAt mtkNumber mwaits mlisted mdealtMany))]) [0] rfl
            have hDc := hD.sub (ws' := [(mh, .inr (9, G9 ma mcode mtoday moffs w_16 w_21 w_17 w_20 w_24 w_22 w_18 w_23 w_19 mupper mlower mrates mtaped mlaid mat mtk mtkAt mtkNumber mwaits mlisted mdealtMany))]) [0] (by decide) rfl
            refine aft_v (runMV (rest := []) (As := [.long w_21, .long w_24, .long w_23, .long z_97]) hx hb hml hown htb hK (g_X9_byTwo l D E mh ma mcode mtoday moffs w_16 w_21 w_17 w_20 w_24 w_22 w_18 w_23 w_19 mupper mlower mrates mtaped mlaid mat mtk mtkAt mtkNumber mwaits mlisted mdealtMany w_21 w_24 w_23 z_97 _ (by (try dsimp only); omega)) ok_X9_byTwo k_1307 k_1309 ks_52 k_9 k_1310 ⟨(Nat.le_of_ble_eq_true rfl), (Nat.le_of_ble_eq_true rfl)⟩ ⟨(Nat.le_of_ble_eq_true rfl), (Nat.le_of_ble_eq_true rfl)⟩ hl.1 (Nat.le_of_ble_eq_true rfl) rfl rfl dX9_foretold_117 hPc hDc rfl rfl 0 rfl) hP hD hS hA [0] [1, 2, 3, 4, 5, 6, 7, 8, 9, 10, 11, 12, 13] (wr := [((ma 2), .inl (E 0, 400, .inl mf2)), ((ma 3), .inl (E 0, 16, .inl mf3)), ((ma 4), .inl (E 0, 16, .inl mf4)), ((ma 5), .inl (E 1, 6400, .inl mf5)), ((ma 6), .inl (E 0, 6400, .inl mf6)), ((ma 7), .inl (E 0, 6400, .inl mf7)), ((ma 8), .inl (E 1, 6400, .inl mf8)), ((ma 9), .inl (E 1, 6400, .inl mf9)), ((ma 12), .inl (E 0, 60, .inl mf12)), ((ma 13), .inl (E 0, 60, .inl mf13)), ((ma 14), .inl (E 0, 60, .inl mf14)), ((ma 15), .inl (E 0, 60, .inl mf15)), ((ma 16), .inl (E 0, 60, .inl mf16))]) rfl rfl (by decide) (by decide) (fun u_100 H locs hw_99 hP hD hS => ?_)
            clear hPc hDc
            obtain ⟨w_101, w_102⟩ := u_100
            try dsimp only at hw_99
            have hP : va_P D vwCl [((ma 2), .inl (E 0, 400, .inl mf2)), ((ma 3), .inl (E 0, 16, .inl mf3)), ((ma 4), .inl (E 0, 16, .inl mf4)), ((ma 5), .inl (E 1, 6400, .inl mf5)), ((ma 6), .inl (E 0, 6400, .inl mf6)), ((ma 7), .inl (E 0, 6400, .inl mf7)), ((ma 8), .inl (E 1, 6400, .inl mf8)), ((ma 9), .inl (E 1, 6400, .inl mf9)), ((ma 12), .inl (E 0, 60, .inl mf12)), ((ma 13), .inl (E 0, 60, .inl mf13)), ((ma 14), .inl (E 0, 60, .inl mf14)), ((ma 15), .inl (E 0, 60, .inl mf15)), ((ma 16), .inl (E 0, 60, .inl mf16)), (mh, .inr (9, G9 ma mcode mtoday moffs w_16 w_21 w_17 w_20 w_24 w_22 w_18 w_23 w_19 w_102 w_101 mrates mtaped mlaid mat mtk mtkAt mtkNumber mwaits mlisted mdealtMany))] H := hP
            have hD := toW hP hD rfl
            have nz_103 : ¬ w_101 = 0 := by rw [hw_99]; first | assumption | exact hw_29.2 | exact hw_29.2.2
            refine lv_goto (tgt := 161) hx hb dX9_foretold_120 (by decide) ?_
            refine lv_aload_n hx hb dX9_foretold_161 rfl (lv_at hl 0 rfl) ?_
            refine va_get (D := D) (ci := 9) (v := .long w_101) (C := RX9) (T := TX9) (N := 68) hx hb htb iX9 hown hK.1 hP 13 rfl rfl 27 (by decide) (htb _ k_985) (fun _ h9 => h9) rfl dX9_foretold_162 ?_
            refine lv_lconst (v := 0) hx hb dX9_foretold_165 (by decide) ?_
            refine W.lcmp hx hb dX9_foretold_166 ?_
            refine lv_topi (fun z_104 ez_104 => ?_)
            refine lv_if_ge (tgt := 188) hx hb dX9_foretold_167 (by decide) (fun c_105 => ?_) (fun c_105 => ?_)
            ·
              refine lv_aload_n hx hb dX9_foretold_188 rfl (lv_at hl 0 rfl) ?_
              refine va_get (D := D) (ci := 9) (v := .long w_102) (C := RX9) (T := TX9) (N := 68) hx hb htb iX9 hown hK.1 hP 13 rfl rfl 26 (by decide) (htb _ k_984) (fun _ h9 => h9) rfl dX9_foretold_189 ?_
              refine lv_aload_n hx hb dX9_foretold_192 rfl (lv_at hl 0 rfl) ?_
              refine va_get (D := D) (ci := 9) (v := .long w_101) (C := RX9) (T := TX9) (N := 68) hx hb htb iX9 hown hK.1 hP 13 rfl rfl 27 (by decide) (htb _ k_985) (fun _ h9 => h9) rfl dX9_foretold_193 ?_
              refine callLS (rest := []) (As := [.long w_102, .long w_101]) hx hb hml hown htb hK (g_X9_floor l D E w_102 w_101 nz_103) ok_X9_floor k_1311 k_1312 k_9 k_1313 ⟨(Nat.le_of_ble_eq_true rfl), (Nat.le_of_ble_eq_true rfl)⟩ ⟨(Nat.le_of_ble_eq_true rfl), (Nat.le_of_ble_eq_true rfl)⟩ hl.1 (Nat.le_of_ble_eq_true rfl) rfl rfl dX9_foretold_196 (hP.sub (ws' := ([] : va_W)) [] rfl) (fun r_107 hw_108 => ?_)
              refine lv_lstore (lv' := [(6, .long r_107), (0, .ref mh), (1, .int p0), (2, .int p1), (3, .int p2), (4, .int p3), (5, .int p4)]) hx hb dX9_foretold_199 hl (by decide) rfl (fun ls hl => ?_)
              refine lv_lload hx hb dX9_foretold_201 (lv_at hl 0 rfl) ?_
              refine lv_ldc2 hx hb hown (htb _ k_1314) dX9_foretold_203 ?_
              refine W.lcmp hx hb dX9_foretold_206 ?_
              refine lv_topi (fun z_110 ez_110 => ?_)
              refine lv_if_gt (tgt := 219) hx hb dX9_foretold_207 (by decide) (fun c_111 => ?_) (fun c_111 => ?_)
              ·
                refine lv_ldc hx hb hown (htb _ k_1205) dX9_foretold_219 ?_
                have hP9 := hP.sub (ws' := [(mh, .inr (9, G9 ma mcode mtoday moffs w_16 w_21 w_17 w_20 w_24 w_22 w_18 w_23 w_19 w_102 w_101 mrates mtaped mlaid mat mtk mtkAt mtkNumber mwaits mlisted mdealtMany)), ((ma 2), .inl (E 0, 400, .inl mf2)), ((ma 3), .inl (E 0, 16, .inl mf3)), ((ma 4), .inl (E 0, 16, .inl mf4)), ((ma 5), .inl (E 1, 6400, .inl mf5)), ((ma 6), .inl (E 0, 6400, .inl mf6)), ((ma 7), .inl (E 0, 6400, .inl mf7)), ((ma 8), .inl (E 1, 6400, .inl mf8)), ((ma 9), .inl (E 1, 6400, .inl mf9)), ((ma 12), .inl (E 0, 60, .inl mf12)), ((ma 13), .inl (E 0, 60, .inl mf13)), ((ma 14), .inl (E 0, 60, .inl mf14)), ((ma 15), .inl (E 0, 60, .inl mf15)), ((ma 16), .inl (E 0, 60, .inl mf16))]) [13, 0, 1, 2, 3, 4, 5, 6, 7, 8, 9, 10, 11, 12] rfl
                have hD9 := hD.sub (ws' := [(mh, .inr (9, G9 ma mcode mtoday moffs w_16 w_21 w_17 w_20 w_24 w_22 w_18 w_23 w_19 w_102 w_101 mrates mtaped mlaid mat mtk mtkAt mtkNumber mwaits mlisted mdealtMany)), ((ma 2), .inl (E 0, 400, .inl mf2)), ((ma 3), .inl (E 0, 16, .inl mf3)), ((ma 4), .inl (E 0, 16, .inl mf4)), ((ma 5), .inl (E 1, 6400, .inl mf5)), ((ma 6), .inl (E 0, 6400, .inl mf6)), ((ma 7), .inl (E 0, 6400, .inl mf7)), ((ma 8), .inl (E 1, 6400, .inl mf8)), ((ma 9), .inl (E 1, 6400, .inl mf9)), ((ma 12), .inl (E 0, 60, .inl mf12)), ((ma 13), .inl (E 0, 60, .inl mf13)), ((ma 14), .inl (E 0, 60, .inl mf14)), ((ma 15), .inl (E 0, 60, .inl mf15)), ((ma 16), .inl (E 0, 60, .inl mf16))]) [13, 0, 1, 2, 3, 4, 5, 6, 7, 8, 9, 10, 11, 12] (by decide) rfl
                exact W.iret (v := (-2000000000)) hx hb hr (fun t ht hW => ⟨⟨(-2000000000), (w_101, w_16, w_17, w_18, w_19, w_20, w_21, w_22, w_23, w_24, w_102), rfl, trivial, by rw [ht]; exact hP9, hD9⟩, hS.F ht⟩) hS.2.2 dX9_foretold_221
              ·
                refine lv_lload hx hb dX9_foretold_210 (lv_at hl 0 rfl) ?_
                refine lv_ldc2 hx hb hown (htb _ k_1315) dX9_foretold_212 ?_
                refine W.lcmp hx hb dX9_foretold_215 ?_
                refine lv_topi (fun z_114 ez_114 => ?_)
                refine lv_if_ge (tgt := 222) hx hb dX9_foretold_216 (by decide) (fun c_115 => ?_) (fun c_115 => ?_)
                ·
                  refine lv_ldc2 hx hb hown (htb _ k_1316) dX9_foretold_222 ?_
                  refine lv_lload hx hb dX9_foretold_225 (lv_at hl 0 rfl) ?_
                  refine lv_lmul hx hb dX9_foretold_227 ?_
                  refine lv_topl (fun z_117 ez_117 => ?_)
                  refine lv_ldc2 hx hb hown (htb _ k_1316) dX9_foretold_228 ?_
                  refine lv_aload_n hx hb dX9_foretold_231 rfl (lv_at hl 1 rfl) ?_
                  refine va_get (D := D) (ci := 9) (v := .long w_102) (C := RX9) (T := TX9) (N := 68) hx hb htb iX9 hown hK.1 hP 13 rfl rfl 26 (by decide) (htb _ k_984) (fun _ h9 => h9) rfl dX9_foretold_232 ?_
                  refine lv_lload hx hb dX9_foretold_235 (lv_at hl 0 rfl) ?_
                  refine lv_aload_n hx hb dX9_foretold_237 rfl (lv_at hl 1 rfl) ?_
                  refine va_get (D := D) (ci := 9) (v := .long w_101) (C := RX9) (T := TX9) (N := 68) hx hb htb iX9 hown hK.1 hP 13 rfl rfl 27 (by decide) (htb _ k_985) (fun _ h9 => h9) rfl dX9_foretold_238 ?_
                  refine lv_lmul hx hb dX9_foretold_241 ?_
                  refine lv_topl (fun z_118 ez_118 => ?_)
                  refine lv_lsub hx hb dX9_foretold_242 ?_
                  refine lv_topl (fun z_119 ez_119 => ?_)
                  refine lv_lmul hx hb dX9_foretold_243 ?_
                  refine lv_topl (fun z_120 ez_120 => ?_)
                  refine lv_aload_n hx hb dX9_foretold_244 rfl (lv_at hl 1 rfl) ?_
                  refine va_get (D := D) (ci := 9) (v := .long w_101) (C := RX9) (T := TX9) (N := 68) hx hb htb iX9 hown hK.1 hP 13 rfl rfl 27 (by decide) (htb _ k_985) (fun _ h9 => h9) rfl dX9_foretold_245 ?_
                  refine lv_ldiv hx hb dX9_foretold_248 nz_103 ?_
                  refine lv_topl (fun z_121 ez_121 => ?_)
                  refine lv_ladd hx hb dX9_foretold_249 ?_
                  refine lv_topl (fun z_122 ez_122 => ?_)
                  refine lv_lstore (lv' := [(8, .long z_122), (6, .long r_107), (0, .ref mh), (1, .int p0), (2, .int p1), (3, .int p2), (4, .int p3), (5, .int p4)]) hx hb dX9_foretold_250 hl (by decide) rfl (fun ls hl => ?_)
                  refine lv_lload hx hb dX9_foretold_252 (lv_at hl 0 rfl) ?_
                  refine lv_ldc2 hx hb hown (htb _ k_1317) dX9_foretold_254 ?_
                  refine W.lcmp hx hb dX9_foretold_257 ?_
                  refine lv_topi (fun z_123 ez_123 => ?_)
                  refine lv_if_gt (tgt := 270) hx hb dX9_foretold_258 (by decide) (fun c_124 => ?_) (fun c_124 => ?_)
                  ·
                    refine lv_ldc hx hb hown (htb _ k_1205) dX9_foretold_270 ?_
                    refine lv_goto (tgt := 278) hx hb dX9_foretold_272 (by decide) ?_
                    have hP9 := hP.sub (ws' := [(mh, .inr (9, G9 ma mcode mtoday moffs w_16 w_21 w_17 w_20 w_24 w_22 w_18 w_23 w_19 w_102 w_101 mrates mtaped mlaid mat mtk mtkAt mtkNumber mwaits mlisted mdealtMany)), ((ma 2), .inl (E 0, 400, .inl mf2)), ((ma 3), .inl (E 0, 16, .inl mf3)), ((ma 4), .inl (E 0, 16, .inl mf4)), ((ma 5), .inl (E 1, 6400, .inl mf5)), ((ma 6), .inl (E 0, 6400, .inl mf6)), ((ma 7), .inl (E 0, 6400, .inl mf7)), ((ma 8), .inl (E 1, 6400, .inl mf8)), ((ma 9), .inl (E 1, 6400, .inl mf9)), ((ma 12), .inl (E 0, 60, .inl mf12)), ((ma 13), .inl (E 0, 60, .inl mf13)), ((ma 14), .inl (E 0, 60, .inl mf14)), ((ma 15), .inl (E 0, 60, .inl mf15)), ((ma 16), .inl (E 0, 60, .inl mf16))]) [13, 0, 1, 2, 3, 4, 5, 6, 7, 8, 9, 10, 11, 12] rfl
                    have hD9 := hD.sub (ws' := [(mh, .inr (9, G9 ma mcode mtoday moffs w_16 w_21 w_17 w_20 w_24 w_22 w_18 w_23 w_19 w_102 w_101 mrates mtaped mlaid mat mtk mtkAt mtkNumber mwaits mlisted mdealtMany)), ((ma 2), .inl (E 0, 400, .inl mf2)), ((ma 3), .inl (E 0, 16, .inl mf3)), ((ma 4), .inl (E 0, 16, .inl mf4)), ((ma 5), .inl (E 1, 6400, .inl mf5)), ((ma 6), .inl (E 0, 6400, .inl mf6)), ((ma 7), .inl (E 0, 6400, .inl mf7)), ((ma 8), .inl (E 1, 6400, .inl mf8)), ((ma 9), .inl (E 1, 6400, .inl mf9)), ((ma 12), .inl (E 0, 60, .inl mf12)), ((ma 13), .inl (E 0, 60, .inl mf13)), ((ma 14), .inl (E 0, 60, .inl mf14)), ((ma 15), .inl (E 0, 60, .inl mf15)), ((ma 16), .inl (E 0, 60, .inl mf16))]) [13, 0, 1, 2, 3, 4, 5, 6, 7, 8, 9, 10, 11, 12] (by decide) rfl
                    exact W.iret (v := (-2000000000)) hx hb hr (fun t ht hW => ⟨⟨(-2000000000), (w_101, w_16, w_17, w_18, w_19, w_20, w_21, w_22, w_23, w_24, w_102), rfl, trivial, by rw [ht]; exact hP9, hD9⟩, hS.F ht⟩) hS.2.2 dX9_foretold_278
                  ·
                    refine lv_lload hx hb dX9_foretold_261 (lv_at hl 0 rfl) ?_
                    refine lv_ldc2 hx hb hown (htb _ k_1281) dX9_foretold_263 ?_
                    refine W.lcmp hx hb dX9_foretold_266 ?_
                    refine lv_topi (fun z_127 ez_127 => ?_)
                    refine lv_if_ge (tgt := 275) hx hb dX9_foretold_267 (by decide) (fun c_128 => ?_) (fun c_128 => ?_)
                    ·
                      refine lv_lload hx hb dX9_foretold_275 (lv_at hl 0 rfl) ?_
                      obtain ⟨z_130, ez_130⟩ : ∃ y : Int32, (z_122 : Int64).toInt32 = y := ⟨_, rfl⟩
                      refine lv_l2i hx hb dX9_foretold_277 ez_130 ?_
                      have hP9 := hP.sub (ws' := [(mh, .inr (9, G9 ma mcode mtoday moffs w_16 w_21 w_17 w_20 w_24 w_22 w_18 w_23 w_19 w_102 w_101 mrates mtaped mlaid mat mtk mtkAt mtkNumber mwaits mlisted mdealtMany)), ((ma 2), .inl (E 0, 400, .inl mf2)), ((ma 3), .inl (E 0, 16, .inl mf3)), ((ma 4), .inl (E 0, 16, .inl mf4)), ((ma 5), .inl (E 1, 6400, .inl mf5)), ((ma 6), .inl (E 0, 6400, .inl mf6)), ((ma 7), .inl (E 0, 6400, .inl mf7)), ((ma 8), .inl (E 1, 6400, .inl mf8)), ((ma 9), .inl (E 1, 6400, .inl mf9)), ((ma 12), .inl (E 0, 60, .inl mf12)), ((ma 13), .inl (E 0, 60, .inl mf13)), ((ma 14), .inl (E 0, 60, .inl mf14)), ((ma 15), .inl (E 0, 60, .inl mf15)), ((ma 16), .inl (E 0, 60, .inl mf16))]) [13, 0, 1, 2, 3, 4, 5, 6, 7, 8, 9, 10, 11, 12] rfl
                      have hD9 := hD.sub (ws' := [(mh, .inr (9, G9 ma mcode mtoday moffs w_16 w_21 w_17 w_20 w_24 w_22 w_18 w_23 w_19 w_102 w_101 mrates mtaped mlaid mat mtk mtkAt mtkNumber mwaits mlisted mdealtMany)), ((ma 2), .inl (E 0, 400, .inl mf2)), ((ma 3), .inl (E 0, 16, .inl mf3)), ((ma 4), .inl (E 0, 16, .inl mf4)), ((ma 5), .inl (E 1, 6400, .inl mf5)), ((ma 6), .inl (E 0, 6400, .inl mf6)), ((ma 7), .inl (E 0, 6400, .inl mf7)), ((ma 8), .inl (E 1, 6400, .inl mf8)), ((ma 9), .inl (E 1, 6400, .inl mf9)), ((ma 12), .inl (E 0, 60, .inl mf12)), ((ma 13), .inl (E 0, 60, .inl mf13)), ((ma 14), .inl (E 0, 60, .inl mf14)), ((ma 15), .inl (E 0, 60, .inl mf15)), ((ma 16), .inl (E 0, 60, .inl mf16))]) [13, 0, 1, 2, 3, 4, 5, 6, 7, 8, 9, 10, 11, 12] (by decide) rfl
                      exact W.iret (v := z_130) hx hb hr (fun t ht hW => ⟨⟨z_130, (w_101, w_16, w_17, w_18, w_19, w_20, w_21, w_22, w_23, w_24, w_102), rfl, trivial, by rw [ht]; exact hP9, hD9⟩, hS.F ht⟩) hS.2.2 dX9_foretold_278
                    ·
                      refine lv_ldc hx hb hown (htb _ k_1205) dX9_foretold_270 ?_
                      refine lv_goto (tgt := 278) hx hb dX9_foretold_272 (by decide) ?_
                      have hP9 := hP.sub (ws' := [(mh, .inr (9, G9 ma mcode mtoday moffs w_16 w_21 w_17 w_20 w_24 w_22 w_18 w_23 w_19 w_102 w_101 mrates mtaped mlaid mat mtk mtkAt mtkNumber mwaits mlisted mdealtMany)), ((ma 2), .inl (E 0, 400, .inl mf2)), ((ma 3), .inl (E 0, 16, .inl mf3)), ((ma 4), .inl (E 0, 16, .inl mf4)), ((ma 5), .inl (E 1, 6400, .inl mf5)), ((ma 6), .inl (E 0, 6400, .inl mf6)), ((ma 7), .inl (E 0, 6400, .inl mf7)), ((ma 8), .inl (E 1, 6400, .inl mf8)), ((ma 9), .inl (E 1, 6400, .inl mf9)), ((ma 12), .inl (E 0, 60, .inl mf12)), ((ma 13), .inl (E 0, 60, .inl mf13)), ((ma 14), .inl (E 0, 60, .inl mf14)), ((ma 15), .inl (E 0, 60, .inl mf15)), ((ma 16), .inl (E 0, 60, .inl mf16))]) [13, 0, 1, 2, 3, 4, 5, 6, 7, 8, 9, 10, 11, 12] rfl
                      have hD9 := hD.sub (ws' := [(mh, .inr (9, G9 ma mcode mtoday moffs w_16 w_21 w_17 w_20 w_24 w_22 w_18 w_23 w_19 w_102 w_101 mrates mtaped mlaid mat mtk mtkAt mtkNumber mwaits mlisted mdealtMany)), ((ma 2), .inl (E 0, 400, .inl mf2)), ((ma 3), .inl (E 0, 16, .inl mf3)), ((ma 4), .inl (E 0, 16, .inl mf4)), ((ma 5), .inl (E 1, 6400, .inl mf5)), ((ma 6), .inl (E 0, 6400, .inl mf6)), ((ma 7), .inl (E 0, 6400, .inl mf7)), ((ma 8), .inl (E 1, 6400, .inl mf8)), ((ma 9), .inl (E 1, 6400, .inl mf9)), ((ma 12), .inl (E 0, 60, .inl mf12)), ((ma 13), .inl (E 0, 60, .inl mf13)), ((ma 14), .inl (E 0, 60, .inl mf14)), ((ma 15), .inl (E 0, 60, .inl mf15)), ((ma 16), .inl (E 0, 60, .inl mf16))]) [13, 0, 1, 2, 3, 4, 5, 6, 7, 8, 9, 10, 11, 12] (by decide) rfl
                      exact W.iret (v := (-2000000000)) hx hb hr (fun t ht hW => ⟨⟨(-2000000000), (w_101, w_16, w_17, w_18, w_19, w_20, w_21, w_22, w_23, w_24, w_102), rfl, trivial, by rw [ht]; exact hP9, hD9⟩, hS.F ht⟩) hS.2.2 dX9_foretold_278
                ·
                  refine lv_ldc hx hb hown (htb _ k_1205) dX9_foretold_219 ?_
                  have hP9 := hP.sub (ws' := [(mh, .inr (9, G9 ma mcode mtoday moffs w_16 w_21 w_17 w_20 w_24 w_22 w_18 w_23 w_19 w_102 w_101 mrates mtaped mlaid mat mtk mtkAt mtkNumber mwaits mlisted mdealtMany)), ((ma 2), .inl (E 0, 400, .inl mf2)), ((ma 3), .inl (E 0, 16, .inl mf3)), ((ma 4), .inl (E 0, 16, .inl mf4)), ((ma 5), .inl (E 1, 6400, .inl mf5)), ((ma 6), .inl (E 0, 6400, .inl mf6)), ((ma 7), .inl (E 0, 6400, .inl mf7)), ((ma 8), .inl (E 1, 6400, .inl mf8)), ((ma 9), .inl (E 1, 6400, .inl mf9)), ((ma 12), .inl (E 0, 60, .inl mf12)), ((ma 13), .inl (E 0, 60, .inl mf13)), ((ma 14), .inl (E 0, 60, .inl mf14)), ((ma 15), .inl (E 0, 60, .inl mf15)), ((ma 16), .inl (E 0, 60, .inl mf16))]) [13, 0, 1, 2, 3, 4, 5, 6, 7, 8, 9, 10, 11, 12] rfl
                  have hD9 := hD.sub (ws' := [(mh, .inr (9, G9 ma mcode mtoday moffs w_16 w_21 w_17 w_20 w_24 w_22 w_18 w_23 w_19 w_102 w_101 mrates mtaped mlaid mat mtk mtkAt mtkNumber mwaits mlisted mdealtMany)), ((ma 2), .inl (E 0, 400, .inl mf2)), ((ma 3), .inl (E 0, 16, .inl mf3)), ((ma 4), .inl (E 0, 16, .inl mf4)), ((ma 5), .inl (E 1, 6400, .inl mf5)), ((ma 6), .inl (E 0, 6400, .inl mf6)), ((ma 7), .inl (E 0, 6400, .inl mf7)), ((ma 8), .inl (E 1, 6400, .inl mf8)), ((ma 9), .inl (E 1, 6400, .inl mf9)), ((ma 12), .inl (E 0, 60, .inl mf12)), ((ma 13), .inl (E 0, 60, .inl mf13)), ((ma 14), .inl (E 0, 60, .inl mf14)), ((ma 15), .inl (E 0, 60, .inl mf15)), ((ma 16), .inl (E 0, 60, .inl mf16))]) [13, 0, 1, 2, 3, 4, 5, 6, 7, 8, 9, 10, 11, 12] (by decide) rfl
                  exact W.iret (v := (-2000000000)) hx hb hr (fun t ht hW => ⟨⟨(-2000000000), (w_101, w_16, w_17, w_18, w_19, w_20, w_21, w_22, w_23, w_24, w_102), rfl, trivial, by rw [ht]; exact hP9, hD9⟩, hS.F ht⟩) hS.2.2 dX9_foretold_221
            ·
              refine lv_aload_n hx hb dX9_foretold_170 rfl (lv_at hl 0 rfl) ?_
              refine lv_aload_n hx hb dX9_foretold_171 rfl (lv_at hl 0 rfl) ?_
              refine va_get (D := D) (ci := 9) (v := .long w_101) (C := RX9) (T := TX9) (N := 68) hx hb htb iX9 hown hK.1 hP 13 rfl rfl 27 (by decide) (htb _ k_985) (fun _ h9 => h9) rfl dX9_foretold_172 ?_
              refine lv_lneg hx hb dX9_foretold_175 ?_
              refine lv_topl (fun z_134 ez_134 => ?_)
              have nz_134 : ¬ z_134 = 0 := neg_nz ez_134 nz_103
              refine va_put (D := D) (ci := 9) (v := .long z_134) (ty := .long) (C := RX9) (T := TX9) (N := 68) hx hb htb iX9 tyX9 tyX9_ok nmX9 hown hK.1 hP hD hS 13 rfl rfl 27 (by decide) (htb _ k_985) (fun _ h9 => h9) rfl (by decide +kernel) rfl rfl (Nat.le_of_ble_eq_true rfl) dX9_foretold_176 (fun H locs hP hD hS => ?_)
              have hP : va_P D vwCl [((ma 2), .inl (E 0, 400, .inl mf2)), ((ma 3), .inl (E 0, 16, .inl mf3)), ((ma 4), .inl (E 0, 16, .inl mf4)), ((ma 5), .inl (E 1, 6400, .inl mf5)), ((ma 6), .inl (E 0, 6400, .inl mf6)), ((ma 7), .inl (E 0, 6400, .inl mf7)), ((ma 8), .inl (E 1, 6400, .inl mf8)), ((ma 9), .inl (E 1, 6400, .inl mf9)), ((ma 12), .inl (E 0, 60, .inl mf12)), ((ma 13), .inl (E 0, 60, .inl mf13)), ((ma 14), .inl (E 0, 60, .inl mf14)), ((ma 15), .inl (E 0, 60, .inl mf15)), ((ma 16), .inl (E 0, 60, .inl mf16)), (mh, .inr (9, G9 ma mcode mtoday moffs w_16 w_21 w_17 w_20 w_24 w_22 w_18 w_23 w_19 w_102 z_134 mrates mtaped mlaid mat mtk mtkAt mtkNumber mwaits mlisted mdealtMany))] H := hP
              have hD := toW hP hD rfl
              refine lv_aload_n hx hb dX9_foretold_179 rfl (lv_at hl 0 rfl) ?_
              refine lv_aload_n hx hb dX9_foretold_180 rfl (lv_at hl 0 rfl) ?_
              refine va_get (D := D) (ci := 9) (v := .long w_102) (C := RX9) (T := TX9) (N := 68) hx hb htb iX9 hown hK.1 hP 13 rfl rfl 26 (by decide) (htb _ k_984) (fun _ h9 => h9) rfl dX9_foretold_181 ?_
              refine lv_lneg hx hb dX9_foretold_184 ?_
              refine lv_topl (fun z_135 ez_135 => ?_)
              refine va_put (D := D) (ci := 9) (v := .long z_135) (ty := .long) (C := RX9) (T := TX9) (N := 68) hx hb htb iX9 tyX9 tyX9_ok nmX9 hown hK.1 hP hD hS 13 rfl rfl 26 (by decide) (htb _ k_984) (fun _ h9 => h9) rfl (by decide +kernel) rfl rfl (Nat.le_of_ble_eq_true rfl) dX9_foretold_185 (fun H locs hP hD hS => ?_)
              have hP : va_P D vwCl [((ma 2), .inl (E 0, 400, .inl mf2)), ((ma 3), .inl (E 0, 16, .inl mf3)), ((ma 4), .inl (E 0, 16, .inl mf4)), ((ma 5), .inl (E 1, 6400, .inl mf5)), ((ma 6), .inl (E 0, 6400, .inl mf6)), ((ma 7), .inl (E 0, 6400, .inl mf7)), ((ma 8), .inl (E 1, 6400, .inl mf8)), ((ma 9), .inl (E 1, 6400, .inl mf9)), ((ma 12), .inl (E 0, 60, .inl mf12)), ((ma 13), .inl (E 0, 60, .inl mf13)), ((ma 14), .inl (E 0, 60, .inl mf14)), ((ma 15), .inl (E 0, 60, .inl mf15)), ((ma 16), .inl (E 0, 60, .inl mf16)), (mh, .inr (9, G9 ma mcode mtoday moffs w_16 w_21 w_17 w_20 w_24 w_22 w_18 w_23 w_19 z_135 z_134 mrates mtaped mlaid mat mtk mtkAt mtkNumber mwaits mlisted mdealtMany))] H := hP
              have hD := toW hP hD rfl
              refine lv_aload_n hx hb dX9_foretold_188 rfl (lv_at hl 0 rfl) ?_
              refine va_get (D := D) (ci := 9) (v := .long z_135) (C := RX9) (T := TX9) (N := 68) hx hb htb iX9 hown hK.1 hP 13 rfl rfl 26 (by decide) (htb _ k_984) (fun _ h9 => h9) rfl dX9_foretold_189 ?_
              refine lv_aload_n hx hb dX9_foretold_192 rfl (lv_at hl 0 rfl) ?_
              refine va_get (D := D) (ci := 9) (v := .long z_134) (C := RX9) (T := TX9) (N := 68) hx hb htb iX9 hown hK.1 hP 13 rfl rfl 27 (by decide) (htb _ k_985) (fun _ h9 => h9) rfl dX9_foretold_193 ?_
              refine callLS (rest := []) (As := [.long z_135, .long z_134]) hx hb hml hown htb hK (g_X9_floor l D E z_135 z_134 nz_134) ok_X9_floor k_1311 k_1312 k_9 k_1313 ⟨(Nat.le_of_ble_eq_true rfl), (Nat.le_of_ble_eq_true rfl)⟩ ⟨(Nat.le_of_ble_eq_true rfl), (Nat.le_of_ble_eq_true rfl)⟩ hl.1 (Nat.le_of_ble_eq_true rfl) rfl rfl dX9_foretold_196 (hP.sub (ws' := ([] : va_W)) [] rfl) (fun r_136 hw_137 => ?_)
              refine lv_lstore (lv' := [(6, .long r_136), (0, .ref mh), (1, .int p0), (2, .int p1), (3, .int p2), (4, .int p3), (5, .int p4)]) hx hb dX9_foretold_199 hl (by decide) rfl (fun ls hl => ?_)
              refine lv_lload hx hb dX9_foretold_201 (lv_at hl 0 rfl) ?_
              refine lv_ldc2 hx hb hown (htb _ k_1314) dX9_foretold_203 ?_
              refine W.lcmp hx hb dX9_foretold_206 ?_
              refine lv_topi (fun z_139 ez_139 => ?_)
              refine lv_if_gt (tgt := 219) hx hb dX9_foretold_207 (by decide) (fun c_140 => ?_) (fun c_140 => ?_)
              ·
                refine lv_ldc hx hb hown (htb _ k_1205) dX9_foretold_219 ?_
                have hP9 := hP.sub (ws' := [(mh, .inr (9, G9 ma mcode mtoday moffs w_16 w_21 w_17 w_20 w_24 w_22 w_18 w_23 w_19 z_135 z_134 mrates mtaped mlaid mat mtk mtkAt mtkNumber mwaits mlisted mdealtMany)), ((ma 2), .inl (E 0, 400, .inl mf2)), ((ma 3), .inl (E 0, 16, .inl mf3)), ((ma 4), .inl (E 0, 16, .inl mf4)), ((ma 5), .inl (E 1, 6400, .inl mf5)), ((ma 6), .inl (E 0, 6400, .inl mf6)), ((ma 7), .inl (E 0, 6400, .inl mf7)), ((ma 8), .inl (E 1, 6400, .inl mf8)), ((ma 9), .inl (E 1, 6400, .inl mf9)), ((ma 12), .inl (E 0, 60, .inl mf12)), ((ma 13), .inl (E 0, 60, .inl mf13)), ((ma 14), .inl (E 0, 60, .inl mf14)), ((ma 15), .inl (E 0, 60, .inl mf15)), ((ma 16), .inl (E 0, 60, .inl mf16))]) [13, 0, 1, 2, 3, 4, 5, 6, 7, 8, 9, 10, 11, 12] rfl
                have hD9 := hD.sub (ws' := [(mh, .inr (9, G9 ma mcode mtoday moffs w_16 w_21 w_17 w_20 w_24 w_22 w_18 w_23 w_19 z_135 z_134 mrates mtaped mlaid mat mtk mtkAt mtkNumber mwaits mlisted mdealtMany)), ((ma 2), .inl (E 0, 400, .inl mf2)), ((ma 3), .inl (E 0, 16, .inl mf3)), ((ma 4), .inl (E 0, 16, .inl mf4)), ((ma 5), .inl (E 1, 6400, .inl mf5)), ((ma 6), .inl (E 0, 6400, .inl mf6)), ((ma 7), .inl (E 0, 6400, .inl mf7)), ((ma 8), .inl (E 1, 6400, .inl mf8)), ((ma 9), .inl (E 1, 6400, .inl mf9)), ((ma 12), .inl (E 0, 60, .inl mf12)), ((ma 13), .inl (E 0, 60, .inl mf13)), ((ma 14), .inl (E 0, 60, .inl mf14)), ((ma 15), .inl (E 0, 60, .inl mf15)), ((ma 16), .inl (E 0, 60, .inl mf16))]) [13, 0, 1, 2, 3, 4, 5, 6, 7, 8, 9, 10, 11, 12] (by decide) rfl
                exact W.iret (v := (-2000000000)) hx hb hr (fun t ht hW => ⟨⟨(-2000000000), (z_134, w_16, w_17, w_18, w_19, w_20, w_21, w_22, w_23, w_24, z_135), rfl, trivial, by rw [ht]; exact hP9, hD9⟩, hS.F ht⟩) hS.2.2 dX9_foretold_221
              ·
                refine lv_lload hx hb dX9_foretold_210 (lv_at hl 0 rfl) ?_
                refine lv_ldc2 hx hb hown (htb _ k_1315) dX9_foretold_212 ?_
                refine W.lcmp hx hb dX9_foretold_215 ?_
                refine lv_topi (fun z_143 ez_143 => ?_)
                refine lv_if_ge (tgt := 222) hx hb dX9_foretold_216 (by decide) (fun c_144 => ?_) (fun c_144 => ?_)
                ·
                  refine lv_ldc2 hx hb hown (htb _ k_1316) dX9_foretold_222 ?_
                  refine lv_lload hx hb dX9_foretold_225 (lv_at hl 0 rfl) ?_
                  refine lv_lmul hx hb dX9_foretold_227 ?_
                  refine lv_topl (fun z_146 ez_146 => ?_)
                  refine lv_ldc2 hx hb hown (htb _ k_1316) dX9_foretold_228 ?_
                  refine lv_aload_n hx hb dX9_foretold_231 rfl (lv_at hl 1 rfl) ?_
                  refine va_get (D := D) (ci := 9) (v := .long z_135) (C := RX9) (T := TX9) (N := 68) hx hb htb iX9 hown hK.1 hP 13 rfl rfl 26 (by decide) (htb _ k_984) (fun _ h9 => h9) rfl dX9_foretold_232 ?_
                  refine lv_lload hx hb dX9_foretold_235 (lv_at hl 0 rfl) ?_
                  refine lv_aload_n hx hb dX9_foretold_237 rfl (lv_at hl 1 rfl) ?_
                  refine va_get (D := D) (ci := 9) (v := .long z_134) (C := RX9) (T := TX9) (N := 68) hx hb htb iX9 hown hK.1 hP 13 rfl rfl 27 (by decide) (htb _ k_985) (fun _ h9 => h9) rfl dX9_foretold_238 ?_
                  refine lv_lmul hx hb dX9_foretold_241 ?_
                  refine lv_topl (fun z_147 ez_147 => ?_)
                  refine lv_lsub hx hb dX9_foretold_242 ?_
                  refine lv_topl (fun z_148 ez_148 => ?_)
                  refine lv_lmul hx hb dX9_foretold_243 ?_
                  refine lv_topl (fun z_149 ez_149 => ?_)
                  refine lv_aload_n hx hb dX9_foretold_244 rfl (lv_at hl 1 rfl) ?_
                  refine va_get (D := D) (ci := 9) (v := .long z_134) (C := RX9) (T := TX9) (N := 68) hx hb htb iX9 hown hK.1 hP 13 rfl rfl 27 (by decide) (htb _ k_985) (fun _ h9 => h9) rfl dX9_foretold_245 ?_
                  refine lv_ldiv hx hb dX9_foretold_248 nz_134 ?_
                  refine lv_topl (fun z_150 ez_150 => ?_)
                  refine lv_ladd hx hb dX9_foretold_249 ?_
                  refine lv_topl (fun z_151 ez_151 => ?_)
                  refine lv_lstore (lv' := [(8, .long z_151), (6, .long r_136), (0, .ref mh), (1, .int p0), (2, .int p1), (3, .int p2), (4, .int p3), (5, .int p4)]) hx hb dX9_foretold_250 hl (by decide) rfl (fun ls hl => ?_)
                  refine lv_lload hx hb dX9_foretold_252 (lv_at hl 0 rfl) ?_
                  refine lv_ldc2 hx hb hown (htb _ k_1317) dX9_foretold_254 ?_
                  refine W.lcmp hx hb dX9_foretold_257 ?_
                  refine lv_topi (fun z_152 ez_152 => ?_)
                  refine lv_if_gt (tgt := 270) hx hb dX9_foretold_258 (by decide) (fun c_153 => ?_) (fun c_153 => ?_)
                  ·
                    refine lv_ldc hx hb hown (htb _ k_1205) dX9_foretold_270 ?_
                    refine lv_goto (tgt := 278) hx hb dX9_foretold_272 (by decide) ?_
                    have hP9 := hP.sub (ws' := [(mh, .inr (9, G9 ma mcode mtoday moffs w_16 w_21 w_17 w_20 w_24 w_22 w_18 w_23 w_19 z_135 z_134 mrates mtaped mlaid mat mtk mtkAt mtkNumber mwaits mlisted mdealtMany)), ((ma 2), .inl (E 0, 400, .inl mf2)), ((ma 3), .inl (E 0, 16, .inl mf3)), ((ma 4), .inl (E 0, 16, .inl mf4)), ((ma 5), .inl (E 1, 6400, .inl mf5)), ((ma 6), .inl (E 0, 6400, .inl mf6)), ((ma 7), .inl (E 0, 6400, .inl mf7)), ((ma 8), .inl (E 1, 6400, .inl mf8)), ((ma 9), .inl (E 1, 6400, .inl mf9)), ((ma 12), .inl (E 0, 60, .inl mf12)), ((ma 13), .inl (E 0, 60, .inl mf13)), ((ma 14), .inl (E 0, 60, .inl mf14)), ((ma 15), .inl (E 0, 60, .inl mf15)), ((ma 16), .inl (E 0, 60, .inl mf16))]) [13, 0, 1, 2, 3, 4, 5, 6, 7, 8, 9, 10, 11, 12] rfl
                    have hD9 := hD.sub (ws' := [(mh, .inr (9, G9 ma mcode mtoday moffs w_16 w_21 w_17 w_20 w_24 w_22 w_18 w_23 w_19 z_135 z_134 mrates mtaped mlaid mat mtk mtkAt mtkNumber mwaits mlisted mdealtMany)), ((ma 2), .inl (E 0, 400, .inl mf2)), ((ma 3), .inl (E 0, 16, .inl mf3)), ((ma 4), .inl (E 0, 16, .inl mf4)), ((ma 5), .inl (E 1, 6400, .inl mf5)), ((ma 6), .inl (E 0, 6400, .inl mf6)), ((ma 7), .inl (E 0, 6400, .inl mf7)), ((ma 8), .inl (E 1, 6400, .inl mf8)), ((ma 9), .inl (E 1, 6400, .inl mf9)), ((ma 12), .inl (E 0, 60, .inl mf12)), ((ma 13), .inl (E 0, 60, .inl mf13)), ((ma 14), .inl (E 0, 60, .inl mf14)), ((ma 15), .inl (E 0, 60, .inl mf15)), ((ma 16), .inl (E 0, 60, .inl mf16))]) [13, 0, 1, 2, 3, 4, 5, 6, 7, 8, 9, 10, 11, 12] (by decide) rfl
                    exact W.iret (v := (-2000000000)) hx hb hr (fun t ht hW => ⟨⟨(-2000000000), (z_134, w_16, w_17, w_18, w_19, w_20, w_21, w_22, w_23, w_24, z_135), rfl, trivial, by rw [ht]; exact hP9, hD9⟩, hS.F ht⟩) hS.2.2 dX9_foretold_278
                  ·
                    refine lv_lload hx hb dX9_foretold_261 (lv_at hl 0 rfl) ?_
                    refine lv_ldc2 hx hb hown (htb _ k_1281) dX9_foretold_263 ?_
                    refine W.lcmp hx hb dX9_foretold_266 ?_
                    refine lv_topi (fun z_156 ez_156 => ?_)
                    refine lv_if_ge (tgt := 275) hx hb dX9_foretold_267 (by decide) (fun c_157 => ?_) (fun c_157 => ?_)
                    ·
                      refine lv_lload hx hb dX9_foretold_275 (lv_at hl 0 rfl) ?_
                      obtain ⟨z_159, ez_159⟩ : ∃ y : Int32, (z_151 : Int64).toInt32 = y := ⟨_, rfl⟩
                      refine lv_l2i hx hb dX9_foretold_277 ez_159 ?_
                      have hP9 := hP.sub (ws' := [(mh, .inr (9, G9 ma mcode mtoday moffs w_16 w_21 w_17 w_20 w_24 w_22 w_18 w_23 w_19 z_135 z_134 mrates mtaped mlaid mat mtk mtkAt mtkNumber mwaits mlisted mdealtMany)), ((ma 2), .inl (E 0, 400, .inl mf2)), ((ma 3), .inl (E 0, 16, .inl mf3)), ((ma 4), .inl (E 0, 16, .inl mf4)), ((ma 5), .inl (E 1, 6400, .inl mf5)), ((ma 6), .inl (E 0, 6400, .inl mf6)), ((ma 7), .inl (E 0, 6400, .inl mf7)), ((ma 8), .inl (E 1, 6400, .inl mf8)), ((ma 9), .inl (E 1, 6400, .inl mf9)), ((ma 12), .inl (E 0, 60, .inl mf12)), ((ma 13), .inl (E 0, 60, .inl mf13)), ((ma 14), .inl (E 0, 60, .inl mf14)), ((ma 15), .inl (E 0, 60, .inl mf15)), ((ma 16), .inl (E 0, 60, .inl mf16))]) [13, 0, 1, 2, 3, 4, 5, 6, 7, 8, 9, 10, 11, 12] rfl
                      have hD9 := hD.sub (ws' := [(mh, .inr (9, G9 ma mcode mtoday moffs w_16 w_21 w_17 w_20 w_24 w_22 w_18 w_23 w_19 z_135 z_134 mrates mtaped mlaid mat mtk mtkAt mtkNumber mwaits mlisted mdealtMany)), ((ma 2), .inl (E 0, 400, .inl mf2)), ((ma 3), .inl (E 0, 16, .inl mf3)), ((ma 4), .inl (E 0, 16, .inl mf4)), ((ma 5), .inl (E 1, 6400, .inl mf5)), ((ma 6), .inl (E 0, 6400, .inl mf6)), ((ma 7), .inl (E 0, 6400, .inl mf7)), ((ma 8), .inl (E 1, 6400, .inl mf8)), ((ma 9), .inl (E 1, 6400, .inl mf9)), ((ma 12), .inl (E 0, 60, .inl mf12)), ((ma 13), .inl (E 0, 60, .inl mf13)), ((ma 14), .inl (E 0, 60, .inl mf14)), ((ma 15), .inl (E 0, 60, .inl mf15)), ((ma 16), .inl (E 0, 60, .inl mf16))]) [13, 0, 1, 2, 3, 4, 5, 6, 7, 8, 9, 10, 11, 12] (by decide) rfl
                      exact W.iret (v := z_159) hx hb hr (fun t ht hW => ⟨⟨z_159, (z_134, w_16, w_17, w_18, w_19, w_20, w_21, w_22, w_23, w_24, z_135), rfl, trivial, by rw [ht]; exact hP9, hD9⟩, hS.F ht⟩) hS.2.2 dX9_foretold_278
                    ·
                      refine lv_ldc hx hb hown (htb _ k_1205) dX9_foretold_270 ?_
                      refine lv_goto (tgt := 278) hx hb dX9_foretold_272 (by decide) ?_
                      have hP9 := hP.sub (ws' := [(mh, .inr (9, G9 ma mcode mtoday moffs w_16 w_21 w_17 w_20 w_24 w_22 w_18 w_23 w_19 z_135 z_134 mrates mtaped mlaid mat mtk mtkAt mtkNumber mwaits mlisted mdealtMany)), ((ma 2), .inl (E 0, 400, .inl mf2)), ((ma 3), .inl (E 0, 16, .inl mf3)), ((ma 4), .inl (E 0, 16, .inl mf4)), ((ma 5), .inl (E 1, 6400, .inl mf5)), ((ma 6), .inl (E 0, 6400, .inl mf6)), ((ma 7), .inl (E 0, 6400, .inl mf7)), ((ma 8), .inl (E 1, 6400, .inl mf8)), ((ma 9), .inl (E 1, 6400, .inl mf9)), ((ma 12), .inl (E 0, 60, .inl mf12)), ((ma 13), .inl (E 0, 60, .inl mf13)), ((ma 14), .inl (E 0, 60, .inl mf14)), ((ma 15), .inl (E 0, 60, .inl mf15)), ((ma 16), .inl (E 0, 60, .inl mf16))]) [13, 0, 1, 2, 3, 4, 5, 6, 7, 8, 9, 10, 11, 12] rfl
                      have hD9 := hD.sub (ws' := [(mh, .inr (9, G9 ma mcode mtoday moffs w_16 w_21 w_17 w_20 w_24 w_22 w_18 w_23 w_19 z_135 z_134 mrates mtaped mlaid mat mtk mtkAt mtkNumber mwaits mlisted mdealtMany)), ((ma 2), .inl (E 0, 400, .inl mf2)), ((ma 3), .inl (E 0, 16, .inl mf3)), ((ma 4), .inl (E 0, 16, .inl mf4)), ((ma 5), .inl (E 1, 6400, .inl mf5)), ((ma 6), .inl (E 0, 6400, .inl mf6)), ((ma 7), .inl (E 0, 6400, .inl mf7)), ((ma 8), .inl (E 1, 6400, .inl mf8)), ((ma 9), .inl (E 1, 6400, .inl mf9)), ((ma 12), .inl (E 0, 60, .inl mf12)), ((ma 13), .inl (E 0, 60, .inl mf13)), ((ma 14), .inl (E 0, 60, .inl mf14)), ((ma 15), .inl (E 0, 60, .inl mf15)), ((ma 16), .inl (E 0, 60, .inl mf16))]) [13, 0, 1, 2, 3, 4, 5, 6, 7, 8, 9, 10, 11, 12] (by decide) rfl
                      exact W.iret (v := (-2000000000)) hx hb hr (fun t ht hW => ⟨⟨(-2000000000), (z_134, w_16, w_17, w_18, w_19, w_20, w_21, w_22, w_23, w_24, z_135), rfl, trivial, by rw [ht]; exact hP9, hD9⟩, hS.F ht⟩) hS.2.2 dX9_foretold_278
                ·
                  refine lv_ldc hx hb hown (htb _ k_1205) dX9_foretold_219 ?_
                  have hP9 := hP.sub (ws' := [(mh, .inr (9, G9 ma mcode mtoday moffs w_16 w_21 w_17 w_20 w_24 w_22 w_18 w_23 w_19 z_135 z_134 mrates mtaped mlaid mat mtk mtkAt mtkNumber mwaits mlisted mdealtMany)), ((ma 2), .inl (E 0, 400, .inl mf2)), ((ma 3), .inl (E 0, 16, .inl mf3)), ((ma 4), .inl (E 0, 16, .inl mf4)), ((ma 5), .inl (E 1, 6400, .inl mf5)), ((ma 6), .inl (E 0, 6400, .inl mf6)), ((ma 7), .inl (E 0, 6400, .inl mf7)), ((ma 8), .inl (E 1, 6400, .inl mf8)), ((ma 9), .inl (E 1, 6400, .inl mf9)), ((ma 12), .inl (E 0, 60, .inl mf12)), ((ma 13), .inl (E 0, 60, .inl mf13)), ((ma 14), .inl (E 0, 60, .inl mf14)), ((ma 15), .inl (E 0, 60, .inl mf15)), ((ma 16), .inl (E 0, 60, .inl mf16))]) [13, 0, 1, 2, 3, 4, 5, 6, 7, 8, 9, 10, 11, 12] rfl
                  have hD9 := hD.sub (ws' := [(mh, .inr (9, G9 ma mcode mtoday moffs w_16 w_21 w_17 w_20 w_24 w_22 w_18 w_23 w_19 z_135 z_134 mrates mtaped mlaid mat mtk mtkAt mtkNumber mwaits mlisted mdealtMany)), ((ma 2), .inl (E 0, 400, .inl mf2)), ((ma 3), .inl (E 0, 16, .inl mf3)), ((ma 4), .inl (E 0, 16, .inl mf4)), ((ma 5), .inl (E 1, 6400, .inl mf5)), ((ma 6), .inl (E 0, 6400, .inl mf6)), ((ma 7), .inl (E 0, 6400, .inl mf7)), ((ma 8), .inl (E 1, 6400, .inl mf8)), ((ma 9), .inl (E 1, 6400, .inl mf9)), ((ma 12), .inl (E 0, 60, .inl mf12)), ((ma 13), .inl (E 0, 60, .inl mf13)), ((ma 14), .inl (E 0, 60, .inl mf14)), ((ma 15), .inl (E 0, 60, .inl mf15)), ((ma 16), .inl (E 0, 60, .inl mf16))]) [13, 0, 1, 2, 3, 4, 5, 6, 7, 8, 9, 10, 11, 12] (by decide) rfl
                  exact W.iret (v := (-2000000000)) hx hb hr (fun t ht hW => ⟨⟨(-2000000000), (z_134, w_16, w_17, w_18, w_19, w_20, w_21, w_22, w_23, w_24, z_135), rfl, trivial, by rw [ht]; exact hP9, hD9⟩, hS.F ht⟩) hS.2.2 dX9_foretold_221
          ·
            refine W_top (y := .int 4) (by rw [hr_28]) ?_
            refine lv_tableIn (x := 4) (off := 63) (tgt := 123) hx hb dX9_foretold_60 (by decide) (by decide) (by decide) (by decide) ?_
            refine lv_aload_n hx hb dX9_foretold_123 rfl (lv_at hl 0 rfl) ?_
            refine lv_aload_n hx hb dX9_foretold_124 rfl (lv_at hl 0 rfl) ?_
            refine va_get (D := D) (ci := 9) (v := .long w_17) (C := RX9) (T := TX9) (N := 68) hx hb htb iX9 hown hK.1 hP 0 rfl rfl 19 (by decide) (htb _ k_977) (fun _ h9 => h9) rfl dX9_foretold_125 ?_
            refine lv_aload_n hx hb dX9_foretold_128 rfl (lv_at hl 0 rfl) ?_
            refine va_get (D := D) (ci := 9) (v := .long w_18) (C := RX9) (T := TX9) (N := 68) hx hb htb iX9 hown hK.1 hP 0 rfl rfl 23 (by decide) (htb _ k_981) (fun _ h9 => h9) rfl dX9_foretold_129 ?_
            refine lv_aload_n hx hb dX9_foretold_132 rfl (lv_at hl 0 rfl) ?_
            refine va_get (D := D) (ci := 9) (v := .long w_19) (C := RX9) (T := TX9) (N := 68) hx hb htb iX9 hown hK.1 hP 0 rfl rfl 25 (by decide) (htb _ k_983) (fun _ h9 => h9) rfl dX9_foretold_133 ?_
            refine lv_iload hx hb dX9_foretold_136 (lv_at hl 5 rfl) ?_
            obtain ⟨z_162, ez_162⟩ : ∃ y : Int64, (p4 : Int32).toInt64 = y := ⟨_, rfl⟩
            refine lv_i2l hx hb dX9_foretold_138 ez_162 ?_
            have hPc := hP.sub (ws' := [(mh, .inr (9, G9 ma mcode mtoday moffs w_16 w_21 w_17 w_20 w_24 w_22 w_18 w_23 w_19 mupper mlower mrates mtaped mlaid mat mtk mtkAt mtkNumber mwaits mlisted mdealtMany))]) [0] rfl
            have hDc := hD.sub (ws' := [(mh, .inr (9, G9 ma mcode mtoday moffs w_16 w_21 w_17 w_20 w_24 w_22 w_18 w_23 w_19 mupper mlower mrates mtaped mlaid mat mtk mtkAt mtkNumber mwaits mlisted mdealtMany))]) [0] (by decide) rfl
            refine aft_v (runMV (rest := []) (As := [.long w_17, .long w_18, .long w_19, .long z_162]) hx hb hml hown htb hK (g_X9_byTwo l D E mh ma mcode mtoday moffs w_16 w_21 w_17 w_20 w_24 w_22 w_18 w_23 w_19 mupper mlower mrates mtaped mlaid mat mtk mtkAt mtkNumber mwaits mlisted mdealtMany w_17 w_18 w_19 z_162 _ (by (try dsimp only); omega)) ok_X9_byTwo k_1307 k_1309 ks_52 k_9 k_1310 ⟨(Nat.le_of_ble_eq_true rfl), (Nat.le_of_ble_eq_true rfl)⟩ ⟨(Nat.le_of_ble_eq_true rfl), (Nat.le_of_ble_eq_true rfl)⟩ hl.1 (Nat.le_of_ble_eq_true rfl) rfl rfl dX9_foretold_139 hPc hDc rfl rfl 0 rfl) hP hD hS hA [0] [1, 2, 3, 4, 5, 6, 7, 8, 9, 10, 11, 12, 13] (wr := [((ma 2), .inl (E 0, 400, .inl mf2)), ((ma 3), .inl (E 0, 16, .inl mf3)), ((ma 4), .inl (E 0, 16, .inl mf4)), ((ma 5), .inl (E 1, 6400, .inl mf5)), ((ma 6), .inl (E 0, 6400, .inl mf6)), ((ma 7), .inl (E 0, 6400, .inl mf7)), ((ma 8), .inl (E 1, 6400, .inl mf8)), ((ma 9), .inl (E 1, 6400, .inl mf9)), ((ma 12), .inl (E 0, 60, .inl mf12)), ((ma 13), .inl (E 0, 60, .inl mf13)), ((ma 14), .inl (E 0, 60, .inl mf14)), ((ma 15), .inl (E 0, 60, .inl mf15)), ((ma 16), .inl (E 0, 60, .inl mf16))]) rfl rfl (by decide) (by decide) (fun u_165 H locs hw_164 hP hD hS => ?_)
            clear hPc hDc
            obtain ⟨w_166, w_167⟩ := u_165
            try dsimp only at hw_164
            have hP : va_P D vwCl [((ma 2), .inl (E 0, 400, .inl mf2)), ((ma 3), .inl (E 0, 16, .inl mf3)), ((ma 4), .inl (E 0, 16, .inl mf4)), ((ma 5), .inl (E 1, 6400, .inl mf5)), ((ma 6), .inl (E 0, 6400, .inl mf6)), ((ma 7), .inl (E 0, 6400, .inl mf7)), ((ma 8), .inl (E 1, 6400, .inl mf8)), ((ma 9), .inl (E 1, 6400, .inl mf9)), ((ma 12), .inl (E 0, 60, .inl mf12)), ((ma 13), .inl (E 0, 60, .inl mf13)), ((ma 14), .inl (E 0, 60, .inl mf14)), ((ma 15), .inl (E 0, 60, .inl mf15)), ((ma 16), .inl (E 0, 60, .inl mf16)), (mh, .inr (9, G9 ma mcode mtoday moffs w_16 w_21 w_17 w_20 w_24 w_22 w_18 w_23 w_19 w_167 w_166 mrates mtaped mlaid mat mtk mtkAt mtkNumber mwaits mlisted mdealtMany))] H := hP
            have hD := toW hP hD rfl
            have nz_168 : ¬ w_166 = 0 := by rw [hw_164]; first | assumption | exact hw_29.2 | exact hw_29.2.2
            refine lv_goto (tgt := 161) hx hb dX9_foretold_142 (by decide) ?_
            refine lv_aload_n hx hb dX9_foretold_161 rfl (lv_at hl 0 rfl) ?_
            refine va_get (D := D) (ci := 9) (v := .long w_166) (C := RX9) (T := TX9) (N := 68) hx hb htb iX9 hown hK.1 hP 13 rfl rfl 27 (by decide) (htb _ k_985) (fun _ h9 => h9) rfl dX9_foretold_162 ?_
            refine lv_lconst (v := 0) hx hb dX9_foretold_165 (by decide) ?_
            refine W.lcmp hx hb dX9_foretold_166 ?_
            refine lv_topi (fun z_169 ez_169 => ?_)
            refine lv_if_ge (tgt := 188) hx hb dX9_foretold_167 (by decide) (fun c_170 => ?_) (fun c_170 => ?_)
            ·
              refine lv_aload_n hx hb dX9_foretold_188 rfl (lv_at hl 0 rfl) ?_
              refine va_get (D := D) (ci := 9) (v := .long w_167) (C := RX9) (T := TX9) (N := 68) hx hb htb iX9 hown hK.1 hP 13 rfl rfl 26 (by decide) (htb _ k_984) (fun _ h9 => h9) rfl dX9_foretold_189 ?_
              refine lv_aload_n hx hb dX9_foretold_192 rfl (lv_at hl 0 rfl) ?_
              refine va_get (D := D) (ci := 9) (v := .long w_166) (C := RX9) (T := TX9) (N := 68) hx hb htb iX9 hown hK.1 hP 13 rfl rfl 27 (by decide) (htb _ k_985) (fun _ h9 => h9) rfl dX9_foretold_193 ?_
              refine callLS (rest := []) (As := [.long w_167, .long w_166]) hx hb hml hown htb hK (g_X9_floor l D E w_167 w_166 nz_168) ok_X9_floor k_1311 k_1312 k_9 k_1313 ⟨(Nat.le_of_ble_eq_true rfl), (Nat.le_of_ble_eq_true rfl)⟩ ⟨(Nat.le_of_ble_eq_true rfl), (Nat.le_of_ble_eq_true rfl)⟩ hl.1 (Nat.le_of_ble_eq_true rfl) rfl rfl dX9_foretold_196 (hP.sub (ws' := ([] : va_W)) [] rfl) (fun r_172 hw_173 => ?_)
              refine lv_lstore (lv' := [(6, .long r_172), (0, .ref mh), (1, .int p0), (2, .int p1), (3, .int p2), (4, .int p3), (5, .int p4)]) hx hb dX9_foretold_199 hl (by decide) rfl (fun ls hl => ?_)
              refine lv_lload hx hb dX9_foretold_201 (lv_at hl 0 rfl) ?_
              refine lv_ldc2 hx hb hown (htb _ k_1314) dX9_foretold_203 ?_
              refine W.lcmp hx hb dX9_foretold_206 ?_
              refine lv_topi (fun z_175 ez_175 => ?_)
              refine lv_if_gt (tgt := 219) hx hb dX9_foretold_207 (by decide) (fun c_176 => ?_) (fun c_176 => ?_)
              ·
                refine lv_ldc hx hb hown (htb _ k_1205) dX9_foretold_219 ?_
                have hP9 := hP.sub (ws' := [(mh, .inr (9, G9 ma mcode mtoday moffs w_16 w_21 w_17 w_20 w_24 w_22 w_18 w_23 w_19 w_167 w_166 mrates mtaped mlaid mat mtk mtkAt mtkNumber mwaits mlisted mdealtMany)), ((ma 2), .inl (E 0, 400, .inl mf2)), ((ma 3), .inl (E 0, 16, .inl mf3)), ((ma 4), .inl (E 0, 16, .inl mf4)), ((ma 5), .inl (E 1, 6400, .inl mf5)), ((ma 6), .inl (E 0, 6400, .inl mf6)), ((ma 7), .inl (E 0, 6400, .inl mf7)), ((ma 8), .inl (E 1, 6400, .inl mf8)), ((ma 9), .inl (E 1, 6400, .inl mf9)), ((ma 12), .inl (E 0, 60, .inl mf12)), ((ma 13), .inl (E 0, 60, .inl mf13)), ((ma 14), .inl (E 0, 60, .inl mf14)), ((ma 15), .inl (E 0, 60, .inl mf15)), ((ma 16), .inl (E 0, 60, .inl mf16))]) [13, 0, 1, 2, 3, 4, 5, 6, 7, 8, 9, 10, 11, 12] rfl
                have hD9 := hD.sub (ws' := [(mh, .inr (9, G9 ma mcode mtoday moffs w_16 w_21 w_17 w_20 w_24 w_22 w_18 w_23 w_19 w_167 w_166 mrates mtaped mlaid mat mtk mtkAt mtkNumber mwaits mlisted mdealtMany)), ((ma 2), .inl (E 0, 400, .inl mf2)), ((ma 3), .inl (E 0, 16, .inl mf3)), ((ma 4), .inl (E 0, 16, .inl mf4)), ((ma 5), .inl (E 1, 6400, .inl mf5)), ((ma 6), .inl (E 0, 6400, .inl mf6)), ((ma 7), .inl (E 0, 6400, .inl mf7)), ((ma 8), .inl (E 1, 6400, .inl mf8)), ((ma 9), .inl (E 1, 6400, .inl mf9)), ((ma 12), .inl (E 0, 60, .inl mf12)), ((ma 13), .inl (E 0, 60, .inl mf13)), ((ma 14), .inl (E 0, 60, .inl mf14)), ((ma 15), .inl (E 0, 60, .inl mf15)), ((ma 16), .inl (E 0, 60, .inl mf16))]) [13, 0, 1, 2, 3, 4, 5, 6, 7, 8, 9, 10, 11, 12] (by decide) rfl
                exact W.iret (v := (-2000000000)) hx hb hr (fun t ht hW => ⟨⟨(-2000000000), (w_166, w_16, w_17, w_18, w_19, w_20, w_21, w_22, w_23, w_24, w_167), rfl, trivial, by rw [ht]; exact hP9, hD9⟩, hS.F ht⟩) hS.2.2 dX9_foretold_221
              ·
                refine lv_lload hx hb dX9_foretold_210 (lv_at hl 0 rfl) ?_
                refine lv_ldc2 hx hb hown (htb _ k_1315) dX9_foretold_212 ?_
                refine W.lcmp hx hb dX9_foretold_215 ?_
                refine lv_topi (fun z_179 ez_179 => ?_)
                refine lv_if_ge (tgt := 222) hx hb dX9_foretold_216 (by decide) (fun c_180 => ?_) (fun c_180 => ?_)
                ·
                  refine lv_ldc2 hx hb hown (htb _ k_1316) dX9_foretold_222 ?_
                  refine lv_lload hx hb dX9_foretold_225 (lv_at hl 0 rfl) ?_
                  refine lv_lmul hx hb dX9_foretold_227 ?_
                  refine lv_topl (fun z_182 ez_182 => ?_)
                  refine lv_ldc2 hx hb hown (htb _ k_1316) dX9_foretold_228 ?_
                  refine lv_aload_n hx hb dX9_foretold_231 rfl (lv_at hl 1 rfl) ?_
                  refine va_get (D := D) (ci := 9) (v := .long w_167) (C := RX9) (T := TX9) (N := 68) hx hb htb iX9 hown hK.1 hP 13 rfl rfl 26 (by decide) (htb _ k_984) (fun _ h9 => h9) rfl dX9_foretold_232 ?_
                  refine lv_lload hx hb dX9_foretold_235 (lv_at hl 0 rfl) ?_
                  refine lv_aload_n hx hb dX9_foretold_237 rfl (lv_at hl 1 rfl) ?_
                  refine va_get (D := D) (ci := 9) (v := .long w_166) (C := RX9) (T := TX9) (N := 68) hx hb htb iX9 hown hK.1 hP 13 rfl rfl 27 (by decide) (htb _ k_985) (fun _ h9 => h9) rfl dX9_foretold_238 ?_
                  refine lv_lmul hx hb dX9_foretold_241 ?_
                  refine lv_topl (fun z_183 ez_183 => ?_)
                  refine lv_lsub hx hb dX9_foretold_242 ?_
                  refine lv_topl (fun z_184 ez_184 => ?_)
                  refine lv_lmul hx hb dX9_foretold_243 ?_
                  refine lv_topl (fun z_185 ez_185 => ?_)
                  refine lv_aload_n hx hb dX9_foretold_244 rfl (lv_at hl 1 rfl) ?_
                  refine va_get (D := D) (ci := 9) (v := .long w_166) (C := RX9) (T := TX9) (N := 68) hx hb htb iX9 hown hK.1 hP 13 rfl rfl 27 (by decide) (htb _ k_985) (fun _ h9 => h9) rfl dX9_foretold_245 ?_
                  refine lv_ldiv hx hb dX9_foretold_248 nz_168 ?_
                  refine lv_topl (fun z_186 ez_186 => ?_)
                  refine lv_ladd hx hb dX9_foretold_249 ?_
                  refine lv_topl (fun z_187 ez_187 => ?_)
                  refine lv_lstore (lv' := [(8, .long z_187), (6, .long r_172), (0, .ref mh), (1, .int p0), (2, .int p1), (3, .int p2), (4, .int p3), (5, .int p4)]) hx hb dX9_foretold_250 hl (by decide) rfl (fun ls hl => ?_)
                  refine lv_lload hx hb dX9_foretold_252 (lv_at hl 0 rfl) ?_
                  refine lv_ldc2 hx hb hown (htb _ k_1317) dX9_foretold_254 ?_
                  refine W.lcmp hx hb dX9_foretold_257 ?_
                  refine lv_topi (fun z_188 ez_188 => ?_)
                  refine lv_if_gt (tgt := 270) hx hb dX9_foretold_258 (by decide) (fun c_189 => ?_) (fun c_189 => ?_)
                  ·
                    refine lv_ldc hx hb hown (htb _ k_1205) dX9_foretold_270 ?_
                    refine lv_goto (tgt := 278) hx hb dX9_foretold_272 (by decide) ?_
                    have hP9 := hP.sub (ws' := [(mh, .inr (9, G9 ma mcode mtoday moffs w_16 w_21 w_17 w_20 w_24 w_22 w_18 w_23 w_19 w_167 w_166 mrates mtaped mlaid mat mtk mtkAt mtkNumber mwaits mlisted mdealtMany)), ((ma 2), .inl (E 0, 400, .inl mf2)), ((ma 3), .inl (E 0, 16, .inl mf3)), ((ma 4), .inl (E 0, 16, .inl mf4)), ((ma 5), .inl (E 1, 6400, .inl mf5)), ((ma 6), .inl (E 0, 6400, .inl mf6)), ((ma 7), .inl (E 0, 6400, .inl mf7)), ((ma 8), .inl (E 1, 6400, .inl mf8)), ((ma 9), .inl (E 1, 6400, .inl mf9)), ((ma 12), .inl (E 0, 60, .inl mf12)), ((ma 13), .inl (E 0, 60, .inl mf13)), ((ma 14), .inl (E 0, 60, .inl mf14)), ((ma 15), .inl (E 0, 60, .inl mf15)), ((ma 16), .inl (E 0, 60, .inl mf16))]) [13, 0, 1, 2, 3, 4, 5, 6, 7, 8, 9, 10, 11, 12] rfl
                    have hD9 := hD.sub (ws' := [(mh, .inr (9, G9 ma mcode mtoday moffs w_16 w_21 w_17 w_20 w_24 w_22 w_18 w_23 w_19 w_167 w_166 mrates mtaped mlaid mat mtk mtkAt mtkNumber mwaits mlisted mdealtMany)), ((ma 2), .inl (E 0, 400, .inl mf2)), ((ma 3), .inl (E 0, 16, .inl mf3)), ((ma 4), .inl (E 0, 16, .inl mf4)), ((ma 5), .inl (E 1, 6400, .inl mf5)), ((ma 6), .inl (E 0, 6400, .inl mf6)), ((ma 7), .inl (E 0, 6400, .inl mf7)), ((ma 8), .inl (E 1, 6400, .inl mf8)), ((ma 9), .inl (E 1, 6400, .inl mf9)), ((ma 12), .inl (E 0, 60, .inl mf12)), ((ma 13), .inl (E 0, 60, .inl mf13)), ((ma 14), .inl (E 0, 60, .inl mf14)), ((ma 15), .inl (E 0, 60, .inl mf15)), ((ma 16), .inl (E 0, 60, .inl mf16))]) [13, 0, 1, 2, 3, 4, 5, 6, 7, 8, 9, 10, 11, 12] (by decide) rfl
                    exact W.iret (v := (-2000000000)) hx hb hr (fun t ht hW => ⟨⟨(-2000000000), (w_166, w_16, w_17, w_18, w_19, w_20, w_21, w_22, w_23, w_24, w_167), rfl, trivial, by rw [ht]; exact hP9, hD9⟩, hS.F ht⟩) hS.2.2 dX9_foretold_278
                  ·
                    refine lv_lload hx hb dX9_foretold_261 (lv_at hl 0 rfl) ?_
                    refine lv_ldc2 hx hb hown (htb _ k_1281) dX9_foretold_263 ?_
                    refine W.lcmp hx hb dX9_foretold_266 ?_
                    refine lv_topi (fun z_192 ez_192 => ?_)
                    refine lv_if_ge (tgt := 275) hx hb dX9_foretold_267 (by decide) (fun c_193 => ?_) (fun c_193 => ?_)
                    ·
                      refine lv_lload hx hb dX9_foretold_275 (lv_at hl 0 rfl) ?_
                      obtain ⟨z_195, ez_195⟩ : ∃ y : Int32, (z_187 : Int64).toInt32 = y := ⟨_, rfl⟩
                      refine lv_l2i hx hb dX9_foretold_277 ez_195 ?_
                      have hP9 := hP.sub (ws' := [(mh, .inr (9, G9 ma mcode mtoday moffs w_16 w_21 w_17 w_20 w_24 w_22 w_18 w_23 w_19 w_167 w_166 mrates mtaped mlaid mat mtk mtkAt mtkNumber mwaits mlisted mdealtMany)), ((ma 2), .inl (E 0, 400, .inl mf2)), ((ma 3), .inl (E 0, 16, .inl mf3)), ((ma 4), .inl (E 0, 16, .inl mf4)), ((ma 5), .inl (E 1, 6400, .inl mf5)), ((ma 6), .inl (E 0, 6400, .inl mf6)), ((ma 7), .inl (E 0, 6400, .inl mf7)), ((ma 8), .inl (E 1, 6400, .inl mf8)), ((ma 9), .inl (E 1, 6400, .inl mf9)), ((ma 12), .inl (E 0, 60, .inl mf12)), ((ma 13), .inl (E 0, 60, .inl mf13)), ((ma 14), .inl (E 0, 60, .inl mf14)), ((ma 15), .inl (E 0, 60, .inl mf15)), ((ma 16), .inl (E 0, 60, .inl mf16))]) [13, 0, 1, 2, 3, 4, 5, 6, 7, 8, 9, 10, 11, 12] rfl
                      have hD9 := hD.sub (ws' := [(mh, .inr (9, G9 ma mcode mtoday moffs w_16 w_21 w_17 w_20 w_24 w_22 w_18 w_23 w_19 w_167 w_166 mrates mtaped mlaid mat mtk mtkAt mtkNumber mwaits mlisted mdealtMany)), ((ma 2), .inl (E 0, 400, .inl mf2)), ((ma 3), .inl (E 0, 16, .inl mf3)), ((ma 4), .inl (E 0, 16, .inl mf4)), ((ma 5), .inl (E 1, 6400, .inl mf5)), ((ma 6), .inl (E 0, 6400, .inl mf6)), ((ma 7), .inl (E 0, 6400, .inl mf7)), ((ma 8), .inl (E 1, 6400, .inl mf8)), ((ma 9), .inl (E 1, 6400, .inl mf9)), ((ma 12), .inl (E 0, 60, .inl mf12)), ((ma 13), .inl (E 0, 60, .inl mf13)), ((ma 14), .inl (E 0, 60, .inl mf14)), ((ma 15), .inl (E 0, 60, .inl mf15)), ((ma 16), .inl (E 0, 60, .inl mf16))]) [13, 0, 1, 2, 3, 4, 5, 6, 7, 8, 9, 10, 11, 12] (by decide) rfl
                      exact W.iret (v := z_195) hx hb hr (fun t ht hW => ⟨⟨z_195, (w_166, w_16, w_17, w_18, w_19, w_20, w_21, w_22, w_23, w_24, w_167), rfl, trivial, by rw [ht]; exact hP9, hD9⟩, hS.F ht⟩) hS.2.2 dX9_foretold_278
                    ·
                      refine lv_ldc hx hb hown (htb _ k_1205) dX9_foretold_270 ?_
                      refine lv_goto (tgt := 278) hx hb dX9_foretold_272 (by decide) ?_
                      have hP9 := hP.sub (ws' := [(mh, .inr (9, G9 ma mcode mtoday moffs w_16 w_21 w_17 w_20 w_24 w_22 w_18 w_23 w_19 w_167 w_166 mrates mtaped mlaid mat mtk mtkAt mtkNumber mwaits mlisted mdealtMany)), ((ma 2), .inl (E 0, 400, .inl mf2)), ((ma 3), .inl (E 0, 16, .inl mf3)), ((ma 4), .inl (E 0, 16, .inl mf4)), ((ma 5), .inl (E 1, 6400, .inl mf5)), ((ma 6), .inl (E 0, 6400, .inl mf6)), ((ma 7), .inl (E 0, 6400, .inl mf7)), ((ma 8), .inl (E 1, 6400, .inl mf8)), ((ma 9), .inl (E 1, 6400, .inl mf9)), ((ma 12), .inl (E 0, 60, .inl mf12)), ((ma 13), .inl (E 0, 60, .inl mf13)), ((ma 14), .inl (E 0, 60, .inl mf14)), ((ma 15), .inl (E 0, 60, .inl mf15)), ((ma 16), .inl (E 0, 60, .inl mf16))]) [13, 0, 1, 2, 3, 4, 5, 6, 7, 8, 9, 10, 11, 12] rfl
                      have hD9 := hD.sub (ws' := [(mh, .inr (9, G9 ma mcode mtoday moffs w_16 w_21 w_17 w_20 w_24 w_22 w_18 w_23 w_19 w_167 w_166 mrates mtaped mlaid mat mtk mtkAt mtkNumber mwaits mlisted mdealtMany)), ((ma 2), .inl (E 0, 400, .inl mf2)), ((ma 3), .inl (E 0, 16, .inl mf3)), ((ma 4), .inl (E 0, 16, .inl mf4)), ((ma 5), .inl (E 1, 6400, .inl mf5)), ((ma 6), .inl (E 0, 6400, .inl mf6)), ((ma 7), .inl (E 0, 6400, .inl mf7)), ((ma 8), .inl (E 1, 6400, .inl mf8)), ((ma 9), .inl (E 1, 6400, .inl mf9)), ((ma 12), .inl (E 0, 60, .inl mf12)), ((ma 13), .inl (E 0, 60, .inl mf13)), ((ma 14), .inl (E 0, 60, .inl mf14)), ((ma 15), .inl (E 0, 60, .inl mf15)), ((ma 16), .inl (E 0, 60, .inl mf16))]) [13, 0, 1, 2, 3, 4, 5, 6, 7, 8, 9, 10, 11, 12] (by decide) rfl
                      exact W.iret (v := (-2000000000)) hx hb hr (fun t ht hW => ⟨⟨(-2000000000), (w_166, w_16, w_17, w_18, w_19, w_20, w_21, w_22, w_23, w_24, w_167), rfl, trivial, by rw [ht]; exact hP9, hD9⟩, hS.F ht⟩) hS.2.2 dX9_foretold_278
                ·
                  refine lv_ldc hx hb hown (htb _ k_1205) dX9_foretold_219 ?_
                  have hP9 := hP.sub (ws' := [(mh, .inr (9, G9 ma mcode mtoday moffs w_16 w_21 w_17 w_20 w_24 w_22 w_18 w_23 w_19 w_167 w_166 mrates mtaped mlaid mat mtk mtkAt mtkNumber mwaits mlisted mdealtMany)), ((ma 2), .inl (E 0, 400, .inl mf2)), ((ma 3), .inl (E 0, 16, .inl mf3)), ((ma 4), .inl (E 0, 16, .inl mf4)), ((ma 5), .inl (E 1, 6400, .inl mf5)), ((ma 6), .inl (E 0, 6400, .inl mf6)), ((ma 7), .inl (E 0, 6400, .inl mf7)), ((ma 8), .inl (E 1, 6400, .inl mf8)), ((ma 9), .inl (E 1, 6400, .inl mf9)), ((ma 12), .inl (E 0, 60, .inl mf12)), ((ma 13), .inl (E 0, 60, .inl mf13)), ((ma 14), .inl (E 0, 60, .inl mf14)), ((ma 15), .inl (E 0, 60, .inl mf15)), ((ma 16), .inl (E 0, 60, .inl mf16))]) [13, 0, 1, 2, 3, 4, 5, 6, 7, 8, 9, 10, 11, 12] rfl
                  have hD9 := hD.sub (ws' := [(mh, .inr (9, G9 ma mcode mtoday moffs w_16 w_21 w_17 w_20 w_24 w_22 w_18 w_23 w_19 w_167 w_166 mrates mtaped mlaid mat mtk mtkAt mtkNumber mwaits mlisted mdealtMany)), ((ma 2), .inl (E 0, 400, .inl mf2)), ((ma 3), .inl (E 0, 16, .inl mf3)), ((ma 4), .inl (E 0, 16, .inl mf4)), ((ma 5), .inl (E 1, 6400, .inl mf5)), ((ma 6), .inl (E 0, 6400, .inl mf6)), ((ma 7), .inl (E 0, 6400, .inl mf7)), ((ma 8), .inl (E 1, 6400, .inl mf8)), ((ma 9), .inl (E 1, 6400, .inl mf9)), ((ma 12), .inl (E 0, 60, .inl mf12)), ((ma 13), .inl (E 0, 60, .inl mf13)), ((ma 14), .inl (E 0, 60, .inl mf14)), ((ma 15), .inl (E 0, 60, .inl mf15)), ((ma 16), .inl (E 0, 60, .inl mf16))]) [13, 0, 1, 2, 3, 4, 5, 6, 7, 8, 9, 10, 11, 12] (by decide) rfl
                  exact W.iret (v := (-2000000000)) hx hb hr (fun t ht hW => ⟨⟨(-2000000000), (w_166, w_16, w_17, w_18, w_19, w_20, w_21, w_22, w_23, w_24, w_167), rfl, trivial, by rw [ht]; exact hP9, hD9⟩, hS.F ht⟩) hS.2.2 dX9_foretold_221
            ·
              refine lv_aload_n hx hb dX9_foretold_170 rfl (lv_at hl 0 rfl) ?_
              refine lv_aload_n hx hb dX9_foretold_171 rfl (lv_at hl 0 rfl) ?_
              refine va_get (D := D) (ci := 9) (v := .long w_166) (C := RX9) (T := TX9) (N := 68) hx hb htb iX9 hown hK.1 hP 13 rfl rfl 27 (by decide) (htb _ k_985) (fun _ h9 => h9) rfl dX9_foretold_172 ?_
              refine lv_lneg hx hb dX9_foretold_175 ?_
              refine lv_topl (fun z_199 ez_199 => ?_)
              have nz_199 : ¬ z_199 = 0 := neg_nz ez_199 nz_168
              refine va_put (D := D) (ci := 9) (v := .long z_199) (ty := .long) (C := RX9) (T := TX9) (N := 68) hx hb htb iX9 tyX9 tyX9_ok nmX9 hown hK.1 hP hD hS 13 rfl rfl 27 (by decide) (htb _ k_985) (fun _ h9 => h9) rfl (by decide +kernel) rfl rfl (Nat.le_of_ble_eq_true rfl) dX9_foretold_176 (fun H locs hP hD hS => ?_)
              have hP : va_P D vwCl [((ma 2), .inl (E 0, 400, .inl mf2)), ((ma 3), .inl (E 0, 16, .inl mf3)), ((ma 4), .inl (E 0, 16, .inl mf4)), ((ma 5), .inl (E 1, 6400, .inl mf5)), ((ma 6), .inl (E 0, 6400, .inl mf6)), ((ma 7), .inl (E 0, 6400, .inl mf7)), ((ma 8), .inl (E 1, 6400, .inl mf8)), ((ma 9), .inl (E 1, 6400, .inl mf9)), ((ma 12), .inl (E 0, 60, .inl mf12)), ((ma 13), .inl (E 0, 60, .inl mf13)), ((ma 14), .inl (E 0, 60, .inl mf14)), ((ma 15), .inl (E 0, 60, .inl mf15)), ((ma 16), .inl (E 0, 60, .inl mf16)), (mh, .inr (9, G9 ma mcode mtoday moffs w_16 w_21 w_17 w_20 w_24 w_22 w_18 w_23 w_19 w_167 z_199 mrates mtaped mlaid mat mtk mtkAt mtkNumber mwaits mlisted mdealtMany))] H := hP
              have hD := toW hP hD rfl
              refine lv_aload_n hx hb dX9_foretold_179 rfl (lv_at hl 0 rfl) ?_
              refine lv_aload_n hx hb dX9_foretold_180 rfl (lv_at hl 0 rfl) ?_
              refine va_get (D := D) (ci := 9) (v := .long w_167) (C := RX9) (T := TX9) (N := 68) hx hb htb iX9 hown hK.1 hP 13 rfl rfl 26 (by decide) (htb _ k_984) (fun _ h9 => h9) rfl dX9_foretold_181 ?_
              refine lv_lneg hx hb dX9_foretold_184 ?_
              refine lv_topl (fun z_200 ez_200 => ?_)
              refine va_put (D := D) (ci := 9) (v := .long z_200) (ty := .long) (C := RX9) (T := TX9) (N := 68) hx hb htb iX9 tyX9 tyX9_ok nmX9 hown hK.1 hP hD hS 13 rfl rfl 26 (by decide) (htb _ k_984) (fun _ h9 => h9) rfl (by decide +kernel) rfl rfl (Nat.le_of_ble_eq_true rfl) dX9_foretold_185 (fun H locs hP hD hS => ?_)
              have hP : va_P D vwCl [((ma 2), .inl (E 0, 400, .inl mf2)), ((ma 3), .inl (E 0, 16, .inl mf3)), ((ma 4), .inl (E 0, 16, .inl mf4)), ((ma 5), .inl (E 1, 6400, .inl mf5)), ((ma 6), .inl (E 0, 6400, .inl mf6)), ((ma 7), .inl (E 0, 6400, .inl mf7)), ((ma 8), .inl (E 1, 6400, .inl mf8)), ((ma 9), .inl (E 1, 6400, .inl mf9)), ((ma 12), .inl (E 0, 60, .inl mf12)), ((ma 13), .inl (E 0, 60, .inl mf13)), ((ma 14), .inl (E 0, 60, .inl mf14)), ((ma 15), .inl (E 0, 60, .inl mf15)), ((ma 16), .inl (E 0, 60, .inl mf16)), (mh, .inr (9, G9 ma mcode mtoday moffs w_16 w_21 w_17 w_20 w_24 w_22 w_18 w_23 w_19 z_200 z_199 mrates mtaped mlaid mat mtk mtkAt mtkNumber mwaits mlisted mdealtMany))] H := hP
              have hD := toW hP hD rfl
              refine lv_aload_n hx hb dX9_foretold_188 rfl (lv_at hl 0 rfl) ?_
              refine va_get (D := D) (ci := 9) (v := .long z_200) (C := RX9) (T := TX9) (N := 68) hx hb htb iX9 hown hK.1 hP 13 rfl rfl 26 (by decide) (htb _ k_984) (fun _ h9 => h9) rfl dX9_foretold_189 ?_
              refine lv_aload_n hx hb dX9_foretold_192 rfl (lv_at hl 0 rfl) ?_
              refine va_get (D := D) (ci := 9) (v := .long z_199) (C := RX9) (T := TX9) (N := 68) hx hb htb iX9 hown hK.1 hP 13 rfl rfl 27 (by decide) (htb _ k_985) (fun _ h9 => h9) rfl dX9_foretold_193 ?_
              refine callLS (rest := []) (As := [.long z_200, .long z_199]) hx hb hml hown htb hK (g_X9_floor l D E z_200 z_199 nz_199) ok_X9_floor k_1311 k_1312 k_9 k_1313 ⟨(Nat.le_of_ble_eq_true rfl), (Nat.le_of_ble_eq_true rfl)⟩ ⟨(Nat.le_of_ble_eq_true rfl), (Nat.le_of_ble_eq_true rfl)⟩ hl.1 (Nat.le_of_ble_eq_true rfl) rfl rfl dX9_foretold_196 (hP.sub (ws' := ([] : va_W)) [] rfl) (fun r_201 hw_202 => ?_)
              refine lv_lstore (lv' := [(6, .long r_201), (0, .ref mh), (1, .int p0), (2, .int p1), (3, .int p2), (4, .int p3), (5, .int p4)]) hx hb dX9_foretold_199 hl (by decide) rfl (fun ls hl => ?_)
              refine lv_lload hx hb dX9_foretold_201 (lv_at hl 0 rfl) ?_
              refine lv_ldc2 hx hb hown (htb _ k_1314) dX9_foretold_203 ?_
              refine W.lcmp hx hb dX9_foretold_206 ?_
              refine lv_topi (fun z_204 ez_204 => ?_)
              refine lv_if_gt (tgt := 219) hx hb dX9_foretold_207 (by decide) (fun c_205 => ?_) (fun c_205 => ?_)
              ·
                refine lv_ldc hx hb hown (htb _ k_1205) dX9_foretold_219 ?_
                have hP9 := hP.sub (ws' := [(mh, .inr (9, G9 ma mcode mtoday moffs w_16 w_21 w_17 w_20 w_24 w_22 w_18 w_23 w_19 z_200 z_199 mrates mtaped mlaid mat mtk mtkAt mtkNumber mwaits mlisted mdealtMany)), ((ma 2), .inl (E 0, 400, .inl mf2)), ((ma 3), .inl (E 0, 16, .inl mf3)), ((ma 4), .inl (E 0, 16, .inl mf4)), ((ma 5), .inl (E 1, 6400, .inl mf5)), ((ma 6), .inl (E 0, 6400, .inl mf6)), ((ma 7), .inl (E 0, 6400, .inl mf7)), ((ma 8), .inl (E 1, 6400, .inl mf8)), ((ma 9), .inl (E 1, 6400, .inl mf9)), ((ma 12), .inl (E 0, 60, .inl mf12)), ((ma 13), .inl (E 0, 60, .inl mf13)), ((ma 14), .inl (E 0, 60, .inl mf14)), ((ma 15), .inl (E 0, 60, .inl mf15)), ((ma 16), .inl (E 0, 60, .inl mf16))]) [13, 0, 1, 2, 3, 4, 5, 6, 7, 8, 9, 10, 11, 12] rfl
                have hD9 := hD.sub (ws' := [(mh, .inr (9, G9 ma mcode mtoday moffs w_16 w_21 w_17 w_20 w_24 w_22 w_18 w_23 w_19 z_200 z_199 mrates mtaped mlaid mat mtk mtkAt mtkNumber mwaits mlisted mdealtMany)), ((ma 2), .inl (E 0, 400, .inl mf2)), ((ma 3), .inl (E 0, 16, .inl mf3)), ((ma 4), .inl (E 0, 16, .inl mf4)), ((ma 5), .inl (E 1, 6400, .inl mf5)), ((ma 6), .inl (E 0, 6400, .inl mf6)), ((ma 7), .inl (E 0, 6400, .inl mf7)), ((ma 8), .inl (E 1, 6400, .inl mf8)), ((ma 9), .inl (E 1, 6400, .inl mf9)), ((ma 12), .inl (E 0, 60, .inl mf12)), ((ma 13), .inl (E 0, 60, .inl mf13)), ((ma 14), .inl (E 0, 60, .inl mf14)), ((ma 15), .inl (E 0, 60, .inl mf15)), ((ma 16), .inl (E 0, 60, .inl mf16))]) [13, 0, 1, 2, 3, 4, 5, 6, 7, 8, 9, 10, 11, 12] (by decide) rfl
                exact W.iret (v := (-2000000000)) hx hb hr (fun t ht hW => ⟨⟨(-2000000000), (z_199, w_16, w_17, w_18, w_19, w_20, w_21, w_22, w_23, w_24, z_200), rfl, trivial, by rw [ht]; exact hP9, hD9⟩, hS.F ht⟩) hS.2.2 dX9_foretold_221
              ·
                refine lv_lload hx hb dX9_foretold_210 (lv_at hl 0 rfl) ?_
                refine lv_ldc2 hx hb hown (htb _ k_1315) dX9_foretold_212 ?_
                refine W.lcmp hx hb dX9_foretold_215 ?_
                refine lv_topi (fun z_208 ez_208 => ?_)
                refine lv_if_ge (tgt := 222) hx hb dX9_foretold_216 (by decide) (fun c_209 => ?_) (fun c_209 => ?_)
                ·
                  refine lv_ldc2 hx hb hown (htb _ k_1316) dX9_foretold_222 ?_
                  refine lv_lload hx hb dX9_foretold_225 (lv_at hl 0 rfl) ?_
                  refine lv_lmul hx hb dX9_foretold_227 ?_
                  refine lv_topl (fun z_211 ez_211 => ?_)
                  refine lv_ldc2 hx hb hown (htb _ k_1316) dX9_foretold_228 ?_
                  refine lv_aload_n hx hb dX9_foretold_231 rfl (lv_at hl 1 rfl) ?_
                  refine va_get (D := D) (ci := 9) (v := .long z_200) (C := RX9) (T := TX9) (N := 68) hx hb htb iX9 hown hK.1 hP 13 rfl rfl 26 (by decide) (htb _ k_984) (fun _ h9 => h9) rfl dX9_foretold_232 ?_
                  refine lv_lload hx hb dX9_foretold_235 (lv_at hl 0 rfl) ?_
                  refine lv_aload_n hx hb dX9_foretold_237 rfl (lv_at hl 1 rfl) ?_
                  refine va_get (D := D) (ci := 9) (v := .long z_199) (C := RX9) (T := TX9) (N := 68) hx hb htb iX9 hown hK.1 hP 13 rfl rfl 27 (by decide) (htb _ k_985) (fun _ h9 => h9) rfl dX9_foretold_238 ?_
                  refine lv_lmul hx hb dX9_foretold_241 ?_
                  refine lv_topl (fun z_212 ez_212 => ?_)
                  refine lv_lsub hx hb dX9_foretold_242 ?_
                  refine lv_topl (fun z_213 ez_213 => ?_)
                  refine lv_lmul hx hb dX9_foretold_243 ?_
                  refine lv_topl (fun z_214 ez_214 => ?_)
                  refine lv_aload_n hx hb dX9_foretold_244 rfl (lv_at hl 1 rfl) ?_
                  refine va_get (D := D) (ci := 9) (v := .long z_199) (C := RX9) (T := TX9) (N := 68) hx hb htb iX9 hown hK.1 hP 13 rfl rfl 27 (by decide) (htb _ k_985) (fun _ h9 => h9) rfl dX9_foretold_245 ?_
                  refine lv_ldiv hx hb dX9_foretold_248 nz_199 ?_
                  refine lv_topl (fun z_215 ez_215 => ?_)
                  refine lv_ladd hx hb dX9_foretold_249 ?_
                  refine lv_topl (fun z_216 ez_216 => ?_)
                  refine lv_lstore (lv' := [(8, .long z_216), (6, .long r_201), (0, .ref mh), (1, .int p0), (2, .int p1), (3, .int p2), (4, .int p3), (5, .int p4)]) hx hb dX9_foretold_250 hl (by decide) rfl (fun ls hl => ?_)
                  refine lv_lload hx hb dX9_foretold_252 (lv_at hl 0 rfl) ?_
                  refine lv_ldc2 hx hb hown (htb _ k_1317) dX9_foretold_254 ?_
                  refine W.lcmp hx hb dX9_foretold_257 ?_
                  refine lv_topi (fun z_217 ez_217 => ?_)
                  refine lv_if_gt (tgt := 270) hx hb dX9_foretold_258 (by decide) (fun c_218 => ?_) (fun c_218 => ?_)
                  ·
                    refine lv_ldc hx hb hown (htb _ k_1205) dX9_foretold_270 ?_
                    refine lv_goto (tgt := 278) hx hb dX9_foretold_272 (by decide) ?_
                    have hP9 := hP.sub (ws' := [(mh, .inr (9, G9 ma mcode mtoday moffs w_16 w_21 w_17 w_20 w_24 w_22 w_18 w_23 w_19 z_200 z_199 mrates mtaped mlaid mat mtk mtkAt mtkNumber mwaits mlisted mdealtMany)), ((ma 2), .inl (E 0, 400, .inl mf2)), ((ma 3), .inl (E 0, 16, .inl mf3)), ((ma 4), .inl (E 0, 16, .inl mf4)), ((ma 5), .inl (E 1, 6400, .inl mf5)), ((ma 6), .inl (E 0, 6400, .inl mf6)), ((ma 7), .inl (E 0, 6400, .inl mf7)), ((ma 8), .inl (E 1, 6400, .inl mf8)), ((ma 9), .inl (E 1, 6400, .inl mf9)), ((ma 12), .inl (E 0, 60, .inl mf12)), ((ma 13), .inl (E 0, 60, .inl mf13)), ((ma 14), .inl (E 0, 60, .inl mf14)), ((ma 15), .inl (E 0, 60, .inl mf15)), ((ma 16), .inl (E 0, 60, .inl mf16))]) [13, 0, 1, 2, 3, 4, 5, 6, 7, 8, 9, 10, 11, 12] rfl
                    have hD9 := hD.sub (ws' := [(mh, .inr (9, G9 ma mcode mtoday moffs w_16 w_21 w_17 w_20 w_24 w_22 w_18 w_23 w_19 z_200 z_199 mrates mtaped mlaid mat mtk mtkAt mtkNumber mwaits mlisted mdealtMany)), ((ma 2), .inl (E 0, 400, .inl mf2)), ((ma 3), .inl (E 0, 16, .inl mf3)), ((ma 4), .inl (E 0, 16, .inl mf4)), ((ma 5), .inl (E 1, 6400, .inl mf5)), ((ma 6), .inl (E 0, 6400, .inl mf6)), ((ma 7), .inl (E 0, 6400, .inl mf7)), ((ma 8), .inl (E 1, 6400, .inl mf8)), ((ma 9), .inl (E 1, 6400, .inl mf9)), ((ma 12), .inl (E 0, 60, .inl mf12)), ((ma 13), .inl (E 0, 60, .inl mf13)), ((ma 14), .inl (E 0, 60, .inl mf14)), ((ma 15), .inl (E 0, 60, .inl mf15)), ((ma 16), .inl (E 0, 60, .inl mf16))]) [13, 0, 1, 2, 3, 4, 5, 6, 7, 8, 9, 10, 11, 12] (by decide) rfl
                    exact W.iret (v := (-2000000000)) hx hb hr (fun t ht hW => ⟨⟨(-2000000000), (z_199, w_16, w_17, w_18, w_19, w_20, w_21, w_22, w_23, w_24, z_200), rfl, trivial, by rw [ht]; exact hP9, hD9⟩, hS.F ht⟩) hS.2.2 dX9_foretold_278
                  ·
                    refine lv_lload hx hb dX9_foretold_261 (lv_at hl 0 rfl) ?_
                    refine lv_ldc2 hx hb hown (htb _ k_1281) dX9_foretold_263 ?_
                    refine W.lcmp hx hb dX9_foretold_266 ?_
                    refine lv_topi (fun z_221 ez_221 => ?_)
                    refine lv_if_ge (tgt := 275) hx hb dX9_foretold_267 (by decide) (fun c_222 => ?_) (fun c_222 => ?_)
                    ·
                      refine lv_lload hx hb dX9_foretold_275 (lv_at hl 0 rfl) ?_
                      obtain ⟨z_224, ez_224⟩ : ∃ y : Int32, (z_216 : Int64).toInt32 = y := ⟨_, rfl⟩
                      refine lv_l2i hx hb dX9_foretold_277 ez_224 ?_
                      have hP9 := hP.sub (ws' := [(mh, .inr (9, G9 ma mcode mtoday moffs w_16 w_21 w_17 w_20 w_24 w_22 w_18 w_23 w_19 z_200 z_199 mrates mtaped mlaid mat mtk mtkAt mtkNumber mwaits mlisted mdealtMany)), ((ma 2), .inl (E 0, 400, .inl mf2)), ((ma 3), .inl (E 0, 16, .inl mf3)), ((ma 4), .inl (E 0, 16, .inl mf4)), ((ma 5), .inl (E 1, 6400, .inl mf5)), ((ma 6), .inl (E 0, 6400, .inl mf6)), ((ma 7), .inl (E 0, 6400, .inl mf7)), ((ma 8), .inl (E 1, 6400, .inl mf8)), ((ma 9), .inl (E 1, 6400, .inl mf9)), ((ma 12), .inl (E 0, 60, .inl mf12)), ((ma 13), .inl (E 0, 60, .inl mf13)), ((ma 14), .inl (E 0, 60, .inl mf14)), ((ma 15), .inl (E 0, 60, .inl mf15)), ((ma 16), .inl (E 0, 60, .inl mf16))]) [13, 0, 1, 2, 3, 4, 5, 6, 7, 8, 9, 10, 11, 12] rfl
                      have hD9 := hD.sub (ws' := [(mh, .inr (9, G9 ma mcode mtoday moffs w_16 w_21 w_17 w_20 w_24 w_22 w_18 w_23 w_19 z_200 z_199 mrates mtaped mlaid mat mtk mtkAt mtkNumber mwaits mlisted mdealtMany)), ((ma 2), .inl (E 0, 400, .inl mf2)), ((ma 3), .inl (E 0, 16, .inl mf3)), ((ma 4), .inl (E 0, 16, .inl mf4)), ((ma 5), .inl (E 1, 6400, .inl mf5)), ((ma 6), .inl (E 0, 6400, .inl mf6)), ((ma 7), .inl (E 0, 6400, .inl mf7)), ((ma 8), .inl (E 1, 6400, .inl mf8)), ((ma 9), .inl (E 1, 6400, .inl mf9)), ((ma 12), .inl (E 0, 60, .inl mf12)), ((ma 13), .inl (E 0, 60, .inl mf13)), ((ma 14), .inl (E 0, 60, .inl mf14)), ((ma 15), .inl (E 0, 60, .inl mf15)), ((ma 16), .inl (E 0, 60, .inl mf16))]) [13, 0, 1, 2, 3, 4, 5, 6, 7, 8, 9, 10, 11, 12] (by decide) rfl
                      exact W.iret (v := z_224) hx hb hr (fun t ht hW => ⟨⟨z_224, (z_199, w_16, w_17, w_18, w_19, w_20, w_21, w_22, w_23, w_24, z_200), rfl, trivial, by rw [ht]; exact hP9, hD9⟩, hS.F ht⟩) hS.2.2 dX9_foretold_278
                    ·
                      refine lv_ldc hx hb hown (htb _ k_1205) dX9_foretold_270 ?_
                      refine lv_goto (tgt := 278) hx hb dX9_foretold_272 (by decide) ?_
                      have hP9 := hP.sub (ws' := [(mh, .inr (9, G9 ma mcode mtoday moffs w_16 w_21 w_17 w_20 w_24 w_22 w_18 w_23 w_19 z_200 z_199 mrates mtaped mlaid mat mtk mtkAt mtkNumber mwaits mlisted mdealtMany)), ((ma 2), .inl (E 0, 400, .inl mf2)), ((ma 3), .inl (E 0, 16, .inl mf3)), ((ma 4), .inl (E 0, 16, .inl mf4)), ((ma 5), .inl (E 1, 6400, .inl mf5)), ((ma 6), .inl (E 0, 6400, .inl mf6)), ((ma 7), .inl (E 0, 6400, .inl mf7)), ((ma 8), .inl (E 1, 6400, .inl mf8)), ((ma 9), .inl (E 1, 6400, .inl mf9)), ((ma 12), .inl (E 0, 60, .inl mf12)), ((ma 13), .inl (E 0, 60, .inl mf13)), ((ma 14), .inl (E 0, 60, .inl mf14)), ((ma 15), .inl (E 0, 60, .inl mf15)), ((ma 16), .inl (E 0, 60, .inl mf16))]) [13, 0, 1, 2, 3, 4, 5, 6, 7, 8, 9, 10, 11, 12] rfl
                      have hD9 := hD.sub (ws' := [(mh, .inr (9, G9 ma mcode mtoday moffs w_16 w_21 w_17 w_20 w_24 w_22 w_18 w_23 w_19 z_200 z_199 mrates mtaped mlaid mat mtk mtkAt mtkNumber mwaits mlisted mdealtMany)), ((ma 2), .inl (E 0, 400, .inl mf2)), ((ma 3), .inl (E 0, 16, .inl mf3)), ((ma 4), .inl (E 0, 16, .inl mf4)), ((ma 5), .inl (E 1, 6400, .inl mf5)), ((ma 6), .inl (E 0, 6400, .inl mf6)), ((ma 7), .inl (E 0, 6400, .inl mf7)), ((ma 8), .inl (E 1, 6400, .inl mf8)), ((ma 9), .inl (E 1, 6400, .inl mf9)), ((ma 12), .inl (E 0, 60, .inl mf12)), ((ma 13), .inl (E 0, 60, .inl mf13)), ((ma 14), .inl (E 0, 60, .inl mf14)), ((ma 15), .inl (E 0, 60, .inl mf15)), ((ma 16), .inl (E 0, 60, .inl mf16))]) [13, 0, 1, 2, 3, 4, 5, 6, 7, 8, 9, 10, 11, 12] (by decide) rfl
                      exact W.iret (v := (-2000000000)) hx hb hr (fun t ht hW => ⟨⟨(-2000000000), (z_199, w_16, w_17, w_18, w_19, w_20, w_21, w_22, w_23, w_24, z_200), rfl, trivial, by rw [ht]; exact hP9, hD9⟩, hS.F ht⟩) hS.2.2 dX9_foretold_278
                ·
                  refine lv_ldc hx hb hown (htb _ k_1205) dX9_foretold_219 ?_
                  have hP9 := hP.sub (ws' := [(mh, .inr (9, G9 ma mcode mtoday moffs w_16 w_21 w_17 w_20 w_24 w_22 w_18 w_23 w_19 z_200 z_199 mrates mtaped mlaid mat mtk mtkAt mtkNumber mwaits mlisted mdealtMany)), ((ma 2), .inl (E 0, 400, .inl mf2)), ((ma 3), .inl (E 0, 16, .inl mf3)), ((ma 4), .inl (E 0, 16, .inl mf4)), ((ma 5), .inl (E 1, 6400, .inl mf5)), ((ma 6), .inl (E 0, 6400, .inl mf6)), ((ma 7), .inl (E 0, 6400, .inl mf7)), ((ma 8), .inl (E 1, 6400, .inl mf8)), ((ma 9), .inl (E 1, 6400, .inl mf9)), ((ma 12), .inl (E 0, 60, .inl mf12)), ((ma 13), .inl (E 0, 60, .inl mf13)), ((ma 14), .inl (E 0, 60, .inl mf14)), ((ma 15), .inl (E 0, 60, .inl mf15)), ((ma 16), .inl (E 0, 60, .inl mf16))]) [13, 0, 1, 2, 3, 4, 5, 6, 7, 8, 9, 10, 11, 12] rfl
                  have hD9 := hD.sub (ws' := [(mh, .inr (9, G9 ma mcode mtoday moffs w_16 w_21 w_17 w_20 w_24 w_22 w_18 w_23 w_19 z_200 z_199 mrates mtaped mlaid mat mtk mtkAt mtkNumber mwaits mlisted mdealtMany)), ((ma 2), .inl (E 0, 400, .inl mf2)), ((ma 3), .inl (E 0, 16, .inl mf3)), ((ma 4), .inl (E 0, 16, .inl mf4)), ((ma 5), .inl (E 1, 6400, .inl mf5)), ((ma 6), .inl (E 0, 6400, .inl mf6)), ((ma 7), .inl (E 0, 6400, .inl mf7)), ((ma 8), .inl (E 1, 6400, .inl mf8)), ((ma 9), .inl (E 1, 6400, .inl mf9)), ((ma 12), .inl (E 0, 60, .inl mf12)), ((ma 13), .inl (E 0, 60, .inl mf13)), ((ma 14), .inl (E 0, 60, .inl mf14)), ((ma 15), .inl (E 0, 60, .inl mf15)), ((ma 16), .inl (E 0, 60, .inl mf16))]) [13, 0, 1, 2, 3, 4, 5, 6, 7, 8, 9, 10, 11, 12] (by decide) rfl
                  exact W.iret (v := (-2000000000)) hx hb hr (fun t ht hW => ⟨⟨(-2000000000), (z_199, w_16, w_17, w_18, w_19, w_20, w_21, w_22, w_23, w_24, z_200), rfl, trivial, by rw [ht]; exact hP9, hD9⟩, hS.F ht⟩) hS.2.2 dX9_foretold_221
          ·
            refine W_top (y := .int 1) (by rw [hr_28]) ?_
            refine lv_tableOut (x := 1) (tgt := 145) hx hb dX9_foretold_60 (by decide) (by decide) ?_
            refine lv_aload_n hx hb dX9_foretold_145 rfl (lv_at hl 0 rfl) ?_
            refine lv_aload_n hx hb dX9_foretold_146 rfl (lv_at hl 0 rfl) ?_
            refine va_get (D := D) (ci := 9) (v := .long w_16) (C := RX9) (T := TX9) (N := 68) hx hb htb iX9 hown hK.1 hP 0 rfl rfl 17 (by decide) (htb _ k_975) (fun _ h9 => h9) rfl dX9_foretold_147 ?_
            refine va_put (D := D) (ci := 9) (v := .long w_16) (ty := .long) (C := RX9) (T := TX9) (N := 68) hx hb htb iX9 tyX9 tyX9_ok nmX9 hown hK.1 hP hD hS 0 rfl rfl 27 (by decide) (htb _ k_985) (fun _ h9 => h9) rfl (by decide +kernel) rfl rfl (Nat.le_of_ble_eq_true rfl) dX9_foretold_150 (fun H locs hP hD hS => ?_)
            have hP : va_P D vwCl [(mh, .inr (9, G9 ma mcode mtoday moffs w_16 w_21 w_17 w_20 w_24 w_22 w_18 w_23 w_19 mupper w_16 mrates mtaped mlaid mat mtk mtkAt mtkNumber mwaits mlisted mdealtMany)), ((ma 2), .inl (E 0, 400, .inl mf2)), ((ma 3), .inl (E 0, 16, .inl mf3)), ((ma 4), .inl (E 0, 16, .inl mf4)), ((ma 5), .inl (E 1, 6400, .inl mf5)), ((ma 6), .inl (E 0, 6400, .inl mf6)), ((ma 7), .inl (E 0, 6400, .inl mf7)), ((ma 8), .inl (E 1, 6400, .inl mf8)), ((ma 9), .inl (E 1, 6400, .inl mf9)), ((ma 12), .inl (E 0, 60, .inl mf12)), ((ma 13), .inl (E 0, 60, .inl mf13)), ((ma 14), .inl (E 0, 60, .inl mf14)), ((ma 15), .inl (E 0, 60, .inl mf15)), ((ma 16), .inl (E 0, 60, .inl mf16))] H := hP
            have hD := toW hP hD rfl
            refine lv_aload_n hx hb dX9_foretold_153 rfl (lv_at hl 0 rfl) ?_
            refine lv_aload_n hx hb dX9_foretold_154 rfl (lv_at hl 0 rfl) ?_
            refine va_get (D := D) (ci := 9) (v := .long w_20) (C := RX9) (T := TX9) (N := 68) hx hb htb iX9 hown hK.1 hP 0 rfl rfl 20 (by decide) (htb _ k_978) (fun _ h9 => h9) rfl dX9_foretold_155 ?_
            refine va_put (D := D) (ci := 9) (v := .long w_20) (ty := .long) (C := RX9) (T := TX9) (N := 68) hx hb htb iX9 tyX9 tyX9_ok nmX9 hown hK.1 hP hD hS 0 rfl rfl 26 (by decide) (htb _ k_984) (fun _ h9 => h9) rfl (by decide +kernel) rfl rfl (Nat.le_of_ble_eq_true rfl) dX9_foretold_158 (fun H locs hP hD hS => ?_)
            have hP : va_P D vwCl [(mh, .inr (9, G9 ma mcode mtoday moffs w_16 w_21 w_17 w_20 w_24 w_22 w_18 w_23 w_19 w_20 w_16 mrates mtaped mlaid mat mtk mtkAt mtkNumber mwaits mlisted mdealtMany)), ((ma 2), .inl (E 0, 400, .inl mf2)), ((ma 3), .inl (E 0, 16, .inl mf3)), ((ma 4), .inl (E 0, 16, .inl mf4)), ((ma 5), .inl (E 1, 6400, .inl mf5)), ((ma 6), .inl (E 0, 6400, .inl mf6)), ((ma 7), .inl (E 0, 6400, .inl mf7)), ((ma 8), .inl (E 1, 6400, .inl mf8)), ((ma 9), .inl (E 1, 6400, .inl mf9)), ((ma 12), .inl (E 0, 60, .inl mf12)), ((ma 13), .inl (E 0, 60, .inl mf13)), ((ma 14), .inl (E 0, 60, .inl mf14)), ((ma 15), .inl (E 0, 60, .inl mf15)), ((ma 16), .inl (E 0, 60, .inl mf16))] H := hP
            have hD := toW hP hD rfl
            refine lv_aload_n hx hb dX9_foretold_161 rfl (lv_at hl 0 rfl) ?_
            refine va_get (D := D) (ci := 9) (v := .long w_16) (C := RX9) (T := TX9) (N := 68) hx hb htb iX9 hown hK.1 hP 0 rfl rfl 27 (by decide) (htb _ k_985) (fun _ h9 => h9) rfl dX9_foretold_162 ?_
            refine lv_lconst (v := 0) hx hb dX9_foretold_165 (by decide) ?_
            refine W.lcmp hx hb dX9_foretold_166 ?_
            refine lv_topi (fun z_227 ez_227 => ?_)
            refine lv_if_ge (tgt := 188) hx hb dX9_foretold_167 (by decide) (fun c_228 => ?_) (fun c_228 => ?_)
            ·
              refine lv_aload_n hx hb dX9_foretold_188 rfl (lv_at hl 0 rfl) ?_
              refine va_get (D := D) (ci := 9) (v := .long w_20) (C := RX9) (T := TX9) (N := 68) hx hb htb iX9 hown hK.1 hP 0 rfl rfl 26 (by decide) (htb _ k_984) (fun _ h9 => h9) rfl dX9_foretold_189 ?_
              refine lv_aload_n hx hb dX9_foretold_192 rfl (lv_at hl 0 rfl) ?_
              refine va_get (D := D) (ci := 9) (v := .long w_16) (C := RX9) (T := TX9) (N := 68) hx hb htb iX9 hown hK.1 hP 0 rfl rfl 27 (by decide) (htb _ k_985) (fun _ h9 => h9) rfl dX9_foretold_193 ?_
              refine callLS (rest := []) (As := [.long w_20, .long w_16]) hx hb hml hown htb hK (g_X9_floor l D E w_20 w_16 lc_27) ok_X9_floor k_1311 k_1312 k_9 k_1313 ⟨(Nat.le_of_ble_eq_true rfl), (Nat.le_of_ble_eq_true rfl)⟩ ⟨(Nat.le_of_ble_eq_true rfl), (Nat.le_of_ble_eq_true rfl)⟩ hl.1 (Nat.le_of_ble_eq_true rfl) rfl rfl dX9_foretold_196 (hP.sub (ws' := ([] : va_W)) [] rfl) (fun r_230 hw_231 => ?_)
              refine lv_lstore (lv' := [(6, .long r_230), (0, .ref mh), (1, .int p0), (2, .int p1), (3, .int p2), (4, .int p3), (5, .int p4)]) hx hb dX9_foretold_199 hl (by decide) rfl (fun ls hl => ?_)
              refine lv_lload hx hb dX9_foretold_201 (lv_at hl 0 rfl) ?_
              refine lv_ldc2 hx hb hown (htb _ k_1314) dX9_foretold_203 ?_
              refine W.lcmp hx hb dX9_foretold_206 ?_
              refine lv_topi (fun z_233 ez_233 => ?_)
              refine lv_if_gt (tgt := 219) hx hb dX9_foretold_207 (by decide) (fun c_234 => ?_) (fun c_234 => ?_)
              ·
                refine lv_ldc hx hb hown (htb _ k_1205) dX9_foretold_219 ?_
                have hP9 := hP.sub (ws' := [(mh, .inr (9, G9 ma mcode mtoday moffs w_16 w_21 w_17 w_20 w_24 w_22 w_18 w_23 w_19 w_20 w_16 mrates mtaped mlaid mat mtk mtkAt mtkNumber mwaits mlisted mdealtMany)), ((ma 2), .inl (E 0, 400, .inl mf2)), ((ma 3), .inl (E 0, 16, .inl mf3)), ((ma 4), .inl (E 0, 16, .inl mf4)), ((ma 5), .inl (E 1, 6400, .inl mf5)), ((ma 6), .inl (E 0, 6400, .inl mf6)), ((ma 7), .inl (E 0, 6400, .inl mf7)), ((ma 8), .inl (E 1, 6400, .inl mf8)), ((ma 9), .inl (E 1, 6400, .inl mf9)), ((ma 12), .inl (E 0, 60, .inl mf12)), ((ma 13), .inl (E 0, 60, .inl mf13)), ((ma 14), .inl (E 0, 60, .inl mf14)), ((ma 15), .inl (E 0, 60, .inl mf15)), ((ma 16), .inl (E 0, 60, .inl mf16))]) [0, 1, 2, 3, 4, 5, 6, 7, 8, 9, 10, 11, 12, 13] rfl
                have hD9 := hD.sub (ws' := [(mh, .inr (9, G9 ma mcode mtoday moffs w_16 w_21 w_17 w_20 w_24 w_22 w_18 w_23 w_19 w_20 w_16 mrates mtaped mlaid mat mtk mtkAt mtkNumber mwaits mlisted mdealtMany)), ((ma 2), .inl (E 0, 400, .inl mf2)), ((ma 3), .inl (E 0, 16, .inl mf3)), ((ma 4), .inl (E 0, 16, .inl mf4)), ((ma 5), .inl (E 1, 6400, .inl mf5)), ((ma 6), .inl (E 0, 6400, .inl mf6)), ((ma 7), .inl (E 0, 6400, .inl mf7)), ((ma 8), .inl (E 1, 6400, .inl mf8)), ((ma 9), .inl (E 1, 6400, .inl mf9)), ((ma 12), .inl (E 0, 60, .inl mf12)), ((ma 13), .inl (E 0, 60, .inl mf13)), ((ma 14), .inl (E 0, 60, .inl mf14)), ((ma 15), .inl (E 0, 60, .inl mf15)), ((ma 16), .inl (E 0, 60, .inl mf16))]) [0, 1, 2, 3, 4, 5, 6, 7, 8, 9, 10, 11, 12, 13] (by decide) rfl
                exact W.iret (v := (-2000000000)) hx hb hr (fun t ht hW => ⟨⟨(-2000000000), (w_16, w_16, w_17, w_18, w_19, w_20, w_21, w_22, w_23, w_24, w_20), rfl, trivial, by rw [ht]; exact hP9, hD9⟩, hS.F ht⟩) hS.2.2 dX9_foretold_221
              ·
                refine lv_lload hx hb dX9_foretold_210 (lv_at hl 0 rfl) ?_
                refine lv_ldc2 hx hb hown (htb _ k_1315) dX9_foretold_212 ?_
                refine W.lcmp hx hb dX9_foretold_215 ?_
                refine lv_topi (fun z_237 ez_237 => ?_)
                refine lv_if_ge (tgt := 222) hx hb dX9_foretold_216 (by decide) (fun c_238 => ?_) (fun c_238 => ?_)
                ·
                  refine lv_ldc2 hx hb hown (htb _ k_1316) dX9_foretold_222 ?_
                  refine lv_lload hx hb dX9_foretold_225 (lv_at hl 0 rfl) ?_
                  refine lv_lmul hx hb dX9_foretold_227 ?_
                  refine lv_topl (fun z_240 ez_240 => ?_)
                  refine lv_ldc2 hx hb hown (htb _ k_1316) dX9_foretold_228 ?_
                  refine lv_aload_n hx hb dX9_foretold_231 rfl (lv_at hl 1 rfl) ?_
                  refine va_get (D := D) (ci := 9) (v := .long w_20) (C := RX9) (T := TX9) (N := 68) hx hb htb iX9 hown hK.1 hP 0 rfl rfl 26 (by decide) (htb _ k_984) (fun _ h9 => h9) rfl dX9_foretold_232 ?_
                  refine lv_lload hx hb dX9_foretold_235 (lv_at hl 0 rfl) ?_
                  refine lv_aload_n hx hb dX9_foretold_237 rfl (lv_at hl 1 rfl) ?_
                  refine va_get (D := D) (ci := 9) (v := .long w_16) (C := RX9) (T := TX9) (N := 68) hx hb htb iX9 hown hK.1 hP 0 rfl rfl 27 (by decide) (htb _ k_985) (fun _ h9 => h9) rfl dX9_foretold_238 ?_
                  refine lv_lmul hx hb dX9_foretold_241 ?_
                  refine lv_topl (fun z_241 ez_241 => ?_)
                  refine lv_lsub hx hb dX9_foretold_242 ?_
                  refine lv_topl (fun z_242 ez_242 => ?_)
                  refine lv_lmul hx hb dX9_foretold_243 ?_
                  refine lv_topl (fun z_243 ez_243 => ?_)
                  refine lv_aload_n hx hb dX9_foretold_244 rfl (lv_at hl 1 rfl) ?_
                  refine va_get (D := D) (ci := 9) (v := .long w_16) (C := RX9) (T := TX9) (N := 68) hx hb htb iX9 hown hK.1 hP 0 rfl rfl 27 (by decide) (htb _ k_985) (fun _ h9 => h9) rfl dX9_foretold_245 ?_
                  refine lv_ldiv hx hb dX9_foretold_248 lc_27 ?_
                  refine lv_topl (fun z_244 ez_244 => ?_)
                  refine lv_ladd hx hb dX9_foretold_249 ?_
                  refine lv_topl (fun z_245 ez_245 => ?_)
                  refine lv_lstore (lv' := [(8, .long z_245), (6, .long r_230), (0, .ref mh), (1, .int p0), (2, .int p1), (3, .int p2), (4, .int p3), (5, .int p4)]) hx hb dX9_foretold_250 hl (by decide) rfl (fun ls hl => ?_)
                  refine lv_lload hx hb dX9_foretold_252 (lv_at hl 0 rfl) ?_
                  refine lv_ldc2 hx hb hown (htb _ k_1317) dX9_foretold_254 ?_
                  refine W.lcmp hx hb dX9_foretold_257 ?_
                  refine lv_topi (fun z_246 ez_246 => ?_)
                  refine lv_if_gt (tgt := 270) hx hb dX9_foretold_258 (by decide) (fun c_247 => ?_) (fun c_247 => ?_)
                  ·
                    refine lv_ldc hx hb hown (htb _ k_1205) dX9_foretold_270 ?_
                    refine lv_goto (tgt := 278) hx hb dX9_foretold_272 (by decide) ?_
                    have hP9 := hP.sub (ws' := [(mh, .inr (9, G9 ma mcode mtoday moffs w_16 w_21 w_17 w_20 w_24 w_22 w_18 w_23 w_19 w_20 w_16 mrates mtaped mlaid mat mtk mtkAt mtkNumber mwaits mlisted mdealtMany)), ((ma 2), .inl (E 0, 400, .inl mf2)), ((ma 3), .inl (E 0, 16, .inl mf3)), ((ma 4), .inl (E 0, 16, .inl mf4)), ((ma 5), .inl (E 1, 6400, .inl mf5)), ((ma 6), .inl (E 0, 6400, .inl mf6)), ((ma 7), .inl (E 0, 6400, .inl mf7)), ((ma 8), .inl (E 1, 6400, .inl mf8)), ((ma 9), .inl (E 1, 6400, .inl mf9)), ((ma 12), .inl (E 0, 60, .inl mf12)), ((ma 13), .inl (E 0, 60, .inl mf13)), ((ma 14), .inl (E 0, 60, .inl mf14)), ((ma 15), .inl (E 0, 60, .inl mf15)), ((ma 16), .inl (E 0, 60, .inl mf16))]) [0, 1, 2, 3, 4, 5, 6, 7, 8, 9, 10, 11, 12, 13] rfl
                    have hD9 := hD.sub (ws' := [(mh, .inr (9, G9 ma mcode mtoday moffs w_16 w_21 w_17 w_20 w_24 w_22 w_18 w_23 w_19 w_20 w_16 mrates mtaped mlaid mat mtk mtkAt mtkNumber mwaits mlisted mdealtMany)), ((ma 2), .inl (E 0, 400, .inl mf2)), ((ma 3), .inl (E 0, 16, .inl mf3)), ((ma 4), .inl (E 0, 16, .inl mf4)), ((ma 5), .inl (E 1, 6400, .inl mf5)), ((ma 6), .inl (E 0, 6400, .inl mf6)), ((ma 7), .inl (E 0, 6400, .inl mf7)), ((ma 8), .inl (E 1, 6400, .inl mf8)), ((ma 9), .inl (E 1, 6400, .inl mf9)), ((ma 12), .inl (E 0, 60, .inl mf12)), ((ma 13), .inl (E 0, 60, .inl mf13)), ((ma 14), .inl (E 0, 60, .inl mf14)), ((ma 15), .inl (E 0, 60, .inl mf15)), ((ma 16), .inl (E 0, 60, .inl mf16))]) [0, 1, 2, 3, 4, 5, 6, 7, 8, 9, 10, 11, 12, 13] (by decide) rfl
                    exact W.iret (v := (-2000000000)) hx hb hr (fun t ht hW => ⟨⟨(-2000000000), (w_16, w_16, w_17, w_18, w_19, w_20, w_21, w_22, w_23, w_24, w_20), rfl, trivial, by rw [ht]; exact hP9, hD9⟩, hS.F ht⟩) hS.2.2 dX9_foretold_278
                  ·
                    refine lv_lload hx hb dX9_foretold_261 (lv_at hl 0 rfl) ?_
                    refine lv_ldc2 hx hb hown (htb _ k_1281) dX9_foretold_263 ?_
                    refine W.lcmp hx hb dX9_foretold_266 ?_
                    refine lv_topi (fun z_250 ez_250 => ?_)
                    refine lv_if_ge (tgt := 275) hx hb dX9_foretold_267 (by decide) (fun c_251 => ?_) (fun c_251 => ?_)
                    ·
                      refine lv_lload hx hb dX9_foretold_275 (lv_at hl 0 rfl) ?_
                      obtain ⟨z_253, ez_253⟩ : ∃ y : Int32, (z_245 : Int64).toInt32 = y := ⟨_, rfl⟩
                      refine lv_l2i hx hb dX9_foretold_277 ez_253 ?_
                      have hP9 := hP.sub (ws' := [(mh, .inr (9, G9 ma mcode mtoday moffs w_16 w_21 w_17 w_20 w_24 w_22 w_18 w_23 w_19 w_20 w_16 mrates mtaped mlaid mat mtk mtkAt mtkNumber mwaits mlisted mdealtMany)), ((ma 2), .inl (E 0, 400, .inl mf2)), ((ma 3), .inl (E 0, 16, .inl mf3)), ((ma 4), .inl (E 0, 16, .inl mf4)), ((ma 5), .inl (E 1, 6400, .inl mf5)), ((ma 6), .inl (E 0, 6400, .inl mf6)), ((ma 7), .inl (E 0, 6400, .inl mf7)), ((ma 8), .inl (E 1, 6400, .inl mf8)), ((ma 9), .inl (E 1, 6400, .inl mf9)), ((ma 12), .inl (E 0, 60, .inl mf12)), ((ma 13), .inl (E 0, 60, .inl mf13)), ((ma 14), .inl (E 0, 60, .inl mf14)), ((ma 15), .inl (E 0, 60, .inl mf15)), ((ma 16), .inl (E 0, 60, .inl mf16))]) [0, 1, 2, 3, 4, 5, 6, 7, 8, 9, 10, 11, 12, 13] rfl
                      have hD9 := hD.sub (ws' := [(mh, .inr (9, G9 ma mcode mtoday moffs w_16 w_21 w_17 w_20 w_24 w_22 w_18 w_23 w_19 w_20 w_16 mrates mtaped mlaid mat mtk mtkAt mtkNumber mwaits mlisted mdealtMany)), ((ma 2), .inl (E 0, 400, .inl mf2)), ((ma 3), .inl (E 0, 16, .inl mf3)), ((ma 4), .inl (E 0, 16, .inl mf4)), ((ma 5), .inl (E 1, 6400, .inl mf5)), ((ma 6), .inl (E 0, 6400, .inl mf6)), ((ma 7), .inl (E 0, 6400, .inl mf7)), ((ma 8), .inl (E 1, 6400, .inl mf8)), ((ma 9), .inl (E 1, 6400, .inl mf9)), ((ma 12), .inl (E 0, 60, .inl mf12)), ((ma 13), .inl (E 0, 60, .inl mf13)), ((ma 14), .inl (E 0, 60, .inl mf14)), ((ma 15), .inl (E 0, 60, .inl mf15)), ((ma 16), .inl (E 0, 60, .inl mf16))]) [0, 1, 2, 3, 4, 5, 6, 7, 8, 9, 10, 11, 12, 13] (by decide) rfl
                      exact W.iret (v := z_253) hx hb hr (fun t ht hW => ⟨⟨z_253, (w_16, w_16, w_17, w_18, w_19, w_20, w_21, w_22, w_23, w_24, w_20), rfl, trivial, by rw [ht]; exact hP9, hD9⟩, hS.F ht⟩) hS.2.2 dX9_foretold_278
                    ·
                      refine lv_ldc hx hb hown (htb _ k_1205) dX9_foretold_270 ?_
                      refine lv_goto (tgt := 278) hx hb dX9_foretold_272 (by decide) ?_
                      have hP9 := hP.sub (ws' := [(mh, .inr (9, G9 ma mcode mtoday moffs w_16 w_21 w_17 w_20 w_24 w_22 w_18 w_23 w_19 w_20 w_16 mrates mtaped mlaid mat mtk mtkAt mtkNumber mwaits mlisted mdealtMany)), ((ma 2), .inl (E 0, 400, .inl mf2)), ((ma 3), .inl (E 0, 16, .inl mf3)), ((ma 4), .inl (E 0, 16, .inl mf4)), ((ma 5), .inl (E 1, 6400, .inl mf5)), ((ma 6), .inl (E 0, 6400, .inl mf6)), ((ma 7), .inl (E 0, 6400, .inl mf7)), ((ma 8), .inl (E 1, 6400, .inl mf8)), ((ma 9), .inl (E 1, 6400, .inl mf9)), ((ma 12), .inl (E 0, 60, .inl mf12)), ((ma 13), .inl (E 0, 60, .inl mf13)), ((ma 14), .inl (E 0, 60, .inl mf14)), ((ma 15), .inl (E 0, 60, .inl mf15)), ((ma 16), .inl (E 0, 60, .inl mf16))]) [0, 1, 2, 3, 4, 5, 6, 7, 8, 9, 10, 11, 12, 13] rfl
                      have hD9 := hD.sub (ws' := [(mh, .inr (9, G9 ma mcode mtoday moffs w_16 w_21 w_17 w_20 w_24 w_22 w_18 w_23 w_19 w_20 w_16 mrates mtaped mlaid mat mtk mtkAt mtkNumber mwaits mlisted mdealtMany)), ((ma 2), .inl (E 0, 400, .inl mf2)), ((ma 3), .inl (E 0, 16, .inl mf3)), ((ma 4), .inl (E 0, 16, .inl mf4)), ((ma 5), .inl (E 1, 6400, .inl mf5)), ((ma 6), .inl (E 0, 6400, .inl mf6)), ((ma 7), .inl (E 0, 6400, .inl mf7)), ((ma 8), .inl (E 1, 6400, .inl mf8)), ((ma 9), .inl (E 1, 6400, .inl mf9)), ((ma 12), .inl (E 0, 60, .inl mf12)), ((ma 13), .inl (E 0, 60, .inl mf13)), ((ma 14), .inl (E 0, 60, .inl mf14)), ((ma 15), .inl (E 0, 60, .inl mf15)), ((ma 16), .inl (E 0, 60, .inl mf16))]) [0, 1, 2, 3, 4, 5, 6, 7, 8, 9, 10, 11, 12, 13] (by decide) rfl
                      exact W.iret (v := (-2000000000)) hx hb hr (fun t ht hW => ⟨⟨(-2000000000), (w_16, w_16, w_17, w_18, w_19, w_20, w_21, w_22, w_23, w_24, w_20), rfl, trivial, by rw [ht]; exact hP9, hD9⟩, hS.F ht⟩) hS.2.2 dX9_foretold_278
                ·
                  refine lv_ldc hx hb hown (htb _ k_1205) dX9_foretold_219 ?_
                  have hP9 := hP.sub (ws' := [(mh, .inr (9, G9 ma mcode mtoday moffs w_16 w_21 w_17 w_20 w_24 w_22 w_18 w_23 w_19 w_20 w_16 mrates mtaped mlaid mat mtk mtkAt mtkNumber mwaits mlisted mdealtMany)), ((ma 2), .inl (E 0, 400, .inl mf2)), ((ma 3), .inl (E 0, 16, .inl mf3)), ((ma 4), .inl (E 0, 16, .inl mf4)), ((ma 5), .inl (E 1, 6400, .inl mf5)), ((ma 6), .inl (E 0, 6400, .inl mf6)), ((ma 7), .inl (E 0, 6400, .inl mf7)), ((ma 8), .inl (E 1, 6400, .inl mf8)), ((ma 9), .inl (E 1, 6400, .inl mf9)), ((ma 12), .inl (E 0, 60, .inl mf12)), ((ma 13), .inl (E 0, 60, .inl mf13)), ((ma 14), .inl (E 0, 60, .inl mf14)), ((ma 15), .inl (E 0, 60, .inl mf15)), ((ma 16), .inl (E 0, 60, .inl mf16))]) [0, 1, 2, 3, 4, 5, 6, 7, 8, 9, 10, 11, 12, 13] rfl
                  have hD9 := hD.sub (ws' := [(mh, .inr (9, G9 ma mcode mtoday moffs w_16 w_21 w_17 w_20 w_24 w_22 w_18 w_23 w_19 w_20 w_16 mrates mtaped mlaid mat mtk mtkAt mtkNumber mwaits mlisted mdealtMany)), ((ma 2), .inl (E 0, 400, .inl mf2)), ((ma 3), .inl (E 0, 16, .inl mf3)), ((ma 4), .inl (E 0, 16, .inl mf4)), ((ma 5), .inl (E 1, 6400, .inl mf5)), ((ma 6), .inl (E 0, 6400, .inl mf6)), ((ma 7), .inl (E 0, 6400, .inl mf7)), ((ma 8), .inl (E 1, 6400, .inl mf8)), ((ma 9), .inl (E 1, 6400, .inl mf9)), ((ma 12), .inl (E 0, 60, .inl mf12)), ((ma 13), .inl (E 0, 60, .inl mf13)), ((ma 14), .inl (E 0, 60, .inl mf14)), ((ma 15), .inl (E 0, 60, .inl mf15)), ((ma 16), .inl (E 0, 60, .inl mf16))]) [0, 1, 2, 3, 4, 5, 6, 7, 8, 9, 10, 11, 12, 13] (by decide) rfl
                  exact W.iret (v := (-2000000000)) hx hb hr (fun t ht hW => ⟨⟨(-2000000000), (w_16, w_16, w_17, w_18, w_19, w_20, w_21, w_22, w_23, w_24, w_20), rfl, trivial, by rw [ht]; exact hP9, hD9⟩, hS.F ht⟩) hS.2.2 dX9_foretold_221
            ·
              refine lv_aload_n hx hb dX9_foretold_170 rfl (lv_at hl 0 rfl) ?_
              refine lv_aload_n hx hb dX9_foretold_171 rfl (lv_at hl 0 rfl) ?_
              refine va_get (D := D) (ci := 9) (v := .long w_16) (C := RX9) (T := TX9) (N := 68) hx hb htb iX9 hown hK.1 hP 0 rfl rfl 27 (by decide) (htb _ k_985) (fun _ h9 => h9) rfl dX9_foretold_172 ?_
              refine lv_lneg hx hb dX9_foretold_175 ?_
              refine lv_topl (fun z_257 ez_257 => ?_)
              have nz_257 : ¬ z_257 = 0 := neg_nz ez_257 lc_27
              refine va_put (D := D) (ci := 9) (v := .long z_257) (ty := .long) (C := RX9) (T := TX9) (N := 68) hx hb htb iX9 tyX9 tyX9_ok nmX9 hown hK.1 hP hD hS 0 rfl rfl 27 (by decide) (htb _ k_985) (fun _ h9 => h9) rfl (by decide +kernel) rfl rfl (Nat.le_of_ble_eq_true rfl) dX9_foretold_176 (fun H locs hP hD hS => ?_)
              have hP : va_P D vwCl [(mh, .inr (9, G9 ma mcode mtoday moffs w_16 w_21 w_17 w_20 w_24 w_22 w_18 w_23 w_19 w_20 z_257 mrates mtaped mlaid mat mtk mtkAt mtkNumber mwaits mlisted mdealtMany)), ((ma 2), .inl (E 0, 400, .inl mf2)), ((ma 3), .inl (E 0, 16, .inl mf3)), ((ma 4), .inl (E 0, 16, .inl mf4)), ((ma 5), .inl (E 1, 6400, .inl mf5)), ((ma 6), .inl (E 0, 6400, .inl mf6)), ((ma 7), .inl (E 0, 6400, .inl mf7)), ((ma 8), .inl (E 1, 6400, .inl mf8)), ((ma 9), .inl (E 1, 6400, .inl mf9)), ((ma 12), .inl (E 0, 60, .inl mf12)), ((ma 13), .inl (E 0, 60, .inl mf13)), ((ma 14), .inl (E 0, 60, .inl mf14)), ((ma 15), .inl (E 0, 60, .inl mf15)), ((ma 16), .inl (E 0, 60, .inl mf16))] H := hP
              have hD := toW hP hD rfl
              refine lv_aload_n hx hb dX9_foretold_179 rfl (lv_at hl 0 rfl) ?_
              refine lv_aload_n hx hb dX9_foretold_180 rfl (lv_at hl 0 rfl) ?_
              refine va_get (D := D) (ci := 9) (v := .long w_20) (C := RX9) (T := TX9) (N := 68) hx hb htb iX9 hown hK.1 hP 0 rfl rfl 26 (by decide) (htb _ k_984) (fun _ h9 => h9) rfl dX9_foretold_181 ?_
              refine lv_lneg hx hb dX9_foretold_184 ?_
              refine lv_topl (fun z_258 ez_258 => ?_)
              refine va_put (D := D) (ci := 9) (v := .long z_258) (ty := .long) (C := RX9) (T := TX9) (N := 68) hx hb htb iX9 tyX9 tyX9_ok nmX9 hown hK.1 hP hD hS 0 rfl rfl 26 (by decide) (htb _ k_984) (fun _ h9 => h9) rfl (by decide +kernel) rfl rfl (Nat.le_of_ble_eq_true rfl) dX9_foretold_185 (fun H locs hP hD hS => ?_)
              have hP : va_P D vwCl [(mh, .inr (9, G9 ma mcode mtoday moffs w_16 w_21 w_17 w_20 w_24 w_22 w_18 w_23 w_19 z_258 z_257 mrates mtaped mlaid mat mtk mtkAt mtkNumber mwaits mlisted mdealtMany)), ((ma 2), .inl (E 0, 400, .inl mf2)), ((ma 3), .inl (E 0, 16, .inl mf3)), ((ma 4), .inl (E 0, 16, .inl mf4)), ((ma 5), .inl (E 1, 6400, .inl mf5)), ((ma 6), .inl (E 0, 6400, .inl mf6)), ((ma 7), .inl (E 0, 6400, .inl mf7)), ((ma 8), .inl (E 1, 6400, .inl mf8)), ((ma 9), .inl (E 1, 6400, .inl mf9)), ((ma 12), .inl (E 0, 60, .inl mf12)), ((ma 13), .inl (E 0, 60, .inl mf13)), ((ma 14), .inl (E 0, 60, .inl mf14)), ((ma 15), .inl (E 0, 60, .inl mf15)), ((ma 16), .inl (E 0, 60, .inl mf16))] H := hP
              have hD := toW hP hD rfl
              refine lv_aload_n hx hb dX9_foretold_188 rfl (lv_at hl 0 rfl) ?_
              refine va_get (D := D) (ci := 9) (v := .long z_258) (C := RX9) (T := TX9) (N := 68) hx hb htb iX9 hown hK.1 hP 0 rfl rfl 26 (by decide) (htb _ k_984) (fun _ h9 => h9) rfl dX9_foretold_189 ?_
              refine lv_aload_n hx hb dX9_foretold_192 rfl (lv_at hl 0 rfl) ?_
              refine va_get (D := D) (ci := 9) (v := .long z_257) (C := RX9) (T := TX9) (N := 68) hx hb htb iX9 hown hK.1 hP 0 rfl rfl 27 (by decide) (htb _ k_985) (fun _ h9 => h9) rfl dX9_foretold_193 ?_
              refine callLS (rest := []) (As := [.long z_258, .long z_257]) hx hb hml hown htb hK (g_X9_floor l D E z_258 z_257 nz_257) ok_X9_floor k_1311 k_1312 k_9 k_1313 ⟨(Nat.le_of_ble_eq_true rfl), (Nat.le_of_ble_eq_true rfl)⟩ ⟨(Nat.le_of_ble_eq_true rfl), (Nat.le_of_ble_eq_true rfl)⟩ hl.1 (Nat.le_of_ble_eq_true rfl) rfl rfl dX9_foretold_196 (hP.sub (ws' := ([] : va_W)) [] rfl) (fun r_259 hw_260 => ?_)
              refine lv_lstore (lv' := [(6, .long r_259), (0, .ref mh), (1, .int p0), (2, .int p1), (3, .int p2), (4, .int p3), (5, .int p4)]) hx hb dX9_foretold_199 hl (by decide) rfl (fun ls hl => ?_)
              refine lv_lload hx hb dX9_foretold_201 (lv_at hl 0 rfl) ?_
              refine lv_ldc2 hx hb hown (htb _ k_1314) dX9_foretold_203 ?_
              refine W.lcmp hx hb dX9_foretold_206 ?_
              refine lv_topi (fun z_262 ez_262 => ?_)
              refine lv_if_gt (tgt := 219) hx hb dX9_foretold_207 (by decide) (fun c_263 => ?_) (fun c_263 => ?_)
              ·
                refine lv_ldc hx hb hown (htb _ k_1205) dX9_foretold_219 ?_
                have hP9 := hP.sub (ws' := [(mh, .inr (9, G9 ma mcode mtoday moffs w_16 w_21 w_17 w_20 w_24 w_22 w_18 w_23 w_19 z_258 z_257 mrates mtaped mlaid mat mtk mtkAt mtkNumber mwaits mlisted mdealtMany)), ((ma 2), .inl (E 0, 400, .inl mf2)), ((ma 3), .inl (E 0, 16, .inl mf3)), ((ma 4), .inl (E 0, 16, .inl mf4)), ((ma 5), .inl (E 1, 6400, .inl mf5)), ((ma 6), .inl (E 0, 6400, .inl mf6)), ((ma 7), .inl (E 0, 6400, .inl mf7)), ((ma 8), .inl (E 1, 6400, .inl mf8)), ((ma 9), .inl (E 1, 6400, .inl mf9)), ((ma 12), .inl (E 0, 60, .inl mf12)), ((ma 13), .inl (E 0, 60, .inl mf13)), ((ma 14), .inl (E 0, 60, .inl mf14)), ((ma 15), .inl (E 0, 60, .inl mf15)), ((ma 16), .inl (E 0, 60, .inl mf16))]) [0, 1, 2, 3, 4, 5, 6, 7, 8, 9, 10, 11, 12, 13] rfl
                have hD9 := hD.sub (ws' := [(mh, .inr (9, G9 ma mcode mtoday moffs w_16 w_21 w_17 w_20 w_24 w_22 w_18 w_23 w_19 z_258 z_257 mrates mtaped mlaid mat mtk mtkAt mtkNumber mwaits mlisted mdealtMany)), ((ma 2), .inl (E 0, 400, .inl mf2)), ((ma 3), .inl (E 0, 16, .inl mf3)), ((ma 4), .inl (E 0, 16, .inl mf4)), ((ma 5), .inl (E 1, 6400, .inl mf5)), ((ma 6), .inl (E 0, 6400, .inl mf6)), ((ma 7), .inl (E 0, 6400, .inl mf7)), ((ma 8), .inl (E 1, 6400, .inl mf8)), ((ma 9), .inl (E 1, 6400, .inl mf9)), ((ma 12), .inl (E 0, 60, .inl mf12)), ((ma 13), .inl (E 0, 60, .inl mf13)), ((ma 14), .inl (E 0, 60, .inl mf14)), ((ma 15), .inl (E 0, 60, .inl mf15)), ((ma 16), .inl (E 0, 60, .inl mf16))]) [0, 1, 2, 3, 4, 5, 6, 7, 8, 9, 10, 11, 12, 13] (by decide) rfl
                exact W.iret (v := (-2000000000)) hx hb hr (fun t ht hW => ⟨⟨(-2000000000), (z_257, w_16, w_17, w_18, w_19, w_20, w_21, w_22, w_23, w_24, z_258), rfl, trivial, by rw [ht]; exact hP9, hD9⟩, hS.F ht⟩) hS.2.2 dX9_foretold_221
              ·
                refine lv_lload hx hb dX9_foretold_210 (lv_at hl 0 rfl) ?_
                refine lv_ldc2 hx hb hown (htb _ k_1315) dX9_foretold_212 ?_
                refine W.lcmp hx hb dX9_foretold_215 ?_
                refine lv_topi (fun z_266 ez_266 => ?_)
                refine lv_if_ge (tgt := 222) hx hb dX9_foretold_216 (by decide) (fun c_267 => ?_) (fun c_267 => ?_)
                ·
                  refine lv_ldc2 hx hb hown (htb _ k_1316) dX9_foretold_222 ?_
                  refine lv_lload hx hb dX9_foretold_225 (lv_at hl 0 rfl) ?_
                  refine lv_lmul hx hb dX9_foretold_227 ?_
                  refine lv_topl (fun z_269 ez_269 => ?_)
                  refine lv_ldc2 hx hb hown (htb _ k_1316) dX9_foretold_228 ?_
                  refine lv_aload_n hx hb dX9_foretold_231 rfl (lv_at hl 1 rfl) ?_
                  refine va_get (D := D) (ci := 9) (v := .long z_258) (C := RX9) (T := TX9) (N := 68) hx hb htb iX9 hown hK.1 hP 0 rfl rfl 26 (by decide) (htb _ k_984) (fun _ h9 => h9) rfl dX9_foretold_232 ?_
                  refine lv_lload hx hb dX9_foretold_235 (lv_at hl 0 rfl) ?_
                  refine lv_aload_n hx hb dX9_foretold_237 rfl (lv_at hl 1 rfl) ?_
                  refine va_get (D := D) (ci := 9) (v := .long z_257) (C := RX9) (T := TX9) (N := 68) hx hb htb iX9 hown hK.1 hP 0 rfl rfl 27 (by decide) (htb _ k_985) (fun _ h9 => h9) rfl dX9_foretold_238 ?_
                  refine lv_lmul hx hb dX9_foretold_241 ?_
                  refine lv_topl (fun z_270 ez_270 => ?_)
                  refine lv_lsub hx hb dX9_foretold_242 ?_
                  refine lv_topl (fun z_271 ez_271 => ?_)
                  refine lv_lmul hx hb dX9_foretold_243 ?_
                  refine lv_topl (fun z_272 ez_272 => ?_)
                  refine lv_aload_n hx hb dX9_foretold_244 rfl (lv_at hl 1 rfl) ?_
                  refine va_get (D := D) (ci := 9) (v := .long z_257) (C := RX9) (T := TX9) (N := 68) hx hb htb iX9 hown hK.1 hP 0 rfl rfl 27 (by decide) (htb _ k_985) (fun _ h9 => h9) rfl dX9_foretold_245 ?_
                  refine lv_ldiv hx hb dX9_foretold_248 nz_257 ?_
                  refine lv_topl (fun z_273 ez_273 => ?_)
                  refine lv_ladd hx hb dX9_foretold_249 ?_
                  refine lv_topl (fun z_274 ez_274 => ?_)
                  refine lv_lstore (lv' := [(8, .long z_274), (6, .long r_259), (0, .ref mh), (1, .int p0), (2, .int p1), (3, .int p2), (4, .int p3), (5, .int p4)]) hx hb dX9_foretold_250 hl (by decide) rfl (fun ls hl => ?_)
                  refine lv_lload hx hb dX9_foretold_252 (lv_at hl 0 rfl) ?_
                  refine lv_ldc2 hx hb hown (htb _ k_1317) dX9_foretold_254 ?_
                  refine W.lcmp hx hb dX9_foretold_257 ?_
                  refine lv_topi (fun z_275 ez_275 => ?_)
                  refine lv_if_gt (tgt := 270) hx hb dX9_foretold_258 (by decide) (fun c_276 => ?_) (fun c_276 => ?_)
                  ·
                    refine lv_ldc hx hb hown (htb _ k_1205) dX9_foretold_270 ?_
                    refine lv_goto (tgt := 278) hx hb dX9_foretold_272 (by decide) ?_
                    have hP9 := hP.sub (ws' := [(mh, .inr (9, G9 ma mcode mtoday moffs w_16 w_21 w_17 w_20 w_24 w_22 w_18 w_23 w_19 z_258 z_257 mrates mtaped mlaid mat mtk mtkAt mtkNumber mwaits mlisted mdealtMany)), ((ma 2), .inl (E 0, 400, .inl mf2)), ((ma 3), .inl (E 0, 16, .inl mf3)), ((ma 4), .inl (E 0, 16, .inl mf4)), ((ma 5), .inl (E 1, 6400, .inl mf5)), ((ma 6), .inl (E 0, 6400, .inl mf6)), ((ma 7), .inl (E 0, 6400, .inl mf7)), ((ma 8), .inl (E 1, 6400, .inl mf8)), ((ma 9), .inl (E 1, 6400, .inl mf9)), ((ma 12), .inl (E 0, 60, .inl mf12)), ((ma 13), .inl (E 0, 60, .inl mf13)), ((ma 14), .inl (E 0, 60, .inl mf14)), ((ma 15), .inl (E 0, 60, .inl mf15)), ((ma 16), .inl (E 0, 60, .inl mf16))]) [0, 1, 2, 3, 4, 5, 6, 7, 8, 9, 10, 11, 12, 13] rfl
                    have hD9 := hD.sub (ws' := [(mh, .inr (9, G9 ma mcode mtoday moffs w_16 w_21 w_17 w_20 w_24 w_22 w_18 w_23 w_19 z_258 z_257 mrates mtaped mlaid mat mtk mtkAt mtkNumber mwaits mlisted mdealtMany)), ((ma 2), .inl (E 0, 400, .inl mf2)), ((ma 3), .inl (E 0, 16, .inl mf3)), ((ma 4), .inl (E 0, 16, .inl mf4)), ((ma 5), .inl (E 1, 6400, .inl mf5)), ((ma 6), .inl (E 0, 6400, .inl mf6)), ((ma 7), .inl (E 0, 6400, .inl mf7)), ((ma 8), .inl (E 1, 6400, .inl mf8)), ((ma 9), .inl (E 1, 6400, .inl mf9)), ((ma 12), .inl (E 0, 60, .inl mf12)), ((ma 13), .inl (E 0, 60, .inl mf13)), ((ma 14), .inl (E 0, 60, .inl mf14)), ((ma 15), .inl (E 0, 60, .inl mf15)), ((ma 16), .inl (E 0, 60, .inl mf16))]) [0, 1, 2, 3, 4, 5, 6, 7, 8, 9, 10, 11, 12, 13] (by decide) rfl
                    exact W.iret (v := (-2000000000)) hx hb hr (fun t ht hW => ⟨⟨(-2000000000), (z_257, w_16, w_17, w_18, w_19, w_20, w_21, w_22, w_23, w_24, z_258), rfl, trivial, by rw [ht]; exact hP9, hD9⟩, hS.F ht⟩) hS.2.2 dX9_foretold_278
                  ·
                    refine lv_lload hx hb dX9_foretold_261 (lv_at hl 0 rfl) ?_
                    refine lv_ldc2 hx hb hown (htb _ k_1281) dX9_foretold_263 ?_
                    refine W.lcmp hx hb dX9_foretold_266 ?_
                    refine lv_topi (fun z_279 ez_279 => ?_)
                    refine lv_if_ge (tgt := 275) hx hb dX9_foretold_267 (by decide) (fun c_280 => ?_) (fun c_280 => ?_)
                    ·
                      refine lv_lload hx hb dX9_foretold_275 (lv_at hl 0 rfl) ?_
                      obtain ⟨z_282, ez_282⟩ : ∃ y : Int32, (z_274 : Int64).toInt32 = y := ⟨_, rfl⟩
                      refine lv_l2i hx hb dX9_foretold_277 ez_282 ?_
                      have hP9 := hP.sub (ws' := [(mh, .inr (9, G9 ma mcode mtoday moffs w_16 w_21 w_17 w_20 w_24 w_22 w_18 w_23 w_19 z_258 z_257 mrates mtaped mlaid mat mtk mtkAt mtkNumber mwaits mlisted mdealtMany)), ((ma 2), .inl (E 0, 400, .inl mf2)), ((ma 3), .inl (E 0, 16, .inl mf3)), ((ma 4), .inl (E 0, 16, .inl mf4)), ((ma 5), .inl (E 1, 6400, .inl mf5)), ((ma 6), .inl (E 0, 6400, .inl mf6)), ((ma 7), .inl (E 0, 6400, .inl mf7)), ((ma 8), .inl (E 1, 6400, .inl mf8)), ((ma 9), .inl (E 1, 6400, .inl mf9)), ((ma 12), .inl (E 0, 60, .inl mf12)), ((ma 13), .inl (E 0, 60, .inl mf13)), ((ma 14), .inl (E 0, 60, .inl mf14)), ((ma 15), .inl (E 0, 60, .inl mf15)), ((ma 16), .inl (E 0, 60, .inl mf16))]) [0, 1, 2, 3, 4, 5, 6, 7, 8, 9, 10, 11, 12, 13] rfl
                      have hD9 := hD.sub (ws' := [(mh, .inr (9, G9 ma mcode mtoday moffs w_16 w_21 w_17 w_20 w_24 w_22 w_18 w_23 w_19 z_258 z_257 mrates mtaped mlaid mat mtk mtkAt mtkNumber mwaits mlisted mdealtMany)), ((ma 2), .inl (E 0, 400, .inl mf2)), ((ma 3), .inl (E 0, 16, .inl mf3)), ((ma 4), .inl (E 0, 16, .inl mf4)), ((ma 5), .inl (E 1, 6400, .inl mf5)), ((ma 6), .inl (E 0, 6400, .inl mf6)), ((ma 7), .inl (E 0, 6400, .inl mf7)), ((ma 8), .inl (E 1, 6400, .inl mf8)), ((ma 9), .inl (E 1, 6400, .inl mf9)), ((ma 12), .inl (E 0, 60, .inl mf12)), ((ma 13), .inl (E 0, 60, .inl mf13)), ((ma 14), .inl (E 0, 60, .inl mf14)), ((ma 15), .inl (E 0, 60, .inl mf15)), ((ma 16), .inl (E 0, 60, .inl mf16))]) [0, 1, 2, 3, 4, 5, 6, 7, 8, 9, 10, 11, 12, 13] (by decide) rfl
                      exact W.iret (v := z_282) hx hb hr (fun t ht hW => ⟨⟨z_282, (z_257, w_16, w_17, w_18, w_19, w_20, w_21, w_22, w_23, w_24, z_258), rfl, trivial, by rw [ht]; exact hP9, hD9⟩, hS.F ht⟩) hS.2.2 dX9_foretold_278
                    ·
                      refine lv_ldc hx hb hown (htb _ k_1205) dX9_foretold_270 ?_
                      refine lv_goto (tgt := 278) hx hb dX9_foretold_272 (by decide) ?_
                      have hP9 := hP.sub (ws' := [(mh, .inr (9, G9 ma mcode mtoday moffs w_16 w_21 w_17 w_20 w_24 w_22 w_18 w_23 w_19 z_258 z_257 mrates mtaped mlaid mat mtk mtkAt mtkNumber mwaits mlisted mdealtMany)), ((ma 2), .inl (E 0, 400, .inl mf2)), ((ma 3), .inl (E 0, 16, .inl mf3)), ((ma 4), .inl (E 0, 16, .inl mf4)), ((ma 5), .inl (E 1, 6400, .inl mf5)), ((ma 6), .inl (E 0, 6400, .inl mf6)), ((ma 7), .inl (E 0, 6400, .inl mf7)), ((ma 8), .inl (E 1, 6400, .inl mf8)), ((ma 9), .inl (E 1, 6400, .inl mf9)), ((ma 12), .inl (E 0, 60, .inl mf12)), ((ma 13), .inl (E 0, 60, .inl mf13)), ((ma 14), .inl (E 0, 60, .inl mf14)), ((ma 15), .inl (E 0, 60, .inl mf15)), ((ma 16), .inl (E 0, 60, .inl mf16))]) [0, 1, 2, 3, 4, 5, 6, 7, 8, 9, 10, 11, 12, 13] rfl
                      have hD9 := hD.sub (ws' := [(mh, .inr (9, G9 ma mcode mtoday moffs w_16 w_21 w_17 w_20 w_24 w_22 w_18 w_23 w_19 z_258 z_257 mrates mtaped mlaid mat mtk mtkAt mtkNumber mwaits mlisted mdealtMany)), ((ma 2), .inl (E 0, 400, .inl mf2)), ((ma 3), .inl (E 0, 16, .inl mf3)), ((ma 4), .inl (E 0, 16, .inl mf4)), ((ma 5), .inl (E 1, 6400, .inl mf5)), ((ma 6), .inl (E 0, 6400, .inl mf6)), ((ma 7), .inl (E 0, 6400, .inl mf7)), ((ma 8), .inl (E 1, 6400, .inl mf8)), ((ma 9), .inl (E 1, 6400, .inl mf9)), ((ma 12), .inl (E 0, 60, .inl mf12)), ((ma 13), .inl (E 0, 60, .inl mf13)), ((ma 14), .inl (E 0, 60, .inl mf14)), ((ma 15), .inl (E 0, 60, .inl mf15)), ((ma 16), .inl (E 0, 60, .inl mf16))]) [0, 1, 2, 3, 4, 5, 6, 7, 8, 9, 10, 11, 12, 13] (by decide) rfl
                      exact W.iret (v := (-2000000000)) hx hb hr (fun t ht hW => ⟨⟨(-2000000000), (z_257, w_16, w_17, w_18, w_19, w_20, w_21, w_22, w_23, w_24, z_258), rfl, trivial, by rw [ht]; exact hP9, hD9⟩, hS.F ht⟩) hS.2.2 dX9_foretold_278
                ·
                  refine lv_ldc hx hb hown (htb _ k_1205) dX9_foretold_219 ?_
                  have hP9 := hP.sub (ws' := [(mh, .inr (9, G9 ma mcode mtoday moffs w_16 w_21 w_17 w_20 w_24 w_22 w_18 w_23 w_19 z_258 z_257 mrates mtaped mlaid mat mtk mtkAt mtkNumber mwaits mlisted mdealtMany)), ((ma 2), .inl (E 0, 400, .inl mf2)), ((ma 3), .inl (E 0, 16, .inl mf3)), ((ma 4), .inl (E 0, 16, .inl mf4)), ((ma 5), .inl (E 1, 6400, .inl mf5)), ((ma 6), .inl (E 0, 6400, .inl mf6)), ((ma 7), .inl (E 0, 6400, .inl mf7)), ((ma 8), .inl (E 1, 6400, .inl mf8)), ((ma 9), .inl (E 1, 6400, .inl mf9)), ((ma 12), .inl (E 0, 60, .inl mf12)), ((ma 13), .inl (E 0, 60, .inl mf13)), ((ma 14), .inl (E 0, 60, .inl mf14)), ((ma 15), .inl (E 0, 60, .inl mf15)), ((ma 16), .inl (E 0, 60, .inl mf16))]) [0, 1, 2, 3, 4, 5, 6, 7, 8, 9, 10, 11, 12, 13] rfl
                  have hD9 := hD.sub (ws' := [(mh, .inr (9, G9 ma mcode mtoday moffs w_16 w_21 w_17 w_20 w_24 w_22 w_18 w_23 w_19 z_258 z_257 mrates mtaped mlaid mat mtk mtkAt mtkNumber mwaits mlisted mdealtMany)), ((ma 2), .inl (E 0, 400, .inl mf2)), ((ma 3), .inl (E 0, 16, .inl mf3)), ((ma 4), .inl (E 0, 16, .inl mf4)), ((ma 5), .inl (E 1, 6400, .inl mf5)), ((ma 6), .inl (E 0, 6400, .inl mf6)), ((ma 7), .inl (E 0, 6400, .inl mf7)), ((ma 8), .inl (E 1, 6400, .inl mf8)), ((ma 9), .inl (E 1, 6400, .inl mf9)), ((ma 12), .inl (E 0, 60, .inl mf12)), ((ma 13), .inl (E 0, 60, .inl mf13)), ((ma 14), .inl (E 0, 60, .inl mf14)), ((ma 15), .inl (E 0, 60, .inl mf15)), ((ma 16), .inl (E 0, 60, .inl mf16))]) [0, 1, 2, 3, 4, 5, 6, 7, 8, 9, 10, 11, 12, 13] (by decide) rfl
                  exact W.iret (v := (-2000000000)) hx hb hr (fun t ht hW => ⟨⟨(-2000000000), (z_257, w_16, w_17, w_18, w_19, w_20, w_21, w_22, w_23, w_24, z_258), rfl, trivial, by rw [ht]; exact hP9, hD9⟩, hS.F ht⟩) hS.2.2 dX9_foretold_221
        ·
          have lc_285 : (w_16 : Int64) = (0 : Int64) := lc_eq (by rw [← ez_25]; exact c_26)
          refine lv_ldc hx hb hown (htb _ k_1205) dX9_foretold_53 ?_
          have hP9 := hP.sub (ws' := [(mh, .inr (9, G9 ma mcode mtoday moffs w_16 w_21 w_17 w_20 w_24 w_22 w_18 w_23 w_19 mupper mlower mrates mtaped mlaid mat mtk mtkAt mtkNumber mwaits mlisted mdealtMany)), ((ma 2), .inl (E 0, 400, .inl mf2)), ((ma 3), .inl (E 0, 16, .inl mf3)), ((ma 4), .inl (E 0, 16, .inl mf4)), ((ma 5), .inl (E 1, 6400, .inl mf5)), ((ma 6), .inl (E 0, 6400, .inl mf6)), ((ma 7), .inl (E 0, 6400, .inl mf7)), ((ma 8), .inl (E 1, 6400, .inl mf8)), ((ma 9), .inl (E 1, 6400, .inl mf9)), ((ma 12), .inl (E 0, 60, .inl mf12)), ((ma 13), .inl (E 0, 60, .inl mf13)), ((ma 14), .inl (E 0, 60, .inl mf14)), ((ma 15), .inl (E 0, 60, .inl mf15)), ((ma 16), .inl (E 0, 60, .inl mf16))]) [0, 1, 2, 3, 4, 5, 6, 7, 8, 9, 10, 11, 12, 13] rfl
          have hD9 := hD.sub (ws' := [(mh, .inr (9, G9 ma mcode mtoday moffs w_16 w_21 w_17 w_20 w_24 w_22 w_18 w_23 w_19 mupper mlower mrates mtaped mlaid mat mtk mtkAt mtkNumber mwaits mlisted mdealtMany)), ((ma 2), .inl (E 0, 400, .inl mf2)), ((ma 3), .inl (E 0, 16, .inl mf3)), ((ma 4), .inl (E 0, 16, .inl mf4)), ((ma 5), .inl (E 1, 6400, .inl mf5)), ((ma 6), .inl (E 0, 6400, .inl mf6)), ((ma 7), .inl (E 0, 6400, .inl mf7)), ((ma 8), .inl (E 1, 6400, .inl mf8)), ((ma 9), .inl (E 1, 6400, .inl mf9)), ((ma 12), .inl (E 0, 60, .inl mf12)), ((ma 13), .inl (E 0, 60, .inl mf13)), ((ma 14), .inl (E 0, 60, .inl mf14)), ((ma 15), .inl (E 0, 60, .inl mf15)), ((ma 16), .inl (E 0, 60, .inl mf16))]) [0, 1, 2, 3, 4, 5, 6, 7, 8, 9, 10, 11, 12, 13] (by decide) rfl
          exact W.iret (v := (-2000000000)) hx hb hr (fun t ht hW => ⟨⟨(-2000000000), (mlower, w_16, w_17, w_18, w_19, w_20, w_21, w_22, w_23, w_24, mupper), rfl, trivial, by rw [ht]; exact hP9, hD9⟩, hS.F ht⟩) hS.2.2 dX9_foretold_55
      ·
        try simp only [t_0, t_399] at hw_10
        refine W_top (y := .int 0) (by rw [hr_9]) ?_
        refine lv_if_ne (tgt := 37) hx hb dX9_foretold_31 (by decide) (fun c_286 => absurd (by decide) c_286) (fun c_286 => ?_)
        refine lv_ldc hx hb hown (htb _ k_1205) dX9_foretold_34 ?_
        have hP9 := hP.sub (ws' := [(mh, .inr (9, G9 ma mcode mtoday moffs mmany msumW msumA msumR msumWW msumWA msumAA msumWR msumAR mupper mlower mrates mtaped mlaid mat mtk mtkAt mtkNumber mwaits mlisted mdealtMany)), ((ma 2), .inl (E 0, 400, .inl mf2)), ((ma 3), .inl (E 0, 16, .inl mf3)), ((ma 4), .inl (E 0, 16, .inl mf4)), ((ma 5), .inl (E 1, 6400, .inl mf5)), ((ma 6), .inl (E 0, 6400, .inl mf6)), ((ma 7), .inl (E 0, 6400, .inl mf7)), ((ma 8), .inl (E 1, 6400, .inl mf8)), ((ma 9), .inl (E 1, 6400, .inl mf9)), ((ma 12), .inl (E 0, 60, .inl mf12)), ((ma 13), .inl (E 0, 60, .inl mf13)), ((ma 14), .inl (E 0, 60, .inl mf14)), ((ma 15), .inl (E 0, 60, .inl mf15)), ((ma 16), .inl (E 0, 60, .inl mf16))]) [0, 1, 2, 3, 4, 5, 6, 7, 8, 9, 10, 11, 12, 13] rfl
        have hD9 := hD.sub (ws' := [(mh, .inr (9, G9 ma mcode mtoday moffs mmany msumW msumA msumR msumWW msumWA msumAA msumWR msumAR mupper mlower mrates mtaped mlaid mat mtk mtkAt mtkNumber mwaits mlisted mdealtMany)), ((ma 2), .inl (E 0, 400, .inl mf2)), ((ma 3), .inl (E 0, 16, .inl mf3)), ((ma 4), .inl (E 0, 16, .inl mf4)), ((ma 5), .inl (E 1, 6400, .inl mf5)), ((ma 6), .inl (E 0, 6400, .inl mf6)), ((ma 7), .inl (E 0, 6400, .inl mf7)), ((ma 8), .inl (E 1, 6400, .inl mf8)), ((ma 9), .inl (E 1, 6400, .inl mf9)), ((ma 12), .inl (E 0, 60, .inl mf12)), ((ma 13), .inl (E 0, 60, .inl mf13)), ((ma 14), .inl (E 0, 60, .inl mf14)), ((ma 15), .inl (E 0, 60, .inl mf15)), ((ma 16), .inl (E 0, 60, .inl mf16))]) [0, 1, 2, 3, 4, 5, 6, 7, 8, 9, 10, 11, 12, 13] (by decide) rfl
        exact W.iret (v := (-2000000000)) hx hb hr (fun t ht hW => ⟨⟨(-2000000000), (mlower, mmany, msumA, msumAA, msumAR, msumR, msumW, msumWA, msumWR, msumWW, mupper), rfl, trivial, by rw [ht]; exact hP9, hD9⟩, hS.F ht⟩) hS.2.2 dX9_foretold_36
    ·
      try simp only [t_m50, t_50] at hw_6
      refine W_top (y := .int 0) (by rw [hr_5]) ?_
      refine lv_if_eq (tgt := 34) hx hb dX9_foretold_19 (by decide) (fun c_287 => ?_) (fun c_287 => absurd (by decide) c_287)
      refine lv_ldc hx hb hown (htb _ k_1205) dX9_foretold_34 ?_
      have hP9 := hP.sub (ws' := [(mh, .inr (9, G9 ma mcode mtoday moffs mmany msumW msumA msumR msumWW msumWA msumAA msumWR msumAR mupper mlower mrates mtaped mlaid mat mtk mtkAt mtkNumber mwaits mlisted mdealtMany)), ((ma 2), .inl (E 0, 400, .inl mf2)), ((ma 3), .inl (E 0, 16, .inl mf3)), ((ma 4), .inl (E 0, 16, .inl mf4)), ((ma 5), .inl (E 1, 6400, .inl mf5)), ((ma 6), .inl (E 0, 6400, .inl mf6)), ((ma 7), .inl (E 0, 6400, .inl mf7)), ((ma 8), .inl (E 1, 6400, .inl mf8)), ((ma 9), .inl (E 1, 6400, .inl mf9)), ((ma 12), .inl (E 0, 60, .inl mf12)), ((ma 13), .inl (E 0, 60, .inl mf13)), ((ma 14), .inl (E 0, 60, .inl mf14)), ((ma 15), .inl (E 0, 60, .inl mf15)), ((ma 16), .inl (E 0, 60, .inl mf16))]) [0, 1, 2, 3, 4, 5, 6, 7, 8, 9, 10, 11, 12, 13] rfl
      have hD9 := hD.sub (ws' := [(mh, .inr (9, G9 ma mcode mtoday moffs mmany msumW msumA msumR msumWW msumWA msumAA msumWR msumAR mupper mlower mrates mtaped mlaid mat mtk mtkAt mtkNumber mwaits mlisted mdealtMany)), ((ma 2), .inl (E 0, 400, .inl mf2)), ((ma 3), .inl (E 0, 16, .inl mf3)), ((ma 4), .inl (E 0, 16, .inl mf4)), ((ma 5), .inl (E 1, 6400, .inl mf5)), ((ma 6), .inl (E 0, 6400, .inl mf6)), ((ma 7), .inl (E 0, 6400, .inl mf7)), ((ma 8), .inl (E 1, 6400, .inl mf8)), ((ma 9), .inl (E 1, 6400, .inl mf9)), ((ma 12), .inl (E 0, 60, .inl mf12)), ((ma 13), .inl (E 0, 60, .inl mf13)), ((ma 14), .inl (E 0, 60, .inl mf14)), ((ma 15), .inl (E 0, 60, .inl mf15)), ((ma 16), .inl (E 0, 60, .inl mf16))]) [0, 1, 2, 3, 4, 5, 6, 7, 8, 9, 10, 11, 12, 13] (by decide) rfl
      exact W.iret (v := (-2000000000)) hx hb hr (fun t ht hW => ⟨⟨(-2000000000), (mlower, mmany, msumA, msumAA, msumAR, msumR, msumW, msumWA, msumWR, msumWW, mupper), rfl, trivial, by rw [ht]; exact hP9, hD9⟩, hS.F ht⟩) hS.2.2 dX9_foretold_36
end
section
set_option maxHeartbeats 4000000 in
set_option maxRecDepth 100000 in
theorem g_X9_findRates (l : Launch) (D : va_G) (E : Nat → Nat) (mh : Nat) (ma : Nat → Nat) (mcode : Int32) (mtoday : Int32) (moffs : Int32) (mmany : Int64) (msumW : Int64) (msumA : Int64) (msumR : Int64) (msumWW : Int64) (msumWA : Int64) (msumAA : Int64) (msumWR : Int64) (msumAR : Int64) (mupper : Int64) (mlower : Int64) (mrates : Int32) (mtaped : Int32) (mlaid : Int32) (mat : Int32) (mtk : Int32) (mtkAt : Int32) (mtkNumber : Int32) (mwaits : Int32) (mlisted : Int32) (mdealtMany : Int32) (mf5 : Nat → Int32) (mf6 : Nat → Int32) (mf7 : Nat → Int32) (mf8 : Nat → Int32) (mf9 : Nat → Int32) (mf12 : Nat → Int32) (mf13 : Nat → Int32) (mf14 : Nat → Int32) (mf15 : Nat → Int32) (mf16 : Nat → Int32) (mf29 : Nat → Int32) (mf30 : Nat → Int32) (mf31 : Nat → Int32) (p0 : Int32) (p1 : Int32) (p2 : Int32) (sz : Nat) (hi_m : (0 ≤ mtoday.toInt ∧ mtoday.toInt ≤ 399) ∧ (0 ≤ moffs.toInt ∧ moffs.toInt ≤ 60) ∧ (0 ≤ mrates.toInt ∧ mrates.toInt ≤ 60) ∧ (0 ≤ mtaped.toInt ∧ mtaped.toInt ≤ 120) ∧ (0 ≤ mlisted.toInt ∧ mlisted.toInt ≤ 9) ∧ (0 ≤ mdealtMany.toInt ∧ mdealtMany.toInt ≤ 9)) (hr_m29 : ∀ k : Nat, k < 60 → 0 ≤ (mf29 k).toInt ∧ (mf29 k).toInt ≤ 399) (g0 : 0 ≤ p0.toInt ∧ p0.toInt ≤ 15) (g1 : 0 ≤ p1.toInt ∧ p1.toInt ≤ p2.toInt ∧ p2.toInt ≤ 399 ∧ p2.toInt - p1.toInt ≤ 60) : Met l yX9_findRates (wl yX9_findRates cX9_findRates 7 none) (RM 3 0 0) (mu_P D E [.ref mh, .int p0, .int p1, .int p2] [(mh, .inr (9, G9 ma mcode mtoday moffs mmany msumW msumA msumR msumWW msumWA msumAA msumWR msumAR mupper mlower mrates mtaped mlaid mat mtk mtkAt mtkNumber mwaits mlisted mdealtMany)), ((ma 5), .inl (E 1, 6400, .inl mf5)), ((ma 6), .inl (E 0, 6400, .inl mf6)), ((ma 7), .inl (E 0, 6400, .inl mf7)), ((ma 8), .inl (E 1, 6400, .inl mf8)), ((ma 9), .inl (E 1, 6400, .inl mf9)), ((ma 12), .inl (E 0, 60, .inl mf12)), ((ma 13), .inl (E 0, 60, .inl mf13)), ((ma 14), .inl (E 0, 60, .inl mf14)), ((ma 15), .inl (E 0, 60, .inl mf15)), ((ma 16), .inl (E 0, 60, .inl mf16)), ((ma 29), .inl (E 0, 60, .inl mf29)), ((ma 30), .inl (E 0, 60, .inl mf30)), ((ma 31), .inl (E 0, 60, .inl mf31))] sz) (va_Qv (fun (u : (Nat → Int32) × (Nat → Int32) × (Nat → Int32) × (Int32)) => (∀ k : Nat, k < 60 → 0 ≤ (u.1 k).toInt ∧ (u.1 k).toInt ≤ 399) ∧ (0 ≤ u.2.2.2.toInt ∧ u.2.2.2.toInt ≤ 60) ∧ (u.2.2.2.toInt = cntF (fun d => ratF mf5 mf6 mf7 mf8 mf9 mf12 mf13 mf14 mf15 mf16 moffs p0 d (-1)) p1 (p2.toInt - p1.toInt).toNat) ∧ (HOLDS u.1 u.2.1 u.2.2.2 (rateL (fun d => ratF mf5 mf6 mf7 mf8 mf9 mf12 mf13 mf14 mf15 mf16 moffs p0 d (-1)) p1 (p2.toInt - p1.toInt).toNat)) ∧ (u.2.2.1 = srtA u.2.1 mf31 (u.2.2.2).toNatClampNeg)) (mu_B D (va_A [(mh, .inr (9, G9 ma mcode mtoday moffs mmany msumW msumA msumR msumWW msumWA msumAA msumWR msumAR mupper mlower mrates mtaped mlaid mat mtk mtkAt mtkNumber mwaits mlisted mdealtMany)), ((ma 5), .inl (E 1, 6400, .inl mf5)), ((ma 6), .inl (E 0, 6400, .inl mf6)), ((ma 7), .inl (E 0, 6400, .inl mf7)), ((ma 8), .inl (E 1, 6400, .inl mf8)), ((ma 9), .inl (E 1, 6400, .inl mf9)), ((ma 12), .inl (E 0, 60, .inl mf12)), ((ma 13), .inl (E 0, 60, .inl mf13)), ((ma 14), .inl (E 0, 60, .inl mf14)), ((ma 15), .inl (E 0, 60, .inl mf15)), ((ma 16), .inl (E 0, 60, .inl mf16)), ((ma 29), .inl (E 0, 60, .inl mf29)), ((ma 30), .inl (E 0, 60, .inl mf30)), ((ma 31), .inl (E 0, 60, .inl mf31))] sz) (fun (u : (Nat → Int32) × (Nat → Int32) × (Nat → Int32) × (Int32)) => [(mh, .inr (9, G9 ma mcode mtoday moffs mmany msumW msumA msumR msumWW msumWA msumAA msumWR msumAR mupper mlower u.2.2.2 mtaped mlaid mat mtk mtkAt mtkNumber mwaits mlisted mdealtMany)), ((ma 5), .inl (E 1, 6400, .inl mf5)), ((ma 6), .inl (E 0, 6400, .inl mf6)), ((ma 7), .inl (E 0, 6400, .inl mf7)), ((ma 8), .inl (E 1, 6400, .inl mf8)), ((ma 9), .inl (E 1, 6400, .inl mf9)), ((ma 12), .inl (E 0, 60, .inl mf12)), ((ma 13), .inl (E 0, 60, .inl mf13)), ((ma 14), .inl (E 0, 60, .inl mf14)), ((ma 15), .inl (E 0, 60, .inl mf15)), ((ma 16), .inl (E 0, 60, .inl mf16)), ((ma 29), .inl (E 0, 60, .inl u.1)), ((ma 30), .inl (E 0, 60, .inl u.2.1)), ((ma 31), .inl (E 0, 60, .inl u.2.2.1))])) (va_A [(mh, .inr (9, G9 ma mcode mtoday moffs mmany msumW msumA msumR msumWW msumWA msumAA msumWR msumAR mupper mlower mrates mtaped mlaid mat mtk mtkAt mtkNumber mwaits mlisted mdealtMany)), ((ma 5), .inl (E 1, 6400, .inl mf5)), ((ma 6), .inl (E 0, 6400, .inl mf6)), ((ma 7), .inl (E 0, 6400, .inl mf7)), ((ma 8), .inl (E 1, 6400, .inl mf8)), ((ma 9), .inl (E 1, 6400, .inl mf9)), ((ma 12), .inl (E 0, 60, .inl mf12)), ((ma 13), .inl (E 0, 60, .inl mf13)), ((ma 14), .inl (E 0, 60, .inl mf14)), ((ma 15), .inl (E 0, 60, .inl mf15)), ((ma 16), .inl (E 0, 60, .inl mf16)), ((ma 29), .inl (E 0, 60, .inl mf29)), ((ma 30), .inl (E 0, 60, .inl mf30)), ((ma 31), .inl (E 0, 60, .inl mf31))] sz)) 0 0 (va_A [(mh, .inr (9, G9 ma mcode mtoday moffs mmany msumW msumA msumR msumWW msumWA msumAA msumWR msumAR mupper mlower mrates mtaped mlaid mat mtk mtkAt mtkNumber mwaits mlisted mdealtMany)), ((ma 5), .inl (E 1, 6400, .inl mf5)), ((ma 6), .inl (E 0, 6400, .inl mf6)), ((ma 7), .inl (E 0, 6400, .inl mf7)), ((ma 8), .inl (E 1, 6400, .inl mf8)), ((ma 9), .inl (E 1, 6400, .inl mf9)), ((ma 12), .inl (E 0, 60, .inl mf12)), ((ma 13), .inl (E 0, 60, .inl mf13)), ((ma 14), .inl (E 0, 60, .inl mf14)), ((ma 15), .inl (E 0, 60, .inl mf15)), ((ma 16), .inl (E 0, 60, .inl mf16)), ((ma 29), .inl (E 0, 60, .inl mf29)), ((ma 30), .inl (E 0, 60, .inl mf30)), ((ma 31), .inl (E 0, 60, .inl mf31))] sz) := by
  refine Met.ofW (cc := cX9_findRates) (maxL := 7) (ret := none) (by decide) rfl ?_
  intro p e s m args below meth c s₁ B hml hv
  obtain ⟨rfl, hsz, hP, hK, hD0⟩ := hv
  have hx := B.exec; have hb := B.bytes; have hr := B.returns
  have hts := atoms_spec (ws := wl yX9_findRates cX9_findRates 7 none) B.pre
  have htb : ∀ w ∈ tb, w.before _ s = true := fun w h => hts w (List.mem_cons_of_mem _ h)
  have hown : s.vm.findClass RX9 = some m.cls := findClass_of_methodNamed B.named
  have hlocks := B.notSynchronized
  subst hsz
  have hD := hD0.self (sz := s.heap.size)
  generalize hAe : va_A [(mh, .inr (9, G9 ma mcode mtoday moffs mmany msumW msumA msumR msumWW msumWA msumAA msumWR msumAR mupper mlower mrates mtaped mlaid mat mtk mtkAt mtkNumber mwaits mlisted mdealtMany)), ((ma 5), .inl (E 1, 6400, .inl mf5)), ((ma 6), .inl (E 0, 6400, .inl mf6)), ((ma 7), .inl (E 0, 6400, .inl mf7)), ((ma 8), .inl (E 1, 6400, .inl mf8)), ((ma 9), .inl (E 1, 6400, .inl mf9)), ((ma 12), .inl (E 0, 60, .inl mf12)), ((ma 13), .inl (E 0, 60, .inl mf13)), ((ma 14), .inl (E 0, 60, .inl mf14)), ((ma 15), .inl (E 0, 60, .inl mf15)), ((ma 16), .inl (E 0, 60, .inl mf16)), ((ma 29), .inl (E 0, 60, .inl mf29)), ((ma 30), .inl (E 0, 60, .inl mf30)), ((ma 31), .inl (E 0, 60, .inl mf31))] s.heap.size = A at hD ⊢
  have hA : ∀ q : Nat, s.heap.size ≤ q → A q := fun q h => by rw [← hAe]; exact Or.inr h
  have hS : va_S A s.heap s.heap [] := va_S.rf
  have hP : va_P D vwCl [(mh, .inr (9, G9 ma mcode mtoday moffs mmany msumW msumA msumR msumWW msumWA msumAA msumWR msumAR mupper mlower mrates mtaped mlaid mat mtk mtkAt mtkNumber mwaits mlisted mdealtMany)), ((ma 5), .inl (E 1, 6400, .inl mf5)), ((ma 6), .inl (E 0, 6400, .inl mf6)), ((ma 7), .inl (E 0, 6400, .inl mf7)), ((ma 8), .inl (E 1, 6400, .inl mf8)), ((ma 9), .inl (E 1, 6400, .inl mf9)), ((ma 12), .inl (E 0, 60, .inl mf12)), ((ma 13), .inl (E 0, 60, .inl mf13)), ((ma 14), .inl (E 0, 60, .inl mf14)), ((ma 15), .inl (E 0, 60, .inl mf15)), ((ma 16), .inl (E 0, 60, .inl mf16)), ((ma 29), .inl (E 0, 60, .inl mf29)), ((ma 30), .inl (E 0, 60, .inl mf30)), ((ma 31), .inl (E 0, 60, .inl mf31))] s.heap := hP
  have hl := lv_entry ([.ref mh, .int p0, .int p1, .int p2]) (n := 7) (Nat.le_of_ble_eq_true rfl)
  rw [lg_entry_eq]
  generalize (lg_sl ([.ref mh, .int p0, .int p1, .int p2]) ++ List.replicate (7 - (lg_sl ([.ref mh, .int p0, .int p1, .int p2])).length) Slot.unset).toArray = ls at hl ⊢
  have hl : lv_has ls 7 [(0, .ref mh), (1, .int p0), (2, .int p1), (3, .int p2)] := hl
  have lo_p0 := i_lo p0; have hi_p0 := i_hi p0
  have lo_p1 := i_lo p1; have hi_p1 := i_hi p1
  have lo_p2 := i_lo p2; have hi_p2 := i_hi p2
  refine lv_aload_n hx hb dX9_findRates_0 rfl (lv_at hl 0 rfl) ?_
  refine lv_iconst (v := 0) hx hb dX9_findRates_1 (by decide) ?_
  refine va_put (D := D) (ci := 9) (v := .int 0) (ty := .int) (C := RX9) (T := TX9) (N := 68) hx hb htb iX9 tyX9 tyX9_ok nmX9 hown hK.1 hP hD hS 0 rfl rfl 28 (by decide) (htb _ k_986) (fun _ h9 => h9) rfl (by decide +kernel) rfl rfl (Nat.le_of_ble_eq_true rfl) dX9_findRates_2 (fun H locs hP hD hS => ?_)
  have hP : va_P D vwCl [(mh, .inr (9, G9 ma mcode mtoday moffs mmany msumW msumA msumR msumWW msumWA msumAA msumWR msumAR mupper mlower 0 mtaped mlaid mat mtk mtkAt mtkNumber mwaits mlisted mdealtMany)), ((ma 5), .inl (E 1, 6400, .inl mf5)), ((ma 6), .inl (E 0, 6400, .inl mf6)), ((ma 7), .inl (E 0, 6400, .inl mf7)), ((ma 8), .inl (E 1, 6400, .inl mf8)), ((ma 9), .inl (E 1, 6400, .inl mf9)), ((ma 12), .inl (E 0, 60, .inl mf12)), ((ma 13), .inl (E 0, 60, .inl mf13)), ((ma 14), .inl (E 0, 60, .inl mf14)), ((ma 15), .inl (E 0, 60, .inl mf15)), ((ma 16), .inl (E 0, 60, .inl mf16)), ((ma 29), .inl (E 0, 60, .inl mf29)), ((ma 30), .inl (E 0, 60, .inl mf30)), ((ma 31), .inl (E 0, 60, .inl mf31))] H := hP
  have hD := toW hP hD rfl
  refine lv_iload_n hx hb dX9_findRates_5 rfl (lv_at hl 2 rfl) ?_
  refine lv_istore (lv' := [(4, .int p1), (0, .ref mh), (1, .int p0), (2, .int p1), (3, .int p2)]) hx hb dX9_findRates_6 hl (by decide) rfl (fun ls hl => ?_)
  have loop_1 : ∀ (N_3 : Nat) (L4_8 : Int32) (mrates_8 : Int32) (mf29_8 : Nat → Int32) (mf30_8 : Nat → Int32) (mf31_8 : Nat → Int32) (H : Heap) (locs : List Loc) (ls : Array Slot), p2.toInt - L4_8.toInt < (N_3 : Int) → (0 ≤ mrates_8.toInt ∧ mrates_8.toInt ≤ 60) → (∀ k : Nat, k < 60 → 0 ≤ (mf29_8 k).toInt ∧ (mf29_8 k).toInt ≤ 399) → (p1.toInt ≤ L4_8.toInt ∧ L4_8.toInt ≤ p2.toInt ∧ mrates_8.toInt ≤ L4_8.toInt - p1.toInt) → (mrates_8.toInt = cntF (fun d => ratF mf5 mf6 mf7 mf8 mf9 mf12 mf13 mf14 mf15 mf16 moffs p0 d (-1)) p1 (L4_8.toInt - p1.toInt).toNat) → (HOLDS mf29_8 mf30_8 mrates_8 (rateL (fun d => ratF mf5 mf6 mf7 mf8 mf9 mf12 mf13 mf14 mf15 mf16 moffs p0 d (-1)) p1 (L4_8.toInt - p1.toInt).toNat)) → (mf31_8 = srtA mf30_8 mf31 (mrates_8).toNatClampNeg) → va_P D vwCl [(mh, .inr (9, G9 ma mcode mtoday moffs mmany msumW msumA msumR msumWW msumWA msumAA msumWR msumAR mupper mlower mrates_8 mtaped mlaid mat mtk mtkAt mtkNumber mwaits mlisted mdealtMany)), ((ma 5), .inl (E 1, 6400, .inl mf5)), ((ma 6), .inl (E 0, 6400, .inl mf6)), ((ma 7), .inl (E 0, 6400, .inl mf7)), ((ma 8), .inl (E 1, 6400, .inl mf8)), ((ma 9), .inl (E 1, 6400, .inl mf9)), ((ma 12), .inl (E 0, 60, .inl mf12)), ((ma 13), .inl (E 0, 60, .inl mf13)), ((ma 14), .inl (E 0, 60, .inl mf14)), ((ma 15), .inl (E 0, 60, .inl mf15)), ((ma 16), .inl (E 0, 60, .inl mf16)), ((ma 29), .inl (E 0, 60, .inl mf29_8)), ((ma 30), .inl (E 0, 60, .inl mf30_8)), ((ma 31), .inl (E 0, 60, .inl mf31_8))] H → va_D A [(mh, .inr (9, G9 ma mcode mtoday moffs mmany msumW msumA msumR msumWW msumWA msumAA msumWR msumAR mupper mlower mrates_8 mtaped mlaid mat mtk mtkAt mtkNumber mwaits mlisted mdealtMany)), ((ma 5), .inl (E 1, 6400, .inl mf5)), ((ma 6), .inl (E 0, 6400, .inl mf6)), ((ma 7), .inl (E 0, 6400, .inl mf7)), ((ma 8), .inl (E 1, 6400, .inl mf8)), ((ma 9), .inl (E 1, 6400, .inl mf9)), ((ma 12), .inl (E 0, 60, .inl mf12)), ((ma 13), .inl (E 0, 60, .inl mf13)), ((ma 14), .inl (E 0, 60, .inl mf14)), ((ma 15), .inl (E 0, 60, .inl mf15)), ((ma 16), .inl (E 0, 60, .inl mf16)), ((ma 29), .inl (E 0, 60, .inl mf29_8)), ((ma 30), .inl (E 0, 60, .inl mf30_8)), ((ma 31), .inl (E 0, 60, .inl mf31_8))] → va_S A s.heap H locs → lv_has ls 7 [(4, .int L4_8), (0, .ref mh), (1, .int p0), (2, .int p1), (3, .int p2)] → W p l e (headSpec (wl yX9_findRates cX9_findRates 7 none) (RM 3 0 0)).room s m [Value.ref mh, .int p0, .int p1, .int p2].toArray below meth c H locs 0 0 (MQ below (va_Qv (fun (u : (Nat → Int32) × (Nat → Int32) × (Nat → Int32) × (Int32)) => (∀ k : Nat, k < 60 → 0 ≤ (u.1 k).toInt ∧ (u.1 k).toInt ≤ 399) ∧ (0 ≤ u.2.2.2.toInt ∧ u.2.2.2.toInt ≤ 60) ∧ (u.2.2.2.toInt = cntF (fun d => ratF mf5 mf6 mf7 mf8 mf9 mf12 mf13 mf14 mf15 mf16 moffs p0 d (-1)) p1 (p2.toInt - p1.toInt).toNat) ∧ (HOLDS u.1 u.2.1 u.2.2.2 (rateL (fun d => ratF mf5 mf6 mf7 mf8 mf9 mf12 mf13 mf14 mf15 mf16 moffs p0 d (-1)) p1 (p2.toInt - p1.toInt).toNat)) ∧ (u.2.2.1 = srtA u.2.1 mf31 (u.2.2.2).toNatClampNeg)) (mu_B D A (fun (u : (Nat → Int32) × (Nat → Int32) × (Nat → Int32) × (Int32)) => [(mh, .inr (9, G9 ma mcode mtoday moffs mmany msumW msumA msumR msumWW msumWA msumAA msumWR msumAR mupper mlower u.2.2.2 mtaped mlaid mat mtk mtkAt mtkNumber mwaits mlisted mdealtMany)), ((ma 5), .inl (E 1, 6400, .inl mf5)), ((ma 6), .inl (E 0, 6400, .inl mf6)), ((ma 7), .inl (E 0, 6400, .inl mf7)), ((ma 8), .inl (E 1, 6400, .inl mf8)), ((ma 9), .inl (E 1, 6400, .inl mf9)), ((ma 12), .inl (E 0, 60, .inl mf12)), ((ma 13), .inl (E 0, 60, .inl mf13)), ((ma 14), .inl (E 0, 60, .inl mf14)), ((ma 15), .inl (E 0, 60, .inl mf15)), ((ma 16), .inl (E 0, 60, .inl mf16)), ((ma 29), .inl (E 0, 60, .inl u.1)), ((ma 30), .inl (E 0, 60, .inl u.2.1)), ((ma 31), .inl (E 0, 60, .inl u.2.2.1))])) A) [Value.ref mh, .int p0, .int p1, .int p2].toArray s 0 0 A) (F0 m 8 ls []) := by
    intro N_3
    induction N_3 with
    | zero => intro L4_8 mrates_8 mf29_8 mf30_8 mf31_8 H locs ls hm v_mrates_8 v_mf29_8 v0_8 v1_8 v2_8 v3_8 _ _ _ _; exfalso; omega
    | succ N_3 ih_2 =>
      intro L4_8 mrates_8 mf29_8 mf30_8 mf31_8 H locs ls hm v_mrates_8 v_mf29_8 v0_8 v1_8 v2_8 v3_8 hP hD hS hl
      have lo_L4_8 := i_lo L4_8; have hi_L4_8 := i_hi L4_8
      have lo_mrates_8 := i_lo mrates_8; have hi_mrates_8 := i_hi mrates_8
      refine lv_iload hx hb dX9_findRates_8 (lv_at hl 0 rfl) ?_
      refine lv_iload_n hx hb dX9_findRates_10 rfl (lv_at hl 4 rfl) ?_
      refine lv_icmp_ge (tgt := 128) hx hb dX9_findRates_11 (by decide) (fun c_4 => ?_) (fun c_4 => ?_)
      ·
        have ic_4 : p2.toInt ≤ L4_8.toInt := by first | exact (g_le rfl rfl).mp c_4 | (have h := mt (g_lt rfl rfl).mpr c_4; omega)
        clear c_4
        have hP9 := hP.sub (ws' := [(mh, .inr (9, G9 ma mcode mtoday moffs mmany msumW msumA msumR msumWW msumWA msumAA msumWR msumAR mupper mlower mrates_8 mtaped mlaid mat mtk mtkAt mtkNumber mwaits mlisted mdealtMany)), ((ma 5), .inl (E 1, 6400, .inl mf5)), ((ma 6), .inl (E 0, 6400, .inl mf6)), ((ma 7), .inl (E 0, 6400, .inl mf7)), ((ma 8), .inl (E 1, 6400, .inl mf8)), ((ma 9), .inl (E 1, 6400, .inl mf9)), ((ma 12), .inl (E 0, 60, .inl mf12)), ((ma 13), .inl (E 0, 60, .inl mf13)), ((ma 14), .inl (E 0, 60, .inl mf14)), ((ma 15), .inl (E 0, 60, .inl mf15)), ((ma 16), .inl (E 0, 60, .inl mf16)), ((ma 29), .inl (E 0, 60, .inl mf29_8)), ((ma 30), .inl (E 0, 60, .inl mf30_8)), ((ma 31), .inl (E 0, 60, .inl mf31_8))]) [0, 1, 2, 3, 4, 5, 6, 7, 8, 9, 10, 11, 12, 13] rfl
        have hD9 := hD.sub (ws' := [(mh, .inr (9, G9 ma mcode mtoday moffs mmany msumW msumA msumR msumWW msumWA msumAA msumWR msumAR mupper mlower mrates_8 mtaped mlaid mat mtk mtkAt mtkNumber mwaits mlisted mdealtMany)), ((ma 5), .inl (E 1, 6400, .inl mf5)), ((ma 6), .inl (E 0, 6400, .inl mf6)), ((ma 7), .inl (E 0, 6400, .inl mf7)), ((ma 8), .inl (E 1, 6400, .inl mf8)), ((ma 9), .inl (E 1, 6400, .inl mf9)), ((ma 12), .inl (E 0, 60, .inl mf12)), ((ma 13), .inl (E 0, 60, .inl mf13)), ((ma 14), .inl (E 0, 60, .inl mf14)), ((ma 15), .inl (E 0, 60, .inl mf15)), ((ma 16), .inl (E 0, 60, .inl mf16)), ((ma 29), .inl (E 0, 60, .inl mf29_8)), ((ma 30), .inl (E 0, 60, .inl mf30_8)), ((ma 31), .inl (E 0, 60, .inl mf31_8))]) [0, 1, 2, 3, 4, 5, 6, 7, 8, 9, 10, 11, 12, 13] (by decide) rfl
        exact W.vret hx hb hr (fun t ht hW => ⟨⟨(mf29_8, mf30_8, mf31_8, mrates_8), rfl, ⟨v_mf29_8, (by (try dsimp only); omega), (by (try dsimp only); rw [show p2.toInt - p1.toInt = L4_8.toInt - p1.toInt by omega]; assumption), (by (try dsimp only); rw [show p2.toInt - p1.toInt = L4_8.toInt - p1.toInt by omega]; exact v2_8), v3_8⟩, by rw [ht]; exact hP9, hD9⟩, hS.F ht⟩) hS.2.2 dX9_findRates_128
      ·
        have ic_4 : L4_8.toInt < p2.toInt := by first | exact (g_lt rfl rfl).mp c_4 | (have h := mt (g_le rfl rfl).mpr c_4; omega)
        clear c_4
        refine lv_aload_n hx hb dX9_findRates_14 rfl (lv_at hl 1 rfl) ?_
        refine lv_iload_n hx hb dX9_findRates_15 rfl (lv_at hl 2 rfl) ?_
        refine lv_iload hx hb dX9_findRates_16 (lv_at hl 0 rfl) ?_
        refine lv_iconst (v := (-1)) hx hb dX9_findRates_18 (by decide) ?_
        refine callRV (rest := []) (As := [.int p0, .int L4_8, .int (-1)]) hx hb hml hown htb hK (g_X9_rateOf l D E mh ma mcode mtoday moffs mmany msumW msumA msumR msumWW msumWA msumAA msumWR msumAR mupper mlower mrates_8 mtaped mlaid mat mtk mtkAt mtkNumber mwaits mlisted mdealtMany mf5 mf6 mf7 mf8 mf9 mf12 mf13 mf14 mf15 mf16 p0 L4_8 (-1) (by (try dsimp only); omega) (by have h0 := t_m1; (try dsimp only); omega) (by have h0 := t_m1; (try dsimp only); omega)) ok_X9_rateOf k_1231 k_1233 ks_43 k_9 k_1234 ⟨(Nat.le_of_ble_eq_true rfl), (Nat.le_of_ble_eq_true rfl)⟩ ⟨(Nat.le_of_ble_eq_true rfl), (Nat.le_of_ble_eq_true rfl)⟩ hl.1 (Nat.le_of_ble_eq_true rfl) rfl rfl dX9_findRates_19 (hP.sub (ws' := [(mh, .inr (9, G9 ma mcode mtoday moffs mmany msumW msumA msumR msumWW msumWA msumAA msumWR msumAR mupper mlower mrates_8 mtaped mlaid mat mtk mtkAt mtkNumber mwaits mlisted mdealtMany)), ((ma 5), .inl (E 1, 6400, .inl mf5)), ((ma 6), .inl (E 0, 6400, .inl mf6)), ((ma 7), .inl (E 0, 6400, .inl mf7)), ((ma 8), .inl (E 1, 6400, .inl mf8)), ((ma 9), .inl (E 1, 6400, .inl mf9)), ((ma 12), .inl (E 0, 60, .inl mf12)), ((ma 13), .inl (E 0, 60, .inl mf13)), ((ma 14), .inl (E 0, 60, .inl mf14)), ((ma 15), .inl (E 0, 60, .inl mf15)), ((ma 16), .inl (E 0, 60, .inl mf16))]) [0, 1, 2, 3, 4, 5, 6, 7, 8, 9, 10] rfl) rfl rfl 0 rfl (fun r_5 hw_6 => ?_)
        try simp only [t_m1] at hw_6
        refine lv_istore (lv' := [(5, .int r_5), (4, .int L4_8), (0, .ref mh), (1, .int p0), (2, .int p1), (3, .int p2)]) hx hb dX9_findRates_22 hl (by decide) rfl (fun ls hl => ?_)
        refine lv_iload hx hb dX9_findRates_24 (lv_at hl 0 rfl) ?_
        refine lv_ldc hx hb hown (htb _ k_1205) dX9_findRates_26 ?_
        refine lv_icmp_ne (tgt := 34) hx hb dX9_findRates_28 (by decide) (fun c_8 => ?_) (fun c_8 => ?_)
        ·
          have ic_8 : r_5.toInt ≠ -2000000000 := mt (g_eq rfl t_m2000000000).mpr c_8
          clear c_8
          refine lv_aload_n hx hb dX9_findRates_34 rfl (lv_at hl 2 rfl) ?_
          refine va_get (D := D) (ci := 9) (v := .ref (ma 29)) (C := RX9) (T := TX9) (N := 68) hx hb htb iX9 hown hK.1 hP 0 rfl rfl 29 (by decide) (htb _ k_987) (fun _ h9 => h9) rfl dX9_findRates_35 ?_
          refine lv_aload_n hx hb dX9_findRates_38 rfl (lv_at hl 2 rfl) ?_
          refine va_get (D := D) (ci := 9) (v := .int mrates_8) (C := RX9) (T := TX9) (N := 68) hx hb htb iX9 hown hK.1 hP 0 rfl rfl 28 (by decide) (htb _ k_986) (fun _ h9 => h9) rfl dX9_findRates_39 ?_
          refine lv_iload hx hb dX9_findRates_42 (lv_at hl 1 rfl) ?_
          refine va_iast hx hb hK.1 hP hD hS 11 0 rfl rfl (g_in rfl (by omega) (by omega)) dX9_findRates_44 (fun H locs hP hD hS => ?_)
          have hP : va_P D vwCl [(mh, .inr (9, G9 ma mcode mtoday moffs mmany msumW msumA msumR msumWW msumWA msumAA msumWR msumAR mupper mlower mrates_8 mtaped mlaid mat mtk mtkAt mtkNumber mwaits mlisted mdealtMany)), ((ma 5), .inl (E 1, 6400, .inl mf5)), ((ma 6), .inl (E 0, 6400, .inl mf6)), ((ma 7), .inl (E 0, 6400, .inl mf7)), ((ma 8), .inl (E 1, 6400, .inl mf8)), ((ma 9), .inl (E 1, 6400, .inl mf9)), ((ma 12), .inl (E 0, 60, .inl mf12)), ((ma 13), .inl (E 0, 60, .inl mf13)), ((ma 14), .inl (E 0, 60, .inl mf14)), ((ma 15), .inl (E 0, 60, .inl mf15)), ((ma 16), .inl (E 0, 60, .inl mf16)), ((ma 29), .inl (E 0, 60, .inl (upd mf29_8 (mrates_8 : Int32).toNatClampNeg L4_8))), ((ma 30), .inl (E 0, 60, .inl mf30_8)), ((ma 31), .inl (E 0, 60, .inl mf31_8))] H := hP
          have hD := toW hP hD rfl
          have hv_9 : ∀ k : Nat, k < 60 → 0 ≤ ((upd mf29_8 (mrates_8 : Int32).toNatClampNeg L4_8) k).toInt ∧ ((upd mf29_8 (mrates_8 : Int32).toNatClampNeg L4_8) k).toInt ≤ 399 := upd_r v_mf29_8 (by (try dsimp only); omega)
          refine lv_aload_n hx hb dX9_findRates_45 rfl (lv_at hl 2 rfl) ?_
          refine va_get (D := D) (ci := 9) (v := .ref (ma 30)) (C := RX9) (T := TX9) (N := 68) hx hb htb iX9 hown hK.1 hP 0 rfl rfl 30 (by decide) (htb _ k_988) (fun _ h9 => h9) rfl dX9_findRates_46 ?_
          refine lv_aload_n hx hb dX9_findRates_49 rfl (lv_at hl 2 rfl) ?_
          refine va_get (D := D) (ci := 9) (v := .int mrates_8) (C := RX9) (T := TX9) (N := 68) hx hb htb iX9 hown hK.1 hP 0 rfl rfl 28 (by decide) (htb _ k_986) (fun _ h9 => h9) rfl dX9_findRates_50 ?_
          refine lv_iload hx hb dX9_findRates_53 (lv_at hl 0 rfl) ?_
          refine va_iast hx hb hK.1 hP hD hS 12 0 rfl rfl (g_in rfl (by omega) (by omega)) dX9_findRates_55 (fun H locs hP hD hS => ?_)
          have hP : va_P D vwCl [(mh, .inr (9, G9 ma mcode mtoday moffs mmany msumW msumA msumR msumWW msumWA msumAA msumWR msumAR mupper mlower mrates_8 mtaped mlaid mat mtk mtkAt mtkNumber mwaits mlisted mdealtMany)), ((ma 5), .inl (E 1, 6400, .inl mf5)), ((ma 6), .inl (E 0, 6400, .inl mf6)), ((ma 7), .inl (E 0, 6400, .inl mf7)), ((ma 8), .inl (E 1, 6400, .inl mf8)), ((ma 9), .inl (E 1, 6400, .inl mf9)), ((ma 12), .inl (E 0, 60, .inl mf12)), ((ma 13), .inl (E 0, 60, .inl mf13)), ((ma 14), .inl (E 0, 60, .inl mf14)), ((ma 15), .inl (E 0, 60, .inl mf15)), ((ma 16), .inl (E 0, 60, .inl mf16)), ((ma 29), .inl (E 0, 60, .inl (upd mf29_8 (mrates_8 : Int32).toNatClampNeg L4_8))), ((ma 30), .inl (E 0, 60, .inl (upd mf30_8 (mrates_8 : Int32).toNatClampNeg r_5))), ((ma 31), .inl (E 0, 60, .inl mf31_8))] H := hP
          have hD := toW hP hD rfl
          refine lv_aload_n hx hb dX9_findRates_56 rfl (lv_at hl 2 rfl) ?_
          refine va_get (D := D) (ci := 9) (v := .int mrates_8) (C := RX9) (T := TX9) (N := 68) hx hb htb iX9 hown hK.1 hP 0 rfl rfl 28 (by decide) (htb _ k_986) (fun _ h9 => h9) rfl dX9_findRates_57 ?_
          refine lv_istore (lv' := [(6, .int mrates_8), (5, .int r_5), (4, .int L4_8), (0, .ref mh), (1, .int p0), (2, .int p1), (3, .int p2)]) hx hb dX9_findRates_60 hl (by decide) rfl (fun ls hl => ?_)
          have loop_10 : ∀ (N_12 : Nat) (L6_62 : Int32) (mf31_62 : Nat → Int32) (H : Heap) (locs : List Loc) (ls : Array Slot), L6_62.toInt < (N_12 : Int) → (0 ≤ L6_62.toInt ∧ L6_62.toInt ≤ mrates_8.toInt) → (insA r_5 (L6_62).toNatClampNeg mf31_62 = insA r_5 (mrates_8).toNatClampNeg mf31_8) → va_P D vwCl [(mh, .inr (9, G9 ma mcode mtoday moffs mmany msumW msumA msumR msumWW msumWA msumAA msumWR msumAR mupper mlower mrates_8 mtaped mlaid mat mtk mtkAt mtkNumber mwaits mlisted mdealtMany)), ((ma 5), .inl (E 1, 6400, .inl mf5)), ((ma 6), .inl (E 0, 6400, .inl mf6)), ((ma 7), .inl (E 0, 6400, .inl mf7)), ((ma 8), .inl (E 1, 6400, .inl mf8)), ((ma 9), .inl (E 1, 6400, .inl mf9)), ((ma 12), .inl (E 0, 60, .inl mf12)), ((ma 13), .inl (E 0, 60, .inl mf13)), ((ma 14), .inl (E 0, 60, .inl mf14)), ((ma 15), .inl (E 0, 60, .inl mf15)), ((ma 16), .inl (E 0, 60, .inl mf16)), ((ma 29), .inl (E 0, 60, .inl (upd mf29_8 (mrates_8 : Int32).toNatClampNeg L4_8))), ((ma 30), .inl (E 0, 60, .inl (upd mf30_8 (mrates_8 : Int32).toNatClampNeg r_5))), ((ma 31), .inl (E 0, 60, .inl mf31_62))] H → va_D A [(mh, .inr (9, G9 ma mcode mtoday moffs mmany msumW msumA msumR msumWW msumWA msumAA msumWR msumAR mupper mlower mrates_8 mtaped mlaid mat mtk mtkAt mtkNumber mwaits mlisted mdealtMany)), ((ma 5), .inl (E 1, 6400, .inl mf5)), ((ma 6), .inl (E 0, 6400, .inl mf6)), ((ma 7), .inl (E 0, 6400, .inl mf7)), ((ma 8), .inl (E 1, 6400, .inl mf8)), ((ma 9), .inl (E 1, 6400, .inl mf9)), ((ma 12), .inl (E 0, 60, .inl mf12)), ((ma 13), .inl (E 0, 60, .inl mf13)), ((ma 14), .inl (E 0, 60, .inl mf14)), ((ma 15), .inl (E 0, 60, .inl mf15)), ((ma 16), .inl (E 0, 60, .inl mf16)), ((ma 29), .inl (E 0, 60, .inl (upd mf29_8 (mrates_8 : Int32).toNatClampNeg L4_8))), ((ma 30), .inl (E 0, 60, .inl (upd mf30_8 (mrates_8 : Int32).toNatClampNeg r_5))), ((ma 31), .inl (E 0, 60, .inl mf31_62))] → va_S A s.heap H locs → lv_has ls 7 [(6, .int L6_62), (5, .int r_5), (4, .int L4_8), (0, .ref mh), (1, .int p0), (2, .int p1), (3, .int p2)] → W p l e (headSpec (wl yX9_findRates cX9_findRates 7 none) (RM 3 0 0)).room s m [Value.ref mh, .int p0, .int p1, .int p2].toArray below meth c H locs 0 0 (MQ below (va_Qv (fun (u : (Nat → Int32) × (Nat → Int32) × (Nat → Int32) × (Int32)) => (∀ k : Nat, k < 60 → 0 ≤ (u.1 k).toInt ∧ (u.1 k).toInt ≤ 399) ∧ (0 ≤ u.2.2.2.toInt ∧ u.2.2.2.toInt ≤ 60) ∧ (u.2.2.2.toInt = cntF (fun d => ratF mf5 mf6 mf7 mf8 mf9 mf12 mf13 mf14 mf15 mf16 moffs p0 d (-1)) p1 (p2.toInt - p1.toInt).toNat) ∧ (HOLDS u.1 u.2.1 u.2.2.2 (rateL (fun d => ratF mf5 mf6 mf7 mf8 mf9 mf12 mf13 mf14 mf15 mf16 moffs p0 d (-1)) p1 (p2.toInt - p1.toInt).toNat)) ∧ (u.2.2.1 = srtA u.2.1 mf31 (u.2.2.2).toNatClampNeg)) (mu_B D A (fun (u : (Nat → Int32) × (Nat → Int32) × (Nat → Int32) × (Int32)) => [(mh, .inr (9, G9 ma mcode mtoday moffs mmany msumW msumA msumR msumWW msumWA msumAA msumWR msumAR mupper mlower u.2.2.2 mtaped mlaid mat mtk mtkAt mtkNumber mwaits mlisted mdealtMany)), ((ma 5), .inl (E 1, 6400, .inl mf5)), ((ma 6), .inl (E 0, 6400, .inl mf6)), ((ma 7), .inl (E 0, 6400, .inl mf7)), ((ma 8), .inl (E 1, 6400, .inl mf8)), ((ma 9), .inl (E 1, 6400, .inl mf9)), ((ma 12), .inl (E 0, 60, .inl mf12)), ((ma 13), .inl (E 0, 60, .inl mf13)), ((ma 14), .inl (E 0, 60, .inl mf14)), ((ma 15), .inl (E 0, 60, .inl mf15)), ((ma 16), .inl (E 0, 60, .inl mf16)), ((ma 29), .inl (E 0, 60, .inl u.1)), ((ma 30), .inl (E 0, 60, .inl u.2.1)), ((ma 31), .inl (E 0, 60, .inl u.2.2.1))])) A) [Value.ref mh, .int p0, .int p1, .int p2].toArray s 0 0 A) (F0 m 62 ls []) := by
            intro N_12
            induction N_12 with
            | zero => intro L6_62 mf31_62 H locs ls hm v0_62 v1_62 _ _ _ _; exfalso; omega
            | succ N_12 ih_11 =>
              intro L6_62 mf31_62 H locs ls hm v0_62 v1_62 hP hD hS hl
              have lo_L6_62 := i_lo L6_62; have hi_L6_62 := i_hi L6_62
              refine lv_iload hx hb dX9_findRates_62 (lv_at hl 0 rfl) ?_
              refine lv_if_le (tgt := 103) hx hb dX9_findRates_64 (by decide) (fun c_13 => ?_) (fun c_13 => ?_)
              ·
                have ic_13 : L6_62.toInt ≤ 0 := by first | exact (g_le rfl t_0).mp c_13 | (have h := mt (g_lt t_0 rfl).mpr c_13; omega)
                clear c_13
                refine lv_aload_n hx hb dX9_findRates_103 rfl (lv_at hl 3 rfl) ?_
                refine va_get (D := D) (ci := 9) (v := .ref (ma 31)) (C := RX9) (T := TX9) (N := 68) hx hb htb iX9 hown hK.1 hP 0 rfl rfl 31 (by decide) (htb _ k_989) (fun _ h9 => h9) rfl dX9_findRates_104 ?_
                refine lv_iload hx hb dX9_findRates_107 (lv_at hl 0 rfl) ?_
                refine lv_iload hx hb dX9_findRates_109 (lv_at hl 1 rfl) ?_
                refine va_iast hx hb hK.1 hP hD hS 13 0 rfl rfl (g_in rfl (by omega) (by omega)) dX9_findRates_111 (fun H locs hP hD hS => ?_)
                have hP : va_P D vwCl [(mh, .inr (9, G9 ma mcode mtoday moffs mmany msumW msumA msumR msumWW msumWA msumAA msumWR msumAR mupper mlower mrates_8 mtaped mlaid mat mtk mtkAt mtkNumber mwaits mlisted mdealtMany)), ((ma 5), .inl (E 1, 6400, .inl mf5)), ((ma 6), .inl (E 0, 6400, .inl mf6)), ((ma 7), .inl (E 0, 6400, .inl mf7)), ((ma 8), .inl (E 1, 6400, .inl mf8)), ((ma 9), .inl (E 1, 6400, .inl mf9)), ((ma 12), .inl (E 0, 60, .inl mf12)), ((ma 13), .inl (E 0, 60, .inl mf13)), ((ma 14), .inl (E 0, 60, .inl mf14)), ((ma 15), .inl (E 0, 60, .inl mf15)), ((ma 16), .inl (E 0, 60, .inl mf16)), ((ma 29), .inl (E 0, 60, .inl (upd mf29_8 (mrates_8 : Int32).toNatClampNeg L4_8))), ((ma 30), .inl (E 0, 60, .inl (upd mf30_8 (mrates_8 : Int32).toNatClampNeg r_5))), ((ma 31), .inl (E 0, 60, .inl (upd mf31_62 (L6_62 : Int32).toNatClampNeg r_5)))] H := hP
                have hD := toW hP hD rfl
                refine lv_aload_n hx hb dX9_findRates_112 rfl (lv_at hl 3 rfl) ?_
                refine lv_dup hx hb dX9_findRates_113 rfl ?_
                refine va_get (D := D) (ci := 9) (v := .int mrates_8) (C := RX9) (T := TX9) (N := 68) hx hb htb iX9 hown hK.1 hP 0 rfl rfl 28 (by decide) (htb _ k_986) (fun _ h9 => h9) rfl dX9_findRates_114 ?_
                refine lv_iconst (v := 1) hx hb dX9_findRates_117 (by decide) ?_
                refine lv_iadd hx hb dX9_findRates_118 ?_
                refine lv_topi (fun z_14 ez_14 => ?_)
                have jz_14 : z_14.toInt = mrates_8.toInt + 1 := by rw [ez_14]; exact g_add rfl t_1 (by omega) (by omega)
                refine va_put (D := D) (ci := 9) (v := .int z_14) (ty := .int) (C := RX9) (T := TX9) (N := 68) hx hb htb iX9 tyX9 tyX9_ok nmX9 hown hK.1 hP hD hS 0 rfl rfl 28 (by decide) (htb _ k_986) (fun _ h9 => h9) rfl (by decide +kernel) rfl rfl (Nat.le_of_ble_eq_true rfl) dX9_findRates_119 (fun H locs hP hD hS => ?_)
                have hP : va_P D vwCl [(mh, .inr (9, G9 ma mcode mtoday moffs mmany msumW msumA msumR msumWW msumWA msumAA msumWR msumAR mupper mlower z_14 mtaped mlaid mat mtk mtkAt mtkNumber mwaits mlisted mdealtMany)), ((ma 5), .inl (E 1, 6400, .inl mf5)), ((ma 6), .inl (E 0, 6400, .inl mf6)), ((ma 7), .inl (E 0, 6400, .inl mf7)), ((ma 8), .inl (E 1, 6400, .inl mf8)), ((ma 9), .inl (E 1, 6400, .inl mf9)), ((ma 12), .inl (E 0, 60, .inl mf12)), ((ma 13), .inl (E 0, 60, .inl mf13)), ((ma 14), .inl (E 0, 60, .inl mf14)), ((ma 15), .inl (E 0, 60, .inl mf15)), ((ma 16), .inl (E 0, 60, .inl mf16)), ((ma 29), .inl (E 0, 60, .inl (upd mf29_8 (mrates_8 : Int32).toNatClampNeg L4_8))), ((ma 30), .inl (E 0, 60, .inl (upd mf30_8 (mrates_8 : Int32).toNatClampNeg r_5))), ((ma 31), .inl (E 0, 60, .inl (upd mf31_62 (L6_62 : Int32).toNatClampNeg r_5)))] H := hP
                have hD := toW hP hD rfl
                obtain ⟨z_15, ez_15⟩ : ∃ y : Int32, y = L4_8 + 1 := ⟨_, rfl⟩
                have jz_15 : z_15.toInt = L4_8.toInt + 1 := by rw [ez_15]; exact g_add rfl t_1 (by omega) (by omega)
                refine lv_iinc (v := z_15) (lv' := [(4, .int z_15), (6, .int L6_62), (5, .int r_5), (0, .ref mh), (1, .int p0), (2, .int p1), (3, .int p2)]) hx hb dX9_findRates_122 hl (k := 2) rfl (by rw [ez_15]; rfl) (by decide) rfl (fun ls hl => ?_)
                refine lv_goto (tgt := 8) hx hb dX9_findRates_125 (by decide) ?_
                exact ih_2 z_15 z_14 (upd mf29_8 (mrates_8 : Int32).toNatClampNeg L4_8) (upd mf30_8 (mrates_8 : Int32).toNatClampNeg r_5) (upd mf31_62 (L6_62 : Int32).toNatClampNeg r_5) _ _ _ (by (try dsimp only); omega) (by (try dsimp only); omega) hv_9 (by (try dsimp only); omega) (by have hc := cnt_step (R := (fun d => ratF mf5 mf6 mf7 mf8 mf9 mf12 mf13 mf14 mf15 mf16 moffs p0 d (-1))) (p := p1) (L := L4_8) (by omega) (by omega) jz_15; simp only [← hw_6] at hc; (try dsimp only); split at hc <;> omega) (by have hs := rate_step (R := (fun d => ratF mf5 mf6 mf7 mf8 mf9 mf12 mf13 mf14 mf15 mf16 moffs p0 d (-1))) (p := p1) (L := L4_8) (z := z_15) (by omega) (by omega) jz_15; rw [hs]; split <;> rename_i h9 <;> (try dsimp only at h9) <;> (rw [← hw_6] at h9) <;> first | (exfalso; omega) | ((try dsimp only); rw [← hw_6]; exact HOLDS_s v2_8 (by omega) (by omega))) (by rw [clampS (by omega) jz_14, srtA_s, u_at, srtA_ext (v := upd mf30_8 (mrates_8 : Int32).toNatClampNeg r_5) (w := mf30_8) (mrates_8 : Int32).toNatClampNeg (fun i hi => u_ne (by omega)), ← v3_8, ← v1_62]; exact insA_end (by first | exact Or.inl (by have c1 := i_clamp0 (x := L6_62) (by omega); omega) | exact Or.inr ⟨(x).toNatClampNeg, by { have c1 := i_clamp0 (x := L6_62) (by omega); have c2 := i_clamp0 (x := x) (by omega); omega }, by { rw [← ex]; omega }⟩)) hP hD hS (lv_sub hl [0, 3, 4, 5, 6] rfl)
              ·
                have ic_13 : 0 < L6_62.toInt := by first | exact (g_lt t_0 rfl).mp c_13 | (have h := mt (g_le rfl t_0).mpr c_13; omega)
                clear c_13
                refine lv_aload_n hx hb dX9_findRates_67 rfl (lv_at hl 3 rfl) ?_
                refine va_get (D := D) (ci := 9) (v := .ref (ma 31)) (C := RX9) (T := TX9) (N := 68) hx hb htb iX9 hown hK.1 hP 0 rfl rfl 31 (by decide) (htb _ k_989) (fun _ h9 => h9) rfl dX9_findRates_68 ?_
                refine lv_iload hx hb dX9_findRates_71 (lv_at hl 0 rfl) ?_
                refine lv_iconst (v := 1) hx hb dX9_findRates_73 (by decide) ?_
                refine lv_isub hx hb dX9_findRates_74 ?_
                refine lv_topi (fun z_16 ez_16 => ?_)
                have jz_16 : z_16.toInt = L6_62.toInt - 1 := by rw [ez_16]; exact g_sub rfl t_1 (by omega) (by omega)
                refine va_iald hx hb hK.1 hP 13 0 rfl rfl (g_in rfl (by omega) (by omega)) dX9_findRates_75 ?_
                refine lv_topi (fun z_17 ez_17 => ?_)
                have kz_17 := congrArg Int32.toInt ez_17
                refine lv_iload hx hb dX9_findRates_76 (lv_at hl 1 rfl) ?_
                refine lv_icmp_le (tgt := 103) hx hb dX9_findRates_78 (by decide) (fun c_18 => ?_) (fun c_18 => ?_)
                ·
                  have ic_18 : z_17.toInt ≤ r_5.toInt := by first | exact (g_le rfl rfl).mp c_18 | (have h := mt (g_lt rfl rfl).mpr c_18; omega)
                  clear c_18
                  refine lv_aload_n hx hb dX9_findRates_103 rfl (lv_at hl 3 rfl) ?_
                  refine va_get (D := D) (ci := 9) (v := .ref (ma 31)) (C := RX9) (T := TX9) (N := 68) hx hb htb iX9 hown hK.1 hP 0 rfl rfl 31 (by decide) (htb _ k_989) (fun _ h9 => h9) rfl dX9_findRates_104 ?_
                  refine lv_iload hx hb dX9_findRates_107 (lv_at hl 0 rfl) ?_
                  refine lv_iload hx hb dX9_findRates_109 (lv_at hl 1 rfl) ?_
                  refine va_iast hx hb hK.1 hP hD hS 13 0 rfl rfl (g_in rfl (by omega) (by omega)) dX9_findRates_111 (fun H locs hP hD hS => ?_)
                  have hP : va_P D vwCl [(mh, .inr (9, G9 ma mcode mtoday moffs mmany msumW msumA msumR msumWW msumWA msumAA msumWR msumAR mupper mlower mrates_8 mtaped mlaid mat mtk mtkAt mtkNumber mwaits mlisted mdealtMany)), ((ma 5), .inl (E 1, 6400, .inl mf5)), ((ma 6), .inl (E 0, 6400, .inl mf6)), ((ma 7), .inl (E 0, 6400, .inl mf7)), ((ma 8), .inl (E 1, 6400, .inl mf8)), ((ma 9), .inl (E 1, 6400, .inl mf9)), ((ma 12), .inl (E 0, 60, .inl mf12)), ((ma 13), .inl (E 0, 60, .inl mf13)), ((ma 14), .inl (E 0, 60, .inl mf14)), ((ma 15), .inl (E 0, 60, .inl mf15)), ((ma 16), .inl (E 0, 60, .inl mf16)), ((ma 29), .inl (E 0, 60, .inl (upd mf29_8 (mrates_8 : Int32).toNatClampNeg L4_8))), ((ma 30), .inl (E 0, 60, .inl (upd mf30_8 (mrates_8 : Int32).toNatClampNeg r_5))), ((ma 31), .inl (E 0, 60, .inl (upd mf31_62 (L6_62 : Int32).toNatClampNeg r_5)))] H := hP
                  have hD := toW hP hD rfl
                  refine lv_aload_n hx hb dX9_findRates_112 rfl (lv_at hl 3 rfl) ?_
                  refine lv_dup hx hb dX9_findRates_113 rfl ?_
                  refine va_get (D := D) (ci := 9) (v := .int mrates_8) (C := RX9) (T := TX9) (N := 68) hx hb htb iX9 hown hK.1 hP 0 rfl rfl 28 (by decide) (htb _ k_986) (fun _ h9 => h9) rfl dX9_findRates_114 ?_
                  refine lv_iconst (v := 1) hx hb dX9_findRates_117 (by decide) ?_
                  refine lv_iadd hx hb dX9_findRates_118 ?_
                  refine lv_topi (fun z_19 ez_19 => ?_)
                  have jz_19 : z_19.toInt = mrates_8.toInt + 1 := by rw [ez_19]; exact g_add rfl t_1 (by omega) (by omega)
                  refine va_put (D := D) (ci := 9) (v := .int z_19) (ty := .int) (C := RX9) (T := TX9) (N := 68) hx hb htb iX9 tyX9 tyX9_ok nmX9 hown hK.1 hP hD hS 0 rfl rfl 28 (by decide) (htb _ k_986) (fun _ h9 => h9) rfl (by decide +kernel) rfl rfl (Nat.le_of_ble_eq_true rfl) dX9_findRates_119 (fun H locs hP hD hS => ?_)
                  have hP : va_P D vwCl [(mh, .inr (9, G9 ma mcode mtoday moffs mmany msumW msumA msumR msumWW msumWA msumAA msumWR msumAR mupper mlower z_19 mtaped mlaid mat mtk mtkAt mtkNumber mwaits mlisted mdealtMany)), ((ma 5), .inl (E 1, 6400, .inl mf5)), ((ma 6), .inl (E 0, 6400, .inl mf6)), ((ma 7), .inl (E 0, 6400, .inl mf7)), ((ma 8), .inl (E 1, 6400, .inl mf8)), ((ma 9), .inl (E 1, 6400, .inl mf9)), ((ma 12), .inl (E 0, 60, .inl mf12)), ((ma 13), .inl (E 0, 60, .inl mf13)), ((ma 14), .inl (E 0, 60, .inl mf14)), ((ma 15), .inl (E 0, 60, .inl mf15)), ((ma 16), .inl (E 0, 60, .inl mf16)), ((ma 29), .inl (E 0, 60, .inl (upd mf29_8 (mrates_8 : Int32).toNatClampNeg L4_8))), ((ma 30), .inl (E 0, 60, .inl (upd mf30_8 (mrates_8 : Int32).toNatClampNeg r_5))), ((ma 31), .inl (E 0, 60, .inl (upd mf31_62 (L6_62 : Int32).toNatClampNeg r_5)))] H := hP
                  have hD := toW hP hD rfl
                  obtain ⟨z_20, ez_20⟩ : ∃ y : Int32, y = L4_8 + 1 := ⟨_, rfl⟩
                  have jz_20 : z_20.toInt = L4_8.toInt + 1 := by rw [ez_20]; exact g_add rfl t_1 (by omega) (by omega)
                  refine lv_iinc (v := z_20) (lv' := [(4, .int z_20), (6, .int L6_62), (5, .int r_5), (0, .ref mh), (1, .int p0), (2, .int p1), (3, .int p2)]) hx hb dX9_findRates_122 hl (k := 2) rfl (by rw [ez_20]; rfl) (by decide) rfl (fun ls hl => ?_)
                  refine lv_goto (tgt := 8) hx hb dX9_findRates_125 (by decide) ?_
                  exact ih_2 z_20 z_19 (upd mf29_8 (mrates_8 : Int32).toNatClampNeg L4_8) (upd mf30_8 (mrates_8 : Int32).toNatClampNeg r_5) (upd mf31_62 (L6_62 : Int32).toNatClampNeg r_5) _ _ _ (by (try dsimp only); omega) (by (try dsimp only); omega) hv_9 (by (try dsimp only); omega) (by have hc := cnt_step (R := (fun d => ratF mf5 mf6 mf7 mf8 mf9 mf12 mf13 mf14 mf15 mf16 moffs p0 d (-1))) (p := p1) (L := L4_8) (by omega) (by omega) jz_20; simp only [← hw_6] at hc; (try dsimp only); split at hc <;> omega) (by have hs := rate_step (R := (fun d => ratF mf5 mf6 mf7 mf8 mf9 mf12 mf13 mf14 mf15 mf16 moffs p0 d (-1))) (p := p1) (L := L4_8) (z := z_20) (by omega) (by omega) jz_20; rw [hs]; split <;> rename_i h9 <;> (try dsimp only at h9) <;> (rw [← hw_6] at h9) <;> first | (exfalso; omega) | ((try dsimp only); rw [← hw_6]; exact HOLDS_s v2_8 (by omega) (by omega))) (by rw [clampS (by omega) jz_19, srtA_s, u_at, srtA_ext (v := upd mf30_8 (mrates_8 : Int32).toNatClampNeg r_5) (w := mf30_8) (mrates_8 : Int32).toNatClampNeg (fun i hi => u_ne (by omega)), ← v3_8, ← v1_62]; exact insA_end (by first | exact Or.inl (by have c1 := i_clamp0 (x := L6_62) (by omega); omega) | exact Or.inr ⟨(z_16).toNatClampNeg, by { have c1 := i_clamp0 (x := L6_62) (by omega); have c2 := i_clamp0 (x := z_16) (by omega); omega }, by { rw [← ez_17]; omega }⟩)) hP hD hS (lv_sub hl [0, 3, 4, 5, 6] rfl)
                ·
                  have ic_18 : r_5.toInt < z_17.toInt := by first | exact (g_lt rfl rfl).mp c_18 | (have h := mt (g_le rfl rfl).mpr c_18; omega)
                  clear c_18
                  refine lv_aload_n hx hb dX9_findRates_81 rfl (lv_at hl 3 rfl) ?_
                  refine va_get (D := D) (ci := 9) (v := .ref (ma 31)) (C := RX9) (T := TX9) (N := 68) hx hb htb iX9 hown hK.1 hP 0 rfl rfl 31 (by decide) (htb _ k_989) (fun _ h9 => h9) rfl dX9_findRates_82 ?_
                  refine lv_iload hx hb dX9_findRates_85 (lv_at hl 0 rfl) ?_
                  refine lv_aload_n hx hb dX9_findRates_87 rfl (lv_at hl 3 rfl) ?_
                  refine va_get (D := D) (ci := 9) (v := .ref (ma 31)) (C := RX9) (T := TX9) (N := 68) hx hb htb iX9 hown hK.1 hP 0 rfl rfl 31 (by decide) (htb _ k_989) (fun _ h9 => h9) rfl dX9_findRates_88 ?_
                  refine lv_iload hx hb dX9_findRates_91 (lv_at hl 0 rfl) ?_
                  refine lv_iconst (v := 1) hx hb dX9_findRates_93 (by decide) ?_
                  refine lv_isub hx hb dX9_findRates_94 ?_
                  refine lv_topi (fun z_21 ez_21 => ?_)
                  have jz_21 : z_21.toInt = L6_62.toInt - 1 := by rw [ez_21]; exact g_sub rfl t_1 (by omega) (by omega)
                  refine va_iald hx hb hK.1 hP 13 0 rfl rfl (g_in rfl (by omega) (by omega)) dX9_findRates_95 ?_
                  refine lv_topi (fun z_22 ez_22 => ?_)
                  have kz_22 := congrArg Int32.toInt ez_22
                  refine va_iast hx hb hK.1 hP hD hS 13 0 rfl rfl (g_in rfl (by omega) (by omega)) dX9_findRates_96 (fun H locs hP hD hS => ?_)
                  have hP : va_P D vwCl [(mh, .inr (9, G9 ma mcode mtoday moffs mmany msumW msumA msumR msumWW msumWA msumAA msumWR msumAR mupper mlower mrates_8 mtaped mlaid mat mtk mtkAt mtkNumber mwaits mlisted mdealtMany)), ((ma 5), .inl (E 1, 6400, .inl mf5)), ((ma 6), .inl (E 0, 6400, .inl mf6)), ((ma 7), .inl (E 0, 6400, .inl mf7)), ((ma 8), .inl (E 1, 6400, .inl mf8)), ((ma 9), .inl (E 1, 6400, .inl mf9)), ((ma 12), .inl (E 0, 60, .inl mf12)), ((ma 13), .inl (E 0, 60, .inl mf13)), ((ma 14), .inl (E 0, 60, .inl mf14)), ((ma 15), .inl (E 0, 60, .inl mf15)), ((ma 16), .inl (E 0, 60, .inl mf16)), ((ma 29), .inl (E 0, 60, .inl (upd mf29_8 (mrates_8 : Int32).toNatClampNeg L4_8))), ((ma 30), .inl (E 0, 60, .inl (upd mf30_8 (mrates_8 : Int32).toNatClampNeg r_5))), ((ma 31), .inl (E 0, 60, .inl (upd mf31_62 (L6_62 : Int32).toNatClampNeg z_22)))] H := hP
                  have hD := toW hP hD rfl
                  obtain ⟨z_23, ez_23⟩ : ∃ y : Int32, y = L6_62 + (-1) := ⟨_, rfl⟩
                  have jz_23 : z_23.toInt = L6_62.toInt + -1 := by rw [ez_23]; exact g_add rfl t_m1 (by omega) (by omega)
                  refine lv_iinc (v := z_23) (lv' := [(6, .int z_23), (5, .int r_5), (4, .int L4_8), (0, .ref mh), (1, .int p0), (2, .int p1), (3, .int p2)]) hx hb dX9_findRates_97 hl (k := 0) rfl (by rw [ez_23]; rfl) (by decide) rfl (fun ls hl => ?_)
                  refine lv_goto (tgt := 62) hx hb dX9_findRates_100 (by decide) ?_
                  exact ih_11 z_23 (upd mf31_62 (L6_62 : Int32).toNatClampNeg z_22) _ _ _ (by (try dsimp only); omega) (by (try dsimp only); omega) (by rw [← v1_62]; exact insA_go (by have c1 := i_clamp0 (x := L6_62) (by omega); have c2 := i_clamp0 (x := z_23) (by omega); omega) (by rw [ez_22]; congr 1; have c1 := i_clamp0 (x := z_23) (by omega); have c2 := i_clamp0 (x := z_21) (by omega); omega) (by rw [show (z_23).toNatClampNeg = (z_16).toNatClampNeg from by { have c1 := i_clamp0 (x := z_23) (by omega); have c2 := i_clamp0 (x := z_16) (by omega); omega }, ← ez_17]; omega)) hP hD hS (lv_sub hl [0, 1, 2, 3, 4, 5, 6] rfl)
          exact loop_10 61 mrates_8 mf31_8 _ _ _ (by (try dsimp only); omega) (by (try dsimp only); omega) (by rfl) hP hD hS (lv_sub hl [0, 1, 2, 3, 4, 5, 6] rfl)
        ·
          have ic_8 : r_5.toInt = -2000000000 := (g_eq rfl t_m2000000000).mp c_8
          clear c_8
          refine lv_goto (tgt := 122) hx hb dX9_findRates_31 (by decide) ?_
          obtain ⟨z_24, ez_24⟩ : ∃ y : Int32, y = L4_8 + 1 := ⟨_, rfl⟩
          have jz_24 : z_24.toInt = L4_8.toInt + 1 := by rw [ez_24]; exact g_add rfl t_1 (by omega) (by omega)
          refine lv_iinc (v := z_24) (lv' := [(4, .int z_24), (5, .int r_5), (0, .ref mh), (1, .int p0), (2, .int p1), (3, .int p2)]) hx hb dX9_findRates_122 hl (k := 1) rfl (by rw [ez_24]; rfl) (by decide) rfl (fun ls hl => ?_)
          refine lv_goto (tgt := 8) hx hb dX9_findRates_125 (by decide) ?_
          exact ih_2 z_24 mrates_8 mf29_8 mf30_8 mf31_8 _ _ _ (by (try dsimp only); omega) (by (try dsimp only); omega) v_mf29_8 (by (try dsimp only); omega) (by have hc := cnt_step (R := (fun d => ratF mf5 mf6 mf7 mf8 mf9 mf12 mf13 mf14 mf15 mf16 moffs p0 d (-1))) (p := p1) (L := L4_8) (by omega) (by omega) jz_24; simp only [← hw_6] at hc; (try dsimp only); split at hc <;> omega) (by have hs := rate_step (R := (fun d => ratF mf5 mf6 mf7 mf8 mf9 mf12 mf13 mf14 mf15 mf16 moffs p0 d (-1))) (p := p1) (L := L4_8) (z := z_24) (by omega) (by omega) jz_24; rw [hs]; split <;> rename_i h9 <;> (try dsimp only at h9) <;> (rw [← hw_6] at h9) <;> first | exact v2_8 | (exfalso; omega)) v3_8 hP hD hS (lv_sub hl [0, 2, 3, 4, 5] rfl)
  exact loop_1 400 p1 0 mf29 mf30 mf31 _ _ _ (by have h0 := t_0; (try dsimp only); omega) (by have h0 := t_0; (try dsimp only); omega) hr_m29 (by have h0 := t_0; (try dsimp only); omega) (by have h0 := t_0; rw [h0, show (p1.toInt - p1.toInt).toNat = 0 by omega]; rfl) (by rw [show (p1.toInt - p1.toInt).toNat = 0 by omega]; exact HOLDS_0 (by decide)) (by rw [clamp_0]; rfl) hP hD hS (lv_sub hl [0, 1, 2, 3, 4] rfl)
set_option maxHeartbeats 4000000 in
set_option maxRecDepth 100000 in
theorem g_X9_jump (l : Launch) (D : va_G) (E : Nat → Nat) (mh : Nat) (ma : Nat → Nat) (mcode : Int32) (mtoday : Int32) (moffs : Int32) (mmany : Int64) (msumW : Int64) (msumA : Int64) (msumR : Int64) (msumWW : Int64) (msumWA : Int64) (msumAA : Int64) (msumWR : Int64) (msumAR : Int64) (mupper : Int64) (mlower : Int64) (mrates : Int32) (mtaped : Int32) (mlaid : Int32) (mat : Int32) (mtk : Int32) (mtkAt : Int32) (mtkNumber : Int32) (mwaits : Int32) (mlisted : Int32) (mdealtMany : Int32) (mf3 : Nat → Int32) (mf5 : Nat → Int32) (mf6 : Nat → Int32) (mf7 : Nat → Int32) (mf8 : Nat → Int32) (mf9 : Nat → Int32) (mf12 : Nat → Int32) (mf13 : Nat → Int32) (mf14 : Nat → Int32) (mf15 : Nat → Int32) (mf16 : Nat → Int32) (mf29 : Nat → Int32) (mf30 : Nat → Int32) (mf31 : Nat → Int32) (p0 : Int32) (p1 : Int32) (p2 : Int32) (p3 : Int32) (sz : Nat) (hi_m : (0 ≤ mtoday.toInt ∧ mtoday.toInt ≤ 399) ∧ (0 ≤ moffs.toInt ∧ moffs.toInt ≤ 60) ∧ (0 ≤ mrates.toInt ∧ mrates.toInt ≤ 60) ∧ (0 ≤ mtaped.toInt ∧ mtaped.toInt ≤ 120) ∧ (0 ≤ mlisted.toInt ∧ mlisted.toInt ≤ 9) ∧ (0 ≤ mdealtMany.toInt ∧ mdealtMany.toInt ≤ 9)) (hr_m29 : ∀ k : Nat, k < 60 → 0 ≤ (mf29 k).toInt ∧ (mf29 k).toInt ≤ 399) : Met l yX9_jump (wl yX9_jump cX9_jump 10 (some .int)) (RM 4 0 0) (mu_P D E [.ref mh, .int p0, .int p1, .int p2, .int p3] [(mh, .inr (9, G9 ma mcode mtoday moffs mmany msumW msumA msumR msumWW msumWA msumAA msumWR msumAR mupper mlower mrates mtaped mlaid mat mtk mtkAt mtkNumber mwaits mlisted mdealtMany)), ((ma 3), .inl (E 0, 16, .inl mf3)), ((ma 5), .inl (E 1, 6400, .inl mf5)), ((ma 6), .inl (E 0, 6400, .inl mf6)), ((ma 7), .inl (E 0, 6400, .inl mf7)), ((ma 8), .inl (E 1, 6400, .inl mf8)), ((ma 9), .inl (E 1, 6400, .inl mf9)), ((ma 12), .inl (E 0, 60, .inl mf12)), ((ma 13), .inl (E 0, 60, .inl mf13)), ((ma 14), .inl (E 0, 60, .inl mf14)), ((ma 15), .inl (E 0, 60, .inl mf15)), ((ma 16), .inl (E 0, 60, .inl mf16)), ((ma 29), .inl (E 0, 60, .inl mf29)), ((ma 30), .inl (E 0, 60, .inl mf30)), ((ma 31), .inl (E 0, 60, .inl mf31))] sz) (va_Qi (fun (r : Int32) (u : (Nat → Int32) × (Nat → Int32) × (Nat → Int32) × (Int32)) => (∀ k : Nat, k < 60 → 0 ≤ (u.1 k).toInt ∧ (u.1 k).toInt ≤ 399) ∧ (0 ≤ u.2.2.2.toInt ∧ u.2.2.2.toInt ≤ 60) ∧ ((r.toInt = -1 ∧ ¬ ((0 ≤ p3.toInt ∧ p3.toInt ≤ 2000) ∧ ((0 ≤ p0.toInt ∧ p0.toInt ≤ 15) ∧ (0 ≤ p1.toInt ∧ p2.toInt ≤ 399 ∧ p1.toInt < p2.toInt ∧ p2.toInt - p1.toInt ≤ 60)))) ∨ (((0 ≤ p3.toInt ∧ p3.toInt ≤ 2000) ∧ ((0 ≤ p0.toInt ∧ p0.toInt ≤ 15) ∧ (0 ≤ p1.toInt ∧ p2.toInt ≤ 399 ∧ p1.toInt < p2.toInt ∧ p2.toInt - p1.toInt ≤ 60))) ∧ (((mf3 (p0).toNatClampNeg).toInt = -5 ∧ r.toInt = -2) ∨ ((mf3 (p0).toNatClampNeg).toInt = 2 ∧ r.toInt = -3))) ∨ (((0 ≤ p3.toInt ∧ p3.toInt ≤ 2000) ∧ ((0 ≤ p0.toInt ∧ p0.toInt ≤ 15) ∧ (0 ≤ p1.toInt ∧ p2.toInt ≤ 399 ∧ p1.toInt < p2.toInt ∧ p2.toInt - p1.toInt ≤ 60))) ∧ ((mf3 (p0).toNatClampNeg).toInt ≠ -5 ∧ (mf3 (p0).toNatClampNeg).toInt ≠ 2) ∧ r.toInt = jmpR (rateL (fun d => ratF mf5 mf6 mf7 mf8 mf9 mf12 mf13 mf14 mf15 mf16 moffs p0 d (-1)) p1 (p2.toInt - p1.toInt).toNat) p3))) (mu_B D (va_A [(mh, .inr (9, G9 ma mcode mtoday moffs mmany msumW msumA msumR msumWW msumWA msumAA msumWR msumAR mupper mlower mrates mtaped mlaid mat mtk mtkAt mtkNumber mwaits mlisted mdealtMany)), ((ma 3), .inl (E 0, 16, .inl mf3)), ((ma 5), .inl (E 1, 6400, .inl mf5)), ((ma 6), .inl (E 0, 6400, .inl mf6)), ((ma 7), .inl (E 0, 6400, .inl mf7)), ((ma 8), .inl (E 1, 6400, .inl mf8)), ((ma 9), .inl (E 1, 6400, .inl mf9)), ((ma 12), .inl (E 0, 60, .inl mf12)), ((ma 13), .inl (E 0, 60, .inl mf13)), ((ma 14), .inl (E 0, 60, .inl mf14)), ((ma 15), .inl (E 0, 60, .inl mf15)), ((ma 16), .inl (E 0, 60, .inl mf16)), ((ma 29), .inl (E 0, 60, .inl mf29)), ((ma 30), .inl (E 0, 60, .inl mf30)), ((ma 31), .inl (E 0, 60, .inl mf31))] sz) (fun (u : (Nat → Int32) × (Nat → Int32) × (Nat → Int32) × (Int32)) => [(mh, .inr (9, G9 ma mcode mtoday moffs mmany msumW msumA msumR msumWW msumWA msumAA msumWR msumAR mupper mlower u.2.2.2 mtaped mlaid mat mtk mtkAt mtkNumber mwaits mlisted mdealtMany)), ((ma 3), .inl (E 0, 16, .inl mf3)), ((ma 5), .inl (E 1, 6400, .inl mf5)), ((ma 6), .inl (E 0, 6400, .inl mf6)), ((ma 7), .inl (E 0, 6400, .inl mf7)), ((ma 8), .inl (E 1, 6400, .inl mf8)), ((ma 9), .inl (E 1, 6400, .inl mf9)), ((ma 12), .inl (E 0, 60, .inl mf12)), ((ma 13), .inl (E 0, 60, .inl mf13)), ((ma 14), .inl (E 0, 60, .inl mf14)), ((ma 15), .inl (E 0, 60, .inl mf15)), ((ma 16), .inl (E 0, 60, .inl mf16)), ((ma 29), .inl (E 0, 60, .inl u.1)), ((ma 30), .inl (E 0, 60, .inl u.2.1)), ((ma 31), .inl (E 0, 60, .inl u.2.2.1))])) (va_A [(mh, .inr (9, G9 ma mcode mtoday moffs mmany msumW msumA msumR msumWW msumWA msumAA msumWR msumAR mupper mlower mrates mtaped mlaid mat mtk mtkAt mtkNumber mwaits mlisted mdealtMany)), ((ma 3), .inl (E 0, 16, .inl mf3)), ((ma 5), .inl (E 1, 6400, .inl mf5)), ((ma 6), .inl (E 0, 6400, .inl mf6)), ((ma 7), .inl (E 0, 6400, .inl mf7)), ((ma 8), .inl (E 1, 6400, .inl mf8)), ((ma 9), .inl (E 1, 6400, .inl mf9)), ((ma 12), .inl (E 0, 60, .inl mf12)), ((ma 13), .inl (E 0, 60, .inl mf13)), ((ma 14), .inl (E 0, 60, .inl mf14)), ((ma 15), .inl (E 0, 60, .inl mf15)), ((ma 16), .inl (E 0, 60, .inl mf16)), ((ma 29), .inl (E 0, 60, .inl mf29)), ((ma 30), .inl (E 0, 60, .inl mf30)), ((ma 31), .inl (E 0, 60, .inl mf31))] sz)) 0 0 (va_A [(mh, .inr (9, G9 ma mcode mtoday moffs mmany msumW msumA msumR msumWW msumWA msumAA msumWR msumAR mupper mlower mrates mtaped mlaid mat mtk mtkAt mtkNumber mwaits mlisted mdealtMany)), ((ma 3), .inl (E 0, 16, .inl mf3)), ((ma 5), .inl (E 1, 6400, .inl mf5)), ((ma 6), .inl (E 0, 6400, .inl mf6)), ((ma 7), .inl (E 0, 6400, .inl mf7)), ((ma 8), .inl (E 1, 6400, .inl mf8)), ((ma 9), .inl (E 1, 6400, .inl mf9)), ((ma 12), .inl (E 0, 60, .inl mf12)), ((ma 13), .inl (E 0, 60, .inl mf13)), ((ma 14), .inl (E 0, 60, .inl mf14)), ((ma 15), .inl (E 0, 60, .inl mf15)), ((ma 16), .inl (E 0, 60, .inl mf16)), ((ma 29), .inl (E 0, 60, .inl mf29)), ((ma 30), .inl (E 0, 60, .inl mf30)), ((ma 31), .inl (E 0, 60, .inl mf31))] sz) := by
  refine Met.ofW (cc := cX9_jump) (maxL := 10) (ret := (some .int)) (by decide) rfl ?_
  intro p e s m args below meth c s₁ B hml hv
  obtain ⟨rfl, hsz, hP, hK, hD0⟩ := hv
  have hx := B.exec; have hb := B.bytes; have hr := B.returns
  have hts := atoms_spec (ws := wl yX9_jump cX9_jump 10 (some .int)) B.pre
  have htb : ∀ w ∈ tb, w.before _ s = true := fun w h => hts w (List.mem_cons_of_mem _ h)
  have hown : s.vm.findClass RX9 = some m.cls := findClass_of_methodNamed B.named
  have hlocks := B.notSynchronized
  subst hsz
  have hD := hD0.self (sz := s.heap.size)
  generalize hAe : va_A [(mh, .inr (9, G9 ma mcode mtoday moffs mmany msumW msumA msumR msumWW msumWA msumAA msumWR msumAR mupper mlower mrates mtaped mlaid mat mtk mtkAt mtkNumber mwaits mlisted mdealtMany)), ((ma 3), .inl (E 0, 16, .inl mf3)), ((ma 5), .inl (E 1, 6400, .inl mf5)), ((ma 6), .inl (E 0, 6400, .inl mf6)), ((ma 7), .inl (E 0, 6400, .inl mf7)), ((ma 8), .inl (E 1, 6400, .inl mf8)), ((ma 9), .inl (E 1, 6400, .inl mf9)), ((ma 12), .inl (E 0, 60, .inl mf12)), ((ma 13), .inl (E 0, 60, .inl mf13)), ((ma 14), .inl (E 0, 60, .inl mf14)), ((ma 15), .inl (E 0, 60, .inl mf15)), ((ma 16), .inl (E 0, 60, .inl mf16)), ((ma 29), .inl (E 0, 60, .inl mf29)), ((ma 30), .inl (E 0, 60, .inl mf30)), ((ma 31), .inl (E 0, 60, .inl mf31))] s.heap.size = A at hD ⊢
  have hA : ∀ q : Nat, s.heap.size ≤ q → A q := fun q h => by rw [← hAe]; exact Or.inr h
  have hS : va_S A s.heap s.heap [] := va_S.rf
  have hP : va_P D vwCl [(mh, .inr (9, G9 ma mcode mtoday moffs mmany msumW msumA msumR msumWW msumWA msumAA msumWR msumAR mupper mlower mrates mtaped mlaid mat mtk mtkAt mtkNumber mwaits mlisted mdealtMany)), ((ma 3), .inl (E 0, 16, .inl mf3)), ((ma 5), .inl (E 1, 6400, .inl mf5)), ((ma 6), .inl (E 0, 6400, .inl mf6)), ((ma 7), .inl (E 0, 6400, .inl mf7)), ((ma 8), .inl (E 1, 6400, .inl mf8)), ((ma 9), .inl (E 1, 6400, .inl mf9)), ((ma 12), .inl (E 0, 60, .inl mf12)), ((ma 13), .inl (E 0, 60, .inl mf13)), ((ma 14), .inl (E 0, 60, .inl mf14)), ((ma 15), .inl (E 0, 60, .inl mf15)), ((ma 16), .inl (E 0, 60, .inl mf16)), ((ma 29), .inl (E 0, 60, .inl mf29)), ((ma 30), .inl (E 0, 60, .inl mf30)), ((ma 31), .inl (E 0, 60, .inl mf31))] s.heap := hP
  have hl := lv_entry ([.ref mh, .int p0, .int p1, .int p2, .int p3]) (n := 10) (Nat.le_of_ble_eq_true rfl)
  rw [lg_entry_eq]
  generalize (lg_sl ([.ref mh, .int p0, .int p1, .int p2, .int p3]) ++ List.replicate (10 - (lg_sl ([.ref mh, .int p0, .int p1, .int p2, .int p3])).length) Slot.unset).toArray = ls at hl ⊢
  have hl : lv_has ls 10 [(0, .ref mh), (1, .int p0), (2, .int p1), (3, .int p2), (4, .int p3)] := hl
  have lo_p0 := i_lo p0; have hi_p0 := i_hi p0
  have lo_p1 := i_lo p1; have hi_p1 := i_hi p1
  have lo_p2 := i_lo p2; have hi_p2 := i_hi p2
  have lo_p3 := i_lo p3; have hi_p3 := i_hi p3
  refine lv_iload hx hb dX9_jump_0 (lv_at hl 4 rfl) ?_
  refine lv_iconst (v := 0) hx hb dX9_jump_2 (by decide) ?_
  refine lv_sipush (v := 2000) hx hb dX9_jump_3 (by decide) ?_
  refine callRS (rest := []) (As := [.int p3, .int 0, .int 2000]) hx hb hml hown htb hK (g_X9_in l D E p3 0 2000 ) ok_X9_in k_1168 k_1169 k_9 k_1170 ⟨(Nat.le_of_ble_eq_true rfl), (Nat.le_of_ble_eq_true rfl)⟩ ⟨(Nat.le_of_ble_eq_true rfl), (Nat.le_of_ble_eq_true rfl)⟩ hl.1 (Nat.le_of_ble_eq_true rfl) rfl rfl dX9_jump_6 (hP.sub (ws' := ([] : va_W)) [] rfl) (fun r_1 hw_2 => ?_)
  try simp only [t_0, t_2000] at hw_2
  rcases hw_2 with ⟨hr_1, hw_2⟩ | ⟨hr_1, hw_2⟩
  ·
    try simp only [t_0, t_2000] at hw_2
    refine W_top (y := .int 1) (by rw [hr_1]) ?_
    refine lv_if_ne (tgt := 14) hx hb dX9_jump_9 (by decide) (fun c_4 => ?_) (fun c_4 => absurd c_4 (by decide))
    refine lv_aload_n hx hb dX9_jump_14 rfl (lv_at hl 0 rfl) ?_
    refine lv_iload_n hx hb dX9_jump_15 rfl (lv_at hl 1 rfl) ?_
    refine lv_iload_n hx hb dX9_jump_16 rfl (lv_at hl 2 rfl) ?_
    refine lv_iload_n hx hb dX9_jump_17 rfl (lv_at hl 3 rfl) ?_
    refine callRV (rest := []) (As := [.int p0, .int p1, .int p2]) hx hb hml hown htb hK (g_X9_asked l D E mh ma mcode mtoday moffs mmany msumW msumA msumR msumWW msumWA msumAA msumWR msumAR mupper mlower mrates mtaped mlaid mat mtk mtkAt mtkNumber mwaits mlisted mdealtMany mf3 p0 p1 p2 (by (try dsimp only); omega)) ok_X9_asked k_1269 k_1271 ks_45 k_9 k_1272 ⟨(Nat.le_of_ble_eq_true rfl), (Nat.le_of_ble_eq_true rfl)⟩ ⟨(Nat.le_of_ble_eq_true rfl), (Nat.le_of_ble_eq_true rfl)⟩ hl.1 (Nat.le_of_ble_eq_true rfl) rfl rfl dX9_jump_18 (hP.sub (ws' := [(mh, .inr (9, G9 ma mcode mtoday moffs mmany msumW msumA msumR msumWW msumWA msumAA msumWR msumAR mupper mlower mrates mtaped mlaid mat mtk mtkAt mtkNumber mwaits mlisted mdealtMany)), ((ma 3), .inl (E 0, 16, .inl mf3))]) [0, 1] rfl) rfl rfl 0 rfl (fun r_5 hw_6 => ?_)
    refine lv_istore (lv' := [(5, .int r_5), (0, .ref mh), (1, .int p0), (2, .int p1), (3, .int p2), (4, .int p3)]) hx hb dX9_jump_21 hl (by decide) rfl (fun ls hl => ?_)
    refine lv_iload hx hb dX9_jump_23 (lv_at hl 0 rfl) ?_
    refine lv_if_ge (tgt := 31) hx hb dX9_jump_25 (by decide) (fun c_8 => ?_) (fun c_8 => ?_)
    ·
      have ic_8 : 0 ≤ r_5.toInt := by first | exact (g_le t_0 rfl).mp c_8 | (have h := mt (g_lt rfl t_0).mpr c_8; omega)
      clear c_8
      refine lv_aload_n hx hb dX9_jump_31 rfl (lv_at hl 1 rfl) ?_
      refine lv_iload_n hx hb dX9_jump_32 rfl (lv_at hl 2 rfl) ?_
      refine lv_iload_n hx hb dX9_jump_33 rfl (lv_at hl 3 rfl) ?_
      refine lv_iload_n hx hb dX9_jump_34 rfl (lv_at hl 4 rfl) ?_
      have hPc := hP.sub (ws' := [(mh, .inr (9, G9 ma mcode mtoday moffs mmany msumW msumA msumR msumWW msumWA msumAA msumWR msumAR mupper mlower mrates mtaped mlaid mat mtk mtkAt mtkNumber mwaits mlisted mdealtMany)), ((ma 5), .inl (E 1, 6400, .inl mf5)), ((ma 6), .inl (E 0, 6400, .inl mf6)), ((ma 7), .inl (E 0, 6400, .inl mf7)), ((ma 8), .inl (E 1, 6400, .inl mf8)), ((ma 9), .inl (E 1, 6400, .inl mf9)), ((ma 12), .inl (E 0, 60, .inl mf12)), ((ma 13), .inl (E 0, 60, .inl mf13)), ((ma 14), .inl (E 0, 60, .inl mf14)), ((ma 15), .inl (E 0, 60, .inl mf15)), ((ma 16), .inl (E 0, 60, .inl mf16)), ((ma 29), .inl (E 0, 60, .inl mf29)), ((ma 30), .inl (E 0, 60, .inl mf30)), ((ma 31), .inl (E 0, 60, .inl mf31))]) [0, 2, 3, 4, 5, 6, 7, 8, 9, 10, 11, 12, 13, 14] rfl
      have hDc := hD.sub (ws' := [(mh, .inr (9, G9 ma mcode mtoday moffs mmany msumW msumA msumR msumWW msumWA msumAA msumWR msumAR mupper mlower mrates mtaped mlaid mat mtk mtkAt mtkNumber mwaits mlisted mdealtMany)), ((ma 5), .inl (E 1, 6400, .inl mf5)), ((ma 6), .inl (E 0, 6400, .inl mf6)), ((ma 7), .inl (E 0, 6400, .inl mf7)), ((ma 8), .inl (E 1, 6400, .inl mf8)), ((ma 9), .inl (E 1, 6400, .inl mf9)), ((ma 12), .inl (E 0, 60, .inl mf12)), ((ma 13), .inl (E 0, 60, .inl mf13)), ((ma 14), .inl (E 0, 60, .inl mf14)), ((ma 15), .inl (E 0, 60, .inl mf15)), ((ma 16), .inl (E 0, 60, .inl mf16)), ((ma 29), .inl (E 0, 60, .inl mf29)), ((ma 30), .inl (E 0, 60, .inl mf30)), ((ma 31), .inl (E 0, 60, .inl mf31))]) [0, 2, 3, 4, 5, 6, 7, 8, 9, 10, 11, 12, 13, 14] (by decide) rfl
      refine aft_v (runMV (rest := []) (As := [.int p0, .int p1, .int p2]) hx hb hml hown htb hK (g_X9_findRates l D E mh ma mcode mtoday moffs mmany msumW msumA msumR msumWW msumWA msumAA msumWR msumAR mupper mlower mrates mtaped mlaid mat mtk mtkAt mtkNumber mwaits mlisted mdealtMany mf5 mf6 mf7 mf8 mf9 mf12 mf13 mf14 mf15 mf16 mf29 mf30 mf31 p0 p1 p2 _ (by (try dsimp only); omega) hr_m29 (by (try dsimp only); omega) (by (try dsimp only); omega)) ok_X9_findRates k_1322 k_1324 ks_53 k_9 k_1325 ⟨(Nat.le_of_ble_eq_true rfl), (Nat.le_of_ble_eq_true rfl)⟩ ⟨(Nat.le_of_ble_eq_true rfl), (Nat.le_of_ble_eq_true rfl)⟩ hl.1 (Nat.le_of_ble_eq_true rfl) rfl rfl dX9_jump_35 hPc hDc rfl rfl 0 rfl) hP hD hS hA [0, 2, 3, 4, 5, 6, 7, 8, 9, 10, 11, 12, 13, 14] [1] (wr := [((ma 3), .inl (E 0, 16, .inl mf3))]) rfl rfl (by decide) (by decide) (fun u_11 H locs hw_10 hP hD hS => ?_)
      clear hPc hDc
      obtain ⟨w_12, w_13, w_14, w_15⟩ := u_11
      try dsimp only at hw_10
      have hP : va_P D vwCl [((ma 3), .inl (E 0, 16, .inl mf3)), (mh, .inr (9, G9 ma mcode mtoday moffs mmany msumW msumA msumR msumWW msumWA msumAA msumWR msumAR mupper mlower w_15 mtaped mlaid mat mtk mtkAt mtkNumber mwaits mlisted mdealtMany)), ((ma 5), .inl (E 1, 6400, .inl mf5)), ((ma 6), .inl (E 0, 6400, .inl mf6)), ((ma 7), .inl (E 0, 6400, .inl mf7)), ((ma 8), .inl (E 1, 6400, .inl mf8)), ((ma 9), .inl (E 1, 6400, .inl mf9)), ((ma 12), .inl (E 0, 60, .inl mf12)), ((ma 13), .inl (E 0, 60, .inl mf13)), ((ma 14), .inl (E 0, 60, .inl mf14)), ((ma 15), .inl (E 0, 60, .inl mf15)), ((ma 16), .inl (E 0, 60, .inl mf16)), ((ma 29), .inl (E 0, 60, .inl w_12)), ((ma 30), .inl (E 0, 60, .inl w_13)), ((ma 31), .inl (E 0, 60, .inl w_14))] H := hP
      have hD := toW hP hD rfl
      obtain ⟨hw_10_0, hw_10_1, hw_10_2, hw_10_3, hw_10_4⟩ := hw_10
      refine lv_iconst (v := (-1)) hx hb dX9_jump_38 (by decide) ?_
      refine lv_istore (lv' := [(6, .int (-1)), (5, .int r_5), (0, .ref mh), (1, .int p0), (2, .int p1), (3, .int p2), (4, .int p3)]) hx hb dX9_jump_39 hl (by decide) rfl (fun ls hl => ?_)
      refine lv_iload hx hb dX9_jump_41 (lv_at hl 6 rfl) ?_
      refine lv_istore (lv' := [(7, .int p3), (6, .int (-1)), (5, .int r_5), (0, .ref mh), (1, .int p0), (2, .int p1), (3, .int p2), (4, .int p3)]) hx hb dX9_jump_43 hl (by decide) rfl (fun ls hl => ?_)
      refine lv_iconst (v := 0) hx hb dX9_jump_45 (by decide) ?_
      refine lv_istore (lv' := [(8, .int 0), (7, .int p3), (6, .int (-1)), (5, .int r_5), (0, .ref mh), (1, .int p0), (2, .int p1), (3, .int p2), (4, .int p3)]) hx hb dX9_jump_46 hl (by decide) rfl (fun ls hl => ?_)
      have loop_16 : ∀ (N_18 : Nat) (L8_48 : Int32) (L7_48 : Int32) (L6_48 : Int32) (H : Heap) (locs : List Loc) (ls : Array Slot), w_15.toInt - L8_48.toInt < (N_18 : Int) → (0 ≤ L8_48.toInt ∧ L8_48.toInt ≤ w_15.toInt) → (L7_48 = (farF w_12 w_13 (w_14 ((w_15 - 1) / 2).toNatClampNeg) p3 (-1) (L8_48).toNatClampNeg).1) → (L6_48 = (farF w_12 w_13 (w_14 ((w_15 - 1) / 2).toNatClampNeg) p3 (-1) (L8_48).toNatClampNeg).2) → va_P D vwCl [((ma 3), .inl (E 0, 16, .inl mf3)), (mh, .inr (9, G9 ma mcode mtoday moffs mmany msumW msumA msumR msumWW msumWA msumAA msumWR msumAR mupper mlower w_15 mtaped mlaid mat mtk mtkAt mtkNumber mwaits mlisted mdealtMany)), ((ma 5), .inl (E 1, 6400, .inl mf5)), ((ma 6), .inl (E 0, 6400, .inl mf6)), ((ma 7), .inl (E 0, 6400, .inl mf7)), ((ma 8), .inl (E 1, 6400, .inl mf8)), ((ma 9), .inl (E 1, 6400, .inl mf9)), ((ma 12), .inl (E 0, 60, .inl mf12)), ((ma 13), .inl (E 0, 60, .inl mf13)), ((ma 14), .inl (E 0, 60, .inl mf14)), ((ma 15), .inl (E 0, 60, .inl mf15)), ((ma 16), .inl (E 0, 60, .inl mf16)), ((ma 29), .inl (E 0, 60, .inl w_12)), ((ma 30), .inl (E 0, 60, .inl w_13)), ((ma 31), .inl (E 0, 60, .inl w_14))] H → va_D A [((ma 3), .inl (E 0, 16, .inl mf3)), (mh, .inr (9, G9 ma mcode mtoday moffs mmany msumW msumA msumR msumWW msumWA msumAA msumWR msumAR mupper mlower w_15 mtaped mlaid mat mtk mtkAt mtkNumber mwaits mlisted mdealtMany)), ((ma 5), .inl (E 1, 6400, .inl mf5)), ((ma 6), .inl (E 0, 6400, .inl mf6)), ((ma 7), .inl (E 0, 6400, .inl mf7)), ((ma 8), .inl (E 1, 6400, .inl mf8)), ((ma 9), .inl (E 1, 6400, .inl mf9)), ((ma 12), .inl (E 0, 60, .inl mf12)), ((ma 13), .inl (E 0, 60, .inl mf13)), ((ma 14), .inl (E 0, 60, .inl mf14)), ((ma 15), .inl (E 0, 60, .inl mf15)), ((ma 16), .inl (E 0, 60, .inl mf16)), ((ma 29), .inl (E 0, 60, .inl w_12)), ((ma 30), .inl (E 0, 60, .inl w_13)), ((ma 31), .inl (E 0, 60, .inl w_14))] → va_S A s.heap H locs → lv_has ls 10 [(8, .int L8_48), (7, .int L7_48), (6, .int L6_48), (5, .int r_5), (0, .ref mh), (1, .int p0), (2, .int p1), (3, .int p2), (4, .int p3)] → W p l e (headSpec (wl yX9_jump cX9_jump 10 (some .int)) (RM 4 0 0)).room s m [Value.ref mh, .int p0, .int p1, .int p2, .int p3].toArray below meth c H locs 0 0 (MQ below (va_Qi (fun (r : Int32) (u : (Nat → Int32) × (Nat → Int32) × (Nat → Int32) × (Int32)) => (∀ k : Nat, k < 60 → 0 ≤ (u.1 k).toInt ∧ (u.1 k).toInt ≤ 399) ∧ (0 ≤ u.2.2.2.toInt ∧ u.2.2.2.toInt ≤ 60) ∧ ((r.toInt = -1 ∧ ¬ ((0 ≤ p3.toInt ∧ p3.toInt ≤ 2000) ∧ ((0 ≤ p0.toInt ∧ p0.toInt ≤ 15) ∧ (0 ≤ p1.toInt ∧ p2.toInt ≤ 399 ∧ p1.toInt < p2.toInt ∧ p2.toInt - p1.toInt ≤ 60)))) ∨ (((0 ≤ p3.toInt ∧ p3.toInt ≤ 2000) ∧ ((0 ≤ p0.toInt ∧ p0.toInt ≤ 15) ∧ (0 ≤ p1.toInt ∧ p2.toInt ≤ 399 ∧ p1.toInt < p2.toInt ∧ p2.toInt - p1.toInt ≤ 60))) ∧ (((mf3 (p0).toNatClampNeg).toInt = -5 ∧ r.toInt = -2) ∨ ((mf3 (p0).toNatClampNeg).toInt = 2 ∧ r.toInt = -3))) ∨ (((0 ≤ p3.toInt ∧ p3.toInt ≤ 2000) ∧ ((0 ≤ p0.toInt ∧ p0.toInt ≤ 15) ∧ (0 ≤ p1.toInt ∧ p2.toInt ≤ 399 ∧ p1.toInt < p2.toInt ∧ p2.toInt - p1.toInt ≤ 60))) ∧ ((mf3 (p0).toNatClampNeg).toInt ≠ -5 ∧ (mf3 (p0).toNatClampNeg).toInt ≠ 2) ∧ r.toInt = jmpR (rateL (fun d => ratF mf5 mf6 mf7 mf8 mf9 mf12 mf13 mf14 mf15 mf16 moffs p0 d (-1)) p1 (p2.toInt - p1.toInt).toNat) p3))) (mu_B D A (fun (u : (Nat → Int32) × (Nat → Int32) × (Nat → Int32) × (Int32)) => [(mh, .inr (9, G9 ma mcode mtoday moffs mmany msumW msumA msumR msumWW msumWA msumAA msumWR msumAR mupper mlower u.2.2.2 mtaped mlaid mat mtk mtkAt mtkNumber mwaits mlisted mdealtMany)), ((ma 3), .inl (E 0, 16, .inl mf3)), ((ma 5), .inl (E 1, 6400, .inl mf5)), ((ma 6), .inl (E 0, 6400, .inl mf6)), ((ma 7), .inl (E 0, 6400, .inl mf7)), ((ma 8), .inl (E 1, 6400, .inl mf8)), ((ma 9), .inl (E 1, 6400, .inl mf9)), ((ma 12), .inl (E 0, 60, .inl mf12)), ((ma 13), .inl (E 0, 60, .inl mf13)), ((ma 14), .inl (E 0, 60, .inl mf14)), ((ma 15), .inl (E 0, 60, .inl mf15)), ((ma 16), .inl (E 0, 60, .inl mf16)), ((ma 29), .inl (E 0, 60, .inl u.1)), ((ma 30), .inl (E 0, 60, .inl u.2.1)), ((ma 31), .inl (E 0, 60, .inl u.2.2.1))])) A) [Value.ref mh, .int p0, .int p1, .int p2, .int p3].toArray s 0 0 A) (F0 m 48 ls []) := by
        intro N_18
        induction N_18 with
        | zero => intro L8_48 L7_48 L6_48 H locs ls hm v0_48 v1_48 v2_48 _ _ _ _; exfalso; omega
        | succ N_18 ih_17 =>
          intro L8_48 L7_48 L6_48 H locs ls hm v0_48 v1_48 v2_48 hP hD hS hl
          have lo_L8_48 := i_lo L8_48; have hi_L8_48 := i_hi L8_48
          have lo_L7_48 := i_lo L7_48; have hi_L7_48 := i_hi L7_48
          have lo_L6_48 := i_lo L6_48; have hi_L6_48 := i_hi L6_48
          refine lv_iload hx hb dX9_jump_48 (lv_at hl 0 rfl) ?_
          refine lv_aload_n hx hb dX9_jump_50 rfl (lv_at hl 4 rfl) ?_
          refine va_get (D := D) (ci := 9) (v := .int w_15) (C := RX9) (T := TX9) (N := 68) hx hb htb iX9 hown hK.1 hP 1 rfl rfl 28 (by decide) (htb _ k_986) (fun _ h9 => h9) rfl dX9_jump_51 ?_
          refine lv_icmp_ge (tgt := 112) hx hb dX9_jump_54 (by decide) (fun c_19 => ?_) (fun c_19 => ?_)
          ·
            have ic_19 : w_15.toInt ≤ L8_48.toInt := by first | exact (g_le rfl rfl).mp c_19 | (have h := mt (g_lt rfl rfl).mpr c_19; omega)
            clear c_19
            refine lv_iload hx hb dX9_jump_112 (lv_at hl 2 rfl) ?_
            refine lv_if_ge (tgt := 122) hx hb dX9_jump_114 (by decide) (fun c_20 => ?_) (fun c_20 => ?_)
            ·
              have ic_20 : 0 ≤ L6_48.toInt := by first | exact (g_le t_0 rfl).mp c_20 | (have h := mt (g_lt rfl t_0).mpr c_20; omega)
              clear c_20
              refine lv_iload hx hb dX9_jump_122 (lv_at hl 2 rfl) ?_
              have hP9 := hP.sub (ws' := [(mh, .inr (9, G9 ma mcode mtoday moffs mmany msumW msumA msumR msumWW msumWA msumAA msumWR msumAR mupper mlower w_15 mtaped mlaid mat mtk mtkAt mtkNumber mwaits mlisted mdealtMany)), ((ma 3), .inl (E 0, 16, .inl mf3)), ((ma 5), .inl (E 1, 6400, .inl mf5)), ((ma 6), .inl (E 0, 6400, .inl mf6)), ((ma 7), .inl (E 0, 6400, .inl mf7)), ((ma 8), .inl (E 1, 6400, .inl mf8)), ((ma 9), .inl (E 1, 6400, .inl mf9)), ((ma 12), .inl (E 0, 60, .inl mf12)), ((ma 13), .inl (E 0, 60, .inl mf13)), ((ma 14), .inl (E 0, 60, .inl mf14)), ((ma 15), .inl (E 0, 60, .inl mf15)), ((ma 16), .inl (E 0, 60, .inl mf16)), ((ma 29), .inl (E 0, 60, .inl w_12)), ((ma 30), .inl (E 0, 60, .inl w_13)), ((ma 31), .inl (E 0, 60, .inl w_14))]) [1, 0, 2, 3, 4, 5, 6, 7, 8, 9, 10, 11, 12, 13, 14] rfl
              have hD9 := hD.sub (ws' := [(mh, .inr (9, G9 ma mcode mtoday moffs mmany msumW msumA msumR msumWW msumWA msumAA msumWR msumAR mupper mlower w_15 mtaped mlaid mat mtk mtkAt mtkNumber mwaits mlisted mdealtMany)), ((ma 3), .inl (E 0, 16, .inl mf3)), ((ma 5), .inl (E 1, 6400, .inl mf5)), ((ma 6), .inl (E 0, 6400, .inl mf6)), ((ma 7), .inl (E 0, 6400, .inl mf7)), ((ma 8), .inl (E 1, 6400, .inl mf8)), ((ma 9), .inl (E 1, 6400, .inl mf9)), ((ma 12), .inl (E 0, 60, .inl mf12)), ((ma 13), .inl (E 0, 60, .inl mf13)), ((ma 14), .inl (E 0, 60, .inl mf14)), ((ma 15), .inl (E 0, 60, .inl mf15)), ((ma 16), .inl (E 0, 60, .inl mf16)), ((ma 29), .inl (E 0, 60, .inl w_12)), ((ma 30), .inl (E 0, 60, .inl w_13)), ((ma 31), .inl (E 0, 60, .inl w_14))]) [1, 0, 2, 3, 4, 5, 6, 7, 8, 9, 10, 11, 12, 13, 14] (by decide) rfl
              exact W.iret (v := L6_48) hx hb hr (fun t ht hW => ⟨⟨L6_48, (w_12, w_13, w_14, w_15), rfl, ⟨hw_10_0, (by (try dsimp only); omega), (Or.inr (Or.inr ⟨by have h9 := hw_6; omega, by have h9 := hw_6; omega, jmp_of (best := L6_48) hw_10_3 (by omega) hw_10_4 (by rw [show (w_15 : Int32).toNatClampNeg = (L8_48).toNatClampNeg from clampE (by omega) (by omega)]; exact v2_48) (Or.inr ⟨by omega, rfl⟩)⟩))⟩, by rw [ht]; exact hP9, hD9⟩, hS.F ht⟩) hS.2.2 dX9_jump_124
            ·
              have ic_20 : L6_48.toInt < 0 := by first | exact (g_lt rfl t_0).mp c_20 | (have h := mt (g_le t_0 rfl).mpr c_20; omega)
              clear c_20
              refine lv_bipush (v := (-4)) hx hb dX9_jump_117 (by decide) ?_
              refine lv_goto (tgt := 124) hx hb dX9_jump_119 (by decide) ?_
              have hP9 := hP.sub (ws' := [(mh, .inr (9, G9 ma mcode mtoday moffs mmany msumW msumA msumR msumWW msumWA msumAA msumWR msumAR mupper mlower w_15 mtaped mlaid mat mtk mtkAt mtkNumber mwaits mlisted mdealtMany)), ((ma 3), .inl (E 0, 16, .inl mf3)), ((ma 5), .inl (E 1, 6400, .inl mf5)), ((ma 6), .inl (E 0, 6400, .inl mf6)), ((ma 7), .inl (E 0, 6400, .inl mf7)), ((ma 8), .inl (E 1, 6400, .inl mf8)), ((ma 9), .inl (E 1, 6400, .inl mf9)), ((ma 12), .inl (E 0, 60, .inl mf12)), ((ma 13), .inl (E 0, 60, .inl mf13)), ((ma 14), .inl (E 0, 60, .inl mf14)), ((ma 15), .inl (E 0, 60, .inl mf15)), ((ma 16), .inl (E 0, 60, .inl mf16)), ((ma 29), .inl (E 0, 60, .inl w_12)), ((ma 30), .inl (E 0, 60, .inl w_13)), ((ma 31), .inl (E 0, 60, .inl w_14))]) [1, 0, 2, 3, 4, 5, 6, 7, 8, 9, 10, 11, 12, 13, 14] rfl
              have hD9 := hD.sub (ws' := [(mh, .inr (9, G9 ma mcode mtoday moffs mmany msumW msumA msumR msumWW msumWA msumAA msumWR msumAR mupper mlower w_15 mtaped mlaid mat mtk mtkAt mtkNumber mwaits mlisted mdealtMany)), ((ma 3), .inl (E 0, 16, .inl mf3)), ((ma 5), .inl (E 1, 6400, .inl mf5)), ((ma 6), .inl (E 0, 6400, .inl mf6)), ((ma 7), .inl (E 0, 6400, .inl mf7)), ((ma 8), .inl (E 1, 6400, .inl mf8)), ((ma 9), .inl (E 1, 6400, .inl mf9)), ((ma 12), .inl (E 0, 60, .inl mf12)), ((ma 13), .inl (E 0, 60, .inl mf13)), ((ma 14), .inl (E 0, 60, .inl mf14)), ((ma 15), .inl (E 0, 60, .inl mf15)), ((ma 16), .inl (E 0, 60, .inl mf16)), ((ma 29), .inl (E 0, 60, .inl w_12)), ((ma 30), .inl (E 0, 60, .inl w_13)), ((ma 31), .inl (E 0, 60, .inl w_14))]) [1, 0, 2, 3, 4, 5, 6, 7, 8, 9, 10, 11, 12, 13, 14] (by decide) rfl
              exact W.iret (v := (-4)) hx hb hr (fun t ht hW => ⟨⟨(-4), (w_12, w_13, w_14, w_15), rfl, ⟨hw_10_0, (by (try dsimp only); omega), (Or.inr (Or.inr ⟨by have h9 := hw_6; omega, by have h9 := hw_6; omega, jmp_of (best := L6_48) hw_10_3 (by omega) hw_10_4 (by rw [show (w_15 : Int32).toNatClampNeg = (L8_48).toNatClampNeg from clampE (by omega) (by omega)]; exact v2_48) (Or.inl ⟨by omega, by have hl0 := t_m4; omega⟩)⟩))⟩, by rw [ht]; exact hP9, hD9⟩, hS.F ht⟩) hS.2.2 dX9_jump_124
          ·
            have ic_19 : L8_48.toInt < w_15.toInt := by first | exact (g_lt rfl rfl).mp c_19 | (have h := mt (g_le rfl rfl).mpr c_19; omega)
            clear c_19
            refine lv_aload_n hx hb dX9_jump_57 rfl (lv_at hl 4 rfl) ?_
            refine va_get (D := D) (ci := 9) (v := .ref (ma 30)) (C := RX9) (T := TX9) (N := 68) hx hb htb iX9 hown hK.1 hP 1 rfl rfl 30 (by decide) (htb _ k_988) (fun _ h9 => h9) rfl dX9_jump_58 ?_
            refine lv_iload hx hb dX9_jump_61 (lv_at hl 0 rfl) ?_
            refine va_iald hx hb hK.1 hP 13 0 rfl rfl (g_in rfl (by omega) (by omega)) dX9_jump_63 ?_
            refine lv_topi (fun z_21 ez_21 => ?_)
            have kz_21 := congrArg Int32.toInt ez_21
            refine lv_aload_n hx hb dX9_jump_64 rfl (lv_at hl 4 rfl) ?_
            refine va_get (D := D) (ci := 9) (v := .ref (ma 31)) (C := RX9) (T := TX9) (N := 68) hx hb htb iX9 hown hK.1 hP 1 rfl rfl 31 (by decide) (htb _ k_989) (fun _ h9 => h9) rfl dX9_jump_65 ?_
            refine lv_aload_n hx hb dX9_jump_68 rfl (lv_at hl 4 rfl) ?_
            refine va_get (D := D) (ci := 9) (v := .int w_15) (C := RX9) (T := TX9) (N := 68) hx hb htb iX9 hown hK.1 hP 1 rfl rfl 28 (by decide) (htb _ k_986) (fun _ h9 => h9) rfl dX9_jump_69 ?_
            refine lv_iconst (v := 1) hx hb dX9_jump_72 (by decide) ?_
            refine lv_isub hx hb dX9_jump_73 ?_
            refine lv_topi (fun z_22 ez_22 => ?_)
            have jz_22 : z_22.toInt = w_15.toInt - 1 := by rw [ez_22]; exact g_sub rfl t_1 (by omega) (by omega)
            refine lv_iconst (v := 2) hx hb dX9_jump_74 (by decide) ?_
            refine lv_idiv hx hb dX9_jump_75 (by decide) ?_
            refine lv_topi (fun z_23 ez_23 => ?_)
            have jz_23 : z_23.toInt = z_22.toInt / 2 := by rw [ez_23]; exact g_div rfl t_2 (by omega) (by decide)
            refine va_iald hx hb hK.1 hP 14 0 rfl rfl (g_in rfl (by omega) (by omega)) dX9_jump_76 ?_
            refine lv_topi (fun z_24 ez_24 => ?_)
            have kz_24 := congrArg Int32.toInt ez_24
            refine lv_isub hx hb dX9_jump_77 ?_
            refine lv_topi (fun z_25 ez_25 => ?_)
            refine callRS (rest := []) (As := [.int z_25]) hx hb hml hown htb hK (g_X9_size l D E z_25 ) ok_X9_size k_1235 k_1236 k_9 k_1237 ⟨(Nat.le_of_ble_eq_true rfl), (Nat.le_of_ble_eq_true rfl)⟩ ⟨(Nat.le_of_ble_eq_true rfl), (Nat.le_of_ble_eq_true rfl)⟩ hl.1 (Nat.le_of_ble_eq_true rfl) rfl rfl dX9_jump_78 (hP.sub (ws' := ([] : va_W)) [] rfl) (fun r_26 hw_27 => ?_)
            have hq_29 : r_26 = szF (w_13 (L8_48).toNatClampNeg - w_14 ((w_15 - 1) / 2).toNatClampNeg) := by rw [hw_27, ez_25, ez_21, ez_24]; subst_vars; rfl
            refine lv_istore (lv' := [(9, .int r_26), (8, .int L8_48), (7, .int L7_48), (6, .int L6_48), (5, .int r_5), (0, .ref mh), (1, .int p0), (2, .int p1), (3, .int p2), (4, .int p3)]) hx hb dX9_jump_81 hl (by decide) rfl (fun ls hl => ?_)
            refine lv_iload hx hb dX9_jump_83 (lv_at hl 0 rfl) ?_
            refine lv_iload hx hb dX9_jump_85 (lv_at hl 2 rfl) ?_
            refine lv_icmp_gt (tgt := 93) hx hb dX9_jump_87 (by decide) (fun c_30 => ?_) (fun c_30 => ?_)
            ·
              have ic_30 : L7_48.toInt < r_26.toInt := by first | exact (g_lt rfl rfl).mp c_30 | (have h := mt (g_le rfl rfl).mpr c_30; omega)
              clear c_30
              refine lv_iload hx hb dX9_jump_93 (lv_at hl 0 rfl) ?_
              refine lv_istore (lv' := [(7, .int r_26), (9, .int r_26), (8, .int L8_48), (6, .int L6_48), (5, .int r_5), (0, .ref mh), (1, .int p0), (2, .int p1), (3, .int p2), (4, .int p3)]) hx hb dX9_jump_95 hl (by decide) rfl (fun ls hl => ?_)
              refine lv_aload_n hx hb dX9_jump_97 rfl (lv_at hl 5 rfl) ?_
              refine va_get (D := D) (ci := 9) (v := .ref (ma 29)) (C := RX9) (T := TX9) (N := 68) hx hb htb iX9 hown hK.1 hP 1 rfl rfl 29 (by decide) (htb _ k_987) (fun _ h9 => h9) rfl dX9_jump_98 ?_
              refine lv_iload hx hb dX9_jump_101 (lv_at hl 2 rfl) ?_
              refine va_iald hx hb hK.1 hP 12 0 rfl rfl (g_in rfl (by omega) (by omega)) dX9_jump_103 ?_
              refine lv_topi (fun z_31 ez_31 => ?_)
              have kz_31 := congrArg Int32.toInt ez_31
              have jz_31 : 0 ≤ z_31.toInt ∧ z_31.toInt ≤ 399 := by rw [ez_31]; exact hw_10_0 _ (g_ix rfl (by omega) (by omega))
              refine lv_istore (lv' := [(6, .int z_31), (7, .int r_26), (9, .int r_26), (8, .int L8_48), (5, .int r_5), (0, .ref mh), (1, .int p0), (2, .int p1), (3, .int p2), (4, .int p3)]) hx hb dX9_jump_104 hl (by decide) rfl (fun ls hl => ?_)
              obtain ⟨z_32, ez_32⟩ : ∃ y : Int32, y = L8_48 + 1 := ⟨_, rfl⟩
              have jz_32 : z_32.toInt = L8_48.toInt + 1 := by rw [ez_32]; exact g_add rfl t_1 (by omega) (by omega)
              refine lv_iinc (v := z_32) (lv' := [(8, .int z_32), (6, .int z_31), (7, .int r_26), (9, .int r_26), (5, .int r_5), (0, .ref mh), (1, .int p0), (2, .int p1), (3, .int p2), (4, .int p3)]) hx hb dX9_jump_106 hl (k := 3) rfl (by rw [ez_32]; rfl) (by decide) rfl (fun ls hl => ?_)
              refine lv_goto (tgt := 48) hx hb dX9_jump_109 (by decide) ?_
              exact ih_17 z_32 r_26 z_31 _ _ _ (by (try dsimp only); omega) (by (try dsimp only); omega) (by rw [clampS (by omega) jz_32, farF_s, ← v1_48, ← hq_29, if_pos (by omega)]) (by rw [clampS (by omega) jz_32, farF_s, ← v1_48, ← hq_29, if_pos (by omega)]; exact ez_31) hP hD hS (lv_sub hl [0, 2, 1, 4, 5, 6, 7, 8, 9] rfl)
            ·
              have ic_30 : r_26.toInt ≤ L7_48.toInt := by first | exact (g_le rfl rfl).mp c_30 | (have h := mt (g_lt rfl rfl).mpr c_30; omega)
              clear c_30
              refine lv_goto (tgt := 106) hx hb dX9_jump_90 (by decide) ?_
              obtain ⟨z_33, ez_33⟩ : ∃ y : Int32, y = L8_48 + 1 := ⟨_, rfl⟩
              have jz_33 : z_33.toInt = L8_48.toInt + 1 := by rw [ez_33]; exact g_add rfl t_1 (by omega) (by omega)
              refine lv_iinc (v := z_33) (lv' := [(8, .int z_33), (9, .int r_26), (7, .int L7_48), (6, .int L6_48), (5, .int r_5), (0, .ref mh), (1, .int p0), (2, .int p1), (3, .int p2), (4, .int p3)]) hx hb dX9_jump_106 hl (k := 1) rfl (by rw [ez_33]; rfl) (by decide) rfl (fun ls hl => ?_)
              refine lv_goto (tgt := 48) hx hb dX9_jump_109 (by decide) ?_
              exact ih_17 z_33 L7_48 L6_48 _ _ _ (by (try dsimp only); omega) (by (try dsimp only); omega) (by rw [clampS (by omega) jz_33, farF_s, ← v1_48, ← hq_29, if_neg (by omega)]; exact v1_48) (by rw [clampS (by omega) jz_33, farF_s, ← v1_48, ← hq_29, if_neg (by omega)]; exact v2_48) hP hD hS (lv_sub hl [0, 2, 3, 4, 5, 6, 7, 8, 9] rfl)
      exact loop_16 61 0 p3 ((-1)) _ _ _ (by have h0 := t_m1; have h1 := t_0; (try dsimp only); omega) (by have h0 := t_m1; have h1 := t_0; (try dsimp only); omega) (by rw [clamp_0]; rfl) (by rw [clamp_0]; rfl) hP hD hS (lv_sub hl [0, 1, 2, 3, 4, 5, 6, 7, 8] rfl)
    ·
      have ic_8 : r_5.toInt < 0 := by first | exact (g_lt rfl t_0).mp c_8 | (have h := mt (g_le t_0 rfl).mpr c_8; omega)
      clear c_8
      refine lv_iload hx hb dX9_jump_28 (lv_at hl 0 rfl) ?_
      have hP9 := hP.sub (ws' := [(mh, .inr (9, G9 ma mcode mtoday moffs mmany msumW msumA msumR msumWW msumWA msumAA msumWR msumAR mupper mlower mrates mtaped mlaid mat mtk mtkAt mtkNumber mwaits mlisted mdealtMany)), ((ma 3), .inl (E 0, 16, .inl mf3)), ((ma 5), .inl (E 1, 6400, .inl mf5)), ((ma 6), .inl (E 0, 6400, .inl mf6)), ((ma 7), .inl (E 0, 6400, .inl mf7)), ((ma 8), .inl (E 1, 6400, .inl mf8)), ((ma 9), .inl (E 1, 6400, .inl mf9)), ((ma 12), .inl (E 0, 60, .inl mf12)), ((ma 13), .inl (E 0, 60, .inl mf13)), ((ma 14), .inl (E 0, 60, .inl mf14)), ((ma 15), .inl (E 0, 60, .inl mf15)), ((ma 16), .inl (E 0, 60, .inl mf16)), ((ma 29), .inl (E 0, 60, .inl mf29)), ((ma 30), .inl (E 0, 60, .inl mf30)), ((ma 31), .inl (E 0, 60, .inl mf31))]) [0, 1, 2, 3, 4, 5, 6, 7, 8, 9, 10, 11, 12, 13, 14] rfl
      have hD9 := hD.sub (ws' := [(mh, .inr (9, G9 ma mcode mtoday moffs mmany msumW msumA msumR msumWW msumWA msumAA msumWR msumAR mupper mlower mrates mtaped mlaid mat mtk mtkAt mtkNumber mwaits mlisted mdealtMany)), ((ma 3), .inl (E 0, 16, .inl mf3)), ((ma 5), .inl (E 1, 6400, .inl mf5)), ((ma 6), .inl (E 0, 6400, .inl mf6)), ((ma 7), .inl (E 0, 6400, .inl mf7)), ((ma 8), .inl (E 1, 6400, .inl mf8)), ((ma 9), .inl (E 1, 6400, .inl mf9)), ((ma 12), .inl (E 0, 60, .inl mf12)), ((ma 13), .inl (E 0, 60, .inl mf13)), ((ma 14), .inl (E 0, 60, .inl mf14)), ((ma 15), .inl (E 0, 60, .inl mf15)), ((ma 16), .inl (E 0, 60, .inl mf16)), ((ma 29), .inl (E 0, 60, .inl mf29)), ((ma 30), .inl (E 0, 60, .inl mf30)), ((ma 31), .inl (E 0, 60, .inl mf31))]) [0, 1, 2, 3, 4, 5, 6, 7, 8, 9, 10, 11, 12, 13, 14] (by decide) rfl
      exact W.iret (v := r_5) hx hb hr (fun t ht hW => ⟨⟨r_5, (mf29, mf30, mf31, mrates), rfl, ⟨hr_m29, (by (try dsimp only); omega), (by rcases hw_6 with h9 | h9 | h9 <;> first | (exfalso; omega) | exact Or.inl ⟨by omega, by omega⟩ | exact Or.inr (Or.inl ⟨by omega, by omega⟩))⟩, by rw [ht]; exact hP9, hD9⟩, hS.F ht⟩) hS.2.2 dX9_jump_30
  ·
    try simp only [t_0, t_2000] at hw_2
    refine W_top (y := .int 0) (by rw [hr_1]) ?_
    refine lv_if_ne (tgt := 14) hx hb dX9_jump_9 (by decide) (fun c_34 => absurd (by decide) c_34) (fun c_34 => ?_)
    refine lv_iconst (v := (-1)) hx hb dX9_jump_12 (by decide) ?_
    have hP9 := hP.sub (ws' := [(mh, .inr (9, G9 ma mcode mtoday moffs mmany msumW msumA msumR msumWW msumWA msumAA msumWR msumAR mupper mlower mrates mtaped mlaid mat mtk mtkAt mtkNumber mwaits mlisted mdealtMany)), ((ma 3), .inl (E 0, 16, .inl mf3)), ((ma 5), .inl (E 1, 6400, .inl mf5)), ((ma 6), .inl (E 0, 6400, .inl mf6)), ((ma 7), .inl (E 0, 6400, .inl mf7)), ((ma 8), .inl (E 1, 6400, .inl mf8)), ((ma 9), .inl (E 1, 6400, .inl mf9)), ((ma 12), .inl (E 0, 60, .inl mf12)), ((ma 13), .inl (E 0, 60, .inl mf13)), ((ma 14), .inl (E 0, 60, .inl mf14)), ((ma 15), .inl (E 0, 60, .inl mf15)), ((ma 16), .inl (E 0, 60, .inl mf16)), ((ma 29), .inl (E 0, 60, .inl mf29)), ((ma 30), .inl (E 0, 60, .inl mf30)), ((ma 31), .inl (E 0, 60, .inl mf31))]) [0, 1, 2, 3, 4, 5, 6, 7, 8, 9, 10, 11, 12, 13, 14] rfl
    have hD9 := hD.sub (ws' := [(mh, .inr (9, G9 ma mcode mtoday moffs mmany msumW msumA msumR msumWW msumWA msumAA msumWR msumAR mupper mlower mrates mtaped mlaid mat mtk mtkAt mtkNumber mwaits mlisted mdealtMany)), ((ma 3), .inl (E 0, 16, .inl mf3)), ((ma 5), .inl (E 1, 6400, .inl mf5)), ((ma 6), .inl (E 0, 6400, .inl mf6)), ((ma 7), .inl (E 0, 6400, .inl mf7)), ((ma 8), .inl (E 1, 6400, .inl mf8)), ((ma 9), .inl (E 1, 6400, .inl mf9)), ((ma 12), .inl (E 0, 60, .inl mf12)), ((ma 13), .inl (E 0, 60, .inl mf13)), ((ma 14), .inl (E 0, 60, .inl mf14)), ((ma 15), .inl (E 0, 60, .inl mf15)), ((ma 16), .inl (E 0, 60, .inl mf16)), ((ma 29), .inl (E 0, 60, .inl mf29)), ((ma 30), .inl (E 0, 60, .inl mf30)), ((ma 31), .inl (E 0, 60, .inl mf31))]) [0, 1, 2, 3, 4, 5, 6, 7, 8, 9, 10, 11, 12, 13, 14] (by decide) rfl
    exact W.iret (v := (-1)) hx hb hr (fun t ht hW => ⟨⟨(-1), (mf29, mf30, mf31, mrates), rfl, ⟨hr_m29, (by (try dsimp only); omega), (Or.inl ⟨by have hl0 := t_m1; omega, by omega⟩)⟩, by rw [ht]; exact hP9, hD9⟩, hS.F ht⟩) hS.2.2 dX9_jump_13
end
