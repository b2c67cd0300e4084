set_option maxHeartbeats 4000000 in
set_option maxRecDepth 100000 in
theorem g_X9_errorOf (l : Launch) (D : va_G) (E : Nat → Nat) (mh : Nat) (ma : Nat → Nat) (mcode : Int32) (mtoday : Int32) (moffs : Int32) (mmany : Int64) (msumW : Int64) (msumA : Int64) (msumR : Int64) (msumWW : Int64) (msumWA : Int64) (msumAA : Int64) (msumWR : Int64) (msumAR : Int64) (mupper : Int64) (mlower : Int64) (mrates : Int32) (mtaped : Int32) (mlaid : Int32) (mat : Int32) (mtk : Int32) (mtkAt : Int32) (mtkNumber : Int32) (mwaits : Int32) (mlisted : Int32) (mdealtMany : Int32) (mf5 : Nat → Int32) (mf6 : Nat → Int32) (mf7 : Nat → Int32) (mf12 : Nat → Int32) (mf13 : Nat → Int32) (mf14 : Nat → Int32) (mf15 : Nat → Int32) (mf16 : Nat → Int32) (p0 : Int32) (p1 : Int32) (p2 : Int32) (hi_m : (0 ≤ mtoday.toInt ∧ mtoday.toInt ≤ 399) ∧ (0 ≤ moffs.toInt ∧ moffs.toInt ≤ 60) ∧ (0 ≤ mrates.toInt ∧ mrates.toInt ≤ 60) ∧ (0 ≤ mtaped.toInt ∧ mtaped.toInt ≤ 120) ∧ (0 ≤ mlisted.toInt ∧ mlisted.toInt ≤ 9) ∧ (0 ≤ mdealtMany.toInt ∧ mdealtMany.toInt ≤ 9)) (g0 : 0 ≤ p0.toInt ∧ p0.toInt ≤ 15) (g1 : 0 ≤ p1.toInt ∧ p1.toInt ≤ 399) : Met l yX9_errorOf (wl yX9_errorOf cX9_errorOf 7 (some .int)) (RM 1 0 0) (rd_P D E [.ref mh, .int p0, .int p1, .int p2] [(mh, .inr (9, G9 ma mcode mtoday moffs mmany msumW msumA msumR msumWW msumWA msumAA msumWR msumAR mupper mlower mrates mtaped mlaid mat mtk mtkAt mtkNumber mwaits mlisted mdealtMany)), ((ma 5), .inl (E 1, 6400, .inl mf5)), ((ma 6), .inl (E 0, 6400, .inl mf6)), ((ma 7), .inl (E 0, 6400, .inl mf7)), ((ma 12), .inl (E 0, 60, .inl mf12)), ((ma 13), .inl (E 0, 60, .inl mf13)), ((ma 14), .inl (E 0, 60, .inl mf14)), ((ma 15), .inl (E 0, 60, .inl mf15)), ((ma 16), .inl (E 0, 60, .inl mf16))]) (rd_Q (fun r => (r = errF mf5 mf6 mf7 mf12 mf13 mf14 mf15 mf16 moffs p0 p1 p2))) 0 0 (fun _ => False) := by
  refine Met.ofW (cc := cX9_errorOf) (maxL := 7) (ret := (some .int)) (by decide) rfl ?_
  intro p e s m args below meth c s₁ B hml hv
  obtain ⟨rfl, hP, hK⟩ := hv
  have hx := B.exec; have hb := B.bytes; have hr := B.returns
  have hts := atoms_spec (ws := wl yX9_errorOf cX9_errorOf 7 (some .int)) B.pre
  have htb : ∀ w ∈ tb, w.before _ s = true := fun w h => hts w (List.mem_cons_of_mem _ h)
  have hown : s.vm.findClass RX9 = some m.cls := findClass_of_methodNamed B.named
  have hlocks := B.notSynchronized
  have hP : va_P D vwCl [(mh, .inr (9, G9 ma mcode mtoday moffs mmany msumW msumA msumR msumWW msumWA msumAA msumWR msumAR mupper mlower mrates mtaped mlaid mat mtk mtkAt mtkNumber mwaits mlisted mdealtMany)), ((ma 5), .inl (E 1, 6400, .inl mf5)), ((ma 6), .inl (E 0, 6400, .inl mf6)), ((ma 7), .inl (E 0, 6400, .inl mf7)), ((ma 12), .inl (E 0, 60, .inl mf12)), ((ma 13), .inl (E 0, 60, .inl mf13)), ((ma 14), .inl (E 0, 60, .inl mf14)), ((ma 15), .inl (E 0, 60, .inl mf15)), ((ma 16), .inl (E 0, 60, .inl mf16))] s.heap := hP
  have hl := lv_entry ([.ref mh, .int p0, .int p1, .int p2]) (n := 7) (Nat.le_of_ble_eq_true rfl)
  rw [lg_entry_eq]
  generalize (lg_sl ([.ref mh, .int p0, .int p1, .int p2]) ++ List.replicate (7 - (lg_sl ([.ref mh, .int p0, .int p1, .int p2])).length) Slot.unset).toArray = ls at hl ⊢
  have hl : lv_has ls 7 [(0, .ref mh), (1, .int p0), (2, .int p1), (3, .int p2)] := hl
  have lo_p0 := i_lo p0; have hi_p0 := i_hi p0
  have lo_p1 := i_lo p1; have hi_p1 := i_hi p1
  have lo_p2 := i_lo p2; have hi_p2 := i_hi p2
  refine lv_sipush (v := 400) hx hb dX9_errorOf_0 (by decide) ?_
  refine lv_iload_n hx hb dX9_errorOf_3 rfl (lv_at hl 1 rfl) ?_
  refine lv_imul hx hb dX9_errorOf_4 ?_
  refine lv_topi (fun z_1 ez_1 => ?_)
  have jz_1 : z_1.toInt = 400 * p0.toInt := by rw [ez_1]; exact g_mul t_400 rfl (by omega) (by omega)
  refine lv_iload_n hx hb dX9_errorOf_5 rfl (lv_at hl 2 rfl) ?_
  refine lv_iadd hx hb dX9_errorOf_6 ?_
  refine lv_topi (fun z_2 ez_2 => ?_)
  have jz_2 : z_2.toInt = z_1.toInt + p1.toInt := by rw [ez_2]; exact g_add rfl rfl (by omega) (by omega)
  refine lv_istore (lv' := [(4, .int z_2), (0, .ref mh), (1, .int p0), (2, .int p1), (3, .int p2)]) hx hb dX9_errorOf_7 hl (by decide) rfl (fun ls hl => ?_)
  refine lv_aload_n hx hb dX9_errorOf_9 rfl (lv_at hl 1 rfl) ?_
  refine va_get (D := D) (ci := 9) (v := .ref (ma 5)) (C := RX9) (T := TX9) (N := 68) hx hb htb iX9 hown hK.1 hP 0 rfl rfl 5 (by decide) (htb _ k_963) (fun _ h9 => h9) rfl dX9_errorOf_10 ?_
  refine lv_iload hx hb dX9_errorOf_13 (lv_at hl 0 rfl) ?_
  refine va_zald hx hb hK.1 hP 1 1 rfl rfl (g_in rfl (by omega) (by omega)) dX9_errorOf_15 ?_
  refine lv_topi (fun z_3 ez_3 => ?_)
  have kz_3 := congrArg Int32.toInt ez_3
  refine lv_if_ne (tgt := 22) hx hb dX9_errorOf_16 (by decide) (fun c_4 => ?_) (fun c_4 => ?_)
  ·
    have ic_4 : z_3.toInt ≠ 0 := mt (g_eq rfl t_0).mpr c_4
    clear c_4
    refine lv_aload_n hx hb dX9_errorOf_22 rfl (lv_at hl 1 rfl) ?_
    refine va_get (D := D) (ci := 9) (v := .ref (ma 6)) (C := RX9) (T := TX9) (N := 68) hx hb htb iX9 hown hK.1 hP 0 rfl rfl 6 (by decide) (htb _ k_964) (fun _ h9 => h9) rfl dX9_errorOf_23 ?_
    refine lv_iload hx hb dX9_errorOf_26 (lv_at hl 0 rfl) ?_
    refine va_iald hx hb hK.1 hP 2 0 rfl rfl (g_in rfl (by omega) (by omega)) dX9_errorOf_28 ?_
    refine lv_topi (fun z_5 ez_5 => ?_)
    have kz_5 := congrArg Int32.toInt ez_5
    refine lv_istore (lv' := [(5, .int z_5), (4, .int z_2), (0, .ref mh), (1, .int p0), (2, .int p1), (3, .int p2)]) hx hb dX9_errorOf_29 hl (by decide) rfl (fun ls hl => ?_)
    refine lv_iconst (v := 0) hx hb dX9_errorOf_31 (by decide) ?_
    refine lv_istore (lv' := [(6, .int 0), (5, .int z_5), (4, .int z_2), (0, .ref mh), (1, .int p0), (2, .int p1), (3, .int p2)]) hx hb dX9_errorOf_32 hl (by decide) rfl (fun ls hl => ?_)
    have loop_6 : ∀ (N_8 : Nat) (L6_34 : Int32) (L5_34 : Int32)  (ls : Array Slot), moffs.toInt - L6_34.toInt < (N_8 : Int) → (0 ≤ L6_34.toInt ∧ L6_34.toInt ≤ moffs.toInt) → (L5_34 = errS mf12 mf13 mf14 mf15 mf16 (mf7 (400 * p0 + p1).toNatClampNeg) p1 p2 (mf6 (400 * p0 + p1).toNatClampNeg) (L6_34).toNatClampNeg) → lv_has ls 7 [(6, .int L6_34), (5, .int L5_34), (4, .int z_2), (0, .ref mh), (1, .int p0), (2, .int p1), (3, .int p2)] → W p l e (headSpec (wl yX9_errorOf cX9_errorOf 7 (some .int)) (RM 1 0 0)).room s m [Value.ref mh, .int p0, .int p1, .int p2].toArray below meth c s.heap [] 0 0 (MQ below (rd_Q (fun r => (r = errF mf5 mf6 mf7 mf12 mf13 mf14 mf15 mf16 moffs p0 p1 p2))) [Value.ref mh, .int p0, .int p1, .int p2].toArray s 0 0 (fun _ => False)) (F0 m 34 ls []) := by
      intro N_8
      induction N_8 with
      | zero => intro L6_34 L5_34  ls hm v0_34 v1_34 _; exfalso; omega
      | succ N_8 ih_7 =>
        intro L6_34 L5_34 ls hm v0_34 v1_34 hl
        have lo_L6_34 := i_lo L6_34; have hi_L6_34 := i_hi L6_34
        have lo_L5_34 := i_lo L5_34; have hi_L5_34 := i_hi L5_34
        refine lv_iload hx hb dX9_errorOf_34 (lv_at hl 0 rfl) ?_
        refine lv_aload_n hx hb dX9_errorOf_36 rfl (lv_at hl 3 rfl) ?_
        refine va_get (D := D) (ci := 9) (v := .int moffs) (C := RX9) (T := TX9) (N := 68) hx hb htb iX9 hown hK.1 hP 0 rfl rfl 11 (by decide) (htb _ k_969) (fun _ h9 => h9) rfl dX9_errorOf_37 ?_
        refine lv_icmp_ge (tgt := 114) hx hb dX9_errorOf_40 (by decide) (fun c_9 => ?_) (fun c_9 => ?_)
        ·
          have ic_9 : moffs.toInt ≤ L6_34.toInt := by first | exact (g_le rfl rfl).mp c_9 | (have h := mt (g_lt rfl rfl).mpr c_9; omega)
          clear c_9
          refine lv_iload hx hb dX9_errorOf_114 (lv_at hl 1 rfl) ?_
          exact W.iret (v := L5_34) hx hb hr (fun t ht hW => ⟨L5_34, rfl, (by unfold errF; have hcl := clampE (i := L6_34) (j := moffs) (by omega) (by omega); subst_vars; rw [if_neg (by assumption), hcl]), ht⟩) (fun q h => by cases h) dX9_errorOf_116
        ·
          have ic_9 : L6_34.toInt < moffs.toInt := by first | exact (g_lt rfl rfl).mp c_9 | (have h := mt (g_le rfl rfl).mpr c_9; omega)
          clear c_9
          refine lv_aload_n hx hb dX9_errorOf_43 rfl (lv_at hl 3 rfl) ?_
          refine va_get (D := D) (ci := 9) (v := .ref (ma 12)) (C := RX9) (T := TX9) (N := 68) hx hb htb iX9 hown hK.1 hP 0 rfl rfl 12 (by decide) (htb _ k_970) (fun _ h9 => h9) rfl dX9_errorOf_44 ?_
          refine lv_iload hx hb dX9_errorOf_47 (lv_at hl 0 rfl) ?_
          refine va_iald hx hb hK.1 hP 4 0 rfl rfl (g_in rfl (by omega) (by omega)) dX9_errorOf_49 ?_
          refine lv_topi (fun z_10 ez_10 => ?_)
          have kz_10 := congrArg Int32.toInt ez_10
          refine lv_aload_n hx hb dX9_errorOf_50 rfl (lv_at hl 3 rfl) ?_
          refine va_get (D := D) (ci := 9) (v := .ref (ma 7)) (C := RX9) (T := TX9) (N := 68) hx hb htb iX9 hown hK.1 hP 0 rfl rfl 7 (by decide) (htb _ k_965) (fun _ h9 => h9) rfl dX9_errorOf_51 ?_
          refine lv_iload hx hb dX9_errorOf_54 (lv_at hl 2 rfl) ?_
          refine va_iald hx hb hK.1 hP 3 0 rfl rfl (g_in rfl (by omega) (by omega)) dX9_errorOf_56 ?_
          refine lv_topi (fun z_11 ez_11 => ?_)
          have kz_11 := congrArg Int32.toInt ez_11
          refine lv_icmp_ne (tgt := 108) hx hb dX9_errorOf_57 (by decide) (fun c_12 => ?_) (fun c_12 => ?_)
          ·
            have ic_12 : z_10.toInt ≠ z_11.toInt := mt (g_eq rfl rfl).mpr c_12
            clear c_12
            obtain ⟨z_13, ez_13⟩ : ∃ y : Int32, y = L6_34 + 1 := ⟨_, rfl⟩
            have jz_13 : z_13.toInt = L6_34.toInt + 1 := by rw [ez_13]; exact g_add rfl t_1 (by omega) (by omega)
            refine lv_iinc (v := z_13) (lv' := [(6, .int z_13), (5, .int L5_34), (4, .int z_2), (0, .ref mh), (1, .int p0), (2, .int p1), (3, .int p2)]) hx hb dX9_errorOf_108 hl (k := 0) rfl (by rw [ez_13]; rfl) (by decide) rfl (fun ls hl => ?_)
            refine lv_goto (tgt := 34) hx hb dX9_errorOf_111 (by decide) ?_
            exact ih_7 z_13 L5_34 _ (by (try dsimp only); omega) (by (try dsimp only); omega) (by have hcl := clampS (by omega) jz_13; subst_vars; rw [hcl, errS_succ]; split <;> first | rfl | (exfalso; omega)) (lv_sub hl [0, 1, 2, 3, 4, 5, 6] rfl)
          ·
            have ic_12 : z_10.toInt = z_11.toInt := (g_eq rfl rfl).mp c_12
            clear c_12
            refine lv_iload_n hx hb dX9_errorOf_60 rfl (lv_at hl 5 rfl) ?_
            refine lv_aload_n hx hb dX9_errorOf_61 rfl (lv_at hl 3 rfl) ?_
            refine va_get (D := D) (ci := 9) (v := .ref (ma 13)) (C := RX9) (T := TX9) (N := 68) hx hb htb iX9 hown hK.1 hP 0 rfl rfl 13 (by decide) (htb _ k_971) (fun _ h9 => h9) rfl dX9_errorOf_62 ?_
            refine lv_iload hx hb dX9_errorOf_65 (lv_at hl 0 rfl) ?_
            refine va_iald hx hb hK.1 hP 5 0 rfl rfl (g_in rfl (by omega) (by omega)) dX9_errorOf_67 ?_
            refine lv_topi (fun z_14 ez_14 => ?_)
            have kz_14 := congrArg Int32.toInt ez_14
            refine lv_aload_n hx hb dX9_errorOf_68 rfl (lv_at hl 3 rfl) ?_
            refine va_get (D := D) (ci := 9) (v := .ref (ma 14)) (C := RX9) (T := TX9) (N := 68) hx hb htb iX9 hown hK.1 hP 0 rfl rfl 14 (by decide) (htb _ k_972) (fun _ h9 => h9) rfl dX9_errorOf_69 ?_
            refine lv_iload hx hb dX9_errorOf_72 (lv_at hl 0 rfl) ?_
            refine va_iald hx hb hK.1 hP 6 0 rfl rfl (g_in rfl (by omega) (by omega)) dX9_errorOf_74 ?_
            refine lv_topi (fun z_15 ez_15 => ?_)
            have kz_15 := congrArg Int32.toInt ez_15
            refine callRS (rest := []) (As := [.int p1, .int z_14, .int z_15]) hx hb hml hown htb hK (g_X9_in l D E p1 z_14 z_15 ) ok_X9_in k_1168 k_1169 k_9 k_1170 ⟨(Nat.le_of_ble_eq_true rfl), (Nat.le_of_ble_eq_true rfl)⟩ ⟨(Nat.le_of_ble_eq_true rfl), (Nat.le_of_ble_eq_true rfl)⟩ hl.1 (Nat.le_of_ble_eq_true rfl) rfl rfl dX9_errorOf_75 (hP.sub (ws' := ([] : va_W)) [] rfl) (fun r_16 hw_17 => ?_)
            rcases hw_17 with ⟨hr_16, hw_17⟩ | ⟨hr_16, hw_17⟩
            ·
              refine W_top (y := .int 1) (by rw [hr_16]) ?_
              refine lv_if_eq (tgt := 108) hx hb dX9_errorOf_78 (by decide) (fun c_19 => absurd c_19 (by decide)) (fun c_19 => ?_)
              refine lv_iload_n hx hb dX9_errorOf_81 rfl (lv_at hl 6 rfl) ?_
              refine lv_if_lt (tgt := 96) hx hb dX9_errorOf_82 (by decide) (fun c_20 => ?_) (fun c_20 => ?_)
              ·
                have ic_20 : p2.toInt < 0 := by first | exact (g_lt rfl t_0).mp c_20 | (have h := mt (g_le t_0 rfl).mpr c_20; omega)
                clear c_20
                refine lv_iload hx hb dX9_errorOf_96 (lv_at hl 1 rfl) ?_
                refine lv_aload_n hx hb dX9_errorOf_98 rfl (lv_at hl 3 rfl) ?_
                refine va_get (D := D) (ci := 9) (v := .ref (ma 15)) (C := RX9) (T := TX9) (N := 68) hx hb htb iX9 hown hK.1 hP 0 rfl rfl 15 (by decide) (htb _ k_973) (fun _ h9 => h9) rfl dX9_errorOf_99 ?_
                refine lv_iload hx hb dX9_errorOf_102 (lv_at hl 0 rfl) ?_
                refine va_iald hx hb hK.1 hP 7 0 rfl rfl (g_in rfl (by omega) (by omega)) dX9_errorOf_104 ?_
                refine lv_topi (fun z_21 ez_21 => ?_)
                have kz_21 := congrArg Int32.toInt ez_21
                refine lv_isub hx hb dX9_errorOf_105 ?_
                refine lv_topi (fun z_22 ez_22 => ?_)
                refine lv_istore (lv' := [(5, .int z_22), (6, .int L6_34), (4, .int z_2), (0, .ref mh), (1, .int p0), (2, .int p1), (3, .int p2)]) hx hb dX9_errorOf_106 hl (by decide) rfl (fun ls hl => ?_)
                obtain ⟨z_23, ez_23⟩ : ∃ y : Int32, y = L6_34 + 1 := ⟨_, rfl⟩
                have jz_23 : z_23.toInt = L6_34.toInt + 1 := by rw [ez_23]; exact g_add rfl t_1 (by omega) (by omega)
                refine lv_iinc (v := z_23) (lv' := [(6, .int z_23), (5, .int z_22), (4, .int z_2), (0, .ref mh), (1, .int p0), (2, .int p1), (3, .int p2)]) hx hb dX9_errorOf_108 hl (k := 1) rfl (by rw [ez_23]; rfl) (by decide) rfl (fun ls hl => ?_)
                refine lv_goto (tgt := 34) hx hb dX9_errorOf_111 (by decide) ?_
                exact ih_7 z_23 z_22 _ (by (try dsimp only); omega) (by (try dsimp only); omega) (by have hcl := clampS (by omega) jz_23; subst_vars; rw [hcl, errS_succ]; split <;> first | rfl | (exfalso; omega)) (lv_sub hl [0, 1, 2, 3, 4, 5, 6] rfl)
              ·
                have ic_20 : 0 ≤ p2.toInt := by first | exact (g_le t_0 rfl).mp c_20 | (have h := mt (g_lt rfl t_0).mpr c_20; omega)
                clear c_20
                refine lv_aload_n hx hb dX9_errorOf_85 rfl (lv_at hl 3 rfl) ?_
                refine va_get (D := D) (ci := 9) (v := .ref (ma 16)) (C := RX9) (T := TX9) (N := 68) hx hb htb iX9 hown hK.1 hP 0 rfl rfl 16 (by decide) (htb _ k_974) (fun _ h9 => h9) rfl dX9_errorOf_86 ?_
                refine lv_iload hx hb dX9_errorOf_89 (lv_at hl 0 rfl) ?_
                refine va_iald hx hb hK.1 hP 8 0 rfl rfl (g_in rfl (by omega) (by omega)) dX9_errorOf_91 ?_
                refine lv_topi (fun z_24 ez_24 => ?_)
                have kz_24 := congrArg Int32.toInt ez_24
                refine lv_iload_n hx hb dX9_errorOf_92 rfl (lv_at hl 6 rfl) ?_
                refine lv_icmp_gt (tgt := 108) hx hb dX9_errorOf_93 (by decide) (fun c_25 => ?_) (fun c_25 => ?_)
                ·
                  have ic_25 : p2.toInt < z_24.toInt := by first | exact (g_lt rfl rfl).mp c_25 | (have h := mt (g_le rfl rfl).mpr c_25; omega)
                  clear c_25
                  obtain ⟨z_26, ez_26⟩ : ∃ y : Int32, y = L6_34 + 1 := ⟨_, rfl⟩
                  have jz_26 : z_26.toInt = L6_34.toInt + 1 := by rw [ez_26]; exact g_add rfl t_1 (by omega) (by omega)
                  refine lv_iinc (v := z_26) (lv' := [(6, .int z_26), (5, .int L5_34), (4, .int z_2), (0, .ref mh), (1, .int p0), (2, .int p1), (3, .int p2)]) hx hb dX9_errorOf_108 hl (k := 0) rfl (by rw [ez_26]; rfl) (by decide) rfl (fun ls hl => ?_)
                  refine lv_goto (tgt := 34) hx hb dX9_errorOf_111 (by decide) ?_
                  exact ih_7 z_26 L5_34 _ (by (try dsimp only); omega) (by (try dsimp only); omega) (by have hcl := clampS (by omega) jz_26; subst_vars; rw [hcl, errS_succ]; split <;> first | rfl | (exfalso; omega)) (lv_sub hl [0, 1, 2, 3, 4, 5, 6] rfl)
                ·
                  have ic_25 : z_24.toInt ≤ p2.toInt := by first | exact (g_le rfl rfl).mp c_25 | (have h := mt (g_lt rfl rfl).mpr c_25; omega)
                  clear c_25
                  refine lv_iload hx hb dX9_errorOf_96 (lv_at hl 1 rfl) ?_
                  refine lv_aload_n hx hb dX9_errorOf_98 rfl (lv_at hl 3 rfl) ?_
                  refine va_get (D := D) (ci := 9) (v := .ref (ma 15)) (C := RX9) (T := TX9) (N := 68) hx hb htb iX9 hown hK.1 hP 0 rfl rfl 15 (by decide) (htb _ k_973) (fun _ h9 => h9) rfl dX9_errorOf_99 ?_
                  refine lv_iload hx hb dX9_errorOf_102 (lv_at hl 0 rfl) ?_
                  refine va_iald hx hb hK.1 hP 7 0 rfl rfl (g_in rfl (by omega) (by omega)) dX9_errorOf_104 ?_
                  refine lv_topi (fun z_27 ez_27 => ?_)
                  have kz_27 := congrArg Int32.toInt ez_27
                  refine lv_isub hx hb dX9_errorOf_105 ?_
                  refine lv_topi (fun z_28 ez_28 => ?_)
                  refine lv_istore (lv' := [(5, .int z_28), (6, .int L6_34), (4, .int z_2), (0, .ref mh), (1, .int p0), (2, .int p1), (3, .int p2)]) hx hb dX9_errorOf_106 hl (by decide) rfl (fun ls hl => ?_)
                  obtain ⟨z_29, ez_29⟩ : ∃ y : Int32, y = L6_34 + 1 := ⟨_, rfl⟩
                  have jz_29 : z_29.toInt = L6_34.toInt + 1 := by rw [ez_29]; exact g_add rfl t_1 (by omega) (by omega)
                  refine lv_iinc (v := z_29) (lv' := [(6, .int z_29), (5, .int z_28), (4, .int z_2), (0, .ref mh), (1, .int p0), (2, .int p1), (3, .int p2)]) hx hb dX9_errorOf_108 hl (k := 1) rfl (by rw [ez_29]; rfl) (by decide) rfl (fun ls hl => ?_)
                  refine lv_goto (tgt := 34) hx hb dX9_errorOf_111 (by decide) ?_
                  exact ih_7 z_29 z_28 _ (by (try dsimp only); omega) (by (try dsimp only); omega) (by have hcl := clampS (by omega) jz_29; subst_vars; rw [hcl, errS_succ]; split <;> first | rfl | (exfalso; omega)) (lv_sub hl [0, 1, 2, 3, 4, 5, 6] rfl)
            ·
              refine W_top (y := .int 0) (by rw [hr_16]) ?_
              refine lv_if_eq (tgt := 108) hx hb dX9_errorOf_78 (by decide) (fun c_30 => ?_) (fun c_30 => absurd (by decide) c_30)
              obtain ⟨z_31, ez_31⟩ : ∃ y : Int32, y = L6_34 + 1 := ⟨_, rfl⟩
              have jz_31 : z_31.toInt = L6_34.toInt + 1 := by rw [ez_31]; exact g_add rfl t_1 (by omega) (by omega)
              refine lv_iinc (v := z_31) (lv' := [(6, .int z_31), (5, .int L5_34), (4, .int z_2), (0, .ref mh), (1, .int p0), (2, .int p1), (3, .int p2)]) hx hb dX9_errorOf_108 hl (k := 0) rfl (by rw [ez_31]; rfl) (by decide) rfl (fun ls hl => ?_)
              refine lv_goto (tgt := 34) hx hb dX9_errorOf_111 (by decide) ?_
              exact ih_7 z_31 L5_34 _ (by (try dsimp only); omega) (by (try dsimp only); omega) (by have hcl := clampS (by omega) jz_31; subst_vars; rw [hcl, errS_succ]; split <;> first | rfl | (exfalso; omega)) (lv_sub hl [0, 1, 2, 3, 4, 5, 6] rfl)
    exact loop_6 61 0 z_5 _ (by have h0 := t_0; (try dsimp only); omega) (by have h0 := t_0; (try dsimp only); omega) (by subst_vars; rfl)  (lv_sub hl [0, 1, 2, 3, 4, 5, 6] rfl)
  ·
    have ic_4 : z_3.toInt = 0 := (g_eq rfl t_0).mp c_4
    clear c_4
    refine lv_ldc hx hb hown (htb _ k_1205) dX9_errorOf_19 ?_
    exact W.iret (v := (-2000000000)) hx hb hr (fun t ht hW => ⟨(-2000000000), rfl, (by unfold errF; subst_vars; rw [if_pos (by assumption)]), ht⟩) (fun q h => by cases h) dX9_errorOf_21
set_option maxHeartbeats 4000000 in
set_option maxRecDepth 100000 in
theorem g_X9_rateOf (l : Launch) (D : va_G) (E : Nat → Nat) (mh : Nat) (ma : Nat → Nat) (mcode : Int32) (mtoday : Int32) (moffs : Int32) (mmany : Int64) (msumW : Int64) (msumA : Int64) (msumR : Int64) (msumWW : Int64) (msumWA : Int64) (msumAA : Int64) (msumWR : Int64) (msumAR : Int64) (mupper : Int64) (mlower : Int64) (mrates : Int32) (mtaped : Int32) (mlaid : Int32) (mat : Int32) (mtk : Int32) (mtkAt : Int32) (mtkNumber : Int32) (mwaits : Int32) (mlisted : Int32) (mdealtMany : Int32) (mf5 : Nat → Int32) (mf6 : Nat → Int32) (mf7 : Nat → Int32) (mf8 : Nat → Int32) (mf9 : Nat → Int32) (mf12 : Nat → Int32) (mf13 : Nat → Int32) (mf14 : Nat → Int32) (mf15 : Nat → Int32) (mf16 : Nat → Int32) (p0 : Int32) (p1 : Int32) (p2 : Int32) (hi_m : (0 ≤ mtoday.toInt ∧ mtoday.toInt ≤ 399) ∧ (0 ≤ moffs.toInt ∧ moffs.toInt ≤ 60) ∧ (0 ≤ mrates.toInt ∧ mrates.toInt ≤ 60) ∧ (0 ≤ mtaped.toInt ∧ mtaped.toInt ≤ 120) ∧ (0 ≤ mlisted.toInt ∧ mlisted.toInt ≤ 9) ∧ (0 ≤ mdealtMany.toInt ∧ mdealtMany.toInt ≤ 9)) (g0 : 0 ≤ p0.toInt ∧ p0.toInt ≤ 15) (g1 : 0 ≤ p1.toInt ∧ p1.toInt ≤ 398) : Met l yX9_rateOf (wl yX9_rateOf cX9_rateOf 7 (some .int)) (RM 2 0 0) (rd_P D E [.ref mh, .int p0, .int p1, .int p2] [(mh, .inr (9, G9 ma mcode mtoday moffs mmany msumW msumA msumR msumWW msumWA msumAA msumWR msumAR mupper mlower mrates mtaped mlaid mat mtk mtkAt mtkNumber mwaits mlisted mdealtMany)), ((ma 5), .inl (E 1, 6400, .inl mf5)), ((ma 6), .inl (E 0, 6400, .inl mf6)), ((ma 7), .inl (E 0, 6400, .inl mf7)), ((ma 8), .inl (E 1, 6400, .inl mf8)), ((ma 9), .inl (E 1, 6400, .inl mf9)), ((ma 12), .inl (E 0, 60, .inl mf12)), ((ma 13), .inl (E 0, 60, .inl mf13)), ((ma 14), .inl (E 0, 60, .inl mf14)), ((ma 15), .inl (E 0, 60, .inl mf15)), ((ma 16), .inl (E 0, 60, .inl mf16))]) (rd_Q (fun r => (r = ratF mf5 mf6 mf7 mf8 mf9 mf12 mf13 mf14 mf15 mf16 moffs p0 p1 p2))) 0 0 (fun _ => False) := by
  refine Met.ofW (cc := cX9_rateOf) (maxL := 7) (ret := (some .int)) (by decide) rfl ?_
  intro p e s m args below meth c s₁ B hml hv
  obtain ⟨rfl, hP, hK⟩ := hv
  have hx := B.exec; have hb := B.bytes; have hr := B.returns
  have hts := atoms_spec (ws := wl yX9_rateOf cX9_rateOf 7 (some .int)) B.pre
  have htb : ∀ w ∈ tb, w.before _ s = true := fun w h => hts w (List.mem_cons_of_mem _ h)
  have hown : s.vm.findClass RX9 = some m.cls := findClass_of_methodNamed B.named
  have hlocks := B.notSynchronized
  have hP : va_P D vwCl [(mh, .inr (9, G9 ma mcode mtoday moffs mmany msumW msumA msumR msumWW msumWA msumAA msumWR msumAR mupper mlower mrates mtaped mlaid mat mtk mtkAt mtkNumber mwaits mlisted mdealtMany)), ((ma 5), .inl (E 1, 6400, .inl mf5)), ((ma 6), .inl (E 0, 6400, .inl mf6)), ((ma 7), .inl (E 0, 6400, .inl mf7)), ((ma 8), .inl (E 1, 6400, .inl mf8)), ((ma 9), .inl (E 1, 6400, .inl mf9)), ((ma 12), .inl (E 0, 60, .inl mf12)), ((ma 13), .inl (E 0, 60, .inl mf13)), ((ma 14), .inl (E 0, 60, .inl mf14)), ((ma 15), .inl (E 0, 60, .inl mf15)), ((ma 16), .inl (E 0, 60, .inl mf16))] s.heap := hP
  have hl := lv_entry ([.ref mh, .int p0, .int p1, .int p2]) (n := 7) (Nat.le_of_ble_eq_true rfl)
  rw [lg_entry_eq]
  generalize (lg_sl ([.ref mh, .int p0, .int p1, .int p2]) ++ List.replicate (7 - (lg_sl ([.ref mh, .int p0, .int p1, .int p2])).length) Slot.unset).toArray = ls at hl ⊢
  have hl : lv_has ls 7 [(0, .ref mh), (1, .int p0), (2, .int p1), (3, .int p2)] := hl
  have lo_p0 := i_lo p0; have hi_p0 := i_hi p0
  have lo_p1 := i_lo p1; have hi_p1 := i_hi p1
  have lo_p2 := i_lo p2; have hi_p2 := i_hi p2
  refine lv_sipush (v := 400) hx hb dX9_rateOf_0 (by decide) ?_
  refine lv_iload_n hx hb dX9_rateOf_3 rfl (lv_at hl 1 rfl) ?_
  refine lv_imul hx hb dX9_rateOf_4 ?_
  refine lv_topi (fun z_1 ez_1 => ?_)
  have jz_1 : z_1.toInt = 400 * p0.toInt := by rw [ez_1]; exact g_mul t_400 rfl (by omega) (by omega)
  refine lv_iload_n hx hb dX9_rateOf_5 rfl (lv_at hl 2 rfl) ?_
  refine lv_iadd hx hb dX9_rateOf_6 ?_
  refine lv_topi (fun z_2 ez_2 => ?_)
  have jz_2 : z_2.toInt = z_1.toInt + p1.toInt := by rw [ez_2]; exact g_add rfl rfl (by omega) (by omega)
  refine lv_istore (lv' := [(4, .int z_2), (0, .ref mh), (1, .int p0), (2, .int p1), (3, .int p2)]) hx hb dX9_rateOf_7 hl (by decide) rfl (fun ls hl => ?_)
  refine lv_aload_n hx hb dX9_rateOf_9 rfl (lv_at hl 1 rfl) ?_
  refine va_get (D := D) (ci := 9) (v := .ref (ma 8)) (C := RX9) (T := TX9) (N := 68) hx hb htb iX9 hown hK.1 hP 0 rfl rfl 8 (by decide) (htb _ k_966) (fun _ h9 => h9) rfl dX9_rateOf_10 ?_
  refine lv_iload hx hb dX9_rateOf_13 (lv_at hl 0 rfl) ?_
  refine lv_iconst (v := 1) hx hb dX9_rateOf_15 (by decide) ?_
  refine lv_iadd hx hb dX9_rateOf_16 ?_
  refine lv_topi (fun z_3 ez_3 => ?_)
  have jz_3 : z_3.toInt = z_2.toInt + 1 := by rw [ez_3]; exact g_add rfl t_1 (by omega) (by omega)
  refine va_zald hx hb hK.1 hP 4 1 rfl rfl (g_in rfl (by omega) (by omega)) dX9_rateOf_17 ?_
  refine lv_topi (fun z_4 ez_4 => ?_)
  have kz_4 := congrArg Int32.toInt ez_4
  refine lv_if_ne (tgt := 43) hx hb dX9_rateOf_18 (by decide) (fun c_5 => ?_) (fun c_5 => ?_)
  ·
    have ic_5 : z_4.toInt ≠ 0 := mt (g_eq rfl t_0).mpr c_5
    clear c_5
    refine lv_ldc hx hb hown (htb _ k_1205) dX9_rateOf_43 ?_
    exact W.iret (v := (-2000000000)) hx hb hr (fun t ht hW => ⟨(-2000000000), rfl, (by unfold ratF ratG; subst_vars; first | (rw [if_pos (by omega)]; done) | (rw [if_neg (by omega), if_pos (by omega)]; done) | (rw [if_neg (by omega), if_neg (by omega)]; done)), ht⟩) (fun q h => by cases h) dX9_rateOf_45
  ·
    have ic_5 : z_4.toInt = 0 := (g_eq rfl t_0).mp c_5
    clear c_5
    refine lv_aload_n hx hb dX9_rateOf_21 rfl (lv_at hl 1 rfl) ?_
    refine va_get (D := D) (ci := 9) (v := .ref (ma 9)) (C := RX9) (T := TX9) (N := 68) hx hb htb iX9 hown hK.1 hP 0 rfl rfl 9 (by decide) (htb _ k_967) (fun _ h9 => h9) rfl dX9_rateOf_22 ?_
    refine lv_iload hx hb dX9_rateOf_25 (lv_at hl 0 rfl) ?_
    refine va_zald hx hb hK.1 hP 5 1 rfl rfl (g_in rfl (by omega) (by omega)) dX9_rateOf_27 ?_
    refine lv_topi (fun z_6 ez_6 => ?_)
    have kz_6 := congrArg Int32.toInt ez_6
    refine lv_if_ne (tgt := 43) hx hb dX9_rateOf_28 (by decide) (fun c_7 => ?_) (fun c_7 => ?_)
    ·
      have ic_7 : z_6.toInt ≠ 0 := mt (g_eq rfl t_0).mpr c_7
      clear c_7
      refine lv_ldc hx hb hown (htb _ k_1205) dX9_rateOf_43 ?_
      exact W.iret (v := (-2000000000)) hx hb hr (fun t ht hW => ⟨(-2000000000), rfl, (by unfold ratF ratG; subst_vars; first | (rw [if_pos (by omega)]; done) | (rw [if_neg (by omega), if_pos (by omega)]; done) | (rw [if_neg (by omega), if_neg (by omega)]; done)), ht⟩) (fun q h => by cases h) dX9_rateOf_45
    ·
      have ic_7 : z_6.toInt = 0 := (g_eq rfl t_0).mp c_7
      clear c_7
      refine lv_aload_n hx hb dX9_rateOf_31 rfl (lv_at hl 1 rfl) ?_
      refine va_get (D := D) (ci := 9) (v := .ref (ma 9)) (C := RX9) (T := TX9) (N := 68) hx hb htb iX9 hown hK.1 hP 0 rfl rfl 9 (by decide) (htb _ k_967) (fun _ h9 => h9) rfl dX9_rateOf_32 ?_
      refine lv_iload hx hb dX9_rateOf_35 (lv_at hl 0 rfl) ?_
      refine lv_iconst (v := 1) hx hb dX9_rateOf_37 (by decide) ?_
      refine lv_iadd hx hb dX9_rateOf_38 ?_
      refine lv_topi (fun z_8 ez_8 => ?_)
      have jz_8 : z_8.toInt = z_2.toInt + 1 := by rw [ez_8]; exact g_add rfl t_1 (by omega) (by omega)
      refine va_zald hx hb hK.1 hP 5 1 rfl rfl (g_in rfl (by omega) (by omega)) dX9_rateOf_39 ?_
      refine lv_topi (fun z_9 ez_9 => ?_)
      have kz_9 := congrArg Int32.toInt ez_9
      refine lv_if_eq (tgt := 46) hx hb dX9_rateOf_40 (by decide) (fun c_10 => ?_) (fun c_10 => ?_)
      ·
        have ic_10 : z_9.toInt = 0 := (g_eq rfl t_0).mp c_10
        clear c_10
        refine lv_aload_n hx hb dX9_rateOf_46 rfl (lv_at hl 1 rfl) ?_
        refine lv_iload_n hx hb dX9_rateOf_47 rfl (lv_at hl 2 rfl) ?_
        refine lv_iload_n hx hb dX9_rateOf_48 rfl (lv_at hl 3 rfl) ?_
        refine lv_iload_n hx hb dX9_rateOf_49 rfl (lv_at hl 4 rfl) ?_
        refine callRV (rest := []) (As := [.int p0, .int p1, .int p2]) hx hb hml hown htb hK (g_X9_errorOf l D E mh ma mcode mtoday moffs mmany msumW msumA msumR msumWW msumWA msumAA msumWR msumAR mupper mlower mrates mtaped mlaid mat mtk mtkAt mtkNumber mwaits mlisted mdealtMany mf5 mf6 mf7 mf12 mf13 mf14 mf15 mf16 p0 p1 p2 (by (try dsimp only); omega) (by (try dsimp only); omega) (by (try dsimp only); omega)) ok_X9_errorOf k_1223 k_1225 ks_42 k_9 k_1226 ⟨(Nat.le_of_ble_eq_true rfl), (Nat.le_of_ble_eq_true rfl)⟩ ⟨(Nat.le_of_ble_eq_true rfl), (Nat.le_of_ble_eq_true rfl)⟩ hl.1 (Nat.le_of_ble_eq_true rfl) rfl rfl dX9_rateOf_50 (hP.sub (ws' := [(mh, .inr (9, G9 ma mcode mtoday moffs mmany msumW msumA msumR msumWW msumWA msumAA msumWR msumAR mupper mlower mrates mtaped mlaid mat mtk mtkAt mtkNumber mwaits mlisted mdealtMany)), ((ma 5), .inl (E 1, 6400, .inl mf5)), ((ma 6), .inl (E 0, 6400, .inl mf6)), ((ma 7), .inl (E 0, 6400, .inl mf7)), ((ma 12), .inl (E 0, 60, .inl mf12)), ((ma 13), .inl (E 0, 60, .inl mf13)), ((ma 14), .inl (E 0, 60, .inl mf14)), ((ma 15), .inl (E 0, 60, .inl mf15)), ((ma 16), .inl (E 0, 60, .inl mf16))]) [0, 1, 2, 3, 6, 7, 8, 9, 10] rfl) rfl rfl 0 rfl (fun r_11 hw_12 => ?_)
        refine lv_istore (lv' := [(5, .int r_11), (4, .int z_2), (0, .ref mh), (1, .int p0), (2, .int p1), (3, .int p2)]) hx hb dX9_rateOf_53 hl (by decide) rfl (fun ls hl => ?_)
        refine lv_aload_n hx hb dX9_rateOf_55 rfl (lv_at hl 2 rfl) ?_
        refine lv_iload_n hx hb dX9_rateOf_56 rfl (lv_at hl 3 rfl) ?_
        refine lv_iload_n hx hb dX9_rateOf_57 rfl (lv_at hl 4 rfl) ?_
        refine lv_iconst (v := 1) hx hb dX9_rateOf_58 (by decide) ?_
        refine lv_iadd hx hb dX9_rateOf_59 ?_
        refine lv_topi (fun z_14 ez_14 => ?_)
        have jz_14 : z_14.toInt = p1.toInt + 1 := by rw [ez_14]; exact g_add rfl t_1 (by omega) (by omega)
        refine lv_iload_n hx hb dX9_rateOf_60 rfl (lv_at hl 5 rfl) ?_
        refine callRV (rest := []) (As := [.int p0, .int z_14, .int p2]) hx hb hml hown htb hK (g_X9_errorOf l D E mh ma mcode mtoday moffs mmany msumW msumA msumR msumWW msumWA msumAA msumWR msumAR mupper mlower mrates mtaped mlaid mat mtk mtkAt mtkNumber mwaits mlisted mdealtMany mf5 mf6 mf7 mf12 mf13 mf14 mf15 mf16 p0 z_14 p2 (by (try dsimp only); omega) (by (try dsimp only); omega) (by (try dsimp only); omega)) ok_X9_errorOf k_1223 k_1225 ks_42 k_9 k_1226 ⟨(Nat.le_of_ble_eq_true rfl), (Nat.le_of_ble_eq_true rfl)⟩ ⟨(Nat.le_of_ble_eq_true rfl), (Nat.le_of_ble_eq_true rfl)⟩ hl.1 (Nat.le_of_ble_eq_true rfl) rfl rfl dX9_rateOf_61 (hP.sub (ws' := [(mh, .inr (9, G9 ma mcode mtoday moffs mmany msumW msumA msumR msumWW msumWA msumAA msumWR msumAR mupper mlower mrates mtaped mlaid mat mtk mtkAt mtkNumber mwaits mlisted mdealtMany)), ((ma 5), .inl (E 1, 6400, .inl mf5)), ((ma 6), .inl (E 0, 6400, .inl mf6)), ((ma 7), .inl (E 0, 6400, .inl mf7)), ((ma 12), .inl (E 0, 60, .inl mf12)), ((ma 13), .inl (E 0, 60, .inl mf13)), ((ma 14), .inl (E 0, 60, .inl mf14)), ((ma 15), .inl (E 0, 60, .inl mf15)), ((ma 16), .inl (E 0, 60, .inl mf16))]) [0, 1, 2, 3, 6, 7, 8, 9, 10] rfl) rfl rfl 0 rfl (fun r_15 hw_16 => ?_)
        refine lv_istore (lv' := [(6, .int r_15), (5, .int r_11), (4, .int z_2), (0, .ref mh), (1, .int p0), (2, .int p1), (3, .int p2)]) hx hb dX9_rateOf_64 hl (by decide) rfl (fun ls hl => ?_)
        refine lv_iload hx hb dX9_rateOf_66 (lv_at hl 1 rfl) ?_
        refine lv_ldc hx hb hown (htb _ k_1205) dX9_rateOf_68 ?_
        refine lv_icmp_eq (tgt := 94) hx hb dX9_rateOf_70 (by decide) (fun c_18 => ?_) (fun c_18 => ?_)
        ·
          have ic_18 : r_11.toInt = -2000000000 := (g_eq rfl t_m2000000000).mp c_18
          clear c_18
          refine lv_ldc hx hb hown (htb _ k_1205) dX9_rateOf_94 ?_
          refine lv_goto (tgt := 104) hx hb dX9_rateOf_96 (by decide) ?_
          exact W.iret (v := (-2000000000)) hx hb hr (fun t ht hW => ⟨(-2000000000), rfl, (by unfold ratF ratG; subst_vars; first | (rw [if_pos (by omega)]; done) | (rw [if_neg (by omega), if_pos (by omega)]; done) | (rw [if_neg (by omega), if_neg (by omega)]; done)), ht⟩) (fun q h => by cases h) dX9_rateOf_104
        ·
          have ic_18 : r_11.toInt ≠ -2000000000 := mt (g_eq rfl t_m2000000000).mpr c_18
          clear c_18
          refine lv_iload hx hb dX9_rateOf_73 (lv_at hl 0 rfl) ?_
          refine lv_ldc hx hb hown (htb _ k_1205) dX9_rateOf_75 ?_
          refine lv_icmp_eq (tgt := 94) hx hb dX9_rateOf_77 (by decide) (fun c_19 => ?_) (fun c_19 => ?_)
          ·
            have ic_19 : r_15.toInt = -2000000000 := (g_eq rfl t_m2000000000).mp c_19
            clear c_19
            refine lv_ldc hx hb hown (htb _ k_1205) dX9_rateOf_94 ?_
            refine lv_goto (tgt := 104) hx hb dX9_rateOf_96 (by decide) ?_
            exact W.iret (v := (-2000000000)) hx hb hr (fun t ht hW => ⟨(-2000000000), rfl, (by unfold ratF ratG; subst_vars; first | (rw [if_pos (by omega)]; done) | (rw [if_neg (by omega), if_pos (by omega)]; done) | (rw [if_neg (by omega), if_neg (by omega)]; done)), ht⟩) (fun q h => by cases h) dX9_rateOf_104
          ·
            have ic_19 : r_15.toInt ≠ -2000000000 := mt (g_eq rfl t_m2000000000).mpr c_19
            clear c_19
            refine lv_iload hx hb dX9_rateOf_80 (lv_at hl 0 rfl) ?_
            refine lv_iload hx hb dX9_rateOf_82 (lv_at hl 1 rfl) ?_
            refine lv_isub hx hb dX9_rateOf_84 ?_
            refine lv_topi (fun z_20 ez_20 => ?_)
            refine callRS (rest := []) (As := [.int z_20]) hx hb hml hown htb hK (g_X9_size l D E z_20 ) ok_X9_size k_1235 k_1236 k_9 k_1237 ⟨(Nat.le_of_ble_eq_true rfl), (Nat.le_of_ble_eq_true rfl)⟩ ⟨(Nat.le_of_ble_eq_true rfl), (Nat.le_of_ble_eq_true rfl)⟩ hl.1 (Nat.le_of_ble_eq_true rfl) rfl rfl dX9_rateOf_85 (hP.sub (ws' := ([] : va_W)) [] rfl) (fun r_21 hw_22 => ?_)
            refine lv_sipush (v := 999) hx hb dX9_rateOf_88 (by decide) ?_
            refine lv_icmp_le (tgt := 99) hx hb dX9_rateOf_91 (by decide) (fun c_24 => ?_) (fun c_24 => ?_)
            ·
              have ic_24 : r_21.toInt ≤ 999 := by first | exact (g_le rfl t_999).mp c_24 | (have h := mt (g_lt t_999 rfl).mpr c_24; omega)
              clear c_24
              refine lv_iload hx hb dX9_rateOf_99 (lv_at hl 0 rfl) ?_
              refine lv_iload hx hb dX9_rateOf_101 (lv_at hl 1 rfl) ?_
              refine lv_isub hx hb dX9_rateOf_103 ?_
              refine lv_topi (fun z_25 ez_25 => ?_)
              exact W.iret (v := z_25) hx hb hr (fun t ht hW => ⟨z_25, rfl, (by unfold ratF ratG; subst_vars; first | (rw [if_pos (by omega)]; done) | (rw [if_neg (by omega), if_pos (by omega)]; done) | (rw [if_neg (by omega), if_neg (by omega)]; done)), ht⟩) (fun q h => by cases h) dX9_rateOf_104
            ·
              have ic_24 : 999 < r_21.toInt := by first | exact (g_lt t_999 rfl).mp c_24 | (have h := mt (g_le rfl t_999).mpr c_24; omega)
              clear c_24
              refine lv_ldc hx hb hown (htb _ k_1205) dX9_rateOf_94 ?_
              refine lv_goto (tgt := 104) hx hb dX9_rateOf_96 (by decide) ?_
              exact W.iret (v := (-2000000000)) hx hb hr (fun t ht hW => ⟨(-2000000000), rfl, (by unfold ratF ratG; subst_vars; first | (rw [if_pos (by omega)]; done) | (rw [if_neg (by omega), if_pos (by omega)]; done) | (rw [if_neg (by omega), if_neg (by omega)]; done)), ht⟩) (fun q h => by cases h) dX9_rateOf_104
      ·
        have ic_10 : z_9.toInt ≠ 0 := mt (g_eq rfl t_0).mpr c_10
        clear c_10
        refine lv_ldc hx hb hown (htb _ k_1205) dX9_rateOf_43 ?_
        exact W.iret (v := (-2000000000)) hx hb hr (fun t ht hW => ⟨(-2000000000), rfl, (by unfold ratF ratG; subst_vars; first | (rw [if_pos (by omega)]; done) | (rw [if_neg (by omega), if_pos (by omega)]; done) | (rw [if_neg (by omega), if_neg (by omega)]; done)), ht⟩) (fun q h => by cases h) dX9_rateOf_45
