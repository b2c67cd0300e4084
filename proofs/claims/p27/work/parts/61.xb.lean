set_option maxHeartbeats 4000000 in
set_option maxRecDepth 100000 in
theorem g_X6_isOnTape (l : Launch) (D : va_G) (E : Nat → Nat) (th : Nat) (ta : Nat → Nat) (tsize : Int32) (trule : Nat) (twords : Nat) (tat : Int32) (tword : Int32) (twordAt : Int32) (tvalue : Int32) (tf0 : Nat → Int32) (sv : Nat) (sn : Nat) (sf : Nat → Int32) (p0 : Int32) (p1 : Int32) (hi_t : (0 ≤ tsize.toInt ∧ tsize.toInt ≤ 120)) (hsn : sn < 2147483647) (g0 : 0 ≤ tat.toInt ∧ tat.toInt ≤ tsize.toInt ∧ 0 ≤ twordAt.toInt ∧ twordAt.toInt ≤ tat.toInt) (g1 : 0 ≤ p0.toInt ∧ p0.toInt ≤ 1000 ∧ 0 ≤ p1.toInt ∧ p1.toInt ≤ (sn : Nat) ∧ sn ≤ 900 ∧ p0.toInt ≤ p1.toInt) : Met l yX6_isOnTape (wl yX6_isOnTape cX6_isOnTape 4 (some .boolean)) (RM 4 0 0) (rdS_P D E [.ref th, .int p0, .int p1] [(th, .inr (6, G6 ta tsize trule twords tat tword twordAt tvalue)), ((ta 0), .inl (E 0, 120, .inl tf0))] [(twords, sv, sn, sf)]) (rd_Q (fun r => ((r.toInt = 1 ∧ mtE sf tf0 (twordAt).toNatClampNeg ((tat).toNatClampNeg - (twordAt).toNatClampNeg) (p0).toNatClampNeg (p1).toNatClampNeg = true) ∨ (r.toInt = 0 ∧ mtE sf tf0 (twordAt).toNatClampNeg ((tat).toNatClampNeg - (twordAt).toNatClampNeg) (p0).toNatClampNeg (p1).toNatClampNeg = false)))) 0 0 (fun _ => False) := by
  refine Met.ofW (cc := cX6_isOnTape) (maxL := 4) (ret := (some .boolean)) (by decide) rfl ?_
  intro p e s m args below meth c s₁ B hml hv
  obtain ⟨rfl, hP, hK, hG⟩ := hv
  have hSs : va_S (fun _ => False) s.heap s.heap [] := va_S.rf
  have hx := B.exec; have hb := B.bytes; have hr := B.returns
  have hts := atoms_spec (ws := wl yX6_isOnTape cX6_isOnTape 4 (some .boolean)) B.pre
  have htb : ∀ w ∈ tb, w.before _ s = true := fun w h => hts w (List.mem_cons_of_mem _ h)
  have hown : s.vm.findClass RX6 = some m.cls := findClass_of_methodNamed B.named
  have hlocks := B.notSynchronized
  have hP : va_P D vwCl [(th, .inr (6, G6 ta tsize trule twords tat tword twordAt tvalue)), ((ta 0), .inl (E 0, 120, .inl tf0))] s.heap := hP
  have hl := lv_entry ([.ref th, .int p0, .int p1]) (n := 4) (Nat.le_of_ble_eq_true rfl)
  rw [lg_entry_eq]
  generalize (lg_sl ([.ref th, .int p0, .int p1]) ++ List.replicate (4 - (lg_sl ([.ref th, .int p0, .int p1])).length) Slot.unset).toArray = ls at hl ⊢
  have hl : lv_has ls 4 [(0, .ref th), (1, .int p0), (2, .int p1)] := hl
  have lo_p0 := i_lo p0; have hi_p0 := i_hi p0
  have lo_p1 := i_lo p1; have hi_p1 := i_hi p1
  refine lv_iload_n hx hb dX6_isOnTape_0 rfl (lv_at hl 2 rfl) ?_
  refine lv_iload_n hx hb dX6_isOnTape_1 rfl (lv_at hl 1 rfl) ?_
  refine lv_isub hx hb dX6_isOnTape_2 ?_
  refine lv_topi (fun z_1 ez_1 => ?_)
  have jz_1 : z_1.toInt = p1.toInt - p0.toInt := by rw [ez_1]; exact g_sub rfl rfl (by omega) (by omega)
  refine lv_aload_n hx hb dX6_isOnTape_3 rfl (lv_at hl 0 rfl) ?_
  refine va_get (D := D) (ci := 6) (v := .int tat) (C := RX6) (T := TX6) (N := 8) hx hb htb iX6 hown hK.1 hP 0 rfl rfl 4 (by decide) (htb _ k_162) (fun _ h9 => h9) rfl dX6_isOnTape_4 ?_
  refine lv_aload_n hx hb dX6_isOnTape_7 rfl (lv_at hl 0 rfl) ?_
  refine va_get (D := D) (ci := 6) (v := .int twordAt) (C := RX6) (T := TX6) (N := 8) hx hb htb iX6 hown hK.1 hP 0 rfl rfl 6 (by decide) (htb _ k_164) (fun _ h9 => h9) rfl dX6_isOnTape_8 ?_
  refine lv_isub hx hb dX6_isOnTape_11 ?_
  refine lv_topi (fun z_2 ez_2 => ?_)
  have jz_2 : z_2.toInt = tat.toInt - twordAt.toInt := by rw [ez_2]; exact g_sub rfl rfl (by omega) (by omega)
  refine lv_icmp_ne (tgt := 41) hx hb dX6_isOnTape_12 (by decide) (fun c_3 => ?_) (fun c_3 => ?_)
  ·
    have ic_3 : z_1.toInt ≠ z_2.toInt := mt (g_eq rfl rfl).mpr c_3
    clear c_3
    refine lv_iconst (v := 0) hx hb dX6_isOnTape_41 (by decide) ?_
    exact W.zret (v := 0) hx hb hr rfl (fun t ht hW => ⟨0, rfl, (by have hl := t_0; have c0 := i_clamp0 (x := p0) (by omega); have c1 := i_clamp0 (x := p1) (by omega); have c2 := i_clamp0 (x := tat) (by omega); have c3 := i_clamp0 (x := twordAt) (by omega); (try dsimp only); first | (exfalso; omega) | exact Or.inr ⟨by omega, Bool.eq_false_iff.mpr (fun h9 => by have h8 := (mtE_iff.mp h9).1; omega)⟩), ht⟩) (fun q h => by cases h) dX6_isOnTape_42
  ·
    have ic_3 : z_1.toInt = z_2.toInt := (g_eq rfl rfl).mp c_3
    clear c_3
    refine lv_iload_n hx hb dX6_isOnTape_15 rfl (lv_at hl 1 rfl) ?_
    refine lv_if_lt (tgt := 41) hx hb dX6_isOnTape_16 (by decide) (fun c_4 => absurd c_4 (by rw [g_lt rfl t_0]; omega)) (fun c_4 => ?_)
    refine lv_iload_n hx hb dX6_isOnTape_19 rfl (lv_at hl 2 rfl) ?_
    refine lv_aload_n hx hb dX6_isOnTape_20 rfl (lv_at hl 0 rfl) ?_
    refine va_get (D := D) (ci := 6) (v := .ref twords) (C := RX6) (T := TX6) (N := 8) hx hb htb iX6 hown hK.1 hP 0 rfl rfl 3 (by decide) (htb _ k_161) (fun _ h9 => h9) rfl dX6_isOnTape_21 ?_
    refine rd_call (runRV (rest := [.int p1]) (As := []) hx hb hml hown htb (g_J0_length_8abf5 l D E twords sv sn sf hsn) ok_J0_length_8abf5 k_606 k_607 k_608 k_12 k_609 ⟨(Nat.le_of_ble_eq_true rfl), (Nat.le_of_ble_eq_true rfl)⟩ ⟨(Nat.le_of_ble_eq_true rfl), (Nat.le_of_ble_eq_true rfl)⟩ hl.1 (Nat.le_of_ble_eq_true rfl) rfl rfl dX6_isOnTape_24 (prVT hK 0 rfl hG hSs)) (fun r_5 hw_6 => ?_)
    refine lv_icmp_gt (tgt := 41) hx hb dX6_isOnTape_27 (by decide) (fun c_8 => ?_) (fun c_8 => ?_)
    ·
      have ic_8 : r_5.toInt < p1.toInt := by first | exact (g_lt rfl rfl).mp c_8 | (have h := mt (g_le rfl rfl).mpr c_8; omega)
      clear c_8
      refine lv_iconst (v := 0) hx hb dX6_isOnTape_41 (by decide) ?_
      exact W.zret (v := 0) hx hb hr rfl (fun t ht hW => ⟨0, rfl, (by have hl := t_0; have c0 := i_clamp0 (x := p0) (by omega); have c1 := i_clamp0 (x := p1) (by omega); have c2 := i_clamp0 (x := tat) (by omega); have c3 := i_clamp0 (x := twordAt) (by omega); (try dsimp only); first | (exfalso; omega) | exact Or.inr ⟨by omega, Bool.eq_false_iff.mpr (fun h9 => by have h8 := (mtE_iff.mp h9).1; omega)⟩), ht⟩) (fun q h => by cases h) dX6_isOnTape_42
    ·
      have ic_8 : p1.toInt ≤ r_5.toInt := by first | exact (g_le rfl rfl).mp c_8 | (have h := mt (g_lt rfl rfl).mpr c_8; omega)
      clear c_8
      refine lv_aload_n hx hb dX6_isOnTape_30 rfl (lv_at hl 0 rfl) ?_
      refine va_get (D := D) (ci := 6) (v := .int tat) (C := RX6) (T := TX6) (N := 8) hx hb htb iX6 hown hK.1 hP 0 rfl rfl 4 (by decide) (htb _ k_162) (fun _ h9 => h9) rfl dX6_isOnTape_31 ?_
      refine lv_aload_n hx hb dX6_isOnTape_34 rfl (lv_at hl 0 rfl) ?_
      refine va_get (D := D) (ci := 6) (v := .int tsize) (C := RX6) (T := TX6) (N := 8) hx hb htb iX6 hown hK.1 hP 0 rfl rfl 1 (by decide) (htb _ k_158) (fun _ h9 => h9) rfl dX6_isOnTape_35 ?_
      refine lv_icmp_le (tgt := 43) hx hb dX6_isOnTape_38 (by decide) (fun c_9 => ?_) (fun c_9 => ?_)
      ·
        have ic_9 : tat.toInt ≤ tsize.toInt := by first | exact (g_le rfl rfl).mp c_9 | (have h := mt (g_lt rfl rfl).mpr c_9; omega)
        clear c_9
        refine lv_iload_n hx hb dX6_isOnTape_43 rfl (lv_at hl 1 rfl) ?_
        refine lv_istore_n (lv' := [(3, .int p0), (0, .ref th), (1, .int p0), (2, .int p1)]) hx hb dX6_isOnTape_44 rfl hl (by decide) rfl (fun ls hl => ?_)
        have loop_10 : ∀ (N_12 : Nat) (L3_45 : Int32)  (ls : Array Slot), 1001 - L3_45.toInt < (N_12 : Int) → (p0.toInt ≤ L3_45.toInt ∧ (L3_45.toInt ≤ p1.toInt ∨ L3_45.toInt = p0.toInt)) → (∀ k : Nat, (k : Int) < L3_45.toInt - p0.toInt → (sf ((p0).toNatClampNeg + k) &&& 255 : Int32) = tf0 ((twordAt).toNatClampNeg + k)) → lv_has ls 4 [(3, .int L3_45), (0, .ref th), (1, .int p0), (2, .int p1)] → W p l e (headSpec (wl yX6_isOnTape cX6_isOnTape 4 (some .boolean)) (RM 4 0 0)).room s m [Value.ref th, .int p0, .int p1].toArray below meth c s.heap [] 0 0 (MQ below (rd_Q (fun r => ((r.toInt = 1 ∧ mtE sf tf0 (twordAt).toNatClampNeg ((tat).toNatClampNeg - (twordAt).toNatClampNeg) (p0).toNatClampNeg (p1).toNatClampNeg = true) ∨ (r.toInt = 0 ∧ mtE sf tf0 (twordAt).toNatClampNeg ((tat).toNatClampNeg - (twordAt).toNatClampNeg) (p0).toNatClampNeg (p1).toNatClampNeg = false)))) [Value.ref th, .int p0, .int p1].toArray s 0 0 (fun _ => False)) (F0 m 45 ls []) := by
          intro N_12
          induction N_12 with
          | zero => intro L3_45  ls hm v0_45 v1_45 _; exfalso; omega
          | succ N_12 ih_11 =>
            intro L3_45 ls hm v0_45 v1_45 hl
            have lo_L3_45 := i_lo L3_45; have hi_L3_45 := i_hi L3_45
            refine lv_iload_n hx hb dX6_isOnTape_45 rfl (lv_at hl 0 rfl) ?_
            refine lv_iload_n hx hb dX6_isOnTape_46 rfl (lv_at hl 3 rfl) ?_
            refine lv_icmp_ge (tgt := 82) hx hb dX6_isOnTape_47 (by decide) (fun c_13 => ?_) (fun c_13 => ?_)
            ·
              have ic_13 : p1.toInt ≤ L3_45.toInt := by first | exact (g_le rfl rfl).mp c_13 | (have h := mt (g_lt rfl rfl).mpr c_13; omega)
              clear c_13
              refine lv_iconst (v := 1) hx hb dX6_isOnTape_82 (by decide) ?_
              exact W.zret (v := 1) hx hb hr rfl (fun t ht hW => ⟨1, rfl, (by have hl := t_1; have c0 := i_clamp0 (x := p0) (by omega); have c1 := i_clamp0 (x := p1) (by omega); have c2 := i_clamp0 (x := tat) (by omega); have c3 := i_clamp0 (x := twordAt) (by omega); (try dsimp only); exact Or.inl ⟨by omega, mtE_iff.mpr ⟨by omega, fun k hk => v1_45 k (by omega)⟩⟩), ht⟩) (fun q h => by cases h) dX6_isOnTape_83
            ·
              have ic_13 : L3_45.toInt < p1.toInt := by first | exact (g_lt rfl rfl).mp c_13 | (have h := mt (g_le rfl rfl).mpr c_13; omega)
              clear c_13
              refine lv_aload_n hx hb dX6_isOnTape_50 rfl (lv_at hl 1 rfl) ?_
              refine va_get (D := D) (ci := 6) (v := .ref twords) (C := RX6) (T := TX6) (N := 8) hx hb htb iX6 hown hK.1 hP 0 rfl rfl 3 (by decide) (htb _ k_161) (fun _ h9 => h9) rfl dX6_isOnTape_51 ?_
              refine lv_iload_n hx hb dX6_isOnTape_54 rfl (lv_at hl 0 rfl) ?_
              refine rd_call (runRV (rest := []) (As := [.int L3_45]) hx hb hml hown htb (g_J0_charAt_5068e l D E twords sv sn sf L3_45 hsn (by omega)) ok_J0_charAt_5068e k_616 k_617 k_618 k_12 k_619 ⟨(Nat.le_of_ble_eq_true rfl), (Nat.le_of_ble_eq_true rfl)⟩ ⟨(Nat.le_of_ble_eq_true rfl), (Nat.le_of_ble_eq_true rfl)⟩ hl.1 (Nat.le_of_ble_eq_true rfl) rfl rfl dX6_isOnTape_55 (prVT hK 0 rfl hG hSs)) (fun r_14 hw_15 => ?_)
              refine lv_aload_n hx hb dX6_isOnTape_58 rfl (lv_at hl 1 rfl) ?_
              refine va_get (D := D) (ci := 6) (v := .ref (ta 0)) (C := RX6) (T := TX6) (N := 8) hx hb htb iX6 hown hK.1 hP 0 rfl rfl 0 (by decide) (htb _ k_157) (fun _ h9 => h9) rfl dX6_isOnTape_59 ?_
              refine lv_aload_n hx hb dX6_isOnTape_62 rfl (lv_at hl 1 rfl) ?_
              refine va_get (D := D) (ci := 6) (v := .int twordAt) (C := RX6) (T := TX6) (N := 8) hx hb htb iX6 hown hK.1 hP 0 rfl rfl 6 (by decide) (htb _ k_164) (fun _ h9 => h9) rfl dX6_isOnTape_63 ?_
              refine lv_iload_n hx hb dX6_isOnTape_66 rfl (lv_at hl 0 rfl) ?_
              refine lv_iadd hx hb dX6_isOnTape_67 ?_
              refine lv_topi (fun z_17 ez_17 => ?_)
              have jz_17 : z_17.toInt = twordAt.toInt + L3_45.toInt := by rw [ez_17]; exact g_add rfl rfl (by omega) (by omega)
              refine lv_iload_n hx hb dX6_isOnTape_68 rfl (lv_at hl 2 rfl) ?_
              refine lv_isub hx hb dX6_isOnTape_69 ?_
              refine lv_topi (fun z_18 ez_18 => ?_)
              have jz_18 : z_18.toInt = z_17.toInt - p0.toInt := by rw [ez_18]; exact g_sub rfl rfl (by omega) (by omega)
              refine va_iald hx hb hK.1 hP 1 0 rfl rfl (g_in rfl (by omega) (by omega)) dX6_isOnTape_70 ?_
              refine lv_topi (fun z_19 ez_19 => ?_)
              have kz_19 := congrArg Int32.toInt ez_19
              refine lv_icmp_eq (tgt := 76) hx hb dX6_isOnTape_71 (by decide) (fun c_20 => ?_) (fun c_20 => ?_)
              ·
                have ic_20 : r_14.toInt = z_19.toInt := (g_eq rfl rfl).mp c_20
                clear c_20
                obtain ⟨z_21, ez_21⟩ : ∃ y : Int32, y = L3_45 + 1 := ⟨_, rfl⟩
                have jz_21 : z_21.toInt = L3_45.toInt + 1 := by rw [ez_21]; exact g_add rfl t_1 (by omega) (by omega)
                refine lv_iinc (v := z_21) (lv' := [(3, .int z_21), (0, .ref th), (1, .int p0), (2, .int p1)]) hx hb dX6_isOnTape_76 hl (k := 0) rfl (by rw [ez_21]; rfl) (by decide) rfl (fun ls hl => ?_)
                refine lv_goto (tgt := 45) hx hb dX6_isOnTape_79 (by decide) ?_
                exact ih_11 z_21 _ (by (try dsimp only); omega) (by (try dsimp only); omega) (fill_off (P := fun k => (sf ((p0).toNatClampNeg + k) &&& 255 : Int32) = tf0 ((twordAt).toNatClampNeg + k)) (by omega) jz_21 v1_45 (by have c0 := i_clamp0 (x := p0) (by omega); have c1 := i_clamp0 (x := twordAt) (by omega); have c2 := i_clamp0 (x := L3_45) (by omega); have c3 := i_clamp0 (x := z_18) (by omega); (try dsimp only); rw [show (p0).toNatClampNeg + ((L3_45).toInt - p0.toInt).toNat = (L3_45).toNatClampNeg by omega, show (twordAt).toNatClampNeg + ((L3_45).toInt - p0.toInt).toNat = (z_18).toNatClampNeg by omega, ← ez_19, ← hw_15]; exact i_eq.mpr (by omega))) (lv_sub hl [0, 1, 2, 3] rfl)
              ·
                have ic_20 : r_14.toInt ≠ z_19.toInt := mt (g_eq rfl rfl).mpr c_20
                clear c_20
                refine lv_iconst (v := 0) hx hb dX6_isOnTape_74 (by decide) ?_
                exact W.zret (v := 0) hx hb hr rfl (fun t ht hW => ⟨0, rfl, (by have hl := t_0; have c0 := i_clamp0 (x := p0) (by omega); have c1 := i_clamp0 (x := p1) (by omega); have c2 := i_clamp0 (x := tat) (by omega); have c3 := i_clamp0 (x := twordAt) (by omega); (try dsimp only); refine Or.inr ⟨by omega, Bool.eq_false_iff.mpr (fun h9 => ?_)⟩; have h8 := (mtE_iff.mp h9).2 ((L3_45).toInt - p0.toInt).toNat (by omega); have c0 := i_clamp0 (x := p0) (by omega); have c1 := i_clamp0 (x := twordAt) (by omega); have c2 := i_clamp0 (x := L3_45) (by omega); have c3 := i_clamp0 (x := z_18) (by omega); rw [show (p0).toNatClampNeg + ((L3_45).toInt - p0.toInt).toNat = (L3_45).toNatClampNeg by omega, show (twordAt).toNatClampNeg + ((L3_45).toInt - p0.toInt).toNat = (z_18).toNatClampNeg by omega, ← ez_19, ← hw_15] at h8; exact absurd (congrArg Int32.toInt h8) (by omega)), ht⟩) (fun q h => by cases h) dX6_isOnTape_75
        exact loop_10 1002 p0 _ (by (try dsimp only); omega) (by (try dsimp only); omega) (fun k hk => absurd hk (by omega))  (lv_sub hl [0, 1, 2, 3] rfl)
      ·
        have ic_9 : tsize.toInt < tat.toInt := by first | exact (g_lt rfl rfl).mp c_9 | (have h := mt (g_le rfl rfl).mpr c_9; omega)
        clear c_9
        refine lv_iconst (v := 0) hx hb dX6_isOnTape_41 (by decide) ?_
        exact W.zret (v := 0) hx hb hr rfl (fun t ht hW => ⟨0, rfl, (by have hl := t_0; have c0 := i_clamp0 (x := p0) (by omega); have c1 := i_clamp0 (x := p1) (by omega); have c2 := i_clamp0 (x := tat) (by omega); have c3 := i_clamp0 (x := twordAt) (by omega); (try dsimp only); first | (exfalso; omega) | exact Or.inr ⟨by omega, Bool.eq_false_iff.mpr (fun h9 => by have h8 := (mtE_iff.mp h9).1; omega)⟩), ht⟩) (fun q h => by cases h) dX6_isOnTape_42
set_option maxHeartbeats 4000000 in
set_option maxRecDepth 100000 in
theorem g_X6_placeAmongWords (l : Launch) (D : va_G) (E : Nat → Nat) (th : Nat) (ta : Nat → Nat) (tsize : Int32) (trule : Nat) (twords : Nat) (tat : Int32) (tword : Int32) (twordAt : Int32) (tvalue : Int32) (tf0 : Nat → Int32) (sv : Nat) (sn : Nat) (sf : Nat → Int32) (hi_t : (0 ≤ tsize.toInt ∧ tsize.toInt ≤ 120)) (hsn : sn < 2147483647) (g0 : 0 ≤ tat.toInt ∧ tat.toInt ≤ tsize.toInt ∧ 0 ≤ twordAt.toInt ∧ twordAt.toInt ≤ tat.toInt) (g1 : sn ≤ 900) : Met l yX6_placeAmongWords (wl yX6_placeAmongWords cX6_placeAmongWords 4 (some .int)) (RM 5 0 0) (rdS_P D E [.ref th] [(th, .inr (6, G6 ta tsize trule twords tat tword twordAt tvalue)), ((ta 0), .inl (E 0, 120, .inl tf0))] [(twords, sv, sn, sf)]) (rd_Q (fun r => (-1 ≤ r.toInt ∧ r.toInt ≤ 901 ∧ r.toInt = plcW sn sf tf0 (twordAt).toNatClampNeg ((tat).toNatClampNeg - (twordAt).toNatClampNeg)))) 0 0 (fun _ => False) := by
  refine Met.ofW (cc := cX6_placeAmongWords) (maxL := 4) (ret := (some .int)) (by decide) rfl ?_
  intro p e s m args below meth c s₁ B hml hv
  obtain ⟨rfl, hP, hK, hG⟩ := hv
  have hSs : va_S (fun _ => False) s.heap s.heap [] := va_S.rf
  have hx := B.exec; have hb := B.bytes; have hr := B.returns
  have hts := atoms_spec (ws := wl yX6_placeAmongWords cX6_placeAmongWords 4 (some .int)) B.pre
  have htb : ∀ w ∈ tb, w.before _ s = true := fun w h => hts w (List.mem_cons_of_mem _ h)
  have hown : s.vm.findClass RX6 = some m.cls := findClass_of_methodNamed B.named
  have hlocks := B.notSynchronized
  have hP : va_P D vwCl [(th, .inr (6, G6 ta tsize trule twords tat tword twordAt tvalue)), ((ta 0), .inl (E 0, 120, .inl tf0))] s.heap := hP
  have hl := lv_entry ([.ref th]) (n := 4) (Nat.le_of_ble_eq_true rfl)
  rw [lg_entry_eq]
  generalize (lg_sl ([.ref th]) ++ List.replicate (4 - (lg_sl ([.ref th])).length) Slot.unset).toArray = ls at hl ⊢
  have hl : lv_has ls 4 [(0, .ref th)] := hl
  refine lv_iconst (v := 0) hx hb dX6_placeAmongWords_0 (by decide) ?_
  refine lv_istore_n (lv' := [(1, .int 0), (0, .ref th)]) hx hb dX6_placeAmongWords_1 rfl hl (by decide) rfl (fun ls hl => ?_)
  refine lv_iconst (v := 0) hx hb dX6_placeAmongWords_2 (by decide) ?_
  refine lv_istore_n (lv' := [(2, .int 0), (1, .int 0), (0, .ref th)]) hx hb dX6_placeAmongWords_3 rfl hl (by decide) rfl (fun ls hl => ?_)
  refine lv_iconst (v := 0) hx hb dX6_placeAmongWords_4 (by decide) ?_
  refine lv_istore_n (lv' := [(3, .int 0), (2, .int 0), (1, .int 0), (0, .ref th)]) hx hb dX6_placeAmongWords_5 rfl hl (by decide) rfl (fun ls hl => ?_)
  have loop_1 : ∀ (N_3 : Nat) (L3_6 : Int32) (L2_6 : Int32) (L1_6 : Int32)  (ls : Array Slot), 901 - L3_6.toInt + 1 < (N_3 : Int) → (0 ≤ L3_6.toInt ∧ L3_6.toInt ≤ (sn : Nat) + 1 ∧ 0 ≤ L2_6.toInt ∧ L2_6.toInt ≤ L3_6.toInt ∧ 0 ≤ L1_6.toInt ∧ L1_6.toInt ≤ L3_6.toInt) → (plcF sf sn (mtE sf tf0 (twordAt).toNatClampNeg ((tat).toNatClampNeg - (twordAt).toNatClampNeg)) (sn + 1 - (L3_6).toNatClampNeg) (L3_6).toNatClampNeg (L1_6).toNatClampNeg (L2_6).toNatClampNeg = plcW sn sf tf0 (twordAt).toNatClampNeg ((tat).toNatClampNeg - (twordAt).toNatClampNeg)) → lv_has ls 4 [(3, .int L3_6), (2, .int L2_6), (1, .int L1_6), (0, .ref th)] → W p l e (headSpec (wl yX6_placeAmongWords cX6_placeAmongWords 4 (some .int)) (RM 5 0 0)).room s m [Value.ref th].toArray below meth c s.heap [] 0 0 (MQ below (rd_Q (fun r => (-1 ≤ r.toInt ∧ r.toInt ≤ 901 ∧ r.toInt = plcW sn sf tf0 (twordAt).toNatClampNeg ((tat).toNatClampNeg - (twordAt).toNatClampNeg)))) [Value.ref th].toArray s 0 0 (fun _ => False)) (F0 m 6 ls []) := by
    intro N_3
    induction N_3 with
    | zero => intro L3_6 L2_6 L1_6  ls hm v0_6 v1_6 _; exfalso; omega
    | succ N_3 ih_2 =>
      intro L3_6 L2_6 L1_6 ls hm v0_6 v1_6 hl
      have lo_L3_6 := i_lo L3_6; have hi_L3_6 := i_hi L3_6
      have lo_L2_6 := i_lo L2_6; have hi_L2_6 := i_hi L2_6
      have lo_L1_6 := i_lo L1_6; have hi_L1_6 := i_hi L1_6
      refine lv_iload_n hx hb dX6_placeAmongWords_6 rfl (lv_at hl 0 rfl) ?_
      refine lv_aload_n hx hb dX6_placeAmongWords_7 rfl (lv_at hl 3 rfl) ?_
      refine va_get (D := D) (ci := 6) (v := .ref twords) (C := RX6) (T := TX6) (N := 8) hx hb htb iX6 hown hK.1 hP 0 rfl rfl 3 (by decide) (htb _ k_161) (fun _ h9 => h9) rfl dX6_placeAmongWords_8 ?_
      refine rd_call (runRV (rest := [.int L3_6]) (As := []) hx hb hml hown htb (g_J0_length_8abf5 l D E twords sv sn sf hsn) ok_J0_length_8abf5 k_606 k_607 k_608 k_12 k_609 ⟨(Nat.le_of_ble_eq_true rfl), (Nat.le_of_ble_eq_true rfl)⟩ ⟨(Nat.le_of_ble_eq_true rfl), (Nat.le_of_ble_eq_true rfl)⟩ hl.1 (Nat.le_of_ble_eq_true rfl) rfl rfl dX6_placeAmongWords_11 (prVT hK 0 rfl hG hSs)) (fun r_4 hw_5 => ?_)
      refine lv_icmp_gt (tgt := 65) hx hb dX6_placeAmongWords_14 (by decide) (fun c_7 => ?_) (fun c_7 => ?_)
      ·
        have ic_7 : r_4.toInt < L3_6.toInt := by first | exact (g_lt rfl rfl).mp c_7 | (have h := mt (g_le rfl rfl).mpr c_7; omega)
        clear c_7
        refine lv_iconst (v := (-1)) hx hb dX6_placeAmongWords_65 (by decide) ?_
        exact W.iret (v := (-1)) hx hb hr (fun t ht hW => ⟨(-1), rfl, (by have hl := t_m1; have c0 := i_clamp0 (x := L3_6) (by omega); exact ⟨by omega, by omega, by rw [← v1_6, plc_end (by omega)]; exact hl⟩), ht⟩) (fun q h => by cases h) dX6_placeAmongWords_66
      ·
        have ic_7 : L3_6.toInt ≤ r_4.toInt := by first | exact (g_le rfl rfl).mp c_7 | (have h := mt (g_lt rfl rfl).mpr c_7; omega)
        clear c_7
        refine lv_iload_n hx hb dX6_placeAmongWords_17 rfl (lv_at hl 0 rfl) ?_
        refine lv_aload_n hx hb dX6_placeAmongWords_18 rfl (lv_at hl 3 rfl) ?_
        refine va_get (D := D) (ci := 6) (v := .ref twords) (C := RX6) (T := TX6) (N := 8) hx hb htb iX6 hown hK.1 hP 0 rfl rfl 3 (by decide) (htb _ k_161) (fun _ h9 => h9) rfl dX6_placeAmongWords_19 ?_
        refine rd_call (runRV (rest := [.int L3_6]) (As := []) hx hb hml hown htb (g_J0_length_8abf5 l D E twords sv sn sf hsn) ok_J0_length_8abf5 k_606 k_607 k_608 k_12 k_609 ⟨(Nat.le_of_ble_eq_true rfl), (Nat.le_of_ble_eq_true rfl)⟩ ⟨(Nat.le_of_ble_eq_true rfl), (Nat.le_of_ble_eq_true rfl)⟩ hl.1 (Nat.le_of_ble_eq_true rfl) rfl rfl dX6_placeAmongWords_22 (prVT hK 0 rfl hG hSs)) (fun r_8 hw_9 => ?_)
        refine lv_icmp_eq (tgt := 41) hx hb dX6_placeAmongWords_25 (by decide) (fun c_11 => ?_) (fun c_11 => ?_)
        ·
          have ic_11 : L3_6.toInt = r_8.toInt := (g_eq rfl rfl).mp c_11
          clear c_11
          refine lv_aload_n hx hb dX6_placeAmongWords_41 rfl (lv_at hl 3 rfl) ?_
          refine lv_iload_n hx hb dX6_placeAmongWords_42 rfl (lv_at hl 1 rfl) ?_
          refine lv_iload_n hx hb dX6_placeAmongWords_43 rfl (lv_at hl 0 rfl) ?_
          refine rd_call (runRV (rest := []) (As := [.int L2_6, .int L3_6]) hx hb hml hown htb (g_X6_isOnTape l D E th ta tsize trule twords tat tword twordAt tvalue tf0 sv sn sf L2_6 L3_6 (by (try dsimp only); omega) hsn (by (try dsimp only); omega) (by (try dsimp only); omega)) ok_X6_isOnTape k_654 k_656 ks_14 k_5 k_657 ⟨(Nat.le_of_ble_eq_true rfl), (Nat.le_of_ble_eq_true rfl)⟩ ⟨(Nat.le_of_ble_eq_true rfl), (Nat.le_of_ble_eq_true rfl)⟩ hl.1 (Nat.le_of_ble_eq_true rfl) rfl rfl dX6_placeAmongWords_44 (prVS (hP.sub (ws' := [(th, .inr (6, G6 ta tsize trule twords tat tword twordAt tvalue)), ((ta 0), .inl (E 0, 120, .inl tf0))]) [0, 1] rfl) hK rfl rfl 0 rfl hG hSs)) (fun r_12 hw_13 => ?_)
          refine lv_if_eq (tgt := 52) hx hb dX6_placeAmongWords_47 (by decide) (fun c_15 => ?_) (fun c_15 => ?_)
          ·
            have ic_15 : r_12.toInt = 0 := (g_eq rfl t_0).mp c_15
            clear c_15
            obtain ⟨z_16, ez_16⟩ : ∃ y : Int32, y = L1_6 + 1 := ⟨_, rfl⟩
            have jz_16 : z_16.toInt = L1_6.toInt + 1 := by rw [ez_16]; exact g_add rfl t_1 (by omega) (by omega)
            refine lv_iinc (v := z_16) (lv' := [(1, .int z_16), (3, .int L3_6), (2, .int L2_6), (0, .ref th)]) hx hb dX6_placeAmongWords_52 hl (k := 2) rfl (by rw [ez_16]; rfl) (by decide) rfl (fun ls hl => ?_)
            refine lv_iload_n hx hb dX6_placeAmongWords_55 rfl (lv_at hl 1 rfl) ?_
            refine lv_iconst (v := 1) hx hb dX6_placeAmongWords_56 (by decide) ?_
            refine lv_iadd hx hb dX6_placeAmongWords_57 ?_
            refine lv_topi (fun z_17 ez_17 => ?_)
            have jz_17 : z_17.toInt = L3_6.toInt + 1 := by rw [ez_17]; exact g_add rfl t_1 (by omega) (by omega)
            refine lv_istore_n (lv' := [(2, .int z_17), (1, .int z_16), (3, .int L3_6), (0, .ref th)]) hx hb dX6_placeAmongWords_58 rfl hl (by decide) rfl (fun ls hl => ?_)
            obtain ⟨z_18, ez_18⟩ : ∃ y : Int32, y = L3_6 + 1 := ⟨_, rfl⟩
            have jz_18 : z_18.toInt = L3_6.toInt + 1 := by rw [ez_18]; exact g_add rfl t_1 (by omega) (by omega)
            refine lv_iinc (v := z_18) (lv' := [(3, .int z_18), (2, .int z_17), (1, .int z_16), (0, .ref th)]) hx hb dX6_placeAmongWords_59 hl (k := 2) rfl (by rw [ez_18]; rfl) (by decide) rfl (fun ls hl => ?_)
            refine lv_goto (tgt := 6) hx hb dX6_placeAmongWords_62 (by decide) ?_
            exact ih_2 z_18 z_17 z_16 _ (by (try dsimp only); omega) (by (try dsimp only); omega) (by rw [clampS (by omega) jz_18, clampS (by omega) jz_16, show (z_17).toNatClampNeg = (L3_6).toNatClampNeg + 1 by have c0 := i_clamp0 (x := L3_6) (by omega); have c8 := i_clamp0 (x := z_17) (by omega); omega, ← plc_nx (n := sn) (sf := sf) (M := mtE sf tf0 (twordAt).toNatClampNeg ((tat).toNatClampNeg - (twordAt).toNatClampNeg)) (i := (L3_6).toNatClampNeg) (by have c0 := i_clamp0 (x := L3_6) (by omega); omega) (Or.inl (by have c0 := i_clamp0 (x := L3_6) (by omega); omega)) ((hw_13.resolve_left (fun h9 => by have := h9.1; omega)).2)]; exact v1_6) (lv_sub hl [0, 1, 2, 3] rfl)
          ·
            have ic_15 : r_12.toInt ≠ 0 := mt (g_eq rfl t_0).mpr c_15
            clear c_15
            refine lv_iload_n hx hb dX6_placeAmongWords_50 rfl (lv_at hl 2 rfl) ?_
            exact W.iret (v := L1_6) hx hb hr (fun t ht hW => ⟨L1_6, rfl, (by have c0 := i_clamp0 (x := L3_6) (by omega); exact ⟨by omega, by omega, by rw [← v1_6, plc_hit (by omega) (Or.inl (by have c0 := i_clamp0 (x := L3_6) (by omega); omega)) ((hw_13.resolve_right (fun h9 => by have := h9.1; omega)).2)]; have c0 := i_clamp0 (x := L1_6) (by omega); omega⟩), ht⟩) (fun q h => by cases h) dX6_placeAmongWords_51
        ·
          have ic_11 : L3_6.toInt ≠ r_8.toInt := mt (g_eq rfl rfl).mpr c_11
          clear c_11
          refine lv_aload_n hx hb dX6_placeAmongWords_28 rfl (lv_at hl 3 rfl) ?_
          refine va_get (D := D) (ci := 6) (v := .ref twords) (C := RX6) (T := TX6) (N := 8) hx hb htb iX6 hown hK.1 hP 0 rfl rfl 3 (by decide) (htb _ k_161) (fun _ h9 => h9) rfl dX6_placeAmongWords_29 ?_
          refine lv_iload_n hx hb dX6_placeAmongWords_32 rfl (lv_at hl 0 rfl) ?_
          refine rd_call (runRV (rest := []) (As := [.int L3_6]) hx hb hml hown htb (g_J0_charAt_5068e l D E twords sv sn sf L3_6 hsn (by omega)) ok_J0_charAt_5068e k_616 k_617 k_618 k_12 k_619 ⟨(Nat.le_of_ble_eq_true rfl), (Nat.le_of_ble_eq_true rfl)⟩ ⟨(Nat.le_of_ble_eq_true rfl), (Nat.le_of_ble_eq_true rfl)⟩ hl.1 (Nat.le_of_ble_eq_true rfl) rfl rfl dX6_placeAmongWords_33 (prVT hK 0 rfl hG hSs)) (fun r_19 hw_20 => ?_)
          refine lv_bipush (v := 32) hx hb dX6_placeAmongWords_36 (by decide) ?_
          refine lv_icmp_ne (tgt := 59) hx hb dX6_placeAmongWords_38 (by decide) (fun c_22 => ?_) (fun c_22 => ?_)
          ·
            have ic_22 : r_19.toInt ≠ 32 := mt (g_eq rfl t_32).mpr c_22
            clear c_22
            obtain ⟨z_23, ez_23⟩ : ∃ y : Int32, y = L3_6 + 1 := ⟨_, rfl⟩
            have jz_23 : z_23.toInt = L3_6.toInt + 1 := by rw [ez_23]; exact g_add rfl t_1 (by omega) (by omega)
            refine lv_iinc (v := z_23) (lv' := [(3, .int z_23), (2, .int L2_6), (1, .int L1_6), (0, .ref th)]) hx hb dX6_placeAmongWords_59 hl (k := 0) rfl (by rw [ez_23]; rfl) (by decide) rfl (fun ls hl => ?_)
            refine lv_goto (tgt := 6) hx hb dX6_placeAmongWords_62 (by decide) ?_
            exact ih_2 z_23 L2_6 L1_6 _ (by (try dsimp only); omega) (by (try dsimp only); omega) (by rw [clampS (by omega) jz_23, ← plc_no (n := sn) (sf := sf) (M := mtE sf tf0 (twordAt).toNatClampNeg ((tat).toNatClampNeg - (twordAt).toNatClampNeg)) (i := (L3_6).toNatClampNeg) (by have c0 := i_clamp0 (x := L3_6) (by omega); omega) (fun h9 => by rcases h9 with h9 | h9; {have c0 := i_clamp0 (x := L3_6) (by omega); omega}; {exact ch_ne (n := 32) hw_20 (by omega) t_32 h9})]; exact v1_6) (lv_sub hl [0, 1, 2, 3] rfl)
          ·
            have ic_22 : r_19.toInt = 32 := (g_eq rfl t_32).mp c_22
            clear c_22
            refine lv_aload_n hx hb dX6_placeAmongWords_41 rfl (lv_at hl 3 rfl) ?_
            refine lv_iload_n hx hb dX6_placeAmongWords_42 rfl (lv_at hl 1 rfl) ?_
            refine lv_iload_n hx hb dX6_placeAmongWords_43 rfl (lv_at hl 0 rfl) ?_
            refine rd_call (runRV (rest := []) (As := [.int L2_6, .int L3_6]) hx hb hml hown htb (g_X6_isOnTape l D E th ta tsize trule twords tat tword twordAt tvalue tf0 sv sn sf L2_6 L3_6 (by (try dsimp only); omega) hsn (by (try dsimp only); omega) (by (try dsimp only); omega)) ok_X6_isOnTape k_654 k_656 ks_14 k_5 k_657 ⟨(Nat.le_of_ble_eq_true rfl), (Nat.le_of_ble_eq_true rfl)⟩ ⟨(Nat.le_of_ble_eq_true rfl), (Nat.le_of_ble_eq_true rfl)⟩ hl.1 (Nat.le_of_ble_eq_true rfl) rfl rfl dX6_placeAmongWords_44 (prVS (hP.sub (ws' := [(th, .inr (6, G6 ta tsize trule twords tat tword twordAt tvalue)), ((ta 0), .inl (E 0, 120, .inl tf0))]) [0, 1] rfl) hK rfl rfl 0 rfl hG hSs)) (fun r_24 hw_25 => ?_)
            refine lv_if_eq (tgt := 52) hx hb dX6_placeAmongWords_47 (by decide) (fun c_27 => ?_) (fun c_27 => ?_)
            ·
              have ic_27 : r_24.toInt = 0 := (g_eq rfl t_0).mp c_27
              clear c_27
              obtain ⟨z_28, ez_28⟩ : ∃ y : Int32, y = L1_6 + 1 := ⟨_, rfl⟩
              have jz_28 : z_28.toInt = L1_6.toInt + 1 := by rw [ez_28]; exact g_add rfl t_1 (by omega) (by omega)
              refine lv_iinc (v := z_28) (lv' := [(1, .int z_28), (3, .int L3_6), (2, .int L2_6), (0, .ref th)]) hx hb dX6_placeAmongWords_52 hl (k := 2) rfl (by rw [ez_28]; rfl) (by decide) rfl (fun ls hl => ?_)
              refine lv_iload_n hx hb dX6_placeAmongWords_55 rfl (lv_at hl 1 rfl) ?_
              refine lv_iconst (v := 1) hx hb dX6_placeAmongWords_56 (by decide) ?_
              refine lv_iadd hx hb dX6_placeAmongWords_57 ?_
              refine lv_topi (fun z_29 ez_29 => ?_)
              have jz_29 : z_29.toInt = L3_6.toInt + 1 := by rw [ez_29]; exact g_add rfl t_1 (by omega) (by omega)
              refine lv_istore_n (lv' := [(2, .int z_29), (1, .int z_28), (3, .int L3_6), (0, .ref th)]) hx hb dX6_placeAmongWords_58 rfl hl (by decide) rfl (fun ls hl => ?_)
              obtain ⟨z_30, ez_30⟩ : ∃ y : Int32, y = L3_6 + 1 := ⟨_, rfl⟩
              have jz_30 : z_30.toInt = L3_6.toInt + 1 := by rw [ez_30]; exact g_add rfl t_1 (by omega) (by omega)
              refine lv_iinc (v := z_30) (lv' := [(3, .int z_30), (2, .int z_29), (1, .int z_28), (0, .ref th)]) hx hb dX6_placeAmongWords_59 hl (k := 2) rfl (by rw [ez_30]; rfl) (by decide) rfl (fun ls hl => ?_)
              refine lv_goto (tgt := 6) hx hb dX6_placeAmongWords_62 (by decide) ?_
              exact ih_2 z_30 z_29 z_28 _ (by (try dsimp only); omega) (by (try dsimp only); omega) (by rw [clampS (by omega) jz_30, clampS (by omega) jz_28, show (z_29).toNatClampNeg = (L3_6).toNatClampNeg + 1 by have c0 := i_clamp0 (x := L3_6) (by omega); have c8 := i_clamp0 (x := z_29) (by omega); omega, ← plc_nx (n := sn) (sf := sf) (M := mtE sf tf0 (twordAt).toNatClampNeg ((tat).toNatClampNeg - (twordAt).toNatClampNeg)) (i := (L3_6).toNatClampNeg) (by have c0 := i_clamp0 (x := L3_6) (by omega); omega) (Or.inr (ch_eq (n := 32) hw_20 (by omega) t_32)) ((hw_25.resolve_left (fun h9 => by have := h9.1; omega)).2)]; exact v1_6) (lv_sub hl [0, 1, 2, 3] rfl)
            ·
              have ic_27 : r_24.toInt ≠ 0 := mt (g_eq rfl t_0).mpr c_27
              clear c_27
              refine lv_iload_n hx hb dX6_placeAmongWords_50 rfl (lv_at hl 2 rfl) ?_
              exact W.iret (v := L1_6) hx hb hr (fun t ht hW => ⟨L1_6, rfl, (by have c0 := i_clamp0 (x := L3_6) (by omega); exact ⟨by omega, by omega, by rw [← v1_6, plc_hit (by omega) (Or.inr (ch_eq (n := 32) hw_20 (by omega) t_32)) ((hw_25.resolve_right (fun h9 => by have := h9.1; omega)).2)]; have c0 := i_clamp0 (x := L1_6) (by omega); omega⟩), ht⟩) (fun q h => by cases h) dX6_placeAmongWords_51
  exact loop_1 903 0 0 0 _ (by have h0 := t_0; (try dsimp only); omega) (by have h0 := t_0; (try dsimp only); omega) (by rw [clamp_0]; rfl)  (lv_sub hl [0, 1, 2, 3] rfl)
set_option maxHeartbeats 4000000 in
set_option maxRecDepth 100000 in
theorem g_X6_takeLetters (l : Launch) (D : va_G) (E : Nat → Nat) (th : Nat) (ta : Nat → Nat) (tsize : Int32) (trule : Nat) (twords : Nat) (tat : Int32) (tword : Int32) (twordAt : Int32) (tvalue : Int32) (tf0 : Nat → Int32) (sv : Nat) (sn : Nat) (sf : Nat → Int32) (sz : Nat) (hi_t : (0 ≤ tsize.toInt ∧ tsize.toInt ≤ 120)) (hsn : sn < 2147483647) (g0 : 0 ≤ tat.toInt ∧ tat.toInt ≤ tsize.toInt ∧ 0 ≤ twordAt.toInt ∧ twordAt.toInt ≤ tat.toInt) (g1 : sn ≤ 900) (g2 : tat.toInt = twordAt.toInt ∧ tat.toInt < tsize.toInt ∧ 97 ≤ (tf0 (tat).toNatClampNeg).toInt ∧ (tf0 (tat).toNatClampNeg).toInt ≤ 122) : Met l yX6_takeLetters (wl yX6_takeLetters cX6_takeLetters 2 none) (RM 6 0 0) (muS_P D E [.ref th] [(th, .inr (6, G6 ta tsize trule twords tat tword twordAt tvalue)), ((ta 0), .inl (E 0, 120, .inl tf0))] sz [(twords, sv, sn, sf)]) (va_Qv (fun (u : (Int32) × (Int32) × (Int32)) => (tat.toInt ≤ u.1.toInt ∧ u.1.toInt ≤ tsize.toInt) ∧ (u.1.toInt = (teE tf0 (tsize).toNatClampNeg (twordAt).toNatClampNeg : Nat) ∧ u.2.2.toInt = cwd (wdC sn sf tf0 (twordAt).toNatClampNeg (teE tf0 (tsize).toNatClampNeg (twordAt).toNatClampNeg - (twordAt).toNatClampNeg)) ∧ (100 ≤ wdC sn sf tf0 (twordAt).toNatClampNeg (teE tf0 (tsize).toNatClampNeg (twordAt).toNatClampNeg - (twordAt).toNatClampNeg) → u.2.1.toInt = wdC sn sf tf0 (twordAt).toNatClampNeg (teE tf0 (tsize).toNatClampNeg (twordAt).toNatClampNeg - (twordAt).toNatClampNeg) - 100 - 20 * whN sn))) (mu_B D (va_A [(th, .inr (6, G6 ta tsize trule twords tat tword twordAt tvalue)), ((ta 0), .inl (E 0, 120, .inl tf0))] sz) (fun (u : (Int32) × (Int32) × (Int32)) => [(th, .inr (6, G6 ta tsize trule twords u.1 u.2.2 twordAt u.2.1)), ((ta 0), .inl (E 0, 120, .inl tf0))])) (va_A [(th, .inr (6, G6 ta tsize trule twords tat tword twordAt tvalue)), ((ta 0), .inl (E 0, 120, .inl tf0))] sz)) 0 0 (va_A [(th, .inr (6, G6 ta tsize trule twords tat tword twordAt tvalue)), ((ta 0), .inl (E 0, 120, .inl tf0))] sz) := by
  refine Met.ofW (cc := cX6_takeLetters) (maxL := 2) (ret := none) (by decide) rfl ?_
  intro p e s m args below meth c s₁ B hml hv
  obtain ⟨rfl, hsz, hP, hK, hD0, hG⟩ := hv
  have hx := B.exec; have hb := B.bytes; have hr := B.returns
  have hts := atoms_spec (ws := wl yX6_takeLetters cX6_takeLetters 2 none) B.pre
  have htb : ∀ w ∈ tb, w.before _ s = true := fun w h => hts w (List.mem_cons_of_mem _ h)
  have hown : s.vm.findClass RX6 = some m.cls := findClass_of_methodNamed B.named
  have hlocks := B.notSynchronized
  subst hsz
  have hD := hD0.self (sz := s.heap.size)
  generalize hAe : va_A [(th, .inr (6, G6 ta tsize trule twords tat tword twordAt tvalue)), ((ta 0), .inl (E 0, 120, .inl tf0))] s.heap.size = A at hD hG ⊢
  have hA : ∀ q : Nat, s.heap.size ≤ q → A q := fun q h => by rw [← hAe]; exact Or.inr h
  have hS : va_S A s.heap s.heap [] := va_S.rf
  have hP : va_P D vwCl [(th, .inr (6, G6 ta tsize trule twords tat tword twordAt tvalue)), ((ta 0), .inl (E 0, 120, .inl tf0))] s.heap := hP
  have hl := lv_entry ([.ref th]) (n := 2) (Nat.le_of_ble_eq_true rfl)
  rw [lg_entry_eq]
  generalize (lg_sl ([.ref th]) ++ List.replicate (2 - (lg_sl ([.ref th])).length) Slot.unset).toArray = ls at hl ⊢
  have hl : lv_has ls 2 [(0, .ref th)] := hl
  have loop_1 : ∀ (N_3 : Nat) (tat_0 : Int32) (H : Heap) (locs : List Loc) (ls : Array Slot), tsize.toInt - tat_0.toInt < (N_3 : Int) → (tat.toInt ≤ tat_0.toInt ∧ tat_0.toInt ≤ tsize.toInt) → (skp 97 122 tf0 ((tsize).toNatClampNeg - (tat_0).toNatClampNeg) (tat_0).toNatClampNeg = teE tf0 (tsize).toNatClampNeg (twordAt).toNatClampNeg) → va_P D vwCl [(th, .inr (6, G6 ta tsize trule twords tat_0 tword twordAt tvalue)), ((ta 0), .inl (E 0, 120, .inl tf0))] H → va_D A [(th, .inr (6, G6 ta tsize trule twords tat_0 tword twordAt tvalue)), ((ta 0), .inl (E 0, 120, .inl tf0))] → va_S A s.heap H locs → lv_has ls 2 [(0, .ref th)] → W p l e (headSpec (wl yX6_takeLetters cX6_takeLetters 2 none) (RM 6 0 0)).room s m [Value.ref th].toArray below meth c H locs 0 0 (MQ below (va_Qv (fun (u : (Int32) × (Int32) × (Int32)) => (tat.toInt ≤ u.1.toInt ∧ u.1.toInt ≤ tsize.toInt) ∧ (u.1.toInt = (teE tf0 (tsize).toNatClampNeg (twordAt).toNatClampNeg : Nat) ∧ u.2.2.toInt = cwd (wdC sn sf tf0 (twordAt).toNatClampNeg (teE tf0 (tsize).toNatClampNeg (twordAt).toNatClampNeg - (twordAt).toNatClampNeg)) ∧ (100 ≤ wdC sn sf tf0 (twordAt).toNatClampNeg (teE tf0 (tsize).toNatClampNeg (twordAt).toNatClampNeg - (twordAt).toNatClampNeg) → u.2.1.toInt = wdC sn sf tf0 (twordAt).toNatClampNeg (teE tf0 (tsize).toNatClampNeg (twordAt).toNatClampNeg - (twordAt).toNatClampNeg) - 100 - 20 * whN sn))) (mu_B D A (fun (u : (Int32) × (Int32) × (Int32)) => [(th, .inr (6, G6 ta tsize trule twords u.1 u.2.2 twordAt u.2.1)), ((ta 0), .inl (E 0, 120, .inl tf0))])) A) [Value.ref th].toArray s 0 0 A) (F0 m 0 ls []) := by
    intro N_3
    induction N_3 with
    | zero => intro tat_0 H locs ls hm v0_0 v1_0 _ _ _ _; exfalso; omega
    | succ N_3 ih_2 =>
      intro tat_0 H locs ls hm v0_0 v1_0 hP hD hS hl
      have lo_tat_0 := i_lo tat_0; have hi_tat_0 := i_hi tat_0
      refine lv_aload_n hx hb dX6_takeLetters_0 rfl (lv_at hl 0 rfl) ?_
      refine va_get (D := D) (ci := 6) (v := .int tat_0) (C := RX6) (T := TX6) (N := 8) hx hb htb iX6 hown hK.1 hP 0 rfl rfl 4 (by decide) (htb _ k_162) (fun _ h9 => h9) rfl dX6_takeLetters_1 ?_
      refine lv_aload_n hx hb dX6_takeLetters_4 rfl (lv_at hl 0 rfl) ?_
      refine va_get (D := D) (ci := 6) (v := .int tsize) (C := RX6) (T := TX6) (N := 8) hx hb htb iX6 hown hK.1 hP 0 rfl rfl 1 (by decide) (htb _ k_158) (fun _ h9 => h9) rfl dX6_takeLetters_5 ?_
      refine lv_icmp_ge (tgt := 39) hx hb dX6_takeLetters_8 (by decide) (fun c_4 => ?_) (fun c_4 => ?_)
      ·
        have ic_4 : tsize.toInt ≤ tat_0.toInt := by first | exact (g_le rfl rfl).mp c_4 | (have h := mt (g_lt rfl rfl).mpr c_4; omega)
        clear c_4
        refine lv_aload_n hx hb dX6_takeLetters_39 rfl (lv_at hl 0 rfl) ?_
        refine rd_call (runRV (rest := []) (As := []) hx hb hml hown htb (g_X6_placeAmongWords l D E th ta tsize trule twords tat_0 tword twordAt tvalue tf0 sv sn sf (by (try dsimp only); omega) hsn (by (try dsimp only); omega) g1) ok_X6_placeAmongWords k_602 k_604 ks_13 k_5 k_605 ⟨(Nat.le_of_ble_eq_true rfl), (Nat.le_of_ble_eq_true rfl)⟩ ⟨(Nat.le_of_ble_eq_true rfl), (Nat.le_of_ble_eq_true rfl)⟩ hl.1 (Nat.le_of_ble_eq_true rfl) rfl rfl dX6_takeLetters_40 (prVS (hP.sub (ws' := [(th, .inr (6, G6 ta tsize trule twords tat_0 tword twordAt tvalue)), ((ta 0), .inl (E 0, 120, .inl tf0))]) [0, 1] rfl) hK rfl rfl 0 rfl hG hS)) (fun r_5 hw_6 => ?_)
        refine lv_istore_n (lv' := [(1, .int r_5), (0, .ref th)]) hx hb dX6_takeLetters_43 rfl hl (by decide) rfl (fun ls hl => ?_)
        refine lv_aload_n hx hb dX6_takeLetters_44 rfl (lv_at hl 1 rfl) ?_
        refine lv_iload_n hx hb dX6_takeLetters_45 rfl (lv_at hl 0 rfl) ?_
        refine lv_iconst (v := 4) hx hb dX6_takeLetters_46 (by decide) ?_
        refine lv_isub hx hb dX6_takeLetters_47 ?_
        refine lv_topi (fun z_8 ez_8 => ?_)
        have jz_8 : z_8.toInt = r_5.toInt - 4 := by rw [ez_8]; exact g_sub rfl t_4 (by omega) (by omega)
        refine va_put (D := D) (ci := 6) (v := .int z_8) (ty := .int) (C := RX6) (T := TX6) (N := 8) hx hb htb iX6 tyX6 tyX6_ok nmX6 hown hK.1 hP hD hS 0 rfl rfl 7 (by decide) (htb _ k_165) (fun _ h9 => h9) rfl (by decide +kernel) rfl rfl (Nat.le_of_ble_eq_true rfl) dX6_takeLetters_48 (fun H locs hP hD hS => ?_)
        have hP : va_P D vwCl [(th, .inr (6, G6 ta tsize trule twords tat_0 tword twordAt z_8)), ((ta 0), .inl (E 0, 120, .inl tf0))] H := hP
        have hD := toW hP hD rfl
        refine lv_aload_n hx hb dX6_takeLetters_51 rfl (lv_at hl 1 rfl) ?_
        refine lv_iload_n hx hb dX6_takeLetters_52 rfl (lv_at hl 0 rfl) ?_
        refine lv_iconst (v := (-1)) hx hb dX6_takeLetters_53 (by decide) ?_
        refine lv_icmp_ne (tgt := 61) hx hb dX6_takeLetters_54 (by decide) (fun c_9 => ?_) (fun c_9 => ?_)
        ·
          have ic_9 : r_5.toInt ≠ -1 := mt (g_eq rfl t_m1).mpr c_9
          clear c_9
          refine lv_iload_n hx hb dX6_takeLetters_61 rfl (lv_at hl 0 rfl) ?_
          refine lv_iconst (v := 4) hx hb dX6_takeLetters_62 (by decide) ?_
          refine lv_icmp_ge (tgt := 72) hx hb dX6_takeLetters_63 (by decide) (fun c_10 => ?_) (fun c_10 => ?_)
          ·
            have ic_10 : 4 ≤ r_5.toInt := by first | exact (g_le t_4 rfl).mp c_10 | (have h := mt (g_lt rfl t_4).mpr c_10; omega)
            clear c_10
            refine lv_iconst (v := 3) hx hb dX6_takeLetters_72 (by decide) ?_
            refine va_put (D := D) (ci := 6) (v := .int 3) (ty := .int) (C := RX6) (T := TX6) (N := 8) hx hb htb iX6 tyX6 tyX6_ok nmX6 hown hK.1 hP hD hS 0 rfl rfl 5 (by decide) (htb _ k_163) (fun _ h9 => h9) rfl (by decide +kernel) rfl rfl (Nat.le_of_ble_eq_true rfl) dX6_takeLetters_73 (fun H locs hP hD hS => ?_)
            have hP : va_P D vwCl [(th, .inr (6, G6 ta tsize trule twords tat_0 3 twordAt z_8)), ((ta 0), .inl (E 0, 120, .inl tf0))] H := hP
            have hD := toW hP hD rfl
            have hP9 := hP.sub (ws' := [(th, .inr (6, G6 ta tsize trule twords tat_0 3 twordAt z_8)), ((ta 0), .inl (E 0, 120, .inl tf0))]) [0, 1] rfl
            have hD9 := hD.sub (ws' := [(th, .inr (6, G6 ta tsize trule twords tat_0 3 twordAt z_8)), ((ta 0), .inl (E 0, 120, .inl tf0))]) [0, 1] (by decide) rfl
            exact W.vret hx hb hr (fun t ht hW => ⟨⟨(tat_0, z_8, (3 : Int32)), rfl, ⟨(by have h0 := t_3; (try dsimp only); omega), (by (try dsimp only); have hl1 := t_1; have hl3 := t_3; have c0 := i_clamp0 (x := tat_0) (by omega); have c1 := i_clamp0 (x := tsize) (by omega); have c2 := i_clamp0 (x := twordAt) (by omega); have he9 : tat_0.toInt = (teE tf0 (tsize).toNatClampNeg (twordAt).toNatClampNeg : Nat) := (by rw [← v1_0]; first | (rw [skp_z (by omega)]; omega) | (rw [skp_no (by omega)]; omega)); have hq9 := (hw_6).2.2; rw [show (tat_0).toNatClampNeg - (twordAt).toNatClampNeg = teE tf0 (tsize).toNatClampNeg (twordAt).toNatClampNeg - (twordAt).toNatClampNeg by omega] at hq9; refine ⟨he9, ?_, fun hh => ?_⟩; {unfold wdC; rw [← hq9, cwd_cKd (by omega)]; omega}; {unfold wdC at hh ⊢; rw [← hq9] at hh ⊢; have h8 := cKd_hi hh; omega})⟩, by rw [ht]; exact hP9, hD9⟩, hS.F ht⟩) hS.2.2 dX6_takeLetters_76
          ·
            have ic_10 : r_5.toInt < 4 := by first | exact (g_lt rfl t_4).mp c_10 | (have h := mt (g_le t_4 rfl).mpr c_10; omega)
            clear c_10
            refine lv_iconst (v := 4) hx hb dX6_takeLetters_66 (by decide) ?_
            refine lv_iload_n hx hb dX6_takeLetters_67 rfl (lv_at hl 0 rfl) ?_
            refine lv_iadd hx hb dX6_takeLetters_68 ?_
            refine lv_topi (fun z_11 ez_11 => ?_)
            have jz_11 : z_11.toInt = 4 + r_5.toInt := by rw [ez_11]; exact g_add t_4 rfl (by omega) (by omega)
            refine lv_goto (tgt := 73) hx hb dX6_takeLetters_69 (by decide) ?_
            refine va_put (D := D) (ci := 6) (v := .int z_11) (ty := .int) (C := RX6) (T := TX6) (N := 8) hx hb htb iX6 tyX6 tyX6_ok nmX6 hown hK.1 hP hD hS 0 rfl rfl 5 (by decide) (htb _ k_163) (fun _ h9 => h9) rfl (by decide +kernel) rfl rfl (Nat.le_of_ble_eq_true rfl) dX6_takeLetters_73 (fun H locs hP hD hS => ?_)
            have hP : va_P D vwCl [(th, .inr (6, G6 ta tsize trule twords tat_0 z_11 twordAt z_8)), ((ta 0), .inl (E 0, 120, .inl tf0))] H := hP
            have hD := toW hP hD rfl
            have hP9 := hP.sub (ws' := [(th, .inr (6, G6 ta tsize trule twords tat_0 z_11 twordAt z_8)), ((ta 0), .inl (E 0, 120, .inl tf0))]) [0, 1] rfl
            have hD9 := hD.sub (ws' := [(th, .inr (6, G6 ta tsize trule twords tat_0 z_11 twordAt z_8)), ((ta 0), .inl (E 0, 120, .inl tf0))]) [0, 1] (by decide) rfl
            exact W.vret hx hb hr (fun t ht hW => ⟨⟨(tat_0, z_8, z_11), rfl, ⟨(by (try dsimp only); omega), (by (try dsimp only); have hl1 := t_1; have hl3 := t_3; have c0 := i_clamp0 (x := tat_0) (by omega); have c1 := i_clamp0 (x := tsize) (by omega); have c2 := i_clamp0 (x := twordAt) (by omega); have he9 : tat_0.toInt = (teE tf0 (tsize).toNatClampNeg (twordAt).toNatClampNeg : Nat) := (by rw [← v1_0]; first | (rw [skp_z (by omega)]; omega) | (rw [skp_no (by omega)]; omega)); have hq9 := (hw_6).2.2; rw [show (tat_0).toNatClampNeg - (twordAt).toNatClampNeg = teE tf0 (tsize).toNatClampNeg (twordAt).toNatClampNeg - (twordAt).toNatClampNeg by omega] at hq9; refine ⟨he9, ?_, fun hh => ?_⟩; {unfold wdC; rw [← hq9, cwd_cKd (by omega)]; omega}; {unfold wdC at hh ⊢; rw [← hq9] at hh ⊢; have h8 := cKd_hi hh; omega})⟩, by rw [ht]; exact hP9, hD9⟩, hS.F ht⟩) hS.2.2 dX6_takeLetters_76
        ·
          have ic_9 : r_5.toInt = -1 := (g_eq rfl t_m1).mp c_9
          clear c_9
          refine lv_iconst (v := 1) hx hb dX6_takeLetters_57 (by decide) ?_
          refine lv_goto (tgt := 73) hx hb dX6_takeLetters_58 (by decide) ?_
          refine va_put (D := D) (ci := 6) (v := .int 1) (ty := .int) (C := RX6) (T := TX6) (N := 8) hx hb htb iX6 tyX6 tyX6_ok nmX6 hown hK.1 hP hD hS 0 rfl rfl 5 (by decide) (htb _ k_163) (fun _ h9 => h9) rfl (by decide +kernel) rfl rfl (Nat.le_of_ble_eq_true rfl) dX6_takeLetters_73 (fun H locs hP hD hS => ?_)
          have hP : va_P D vwCl [(th, .inr (6, G6 ta tsize trule twords tat_0 1 twordAt z_8)), ((ta 0), .inl (E 0, 120, .inl tf0))] H := hP
          have hD := toW hP hD rfl
          have hP9 := hP.sub (ws' := [(th, .inr (6, G6 ta tsize trule twords tat_0 1 twordAt z_8)), ((ta 0), .inl (E 0, 120, .inl tf0))]) [0, 1] rfl
          have hD9 := hD.sub (ws' := [(th, .inr (6, G6 ta tsize trule twords tat_0 1 twordAt z_8)), ((ta 0), .inl (E 0, 120, .inl tf0))]) [0, 1] (by decide) rfl
          exact W.vret hx hb hr (fun t ht hW => ⟨⟨(tat_0, z_8, (1 : Int32)), rfl, ⟨(by have h0 := t_1; (try dsimp only); omega), (by (try dsimp only); have hl1 := t_1; have hl3 := t_3; have c0 := i_clamp0 (x := tat_0) (by omega); have c1 := i_clamp0 (x := tsize) (by omega); have c2 := i_clamp0 (x := twordAt) (by omega); have he9 : tat_0.toInt = (teE tf0 (tsize).toNatClampNeg (twordAt).toNatClampNeg : Nat) := (by rw [← v1_0]; first | (rw [skp_z (by omega)]; omega) | (rw [skp_no (by omega)]; omega)); have hq9 := (hw_6).2.2; rw [show (tat_0).toNatClampNeg - (twordAt).toNatClampNeg = teE tf0 (tsize).toNatClampNeg (twordAt).toNatClampNeg - (twordAt).toNatClampNeg by omega] at hq9; refine ⟨he9, ?_, fun hh => ?_⟩; {unfold wdC; rw [← hq9, cwd_cKd (by omega)]; omega}; {unfold wdC at hh ⊢; rw [← hq9] at hh ⊢; have h8 := cKd_hi hh; omega})⟩, by rw [ht]; exact hP9, hD9⟩, hS.F ht⟩) hS.2.2 dX6_takeLetters_76
      ·
        have ic_4 : tat_0.toInt < tsize.toInt := by first | exact (g_lt rfl rfl).mp c_4 | (have h := mt (g_le rfl rfl).mpr c_4; omega)
        clear c_4
        refine lv_aload_n hx hb dX6_takeLetters_11 rfl (lv_at hl 0 rfl) ?_
        refine va_get (D := D) (ci := 6) (v := .ref (ta 0)) (C := RX6) (T := TX6) (N := 8) hx hb htb iX6 hown hK.1 hP 0 rfl rfl 0 (by decide) (htb _ k_157) (fun _ h9 => h9) rfl dX6_takeLetters_12 ?_
        refine lv_aload_n hx hb dX6_takeLetters_15 rfl (lv_at hl 0 rfl) ?_
        refine va_get (D := D) (ci := 6) (v := .int tat_0) (C := RX6) (T := TX6) (N := 8) hx hb htb iX6 hown hK.1 hP 0 rfl rfl 4 (by decide) (htb _ k_162) (fun _ h9 => h9) rfl dX6_takeLetters_16 ?_
        refine va_iald hx hb hK.1 hP 1 0 rfl rfl (g_in rfl (by omega) (by omega)) dX6_takeLetters_19 ?_
        refine lv_topi (fun z_12 ez_12 => ?_)
        have kz_12 := congrArg Int32.toInt ez_12
        refine callRS (rest := []) (As := [.int z_12]) hx hb hml hown htb hK (g_X6_isLetter l D E z_12 ) ok_X6_isLetter k_595 k_596 k_5 k_597 ⟨(Nat.le_of_ble_eq_true rfl), (Nat.le_of_ble_eq_true rfl)⟩ ⟨(Nat.le_of_ble_eq_true rfl), (Nat.le_of_ble_eq_true rfl)⟩ hl.1 (Nat.le_of_ble_eq_true rfl) rfl rfl dX6_takeLetters_20 (hP.sub (ws' := ([] : va_W)) [] rfl) (fun r_13 hw_14 => ?_)
        rcases hw_14 with ⟨hr_13, hw_14⟩ | ⟨hr_13, hw_14⟩
        ·
          refine W_top (y := .int 1) (by rw [hr_13]) ?_
          refine lv_if_eq (tgt := 39) hx hb dX6_takeLetters_23 (by decide) (fun c_16 => absurd c_16 (by decide)) (fun c_16 => ?_)
          refine lv_aload_n hx hb dX6_takeLetters_26 rfl (lv_at hl 0 rfl) ?_
          refine lv_dup hx hb dX6_takeLetters_27 rfl ?_
          refine va_get (D := D) (ci := 6) (v := .int tat_0) (C := RX6) (T := TX6) (N := 8) hx hb htb iX6 hown hK.1 hP 0 rfl rfl 4 (by decide) (htb _ k_162) (fun _ h9 => h9) rfl dX6_takeLetters_28 ?_
          refine lv_iconst (v := 1) hx hb dX6_takeLetters_31 (by decide) ?_
          refine lv_iadd hx hb dX6_takeLetters_32 ?_
          refine lv_topi (fun z_17 ez_17 => ?_)
          have jz_17 : z_17.toInt = tat_0.toInt + 1 := by rw [ez_17]; exact g_add rfl t_1 (by omega) (by omega)
          refine va_put (D := D) (ci := 6) (v := .int z_17) (ty := .int) (C := RX6) (T := TX6) (N := 8) hx hb htb iX6 tyX6 tyX6_ok nmX6 hown hK.1 hP hD hS 0 rfl rfl 4 (by decide) (htb _ k_162) (fun _ h9 => h9) rfl (by decide +kernel) rfl rfl (Nat.le_of_ble_eq_true rfl) dX6_takeLetters_33 (fun H locs hP hD hS => ?_)
          have hP : va_P D vwCl [(th, .inr (6, G6 ta tsize trule twords z_17 tword twordAt tvalue)), ((ta 0), .inl (E 0, 120, .inl tf0))] H := hP
          have hD := toW hP hD rfl
          refine lv_goto (tgt := 0) hx hb dX6_takeLetters_36 (by decide) ?_
          exact ih_2 z_17 _ _ _ (by (try dsimp only); omega) (by (try dsimp only); omega) (by rw [clampS (by omega) jz_17, ← skp_yes (lo := 97) (hi := 122) (f := tf0) (n := (tsize).toNatClampNeg) (a := (tat_0).toNatClampNeg) (by have c0 := i_clamp0 (x := tat_0) (by omega); have c1 := i_clamp0 (x := tsize) (by omega); omega) (by omega)]; exact v1_0) hP hD hS (lv_sub hl [0] rfl)
        ·
          refine W_top (y := .int 0) (by rw [hr_13]) ?_
          refine lv_if_eq (tgt := 39) hx hb dX6_takeLetters_23 (by decide) (fun c_18 => ?_) (fun c_18 => absurd (by decide) c_18)
          refine lv_aload_n hx hb dX6_takeLetters_39 rfl (lv_at hl 0 rfl) ?_
          refine rd_call (runRV (rest := []) (As := []) hx hb hml hown htb (g_X6_placeAmongWords l D E th ta tsize trule twords tat_0 tword twordAt tvalue tf0 sv sn sf (by (try dsimp only); omega) hsn (by (try dsimp only); omega) g1) ok_X6_placeAmongWords k_602 k_604 ks_13 k_5 k_605 ⟨(Nat.le_of_ble_eq_true rfl), (Nat.le_of_ble_eq_true rfl)⟩ ⟨(Nat.le_of_ble_eq_true rfl), (Nat.le_of_ble_eq_true rfl)⟩ hl.1 (Nat.le_of_ble_eq_true rfl) rfl rfl dX6_takeLetters_40 (prVS (hP.sub (ws' := [(th, .inr (6, G6 ta tsize trule twords tat_0 tword twordAt tvalue)), ((ta 0), .inl (E 0, 120, .inl tf0))]) [0, 1] rfl) hK rfl rfl 0 rfl hG hS)) (fun r_19 hw_20 => ?_)
          refine lv_istore_n (lv' := [(1, .int r_19), (0, .ref th)]) hx hb dX6_takeLetters_43 rfl hl (by decide) rfl (fun ls hl => ?_)
          refine lv_aload_n hx hb dX6_takeLetters_44 rfl (lv_at hl 1 rfl) ?_
          refine lv_iload_n hx hb dX6_takeLetters_45 rfl (lv_at hl 0 rfl) ?_
          refine lv_iconst (v := 4) hx hb dX6_takeLetters_46 (by decide) ?_
          refine lv_isub hx hb dX6_takeLetters_47 ?_
          refine lv_topi (fun z_22 ez_22 => ?_)
          have jz_22 : z_22.toInt = r_19.toInt - 4 := by rw [ez_22]; exact g_sub rfl t_4 (by omega) (by omega)
          refine va_put (D := D) (ci := 6) (v := .int z_22) (ty := .int) (C := RX6) (T := TX6) (N := 8) hx hb htb iX6 tyX6 tyX6_ok nmX6 hown hK.1 hP hD hS 0 rfl rfl 7 (by decide) (htb _ k_165) (fun _ h9 => h9) rfl (by decide +kernel) rfl rfl (Nat.le_of_ble_eq_true rfl) dX6_takeLetters_48 (fun H locs hP hD hS => ?_)
          have hP : va_P D vwCl [(th, .inr (6, G6 ta tsize trule twords tat_0 tword twordAt z_22)), ((ta 0), .inl (E 0, 120, .inl tf0))] H := hP
          have hD := toW hP hD rfl
          refine lv_aload_n hx hb dX6_takeLetters_51 rfl (lv_at hl 1 rfl) ?_
          refine lv_iload_n hx hb dX6_takeLetters_52 rfl (lv_at hl 0 rfl) ?_
          refine lv_iconst (v := (-1)) hx hb dX6_takeLetters_53 (by decide) ?_
          refine lv_icmp_ne (tgt := 61) hx hb dX6_takeLetters_54 (by decide) (fun c_23 => ?_) (fun c_23 => ?_)
          ·
            have ic_23 : r_19.toInt ≠ -1 := mt (g_eq rfl t_m1).mpr c_23
            clear c_23
            refine lv_iload_n hx hb dX6_takeLetters_61 rfl (lv_at hl 0 rfl) ?_
            refine lv_iconst (v := 4) hx hb dX6_takeLetters_62 (by decide) ?_
            refine lv_icmp_ge (tgt := 72) hx hb dX6_takeLetters_63 (by decide) (fun c_24 => ?_) (fun c_24 => ?_)
            ·
              have ic_24 : 4 ≤ r_19.toInt := by first | exact (g_le t_4 rfl).mp c_24 | (have h := mt (g_lt rfl t_4).mpr c_24; omega)
              clear c_24
              refine lv_iconst (v := 3) hx hb dX6_takeLetters_72 (by decide) ?_
              refine va_put (D := D) (ci := 6) (v := .int 3) (ty := .int) (C := RX6) (T := TX6) (N := 8) hx hb htb iX6 tyX6 tyX6_ok nmX6 hown hK.1 hP hD hS 0 rfl rfl 5 (by decide) (htb _ k_163) (fun _ h9 => h9) rfl (by decide +kernel) rfl rfl (Nat.le_of_ble_eq_true rfl) dX6_takeLetters_73 (fun H locs hP hD hS => ?_)
              have hP : va_P D vwCl [(th, .inr (6, G6 ta tsize trule twords tat_0 3 twordAt z_22)), ((ta 0), .inl (E 0, 120, .inl tf0))] H := hP
              have hD := toW hP hD rfl
              have hP9 := hP.sub (ws' := [(th, .inr (6, G6 ta tsize trule twords tat_0 3 twordAt z_22)), ((ta 0), .inl (E 0, 120, .inl tf0))]) [0, 1] rfl
              have hD9 := hD.sub (ws' := [(th, .inr (6, G6 ta tsize trule twords tat_0 3 twordAt z_22)), ((ta 0), .inl (E 0, 120, .inl tf0))]) [0, 1] (by decide) rfl
              exact W.vret hx hb hr (fun t ht hW => ⟨⟨(tat_0, z_22, (3 : Int32)), rfl, ⟨(by have h0 := t_3; (try dsimp only); omega), (by (try dsimp only); have hl1 := t_1; have hl3 := t_3; have c0 := i_clamp0 (x := tat_0) (by omega); have c1 := i_clamp0 (x := tsize) (by omega); have c2 := i_clamp0 (x := twordAt) (by omega); have he9 : tat_0.toInt = (teE tf0 (tsize).toNatClampNeg (twordAt).toNatClampNeg : Nat) := (by rw [← v1_0]; first | (rw [skp_z (by omega)]; omega) | (rw [skp_no (by omega)]; omega)); have hq9 := (hw_20).2.2; rw [show (tat_0).toNatClampNeg - (twordAt).toNatClampNeg = teE tf0 (tsize).toNatClampNeg (twordAt).toNatClampNeg - (twordAt).toNatClampNeg by omega] at hq9; refine ⟨he9, ?_, fun hh => ?_⟩; {unfold wdC; rw [← hq9, cwd_cKd (by omega)]; omega}; {unfold wdC at hh ⊢; rw [← hq9] at hh ⊢; have h8 := cKd_hi hh; omega})⟩, by rw [ht]; exact hP9, hD9⟩, hS.F ht⟩) hS.2.2 dX6_takeLetters_76
            ·
              have ic_24 : r_19.toInt < 4 := by first | exact (g_lt rfl t_4).mp c_24 | (have h := mt (g_le t_4 rfl).mpr c_24; omega)
              clear c_24
              refine lv_iconst (v := 4) hx hb dX6_takeLetters_66 (by decide) ?_
              refine lv_iload_n hx hb dX6_takeLetters_67 rfl (lv_at hl 0 rfl) ?_
              refine lv_iadd hx hb dX6_takeLetters_68 ?_
              refine lv_topi (fun z_25 ez_25 => ?_)
              have jz_25 : z_25.toInt = 4 + r_19.toInt := by rw [ez_25]; exact g_add t_4 rfl (by omega) (by omega)
              refine lv_goto (tgt := 73) hx hb dX6_takeLetters_69 (by decide) ?_
              refine va_put (D := D) (ci := 6) (v := .int z_25) (ty := .int) (C := RX6) (T := TX6) (N := 8) hx hb htb iX6 tyX6 tyX6_ok nmX6 hown hK.1 hP hD hS 0 rfl rfl 5 (by decide) (htb _ k_163) (fun _ h9 => h9) rfl (by decide +kernel) rfl rfl (Nat.le_of_ble_eq_true rfl) dX6_takeLetters_73 (fun H locs hP hD hS => ?_)
              have hP : va_P D vwCl [(th, .inr (6, G6 ta tsize trule twords tat_0 z_25 twordAt z_22)), ((ta 0), .inl (E 0, 120, .inl tf0))] H := hP
              have hD := toW hP hD rfl
              have hP9 := hP.sub (ws' := [(th, .inr (6, G6 ta tsize trule twords tat_0 z_25 twordAt z_22)), ((ta 0), .inl (E 0, 120, .inl tf0))]) [0, 1] rfl
              have hD9 := hD.sub (ws' := [(th, .inr (6, G6 ta tsize trule twords tat_0 z_25 twordAt z_22)), ((ta 0), .inl (E 0, 120, .inl tf0))]) [0, 1] (by decide) rfl
              exact W.vret hx hb hr (fun t ht hW => ⟨⟨(tat_0, z_22, z_25), rfl, ⟨(by (try dsimp only); omega), (by (try dsimp only); have hl1 := t_1; have hl3 := t_3; have c0 := i_clamp0 (x := tat_0) (by omega); have c1 := i_clamp0 (x := tsize) (by omega); have c2 := i_clamp0 (x := twordAt) (by omega); have he9 : tat_0.toInt = (teE tf0 (tsize).toNatClampNeg (twordAt).toNatClampNeg : Nat) := (by rw [← v1_0]; first | (rw [skp_z (by omega)]; omega) | (rw [skp_no (by omega)]; omega)); have hq9 := (hw_20).2.2; rw [show (tat_0).toNatClampNeg - (twordAt).toNatClampNeg = teE tf0 (tsize).toNatClampNeg (twordAt).toNatClampNeg - (twordAt).toNatClampNeg by omega] at hq9; refine ⟨he9, ?_, fun hh => ?_⟩; {unfold wdC; rw [← hq9, cwd_cKd (by omega)]; omega}; {unfold wdC at hh ⊢; rw [← hq9] at hh ⊢; have h8 := cKd_hi hh; omega})⟩, by rw [ht]; exact hP9, hD9⟩, hS.F ht⟩) hS.2.2 dX6_takeLetters_76
          ·
            have ic_23 : r_19.toInt = -1 := (g_eq rfl t_m1).mp c_23
            clear c_23
            refine lv_iconst (v := 1) hx hb dX6_takeLetters_57 (by decide) ?_
            refine lv_goto (tgt := 73) hx hb dX6_takeLetters_58 (by decide) ?_
            refine va_put (D := D) (ci := 6) (v := .int 1) (ty := .int) (C := RX6) (T := TX6) (N := 8) hx hb htb iX6 tyX6 tyX6_ok nmX6 hown hK.1 hP hD hS 0 rfl rfl 5 (by decide) (htb _ k_163) (fun _ h9 => h9) rfl (by decide +kernel) rfl rfl (Nat.le_of_ble_eq_true rfl) dX6_takeLetters_73 (fun H locs hP hD hS => ?_)
            have hP : va_P D vwCl [(th, .inr (6, G6 ta tsize trule twords tat_0 1 twordAt z_22)), ((ta 0), .inl (E 0, 120, .inl tf0))] H := hP
            have hD := toW hP hD rfl
            have hP9 := hP.sub (ws' := [(th, .inr (6, G6 ta tsize trule twords tat_0 1 twordAt z_22)), ((ta 0), .inl (E 0, 120, .inl tf0))]) [0, 1] rfl
            have hD9 := hD.sub (ws' := [(th, .inr (6, G6 ta tsize trule twords tat_0 1 twordAt z_22)), ((ta 0), .inl (E 0, 120, .inl tf0))]) [0, 1] (by decide) rfl
            exact W.vret hx hb hr (fun t ht hW => ⟨⟨(tat_0, z_22, (1 : Int32)), rfl, ⟨(by have h0 := t_1; (try dsimp only); omega), (by (try dsimp only); have hl1 := t_1; have hl3 := t_3; have c0 := i_clamp0 (x := tat_0) (by omega); have c1 := i_clamp0 (x := tsize) (by omega); have c2 := i_clamp0 (x := twordAt) (by omega); have he9 : tat_0.toInt = (teE tf0 (tsize).toNatClampNeg (twordAt).toNatClampNeg : Nat) := (by rw [← v1_0]; first | (rw [skp_z (by omega)]; omega) | (rw [skp_no (by omega)]; omega)); have hq9 := (hw_20).2.2; rw [show (tat_0).toNatClampNeg - (twordAt).toNatClampNeg = teE tf0 (tsize).toNatClampNeg (twordAt).toNatClampNeg - (twordAt).toNatClampNeg by omega] at hq9; refine ⟨he9, ?_, fun hh => ?_⟩; {unfold wdC; rw [← hq9, cwd_cKd (by omega)]; omega}; {unfold wdC at hh ⊢; rw [← hq9] at hh ⊢; have h8 := cKd_hi hh; omega})⟩, by rw [ht]; exact hP9, hD9⟩, hS.F ht⟩) hS.2.2 dX6_takeLetters_76
  exact loop_1 121 tat _ _ _ (by (try dsimp only); omega) (by (try dsimp only); omega) (by have c0 := i_clamp0 (x := tat) (by omega); have c1 := i_clamp0 (x := tsize) (by omega); have c2 := i_clamp0 (x := twordAt) (by omega); rw [show (tat).toNatClampNeg = (twordAt).toNatClampNeg by omega]; exact (teE_l (f := tf0) (n := (tsize).toNatClampNeg) (s := (twordAt).toNatClampNeg) (by omega) (by rw [show (twordAt).toNatClampNeg = (tat).toNatClampNeg by omega]; omega)).symm) hP hD hS (lv_sub hl [0] rfl)
set_option maxHeartbeats 4000000 in
set_option maxRecDepth 100000 in
theorem g_X6_goOn (l : Launch) (D : va_G) (E : Nat → Nat) (th : Nat) (ta : Nat → Nat) (tsize : Int32) (trule : Nat) (twords : Nat) (tat : Int32) (tword : Int32) (twordAt : Int32) (tvalue : Int32) (tf0 : Nat → Int32) (sv : Nat) (sn : Nat) (sf : Nat → Int32) (sz : Nat) (hi_t : (0 ≤ tsize.toInt ∧ tsize.toInt ≤ 120)) (hsn : sn < 2147483647) (g0 : 0 ≤ tat.toInt ∧ tat.toInt ≤ tsize.toInt) (g1 : sn ≤ 900) : Met l yX6_goOn (wl yX6_goOn cX6_goOn 1 none) (RM 7 0 0) (muS_P D E [.ref th] [(th, .inr (6, G6 ta tsize trule twords tat tword twordAt tvalue)), ((ta 0), .inl (E 0, 120, .inl tf0))] sz [(twords, sv, sn, sf)]) (va_Qv (fun (u : (Int32) × (Int32) × (Int32) × (Int32)) => (tat.toInt ≤ u.2.2.2.toInt ∧ u.2.2.2.toInt ≤ u.1.toInt ∧ u.1.toInt ≤ tsize.toInt) ∧ (TKC sn sf tf0 (tsize).toNatClampNeg (tat).toNatClampNeg u.1 u.2.2.2 u.2.2.1 u.2.1)) (mu_B D (va_A [(th, .inr (6, G6 ta tsize trule twords tat tword twordAt tvalue)), ((ta 0), .inl (E 0, 120, .inl tf0))] sz) (fun (u : (Int32) × (Int32) × (Int32) × (Int32)) => [(th, .inr (6, G6 ta tsize trule twords u.1 u.2.2.1 u.2.2.2 u.2.1)), ((ta 0), .inl (E 0, 120, .inl tf0))])) (va_A [(th, .inr (6, G6 ta tsize trule twords tat tword twordAt tvalue)), ((ta 0), .inl (E 0, 120, .inl tf0))] sz)) 0 0 (va_A [(th, .inr (6, G6 ta tsize trule twords tat tword twordAt tvalue)), ((ta 0), .inl (E 0, 120, .inl tf0))] sz) := by
  refine Met.ofW (cc := cX6_goOn) (maxL := 1) (ret := none) (by decide) rfl ?_
  intro p e s m args below meth c s₁ B hml hv
  obtain ⟨rfl, hsz, hP, hK, hD0, hG⟩ := hv
  have hx := B.exec; have hb := B.bytes; have hr := B.returns
  have hts := atoms_spec (ws := wl yX6_goOn cX6_goOn 1 none) B.pre
  have htb : ∀ w ∈ tb, w.before _ s = true := fun w h => hts w (List.mem_cons_of_mem _ h)
  have hown : s.vm.findClass RX6 = some m.cls := findClass_of_methodNamed B.named
  have hlocks := B.notSynchronized
  subst hsz
  have hD := hD0.self (sz := s.heap.size)
  generalize hAe : va_A [(th, .inr (6, G6 ta tsize trule twords tat tword twordAt tvalue)), ((ta 0), .inl (E 0, 120, .inl tf0))] s.heap.size = A at hD hG ⊢
  have hA : ∀ q : Nat, s.heap.size ≤ q → A q := fun q h => by rw [← hAe]; exact Or.inr h
  have hS : va_S A s.heap s.heap [] := va_S.rf
  have hP : va_P D vwCl [(th, .inr (6, G6 ta tsize trule twords tat tword twordAt tvalue)), ((ta 0), .inl (E 0, 120, .inl tf0))] s.heap := hP
  have hl := lv_entry ([.ref th]) (n := 1) (Nat.le_of_ble_eq_true rfl)
  rw [lg_entry_eq]
  generalize (lg_sl ([.ref th]) ++ List.replicate (1 - (lg_sl ([.ref th])).length) Slot.unset).toArray = ls at hl ⊢
  have hl : lv_has ls 1 [(0, .ref th)] := hl
  have loop_1 : ∀ (N_3 : Nat) (tat_0 : Int32) (H : Heap) (locs : List Loc) (ls : Array Slot), tsize.toInt - tat_0.toInt < (N_3 : Int) → (tat.toInt ≤ tat_0.toInt ∧ tat_0.toInt ≤ tsize.toInt) → (skp 32 32 tf0 ((tsize).toNatClampNeg - (tat_0).toNatClampNeg) (tat_0).toNatClampNeg = tkS tf0 (tsize).toNatClampNeg (tat).toNatClampNeg) → va_P D vwCl [(th, .inr (6, G6 ta tsize trule twords tat_0 tword twordAt tvalue)), ((ta 0), .inl (E 0, 120, .inl tf0))] H → va_D A [(th, .inr (6, G6 ta tsize trule twords tat_0 tword twordAt tvalue)), ((ta 0), .inl (E 0, 120, .inl tf0))] → va_S A s.heap H locs → lv_has ls 1 [(0, .ref th)] → W p l e (headSpec (wl yX6_goOn cX6_goOn 1 none) (RM 7 0 0)).room s m [Value.ref th].toArray below meth c H locs 0 0 (MQ below (va_Qv (fun (u : (Int32) × (Int32) × (Int32) × (Int32)) => (tat.toInt ≤ u.2.2.2.toInt ∧ u.2.2.2.toInt ≤ u.1.toInt ∧ u.1.toInt ≤ tsize.toInt) ∧ (TKC sn sf tf0 (tsize).toNatClampNeg (tat).toNatClampNeg u.1 u.2.2.2 u.2.2.1 u.2.1)) (mu_B D A (fun (u : (Int32) × (Int32) × (Int32) × (Int32)) => [(th, .inr (6, G6 ta tsize trule twords u.1 u.2.2.1 u.2.2.2 u.2.1)), ((ta 0), .inl (E 0, 120, .inl tf0))])) A) [Value.ref th].toArray s 0 0 A) (F0 m 0 ls []) := by
    intro N_3
    induction N_3 with
    | zero => intro tat_0 H locs ls hm v0_0 v1_0 _ _ _ _; exfalso; omega
    | succ N_3 ih_2 =>
      intro tat_0 H locs ls hm v0_0 v1_0 hP hD hS hl
      have lo_tat_0 := i_lo tat_0; have hi_tat_0 := i_hi tat_0
      refine lv_aload_n hx hb dX6_goOn_0 rfl (lv_at hl 0 rfl) ?_
      refine va_get (D := D) (ci := 6) (v := .int tat_0) (C := RX6) (T := TX6) (N := 8) hx hb htb iX6 hown hK.1 hP 0 rfl rfl 4 (by decide) (htb _ k_162) (fun _ h9 => h9) rfl dX6_goOn_1 ?_
      refine lv_aload_n hx hb dX6_goOn_4 rfl (lv_at hl 0 rfl) ?_
      refine va_get (D := D) (ci := 6) (v := .int tsize) (C := RX6) (T := TX6) (N := 8) hx hb htb iX6 hown hK.1 hP 0 rfl rfl 1 (by decide) (htb _ k_158) (fun _ h9 => h9) rfl dX6_goOn_5 ?_
      refine lv_icmp_ge (tgt := 38) hx hb dX6_goOn_8 (by decide) (fun c_4 => ?_) (fun c_4 => ?_)
      ·
        have ic_4 : tsize.toInt ≤ tat_0.toInt := by first | exact (g_le rfl rfl).mp c_4 | (have h := mt (g_lt rfl rfl).mpr c_4; omega)
        clear c_4
        refine lv_aload_n hx hb dX6_goOn_38 rfl (lv_at hl 0 rfl) ?_
        refine lv_aload_n hx hb dX6_goOn_39 rfl (lv_at hl 0 rfl) ?_
        refine va_get (D := D) (ci := 6) (v := .int tat_0) (C := RX6) (T := TX6) (N := 8) hx hb htb iX6 hown hK.1 hP 0 rfl rfl 4 (by decide) (htb _ k_162) (fun _ h9 => h9) rfl dX6_goOn_40 ?_
        refine va_put (D := D) (ci := 6) (v := .int tat_0) (ty := .int) (C := RX6) (T := TX6) (N := 8) hx hb htb iX6 tyX6 tyX6_ok nmX6 hown hK.1 hP hD hS 0 rfl rfl 6 (by decide) (htb _ k_164) (fun _ h9 => h9) rfl (by decide +kernel) rfl rfl (Nat.le_of_ble_eq_true rfl) dX6_goOn_43 (fun H locs hP hD hS => ?_)
        have hP : va_P D vwCl [(th, .inr (6, G6 ta tsize trule twords tat_0 tword tat_0 tvalue)), ((ta 0), .inl (E 0, 120, .inl tf0))] H := hP
        have hD := toW hP hD rfl
        have hts9 : tkS tf0 (tsize).toNatClampNeg (tat).toNatClampNeg = (tat_0).toNatClampNeg := by have c0 := i_clamp0 (x := tat_0) (by omega); have c1 := i_clamp0 (x := tsize) (by omega); rw [← v1_0]; first | exact skp_z (by omega) | exact skp_no (by omega)
        refine lv_aload_n hx hb dX6_goOn_46 rfl (lv_at hl 0 rfl) ?_
        refine va_get (D := D) (ci := 6) (v := .int tat_0) (C := RX6) (T := TX6) (N := 8) hx hb htb iX6 hown hK.1 hP 0 rfl rfl 4 (by decide) (htb _ k_162) (fun _ h9 => h9) rfl dX6_goOn_47 ?_
        refine lv_aload_n hx hb dX6_goOn_50 rfl (lv_at hl 0 rfl) ?_
        refine va_get (D := D) (ci := 6) (v := .int tsize) (C := RX6) (T := TX6) (N := 8) hx hb htb iX6 hown hK.1 hP 0 rfl rfl 1 (by decide) (htb _ k_158) (fun _ h9 => h9) rfl dX6_goOn_51 ?_
        refine lv_icmp_lt (tgt := 65) hx hb dX6_goOn_54 (by decide) (fun c_5 => ?_) (fun c_5 => ?_)
        ·
          have ic_5 : tat_0.toInt < tsize.toInt := by first | exact (g_lt rfl rfl).mp c_5 | (have h := mt (g_le rfl rfl).mpr c_5; omega)
          clear c_5
          refine lv_aload_n hx hb dX6_goOn_65 rfl (lv_at hl 0 rfl) ?_
          refine va_get (D := D) (ci := 6) (v := .ref (ta 0)) (C := RX6) (T := TX6) (N := 8) hx hb htb iX6 hown hK.1 hP 0 rfl rfl 0 (by decide) (htb _ k_157) (fun _ h9 => h9) rfl dX6_goOn_66 ?_
          refine lv_aload_n hx hb dX6_goOn_69 rfl (lv_at hl 0 rfl) ?_
          refine va_get (D := D) (ci := 6) (v := .int tat_0) (C := RX6) (T := TX6) (N := 8) hx hb htb iX6 hown hK.1 hP 0 rfl rfl 4 (by decide) (htb _ k_162) (fun _ h9 => h9) rfl dX6_goOn_70 ?_
          refine va_iald hx hb hK.1 hP 1 0 rfl rfl (g_in rfl (by omega) (by omega)) dX6_goOn_73 ?_
          refine lv_topi (fun z_6 ez_6 => ?_)
          have kz_6 := congrArg Int32.toInt ez_6
          refine callRS (rest := []) (As := [.int z_6]) hx hb hml hown htb hK (g_X6_isLetter l D E z_6 ) ok_X6_isLetter k_595 k_596 k_5 k_597 ⟨(Nat.le_of_ble_eq_true rfl), (Nat.le_of_ble_eq_true rfl)⟩ ⟨(Nat.le_of_ble_eq_true rfl), (Nat.le_of_ble_eq_true rfl)⟩ hl.1 (Nat.le_of_ble_eq_true rfl) rfl rfl dX6_goOn_74 (hP.sub (ws' := ([] : va_W)) [] rfl) (fun r_7 hw_8 => ?_)
          rcases hw_8 with ⟨hr_7, hw_8⟩ | ⟨hr_7, hw_8⟩
          ·
            refine W_top (y := .int 1) (by rw [hr_7]) ?_
            refine lv_if_eq (tgt := 87) hx hb dX6_goOn_77 (by decide) (fun c_10 => absurd c_10 (by decide)) (fun c_10 => ?_)
            refine lv_aload_n hx hb dX6_goOn_80 rfl (lv_at hl 0 rfl) ?_
            have hPc := hP.sub (ws' := [(th, .inr (6, G6 ta tsize trule twords tat_0 tword tat_0 tvalue)), ((ta 0), .inl (E 0, 120, .inl tf0))]) [0, 1] rfl
            have hDc := hD.sub (ws' := [(th, .inr (6, G6 ta tsize trule twords tat_0 tword tat_0 tvalue)), ((ta 0), .inl (E 0, 120, .inl tf0))]) [0, 1] (by decide) rfl
            refine aft_v (runMG (rest := []) (As := []) hx hb hml hown htb (g_X6_takeLetters l D E th ta tsize trule twords tat_0 tword tat_0 tvalue tf0 sv sn sf _ (by (try dsimp only); omega) hsn (by (try dsimp only); omega) g1 (by (try dsimp only); omega)) ok_X6_takeLetters k_598 k_600 ks_12 k_5 k_601 ⟨(Nat.le_of_ble_eq_true rfl), (Nat.le_of_ble_eq_true rfl)⟩ ⟨(Nat.le_of_ble_eq_true rfl), (Nat.le_of_ble_eq_true rfl)⟩ hl.1 (Nat.le_of_ble_eq_true rfl) rfl rfl dX6_goOn_81 (pmVS hPc hDc hK rfl rfl 0 rfl hG hS (va_free hD hS hA [0, 1] rfl))) hP hD hS hA [0, 1] [] (wr := ([] : va_W)) rfl rfl (by decide) (by decide) (fun u_13 H locs hw_12 hP hD hS => ?_)
            clear hPc hDc
            obtain ⟨w_14, w_15, w_16⟩ := u_13
            try dsimp only at hw_12
            have hP : va_P D vwCl [(th, .inr (6, G6 ta tsize trule twords w_14 w_16 tat_0 w_15)), ((ta 0), .inl (E 0, 120, .inl tf0))] H := hP
            have hD := toW hP hD rfl
            obtain ⟨hw_12_0, hw_12_1⟩ := hw_12
            refine lv_goto (tgt := 151) hx hb dX6_goOn_84 (by decide) ?_
            have hP9 := hP.sub (ws' := [(th, .inr (6, G6 ta tsize trule twords w_14 w_16 tat_0 w_15)), ((ta 0), .inl (E 0, 120, .inl tf0))]) [0, 1] rfl
            have hD9 := hD.sub (ws' := [(th, .inr (6, G6 ta tsize trule twords w_14 w_16 tat_0 w_15)), ((ta 0), .inl (E 0, 120, .inl tf0))]) [0, 1] (by decide) rfl
            exact W.vret hx hb hr (fun t ht hW => ⟨⟨(w_14, w_15, w_16, tat_0), rfl, ⟨(by (try dsimp only); omega), (by (try dsimp only); have c0 := i_clamp0 (x := tat) (by omega); have c1 := i_clamp0 (x := tsize) (by omega); have c2 := i_clamp0 (x := tat_0) (by omega); exact TKC_l (by omega) hts9 (by omega) (by omega) (by omega) (hw_12_1).1 (hw_12_1).2.1 (hw_12_1).2.2)⟩, by rw [ht]; exact hP9, hD9⟩, hS.F ht⟩) hS.2.2 dX6_goOn_151
          ·
            refine W_top (y := .int 0) (by rw [hr_7]) ?_
            refine lv_if_eq (tgt := 87) hx hb dX6_goOn_77 (by decide) (fun c_17 => ?_) (fun c_17 => absurd (by decide) c_17)
            refine lv_aload_n hx hb dX6_goOn_87 rfl (lv_at hl 0 rfl) ?_
            refine va_get (D := D) (ci := 6) (v := .ref (ta 0)) (C := RX6) (T := TX6) (N := 8) hx hb htb iX6 hown hK.1 hP 0 rfl rfl 0 (by decide) (htb _ k_157) (fun _ h9 => h9) rfl dX6_goOn_88 ?_
            refine lv_aload_n hx hb dX6_goOn_91 rfl (lv_at hl 0 rfl) ?_
            refine va_get (D := D) (ci := 6) (v := .int tat_0) (C := RX6) (T := TX6) (N := 8) hx hb htb iX6 hown hK.1 hP 0 rfl rfl 4 (by decide) (htb _ k_162) (fun _ h9 => h9) rfl dX6_goOn_92 ?_
            refine va_iald hx hb hK.1 hP 1 0 rfl rfl (g_in rfl (by omega) (by omega)) dX6_goOn_95 ?_
            refine lv_topi (fun z_18 ez_18 => ?_)
            have kz_18 := congrArg Int32.toInt ez_18
            refine callRS (rest := []) (As := [.int z_18]) hx hb hml hown htb hK (g_X6_isDigit l D E z_18 ) ok_X6_isDigit k_658 k_659 k_5 k_660 ⟨(Nat.le_of_ble_eq_true rfl), (Nat.le_of_ble_eq_true rfl)⟩ ⟨(Nat.le_of_ble_eq_true rfl), (Nat.le_of_ble_eq_true rfl)⟩ hl.1 (Nat.le_of_ble_eq_true rfl) rfl rfl dX6_goOn_96 (hP.sub (ws' := ([] : va_W)) [] rfl) (fun r_19 hw_20 => ?_)
            rcases hw_20 with ⟨hr_19, hw_20⟩ | ⟨hr_19, hw_20⟩
            ·
              refine W_top (y := .int 1) (by rw [hr_19]) ?_
              refine lv_if_eq (tgt := 109) hx hb dX6_goOn_99 (by decide) (fun c_22 => absurd c_22 (by decide)) (fun c_22 => ?_)
              refine lv_aload_n hx hb dX6_goOn_102 rfl (lv_at hl 0 rfl) ?_
              have hPc := hP.sub (ws' := [(th, .inr (6, G6 ta tsize trule twords tat_0 tword tat_0 tvalue)), ((ta 0), .inl (E 0, 120, .inl tf0))]) [0, 1] rfl
              have hDc := hD.sub (ws' := [(th, .inr (6, G6 ta tsize trule twords tat_0 tword tat_0 tvalue)), ((ta 0), .inl (E 0, 120, .inl tf0))]) [0, 1] (by decide) rfl
              refine aft_v (runMV (rest := []) (As := []) hx hb hml hown htb hK (g_X6_takeDigits l D E th ta tsize trule twords tat_0 tword tat_0 tvalue tf0 _ (by (try dsimp only); omega) (by (try dsimp only); omega) (by (try dsimp only); omega)) ok_X6_takeDigits k_661 k_663 ks_15 k_5 k_664 ⟨(Nat.le_of_ble_eq_true rfl), (Nat.le_of_ble_eq_true rfl)⟩ ⟨(Nat.le_of_ble_eq_true rfl), (Nat.le_of_ble_eq_true rfl)⟩ hl.1 (Nat.le_of_ble_eq_true rfl) rfl rfl dX6_goOn_103 hPc hDc rfl rfl 0 rfl) hP hD hS hA [0, 1] [] (wr := ([] : va_W)) rfl rfl (by decide) (by decide) (fun u_25 H locs hw_24 hP hD hS => ?_)
              clear hPc hDc
              obtain ⟨w_26, w_27, w_28⟩ := u_25
              try dsimp only at hw_24
              have hP : va_P D vwCl [(th, .inr (6, G6 ta tsize trule twords w_26 w_28 tat_0 w_27)), ((ta 0), .inl (E 0, 120, .inl tf0))] H := hP
              have hD := toW hP hD rfl
              obtain ⟨hw_24_0, hw_24_1⟩ := hw_24
              refine lv_goto (tgt := 151) hx hb dX6_goOn_106 (by decide) ?_
              have hP9 := hP.sub (ws' := [(th, .inr (6, G6 ta tsize trule twords w_26 w_28 tat_0 w_27)), ((ta 0), .inl (E 0, 120, .inl tf0))]) [0, 1] rfl
              have hD9 := hD.sub (ws' := [(th, .inr (6, G6 ta tsize trule twords w_26 w_28 tat_0 w_27)), ((ta 0), .inl (E 0, 120, .inl tf0))]) [0, 1] (by decide) rfl
              exact W.vret hx hb hr (fun t ht hW => ⟨⟨(w_26, w_27, w_28, tat_0), rfl, ⟨(by (try dsimp only); omega), (by (try dsimp only); have c0 := i_clamp0 (x := tat) (by omega); have c1 := i_clamp0 (x := tsize) (by omega); have c2 := i_clamp0 (x := tat_0) (by omega); exact TKC_d (by omega) hts9 (by omega) (by omega) (by omega) (hw_24_1).1 (hw_24_1).2)⟩, by rw [ht]; exact hP9, hD9⟩, hS.F ht⟩) hS.2.2 dX6_goOn_151
            ·
              refine W_top (y := .int 0) (by rw [hr_19]) ?_
              refine lv_if_eq (tgt := 109) hx hb dX6_goOn_99 (by decide) (fun c_29 => ?_) (fun c_29 => absurd (by decide) c_29)
              refine lv_aload_n hx hb dX6_goOn_109 rfl (lv_at hl 0 rfl) ?_
              refine lv_aload_n hx hb dX6_goOn_110 rfl (lv_at hl 0 rfl) ?_
              refine va_get (D := D) (ci := 6) (v := .ref (ta 0)) (C := RX6) (T := TX6) (N := 8) hx hb htb iX6 hown hK.1 hP 0 rfl rfl 0 (by decide) (htb _ k_157) (fun _ h9 => h9) rfl dX6_goOn_111 ?_
              refine lv_aload_n hx hb dX6_goOn_114 rfl (lv_at hl 0 rfl) ?_
              refine va_get (D := D) (ci := 6) (v := .int tat_0) (C := RX6) (T := TX6) (N := 8) hx hb htb iX6 hown hK.1 hP 0 rfl rfl 4 (by decide) (htb _ k_162) (fun _ h9 => h9) rfl dX6_goOn_115 ?_
              refine va_iald hx hb hK.1 hP 1 0 rfl rfl (g_in rfl (by omega) (by omega)) dX6_goOn_118 ?_
              refine lv_topi (fun z_30 ez_30 => ?_)
              have kz_30 := congrArg Int32.toInt ez_30
              refine callRS (rest := [.ref th]) (As := [.int z_30]) hx hb hml hown htb hK (g_X6_isSign l D E z_30 ) ok_X6_isSign k_665 k_666 k_5 k_667 ⟨(Nat.le_of_ble_eq_true rfl), (Nat.le_of_ble_eq_true rfl)⟩ ⟨(Nat.le_of_ble_eq_true rfl), (Nat.le_of_ble_eq_true rfl)⟩ hl.1 (Nat.le_of_ble_eq_true rfl) rfl rfl dX6_goOn_119 (hP.sub (ws' := ([] : va_W)) [] rfl) (fun r_31 hw_32 => ?_)
              refine lv_if_eq (tgt := 137) hx hb dX6_goOn_122 (by decide) (fun c_34 => ?_) (fun c_34 => ?_)
              ·
                have ic_34 : r_31.toInt = 0 := (g_eq rfl t_0).mp c_34
                clear c_34
                refine lv_iconst (v := 1) hx hb dX6_goOn_137 (by decide) ?_
                refine va_put (D := D) (ci := 6) (v := .int 1) (ty := .int) (C := RX6) (T := TX6) (N := 8) hx hb htb iX6 tyX6 tyX6_ok nmX6 hown hK.1 hP hD hS 0 rfl rfl 5 (by decide) (htb _ k_163) (fun _ h9 => h9) rfl (by decide +kernel) rfl rfl (Nat.le_of_ble_eq_true rfl) dX6_goOn_138 (fun H locs hP hD hS => ?_)
                have hP : va_P D vwCl [(th, .inr (6, G6 ta tsize trule twords tat_0 1 tat_0 tvalue)), ((ta 0), .inl (E 0, 120, .inl tf0))] H := hP
                have hD := toW hP hD rfl
                refine lv_aload_n hx hb dX6_goOn_141 rfl (lv_at hl 0 rfl) ?_
                refine lv_dup hx hb dX6_goOn_142 rfl ?_
                refine va_get (D := D) (ci := 6) (v := .int tat_0) (C := RX6) (T := TX6) (N := 8) hx hb htb iX6 hown hK.1 hP 0 rfl rfl 4 (by decide) (htb _ k_162) (fun _ h9 => h9) rfl dX6_goOn_143 ?_
                refine lv_iconst (v := 1) hx hb dX6_goOn_146 (by decide) ?_
                refine lv_iadd hx hb dX6_goOn_147 ?_
                refine lv_topi (fun z_35 ez_35 => ?_)
                have jz_35 : z_35.toInt = tat_0.toInt + 1 := by rw [ez_35]; exact g_add rfl t_1 (by omega) (by omega)
                refine va_put (D := D) (ci := 6) (v := .int z_35) (ty := .int) (C := RX6) (T := TX6) (N := 8) hx hb htb iX6 tyX6 tyX6_ok nmX6 hown hK.1 hP hD hS 0 rfl rfl 4 (by decide) (htb _ k_162) (fun _ h9 => h9) rfl (by decide +kernel) rfl rfl (Nat.le_of_ble_eq_true rfl) dX6_goOn_148 (fun H locs hP hD hS => ?_)
                have hP : va_P D vwCl [(th, .inr (6, G6 ta tsize trule twords z_35 1 tat_0 tvalue)), ((ta 0), .inl (E 0, 120, .inl tf0))] H := hP
                have hD := toW hP hD rfl
                have hP9 := hP.sub (ws' := [(th, .inr (6, G6 ta tsize trule twords z_35 1 tat_0 tvalue)), ((ta 0), .inl (E 0, 120, .inl tf0))]) [0, 1] rfl
                have hD9 := hD.sub (ws' := [(th, .inr (6, G6 ta tsize trule twords z_35 1 tat_0 tvalue)), ((ta 0), .inl (E 0, 120, .inl tf0))]) [0, 1] (by decide) rfl
                exact W.vret hx hb hr (fun t ht hW => ⟨⟨(z_35, tvalue, (1 : Int32), tat_0), rfl, ⟨(by have h0 := t_1; (try dsimp only); omega), (by (try dsimp only); have hl1 := t_1; have c0 := i_clamp0 (x := tat) (by omega); have c1 := i_clamp0 (x := tsize) (by omega); have c2 := i_clamp0 (x := tat_0) (by omega); exact TKC_s (by omega) hts9 (by omega) (by omega) (by omega) (by omega) (by omega) (by rw [← ez_30]; have h9 := hw_32; omega))⟩, by rw [ht]; exact hP9, hD9⟩, hS.F ht⟩) hS.2.2 dX6_goOn_151
              ·
                have ic_34 : r_31.toInt ≠ 0 := mt (g_eq rfl t_0).mpr c_34
                clear c_34
                refine lv_aload_n hx hb dX6_goOn_125 rfl (lv_at hl 0 rfl) ?_
                refine va_get (D := D) (ci := 6) (v := .ref (ta 0)) (C := RX6) (T := TX6) (N := 8) hx hb htb iX6 hown hK.1 hP 0 rfl rfl 0 (by decide) (htb _ k_157) (fun _ h9 => h9) rfl dX6_goOn_126 ?_
                refine lv_aload_n hx hb dX6_goOn_129 rfl (lv_at hl 0 rfl) ?_
                refine va_get (D := D) (ci := 6) (v := .int tat_0) (C := RX6) (T := TX6) (N := 8) hx hb htb iX6 hown hK.1 hP 0 rfl rfl 4 (by decide) (htb _ k_162) (fun _ h9 => h9) rfl dX6_goOn_130 ?_
                refine va_iald hx hb hK.1 hP 1 0 rfl rfl (g_in rfl (by omega) (by omega)) dX6_goOn_133 ?_
                refine lv_topi (fun z_36 ez_36 => ?_)
                have kz_36 := congrArg Int32.toInt ez_36
                refine lv_goto (tgt := 138) hx hb dX6_goOn_134 (by decide) ?_
                refine va_put (D := D) (ci := 6) (v := .int z_36) (ty := .int) (C := RX6) (T := TX6) (N := 8) hx hb htb iX6 tyX6 tyX6_ok nmX6 hown hK.1 hP hD hS 0 rfl rfl 5 (by decide) (htb _ k_163) (fun _ h9 => h9) rfl (by decide +kernel) rfl rfl (Nat.le_of_ble_eq_true rfl) dX6_goOn_138 (fun H locs hP hD hS => ?_)
                have hP : va_P D vwCl [(th, .inr (6, G6 ta tsize trule twords tat_0 z_36 tat_0 tvalue)), ((ta 0), .inl (E 0, 120, .inl tf0))] H := hP
                have hD := toW hP hD rfl
                refine lv_aload_n hx hb dX6_goOn_141 rfl (lv_at hl 0 rfl) ?_
                refine lv_dup hx hb dX6_goOn_142 rfl ?_
                refine va_get (D := D) (ci := 6) (v := .int tat_0) (C := RX6) (T := TX6) (N := 8) hx hb htb iX6 hown hK.1 hP 0 rfl rfl 4 (by decide) (htb _ k_162) (fun _ h9 => h9) rfl dX6_goOn_143 ?_
                refine lv_iconst (v := 1) hx hb dX6_goOn_146 (by decide) ?_
                refine lv_iadd hx hb dX6_goOn_147 ?_
                refine lv_topi (fun z_37 ez_37 => ?_)
                have jz_37 : z_37.toInt = tat_0.toInt + 1 := by rw [ez_37]; exact g_add rfl t_1 (by omega) (by omega)
                refine va_put (D := D) (ci := 6) (v := .int z_37) (ty := .int) (C := RX6) (T := TX6) (N := 8) hx hb htb iX6 tyX6 tyX6_ok nmX6 hown hK.1 hP hD hS 0 rfl rfl 4 (by decide) (htb _ k_162) (fun _ h9 => h9) rfl (by decide +kernel) rfl rfl (Nat.le_of_ble_eq_true rfl) dX6_goOn_148 (fun H locs hP hD hS => ?_)
                have hP : va_P D vwCl [(th, .inr (6, G6 ta tsize trule twords z_37 z_36 tat_0 tvalue)), ((ta 0), .inl (E 0, 120, .inl tf0))] H := hP
                have hD := toW hP hD rfl
                have hP9 := hP.sub (ws' := [(th, .inr (6, G6 ta tsize trule twords z_37 z_36 tat_0 tvalue)), ((ta 0), .inl (E 0, 120, .inl tf0))]) [0, 1] rfl
                have hD9 := hD.sub (ws' := [(th, .inr (6, G6 ta tsize trule twords z_37 z_36 tat_0 tvalue)), ((ta 0), .inl (E 0, 120, .inl tf0))]) [0, 1] (by decide) rfl
                exact W.vret hx hb hr (fun t ht hW => ⟨⟨(z_37, tvalue, z_36, tat_0), rfl, ⟨(by (try dsimp only); omega), (by (try dsimp only); have hl1 := t_1; have c0 := i_clamp0 (x := tat) (by omega); have c1 := i_clamp0 (x := tsize) (by omega); have c2 := i_clamp0 (x := tat_0) (by omega); exact TKC_s (by omega) hts9 (by omega) (by omega) (by omega) (by omega) (by omega) (by rw [← ez_30]; have h9 := hw_32; omega))⟩, by rw [ht]; exact hP9, hD9⟩, hS.F ht⟩) hS.2.2 dX6_goOn_151
        ·
          have ic_5 : tsize.toInt ≤ tat_0.toInt := by first | exact (g_le rfl rfl).mp c_5 | (have h := mt (g_lt rfl rfl).mpr c_5; omega)
          clear c_5
          refine lv_aload_n hx hb dX6_goOn_57 rfl (lv_at hl 0 rfl) ?_
          refine lv_iconst (v := 0) hx hb dX6_goOn_58 (by decide) ?_
          refine va_put (D := D) (ci := 6) (v := .int 0) (ty := .int) (C := RX6) (T := TX6) (N := 8) hx hb htb iX6 tyX6 tyX6_ok nmX6 hown hK.1 hP hD hS 0 rfl rfl 5 (by decide) (htb _ k_163) (fun _ h9 => h9) rfl (by decide +kernel) rfl rfl (Nat.le_of_ble_eq_true rfl) dX6_goOn_59 (fun H locs hP hD hS => ?_)
          have hP : va_P D vwCl [(th, .inr (6, G6 ta tsize trule twords tat_0 0 tat_0 tvalue)), ((ta 0), .inl (E 0, 120, .inl tf0))] H := hP
          have hD := toW hP hD rfl
          refine lv_goto (tgt := 151) hx hb dX6_goOn_62 (by decide) ?_
          have hP9 := hP.sub (ws' := [(th, .inr (6, G6 ta tsize trule twords tat_0 0 tat_0 tvalue)), ((ta 0), .inl (E 0, 120, .inl tf0))]) [0, 1] rfl
          have hD9 := hD.sub (ws' := [(th, .inr (6, G6 ta tsize trule twords tat_0 0 tat_0 tvalue)), ((ta 0), .inl (E 0, 120, .inl tf0))]) [0, 1] (by decide) rfl
          exact W.vret hx hb hr (fun t ht hW => ⟨⟨(tat_0, tvalue, (0 : Int32), tat_0), rfl, ⟨(by have h0 := t_0; (try dsimp only); omega), (by (try dsimp only); have c0 := i_clamp0 (x := tat) (by omega); have c1 := i_clamp0 (x := tsize) (by omega); have c2 := i_clamp0 (x := tat_0) (by omega); exact TKC_end (by omega) hts9 (by omega) t_0)⟩, by rw [ht]; exact hP9, hD9⟩, hS.F ht⟩) hS.2.2 dX6_goOn_151
      ·
        have ic_4 : tat_0.toInt < tsize.toInt := by first | exact (g_lt rfl rfl).mp c_4 | (have h := mt (g_le rfl rfl).mpr c_4; omega)
        clear c_4
        refine lv_aload_n hx hb dX6_goOn_11 rfl (lv_at hl 0 rfl) ?_
        refine va_get (D := D) (ci := 6) (v := .ref (ta 0)) (C := RX6) (T := TX6) (N := 8) hx hb htb iX6 hown hK.1 hP 0 rfl rfl 0 (by decide) (htb _ k_157) (fun _ h9 => h9) rfl dX6_goOn_12 ?_
        refine lv_aload_n hx hb dX6_goOn_15 rfl (lv_at hl 0 rfl) ?_
        refine va_get (D := D) (ci := 6) (v := .int tat_0) (C := RX6) (T := TX6) (N := 8) hx hb htb iX6 hown hK.1 hP 0 rfl rfl 4 (by decide) (htb _ k_162) (fun _ h9 => h9) rfl dX6_goOn_16 ?_
        refine va_iald hx hb hK.1 hP 1 0 rfl rfl (g_in rfl (by omega) (by omega)) dX6_goOn_19 ?_
        refine lv_topi (fun z_38 ez_38 => ?_)
        have kz_38 := congrArg Int32.toInt ez_38
        refine lv_bipush (v := 32) hx hb dX6_goOn_20 (by decide) ?_
        refine lv_icmp_ne (tgt := 38) hx hb dX6_goOn_22 (by decide) (fun c_39 => ?_) (fun c_39 => ?_)
        ·
          have ic_39 : z_38.toInt ≠ 32 := mt (g_eq rfl t_32).mpr c_39
          clear c_39
          refine lv_aload_n hx hb dX6_goOn_38 rfl (lv_at hl 0 rfl) ?_
          refine lv_aload_n hx hb dX6_goOn_39 rfl (lv_at hl 0 rfl) ?_
          refine va_get (D := D) (ci := 6) (v := .int tat_0) (C := RX6) (T := TX6) (N := 8) hx hb htb iX6 hown hK.1 hP 0 rfl rfl 4 (by decide) (htb _ k_162) (fun _ h9 => h9) rfl dX6_goOn_40 ?_
          refine va_put (D := D) (ci := 6) (v := .int tat_0) (ty := .int) (C := RX6) (T := TX6) (N := 8) hx hb htb iX6 tyX6 tyX6_ok nmX6 hown hK.1 hP hD hS 0 rfl rfl 6 (by decide) (htb _ k_164) (fun _ h9 => h9) rfl (by decide +kernel) rfl rfl (Nat.le_of_ble_eq_true rfl) dX6_goOn_43 (fun H locs hP hD hS => ?_)
          have hP : va_P D vwCl [(th, .inr (6, G6 ta tsize trule twords tat_0 tword tat_0 tvalue)), ((ta 0), .inl (E 0, 120, .inl tf0))] H := hP
          have hD := toW hP hD rfl
          have hts9 : tkS tf0 (tsize).toNatClampNeg (tat).toNatClampNeg = (tat_0).toNatClampNeg := by have c0 := i_clamp0 (x := tat_0) (by omega); have c1 := i_clamp0 (x := tsize) (by omega); rw [← v1_0]; first | exact skp_z (by omega) | exact skp_no (by omega)
          refine lv_aload_n hx hb dX6_goOn_46 rfl (lv_at hl 0 rfl) ?_
          refine va_get (D := D) (ci := 6) (v := .int tat_0) (C := RX6) (T := TX6) (N := 8) hx hb htb iX6 hown hK.1 hP 0 rfl rfl 4 (by decide) (htb _ k_162) (fun _ h9 => h9) rfl dX6_goOn_47 ?_
          refine lv_aload_n hx hb dX6_goOn_50 rfl (lv_at hl 0 rfl) ?_
          refine va_get (D := D) (ci := 6) (v := .int tsize) (C := RX6) (T := TX6) (N := 8) hx hb htb iX6 hown hK.1 hP 0 rfl rfl 1 (by decide) (htb _ k_158) (fun _ h9 => h9) rfl dX6_goOn_51 ?_
          refine lv_icmp_lt (tgt := 65) hx hb dX6_goOn_54 (by decide) (fun c_40 => ?_) (fun c_40 => ?_)
          ·
            have ic_40 : tat_0.toInt < tsize.toInt := by first | exact (g_lt rfl rfl).mp c_40 | (have h := mt (g_le rfl rfl).mpr c_40; omega)
            clear c_40
            refine lv_aload_n hx hb dX6_goOn_65 rfl (lv_at hl 0 rfl) ?_
            refine va_get (D := D) (ci := 6) (v := .ref (ta 0)) (C := RX6) (T := TX6) (N := 8) hx hb htb iX6 hown hK.1 hP 0 rfl rfl 0 (by decide) (htb _ k_157) (fun _ h9 => h9) rfl dX6_goOn_66 ?_
            refine lv_aload_n hx hb dX6_goOn_69 rfl (lv_at hl 0 rfl) ?_
            refine va_get (D := D) (ci := 6) (v := .int tat_0) (C := RX6) (T := TX6) (N := 8) hx hb htb iX6 hown hK.1 hP 0 rfl rfl 4 (by decide) (htb _ k_162) (fun _ h9 => h9) rfl dX6_goOn_70 ?_
            refine va_iald hx hb hK.1 hP 1 0 rfl rfl (g_in rfl (by omega) (by omega)) dX6_goOn_73 ?_
            refine lv_topi (fun z_41 ez_41 => ?_)
            have kz_41 := congrArg Int32.toInt ez_41
            refine callRS (rest := []) (As := [.int z_41]) hx hb hml hown htb hK (g_X6_isLetter l D E z_41 ) ok_X6_isLetter k_595 k_596 k_5 k_597 ⟨(Nat.le_of_ble_eq_true rfl), (Nat.le_of_ble_eq_true rfl)⟩ ⟨(Nat.le_of_ble_eq_true rfl), (Nat.le_of_ble_eq_true rfl)⟩ hl.1 (Nat.le_of_ble_eq_true rfl) rfl rfl dX6_goOn_74 (hP.sub (ws' := ([] : va_W)) [] rfl) (fun r_42 hw_43 => ?_)
            rcases hw_43 with ⟨hr_42, hw_43⟩ | ⟨hr_42, hw_43⟩
            ·
              refine W_top (y := .int 1) (by rw [hr_42]) ?_
              refine lv_if_eq (tgt := 87) hx hb dX6_goOn_77 (by decide) (fun c_45 => absurd c_45 (by decide)) (fun c_45 => ?_)
              refine lv_aload_n hx hb dX6_goOn_80 rfl (lv_at hl 0 rfl) ?_
              have hPc := hP.sub (ws' := [(th, .inr (6, G6 ta tsize trule twords tat_0 tword tat_0 tvalue)), ((ta 0), .inl (E 0, 120, .inl tf0))]) [0, 1] rfl
              have hDc := hD.sub (ws' := [(th, .inr (6, G6 ta tsize trule twords tat_0 tword tat_0 tvalue)), ((ta 0), .inl (E 0, 120, .inl tf0))]) [0, 1] (by decide) rfl
              refine aft_v (runMG (rest := []) (As := []) hx hb hml hown htb (g_X6_takeLetters l D E th ta tsize trule twords tat_0 tword tat_0 tvalue tf0 sv sn sf _ (by (try dsimp only); omega) hsn (by (try dsimp only); omega) g1 (by (try dsimp only); omega)) ok_X6_takeLetters k_598 k_600 ks_12 k_5 k_601 ⟨(Nat.le_of_ble_eq_true rfl), (Nat.le_of_ble_eq_true rfl)⟩ ⟨(Nat.le_of_ble_eq_true rfl), (Nat.le_of_ble_eq_true rfl)⟩ hl.1 (Nat.le_of_ble_eq_true rfl) rfl rfl dX6_goOn_81 (pmVS hPc hDc hK rfl rfl 0 rfl hG hS (va_free hD hS hA [0, 1] rfl))) hP hD hS hA [0, 1] [] (wr := ([] : va_W)) rfl rfl (by decide) (by decide) (fun u_48 H locs hw_47 hP hD hS => ?_)
              clear hPc hDc
              obtain ⟨w_49, w_50, w_51⟩ := u_48
              try dsimp only at hw_47
              have hP : va_P D vwCl [(th, .inr (6, G6 ta tsize trule twords w_49 w_51 tat_0 w_50)), ((ta 0), .inl (E 0, 120, .inl tf0))] H := hP
              have hD := toW hP hD rfl
              obtain ⟨hw_47_0, hw_47_1⟩ := hw_47
              refine lv_goto (tgt := 151) hx hb dX6_goOn_84 (by decide) ?_
              have hP9 := hP.sub (ws' := [(th, .inr (6, G6 ta tsize trule twords w_49 w_51 tat_0 w_50)), ((ta 0), .inl (E 0, 120, .inl tf0))]) [0, 1] rfl
              have hD9 := hD.sub (ws' := [(th, .inr (6, G6 ta tsize trule twords w_49 w_51 tat_0 w_50)), ((ta 0), .inl (E 0, 120, .inl tf0))]) [0, 1] (by decide) rfl
              exact W.vret hx hb hr (fun t ht hW => ⟨⟨(w_49, w_50, w_51, tat_0), rfl, ⟨(by (try dsimp only); omega), (by (try dsimp only); have c0 := i_clamp0 (x := tat) (by omega); have c1 := i_clamp0 (x := tsize) (by omega); have c2 := i_clamp0 (x := tat_0) (by omega); exact TKC_l (by omega) hts9 (by omega) (by omega) (by omega) (hw_47_1).1 (hw_47_1).2.1 (hw_47_1).2.2)⟩, by rw [ht]; exact hP9, hD9⟩, hS.F ht⟩) hS.2.2 dX6_goOn_151
            ·
              refine W_top (y := .int 0) (by rw [hr_42]) ?_
              refine lv_if_eq (tgt := 87) hx hb dX6_goOn_77 (by decide) (fun c_52 => ?_) (fun c_52 => absurd (by decide) c_52)
              refine lv_aload_n hx hb dX6_goOn_87 rfl (lv_at hl 0 rfl) ?_
              refine va_get (D := D) (ci := 6) (v := .ref (ta 0)) (C := RX6) (T := TX6) (N := 8) hx hb htb iX6 hown hK.1 hP 0 rfl rfl 0 (by decide) (htb _ k_157) (fun _ h9 => h9) rfl dX6_goOn_88 ?_
              refine lv_aload_n hx hb dX6_goOn_91 rfl (lv_at hl 0 rfl) ?_
              refine va_get (D := D) (ci := 6) (v := .int tat_0) (C := RX6) (T := TX6) (N := 8) hx hb htb iX6 hown hK.1 hP 0 rfl rfl 4 (by decide) (htb _ k_162) (fun _ h9 => h9) rfl dX6_goOn_92 ?_
              refine va_iald hx hb hK.1 hP 1 0 rfl rfl (g_in rfl (by omega) (by omega)) dX6_goOn_95 ?_
              refine lv_topi (fun z_53 ez_53 => ?_)
              have kz_53 := congrArg Int32.toInt ez_53
              refine callRS (rest := []) (As := [.int z_53]) hx hb hml hown htb hK (g_X6_isDigit l D E z_53 ) ok_X6_isDigit k_658 k_659 k_5 k_660 ⟨(Nat.le_of_ble_eq_true rfl), (Nat.le_of_ble_eq_true rfl)⟩ ⟨(Nat.le_of_ble_eq_true rfl), (Nat.le_of_ble_eq_true rfl)⟩ hl.1 (Nat.le_of_ble_eq_true rfl) rfl rfl dX6_goOn_96 (hP.sub (ws' := ([] : va_W)) [] rfl) (fun r_54 hw_55 => ?_)
              rcases hw_55 with ⟨hr_54, hw_55⟩ | ⟨hr_54, hw_55⟩
              ·
                refine W_top (y := .int 1) (by rw [hr_54]) ?_
                refine lv_if_eq (tgt := 109) hx hb dX6_goOn_99 (by decide) (fun c_57 => absurd c_57 (by decide)) (fun c_57 => ?_)
                refine lv_aload_n hx hb dX6_goOn_102 rfl (lv_at hl 0 rfl) ?_
                have hPc := hP.sub (ws' := [(th, .inr (6, G6 ta tsize trule twords tat_0 tword tat_0 tvalue)), ((ta 0), .inl (E 0, 120, .inl tf0))]) [0, 1] rfl
                have hDc := hD.sub (ws' := [(th, .inr (6, G6 ta tsize trule twords tat_0 tword tat_0 tvalue)), ((ta 0), .inl (E 0, 120, .inl tf0))]) [0, 1] (by decide) rfl
                refine aft_v (runMV (rest := []) (As := []) hx hb hml hown htb hK (g_X6_takeDigits l D E th ta tsize trule twords tat_0 tword tat_0 tvalue tf0 _ (by (try dsimp only); omega) (by (try dsimp only); omega) (by (try dsimp only); omega)) ok_X6_takeDigits k_661 k_663 ks_15 k_5 k_664 ⟨(Nat.le_of_ble_eq_true rfl), (Nat.le_of_ble_eq_true rfl)⟩ ⟨(Nat.le_of_ble_eq_true rfl), (Nat.le_of_ble_eq_true rfl)⟩ hl.1 (Nat.le_of_ble_eq_true rfl) rfl rfl dX6_goOn_103 hPc hDc rfl rfl 0 rfl) hP hD hS hA [0, 1] [] (wr := ([] : va_W)) rfl rfl (by decide) (by decide) (fun u_60 H locs hw_59 hP hD hS => ?_)
                clear hPc hDc
                obtain ⟨w_61, w_62, w_63⟩ := u_60
                try dsimp only at hw_59
                have hP : va_P D vwCl [(th, .inr (6, G6 ta tsize trule twords w_61 w_63 tat_0 w_62)), ((ta 0), .inl (E 0, 120, .inl tf0))] H := hP
                have hD := toW hP hD rfl
                obtain ⟨hw_59_0, hw_59_1⟩ := hw_59
                refine lv_goto (tgt := 151) hx hb dX6_goOn_106 (by decide) ?_
                have hP9 := hP.sub (ws' := [(th, .inr (6, G6 ta tsize trule twords w_61 w_63 tat_0 w_62)), ((ta 0), .inl (E 0, 120, .inl tf0))]) [0, 1] rfl
                have hD9 := hD.sub (ws' := [(th, .inr (6, G6 ta tsize trule twords w_61 w_63 tat_0 w_62)), ((ta 0), .inl (E 0, 120, .inl tf0))]) [0, 1] (by decide) rfl
                exact W.vret hx hb hr (fun t ht hW => ⟨⟨(w_61, w_62, w_63, tat_0), rfl, ⟨(by (try dsimp only); omega), (by (try dsimp only); have c0 := i_clamp0 (x := tat) (by omega); have c1 := i_clamp0 (x := tsize) (by omega); have c2 := i_clamp0 (x := tat_0) (by omega); exact TKC_d (by omega) hts9 (by omega) (by omega) (by omega) (hw_59_1).1 (hw_59_1).2)⟩, by rw [ht]; exact hP9, hD9⟩, hS.F ht⟩) hS.2.2 dX6_goOn_151
              ·
                refine W_top (y := .int 0) (by rw [hr_54]) ?_
                refine lv_if_eq (tgt := 109) hx hb dX6_goOn_99 (by decide) (fun c_64 => ?_) (fun c_64 => absurd (by decide) c_64)
                refine lv_aload_n hx hb dX6_goOn_109 rfl (lv_at hl 0 rfl) ?_
                refine lv_aload_n hx hb dX6_goOn_110 rfl (lv_at hl 0 rfl) ?_
                refine va_get (D := D) (ci := 6) (v := .ref (ta 0)) (C := RX6) (T := TX6) (N := 8) hx hb htb iX6 hown hK.1 hP 0 rfl rfl 0 (by decide) (htb _ k_157) (fun _ h9 => h9) rfl dX6_goOn_111 ?_
                refine lv_aload_n hx hb dX6_goOn_114 rfl (lv_at hl 0 rfl) ?_
                refine va_get (D := D) (ci := 6) (v := .int tat_0) (C := RX6) (T := TX6) (N := 8) hx hb htb iX6 hown hK.1 hP 0 rfl rfl 4 (by decide) (htb _ k_162) (fun _ h9 => h9) rfl dX6_goOn_115 ?_
                refine va_iald hx hb hK.1 hP 1 0 rfl rfl (g_in rfl (by omega) (by omega)) dX6_goOn_118 ?_
                refine lv_topi (fun z_65 ez_65 => ?_)
                have kz_65 := congrArg Int32.toInt ez_65
                refine callRS (rest := [.ref th]) (As := [.int z_65]) hx hb hml hown htb hK (g_X6_isSign l D E z_65 ) ok_X6_isSign k_665 k_666 k_5 k_667 ⟨(Nat.le_of_ble_eq_true rfl), (Nat.le_of_ble_eq_true rfl)⟩ ⟨(Nat.le_of_ble_eq_true rfl), (Nat.le_of_ble_eq_true rfl)⟩ hl.1 (Nat.le_of_ble_eq_true rfl) rfl rfl dX6_goOn_119 (hP.sub (ws' := ([] : va_W)) [] rfl) (fun r_66 hw_67 => ?_)
                refine lv_if_eq (tgt := 137) hx hb dX6_goOn_122 (by decide) (fun c_69 => ?_) (fun c_69 => ?_)
                ·
                  have ic_69 : r_66.toInt = 0 := (g_eq rfl t_0).mp c_69
                  clear c_69
                  refine lv_iconst (v := 1) hx hb dX6_goOn_137 (by decide) ?_
                  refine va_put (D := D) (ci := 6) (v := .int 1) (ty := .int) (C := RX6) (T := TX6) (N := 8) hx hb htb iX6 tyX6 tyX6_ok nmX6 hown hK.1 hP hD hS 0 rfl rfl 5 (by decide) (htb _ k_163) (fun _ h9 => h9) rfl (by decide +kernel) rfl rfl (Nat.le_of_ble_eq_true rfl) dX6_goOn_138 (fun H locs hP hD hS => ?_)
                  have hP : va_P D vwCl [(th, .inr (6, G6 ta tsize trule twords tat_0 1 tat_0 tvalue)), ((ta 0), .inl (E 0, 120, .inl tf0))] H := hP
                  have hD := toW hP hD rfl
                  refine lv_aload_n hx hb dX6_goOn_141 rfl (lv_at hl 0 rfl) ?_
                  refine lv_dup hx hb dX6_goOn_142 rfl ?_
                  refine va_get (D := D) (ci := 6) (v := .int tat_0) (C := RX6) (T := TX6) (N := 8) hx hb htb iX6 hown hK.1 hP 0 rfl rfl 4 (by decide) (htb _ k_162) (fun _ h9 => h9) rfl dX6_goOn_143 ?_
                  refine lv_iconst (v := 1) hx hb dX6_goOn_146 (by decide) ?_
                  refine lv_iadd hx hb dX6_goOn_147 ?_
                  refine lv_topi (fun z_70 ez_70 => ?_)
                  have jz_70 : z_70.toInt = tat_0.toInt + 1 := by rw [ez_70]; exact g_add rfl t_1 (by omega) (by omega)
                  refine va_put (D := D) (ci := 6) (v := .int z_70) (ty := .int) (C := RX6) (T := TX6) (N := 8) hx hb htb iX6 tyX6 tyX6_ok nmX6 hown hK.1 hP hD hS 0 rfl rfl 4 (by decide) (htb _ k_162) (fun _ h9 => h9) rfl (by decide +kernel) rfl rfl (Nat.le_of_ble_eq_true rfl) dX6_goOn_148 (fun H locs hP hD hS => ?_)
                  have hP : va_P D vwCl [(th, .inr (6, G6 ta tsize trule twords z_70 1 tat_0 tvalue)), ((ta 0), .inl (E 0, 120, .inl tf0))] H := hP
                  have hD := toW hP hD rfl
                  have hP9 := hP.sub (ws' := [(th, .inr (6, G6 ta tsize trule twords z_70 1 tat_0 tvalue)), ((ta 0), .inl (E 0, 120, .inl tf0))]) [0, 1] rfl
                  have hD9 := hD.sub (ws' := [(th, .inr (6, G6 ta tsize trule twords z_70 1 tat_0 tvalue)), ((ta 0), .inl (E 0, 120, .inl tf0))]) [0, 1] (by decide) rfl
                  exact W.vret hx hb hr (fun t ht hW => ⟨⟨(z_70, tvalue, (1 : Int32), tat_0), rfl, ⟨(by have h0 := t_1; (try dsimp only); omega), (by (try dsimp only); have hl1 := t_1; have c0 := i_clamp0 (x := tat) (by omega); have c1 := i_clamp0 (x := tsize) (by omega); have c2 := i_clamp0 (x := tat_0) (by omega); exact TKC_s (by omega) hts9 (by omega) (by omega) (by omega) (by omega) (by omega) (by rw [← ez_65]; have h9 := hw_67; omega))⟩, by rw [ht]; exact hP9, hD9⟩, hS.F ht⟩) hS.2.2 dX6_goOn_151
                ·
                  have ic_69 : r_66.toInt ≠ 0 := mt (g_eq rfl t_0).mpr c_69
                  clear c_69
                  refine lv_aload_n hx hb dX6_goOn_125 rfl (lv_at hl 0 rfl) ?_
                  refine va_get (D := D) (ci := 6) (v := .ref (ta 0)) (C := RX6) (T := TX6) (N := 8) hx hb htb iX6 hown hK.1 hP 0 rfl rfl 0 (by decide) (htb _ k_157) (fun _ h9 => h9) rfl dX6_goOn_126 ?_
                  refine lv_aload_n hx hb dX6_goOn_129 rfl (lv_at hl 0 rfl) ?_
                  refine va_get (D := D) (ci := 6) (v := .int tat_0) (C := RX6) (T := TX6) (N := 8) hx hb htb iX6 hown hK.1 hP 0 rfl rfl 4 (by decide) (htb _ k_162) (fun _ h9 => h9) rfl dX6_goOn_130 ?_
                  refine va_iald hx hb hK.1 hP 1 0 rfl rfl (g_in rfl (by omega) (by omega)) dX6_goOn_133 ?_
                  refine lv_topi (fun z_71 ez_71 => ?_)
                  have kz_71 := congrArg Int32.toInt ez_71
                  refine lv_goto (tgt := 138) hx hb dX6_goOn_134 (by decide) ?_
                  refine va_put (D := D) (ci := 6) (v := .int z_71) (ty := .int) (C := RX6) (T := TX6) (N := 8) hx hb htb iX6 tyX6 tyX6_ok nmX6 hown hK.1 hP hD hS 0 rfl rfl 5 (by decide) (htb _ k_163) (fun _ h9 => h9) rfl (by decide +kernel) rfl rfl (Nat.le_of_ble_eq_true rfl) dX6_goOn_138 (fun H locs hP hD hS => ?_)
                  have hP : va_P D vwCl [(th, .inr (6, G6 ta tsize trule twords tat_0 z_71 tat_0 tvalue)), ((ta 0), .inl (E 0, 120, .inl tf0))] H := hP
                  have hD := toW hP hD rfl
                  refine lv_aload_n hx hb dX6_goOn_141 rfl (lv_at hl 0 rfl) ?_
                  refine lv_dup hx hb dX6_goOn_142 rfl ?_
                  refine va_get (D := D) (ci := 6) (v := .int tat_0) (C := RX6) (T := TX6) (N := 8) hx hb htb iX6 hown hK.1 hP 0 rfl rfl 4 (by decide) (htb _ k_162) (fun _ h9 => h9) rfl dX6_goOn_143 ?_
                  refine lv_iconst (v := 1) hx hb dX6_goOn_146 (by decide) ?_
                  refine lv_iadd hx hb dX6_goOn_147 ?_
                  refine lv_topi (fun z_72 ez_72 => ?_)
                  have jz_72 : z_72.toInt = tat_0.toInt + 1 := by rw [ez_72]; exact g_add rfl t_1 (by omega) (by omega)
                  refine va_put (D := D) (ci := 6) (v := .int z_72) (ty := .int) (C := RX6) (T := TX6) (N := 8) hx hb htb iX6 tyX6 tyX6_ok nmX6 hown hK.1 hP hD hS 0 rfl rfl 4 (by decide) (htb _ k_162) (fun _ h9 => h9) rfl (by decide +kernel) rfl rfl (Nat.le_of_ble_eq_true rfl) dX6_goOn_148 (fun H locs hP hD hS => ?_)
                  have hP : va_P D vwCl [(th, .inr (6, G6 ta tsize trule twords z_72 z_71 tat_0 tvalue)), ((ta 0), .inl (E 0, 120, .inl tf0))] H := hP
                  have hD := toW hP hD rfl
                  have hP9 := hP.sub (ws' := [(th, .inr (6, G6 ta tsize trule twords z_72 z_71 tat_0 tvalue)), ((ta 0), .inl (E 0, 120, .inl tf0))]) [0, 1] rfl
                  have hD9 := hD.sub (ws' := [(th, .inr (6, G6 ta tsize trule twords z_72 z_71 tat_0 tvalue)), ((ta 0), .inl (E 0, 120, .inl tf0))]) [0, 1] (by decide) rfl
                  exact W.vret hx hb hr (fun t ht hW => ⟨⟨(z_72, tvalue, z_71, tat_0), rfl, ⟨(by (try dsimp only); omega), (by (try dsimp only); have hl1 := t_1; have c0 := i_clamp0 (x := tat) (by omega); have c1 := i_clamp0 (x := tsize) (by omega); have c2 := i_clamp0 (x := tat_0) (by omega); exact TKC_s (by omega) hts9 (by omega) (by omega) (by omega) (by omega) (by omega) (by rw [← ez_65]; have h9 := hw_67; omega))⟩, by rw [ht]; exact hP9, hD9⟩, hS.F ht⟩) hS.2.2 dX6_goOn_151
          ·
            have ic_40 : tsize.toInt ≤ tat_0.toInt := by first | exact (g_le rfl rfl).mp c_40 | (have h := mt (g_lt rfl rfl).mpr c_40; omega)
            clear c_40
            refine lv_aload_n hx hb dX6_goOn_57 rfl (lv_at hl 0 rfl) ?_
            refine lv_iconst (v := 0) hx hb dX6_goOn_58 (by decide) ?_
            refine va_put (D := D) (ci := 6) (v := .int 0) (ty := .int) (C := RX6) (T := TX6) (N := 8) hx hb htb iX6 tyX6 tyX6_ok nmX6 hown hK.1 hP hD hS 0 rfl rfl 5 (by decide) (htb _ k_163) (fun _ h9 => h9) rfl (by decide +kernel) rfl rfl (Nat.le_of_ble_eq_true rfl) dX6_goOn_59 (fun H locs hP hD hS => ?_)
            have hP : va_P D vwCl [(th, .inr (6, G6 ta tsize trule twords tat_0 0 tat_0 tvalue)), ((ta 0), .inl (E 0, 120, .inl tf0))] H := hP
            have hD := toW hP hD rfl
            refine lv_goto (tgt := 151) hx hb dX6_goOn_62 (by decide) ?_
            have hP9 := hP.sub (ws' := [(th, .inr (6, G6 ta tsize trule twords tat_0 0 tat_0 tvalue)), ((ta 0), .inl (E 0, 120, .inl tf0))]) [0, 1] rfl
            have hD9 := hD.sub (ws' := [(th, .inr (6, G6 ta tsize trule twords tat_0 0 tat_0 tvalue)), ((ta 0), .inl (E 0, 120, .inl tf0))]) [0, 1] (by decide) rfl
            exact W.vret hx hb hr (fun t ht hW => ⟨⟨(tat_0, tvalue, (0 : Int32), tat_0), rfl, ⟨(by have h0 := t_0; (try dsimp only); omega), (by (try dsimp only); have c0 := i_clamp0 (x := tat) (by omega); have c1 := i_clamp0 (x := tsize) (by omega); have c2 := i_clamp0 (x := tat_0) (by omega); exact TKC_end (by omega) hts9 (by omega) t_0)⟩, by rw [ht]; exact hP9, hD9⟩, hS.F ht⟩) hS.2.2 dX6_goOn_151
        ·
          have ic_39 : z_38.toInt = 32 := (g_eq rfl t_32).mp c_39
          clear c_39
          refine lv_aload_n hx hb dX6_goOn_25 rfl (lv_at hl 0 rfl) ?_
          refine lv_dup hx hb dX6_goOn_26 rfl ?_
          refine va_get (D := D) (ci := 6) (v := .int tat_0) (C := RX6) (T := TX6) (N := 8) hx hb htb iX6 hown hK.1 hP 0 rfl rfl 4 (by decide) (htb _ k_162) (fun _ h9 => h9) rfl dX6_goOn_27 ?_
          refine lv_iconst (v := 1) hx hb dX6_goOn_30 (by decide) ?_
          refine lv_iadd hx hb dX6_goOn_31 ?_
          refine lv_topi (fun z_73 ez_73 => ?_)
          have jz_73 : z_73.toInt = tat_0.toInt + 1 := by rw [ez_73]; exact g_add rfl t_1 (by omega) (by omega)
          refine va_put (D := D) (ci := 6) (v := .int z_73) (ty := .int) (C := RX6) (T := TX6) (N := 8) hx hb htb iX6 tyX6 tyX6_ok nmX6 hown hK.1 hP hD hS 0 rfl rfl 4 (by decide) (htb _ k_162) (fun _ h9 => h9) rfl (by decide +kernel) rfl rfl (Nat.le_of_ble_eq_true rfl) dX6_goOn_32 (fun H locs hP hD hS => ?_)
          have hP : va_P D vwCl [(th, .inr (6, G6 ta tsize trule twords z_73 tword twordAt tvalue)), ((ta 0), .inl (E 0, 120, .inl tf0))] H := hP
          have hD := toW hP hD rfl
          refine lv_goto (tgt := 0) hx hb dX6_goOn_35 (by decide) ?_
          exact ih_2 z_73 _ _ _ (by (try dsimp only); omega) (by (try dsimp only); omega) (by rw [clampS (by omega) jz_73, ← skp_yes (lo := 32) (hi := 32) (f := tf0) (n := (tsize).toNatClampNeg) (a := (tat_0).toNatClampNeg) (by have c0 := i_clamp0 (x := tat_0) (by omega); have c1 := i_clamp0 (x := tsize) (by omega); omega) (by omega)]; exact v1_0) hP hD hS (lv_sub hl [0] rfl)
  exact loop_1 121 tat _ _ _ (by (try dsimp only); omega) (by (try dsimp only); omega) rfl hP hD hS (lv_sub hl [0] rfl)
