section
set_option maxHeartbeats 4000000 in
set_option maxRecDepth 100000 in
theorem U_X8_order (l : Launch) (D : va_G) (E : Nat → Nat) (q : Nat) (p0 : Int32) (p1 : Int32) (p2 : Int32) (sz : Nat) (z0 : XS) (hX : XI z0) : Met l yX8_order (wl yX8_order cX8_order 8 (some .int)) (RM 5 0 0) (mu_P D E [.ref q, .int p0, .int p1, .int p2] (XW E q z0) sz) (va_Qi (fun (r : Int32) (s' : XS) => XI s' ∧ RX_X8_order p0 p1 p2 r z0 s') (mu_B D (va_A (XW E q z0) sz) (XW E q)) (va_A (XW E q z0) sz)) 0 0 (va_A (XW E q z0) sz) := by
  refine Met.ofW (cc := cX8_order) (maxL := 8) (ret := (some .int)) (by decide) rfl ?_
  intro p e s m args below meth c s₁ B hml hv
  obtain ⟨rfl, hsz, hP, hK, hD0⟩ := hv
  have hx := B.exec; have hb := B.bytes; have hr := B.returns
  have hts := atoms_spec (ws := wl yX8_order cX8_order 8 (some .int)) B.pre
  have htb : ∀ w ∈ tb, w.before _ s = true := fun w h => hts w (List.mem_cons_of_mem _ h)
  have hown : s.vm.findClass RX8 = some m.cls := findClass_of_methodNamed B.named
  have hlocks := B.notSynchronized
  subst hsz
  have hD := hD0.self (sz := s.heap.size)
  generalize hAe : va_A (XW E q z0) s.heap.size = A at hD ⊢
  have hA : ∀ q : Nat, s.heap.size ≤ q → A q := fun q h => by rw [← hAe]; exact Or.inr h
  have hS : va_S A s.heap s.heap [] := va_S.rf
  have hP : va_P D vwCl (XW E q z0) s.heap := hP
  have hl := lv_entry ([.ref q, .int p0, .int p1, .int p2]) (n := 8) (Nat.le_of_ble_eq_true rfl)
  rw [lg_entry_eq]
  generalize (lg_sl ([.ref q, .int p0, .int p1, .int p2]) ++ List.replicate (8 - (lg_sl ([.ref q, .int p0, .int p1, .int p2])).length) Slot.unset).toArray = ls at hl ⊢
  have hl : lv_has ls 8 [(0, .ref q), (1, .int p0), (2, .int p1), (3, .int p2)] := hl
  have lo_p0 := i_lo p0; have hi_p0 := i_hi p0
  have lo_p1 := i_lo p1; have hi_p1 := i_hi p1
  have lo_p2 := i_lo p2; have hi_p2 := i_hi p2
  have hI := hX; have hT : TFX z0 z0 := TFX.rf; have hQ : KPX z0 z0 := KPX.rf; have htd := hX.1
  refine lv_aload_n hx hb dX8_order_0 rfl (lv_at hl 0 rfl) ?_
  refine lv_iload_n hx hb dX8_order_1 rfl (lv_at hl 1 rfl) ?_
  refine lv_iload_n hx hb dX8_order_2 rfl (lv_at hl 2 rfl) ?_
  refine lv_iload_n hx hb dX8_order_3 rfl (lv_at hl 3 rfl) ?_
  refine aftU_i (runMG (rest := []) (As := [.int p0, .int p1, .int p2]) hx hb hml hown htb (U_X8_refusalOfStretch l D E q p0 p1 p2 _ z0 hI ) ok_X8_refusalOfStretch k_486 k_488 ks_5 k_1 k_489 ⟨(Nat.le_of_ble_eq_true rfl), (Nat.le_of_ble_eq_true rfl)⟩ ⟨(Nat.le_of_ble_eq_true rfl), (Nat.le_of_ble_eq_true rfl)⟩ hl.1 (Nat.le_of_ble_eq_true rfl) rfl rfl dX8_order_4 (pmU nil_r hP hD hK (XW_c hP) rfl rfl 0 rfl)) nil_r hP hD hS hA (fun r_1 zs2 H locs hw_3 hP hD hS => ?_)
  have hP := nilP hP; have hD := nilD hD
  obtain ⟨hI, hw_3_0⟩ := hw_3
  have hRS : r_1.toInt ≠ 0 ∨ (0 ≤ p1.toInt ∧ p2.toInt ≤ 399 ∧ p1.toInt < p2.toInt ∧ p2.toInt - p1.toInt ≤ 60) := by rcases hw_3_0 with ⟨_, hp9, _⟩ | ⟨_, hp9, _⟩ <;> omega
  have hQ := hQ.tr (KP_X8_refusalOfStretch hw_3_0)
  have hT := TFX.of hQ
  refine lv_istore (lv' := [(4, .int r_1), (0, .ref q), (1, .int p0), (2, .int p1), (3, .int p2)]) hx hb dX8_order_7 hl (by decide) rfl (fun ls hl => ?_)
  refine lv_iload hx hb dX8_order_9 (lv_at hl 0 rfl) ?_
  refine lv_if_eq (tgt := 17) hx hb dX8_order_11 (by decide) (fun c_4 => ?_) (fun c_4 => ?_)
  ·
    have ic_4 : r_1.toInt = 0 := (g_eq rfl t_0).mp c_4
    clear c_4
    refine lv_aload_n hx hb dX8_order_17 rfl (lv_at hl 1 rfl) ?_
    refine lv_iload_n hx hb dX8_order_18 rfl (lv_at hl 2 rfl) ?_
    refine lv_iload_n hx hb dX8_order_19 rfl (lv_at hl 3 rfl) ?_
    refine lv_iload_n hx hb dX8_order_20 rfl (lv_at hl 4 rfl) ?_
    refine aftU_i (runMG (rest := []) (As := [.int p0, .int p1, .int p2]) hx hb hml hown htb (U_X8_hasTrial l D E q p0 p1 p2 _ zs2 hI (by omega)) ok_X8_hasTrial k_712 k_714 ks_24 k_1 k_715 ⟨(Nat.le_of_ble_eq_true rfl), (Nat.le_of_ble_eq_true rfl)⟩ ⟨(Nat.le_of_ble_eq_true rfl), (Nat.le_of_ble_eq_true rfl)⟩ hl.1 (Nat.le_of_ble_eq_true rfl) rfl rfl dX8_order_21 (pmU nil_r hP hD hK (XW_c hP) rfl rfl 0 rfl)) nil_r hP hD hS hA (fun r_5 zs6 H locs hw_7 hP hD hS => ?_)
    have hP := nilP hP; have hD := nilD hD
    obtain ⟨hI, hw_7_0⟩ := hw_7
    have hQ := hQ.tr (KP_X8_hasTrial hw_7_0)
    have hT := TFX.of hQ
    refine lv_if_ne (tgt := 30) hx hb dX8_order_24 (by decide) (fun c_8 => ?_) (fun c_8 => ?_)
    ·
      have ic_8 : r_5.toInt ≠ 0 := mt (g_eq rfl t_0).mpr c_8
      clear c_8
      refine lv_aload_n hx hb dX8_order_30 rfl (lv_at hl 1 rfl) ?_
      refine lv_iload_n hx hb dX8_order_31 rfl (lv_at hl 2 rfl) ?_
      refine lv_iload_n hx hb dX8_order_32 rfl (lv_at hl 4 rfl) ?_
      refine lv_iload_n hx hb dX8_order_33 rfl (lv_at hl 3 rfl) ?_
      refine lv_isub hx hb dX8_order_34 ?_
      refine lv_topi (fun z_9 ez_9 => ?_)
      refine aftU_i (runMG (rest := []) (As := [.int p0, .int z_9]) hx hb hml hown htb (U_X8_workOutTrial l D E q p0 z_9 _ zs6 hI ) ok_X8_workOutTrial k_716 k_718 ks_25 k_1 k_719 ⟨(Nat.le_of_ble_eq_true rfl), (Nat.le_of_ble_eq_true rfl)⟩ ⟨(Nat.le_of_ble_eq_true rfl), (Nat.le_of_ble_eq_true rfl)⟩ hl.1 (Nat.le_of_ble_eq_true rfl) rfl rfl dX8_order_35 (pmU nil_r hP hD hK (XW_c hP) rfl rfl 0 rfl)) nil_r hP hD hS hA (fun r_10 zs11 H locs hw_12 hP hD hS => ?_)
      have hP := nilP hP; have hD := nilD hD
      obtain ⟨hI, hw_12_0⟩ := hw_12
      have hQ := hQ.tr (KP_X8_workOutTrial hw_12_0)
      have hT := TFX.of hQ
      refine lv_istore (lv' := [(5, .int r_10), (4, .int r_1), (0, .ref q), (1, .int p0), (2, .int p1), (3, .int p2)]) hx hb dX8_order_38 hl (by decide) rfl (fun ls hl => ?_)
      refine lv_iconst (v := 0) hx hb dX8_order_40 (by decide) ?_
      refine lv_istore (lv' := [(6, .int 0), (5, .int r_10), (4, .int r_1), (0, .ref q), (1, .int p0), (2, .int p1), (3, .int p2)]) hx hb dX8_order_41 hl (by decide) rfl (fun ls hl => ?_)
      refine lv_iconst (v := 0) hx hb dX8_order_43 (by decide) ?_
      refine lv_istore (lv' := [(7, .int 0), (6, .int 0), (5, .int r_10), (4, .int r_1), (0, .ref q), (1, .int p0), (2, .int p1), (3, .int p2)]) hx hb dX8_order_44 hl (by decide) rfl (fun ls hl => ?_)
      have loop : ∀ (N : Nat) (L6 L7 : Int32) (zl : XS) (H : Heap) (locs : List Loc) (ls : Array Slot), 16 - L7.toInt < (N : Int) → (0 ≤ L7.toInt ∧ L7.toInt ≤ 16) → XI zl → KPX z0 zl → va_P D vwCl (XW E q zl) H → va_D A (XW E q zl) → va_S A s.heap H locs → lv_has ls 8 [(7, .int L7), (6, .int L6), (5, .int r_10), (3, .int p2), (2, .int p1), (0, .ref q)] → W p l e (headSpec (wl yX8_order cX8_order 8 (some .int)) (RM 5 0 0)).room s m [Value.ref q, .int p0, .int p1, .int p2].toArray below meth c H locs 0 0 (MQ below (va_Qi (fun (r : Int32) (s' : XS) => XI s' ∧ RX_X8_order p0 p1 p2 r z0 s') (mu_B D A (XW E q)) A) [Value.ref q, .int p0, .int p1, .int p2].toArray s 0 0 A) (F0 m 46 ls []) := by
        intro N
        induction N with
        | zero => intro L6 L7 zl H locs ls hm hv; exfalso; omega
        | succ N ih =>
          intro L6 L7 zl H locs ls hm hv hI hQ hP hD hS hl
          have hT := TFX.of hQ
          refine lv_iload hx hb dX8_order_46 (lv_at hl 0 rfl) ?_
          refine lv_bipush (v := 16) hx hb dX8_order_48 (by decide) ?_
          refine lv_icmp_ge (tgt := 87) hx hb dX8_order_50 (by decide) (fun c_13 => ?_) (fun c_13 => ?_)
          ·
            have ic_13 : 16 ≤ L7.toInt := by first | exact (g_le t_16 rfl).mp c_13 | (have h := mt (g_lt rfl t_16).mpr c_13; omega)
            clear c_13
            refine lv_iconst (v := 1) hx hb dX8_order_87 (by decide) ?_
            refine lv_iload hx hb dX8_order_88 (lv_at hl 1 rfl) ?_
            refine lv_iadd hx hb dX8_order_90 ?_
            refine lv_topi (fun z_14 ez_14 => ?_)
            exact W.iret (v := z_14) hx hb hr (fun t ht hW => ⟨⟨z_14, zl, rfl, ⟨hI, hQ⟩, by rw [ht]; exact hP, hD⟩, hS.F ht⟩) hS.2.2 dX8_order_91
          ·
            have ic_13 : L7.toInt < 16 := by first | exact (g_lt rfl t_16).mp c_13 | (have h := mt (g_le t_16 rfl).mpr c_13; omega)
            clear c_13
            refine lv_aload_n hx hb dX8_order_53 rfl (lv_at hl 5 rfl) ?_
            refine lv_iload hx hb dX8_order_54 (lv_at hl 0 rfl) ?_
            refine lv_iload_n hx hb dX8_order_56 rfl (lv_at hl 4 rfl) ?_
            refine lv_iload_n hx hb dX8_order_57 rfl (lv_at hl 3 rfl) ?_
            refine aftU_i (runMG (rest := []) (As := [.int L7, .int p1, .int p2]) hx hb hml hown htb (U_X8_hasTrial l D E q L7 p1 p2 _ zl hI (by omega)) ok_X8_hasTrial k_712 k_714 ks_24 k_1 k_715 ⟨(Nat.le_of_ble_eq_true rfl), (Nat.le_of_ble_eq_true rfl)⟩ ⟨(Nat.le_of_ble_eq_true rfl), (Nat.le_of_ble_eq_true rfl)⟩ hl.1 (Nat.le_of_ble_eq_true rfl) rfl rfl dX8_order_58 (pmU nil_r hP hD hK (XW_c hP) rfl rfl 0 rfl)) nil_r hP hD hS hA (fun r_15 zs16 H locs hw_17 hP hD hS => ?_)
            have hP := nilP hP; have hD := nilD hD
            obtain ⟨hI, hw_17_0⟩ := hw_17
            have hQ := hQ.tr (KP_X8_hasTrial hw_17_0)
            have hT := TFX.of hQ
            refine lv_if_eq (tgt := 81) hx hb dX8_order_61 (by decide) (fun c_18 => ?_) (fun c_18 => ?_)
            ·
              have ic_18 : r_15.toInt = 0 := (g_eq rfl t_0).mp c_18
              clear c_18
              obtain ⟨z_19, ez_19⟩ : ∃ y : Int32, y = L7 + 1 := ⟨_, rfl⟩
              have jz_19 : z_19.toInt = L7.toInt + 1 := by rw [ez_19]; exact g_add rfl t_1 (by omega) (by omega)
              refine lv_iinc (v := z_19) (lv' := [(7, .int z_19), (6, .int L6), (5, .int r_10), (3, .int p2), (2, .int p1), (0, .ref q)]) hx hb dX8_order_81 hl (k := 0) rfl (by rw [ez_19]; rfl) (by decide) rfl (fun ls hl => ?_)
              refine lv_goto (tgt := 46) hx hb dX8_order_84 (by decide) ?_
              exact ih L6 z_19 zs16 _ _ _ (by omega) (by omega) hI hQ hP hD hS (lv_sub hl [0, 1, 2, 3, 4, 5] rfl)
            ·
              have ic_18 : r_15.toInt ≠ 0 := mt (g_eq rfl t_0).mpr c_18
              clear c_18
              refine lv_aload_n hx hb dX8_order_64 rfl (lv_at hl 5 rfl) ?_
              refine lv_iload hx hb dX8_order_65 (lv_at hl 0 rfl) ?_
              refine lv_iload_n hx hb dX8_order_67 rfl (lv_at hl 3 rfl) ?_
              refine lv_iload_n hx hb dX8_order_68 rfl (lv_at hl 4 rfl) ?_
              refine lv_isub hx hb dX8_order_69 ?_
              refine lv_topi (fun z_20 ez_20 => ?_)
              refine aftU_i (runMG (rest := []) (As := [.int L7, .int z_20]) hx hb hml hown htb (U_X8_workOutTrial l D E q L7 z_20 _ zs16 hI ) ok_X8_workOutTrial k_716 k_718 ks_25 k_1 k_719 ⟨(Nat.le_of_ble_eq_true rfl), (Nat.le_of_ble_eq_true rfl)⟩ ⟨(Nat.le_of_ble_eq_true rfl), (Nat.le_of_ble_eq_true rfl)⟩ hl.1 (Nat.le_of_ble_eq_true rfl) rfl rfl dX8_order_70 (pmU nil_r hP hD hK (XW_c hP) rfl rfl 0 rfl)) nil_r hP hD hS hA (fun r_21 zs22 H locs hw_23 hP hD hS => ?_)
              have hP := nilP hP; have hD := nilD hD
              obtain ⟨hI, hw_23_0⟩ := hw_23
              have hQ := hQ.tr (KP_X8_workOutTrial hw_23_0)
              have hT := TFX.of hQ
              refine lv_iload hx hb dX8_order_73 (lv_at hl 2 rfl) ?_
              refine lv_icmp_ge (tgt := 81) hx hb dX8_order_75 (by decide) (fun c_24 => ?_) (fun c_24 => ?_)
              ·
                have ic_24 : r_10.toInt ≤ r_21.toInt := by first | exact (g_le rfl rfl).mp c_24 | (have h := mt (g_lt rfl rfl).mpr c_24; omega)
                clear c_24
                obtain ⟨z_25, ez_25⟩ : ∃ y : Int32, y = L7 + 1 := ⟨_, rfl⟩
                have jz_25 : z_25.toInt = L7.toInt + 1 := by rw [ez_25]; exact g_add rfl t_1 (by omega) (by omega)
                refine lv_iinc (v := z_25) (lv' := [(7, .int z_25), (6, .int L6), (5, .int r_10), (3, .int p2), (2, .int p1), (0, .ref q)]) hx hb dX8_order_81 hl (k := 0) rfl (by rw [ez_25]; rfl) (by decide) rfl (fun ls hl => ?_)
                refine lv_goto (tgt := 46) hx hb dX8_order_84 (by decide) ?_
                exact ih L6 z_25 zs22 _ _ _ (by omega) (by omega) hI hQ hP hD hS (lv_sub hl [0, 1, 2, 3, 4, 5] rfl)
              ·
                have ic_24 : r_21.toInt < r_10.toInt := by first | exact (g_lt rfl rfl).mp c_24 | (have h := mt (g_le rfl rfl).mpr c_24; omega)
                clear c_24
                obtain ⟨z_26, ez_26⟩ : ∃ y : Int32, y = L6 + 1 := ⟨_, rfl⟩
                refine lv_iinc (v := z_26) (lv' := [(6, .int z_26), (7, .int L7), (5, .int r_10), (3, .int p2), (2, .int p1), (0, .ref q)]) hx hb dX8_order_78 hl (k := 1) rfl (by rw [ez_26]; rfl) (by decide) rfl (fun ls hl => ?_)
                obtain ⟨z_27, ez_27⟩ : ∃ y : Int32, y = L7 + 1 := ⟨_, rfl⟩
                have jz_27 : z_27.toInt = L7.toInt + 1 := by rw [ez_27]; exact g_add rfl t_1 (by omega) (by omega)
                refine lv_iinc (v := z_27) (lv' := [(7, .int z_27), (6, .int z_26), (5, .int r_10), (3, .int p2), (2, .int p1), (0, .ref q)]) hx hb dX8_order_81 hl (k := 1) rfl (by rw [ez_27]; rfl) (by decide) rfl (fun ls hl => ?_)
                refine lv_goto (tgt := 46) hx hb dX8_order_84 (by decide) ?_
                exact ih z_26 z_27 zs22 _ _ _ (by omega) (by omega) hI hQ hP hD hS (lv_sub hl [0, 1, 2, 3, 4, 5] rfl)
      have h00 := t_0
      exact loop 17 0 0 zs11 _ _ _ (by omega) (by omega) hI hQ hP hD hS (lv_sub hl [0, 1, 2, 7, 6, 4] rfl)
    ·
      have ic_8 : r_5.toInt = 0 := (g_eq rfl t_0).mp c_8
      clear c_8
      refine lv_bipush (v := (-4)) hx hb dX8_order_27 (by decide) ?_
      exact W.iret (v := (-4)) hx hb hr (fun t ht hW => ⟨⟨(-4), zs6, rfl, ⟨hI, hQ⟩, by rw [ht]; exact hP, hD⟩, hS.F ht⟩) hS.2.2 dX8_order_29
  ·
    have ic_4 : r_1.toInt ≠ 0 := mt (g_eq rfl t_0).mpr c_4
    clear c_4
    refine lv_iload hx hb dX8_order_14 (lv_at hl 0 rfl) ?_
    exact W.iret (v := r_1) hx hb hr (fun t ht hW => ⟨⟨r_1, zs2, rfl, ⟨hI, hQ⟩, by rw [ht]; exact hP, hD⟩, hS.F ht⟩) hS.2.2 dX8_order_16
set_option maxHeartbeats 4000000 in
set_option maxRecDepth 100000 in
theorem U_X8_sail (l : Launch) (D : va_G) (E : Nat → Nat) (q : Nat) (p0 : Int32) (p1 : Int32) (p2 : Int32) (p3 : Int32) (sz : Nat) (z0 : XS) (hX : XI z0) : Met l yX8_sail (wl yX8_sail cX8_sail 7 (some .int)) (RM 6 0 0) (mu_P D E [.ref q, .int p0, .int p1, .int p2, .int p3] (XW E q z0) sz) (va_Qi (fun (r : Int32) (s' : XS) => XI s' ∧ RX_X8_sail p0 p1 p2 p3 r z0 s') (mu_B D (va_A (XW E q z0) sz) (XW E q)) (va_A (XW E q z0) sz)) 0 0 (va_A (XW E q z0) sz) := by
  refine Met.ofW (cc := cX8_sail) (maxL := 7) (ret := (some .int)) (by decide) rfl ?_
  intro p e s m args below meth c s₁ B hml hv
  obtain ⟨rfl, hsz, hP, hK, hD0⟩ := hv
  have hx := B.exec; have hb := B.bytes; have hr := B.returns
  have hts := atoms_spec (ws := wl yX8_sail cX8_sail 7 (some .int)) B.pre
  have htb : ∀ w ∈ tb, w.before _ s = true := fun w h => hts w (List.mem_cons_of_mem _ h)
  have hown : s.vm.findClass RX8 = some m.cls := findClass_of_methodNamed B.named
  have hlocks := B.notSynchronized
  subst hsz
  have hD := hD0.self (sz := s.heap.size)
  generalize hAe : va_A (XW E q z0) s.heap.size = A at hD ⊢
  have hA : ∀ q : Nat, s.heap.size ≤ q → A q := fun q h => by rw [← hAe]; exact Or.inr h
  have hS : va_S A s.heap s.heap [] := va_S.rf
  have hP : va_P D vwCl (XW E q z0) s.heap := hP
  have hl := lv_entry ([.ref q, .int p0, .int p1, .int p2, .int p3]) (n := 7) (Nat.le_of_ble_eq_true rfl)
  rw [lg_entry_eq]
  generalize (lg_sl ([.ref q, .int p0, .int p1, .int p2, .int p3]) ++ List.replicate (7 - (lg_sl ([.ref q, .int p0, .int p1, .int p2, .int p3])).length) Slot.unset).toArray = ls at hl ⊢
  have hl : lv_has ls 7 [(0, .ref q), (1, .int p0), (2, .int p1), (3, .int p2), (4, .int p3)] := hl
  have lo_p0 := i_lo p0; have hi_p0 := i_hi p0
  have lo_p1 := i_lo p1; have hi_p1 := i_hi p1
  have lo_p2 := i_lo p2; have hi_p2 := i_hi p2
  have lo_p3 := i_lo p3; have hi_p3 := i_hi p3
  have hI := hX; have hT : TFX z0 z0 := TFX.rf; have hQ : KPX z0 z0 := KPX.rf; have htd := hX.1
  refine lv_iload_n hx hb dX8_sail_0 rfl (lv_at hl 1 rfl) ?_
  refine callRS (rest := []) (As := [.int p0]) hx hb hml hown htb hK (g_X8_isShip l D E p0 ) ok_X8_isShip k_773 k_774 k_1 k_775 ⟨(Nat.le_of_ble_eq_true rfl), (Nat.le_of_ble_eq_true rfl)⟩ ⟨(Nat.le_of_ble_eq_true rfl), (Nat.le_of_ble_eq_true rfl)⟩ hl.1 (Nat.le_of_ble_eq_true rfl) rfl rfl dX8_sail_1 (hP.sub (ws' := ([] : va_W)) [] rfl) (fun r_1 hw_2 => ?_)
  rcases hw_2 with ⟨hr_1, hw_2⟩ | ⟨hr_1, hw_2⟩
  ·
    refine W_top (y := .int 1) (by rw [hr_1]) ?_
    refine lv_if_eq (tgt := 46) hx hb dX8_sail_4 (by decide) (fun c_4 => absurd c_4 (by decide)) (fun c_4 => ?_)
    refine lv_iload_n hx hb dX8_sail_7 rfl (lv_at hl 2 rfl) ?_
    refine callRS (rest := []) (As := [.int p1]) hx hb hml hown htb hK (g_X8_isPlace l D E p1 ) ok_X8_isPlace k_333 k_334 k_1 k_335 ⟨(Nat.le_of_ble_eq_true rfl), (Nat.le_of_ble_eq_true rfl)⟩ ⟨(Nat.le_of_ble_eq_true rfl), (Nat.le_of_ble_eq_true rfl)⟩ hl.1 (Nat.le_of_ble_eq_true rfl) rfl rfl dX8_sail_8 (hP.sub (ws' := ([] : va_W)) [] rfl) (fun r_5 hw_6 => ?_)
    rcases hw_6 with ⟨hr_5, hw_6⟩ | ⟨hr_5, hw_6⟩
    ·
      refine W_top (y := .int 1) (by rw [hr_5]) ?_
      refine lv_if_eq (tgt := 46) hx hb dX8_sail_11 (by decide) (fun c_8 => absurd c_8 (by decide)) (fun c_8 => ?_)
      refine lv_iload_n hx hb dX8_sail_14 rfl (lv_at hl 3 rfl) ?_
      refine callRS (rest := []) (As := [.int p2]) hx hb hml hown htb hK (g_X8_isPlace l D E p2 ) ok_X8_isPlace k_333 k_334 k_1 k_335 ⟨(Nat.le_of_ble_eq_true rfl), (Nat.le_of_ble_eq_true rfl)⟩ ⟨(Nat.le_of_ble_eq_true rfl), (Nat.le_of_ble_eq_true rfl)⟩ hl.1 (Nat.le_of_ble_eq_true rfl) rfl rfl dX8_sail_15 (hP.sub (ws' := ([] : va_W)) [] rfl) (fun r_9 hw_10 => ?_)
      rcases hw_10 with ⟨hr_9, hw_10⟩ | ⟨hr_9, hw_10⟩
      ·
        refine W_top (y := .int 1) (by rw [hr_9]) ?_
        refine lv_if_eq (tgt := 46) hx hb dX8_sail_18 (by decide) (fun c_12 => absurd c_12 (by decide)) (fun c_12 => ?_)
        refine lv_iload hx hb dX8_sail_21 (lv_at hl 4 rfl) ?_
        refine callRS (rest := []) (As := [.int p3]) hx hb hml hown htb hK (g_X8_isPlace l D E p3 ) ok_X8_isPlace k_333 k_334 k_1 k_335 ⟨(Nat.le_of_ble_eq_true rfl), (Nat.le_of_ble_eq_true rfl)⟩ ⟨(Nat.le_of_ble_eq_true rfl), (Nat.le_of_ble_eq_true rfl)⟩ hl.1 (Nat.le_of_ble_eq_true rfl) rfl rfl dX8_sail_23 (hP.sub (ws' := ([] : va_W)) [] rfl) (fun r_13 hw_14 => ?_)
        rcases hw_14 with ⟨hr_13, hw_14⟩ | ⟨hr_13, hw_14⟩
        ·
          refine W_top (y := .int 1) (by rw [hr_13]) ?_
          refine lv_if_eq (tgt := 46) hx hb dX8_sail_26 (by decide) (fun c_16 => absurd c_16 (by decide)) (fun c_16 => ?_)
          refine lv_iload_n hx hb dX8_sail_29 rfl (lv_at hl 2 rfl) ?_
          refine lv_iload_n hx hb dX8_sail_30 rfl (lv_at hl 3 rfl) ?_
          refine lv_icmp_eq (tgt := 46) hx hb dX8_sail_31 (by decide) (fun c_17 => ?_) (fun c_17 => ?_)
          ·
            have ic_17 : p1.toInt = p2.toInt := (g_eq rfl rfl).mp c_17
            clear c_17
            refine lv_iconst (v := (-1)) hx hb dX8_sail_46 (by decide) ?_
            exact W.iret (v := (-1)) hx hb hr (fun t ht hW => ⟨⟨(-1), z0, rfl, ⟨hI, (Or.inl ⟨by have h0_ := t_m1; omega, by unfold XSB; omega, hQ⟩)⟩, by rw [ht]; exact hP, hD⟩, hS.F ht⟩) hS.2.2 dX8_sail_47
          ·
            have ic_17 : p1.toInt ≠ p2.toInt := mt (g_eq rfl rfl).mpr c_17
            clear c_17
            refine lv_iload_n hx hb dX8_sail_34 rfl (lv_at hl 2 rfl) ?_
            refine lv_iload hx hb dX8_sail_35 (lv_at hl 4 rfl) ?_
            refine lv_icmp_eq (tgt := 46) hx hb dX8_sail_37 (by decide) (fun c_18 => ?_) (fun c_18 => ?_)
            ·
              have ic_18 : p1.toInt = p3.toInt := (g_eq rfl rfl).mp c_18
              clear c_18
              refine lv_iconst (v := (-1)) hx hb dX8_sail_46 (by decide) ?_
              exact W.iret (v := (-1)) hx hb hr (fun t ht hW => ⟨⟨(-1), z0, rfl, ⟨hI, (Or.inl ⟨by have h0_ := t_m1; omega, by unfold XSB; omega, hQ⟩)⟩, by rw [ht]; exact hP, hD⟩, hS.F ht⟩) hS.2.2 dX8_sail_47
            ·
              have ic_18 : p1.toInt ≠ p3.toInt := mt (g_eq rfl rfl).mpr c_18
              clear c_18
              refine lv_iload_n hx hb dX8_sail_40 rfl (lv_at hl 3 rfl) ?_
              refine lv_iload hx hb dX8_sail_41 (lv_at hl 4 rfl) ?_
              refine lv_icmp_ne (tgt := 48) hx hb dX8_sail_43 (by decide) (fun c_19 => ?_) (fun c_19 => ?_)
              ·
                have ic_19 : p2.toInt ≠ p3.toInt := mt (g_eq rfl rfl).mpr c_19
                clear c_19
                refine lv_aload_n hx hb dX8_sail_48 rfl (lv_at hl 0 rfl) ?_
                refine lv_iload_n hx hb dX8_sail_49 rfl (lv_at hl 2 rfl) ?_
                refine lv_iload_n hx hb dX8_sail_50 rfl (lv_at hl 3 rfl) ?_
                refine lv_iload hx hb dX8_sail_51 (lv_at hl 4 rfl) ?_
                refine aftU_i (runMG (rest := []) (As := [.int p1, .int p2, .int p3]) hx hb hml hown htb (U_X8_firstLack l D E q p1 p2 p3 _ z0 hI ) ok_X8_firstLack k_776 k_778 ks_27 k_1 k_779 ⟨(Nat.le_of_ble_eq_true rfl), (Nat.le_of_ble_eq_true rfl)⟩ ⟨(Nat.le_of_ble_eq_true rfl), (Nat.le_of_ble_eq_true rfl)⟩ hl.1 (Nat.le_of_ble_eq_true rfl) rfl rfl dX8_sail_53 (pmU nil_r hP hD hK (XW_c hP) rfl rfl 0 rfl)) nil_r hP hD hS hA (fun r_20 zs21 H locs hw_22 hP hD hS => ?_)
                have hP := nilP hP; have hD := nilD hD
                obtain ⟨hI, hw_22_0⟩ := hw_22
                have hFL := hw_22_0.1
                have hQ := hQ.tr (KP_X8_firstLack hw_22_0)
                have hT := TFX.of hQ
                refine lv_istore (lv' := [(5, .int r_20), (0, .ref q), (1, .int p0), (2, .int p1), (3, .int p2), (4, .int p3)]) hx hb dX8_sail_56 hl (by decide) rfl (fun ls hl => ?_)
                refine lv_iload hx hb dX8_sail_58 (lv_at hl 0 rfl) ?_
                refine lv_if_eq (tgt := 66) hx hb dX8_sail_60 (by decide) (fun c_23 => ?_) (fun c_23 => ?_)
                ·
                  have ic_23 : r_20.toInt = 0 := (g_eq rfl t_0).mp c_23
                  clear c_23
                  refine lv_aload_n hx hb dX8_sail_66 rfl (lv_at hl 1 rfl) ?_
                  refine va_get (D := D) (ci := 8) (v := .ref (xA zs21 4)) (C := RX8) (T := TX8) (N := 14) hx hb htb iX8 hown hK.1 (XW_c hP) 0 rfl rfl 4 (by decide) (htb _ k_276) (fun _ h9 => h9) rfl dX8_sail_67 ?_
                  refine lv_iload_n hx hb dX8_sail_70 rfl (lv_at hl 2 rfl) ?_
                  refine va_aldq hx hb hK.1 (XW_c hP) 5 4 rfl rfl (g_in rfl (by omega) (by omega)) dX8_sail_71 ?_
                  refine W_top (y := .ref (xya z0 (p0).toNatClampNeg 7)) (by rw [← hT.2.2.2.2.2.2]; rfl) ?_
                  have hj : (p0).toNatClampNeg < 5 := by have h9 := i_clamp0 (x := p0) (by omega); omega
                  refine lv_astore (lv' := [(6, .ref (xya z0 (p0).toNatClampNeg 7)), (5, .int r_20), (0, .ref q), (1, .int p0), (2, .int p1), (3, .int p2), (4, .int p3)]) hx hb dX8_sail_72 hl (by decide) rfl (fun ls hl => ?_)
                  refine lv_aload hx hb dX8_sail_74 (lv_at hl 0 rfl) ?_
                  refine va_getN (D := D) (ci := 5) (v := .int (xyv zs21 (p0).toNatClampNeg 1)) (C := RX5) (T := TX5) (N := 11) hx hb htb iX5 hown hK.1 (XW_yy hj hT.2.2.2.2.2.2 hP) 0 rfl rfl 8 (by decide) (va_Nw.use rfl (hK.2.1 (Cond.fieldLinkNest RX8 208 "SeaWatches$Ship" "stage" "I" "SeaWatches") (by decide +kernel))) (fun _ h9 => h9) rfl dX8_sail_76 ?_
                  have hy_24 : (xyv zs21 (p0).toNatClampNeg 1).toInt = (xyv z0 (p0).toNatClampNeg 1).toInt := by rw [KPX_yv hQ]
                  refine lv_iconst (v := 1) hx hb dX8_sail_79 (by decide) ?_
                  refine lv_icmp_eq (tgt := 108) hx hb dX8_sail_80 (by decide) (fun c_25 => ?_) (fun c_25 => ?_)
                  ·
                    have ic_25 : (xyv zs21 (p0).toNatClampNeg 1).toInt = 1 := (g_eq rfl t_1).mp c_25
                    clear c_25
                    refine lv_bipush (v := (-4)) hx hb dX8_sail_108 (by decide) ?_
                    exact W.iret (v := (-4)) hx hb hr (fun t ht hW => ⟨⟨(-4), zs21, rfl, ⟨hI, (Or.inr (Or.inr (Or.inl ⟨by unfold XSB; omega, by unfold XWK; have h9 := hFL; omega, by omega, by have h0_ := t_m4; omega, hQ⟩)))⟩, by rw [ht]; exact hP, hD⟩, hS.F ht⟩) hS.2.2 dX8_sail_110
                  ·
                    have ic_25 : (xyv zs21 (p0).toNatClampNeg 1).toInt ≠ 1 := mt (g_eq rfl t_1).mpr c_25
                    clear c_25
                    refine lv_aload_n hx hb dX8_sail_83 rfl (lv_at hl 2 rfl) ?_
                    refine lv_iload_n hx hb dX8_sail_84 rfl (lv_at hl 4 rfl) ?_
                    refine aftU_i (runMG (rest := []) (As := [.int p1]) hx hb hml hown htb (U_X8_isFitToSail l D E q p1 _ zs21 hI ) ok_X8_isFitToSail k_780 k_782 ks_28 k_1 k_783 ⟨(Nat.le_of_ble_eq_true rfl), (Nat.le_of_ble_eq_true rfl)⟩ ⟨(Nat.le_of_ble_eq_true rfl), (Nat.le_of_ble_eq_true rfl)⟩ hl.1 (Nat.le_of_ble_eq_true rfl) rfl rfl dX8_sail_85 (pmU nil_r hP hD hK (XW_c hP) rfl rfl 0 rfl)) nil_r hP hD hS hA (fun r_26 zs27 H locs hw_28 hP hD hS => ?_)
                    have hP := nilP hP; have hD := nilD hD
                    obtain ⟨hI, hw_28_0⟩ := hw_28
                    have hf_29 := FITX_of hw_28_0 hQ (by omega)
                    have hQ := hQ.tr (KP_X8_isFitToSail hw_28_0)
                    have hT := TFX.of hQ
                    refine lv_if_eq (tgt := 108) hx hb dX8_sail_88 (by decide) (fun c_30 => ?_) (fun c_30 => ?_)
                    ·
                      have ic_30 : r_26.toInt = 0 := (g_eq rfl t_0).mp c_30
                      clear c_30
                      refine lv_bipush (v := (-4)) hx hb dX8_sail_108 (by decide) ?_
                      exact W.iret (v := (-4)) hx hb hr (fun t ht hW => ⟨⟨(-4), zs27, rfl, ⟨hI, (Or.inr (Or.inr (Or.inr (Or.inl ⟨by unfold XSB; omega, by unfold XWK; have h9 := hFL; omega, fun hh => (hf_29.resolve_left (fun h9 => by have := h9.1; omega)).2 hh.1, by have h0_ := t_m4; omega, hQ⟩))))⟩, by rw [ht]; exact hP, hD⟩, hS.F ht⟩) hS.2.2 dX8_sail_110
                    ·
                      have ic_30 : r_26.toInt ≠ 0 := mt (g_eq rfl t_0).mpr c_30
                      clear c_30
                      refine lv_aload_n hx hb dX8_sail_91 rfl (lv_at hl 2 rfl) ?_
                      refine lv_iload_n hx hb dX8_sail_92 rfl (lv_at hl 5 rfl) ?_
                      refine aftU_i (runMG (rest := []) (As := [.int p2]) hx hb hml hown htb (U_X8_isFitToSail l D E q p2 _ zs27 hI ) ok_X8_isFitToSail k_780 k_782 ks_28 k_1 k_783 ⟨(Nat.le_of_ble_eq_true rfl), (Nat.le_of_ble_eq_true rfl)⟩ ⟨(Nat.le_of_ble_eq_true rfl), (Nat.le_of_ble_eq_true rfl)⟩ hl.1 (Nat.le_of_ble_eq_true rfl) rfl rfl dX8_sail_93 (pmU nil_r hP hD hK (XW_c hP) rfl rfl 0 rfl)) nil_r hP hD hS hA (fun r_31 zs32 H locs hw_33 hP hD hS => ?_)
                      have hP := nilP hP; have hD := nilD hD
                      obtain ⟨hI, hw_33_0⟩ := hw_33
                      have hf_34 := FITX_of hw_33_0 hQ (by omega)
                      have hQ := hQ.tr (KP_X8_isFitToSail hw_33_0)
                      have hT := TFX.of hQ
                      refine lv_if_eq (tgt := 108) hx hb dX8_sail_96 (by decide) (fun c_35 => ?_) (fun c_35 => ?_)
                      ·
                        have ic_35 : r_31.toInt = 0 := (g_eq rfl t_0).mp c_35
                        clear c_35
                        refine lv_bipush (v := (-4)) hx hb dX8_sail_108 (by decide) ?_
                        exact W.iret (v := (-4)) hx hb hr (fun t ht hW => ⟨⟨(-4), zs32, rfl, ⟨hI, (Or.inr (Or.inr (Or.inr (Or.inl ⟨by unfold XSB; omega, by unfold XWK; have h9 := hFL; omega, fun hh => (hf_34.resolve_left (fun h9 => by have := h9.1; omega)).2 hh.2.1, by have h0_ := t_m4; omega, hQ⟩))))⟩, by rw [ht]; exact hP, hD⟩, hS.F ht⟩) hS.2.2 dX8_sail_110
                      ·
                        have ic_35 : r_31.toInt ≠ 0 := mt (g_eq rfl t_0).mpr c_35
                        clear c_35
                        refine lv_aload_n hx hb dX8_sail_99 rfl (lv_at hl 2 rfl) ?_
                        refine lv_iload hx hb dX8_sail_100 (lv_at hl 6 rfl) ?_
                        refine aftU_i (runMG (rest := []) (As := [.int p3]) hx hb hml hown htb (U_X8_isFitToSail l D E q p3 _ zs32 hI ) ok_X8_isFitToSail k_780 k_782 ks_28 k_1 k_783 ⟨(Nat.le_of_ble_eq_true rfl), (Nat.le_of_ble_eq_true rfl)⟩ ⟨(Nat.le_of_ble_eq_true rfl), (Nat.le_of_ble_eq_true rfl)⟩ hl.1 (Nat.le_of_ble_eq_true rfl) rfl rfl dX8_sail_102 (pmU nil_r hP hD hK (XW_c hP) rfl rfl 0 rfl)) nil_r hP hD hS hA (fun r_36 zs37 H locs hw_38 hP hD hS => ?_)
                        have hP := nilP hP; have hD := nilD hD
                        obtain ⟨hI, hw_38_0⟩ := hw_38
                        have hf_39 := FITX_of hw_38_0 hQ (by omega)
                        have hQ := hQ.tr (KP_X8_isFitToSail hw_38_0)
                        have hT := TFX.of hQ
                        refine lv_if_ne (tgt := 111) hx hb dX8_sail_105 (by decide) (fun c_40 => ?_) (fun c_40 => ?_)
                        ·
                          have ic_40 : r_36.toInt ≠ 0 := mt (g_eq rfl t_0).mpr c_40
                          clear c_40
                          refine lv_aload hx hb dX8_sail_111 (lv_at hl 0 rfl) ?_
                          refine lv_aload_n hx hb dX8_sail_113 rfl (lv_at hl 2 rfl) ?_
                          refine va_get (D := D) (ci := 8) (v := .int (xV zs37 0)) (C := RX8) (T := TX8) (N := 14) hx hb htb iX8 hown hK.1 (XW_c hP) 0 rfl rfl 13 (by decide) (htb _ k_285) (fun _ h9 => h9) rfl dX8_sail_114 ?_
                          refine aftU_v (runMG (rest := []) (As := [.int (xV zs37 0)]) hx hb hml hown htb (U_X5_leave l D E q (p0).toNatClampNeg (xya z0 (p0).toNatClampNeg 7) (xV zs37 0) _ zs37 hI hj (by rw [hT.2.2.2.2.2.2])) ok_X5_leave k_788 k_789 k_790 k_8 k_791 ⟨(Nat.le_of_ble_eq_true rfl), (Nat.le_of_ble_eq_true rfl)⟩ ⟨(Nat.le_of_ble_eq_true rfl), (Nat.le_of_ble_eq_true rfl)⟩ hl.1 (Nat.le_of_ble_eq_true rfl) rfl rfl dX8_sail_117 (pmU nil_r hP hD hK (XW_yy hj hT.2.2.2.2.2.2 hP) rfl rfl 0 rfl)) nil_r hP hD hS hA (fun zs42 H locs hw_43 hP hD hS => ?_)
                          have hP := nilP hP; have hD := nilD hD
                          obtain ⟨hI, hw_43_0⟩ := hw_43
                          have hT := hT.tr (TF_X5_leave hw_43_0)
                          refine lv_aload_n hx hb dX8_sail_120 rfl (lv_at hl 2 rfl) ?_
                          refine lv_iload_n hx hb dX8_sail_121 rfl (lv_at hl 3 rfl) ?_
                          refine lv_iconst (v := 0) hx hb dX8_sail_122 (by decide) ?_
                          refine lv_iload_n hx hb dX8_sail_123 rfl (lv_at hl 4 rfl) ?_
                          refine aftU_v (runMG (rest := []) (As := [.int p0, .int 0, .int p1]) hx hb hml hown htb (U_X8_board l D E q p0 0 p1 _ zs42 hI (by rw [hT.2.2.2.2.1]; omega) (by have h0 := t_0; omega) (by have h0 := t_0; omega)) ok_X8_board k_792 k_794 ks_30 k_1 k_795 ⟨(Nat.le_of_ble_eq_true rfl), (Nat.le_of_ble_eq_true rfl)⟩ ⟨(Nat.le_of_ble_eq_true rfl), (Nat.le_of_ble_eq_true rfl)⟩ hl.1 (Nat.le_of_ble_eq_true rfl) rfl rfl dX8_sail_124 (pmU nil_r hP hD hK (XW_c hP) rfl rfl 0 rfl)) nil_r hP hD hS hA (fun zs45 H locs hw_46 hP hD hS => ?_)
                          have hP := nilP hP; have hD := nilD hD
                          obtain ⟨hI, hw_46_0⟩ := hw_46
                          have hT := hT.tr (TF_X8_board hw_46_0)
                          refine lv_aload_n hx hb dX8_sail_127 rfl (lv_at hl 2 rfl) ?_
                          refine lv_iload_n hx hb dX8_sail_128 rfl (lv_at hl 3 rfl) ?_
                          refine lv_iconst (v := 1) hx hb dX8_sail_129 (by decide) ?_
                          refine lv_iload_n hx hb dX8_sail_130 rfl (lv_at hl 5 rfl) ?_
                          refine aftU_v (runMG (rest := []) (As := [.int p0, .int 1, .int p2]) hx hb hml hown htb (U_X8_board l D E q p0 1 p2 _ zs45 hI (by rw [hT.2.2.2.2.1]; omega) (by have h0 := t_1; omega) (by have h0 := t_1; omega)) ok_X8_board k_792 k_794 ks_30 k_1 k_795 ⟨(Nat.le_of_ble_eq_true rfl), (Nat.le_of_ble_eq_true rfl)⟩ ⟨(Nat.le_of_ble_eq_true rfl), (Nat.le_of_ble_eq_true rfl)⟩ hl.1 (Nat.le_of_ble_eq_true rfl) rfl rfl dX8_sail_131 (pmU nil_r hP hD hK (XW_c hP) rfl rfl 0 rfl)) nil_r hP hD hS hA (fun zs48 H locs hw_49 hP hD hS => ?_)
                          have hP := nilP hP; have hD := nilD hD
                          obtain ⟨hI, hw_49_0⟩ := hw_49
                          have hT := hT.tr (TF_X8_board hw_49_0)
                          refine lv_aload_n hx hb dX8_sail_134 rfl (lv_at hl 2 rfl) ?_
                          refine lv_iload_n hx hb dX8_sail_135 rfl (lv_at hl 3 rfl) ?_
                          refine lv_iconst (v := 2) hx hb dX8_sail_136 (by decide) ?_
                          refine lv_iload hx hb dX8_sail_137 (lv_at hl 6 rfl) ?_
                          refine aftU_v (runMG (rest := []) (As := [.int p0, .int 2, .int p3]) hx hb hml hown htb (U_X8_board l D E q p0 2 p3 _ zs48 hI (by rw [hT.2.2.2.2.1]; omega) (by have h0 := t_2; omega) (by have h0 := t_2; omega)) ok_X8_board k_792 k_794 ks_30 k_1 k_795 ⟨(Nat.le_of_ble_eq_true rfl), (Nat.le_of_ble_eq_true rfl)⟩ ⟨(Nat.le_of_ble_eq_true rfl), (Nat.le_of_ble_eq_true rfl)⟩ hl.1 (Nat.le_of_ble_eq_true rfl) rfl rfl dX8_sail_139 (pmU nil_r hP hD hK (XW_c hP) rfl rfl 0 rfl)) nil_r hP hD hS hA (fun zs51 H locs hw_52 hP hD hS => ?_)
                          have hP := nilP hP; have hD := nilD hD
                          obtain ⟨hI, hw_52_0⟩ := hw_52
                          have hT := hT.tr (TF_X8_board hw_52_0)
                          refine lv_iconst (v := 1) hx hb dX8_sail_142 (by decide) ?_
                          exact W.iret (v := 1) hx hb hr (fun t ht hW => ⟨⟨1, zs51, rfl, ⟨hI, (Or.inr (Or.inr (Or.inr (Or.inr ⟨by unfold XSB; omega, by unfold XWK; have h9 := hFL; omega, by omega, ⟨(hf_29.resolve_right (fun h9 => by have := h9.1; omega)).2, (hf_34.resolve_right (fun h9 => by have := h9.1; omega)).2, (hf_39.resolve_right (fun h9 => by have := h9.1; omega)).2⟩, by have h0_ := t_1; omega, zs37, zs42, zs45, zs48, hQ, hw_43_0, hw_46_0, hw_49_0, hw_52_0⟩))))⟩, by rw [ht]; exact hP, hD⟩, hS.F ht⟩) hS.2.2 dX8_sail_143
                        ·
                          have ic_40 : r_36.toInt = 0 := (g_eq rfl t_0).mp c_40
                          clear c_40
                          refine lv_bipush (v := (-4)) hx hb dX8_sail_108 (by decide) ?_
                          exact W.iret (v := (-4)) hx hb hr (fun t ht hW => ⟨⟨(-4), zs37, rfl, ⟨hI, (Or.inr (Or.inr (Or.inr (Or.inl ⟨by unfold XSB; omega, by unfold XWK; have h9 := hFL; omega, fun hh => (hf_39.resolve_left (fun h9 => by have := h9.1; omega)).2 hh.2.2, by have h0_ := t_m4; omega, hQ⟩))))⟩, by rw [ht]; exact hP, hD⟩, hS.F ht⟩) hS.2.2 dX8_sail_110
                ·
                  have ic_23 : r_20.toInt ≠ 0 := mt (g_eq rfl t_0).mpr c_23
                  clear c_23
                  refine lv_iload hx hb dX8_sail_63 (lv_at hl 0 rfl) ?_
                  exact W.iret (v := r_20) hx hb hr (fun t ht hW => ⟨⟨r_20, zs21, rfl, ⟨hI, (Or.inr (Or.inl ⟨by unfold XSB; omega, by unfold XWK XLK; have h9 := hFL; omega, hQ⟩))⟩, by rw [ht]; exact hP, hD⟩, hS.F ht⟩) hS.2.2 dX8_sail_65
              ·
                have ic_19 : p2.toInt = p3.toInt := (g_eq rfl rfl).mp c_19
                clear c_19
                refine lv_iconst (v := (-1)) hx hb dX8_sail_46 (by decide) ?_
                exact W.iret (v := (-1)) hx hb hr (fun t ht hW => ⟨⟨(-1), z0, rfl, ⟨hI, (Or.inl ⟨by have h0_ := t_m1; omega, by unfold XSB; omega, hQ⟩)⟩, by rw [ht]; exact hP, hD⟩, hS.F ht⟩) hS.2.2 dX8_sail_47
        ·
          refine W_top (y := .int 0) (by rw [hr_13]) ?_
          refine lv_if_eq (tgt := 46) hx hb dX8_sail_26 (by decide) (fun c_53 => ?_) (fun c_53 => absurd (by decide) c_53)
          refine lv_iconst (v := (-1)) hx hb dX8_sail_46 (by decide) ?_
          exact W.iret (v := (-1)) hx hb hr (fun t ht hW => ⟨⟨(-1), z0, rfl, ⟨hI, (Or.inl ⟨by have h0_ := t_m1; omega, by unfold XSB; omega, hQ⟩)⟩, by rw [ht]; exact hP, hD⟩, hS.F ht⟩) hS.2.2 dX8_sail_47
      ·
        refine W_top (y := .int 0) (by rw [hr_9]) ?_
        refine lv_if_eq (tgt := 46) hx hb dX8_sail_18 (by decide) (fun c_54 => ?_) (fun c_54 => absurd (by decide) c_54)
        refine lv_iconst (v := (-1)) hx hb dX8_sail_46 (by decide) ?_
        exact W.iret (v := (-1)) hx hb hr (fun t ht hW => ⟨⟨(-1), z0, rfl, ⟨hI, (Or.inl ⟨by have h0_ := t_m1; omega, by unfold XSB; omega, hQ⟩)⟩, by rw [ht]; exact hP, hD⟩, hS.F ht⟩) hS.2.2 dX8_sail_47
    ·
      refine W_top (y := .int 0) (by rw [hr_5]) ?_
      refine lv_if_eq (tgt := 46) hx hb dX8_sail_11 (by decide) (fun c_55 => ?_) (fun c_55 => absurd (by decide) c_55)
      refine lv_iconst (v := (-1)) hx hb dX8_sail_46 (by decide) ?_
      exact W.iret (v := (-1)) hx hb hr (fun t ht hW => ⟨⟨(-1), z0, rfl, ⟨hI, (Or.inl ⟨by have h0_ := t_m1; omega, by unfold XSB; omega, hQ⟩)⟩, by rw [ht]; exact hP, hD⟩, hS.F ht⟩) hS.2.2 dX8_sail_47
  ·
    refine W_top (y := .int 0) (by rw [hr_1]) ?_
    refine lv_if_eq (tgt := 46) hx hb dX8_sail_4 (by decide) (fun c_56 => ?_) (fun c_56 => absurd (by decide) c_56)
    refine lv_iconst (v := (-1)) hx hb dX8_sail_46 (by decide) ?_
    exact W.iret (v := (-1)) hx hb hr (fun t ht hW => ⟨⟨(-1), z0, rfl, ⟨hI, (Or.inl ⟨by have h0_ := t_m1; omega, by unfold XSB; omega, hQ⟩)⟩, by rw [ht]; exact hP, hD⟩, hS.F ht⟩) hS.2.2 dX8_sail_47
set_option maxHeartbeats 4000000 in
set_option maxRecDepth 100000 in
theorem U_X8_back (l : Launch) (D : va_G) (E : Nat → Nat) (q : Nat) (p0 : Int32) (p1 : Int32) (p2 : Int32) (p3 : Int32) (sz : Nat) (z0 : XS) (hX : XI z0) : Met l yX8_back (wl yX8_back cX8_back 6 (some .int)) (RM 3 0 0) (mu_P D E [.ref q, .int p0, .int p1, .int p2, .int p3] (XW E q z0) sz) (va_Qi (fun (r : Int32) (s' : XS) => XI s' ∧ RX_X8_back p0 p1 p2 p3 r z0 s') (mu_B D (va_A (XW E q z0) sz) (XW E q)) (va_A (XW E q z0) sz)) 0 0 (va_A (XW E q z0) sz) := by
  refine Met.ofW (cc := cX8_back) (maxL := 6) (ret := (some .int)) (by decide) rfl ?_
  intro p e s m args below meth c s₁ B hml hv
  obtain ⟨rfl, hsz, hP, hK, hD0⟩ := hv
  have hx := B.exec; have hb := B.bytes; have hr := B.returns
  have hts := atoms_spec (ws := wl yX8_back cX8_back 6 (some .int)) B.pre
  have htb : ∀ w ∈ tb, w.before _ s = true := fun w h => hts w (List.mem_cons_of_mem _ h)
  have hown : s.vm.findClass RX8 = some m.cls := findClass_of_methodNamed B.named
  have hlocks := B.notSynchronized
  subst hsz
  have hD := hD0.self (sz := s.heap.size)
  generalize hAe : va_A (XW E q z0) s.heap.size = A at hD ⊢
  have hA : ∀ q : Nat, s.heap.size ≤ q → A q := fun q h => by rw [← hAe]; exact Or.inr h
  have hS : va_S A s.heap s.heap [] := va_S.rf
  have hP : va_P D vwCl (XW E q z0) s.heap := hP
  have hl := lv_entry ([.ref q, .int p0, .int p1, .int p2, .int p3]) (n := 6) (Nat.le_of_ble_eq_true rfl)
  rw [lg_entry_eq]
  generalize (lg_sl ([.ref q, .int p0, .int p1, .int p2, .int p3]) ++ List.replicate (6 - (lg_sl ([.ref q, .int p0, .int p1, .int p2, .int p3])).length) Slot.unset).toArray = ls at hl ⊢
  have hl : lv_has ls 6 [(0, .ref q), (1, .int p0), (2, .int p1), (3, .int p2), (4, .int p3)] := hl
  have lo_p0 := i_lo p0; have hi_p0 := i_hi p0
  have lo_p1 := i_lo p1; have hi_p1 := i_hi p1
  have lo_p2 := i_lo p2; have hi_p2 := i_hi p2
  have lo_p3 := i_lo p3; have hi_p3 := i_hi p3
  have hI := hX; have hT : TFX z0 z0 := TFX.rf; have hQ : KPX z0 z0 := KPX.rf; have htd := hX.1
  refine lv_iload_n hx hb dX8_back_0 rfl (lv_at hl 1 rfl) ?_
  refine callRS (rest := []) (As := [.int p0]) hx hb hml hown htb hK (g_X8_isShip l D E p0 ) ok_X8_isShip k_773 k_774 k_1 k_775 ⟨(Nat.le_of_ble_eq_true rfl), (Nat.le_of_ble_eq_true rfl)⟩ ⟨(Nat.le_of_ble_eq_true rfl), (Nat.le_of_ble_eq_true rfl)⟩ hl.1 (Nat.le_of_ble_eq_true rfl) rfl rfl dX8_back_1 (hP.sub (ws' := ([] : va_W)) [] rfl) (fun r_1 hw_2 => ?_)
  rcases hw_2 with ⟨hr_1, hw_2⟩ | ⟨hr_1, hw_2⟩
  ·
    refine W_top (y := .int 1) (by rw [hr_1]) ?_
    refine lv_if_eq (tgt := 35) hx hb dX8_back_4 (by decide) (fun c_4 => absurd c_4 (by decide)) (fun c_4 => ?_)
    refine lv_iload_n hx hb dX8_back_7 rfl (lv_at hl 2 rfl) ?_
    refine lv_ldc hx hb hown (htb _ k_395) dX8_back_8 ?_
    refine callRS (rest := []) (As := [.int p1, .int 100000]) hx hb hml hown htb hK (g_X8_isWithin l D E p1 100000 (by decide)) ok_X8_isWithin k_326 k_327 k_1 k_328 ⟨(Nat.le_of_ble_eq_true rfl), (Nat.le_of_ble_eq_true rfl)⟩ ⟨(Nat.le_of_ble_eq_true rfl), (Nat.le_of_ble_eq_true rfl)⟩ hl.1 (Nat.le_of_ble_eq_true rfl) rfl rfl dX8_back_10 (hP.sub (ws' := ([] : va_W)) [] rfl) (fun r_5 hw_6 => ?_)
    try simp only [t_100000] at hw_6
    rcases hw_6 with ⟨hr_5, hw_6⟩ | ⟨hr_5, hw_6⟩
    ·
      try simp only [t_100000] at hw_6
      refine W_top (y := .int 1) (by rw [hr_5]) ?_
      refine lv_if_eq (tgt := 35) hx hb dX8_back_13 (by decide) (fun c_8 => absurd c_8 (by decide)) (fun c_8 => ?_)
      refine lv_iload_n hx hb dX8_back_16 rfl (lv_at hl 3 rfl) ?_
      refine lv_ldc hx hb hown (htb _ k_395) dX8_back_17 ?_
      refine callRS (rest := []) (As := [.int p2, .int 100000]) hx hb hml hown htb hK (g_X8_isWithin l D E p2 100000 (by decide)) ok_X8_isWithin k_326 k_327 k_1 k_328 ⟨(Nat.le_of_ble_eq_true rfl), (Nat.le_of_ble_eq_true rfl)⟩ ⟨(Nat.le_of_ble_eq_true rfl), (Nat.le_of_ble_eq_true rfl)⟩ hl.1 (Nat.le_of_ble_eq_true rfl) rfl rfl dX8_back_19 (hP.sub (ws' := ([] : va_W)) [] rfl) (fun r_9 hw_10 => ?_)
      try simp only [t_100000] at hw_10
      rcases hw_10 with ⟨hr_9, hw_10⟩ | ⟨hr_9, hw_10⟩
      ·
        try simp only [t_100000] at hw_10
        refine W_top (y := .int 1) (by rw [hr_9]) ?_
        refine lv_if_eq (tgt := 35) hx hb dX8_back_22 (by decide) (fun c_12 => absurd c_12 (by decide)) (fun c_12 => ?_)
        refine lv_iload hx hb dX8_back_25 (lv_at hl 4 rfl) ?_
        refine lv_ldc hx hb hown (htb _ k_395) dX8_back_27 ?_
        refine callRS (rest := []) (As := [.int p3, .int 100000]) hx hb hml hown htb hK (g_X8_isWithin l D E p3 100000 (by decide)) ok_X8_isWithin k_326 k_327 k_1 k_328 ⟨(Nat.le_of_ble_eq_true rfl), (Nat.le_of_ble_eq_true rfl)⟩ ⟨(Nat.le_of_ble_eq_true rfl), (Nat.le_of_ble_eq_true rfl)⟩ hl.1 (Nat.le_of_ble_eq_true rfl) rfl rfl dX8_back_29 (hP.sub (ws' := ([] : va_W)) [] rfl) (fun r_13 hw_14 => ?_)
        try simp only [t_100000] at hw_14
        rcases hw_14 with ⟨hr_13, hw_14⟩ | ⟨hr_13, hw_14⟩
        ·
          try simp only [t_100000] at hw_14
          refine W_top (y := .int 1) (by rw [hr_13]) ?_
          refine lv_if_ne (tgt := 37) hx hb dX8_back_32 (by decide) (fun c_16 => ?_) (fun c_16 => absurd c_16 (by decide))
          refine lv_aload_n hx hb dX8_back_37 rfl (lv_at hl 0 rfl) ?_
          refine va_get (D := D) (ci := 8) (v := .ref (xA z0 4)) (C := RX8) (T := TX8) (N := 14) hx hb htb iX8 hown hK.1 (XW_c hP) 0 rfl rfl 4 (by decide) (htb _ k_276) (fun _ h9 => h9) rfl dX8_back_38 ?_
          refine lv_iload_n hx hb dX8_back_41 rfl (lv_at hl 1 rfl) ?_
          refine va_aldq hx hb hK.1 (XW_c hP) 5 4 rfl rfl (g_in rfl (by omega) (by omega)) dX8_back_42 ?_
          refine W_top (y := .ref (xya z0 (p0).toNatClampNeg 7)) (by rw [← hT.2.2.2.2.2.2]; rfl) ?_
          have hj : (p0).toNatClampNeg < 5 := by have h9 := i_clamp0 (x := p0) (by omega); omega
          refine lv_astore (lv' := [(5, .ref (xya z0 (p0).toNatClampNeg 7)), (0, .ref q), (1, .int p0), (2, .int p1), (3, .int p2), (4, .int p3)]) hx hb dX8_back_43 hl (by decide) rfl (fun ls hl => ?_)
          refine lv_aload hx hb dX8_back_45 (lv_at hl 0 rfl) ?_
          refine va_getN (D := D) (ci := 5) (v := .int (xyv z0 (p0).toNatClampNeg 1)) (C := RX5) (T := TX5) (N := 11) hx hb htb iX5 hown hK.1 (XW_yy hj hT.2.2.2.2.2.2 hP) 0 rfl rfl 8 (by decide) (va_Nw.use rfl (hK.2.1 (Cond.fieldLinkNest RX8 208 "SeaWatches$Ship" "stage" "I" "SeaWatches") (by decide +kernel))) (fun _ h9 => h9) rfl dX8_back_47 ?_
          have hy_17 : (xyv z0 (p0).toNatClampNeg 1).toInt = (xyv z0 (p0).toNatClampNeg 1).toInt := by rw [KPX_yv hQ]
          refine lv_iconst (v := 1) hx hb dX8_back_50 (by decide) ?_
          refine lv_icmp_ne (tgt := 66) hx hb dX8_back_51 (by decide) (fun c_18 => ?_) (fun c_18 => ?_)
          ·
            have ic_18 : (xyv z0 (p0).toNatClampNeg 1).toInt ≠ 1 := mt (g_eq rfl t_1).mpr c_18
            clear c_18
            refine lv_bipush (v := (-4)) hx hb dX8_back_66 (by decide) ?_
            exact W.iret (v := (-4)) hx hb hr (fun t ht hW => ⟨⟨(-4), z0, rfl, ⟨hI, (Or.inr (Or.inl ⟨by unfold XBB; omega, by omega, by have h0_ := t_m4; omega, hQ⟩))⟩, by rw [ht]; exact hP, hD⟩, hS.F ht⟩) hS.2.2 dX8_back_68
          ·
            have ic_18 : (xyv z0 (p0).toNatClampNeg 1).toInt = 1 := (g_eq rfl t_1).mp c_18
            clear c_18
            refine lv_aload hx hb dX8_back_54 (lv_at hl 0 rfl) ?_
            refine va_getN (D := D) (ci := 5) (v := .int (xyv z0 (p0).toNatClampNeg 2)) (C := RX5) (T := TX5) (N := 11) hx hb htb iX5 hown hK.1 (XW_yy hj hT.2.2.2.2.2.2 hP) 0 rfl rfl 9 (by decide) (va_Nw.use rfl (hK.2.1 (Cond.fieldLinkNest RX8 262 "SeaWatches$Ship" "sailed" "I" "SeaWatches") (by decide +kernel))) (fun _ h9 => h9) rfl dX8_back_56 ?_
            have hy_19 : (xyv z0 (p0).toNatClampNeg 2).toInt = (xyv z0 (p0).toNatClampNeg 2).toInt := by rw [KPX_yv hQ]
            refine lv_aload_n hx hb dX8_back_59 rfl (lv_at hl 1 rfl) ?_
            refine va_get (D := D) (ci := 8) (v := .int (xV z0 0)) (C := RX8) (T := TX8) (N := 14) hx hb htb iX8 hown hK.1 (XW_c hP) 0 rfl rfl 13 (by decide) (htb _ k_285) (fun _ h9 => h9) rfl dX8_back_60 ?_
            refine lv_icmp_lt (tgt := 69) hx hb dX8_back_63 (by decide) (fun c_20 => ?_) (fun c_20 => ?_)
            ·
              have ic_20 : (xyv z0 (p0).toNatClampNeg 2).toInt < (xV z0 0).toInt := by first | exact (g_lt rfl rfl).mp c_20 | (have h := mt (g_le rfl rfl).mpr c_20; omega)
              clear c_20
              refine lv_aload hx hb dX8_back_69 (lv_at hl 0 rfl) ?_
              refine lv_aload_n hx hb dX8_back_71 rfl (lv_at hl 1 rfl) ?_
              refine va_get (D := D) (ci := 8) (v := .int (xV z0 0)) (C := RX8) (T := TX8) (N := 14) hx hb htb iX8 hown hK.1 (XW_c hP) 0 rfl rfl 13 (by decide) (htb _ k_285) (fun _ h9 => h9) rfl dX8_back_72 ?_
              refine aftU_v (runMG (rest := []) (As := [.int (xV z0 0)]) hx hb hml hown htb (U_X5_comeBack l D E q (p0).toNatClampNeg (xya z0 (p0).toNatClampNeg 7) (xV z0 0) _ z0 hI hj (by rw [hT.2.2.2.2.2.2])) ok_X5_comeBack k_874 k_875 k_876 k_8 k_877 ⟨(Nat.le_of_ble_eq_true rfl), (Nat.le_of_ble_eq_true rfl)⟩ ⟨(Nat.le_of_ble_eq_true rfl), (Nat.le_of_ble_eq_true rfl)⟩ hl.1 (Nat.le_of_ble_eq_true rfl) rfl rfl dX8_back_75 (pmU nil_r hP hD hK (XW_yy hj hT.2.2.2.2.2.2 hP) rfl rfl 0 rfl)) nil_r hP hD hS hA (fun zs22 H locs hw_23 hP hD hS => ?_)
              have hP := nilP hP; have hD := nilD hD
              obtain ⟨hI, hw_23_0⟩ := hw_23
              have hT := hT.tr (TF_X5_comeBack hw_23_0)
              refine lv_aload_n hx hb dX8_back_78 rfl (lv_at hl 1 rfl) ?_
              refine lv_aload hx hb dX8_back_79 (lv_at hl 0 rfl) ?_
              refine lv_iconst (v := 0) hx hb dX8_back_81 (by decide) ?_
              refine lv_iload_n hx hb dX8_back_82 rfl (lv_at hl 3 rfl) ?_
              refine aftU_v (runMG (rest := []) (As := [.ref (xya z0 (p0).toNatClampNeg 7), .int 0, .int p1]) hx hb hml hown htb (U_X8_unload l D E q (p0).toNatClampNeg (xya z0 (p0).toNatClampNeg 7) 0 p1 _ zs22 hI hj (by rw [hT.2.2.2.2.2.2]) (by have h0 := t_0; omega)) ok_X8_unload k_878 k_880 ks_33 k_1 k_881 ⟨(Nat.le_of_ble_eq_true rfl), (Nat.le_of_ble_eq_true rfl)⟩ ⟨(Nat.le_of_ble_eq_true rfl), (Nat.le_of_ble_eq_true rfl)⟩ hl.1 (Nat.le_of_ble_eq_true rfl) rfl rfl dX8_back_83 (pmU nil_r hP hD hK (XW_c hP) rfl rfl 0 rfl)) nil_r hP hD hS hA (fun zs25 H locs hw_26 hP hD hS => ?_)
              have hP := nilP hP; have hD := nilD hD
              obtain ⟨hI, hw_26_0⟩ := hw_26
              have hT := hT.tr (TF_X8_unload hw_26_0)
              refine lv_aload_n hx hb dX8_back_86 rfl (lv_at hl 1 rfl) ?_
              refine lv_aload hx hb dX8_back_87 (lv_at hl 0 rfl) ?_
              refine lv_iconst (v := 1) hx hb dX8_back_89 (by decide) ?_
              refine lv_iload_n hx hb dX8_back_90 rfl (lv_at hl 4 rfl) ?_
              refine aftU_v (runMG (rest := []) (As := [.ref (xya z0 (p0).toNatClampNeg 7), .int 1, .int p2]) hx hb hml hown htb (U_X8_unload l D E q (p0).toNatClampNeg (xya z0 (p0).toNatClampNeg 7) 1 p2 _ zs25 hI hj (by rw [hT.2.2.2.2.2.2]) (by have h0 := t_1; omega)) ok_X8_unload k_878 k_880 ks_33 k_1 k_881 ⟨(Nat.le_of_ble_eq_true rfl), (Nat.le_of_ble_eq_true rfl)⟩ ⟨(Nat.le_of_ble_eq_true rfl), (Nat.le_of_ble_eq_true rfl)⟩ hl.1 (Nat.le_of_ble_eq_true rfl) rfl rfl dX8_back_91 (pmU nil_r hP hD hK (XW_c hP) rfl rfl 0 rfl)) nil_r hP hD hS hA (fun zs28 H locs hw_29 hP hD hS => ?_)
              have hP := nilP hP; have hD := nilD hD
              obtain ⟨hI, hw_29_0⟩ := hw_29
              have hT := hT.tr (TF_X8_unload hw_29_0)
              refine lv_aload_n hx hb dX8_back_94 rfl (lv_at hl 1 rfl) ?_
              refine lv_aload hx hb dX8_back_95 (lv_at hl 0 rfl) ?_
              refine lv_iconst (v := 2) hx hb dX8_back_97 (by decide) ?_
              refine lv_iload hx hb dX8_back_98 (lv_at hl 5 rfl) ?_
              refine aftU_v (runMG (rest := []) (As := [.ref (xya z0 (p0).toNatClampNeg 7), .int 2, .int p3]) hx hb hml hown htb (U_X8_unload l D E q (p0).toNatClampNeg (xya z0 (p0).toNatClampNeg 7) 2 p3 _ zs28 hI hj (by rw [hT.2.2.2.2.2.2]) (by have h0 := t_2; omega)) ok_X8_unload k_878 k_880 ks_33 k_1 k_881 ⟨(Nat.le_of_ble_eq_true rfl), (Nat.le_of_ble_eq_true rfl)⟩ ⟨(Nat.le_of_ble_eq_true rfl), (Nat.le_of_ble_eq_true rfl)⟩ hl.1 (Nat.le_of_ble_eq_true rfl) rfl rfl dX8_back_100 (pmU nil_r hP hD hK (XW_c hP) rfl rfl 0 rfl)) nil_r hP hD hS hA (fun zs31 H locs hw_32 hP hD hS => ?_)
              have hP := nilP hP; have hD := nilD hD
              obtain ⟨hI, hw_32_0⟩ := hw_32
              have hT := hT.tr (TF_X8_unload hw_32_0)
              refine lv_aload hx hb dX8_back_103 (lv_at hl 0 rfl) ?_
              refine va_getN (D := D) (ci := 5) (v := .int (xyv zs31 (p0).toNatClampNeg 3)) (C := RX5) (T := TX5) (N := 11) hx hb htb iX5 hown hK.1 (XW_yy hj hT.2.2.2.2.2.2 hP) 0 rfl rfl 10 (by decide) (va_Nw.use rfl (hK.2.1 (Cond.fieldLinkNest RX8 272 "SeaWatches$Ship" "voyage" "I" "SeaWatches") (by decide +kernel))) (fun _ h9 => h9) rfl dX8_back_105 ?_
              exact W.iret (v := (xyv zs31 (p0).toNatClampNeg 3)) hx hb hr (fun t ht hW => ⟨⟨(xyv zs31 (p0).toNatClampNeg 3), zs31, rfl, ⟨hI, (Or.inr (Or.inr ⟨by unfold XBB; omega, by omega, by omega, rfl, zs22, zs25, zs28, hw_23_0, hw_26_0, hw_29_0, hw_32_0⟩))⟩, by rw [ht]; exact hP, hD⟩, hS.F ht⟩) hS.2.2 dX8_back_108
            ·
              have ic_20 : (xV z0 0).toInt ≤ (xyv z0 (p0).toNatClampNeg 2).toInt := by first | exact (g_le rfl rfl).mp c_20 | (have h := mt (g_lt rfl rfl).mpr c_20; omega)
              clear c_20
              refine lv_bipush (v := (-4)) hx hb dX8_back_66 (by decide) ?_
              exact W.iret (v := (-4)) hx hb hr (fun t ht hW => ⟨⟨(-4), z0, rfl, ⟨hI, (Or.inr (Or.inl ⟨by unfold XBB; omega, by omega, by have h0_ := t_m4; omega, hQ⟩))⟩, by rw [ht]; exact hP, hD⟩, hS.F ht⟩) hS.2.2 dX8_back_68
        ·
          try simp only [t_100000] at hw_14
          refine W_top (y := .int 0) (by rw [hr_13]) ?_
          refine lv_if_ne (tgt := 37) hx hb dX8_back_32 (by decide) (fun c_33 => absurd (by decide) c_33) (fun c_33 => ?_)
          refine lv_iconst (v := (-1)) hx hb dX8_back_35 (by decide) ?_
          exact W.iret (v := (-1)) hx hb hr (fun t ht hW => ⟨⟨(-1), z0, rfl, ⟨hI, (Or.inl ⟨by have h0_ := t_m1; omega, by unfold XBB; omega, hQ⟩)⟩, by rw [ht]; exact hP, hD⟩, hS.F ht⟩) hS.2.2 dX8_back_36
      ·
        try simp only [t_100000] at hw_10
        refine W_top (y := .int 0) (by rw [hr_9]) ?_
        refine lv_if_eq (tgt := 35) hx hb dX8_back_22 (by decide) (fun c_34 => ?_) (fun c_34 => absurd (by decide) c_34)
        refine lv_iconst (v := (-1)) hx hb dX8_back_35 (by decide) ?_
        exact W.iret (v := (-1)) hx hb hr (fun t ht hW => ⟨⟨(-1), z0, rfl, ⟨hI, (Or.inl ⟨by have h0_ := t_m1; omega, by unfold XBB; omega, hQ⟩)⟩, by rw [ht]; exact hP, hD⟩, hS.F ht⟩) hS.2.2 dX8_back_36
    ·
      try simp only [t_100000] at hw_6
      refine W_top (y := .int 0) (by rw [hr_5]) ?_
      refine lv_if_eq (tgt := 35) hx hb dX8_back_13 (by decide) (fun c_35 => ?_) (fun c_35 => absurd (by decide) c_35)
      refine lv_iconst (v := (-1)) hx hb dX8_back_35 (by decide) ?_
      exact W.iret (v := (-1)) hx hb hr (fun t ht hW => ⟨⟨(-1), z0, rfl, ⟨hI, (Or.inl ⟨by have h0_ := t_m1; omega, by unfold XBB; omega, hQ⟩)⟩, by rw [ht]; exact hP, hD⟩, hS.F ht⟩) hS.2.2 dX8_back_36
  ·
    refine W_top (y := .int 0) (by rw [hr_1]) ?_
    refine lv_if_eq (tgt := 35) hx hb dX8_back_4 (by decide) (fun c_36 => ?_) (fun c_36 => absurd (by decide) c_36)
    refine lv_iconst (v := (-1)) hx hb dX8_back_35 (by decide) ?_
    exact W.iret (v := (-1)) hx hb hr (fun t ht hW => ⟨⟨(-1), z0, rfl, ⟨hI, (Or.inl ⟨by have h0_ := t_m1; omega, by unfold XBB; omega, hQ⟩)⟩, by rw [ht]; exact hP, hD⟩, hS.F ht⟩) hS.2.2 dX8_back_36
end
section
theorem JQ_0 {g : Nat → Int32} {Q : Nat → Option Nat} (h : ∀ k : Nat, k < 16 → g k = -5) : JQ g Q := fun i hi hk => by
  rw [h i hi] at hk
  exact absurd hk (by decide)
/-! ===== for the law ===== -/
theorem lP {D : va_G} {a b : va_W} {H : Heap} (h : va_P D vwCl (a ++ b) H) : va_P D vwCl a H := vP_mono h (fun _ hz => List.mem_append_left _ hz)
theorem rP {D : va_G} {a b : va_W} {H : Heap} (h : va_P D vwCl (a ++ b) H) : va_P D vwCl b H := vP_mono h (fun _ hz => List.mem_append_right _ hz)
theorem sw_P {D : va_G} {a b : va_W} {H : Heap} (h : va_P D vwCl (a ++ b) H) : va_P D vwCl (b ++ a) H := vP_perm List.perm_append_comm h
theorem sw_D {A : Nat → Prop} {a b : va_W} (h : va_D A (a ++ b)) : va_D A (b ++ a) := vD_perm List.perm_append_comm h
theorem sc_in {i c : Int32} {n : Int} {L : Nat} (h0 : 0 ≤ i.toInt) (hc : c.toInt = n) (hn : 0 ≤ n) (hL : i.toInt + n < L) (hb : i.toInt + n ≤ 2147483647) : vp_in (i + c) L := g_in (g_add rfl hc (by omega) hb) (by omega) hL
theorem len_toInt {L : Nat} {z : Int32} (h : L ≤ 3072) (e : z = Int32.ofNat L) : z.toInt = L := by subst e; exact nI_toInt (by omega)
end
