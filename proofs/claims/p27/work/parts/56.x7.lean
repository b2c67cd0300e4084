set_option maxHeartbeats 4000000 in
set_option maxRecDepth 100000 in
theorem g_X4_workOut (l : Launch) (D : va_G) (E : Nat → Nat) (uh : Nat) (ua : Nat → Nat) (usize : Int32) (uf0 : Nat → Int32) (uf1 : Nat → Int32) (uf2 : Nat → Int32) (nx : Nat) (nxf : Nat → Int32) (sz : Nat) (hi_u : (0 ≤ usize.toInt ∧ usize.toInt ≤ 120)) : Met l yX4_workOut (wl yX4_workOut cX4_workOut 6 (some .int)) (RM 1 0 0) (mu_P D E [.ref uh, .ref nx] [(uh, .inr (4, G4 ua usize)), ((ua 0), .inl (E 0, 120, .inl uf0)), ((ua 1), .inl (E 0, 120, .inl uf1)), ((ua 2), .inl (E 0, 120, .inl uf2)), (nx, .inl (E 0, 9, .inl nxf))] sz) (va_Qi (fun (r : Int32) (u : (Nat → Int32)) => (r = hdC (evC uf0 uf1 nxf (usize).toNatClampNeg))) (mu_B D (va_A [(uh, .inr (4, G4 ua usize)), ((ua 0), .inl (E 0, 120, .inl uf0)), ((ua 1), .inl (E 0, 120, .inl uf1)), ((ua 2), .inl (E 0, 120, .inl uf2)), (nx, .inl (E 0, 9, .inl nxf))] sz) (fun (u : (Nat → Int32)) => [(uh, .inr (4, G4 ua usize)), ((ua 0), .inl (E 0, 120, .inl uf0)), ((ua 1), .inl (E 0, 120, .inl uf1)), ((ua 2), .inl (E 0, 120, .inl u)), (nx, .inl (E 0, 9, .inl nxf))])) (va_A [(uh, .inr (4, G4 ua usize)), ((ua 0), .inl (E 0, 120, .inl uf0)), ((ua 1), .inl (E 0, 120, .inl uf1)), ((ua 2), .inl (E 0, 120, .inl uf2)), (nx, .inl (E 0, 9, .inl nxf))] sz)) 0 0 (va_A [(uh, .inr (4, G4 ua usize)), ((ua 0), .inl (E 0, 120, .inl uf0)), ((ua 1), .inl (E 0, 120, .inl uf1)), ((ua 2), .inl (E 0, 120, .inl uf2)), (nx, .inl (E 0, 9, .inl nxf))] sz) := by
  refine Met.ofW (cc := cX4_workOut) (maxL := 6) (ret := (some .int)) (by decide) rfl ?_
  intro p e s m args below meth c s₁ B hml hv
  obtain ⟨rfl, hsz, hP, hK, hD0⟩ := hv
  have hx := B.exec; have hb := B.bytes; have hr := B.returns
  have hts := atoms_spec (ws := wl yX4_workOut cX4_workOut 6 (some .int)) B.pre
  have htb : ∀ w ∈ tb, w.before _ s = true := fun w h => hts w (List.mem_cons_of_mem _ h)
  have hown : s.vm.findClass RX4 = some m.cls := findClass_of_methodNamed B.named
  have hlocks := B.notSynchronized
  subst hsz
  have hD := hD0.self (sz := s.heap.size)
  generalize hAe : va_A [(uh, .inr (4, G4 ua usize)), ((ua 0), .inl (E 0, 120, .inl uf0)), ((ua 1), .inl (E 0, 120, .inl uf1)), ((ua 2), .inl (E 0, 120, .inl uf2)), (nx, .inl (E 0, 9, .inl nxf))] s.heap.size = A at hD ⊢
  have hA : ∀ q : Nat, s.heap.size ≤ q → A q := fun q h => by rw [← hAe]; exact Or.inr h
  have hS : va_S A s.heap s.heap [] := va_S.rf
  have hP : va_P D vwCl [(uh, .inr (4, G4 ua usize)), ((ua 0), .inl (E 0, 120, .inl uf0)), ((ua 1), .inl (E 0, 120, .inl uf1)), ((ua 2), .inl (E 0, 120, .inl uf2)), (nx, .inl (E 0, 9, .inl nxf))] s.heap := hP
  have hl := lv_entry ([.ref uh, .ref nx]) (n := 6) (Nat.le_of_ble_eq_true rfl)
  rw [lg_entry_eq]
  generalize (lg_sl ([.ref uh, .ref nx]) ++ List.replicate (6 - (lg_sl ([.ref uh, .ref nx])).length) Slot.unset).toArray = ls at hl ⊢
  have hl : lv_has ls 6 [(0, .ref uh), (1, .ref nx)] := hl
  refine lv_iconst (v := 0) hx hb dX4_workOut_0 (by decide) ?_
  refine lv_istore_n (lv' := [(2, .int 0), (0, .ref uh), (1, .ref nx)]) hx hb dX4_workOut_1 rfl hl (by decide) rfl (fun ls hl => ?_)
  refine lv_iconst (v := 0) hx hb dX4_workOut_2 (by decide) ?_
  refine lv_istore_n (lv' := [(3, .int 0), (2, .int 0), (0, .ref uh), (1, .ref nx)]) hx hb dX4_workOut_3 rfl hl (by decide) rfl (fun ls hl => ?_)
  have loop_1 : ∀ (N_3 : Nat) (L3_4 : Int32) (L2_4 : Int32) (uf2_4 : Nat → Int32) (H : Heap) (locs : List Loc) (ls : Array Slot), usize.toInt - L3_4.toInt < (N_3 : Int) → (0 ≤ L3_4.toInt ∧ L3_4.toInt ≤ usize.toInt) → (0 ≤ L2_4.toInt ∧ L2_4.toInt ≤ 120) → (stkI uf2_4 (L2_4).toNatClampNeg = evC uf0 uf1 nxf (L3_4).toNatClampNeg) → va_P D vwCl [(uh, .inr (4, G4 ua usize)), ((ua 0), .inl (E 0, 120, .inl uf0)), ((ua 1), .inl (E 0, 120, .inl uf1)), ((ua 2), .inl (E 0, 120, .inl uf2_4)), (nx, .inl (E 0, 9, .inl nxf))] H → va_D A [(uh, .inr (4, G4 ua usize)), ((ua 0), .inl (E 0, 120, .inl uf0)), ((ua 1), .inl (E 0, 120, .inl uf1)), ((ua 2), .inl (E 0, 120, .inl uf2_4)), (nx, .inl (E 0, 9, .inl nxf))] → va_S A s.heap H locs → lv_has ls 6 [(3, .int L3_4), (2, .int L2_4), (0, .ref uh), (1, .ref nx)] → W p l e (headSpec (wl yX4_workOut cX4_workOut 6 (some .int)) (RM 1 0 0)).room s m [Value.ref uh, .ref nx].toArray below meth c H locs 0 0 (MQ below (va_Qi (fun (r : Int32) (u : (Nat → Int32)) => (r = hdC (evC uf0 uf1 nxf (usize).toNatClampNeg))) (mu_B D A (fun (u : (Nat → Int32)) => [(uh, .inr (4, G4 ua usize)), ((ua 0), .inl (E 0, 120, .inl uf0)), ((ua 1), .inl (E 0, 120, .inl uf1)), ((ua 2), .inl (E 0, 120, .inl u)), (nx, .inl (E 0, 9, .inl nxf))])) A) [Value.ref uh, .ref nx].toArray s 0 0 A) (F0 m 4 ls []) := by
    intro N_3
    induction N_3 with
    | zero => intro L3_4 L2_4 uf2_4 H locs ls hm v0_4 v1_4 v2_4 _ _ _ _; exfalso; omega
    | succ N_3 ih_2 =>
      intro L3_4 L2_4 uf2_4 H locs ls hm v0_4 v1_4 v2_4 hP hD hS hl
      have lo_L3_4 := i_lo L3_4; have hi_L3_4 := i_hi L3_4
      have lo_L2_4 := i_lo L2_4; have hi_L2_4 := i_hi L2_4
      refine lv_iload_n hx hb dX4_workOut_4 rfl (lv_at hl 0 rfl) ?_
      refine lv_aload_n hx hb dX4_workOut_5 rfl (lv_at hl 2 rfl) ?_
      refine va_get (D := D) (ci := 4) (v := .int usize) (C := RX4) (T := TX4) (N := 4) hx hb htb iX4 hown hK.1 hP 0 rfl rfl 3 (by decide) (htb _ k_144) (fun _ h9 => h9) rfl dX4_workOut_6 ?_
      refine lv_icmp_ge (tgt := 172) hx hb dX4_workOut_9 (by decide) (fun c_4 => ?_) (fun c_4 => ?_)
      ·
        have ic_4 : usize.toInt ≤ L3_4.toInt := by first | exact (g_le rfl rfl).mp c_4 | (have h := mt (g_lt rfl rfl).mpr c_4; omega)
        clear c_4
        refine lv_iload_n hx hb dX4_workOut_172 rfl (lv_at hl 1 rfl) ?_
        refine lv_if_le (tgt := 187) hx hb dX4_workOut_173 (by decide) (fun c_5 => ?_) (fun c_5 => ?_)
        ·
          have ic_5 : L2_4.toInt ≤ 0 := by first | exact (g_le rfl t_0).mp c_5 | (have h := mt (g_lt t_0 rfl).mpr c_5; omega)
          clear c_5
          refine lv_iconst (v := 0) hx hb dX4_workOut_187 (by decide) ?_
          have hP9 := hP.sub (ws' := [(uh, .inr (4, G4 ua usize)), ((ua 0), .inl (E 0, 120, .inl uf0)), ((ua 1), .inl (E 0, 120, .inl uf1)), ((ua 2), .inl (E 0, 120, .inl uf2_4)), (nx, .inl (E 0, 9, .inl nxf))]) [0, 1, 2, 3, 4] rfl
          have hD9 := hD.sub (ws' := [(uh, .inr (4, G4 ua usize)), ((ua 0), .inl (E 0, 120, .inl uf0)), ((ua 1), .inl (E 0, 120, .inl uf1)), ((ua 2), .inl (E 0, 120, .inl uf2_4)), (nx, .inl (E 0, 9, .inl nxf))]) [0, 1, 2, 3, 4] (by decide) rfl
          exact W.iret (v := 0) hx hb hr (fun t ht hW => ⟨⟨0, uf2_4, rfl, (by have c8 := i_clamp0 (x := L3_4) (by omega); have c9 := i_clamp0 (x := usize) (by omega); have c7 := i_clamp0 (x := L2_4) (by omega); rw [show (usize).toNatClampNeg = (L3_4).toNatClampNeg by omega, ← v2_4]; rw [show (L2_4).toNatClampNeg = 0 by omega]; rfl), by rw [ht]; exact hP9, hD9⟩, hS.F ht⟩) hS.2.2 dX4_workOut_188
        ·
          have ic_5 : 0 < L2_4.toInt := by first | exact (g_lt t_0 rfl).mp c_5 | (have h := mt (g_le rfl t_0).mpr c_5; omega)
          clear c_5
          refine lv_aload_n hx hb dX4_workOut_176 rfl (lv_at hl 2 rfl) ?_
          refine va_get (D := D) (ci := 4) (v := .ref (ua 2)) (C := RX4) (T := TX4) (N := 4) hx hb htb iX4 hown hK.1 hP 0 rfl rfl 2 (by decide) (htb _ k_143) (fun _ h9 => h9) rfl dX4_workOut_177 ?_
          refine lv_iload_n hx hb dX4_workOut_180 rfl (lv_at hl 1 rfl) ?_
          refine lv_iconst (v := 1) hx hb dX4_workOut_181 (by decide) ?_
          refine lv_isub hx hb dX4_workOut_182 ?_
          refine lv_topi (fun z_6 ez_6 => ?_)
          have jz_6 : z_6.toInt = L2_4.toInt - 1 := by rw [ez_6]; exact g_sub rfl t_1 (by omega) (by omega)
          refine va_iald hx hb hK.1 hP 3 0 rfl rfl (g_in rfl (by omega) (by omega)) dX4_workOut_183 ?_
          refine lv_topi (fun z_7 ez_7 => ?_)
          have kz_7 := congrArg Int32.toInt ez_7
          refine lv_goto (tgt := 188) hx hb dX4_workOut_184 (by decide) ?_
          have hP9 := hP.sub (ws' := [(uh, .inr (4, G4 ua usize)), ((ua 0), .inl (E 0, 120, .inl uf0)), ((ua 1), .inl (E 0, 120, .inl uf1)), ((ua 2), .inl (E 0, 120, .inl uf2_4)), (nx, .inl (E 0, 9, .inl nxf))]) [0, 1, 2, 3, 4] rfl
          have hD9 := hD.sub (ws' := [(uh, .inr (4, G4 ua usize)), ((ua 0), .inl (E 0, 120, .inl uf0)), ((ua 1), .inl (E 0, 120, .inl uf1)), ((ua 2), .inl (E 0, 120, .inl uf2_4)), (nx, .inl (E 0, 9, .inl nxf))]) [0, 1, 2, 3, 4] (by decide) rfl
          exact W.iret (v := z_7) hx hb hr (fun t ht hW => ⟨⟨z_7, uf2_4, rfl, (by have c8 := i_clamp0 (x := L3_4) (by omega); have c9 := i_clamp0 (x := usize) (by omega); have c7 := i_clamp0 (x := L2_4) (by omega); rw [show (usize).toNatClampNeg = (L3_4).toNatClampNeg by omega, ← v2_4]; rw [stk_1 (i := z_6) (by omega) (by omega)]; exact ez_7), by rw [ht]; exact hP9, hD9⟩, hS.F ht⟩) hS.2.2 dX4_workOut_188
      ·
        have ic_4 : L3_4.toInt < usize.toInt := by first | exact (g_lt rfl rfl).mp c_4 | (have h := mt (g_le rfl rfl).mpr c_4; omega)
        clear c_4
        refine lv_aload_n hx hb dX4_workOut_12 rfl (lv_at hl 2 rfl) ?_
        refine va_get (D := D) (ci := 4) (v := .ref (ua 0)) (C := RX4) (T := TX4) (N := 4) hx hb htb iX4 hown hK.1 hP 0 rfl rfl 0 (by decide) (htb _ k_141) (fun _ h9 => h9) rfl dX4_workOut_13 ?_
        refine lv_iload_n hx hb dX4_workOut_16 rfl (lv_at hl 0 rfl) ?_
        refine va_iald hx hb hK.1 hP 1 0 rfl rfl (g_in rfl (by omega) (by omega)) dX4_workOut_17 ?_
        refine lv_topi (fun z_8 ez_8 => ?_)
        have kz_8 := congrArg Int32.toInt ez_8
        refine lv_istore (lv' := [(4, .int z_8), (3, .int L3_4), (2, .int L2_4), (0, .ref uh), (1, .ref nx)]) hx hb dX4_workOut_18 hl (by decide) rfl (fun ls hl => ?_)
        refine lv_aload_n hx hb dX4_workOut_20 rfl (lv_at hl 3 rfl) ?_
        refine va_get (D := D) (ci := 4) (v := .ref (ua 1)) (C := RX4) (T := TX4) (N := 4) hx hb htb iX4 hown hK.1 hP 0 rfl rfl 1 (by decide) (htb _ k_142) (fun _ h9 => h9) rfl dX4_workOut_21 ?_
        refine lv_iload_n hx hb dX4_workOut_24 rfl (lv_at hl 1 rfl) ?_
        refine va_iald hx hb hK.1 hP 2 0 rfl rfl (g_in rfl (by omega) (by omega)) dX4_workOut_25 ?_
        refine lv_topi (fun z_9 ez_9 => ?_)
        have kz_9 := congrArg Int32.toInt ez_9
        refine lv_istore (lv' := [(5, .int z_9), (4, .int z_8), (3, .int L3_4), (2, .int L2_4), (0, .ref uh), (1, .ref nx)]) hx hb dX4_workOut_26 hl (by decide) rfl (fun ls hl => ?_)
        refine lv_iload hx hb dX4_workOut_28 (lv_at hl 1 rfl) ?_
        refine lv_iconst (v := 2) hx hb dX4_workOut_30 (by decide) ?_
        refine lv_icmp_ne (tgt := 54) hx hb dX4_workOut_31 (by decide) (fun c_10 => ?_) (fun c_10 => ?_)
        ·
          have ic_10 : z_8.toInt ≠ 2 := mt (g_eq rfl t_2).mpr c_10
          clear c_10
          refine lv_iload hx hb dX4_workOut_54 (lv_at hl 1 rfl) ?_
          refine lv_iconst (v := 3) hx hb dX4_workOut_56 (by decide) ?_
          refine lv_icmp_ne (tgt := 94) hx hb dX4_workOut_57 (by decide) (fun c_11 => ?_) (fun c_11 => ?_)
          ·
            have ic_11 : z_8.toInt ≠ 3 := mt (g_eq rfl t_3).mpr c_11
            clear c_11
            refine lv_iload hx hb dX4_workOut_94 (lv_at hl 1 rfl) ?_
            refine callRS (rest := []) (As := [.int z_8]) hx hb hml hown htb hK (g_X4_isAhead l D E z_8 ) ok_X4_isAhead k_756 k_757 k_6 k_758 ⟨(Nat.le_of_ble_eq_true rfl), (Nat.le_of_ble_eq_true rfl)⟩ ⟨(Nat.le_of_ble_eq_true rfl), (Nat.le_of_ble_eq_true rfl)⟩ hl.1 (Nat.le_of_ble_eq_true rfl) rfl rfl dX4_workOut_96 (hP.sub (ws' := ([] : va_W)) [] rfl) (fun r_12 hw_13 => ?_)
            rcases hw_13 with ⟨hr_12, hw_13⟩ | ⟨hr_12, hw_13⟩
            ·
              refine W_top (y := .int 1) (by rw [hr_12]) ?_
              refine lv_if_eq (tgt := 131) hx hb dX4_workOut_99 (by decide) (fun c_15 => absurd c_15 (by decide)) (fun c_15 => ?_)
              refine lv_iload_n hx hb dX4_workOut_102 rfl (lv_at hl 3 rfl) ?_
              refine lv_iconst (v := 1) hx hb dX4_workOut_103 (by decide) ?_
              refine lv_icmp_lt (tgt := 131) hx hb dX4_workOut_104 (by decide) (fun c_16 => ?_) (fun c_16 => ?_)
              ·
                have ic_16 : L2_4.toInt < 1 := by first | exact (g_lt rfl t_1).mp c_16 | (have h := mt (g_le t_1 rfl).mpr c_16; omega)
                clear c_16
                refine lv_iload_n hx hb dX4_workOut_131 rfl (lv_at hl 3 rfl) ?_
                refine lv_iconst (v := 2) hx hb dX4_workOut_132 (by decide) ?_
                refine lv_icmp_lt (tgt := 166) hx hb dX4_workOut_133 (by decide) (fun c_17 => ?_) (fun c_17 => absurd (by rw [g_lt rfl t_2]; omega) c_17)
                obtain ⟨z_18, ez_18⟩ : ∃ y : Int32, y = L3_4 + 1 := ⟨_, rfl⟩
                have jz_18 : z_18.toInt = L3_4.toInt + 1 := by rw [ez_18]; exact g_add rfl t_1 (by omega) (by omega)
                refine lv_iinc (v := z_18) (lv' := [(3, .int z_18), (5, .int z_9), (4, .int z_8), (2, .int L2_4), (0, .ref uh), (1, .ref nx)]) hx hb dX4_workOut_166 hl (k := 2) rfl (by rw [ez_18]; rfl) (by decide) rfl (fun ls hl => ?_)
                refine lv_goto (tgt := 4) hx hb dX4_workOut_169 (by decide) ?_
                exact ih_2 z_18 L2_4 uf2_4 _ _ _ (by (try dsimp only); omega) (by (try dsimp only); omega) (by (try dsimp only); omega) (by exact WO_no v2_4 (by omega) jz_18 ez_8 ez_9 (by omega) (by omega) (by omega) (by omega) (by omega)) hP hD hS (lv_sub hl [0, 3, 4, 5] rfl)
              ·
                have ic_16 : 1 ≤ L2_4.toInt := by first | exact (g_le t_1 rfl).mp c_16 | (have h := mt (g_lt rfl t_1).mpr c_16; omega)
                clear c_16
                refine lv_aload_n hx hb dX4_workOut_107 rfl (lv_at hl 4 rfl) ?_
                refine va_get (D := D) (ci := 4) (v := .ref (ua 2)) (C := RX4) (T := TX4) (N := 4) hx hb htb iX4 hown hK.1 hP 0 rfl rfl 2 (by decide) (htb _ k_143) (fun _ h9 => h9) rfl dX4_workOut_108 ?_
                refine lv_iload_n hx hb dX4_workOut_111 rfl (lv_at hl 3 rfl) ?_
                refine lv_iconst (v := 1) hx hb dX4_workOut_112 (by decide) ?_
                refine lv_isub hx hb dX4_workOut_113 ?_
                refine lv_topi (fun z_19 ez_19 => ?_)
                have jz_19 : z_19.toInt = L2_4.toInt - 1 := by rw [ez_19]; exact g_sub rfl t_1 (by omega) (by omega)
                refine lv_iload hx hb dX4_workOut_114 (lv_at hl 1 rfl) ?_
                refine lv_aload_n hx hb dX4_workOut_116 rfl (lv_at hl 4 rfl) ?_
                refine va_get (D := D) (ci := 4) (v := .ref (ua 2)) (C := RX4) (T := TX4) (N := 4) hx hb htb iX4 hown hK.1 hP 0 rfl rfl 2 (by decide) (htb _ k_143) (fun _ h9 => h9) rfl dX4_workOut_117 ?_
                refine lv_iload_n hx hb dX4_workOut_120 rfl (lv_at hl 3 rfl) ?_
                refine lv_iconst (v := 1) hx hb dX4_workOut_121 (by decide) ?_
                refine lv_isub hx hb dX4_workOut_122 ?_
                refine lv_topi (fun z_20 ez_20 => ?_)
                have jz_20 : z_20.toInt = L2_4.toInt - 1 := by rw [ez_20]; exact g_sub rfl t_1 (by omega) (by omega)
                refine va_iald hx hb hK.1 hP 3 0 rfl rfl (g_in rfl (by omega) (by omega)) dX4_workOut_123 ?_
                refine lv_topi (fun z_21 ez_21 => ?_)
                have kz_21 := congrArg Int32.toInt ez_21
                refine callRS (rest := [.int z_19, .ref (ua 2)]) (As := [.int z_8, .int z_21]) hx hb hml hown htb hK (g_X4_workOutOne l D E z_8 z_21 ) ok_X4_workOutOne k_759 k_760 k_6 k_761 ⟨(Nat.le_of_ble_eq_true rfl), (Nat.le_of_ble_eq_true rfl)⟩ ⟨(Nat.le_of_ble_eq_true rfl), (Nat.le_of_ble_eq_true rfl)⟩ hl.1 (Nat.le_of_ble_eq_true rfl) rfl rfl dX4_workOut_124 (hP.sub (ws' := ([] : va_W)) [] rfl) (fun r_22 hw_23 => ?_)
                refine va_iast hx hb hK.1 hP hD hS 3 0 rfl rfl (g_in rfl (by omega) (by omega)) dX4_workOut_127 (fun H locs hP hD hS => ?_)
                have hP : va_P D vwCl [(uh, .inr (4, G4 ua usize)), ((ua 0), .inl (E 0, 120, .inl uf0)), ((ua 1), .inl (E 0, 120, .inl uf1)), ((ua 2), .inl (E 0, 120, .inl (upd uf2_4 (z_19 : Int32).toNatClampNeg r_22))), (nx, .inl (E 0, 9, .inl nxf))] H := hP
                have hD := toW hP hD rfl
                refine lv_goto (tgt := 166) hx hb dX4_workOut_128 (by decide) ?_
                obtain ⟨z_25, ez_25⟩ : ∃ y : Int32, y = L3_4 + 1 := ⟨_, rfl⟩
                have jz_25 : z_25.toInt = L3_4.toInt + 1 := by rw [ez_25]; exact g_add rfl t_1 (by omega) (by omega)
                refine lv_iinc (v := z_25) (lv' := [(3, .int z_25), (5, .int z_9), (4, .int z_8), (2, .int L2_4), (0, .ref uh), (1, .ref nx)]) hx hb dX4_workOut_166 hl (k := 2) rfl (by rw [ez_25]; rfl) (by decide) rfl (fun ls hl => ?_)
                refine lv_goto (tgt := 4) hx hb dX4_workOut_169 (by decide) ?_
                exact ih_2 z_25 L2_4 (upd uf2_4 (z_19 : Int32).toNatClampNeg r_22) _ _ _ (by (try dsimp only); omega) (by (try dsimp only); omega) (by (try dsimp only); omega) (by exact WO_un v2_4 (by omega) jz_25 ez_8 (by omega) (by omega) (by omega) (by omega) ez_21 hw_23) hP hD hS (lv_sub hl [0, 3, 4, 5] rfl)
            ·
              refine W_top (y := .int 0) (by rw [hr_12]) ?_
              refine lv_if_eq (tgt := 131) hx hb dX4_workOut_99 (by decide) (fun c_26 => ?_) (fun c_26 => absurd (by decide) c_26)
              refine lv_iload_n hx hb dX4_workOut_131 rfl (lv_at hl 3 rfl) ?_
              refine lv_iconst (v := 2) hx hb dX4_workOut_132 (by decide) ?_
              refine lv_icmp_lt (tgt := 166) hx hb dX4_workOut_133 (by decide) (fun c_27 => ?_) (fun c_27 => ?_)
              ·
                have ic_27 : L2_4.toInt < 2 := by first | exact (g_lt rfl t_2).mp c_27 | (have h := mt (g_le t_2 rfl).mpr c_27; omega)
                clear c_27
                obtain ⟨z_28, ez_28⟩ : ∃ y : Int32, y = L3_4 + 1 := ⟨_, rfl⟩
                have jz_28 : z_28.toInt = L3_4.toInt + 1 := by rw [ez_28]; exact g_add rfl t_1 (by omega) (by omega)
                refine lv_iinc (v := z_28) (lv' := [(3, .int z_28), (5, .int z_9), (4, .int z_8), (2, .int L2_4), (0, .ref uh), (1, .ref nx)]) hx hb dX4_workOut_166 hl (k := 2) rfl (by rw [ez_28]; rfl) (by decide) rfl (fun ls hl => ?_)
                refine lv_goto (tgt := 4) hx hb dX4_workOut_169 (by decide) ?_
                exact ih_2 z_28 L2_4 uf2_4 _ _ _ (by (try dsimp only); omega) (by (try dsimp only); omega) (by (try dsimp only); omega) (by exact WO_no v2_4 (by omega) jz_28 ez_8 ez_9 (by omega) (by omega) (by omega) (by omega) (by omega)) hP hD hS (lv_sub hl [0, 3, 4, 5] rfl)
              ·
                have ic_27 : 2 ≤ L2_4.toInt := by first | exact (g_le t_2 rfl).mp c_27 | (have h := mt (g_lt rfl t_2).mpr c_27; omega)
                clear c_27
                obtain ⟨z_29, ez_29⟩ : ∃ y : Int32, y = L2_4 + (-1) := ⟨_, rfl⟩
                have jz_29 : z_29.toInt = L2_4.toInt + -1 := by rw [ez_29]; exact g_add rfl t_m1 (by omega) (by omega)
                refine lv_iinc (v := z_29) (lv' := [(2, .int z_29), (5, .int z_9), (4, .int z_8), (3, .int L3_4), (0, .ref uh), (1, .ref nx)]) hx hb dX4_workOut_136 hl (k := 3) rfl (by rw [ez_29]; rfl) (by decide) rfl (fun ls hl => ?_)
                refine lv_aload_n hx hb dX4_workOut_139 rfl (lv_at hl 4 rfl) ?_
                refine va_get (D := D) (ci := 4) (v := .ref (ua 2)) (C := RX4) (T := TX4) (N := 4) hx hb htb iX4 hown hK.1 hP 0 rfl rfl 2 (by decide) (htb _ k_143) (fun _ h9 => h9) rfl dX4_workOut_140 ?_
                refine lv_iload_n hx hb dX4_workOut_143 rfl (lv_at hl 0 rfl) ?_
                refine lv_iconst (v := 1) hx hb dX4_workOut_144 (by decide) ?_
                refine lv_isub hx hb dX4_workOut_145 ?_
                refine lv_topi (fun z_30 ez_30 => ?_)
                have jz_30 : z_30.toInt = z_29.toInt - 1 := by rw [ez_30]; exact g_sub rfl t_1 (by omega) (by omega)
                refine lv_iload hx hb dX4_workOut_146 (lv_at hl 2 rfl) ?_
                refine lv_aload_n hx hb dX4_workOut_148 rfl (lv_at hl 4 rfl) ?_
                refine va_get (D := D) (ci := 4) (v := .ref (ua 2)) (C := RX4) (T := TX4) (N := 4) hx hb htb iX4 hown hK.1 hP 0 rfl rfl 2 (by decide) (htb _ k_143) (fun _ h9 => h9) rfl dX4_workOut_149 ?_
                refine lv_iload_n hx hb dX4_workOut_152 rfl (lv_at hl 0 rfl) ?_
                refine lv_iconst (v := 1) hx hb dX4_workOut_153 (by decide) ?_
                refine lv_isub hx hb dX4_workOut_154 ?_
                refine lv_topi (fun z_31 ez_31 => ?_)
                have jz_31 : z_31.toInt = z_29.toInt - 1 := by rw [ez_31]; exact g_sub rfl t_1 (by omega) (by omega)
                refine va_iald hx hb hK.1 hP 3 0 rfl rfl (g_in rfl (by omega) (by omega)) dX4_workOut_155 ?_
                refine lv_topi (fun z_32 ez_32 => ?_)
                have kz_32 := congrArg Int32.toInt ez_32
                refine lv_aload_n hx hb dX4_workOut_156 rfl (lv_at hl 4 rfl) ?_
                refine va_get (D := D) (ci := 4) (v := .ref (ua 2)) (C := RX4) (T := TX4) (N := 4) hx hb htb iX4 hown hK.1 hP 0 rfl rfl 2 (by decide) (htb _ k_143) (fun _ h9 => h9) rfl dX4_workOut_157 ?_
                refine lv_iload_n hx hb dX4_workOut_160 rfl (lv_at hl 0 rfl) ?_
                refine va_iald hx hb hK.1 hP 3 0 rfl rfl (g_in rfl (by omega) (by omega)) dX4_workOut_161 ?_
                refine lv_topi (fun z_33 ez_33 => ?_)
                have kz_33 := congrArg Int32.toInt ez_33
                refine callRS (rest := [.int z_30, .ref (ua 2)]) (As := [.int z_8, .int z_32, .int z_33]) hx hb hml hown htb hK (g_X4_workOutTwo l D E z_8 z_32 z_33 ) ok_X4_workOutTwo k_762 k_763 k_6 k_764 ⟨(Nat.le_of_ble_eq_true rfl), (Nat.le_of_ble_eq_true rfl)⟩ ⟨(Nat.le_of_ble_eq_true rfl), (Nat.le_of_ble_eq_true rfl)⟩ hl.1 (Nat.le_of_ble_eq_true rfl) rfl rfl dX4_workOut_162 (hP.sub (ws' := ([] : va_W)) [] rfl) (fun r_34 hw_35 => ?_)
                refine va_iast hx hb hK.1 hP hD hS 3 0 rfl rfl (g_in rfl (by omega) (by omega)) dX4_workOut_165 (fun H locs hP hD hS => ?_)
                have hP : va_P D vwCl [(uh, .inr (4, G4 ua usize)), ((ua 0), .inl (E 0, 120, .inl uf0)), ((ua 1), .inl (E 0, 120, .inl uf1)), ((ua 2), .inl (E 0, 120, .inl (upd uf2_4 (z_30 : Int32).toNatClampNeg r_34))), (nx, .inl (E 0, 9, .inl nxf))] H := hP
                have hD := toW hP hD rfl
                obtain ⟨z_37, ez_37⟩ : ∃ y : Int32, y = L3_4 + 1 := ⟨_, rfl⟩
                have jz_37 : z_37.toInt = L3_4.toInt + 1 := by rw [ez_37]; exact g_add rfl t_1 (by omega) (by omega)
                refine lv_iinc (v := z_37) (lv' := [(3, .int z_37), (2, .int z_29), (5, .int z_9), (4, .int z_8), (0, .ref uh), (1, .ref nx)]) hx hb dX4_workOut_166 hl (k := 3) rfl (by rw [ez_37]; rfl) (by decide) rfl (fun ls hl => ?_)
                refine lv_goto (tgt := 4) hx hb dX4_workOut_169 (by decide) ?_
                exact ih_2 z_37 z_29 (upd uf2_4 (z_30 : Int32).toNatClampNeg r_34) _ _ _ (by (try dsimp only); omega) (by (try dsimp only); omega) (by (try dsimp only); omega) (by exact WO_bin v2_4 (by omega) jz_37 ez_8 ez_9 (by omega) (by omega) (by omega) (by omega) jz_29 (by omega) (by omega) ez_32 ez_33 hw_35) hP hD hS (lv_sub hl [0, 1, 4, 5] rfl)
          ·
            have ic_11 : z_8.toInt = 3 := (g_eq rfl t_3).mp c_11
            clear c_11
            refine lv_iload_n hx hb dX4_workOut_60 rfl (lv_at hl 3 rfl) ?_
            refine lv_bipush (v := 120) hx hb dX4_workOut_61 (by decide) ?_
            refine lv_icmp_ge (tgt := 94) hx hb dX4_workOut_63 (by decide) (fun c_38 => ?_) (fun c_38 => ?_)
            ·
              have ic_38 : 120 ≤ L2_4.toInt := by first | exact (g_le t_120 rfl).mp c_38 | (have h := mt (g_lt rfl t_120).mpr c_38; omega)
              clear c_38
              refine lv_iload hx hb dX4_workOut_94 (lv_at hl 1 rfl) ?_
              refine callRS (rest := []) (As := [.int z_8]) hx hb hml hown htb hK (g_X4_isAhead l D E z_8 ) ok_X4_isAhead k_756 k_757 k_6 k_758 ⟨(Nat.le_of_ble_eq_true rfl), (Nat.le_of_ble_eq_true rfl)⟩ ⟨(Nat.le_of_ble_eq_true rfl), (Nat.le_of_ble_eq_true rfl)⟩ hl.1 (Nat.le_of_ble_eq_true rfl) rfl rfl dX4_workOut_96 (hP.sub (ws' := ([] : va_W)) [] rfl) (fun r_39 hw_40 => ?_)
              rcases hw_40 with ⟨hr_39, hw_40⟩ | ⟨hr_39, hw_40⟩
              ·
                refine W_top (y := .int 1) (by rw [hr_39]) ?_
                refine lv_if_eq (tgt := 131) hx hb dX4_workOut_99 (by decide) (fun c_42 => absurd c_42 (by decide)) (fun c_42 => ?_)
                refine lv_iload_n hx hb dX4_workOut_102 rfl (lv_at hl 3 rfl) ?_
                refine lv_iconst (v := 1) hx hb dX4_workOut_103 (by decide) ?_
                refine lv_icmp_lt (tgt := 131) hx hb dX4_workOut_104 (by decide) (fun c_43 => absurd c_43 (by rw [g_lt rfl t_1]; omega)) (fun c_43 => ?_)
                refine lv_aload_n hx hb dX4_workOut_107 rfl (lv_at hl 4 rfl) ?_
                refine va_get (D := D) (ci := 4) (v := .ref (ua 2)) (C := RX4) (T := TX4) (N := 4) hx hb htb iX4 hown hK.1 hP 0 rfl rfl 2 (by decide) (htb _ k_143) (fun _ h9 => h9) rfl dX4_workOut_108 ?_
                refine lv_iload_n hx hb dX4_workOut_111 rfl (lv_at hl 3 rfl) ?_
                refine lv_iconst (v := 1) hx hb dX4_workOut_112 (by decide) ?_
                refine lv_isub hx hb dX4_workOut_113 ?_
                refine lv_topi (fun z_44 ez_44 => ?_)
                have jz_44 : z_44.toInt = L2_4.toInt - 1 := by rw [ez_44]; exact g_sub rfl t_1 (by omega) (by omega)
                refine lv_iload hx hb dX4_workOut_114 (lv_at hl 1 rfl) ?_
                refine lv_aload_n hx hb dX4_workOut_116 rfl (lv_at hl 4 rfl) ?_
                refine va_get (D := D) (ci := 4) (v := .ref (ua 2)) (C := RX4) (T := TX4) (N := 4) hx hb htb iX4 hown hK.1 hP 0 rfl rfl 2 (by decide) (htb _ k_143) (fun _ h9 => h9) rfl dX4_workOut_117 ?_
                refine lv_iload_n hx hb dX4_workOut_120 rfl (lv_at hl 3 rfl) ?_
                refine lv_iconst (v := 1) hx hb dX4_workOut_121 (by decide) ?_
                refine lv_isub hx hb dX4_workOut_122 ?_
                refine lv_topi (fun z_45 ez_45 => ?_)
                have jz_45 : z_45.toInt = L2_4.toInt - 1 := by rw [ez_45]; exact g_sub rfl t_1 (by omega) (by omega)
                refine va_iald hx hb hK.1 hP 3 0 rfl rfl (g_in rfl (by omega) (by omega)) dX4_workOut_123 ?_
                refine lv_topi (fun z_46 ez_46 => ?_)
                have kz_46 := congrArg Int32.toInt ez_46
                refine callRS (rest := [.int z_44, .ref (ua 2)]) (As := [.int z_8, .int z_46]) hx hb hml hown htb hK (g_X4_workOutOne l D E z_8 z_46 ) ok_X4_workOutOne k_759 k_760 k_6 k_761 ⟨(Nat.le_of_ble_eq_true rfl), (Nat.le_of_ble_eq_true rfl)⟩ ⟨(Nat.le_of_ble_eq_true rfl), (Nat.le_of_ble_eq_true rfl)⟩ hl.1 (Nat.le_of_ble_eq_true rfl) rfl rfl dX4_workOut_124 (hP.sub (ws' := ([] : va_W)) [] rfl) (fun r_47 hw_48 => ?_)
                refine va_iast hx hb hK.1 hP hD hS 3 0 rfl rfl (g_in rfl (by omega) (by omega)) dX4_workOut_127 (fun H locs hP hD hS => ?_)
                have hP : va_P D vwCl [(uh, .inr (4, G4 ua usize)), ((ua 0), .inl (E 0, 120, .inl uf0)), ((ua 1), .inl (E 0, 120, .inl uf1)), ((ua 2), .inl (E 0, 120, .inl (upd uf2_4 (z_44 : Int32).toNatClampNeg r_47))), (nx, .inl (E 0, 9, .inl nxf))] H := hP
                have hD := toW hP hD rfl
                refine lv_goto (tgt := 166) hx hb dX4_workOut_128 (by decide) ?_
                obtain ⟨z_50, ez_50⟩ : ∃ y : Int32, y = L3_4 + 1 := ⟨_, rfl⟩
                have jz_50 : z_50.toInt = L3_4.toInt + 1 := by rw [ez_50]; exact g_add rfl t_1 (by omega) (by omega)
                refine lv_iinc (v := z_50) (lv' := [(3, .int z_50), (5, .int z_9), (4, .int z_8), (2, .int L2_4), (0, .ref uh), (1, .ref nx)]) hx hb dX4_workOut_166 hl (k := 2) rfl (by rw [ez_50]; rfl) (by decide) rfl (fun ls hl => ?_)
                refine lv_goto (tgt := 4) hx hb dX4_workOut_169 (by decide) ?_
                exact ih_2 z_50 L2_4 (upd uf2_4 (z_44 : Int32).toNatClampNeg r_47) _ _ _ (by (try dsimp only); omega) (by (try dsimp only); omega) (by (try dsimp only); omega) (by exact WO_un v2_4 (by omega) jz_50 ez_8 (by omega) (by omega) (by omega) (by omega) ez_46 hw_48) hP hD hS (lv_sub hl [0, 3, 4, 5] rfl)
              ·
                refine W_top (y := .int 0) (by rw [hr_39]) ?_
                refine lv_if_eq (tgt := 131) hx hb dX4_workOut_99 (by decide) (fun c_51 => ?_) (fun c_51 => absurd (by decide) c_51)
                refine lv_iload_n hx hb dX4_workOut_131 rfl (lv_at hl 3 rfl) ?_
                refine lv_iconst (v := 2) hx hb dX4_workOut_132 (by decide) ?_
                refine lv_icmp_lt (tgt := 166) hx hb dX4_workOut_133 (by decide) (fun c_52 => absurd c_52 (by rw [g_lt rfl t_2]; omega)) (fun c_52 => ?_)
                obtain ⟨z_53, ez_53⟩ : ∃ y : Int32, y = L2_4 + (-1) := ⟨_, rfl⟩
                have jz_53 : z_53.toInt = L2_4.toInt + -1 := by rw [ez_53]; exact g_add rfl t_m1 (by omega) (by omega)
                refine lv_iinc (v := z_53) (lv' := [(2, .int z_53), (5, .int z_9), (4, .int z_8), (3, .int L3_4), (0, .ref uh), (1, .ref nx)]) hx hb dX4_workOut_136 hl (k := 3) rfl (by rw [ez_53]; rfl) (by decide) rfl (fun ls hl => ?_)
                refine lv_aload_n hx hb dX4_workOut_139 rfl (lv_at hl 4 rfl) ?_
                refine va_get (D := D) (ci := 4) (v := .ref (ua 2)) (C := RX4) (T := TX4) (N := 4) hx hb htb iX4 hown hK.1 hP 0 rfl rfl 2 (by decide) (htb _ k_143) (fun _ h9 => h9) rfl dX4_workOut_140 ?_
                refine lv_iload_n hx hb dX4_workOut_143 rfl (lv_at hl 0 rfl) ?_
                refine lv_iconst (v := 1) hx hb dX4_workOut_144 (by decide) ?_
                refine lv_isub hx hb dX4_workOut_145 ?_
                refine lv_topi (fun z_54 ez_54 => ?_)
                have jz_54 : z_54.toInt = z_53.toInt - 1 := by rw [ez_54]; exact g_sub rfl t_1 (by omega) (by omega)
                refine lv_iload hx hb dX4_workOut_146 (lv_at hl 2 rfl) ?_
                refine lv_aload_n hx hb dX4_workOut_148 rfl (lv_at hl 4 rfl) ?_
                refine va_get (D := D) (ci := 4) (v := .ref (ua 2)) (C := RX4) (T := TX4) (N := 4) hx hb htb iX4 hown hK.1 hP 0 rfl rfl 2 (by decide) (htb _ k_143) (fun _ h9 => h9) rfl dX4_workOut_149 ?_
                refine lv_iload_n hx hb dX4_workOut_152 rfl (lv_at hl 0 rfl) ?_
                refine lv_iconst (v := 1) hx hb dX4_workOut_153 (by decide) ?_
                refine lv_isub hx hb dX4_workOut_154 ?_
                refine lv_topi (fun z_55 ez_55 => ?_)
                have jz_55 : z_55.toInt = z_53.toInt - 1 := by rw [ez_55]; exact g_sub rfl t_1 (by omega) (by omega)
                refine va_iald hx hb hK.1 hP 3 0 rfl rfl (g_in rfl (by omega) (by omega)) dX4_workOut_155 ?_
                refine lv_topi (fun z_56 ez_56 => ?_)
                have kz_56 := congrArg Int32.toInt ez_56
                refine lv_aload_n hx hb dX4_workOut_156 rfl (lv_at hl 4 rfl) ?_
                refine va_get (D := D) (ci := 4) (v := .ref (ua 2)) (C := RX4) (T := TX4) (N := 4) hx hb htb iX4 hown hK.1 hP 0 rfl rfl 2 (by decide) (htb _ k_143) (fun _ h9 => h9) rfl dX4_workOut_157 ?_
                refine lv_iload_n hx hb dX4_workOut_160 rfl (lv_at hl 0 rfl) ?_
                refine va_iald hx hb hK.1 hP 3 0 rfl rfl (g_in rfl (by omega) (by omega)) dX4_workOut_161 ?_
                refine lv_topi (fun z_57 ez_57 => ?_)
                have kz_57 := congrArg Int32.toInt ez_57
                refine callRS (rest := [.int z_54, .ref (ua 2)]) (As := [.int z_8, .int z_56, .int z_57]) hx hb hml hown htb hK (g_X4_workOutTwo l D E z_8 z_56 z_57 ) ok_X4_workOutTwo k_762 k_763 k_6 k_764 ⟨(Nat.le_of_ble_eq_true rfl), (Nat.le_of_ble_eq_true rfl)⟩ ⟨(Nat.le_of_ble_eq_true rfl), (Nat.le_of_ble_eq_true rfl)⟩ hl.1 (Nat.le_of_ble_eq_true rfl) rfl rfl dX4_workOut_162 (hP.sub (ws' := ([] : va_W)) [] rfl) (fun r_58 hw_59 => ?_)
                refine va_iast hx hb hK.1 hP hD hS 3 0 rfl rfl (g_in rfl (by omega) (by omega)) dX4_workOut_165 (fun H locs hP hD hS => ?_)
                have hP : va_P D vwCl [(uh, .inr (4, G4 ua usize)), ((ua 0), .inl (E 0, 120, .inl uf0)), ((ua 1), .inl (E 0, 120, .inl uf1)), ((ua 2), .inl (E 0, 120, .inl (upd uf2_4 (z_54 : Int32).toNatClampNeg r_58))), (nx, .inl (E 0, 9, .inl nxf))] H := hP
                have hD := toW hP hD rfl
                obtain ⟨z_61, ez_61⟩ : ∃ y : Int32, y = L3_4 + 1 := ⟨_, rfl⟩
                have jz_61 : z_61.toInt = L3_4.toInt + 1 := by rw [ez_61]; exact g_add rfl t_1 (by omega) (by omega)
                refine lv_iinc (v := z_61) (lv' := [(3, .int z_61), (2, .int z_53), (5, .int z_9), (4, .int z_8), (0, .ref uh), (1, .ref nx)]) hx hb dX4_workOut_166 hl (k := 3) rfl (by rw [ez_61]; rfl) (by decide) rfl (fun ls hl => ?_)
                refine lv_goto (tgt := 4) hx hb dX4_workOut_169 (by decide) ?_
                exact ih_2 z_61 z_53 (upd uf2_4 (z_54 : Int32).toNatClampNeg r_58) _ _ _ (by (try dsimp only); omega) (by (try dsimp only); omega) (by (try dsimp only); omega) (by exact WO_bin v2_4 (by omega) jz_61 ez_8 ez_9 (by omega) (by omega) (by omega) (by omega) jz_53 (by omega) (by omega) ez_56 ez_57 hw_59) hP hD hS (lv_sub hl [0, 1, 4, 5] rfl)
            ·
              have ic_38 : L2_4.toInt < 120 := by first | exact (g_lt rfl t_120).mp c_38 | (have h := mt (g_le t_120 rfl).mpr c_38; omega)
              clear c_38
              refine lv_iload hx hb dX4_workOut_66 (lv_at hl 0 rfl) ?_
              refine lv_if_lt (tgt := 94) hx hb dX4_workOut_68 (by decide) (fun c_62 => ?_) (fun c_62 => ?_)
              ·
                have ic_62 : z_9.toInt < 0 := by first | exact (g_lt rfl t_0).mp c_62 | (have h := mt (g_le t_0 rfl).mpr c_62; omega)
                clear c_62
                refine lv_iload hx hb dX4_workOut_94 (lv_at hl 1 rfl) ?_
                refine callRS (rest := []) (As := [.int z_8]) hx hb hml hown htb hK (g_X4_isAhead l D E z_8 ) ok_X4_isAhead k_756 k_757 k_6 k_758 ⟨(Nat.le_of_ble_eq_true rfl), (Nat.le_of_ble_eq_true rfl)⟩ ⟨(Nat.le_of_ble_eq_true rfl), (Nat.le_of_ble_eq_true rfl)⟩ hl.1 (Nat.le_of_ble_eq_true rfl) rfl rfl dX4_workOut_96 (hP.sub (ws' := ([] : va_W)) [] rfl) (fun r_63 hw_64 => ?_)
                rcases hw_64 with ⟨hr_63, hw_64⟩ | ⟨hr_63, hw_64⟩
                ·
                  refine W_top (y := .int 1) (by rw [hr_63]) ?_
                  refine lv_if_eq (tgt := 131) hx hb dX4_workOut_99 (by decide) (fun c_66 => absurd c_66 (by decide)) (fun c_66 => ?_)
                  refine lv_iload_n hx hb dX4_workOut_102 rfl (lv_at hl 3 rfl) ?_
                  refine lv_iconst (v := 1) hx hb dX4_workOut_103 (by decide) ?_
                  refine lv_icmp_lt (tgt := 131) hx hb dX4_workOut_104 (by decide) (fun c_67 => ?_) (fun c_67 => ?_)
                  ·
                    have ic_67 : L2_4.toInt < 1 := by first | exact (g_lt rfl t_1).mp c_67 | (have h := mt (g_le t_1 rfl).mpr c_67; omega)
                    clear c_67
                    refine lv_iload_n hx hb dX4_workOut_131 rfl (lv_at hl 3 rfl) ?_
                    refine lv_iconst (v := 2) hx hb dX4_workOut_132 (by decide) ?_
                    refine lv_icmp_lt (tgt := 166) hx hb dX4_workOut_133 (by decide) (fun c_68 => ?_) (fun c_68 => absurd (by rw [g_lt rfl t_2]; omega) c_68)
                    obtain ⟨z_69, ez_69⟩ : ∃ y : Int32, y = L3_4 + 1 := ⟨_, rfl⟩
                    have jz_69 : z_69.toInt = L3_4.toInt + 1 := by rw [ez_69]; exact g_add rfl t_1 (by omega) (by omega)
                    refine lv_iinc (v := z_69) (lv' := [(3, .int z_69), (5, .int z_9), (4, .int z_8), (2, .int L2_4), (0, .ref uh), (1, .ref nx)]) hx hb dX4_workOut_166 hl (k := 2) rfl (by rw [ez_69]; rfl) (by decide) rfl (fun ls hl => ?_)
                    refine lv_goto (tgt := 4) hx hb dX4_workOut_169 (by decide) ?_
                    exact ih_2 z_69 L2_4 uf2_4 _ _ _ (by (try dsimp only); omega) (by (try dsimp only); omega) (by (try dsimp only); omega) (by exact WO_no v2_4 (by omega) jz_69 ez_8 ez_9 (by omega) (by omega) (by omega) (by omega) (by omega)) hP hD hS (lv_sub hl [0, 3, 4, 5] rfl)
                  ·
                    have ic_67 : 1 ≤ L2_4.toInt := by first | exact (g_le t_1 rfl).mp c_67 | (have h := mt (g_lt rfl t_1).mpr c_67; omega)
                    clear c_67
                    refine lv_aload_n hx hb dX4_workOut_107 rfl (lv_at hl 4 rfl) ?_
                    refine va_get (D := D) (ci := 4) (v := .ref (ua 2)) (C := RX4) (T := TX4) (N := 4) hx hb htb iX4 hown hK.1 hP 0 rfl rfl 2 (by decide) (htb _ k_143) (fun _ h9 => h9) rfl dX4_workOut_108 ?_
                    refine lv_iload_n hx hb dX4_workOut_111 rfl (lv_at hl 3 rfl) ?_
                    refine lv_iconst (v := 1) hx hb dX4_workOut_112 (by decide) ?_
                    refine lv_isub hx hb dX4_workOut_113 ?_
                    refine lv_topi (fun z_70 ez_70 => ?_)
                    have jz_70 : z_70.toInt = L2_4.toInt - 1 := by rw [ez_70]; exact g_sub rfl t_1 (by omega) (by omega)
                    refine lv_iload hx hb dX4_workOut_114 (lv_at hl 1 rfl) ?_
                    refine lv_aload_n hx hb dX4_workOut_116 rfl (lv_at hl 4 rfl) ?_
                    refine va_get (D := D) (ci := 4) (v := .ref (ua 2)) (C := RX4) (T := TX4) (N := 4) hx hb htb iX4 hown hK.1 hP 0 rfl rfl 2 (by decide) (htb _ k_143) (fun _ h9 => h9) rfl dX4_workOut_117 ?_
                    refine lv_iload_n hx hb dX4_workOut_120 rfl (lv_at hl 3 rfl) ?_
                    refine lv_iconst (v := 1) hx hb dX4_workOut_121 (by decide) ?_
                    refine lv_isub hx hb dX4_workOut_122 ?_
                    refine lv_topi (fun z_71 ez_71 => ?_)
                    have jz_71 : z_71.toInt = L2_4.toInt - 1 := by rw [ez_71]; exact g_sub rfl t_1 (by omega) (by omega)
                    refine va_iald hx hb hK.1 hP 3 0 rfl rfl (g_in rfl (by omega) (by omega)) dX4_workOut_123 ?_
                    refine lv_topi (fun z_72 ez_72 => ?_)
                    have kz_72 := congrArg Int32.toInt ez_72
                    refine callRS (rest := [.int z_70, .ref (ua 2)]) (As := [.int z_8, .int z_72]) hx hb hml hown htb hK (g_X4_workOutOne l D E z_8 z_72 ) ok_X4_workOutOne k_759 k_760 k_6 k_761 ⟨(Nat.le_of_ble_eq_true rfl), (Nat.le_of_ble_eq_true rfl)⟩ ⟨(Nat.le_of_ble_eq_true rfl), (Nat.le_of_ble_eq_true rfl)⟩ hl.1 (Nat.le_of_ble_eq_true rfl) rfl rfl dX4_workOut_124 (hP.sub (ws' := ([] : va_W)) [] rfl) (fun r_73 hw_74 => ?_)
                    refine va_iast hx hb hK.1 hP hD hS 3 0 rfl rfl (g_in rfl (by omega) (by omega)) dX4_workOut_127 (fun H locs hP hD hS => ?_)
                    have hP : va_P D vwCl [(uh, .inr (4, G4 ua usize)), ((ua 0), .inl (E 0, 120, .inl uf0)), ((ua 1), .inl (E 0, 120, .inl uf1)), ((ua 2), .inl (E 0, 120, .inl (upd uf2_4 (z_70 : Int32).toNatClampNeg r_73))), (nx, .inl (E 0, 9, .inl nxf))] H := hP
                    have hD := toW hP hD rfl
                    refine lv_goto (tgt := 166) hx hb dX4_workOut_128 (by decide) ?_
                    obtain ⟨z_76, ez_76⟩ : ∃ y : Int32, y = L3_4 + 1 := ⟨_, rfl⟩
                    have jz_76 : z_76.toInt = L3_4.toInt + 1 := by rw [ez_76]; exact g_add rfl t_1 (by omega) (by omega)
                    refine lv_iinc (v := z_76) (lv' := [(3, .int z_76), (5, .int z_9), (4, .int z_8), (2, .int L2_4), (0, .ref uh), (1, .ref nx)]) hx hb dX4_workOut_166 hl (k := 2) rfl (by rw [ez_76]; rfl) (by decide) rfl (fun ls hl => ?_)
                    refine lv_goto (tgt := 4) hx hb dX4_workOut_169 (by decide) ?_
                    exact ih_2 z_76 L2_4 (upd uf2_4 (z_70 : Int32).toNatClampNeg r_73) _ _ _ (by (try dsimp only); omega) (by (try dsimp only); omega) (by (try dsimp only); omega) (by exact WO_un v2_4 (by omega) jz_76 ez_8 (by omega) (by omega) (by omega) (by omega) ez_72 hw_74) hP hD hS (lv_sub hl [0, 3, 4, 5] rfl)
                ·
                  refine W_top (y := .int 0) (by rw [hr_63]) ?_
                  refine lv_if_eq (tgt := 131) hx hb dX4_workOut_99 (by decide) (fun c_77 => ?_) (fun c_77 => absurd (by decide) c_77)
                  refine lv_iload_n hx hb dX4_workOut_131 rfl (lv_at hl 3 rfl) ?_
                  refine lv_iconst (v := 2) hx hb dX4_workOut_132 (by decide) ?_
                  refine lv_icmp_lt (tgt := 166) hx hb dX4_workOut_133 (by decide) (fun c_78 => ?_) (fun c_78 => ?_)
                  ·
                    have ic_78 : L2_4.toInt < 2 := by first | exact (g_lt rfl t_2).mp c_78 | (have h := mt (g_le t_2 rfl).mpr c_78; omega)
                    clear c_78
                    obtain ⟨z_79, ez_79⟩ : ∃ y : Int32, y = L3_4 + 1 := ⟨_, rfl⟩
                    have jz_79 : z_79.toInt = L3_4.toInt + 1 := by rw [ez_79]; exact g_add rfl t_1 (by omega) (by omega)
                    refine lv_iinc (v := z_79) (lv' := [(3, .int z_79), (5, .int z_9), (4, .int z_8), (2, .int L2_4), (0, .ref uh), (1, .ref nx)]) hx hb dX4_workOut_166 hl (k := 2) rfl (by rw [ez_79]; rfl) (by decide) rfl (fun ls hl => ?_)
                    refine lv_goto (tgt := 4) hx hb dX4_workOut_169 (by decide) ?_
                    exact ih_2 z_79 L2_4 uf2_4 _ _ _ (by (try dsimp only); omega) (by (try dsimp only); omega) (by (try dsimp only); omega) (by exact WO_no v2_4 (by omega) jz_79 ez_8 ez_9 (by omega) (by omega) (by omega) (by omega) (by omega)) hP hD hS (lv_sub hl [0, 3, 4, 5] rfl)
                  ·
                    have ic_78 : 2 ≤ L2_4.toInt := by first | exact (g_le t_2 rfl).mp c_78 | (have h := mt (g_lt rfl t_2).mpr c_78; omega)
                    clear c_78
                    obtain ⟨z_80, ez_80⟩ : ∃ y : Int32, y = L2_4 + (-1) := ⟨_, rfl⟩
                    have jz_80 : z_80.toInt = L2_4.toInt + -1 := by rw [ez_80]; exact g_add rfl t_m1 (by omega) (by omega)
                    refine lv_iinc (v := z_80) (lv' := [(2, .int z_80), (5, .int z_9), (4, .int z_8), (3, .int L3_4), (0, .ref uh), (1, .ref nx)]) hx hb dX4_workOut_136 hl (k := 3) rfl (by rw [ez_80]; rfl) (by decide) rfl (fun ls hl => ?_)
                    refine lv_aload_n hx hb dX4_workOut_139 rfl (lv_at hl 4 rfl) ?_
                    refine va_get (D := D) (ci := 4) (v := .ref (ua 2)) (C := RX4) (T := TX4) (N := 4) hx hb htb iX4 hown hK.1 hP 0 rfl rfl 2 (by decide) (htb _ k_143) (fun _ h9 => h9) rfl dX4_workOut_140 ?_
                    refine lv_iload_n hx hb dX4_workOut_143 rfl (lv_at hl 0 rfl) ?_
                    refine lv_iconst (v := 1) hx hb dX4_workOut_144 (by decide) ?_
                    refine lv_isub hx hb dX4_workOut_145 ?_
                    refine lv_topi (fun z_81 ez_81 => ?_)
                    have jz_81 : z_81.toInt = z_80.toInt - 1 := by rw [ez_81]; exact g_sub rfl t_1 (by omega) (by omega)
                    refine lv_iload hx hb dX4_workOut_146 (lv_at hl 2 rfl) ?_
                    refine lv_aload_n hx hb dX4_workOut_148 rfl (lv_at hl 4 rfl) ?_
                    refine va_get (D := D) (ci := 4) (v := .ref (ua 2)) (C := RX4) (T := TX4) (N := 4) hx hb htb iX4 hown hK.1 hP 0 rfl rfl 2 (by decide) (htb _ k_143) (fun _ h9 => h9) rfl dX4_workOut_149 ?_
                    refine lv_iload_n hx hb dX4_workOut_152 rfl (lv_at hl 0 rfl) ?_
                    refine lv_iconst (v := 1) hx hb dX4_workOut_153 (by decide) ?_
                    refine lv_isub hx hb dX4_workOut_154 ?_
                    refine lv_topi (fun z_82 ez_82 => ?_)
                    have jz_82 : z_82.toInt = z_80.toInt - 1 := by rw [ez_82]; exact g_sub rfl t_1 (by omega) (by omega)
                    refine va_iald hx hb hK.1 hP 3 0 rfl rfl (g_in rfl (by omega) (by omega)) dX4_workOut_155 ?_
                    refine lv_topi (fun z_83 ez_83 => ?_)
                    have kz_83 := congrArg Int32.toInt ez_83
                    refine lv_aload_n hx hb dX4_workOut_156 rfl (lv_at hl 4 rfl) ?_
                    refine va_get (D := D) (ci := 4) (v := .ref (ua 2)) (C := RX4) (T := TX4) (N := 4) hx hb htb iX4 hown hK.1 hP 0 rfl rfl 2 (by decide) (htb _ k_143) (fun _ h9 => h9) rfl dX4_workOut_157 ?_
                    refine lv_iload_n hx hb dX4_workOut_160 rfl (lv_at hl 0 rfl) ?_
                    refine va_iald hx hb hK.1 hP 3 0 rfl rfl (g_in rfl (by omega) (by omega)) dX4_workOut_161 ?_
                    refine lv_topi (fun z_84 ez_84 => ?_)
                    have kz_84 := congrArg Int32.toInt ez_84
                    refine callRS (rest := [.int z_81, .ref (ua 2)]) (As := [.int z_8, .int z_83, .int z_84]) hx hb hml hown htb hK (g_X4_workOutTwo l D E z_8 z_83 z_84 ) ok_X4_workOutTwo k_762 k_763 k_6 k_764 ⟨(Nat.le_of_ble_eq_true rfl), (Nat.le_of_ble_eq_true rfl)⟩ ⟨(Nat.le_of_ble_eq_true rfl), (Nat.le_of_ble_eq_true rfl)⟩ hl.1 (Nat.le_of_ble_eq_true rfl) rfl rfl dX4_workOut_162 (hP.sub (ws' := ([] : va_W)) [] rfl) (fun r_85 hw_86 => ?_)
                    refine va_iast hx hb hK.1 hP hD hS 3 0 rfl rfl (g_in rfl (by omega) (by omega)) dX4_workOut_165 (fun H locs hP hD hS => ?_)
                    have hP : va_P D vwCl [(uh, .inr (4, G4 ua usize)), ((ua 0), .inl (E 0, 120, .inl uf0)), ((ua 1), .inl (E 0, 120, .inl uf1)), ((ua 2), .inl (E 0, 120, .inl (upd uf2_4 (z_81 : Int32).toNatClampNeg r_85))), (nx, .inl (E 0, 9, .inl nxf))] H := hP
                    have hD := toW hP hD rfl
                    obtain ⟨z_88, ez_88⟩ : ∃ y : Int32, y = L3_4 + 1 := ⟨_, rfl⟩
                    have jz_88 : z_88.toInt = L3_4.toInt + 1 := by rw [ez_88]; exact g_add rfl t_1 (by omega) (by omega)
                    refine lv_iinc (v := z_88) (lv' := [(3, .int z_88), (2, .int z_80), (5, .int z_9), (4, .int z_8), (0, .ref uh), (1, .ref nx)]) hx hb dX4_workOut_166 hl (k := 3) rfl (by rw [ez_88]; rfl) (by decide) rfl (fun ls hl => ?_)
                    refine lv_goto (tgt := 4) hx hb dX4_workOut_169 (by decide) ?_
                    exact ih_2 z_88 z_80 (upd uf2_4 (z_81 : Int32).toNatClampNeg r_85) _ _ _ (by (try dsimp only); omega) (by (try dsimp only); omega) (by (try dsimp only); omega) (by exact WO_bin v2_4 (by omega) jz_88 ez_8 ez_9 (by omega) (by omega) (by omega) (by omega) jz_80 (by omega) (by omega) ez_83 ez_84 hw_86) hP hD hS (lv_sub hl [0, 1, 4, 5] rfl)
              ·
                have ic_62 : 0 ≤ z_9.toInt := by first | exact (g_le t_0 rfl).mp c_62 | (have h := mt (g_lt rfl t_0).mpr c_62; omega)
                clear c_62
                refine lv_iload hx hb dX4_workOut_71 (lv_at hl 0 rfl) ?_
                refine lv_aload_n hx hb dX4_workOut_73 rfl (lv_at hl 5 rfl) ?_
                refine va_alen hx hb hK.1 hP 4 0 rfl rfl (v := 9) (show Int32.ofNat 9 = 9 by decide) dX4_workOut_74 ?_
                refine lv_icmp_ge (tgt := 94) hx hb dX4_workOut_75 (by decide) (fun c_89 => ?_) (fun c_89 => ?_)
                ·
                  have ic_89 : 9 ≤ z_9.toInt := by first | exact (g_le t_9 rfl).mp c_89 | (have h := mt (g_lt rfl t_9).mpr c_89; omega)
                  clear c_89
                  refine lv_iload hx hb dX4_workOut_94 (lv_at hl 1 rfl) ?_
                  refine callRS (rest := []) (As := [.int z_8]) hx hb hml hown htb hK (g_X4_isAhead l D E z_8 ) ok_X4_isAhead k_756 k_757 k_6 k_758 ⟨(Nat.le_of_ble_eq_true rfl), (Nat.le_of_ble_eq_true rfl)⟩ ⟨(Nat.le_of_ble_eq_true rfl), (Nat.le_of_ble_eq_true rfl)⟩ hl.1 (Nat.le_of_ble_eq_true rfl) rfl rfl dX4_workOut_96 (hP.sub (ws' := ([] : va_W)) [] rfl) (fun r_90 hw_91 => ?_)
                  rcases hw_91 with ⟨hr_90, hw_91⟩ | ⟨hr_90, hw_91⟩
                  ·
                    refine W_top (y := .int 1) (by rw [hr_90]) ?_
                    refine lv_if_eq (tgt := 131) hx hb dX4_workOut_99 (by decide) (fun c_93 => absurd c_93 (by decide)) (fun c_93 => ?_)
                    refine lv_iload_n hx hb dX4_workOut_102 rfl (lv_at hl 3 rfl) ?_
                    refine lv_iconst (v := 1) hx hb dX4_workOut_103 (by decide) ?_
                    refine lv_icmp_lt (tgt := 131) hx hb dX4_workOut_104 (by decide) (fun c_94 => ?_) (fun c_94 => ?_)
                    ·
                      have ic_94 : L2_4.toInt < 1 := by first | exact (g_lt rfl t_1).mp c_94 | (have h := mt (g_le t_1 rfl).mpr c_94; omega)
                      clear c_94
                      refine lv_iload_n hx hb dX4_workOut_131 rfl (lv_at hl 3 rfl) ?_
                      refine lv_iconst (v := 2) hx hb dX4_workOut_132 (by decide) ?_
                      refine lv_icmp_lt (tgt := 166) hx hb dX4_workOut_133 (by decide) (fun c_95 => ?_) (fun c_95 => absurd (by rw [g_lt rfl t_2]; omega) c_95)
                      obtain ⟨z_96, ez_96⟩ : ∃ y : Int32, y = L3_4 + 1 := ⟨_, rfl⟩
                      have jz_96 : z_96.toInt = L3_4.toInt + 1 := by rw [ez_96]; exact g_add rfl t_1 (by omega) (by omega)
                      refine lv_iinc (v := z_96) (lv' := [(3, .int z_96), (5, .int z_9), (4, .int z_8), (2, .int L2_4), (0, .ref uh), (1, .ref nx)]) hx hb dX4_workOut_166 hl (k := 2) rfl (by rw [ez_96]; rfl) (by decide) rfl (fun ls hl => ?_)
                      refine lv_goto (tgt := 4) hx hb dX4_workOut_169 (by decide) ?_
                      exact ih_2 z_96 L2_4 uf2_4 _ _ _ (by (try dsimp only); omega) (by (try dsimp only); omega) (by (try dsimp only); omega) (by exact WO_no v2_4 (by omega) jz_96 ez_8 ez_9 (by omega) (by omega) (by omega) (by omega) (by omega)) hP hD hS (lv_sub hl [0, 3, 4, 5] rfl)
                    ·
                      have ic_94 : 1 ≤ L2_4.toInt := by first | exact (g_le t_1 rfl).mp c_94 | (have h := mt (g_lt rfl t_1).mpr c_94; omega)
                      clear c_94
                      refine lv_aload_n hx hb dX4_workOut_107 rfl (lv_at hl 4 rfl) ?_
                      refine va_get (D := D) (ci := 4) (v := .ref (ua 2)) (C := RX4) (T := TX4) (N := 4) hx hb htb iX4 hown hK.1 hP 0 rfl rfl 2 (by decide) (htb _ k_143) (fun _ h9 => h9) rfl dX4_workOut_108 ?_
                      refine lv_iload_n hx hb dX4_workOut_111 rfl (lv_at hl 3 rfl) ?_
                      refine lv_iconst (v := 1) hx hb dX4_workOut_112 (by decide) ?_
                      refine lv_isub hx hb dX4_workOut_113 ?_
                      refine lv_topi (fun z_97 ez_97 => ?_)
                      have jz_97 : z_97.toInt = L2_4.toInt - 1 := by rw [ez_97]; exact g_sub rfl t_1 (by omega) (by omega)
                      refine lv_iload hx hb dX4_workOut_114 (lv_at hl 1 rfl) ?_
                      refine lv_aload_n hx hb dX4_workOut_116 rfl (lv_at hl 4 rfl) ?_
                      refine va_get (D := D) (ci := 4) (v := .ref (ua 2)) (C := RX4) (T := TX4) (N := 4) hx hb htb iX4 hown hK.1 hP 0 rfl rfl 2 (by decide) (htb _ k_143) (fun _ h9 => h9) rfl dX4_workOut_117 ?_
                      refine lv_iload_n hx hb dX4_workOut_120 rfl (lv_at hl 3 rfl) ?_
                      refine lv_iconst (v := 1) hx hb dX4_workOut_121 (by decide) ?_
                      refine lv_isub hx hb dX4_workOut_122 ?_
                      refine lv_topi (fun z_98 ez_98 => ?_)
                      have jz_98 : z_98.toInt = L2_4.toInt - 1 := by rw [ez_98]; exact g_sub rfl t_1 (by omega) (by omega)
                      refine va_iald hx hb hK.1 hP 3 0 rfl rfl (g_in rfl (by omega) (by omega)) dX4_workOut_123 ?_
                      refine lv_topi (fun z_99 ez_99 => ?_)
                      have kz_99 := congrArg Int32.toInt ez_99
                      refine callRS (rest := [.int z_97, .ref (ua 2)]) (As := [.int z_8, .int z_99]) hx hb hml hown htb hK (g_X4_workOutOne l D E z_8 z_99 ) ok_X4_workOutOne k_759 k_760 k_6 k_761 ⟨(Nat.le_of_ble_eq_true rfl), (Nat.le_of_ble_eq_true rfl)⟩ ⟨(Nat.le_of_ble_eq_true rfl), (Nat.le_of_ble_eq_true rfl)⟩ hl.1 (Nat.le_of_ble_eq_true rfl) rfl rfl dX4_workOut_124 (hP.sub (ws' := ([] : va_W)) [] rfl) (fun r_100 hw_101 => ?_)
                      refine va_iast hx hb hK.1 hP hD hS 3 0 rfl rfl (g_in rfl (by omega) (by omega)) dX4_workOut_127 (fun H locs hP hD hS => ?_)
                      have hP : va_P D vwCl [(uh, .inr (4, G4 ua usize)), ((ua 0), .inl (E 0, 120, .inl uf0)), ((ua 1), .inl (E 0, 120, .inl uf1)), ((ua 2), .inl (E 0, 120, .inl (upd uf2_4 (z_97 : Int32).toNatClampNeg r_100))), (nx, .inl (E 0, 9, .inl nxf))] H := hP
                      have hD := toW hP hD rfl
                      refine lv_goto (tgt := 166) hx hb dX4_workOut_128 (by decide) ?_
                      obtain ⟨z_103, ez_103⟩ : ∃ y : Int32, y = L3_4 + 1 := ⟨_, rfl⟩
                      have jz_103 : z_103.toInt = L3_4.toInt + 1 := by rw [ez_103]; exact g_add rfl t_1 (by omega) (by omega)
                      refine lv_iinc (v := z_103) (lv' := [(3, .int z_103), (5, .int z_9), (4, .int z_8), (2, .int L2_4), (0, .ref uh), (1, .ref nx)]) hx hb dX4_workOut_166 hl (k := 2) rfl (by rw [ez_103]; rfl) (by decide) rfl (fun ls hl => ?_)
                      refine lv_goto (tgt := 4) hx hb dX4_workOut_169 (by decide) ?_
                      exact ih_2 z_103 L2_4 (upd uf2_4 (z_97 : Int32).toNatClampNeg r_100) _ _ _ (by (try dsimp only); omega) (by (try dsimp only); omega) (by (try dsimp only); omega) (by exact WO_un v2_4 (by omega) jz_103 ez_8 (by omega) (by omega) (by omega) (by omega) ez_99 hw_101) hP hD hS (lv_sub hl [0, 3, 4, 5] rfl)
                  ·
                    refine W_top (y := .int 0) (by rw [hr_90]) ?_
                    refine lv_if_eq (tgt := 131) hx hb dX4_workOut_99 (by decide) (fun c_104 => ?_) (fun c_104 => absurd (by decide) c_104)
                    refine lv_iload_n hx hb dX4_workOut_131 rfl (lv_at hl 3 rfl) ?_
                    refine lv_iconst (v := 2) hx hb dX4_workOut_132 (by decide) ?_
                    refine lv_icmp_lt (tgt := 166) hx hb dX4_workOut_133 (by decide) (fun c_105 => ?_) (fun c_105 => ?_)
                    ·
                      have ic_105 : L2_4.toInt < 2 := by first | exact (g_lt rfl t_2).mp c_105 | (have h := mt (g_le t_2 rfl).mpr c_105; omega)
                      clear c_105
                      obtain ⟨z_106, ez_106⟩ : ∃ y : Int32, y = L3_4 + 1 := ⟨_, rfl⟩
                      have jz_106 : z_106.toInt = L3_4.toInt + 1 := by rw [ez_106]; exact g_add rfl t_1 (by omega) (by omega)
                      refine lv_iinc (v := z_106) (lv' := [(3, .int z_106), (5, .int z_9), (4, .int z_8), (2, .int L2_4), (0, .ref uh), (1, .ref nx)]) hx hb dX4_workOut_166 hl (k := 2) rfl (by rw [ez_106]; rfl) (by decide) rfl (fun ls hl => ?_)
                      refine lv_goto (tgt := 4) hx hb dX4_workOut_169 (by decide) ?_
                      exact ih_2 z_106 L2_4 uf2_4 _ _ _ (by (try dsimp only); omega) (by (try dsimp only); omega) (by (try dsimp only); omega) (by exact WO_no v2_4 (by omega) jz_106 ez_8 ez_9 (by omega) (by omega) (by omega) (by omega) (by omega)) hP hD hS (lv_sub hl [0, 3, 4, 5] rfl)
                    ·
                      have ic_105 : 2 ≤ L2_4.toInt := by first | exact (g_le t_2 rfl).mp c_105 | (have h := mt (g_lt rfl t_2).mpr c_105; omega)
                      clear c_105
                      obtain ⟨z_107, ez_107⟩ : ∃ y : Int32, y = L2_4 + (-1) := ⟨_, rfl⟩
                      have jz_107 : z_107.toInt = L2_4.toInt + -1 := by rw [ez_107]; exact g_add rfl t_m1 (by omega) (by omega)
                      refine lv_iinc (v := z_107) (lv' := [(2, .int z_107), (5, .int z_9), (4, .int z_8), (3, .int L3_4), (0, .ref uh), (1, .ref nx)]) hx hb dX4_workOut_136 hl (k := 3) rfl (by rw [ez_107]; rfl) (by decide) rfl (fun ls hl => ?_)
                      refine lv_aload_n hx hb dX4_workOut_139 rfl (lv_at hl 4 rfl) ?_
                      refine va_get (D := D) (ci := 4) (v := .ref (ua 2)) (C := RX4) (T := TX4) (N := 4) hx hb htb iX4 hown hK.1 hP 0 rfl rfl 2 (by decide) (htb _ k_143) (fun _ h9 => h9) rfl dX4_workOut_140 ?_
                      refine lv_iload_n hx hb dX4_workOut_143 rfl (lv_at hl 0 rfl) ?_
                      refine lv_iconst (v := 1) hx hb dX4_workOut_144 (by decide) ?_
                      refine lv_isub hx hb dX4_workOut_145 ?_
                      refine lv_topi (fun z_108 ez_108 => ?_)
                      have jz_108 : z_108.toInt = z_107.toInt - 1 := by rw [ez_108]; exact g_sub rfl t_1 (by omega) (by omega)
                      refine lv_iload hx hb dX4_workOut_146 (lv_at hl 2 rfl) ?_
                      refine lv_aload_n hx hb dX4_workOut_148 rfl (lv_at hl 4 rfl) ?_
                      refine va_get (D := D) (ci := 4) (v := .ref (ua 2)) (C := RX4) (T := TX4) (N := 4) hx hb htb iX4 hown hK.1 hP 0 rfl rfl 2 (by decide) (htb _ k_143) (fun _ h9 => h9) rfl dX4_workOut_149 ?_
                      refine lv_iload_n hx hb dX4_workOut_152 rfl (lv_at hl 0 rfl) ?_
                      refine lv_iconst (v := 1) hx hb dX4_workOut_153 (by decide) ?_
                      refine lv_isub hx hb dX4_workOut_154 ?_
                      refine lv_topi (fun z_109 ez_109 => ?_)
                      have jz_109 : z_109.toInt = z_107.toInt - 1 := by rw [ez_109]; exact g_sub rfl t_1 (by omega) (by omega)
                      refine va_iald hx hb hK.1 hP 3 0 rfl rfl (g_in rfl (by omega) (by omega)) dX4_workOut_155 ?_
                      refine lv_topi (fun z_110 ez_110 => ?_)
                      have kz_110 := congrArg Int32.toInt ez_110
                      refine lv_aload_n hx hb dX4_workOut_156 rfl (lv_at hl 4 rfl) ?_
                      refine va_get (D := D) (ci := 4) (v := .ref (ua 2)) (C := RX4) (T := TX4) (N := 4) hx hb htb iX4 hown hK.1 hP 0 rfl rfl 2 (by decide) (htb _ k_143) (fun _ h9 => h9) rfl dX4_workOut_157 ?_
                      refine lv_iload_n hx hb dX4_workOut_160 rfl (lv_at hl 0 rfl) ?_
                      refine va_iald hx hb hK.1 hP 3 0 rfl rfl (g_in rfl (by omega) (by omega)) dX4_workOut_161 ?_
                      refine lv_topi (fun z_111 ez_111 => ?_)
                      have kz_111 := congrArg Int32.toInt ez_111
                      refine callRS (rest := [.int z_108, .ref (ua 2)]) (As := [.int z_8, .int z_110, .int z_111]) hx hb hml hown htb hK (g_X4_workOutTwo l D E z_8 z_110 z_111 ) ok_X4_workOutTwo k_762 k_763 k_6 k_764 ⟨(Nat.le_of_ble_eq_true rfl), (Nat.le_of_ble_eq_true rfl)⟩ ⟨(Nat.le_of_ble_eq_true rfl), (Nat.le_of_ble_eq_true rfl)⟩ hl.1 (Nat.le_of_ble_eq_true rfl) rfl rfl dX4_workOut_162 (hP.sub (ws' := ([] : va_W)) [] rfl) (fun r_112 hw_113 => ?_)
                      refine va_iast hx hb hK.1 hP hD hS 3 0 rfl rfl (g_in rfl (by omega) (by omega)) dX4_workOut_165 (fun H locs hP hD hS => ?_)
                      have hP : va_P D vwCl [(uh, .inr (4, G4 ua usize)), ((ua 0), .inl (E 0, 120, .inl uf0)), ((ua 1), .inl (E 0, 120, .inl uf1)), ((ua 2), .inl (E 0, 120, .inl (upd uf2_4 (z_108 : Int32).toNatClampNeg r_112))), (nx, .inl (E 0, 9, .inl nxf))] H := hP
                      have hD := toW hP hD rfl
                      obtain ⟨z_115, ez_115⟩ : ∃ y : Int32, y = L3_4 + 1 := ⟨_, rfl⟩
                      have jz_115 : z_115.toInt = L3_4.toInt + 1 := by rw [ez_115]; exact g_add rfl t_1 (by omega) (by omega)
                      refine lv_iinc (v := z_115) (lv' := [(3, .int z_115), (2, .int z_107), (5, .int z_9), (4, .int z_8), (0, .ref uh), (1, .ref nx)]) hx hb dX4_workOut_166 hl (k := 3) rfl (by rw [ez_115]; rfl) (by decide) rfl (fun ls hl => ?_)
                      refine lv_goto (tgt := 4) hx hb dX4_workOut_169 (by decide) ?_
                      exact ih_2 z_115 z_107 (upd uf2_4 (z_108 : Int32).toNatClampNeg r_112) _ _ _ (by (try dsimp only); omega) (by (try dsimp only); omega) (by (try dsimp only); omega) (by exact WO_bin v2_4 (by omega) jz_115 ez_8 ez_9 (by omega) (by omega) (by omega) (by omega) jz_107 (by omega) (by omega) ez_110 ez_111 hw_113) hP hD hS (lv_sub hl [0, 1, 4, 5] rfl)
                ·
                  have ic_89 : z_9.toInt < 9 := by first | exact (g_lt rfl t_9).mp c_89 | (have h := mt (g_le t_9 rfl).mpr c_89; omega)
                  clear c_89
                  refine lv_aload_n hx hb dX4_workOut_78 rfl (lv_at hl 4 rfl) ?_
                  refine va_get (D := D) (ci := 4) (v := .ref (ua 2)) (C := RX4) (T := TX4) (N := 4) hx hb htb iX4 hown hK.1 hP 0 rfl rfl 2 (by decide) (htb _ k_143) (fun _ h9 => h9) rfl dX4_workOut_79 ?_
                  refine lv_iload_n hx hb dX4_workOut_82 rfl (lv_at hl 3 rfl) ?_
                  refine lv_aload_n hx hb dX4_workOut_83 rfl (lv_at hl 5 rfl) ?_
                  refine lv_iload hx hb dX4_workOut_84 (lv_at hl 0 rfl) ?_
                  refine va_iald hx hb hK.1 hP 4 0 rfl rfl (g_in rfl (by omega) (by omega)) dX4_workOut_86 ?_
                  refine lv_topi (fun z_116 ez_116 => ?_)
                  have kz_116 := congrArg Int32.toInt ez_116
                  refine va_iast hx hb hK.1 hP hD hS 3 0 rfl rfl (g_in rfl (by omega) (by omega)) dX4_workOut_87 (fun H locs hP hD hS => ?_)
                  have hP : va_P D vwCl [(uh, .inr (4, G4 ua usize)), ((ua 0), .inl (E 0, 120, .inl uf0)), ((ua 1), .inl (E 0, 120, .inl uf1)), ((ua 2), .inl (E 0, 120, .inl (upd uf2_4 (L2_4 : Int32).toNatClampNeg z_116))), (nx, .inl (E 0, 9, .inl nxf))] H := hP
                  have hD := toW hP hD rfl
                  obtain ⟨z_117, ez_117⟩ : ∃ y : Int32, y = L2_4 + 1 := ⟨_, rfl⟩
                  have jz_117 : z_117.toInt = L2_4.toInt + 1 := by rw [ez_117]; exact g_add rfl t_1 (by omega) (by omega)
                  refine lv_iinc (v := z_117) (lv' := [(2, .int z_117), (5, .int z_9), (4, .int z_8), (3, .int L3_4), (0, .ref uh), (1, .ref nx)]) hx hb dX4_workOut_88 hl (k := 3) rfl (by rw [ez_117]; rfl) (by decide) rfl (fun ls hl => ?_)
                  refine lv_goto (tgt := 166) hx hb dX4_workOut_91 (by decide) ?_
                  obtain ⟨z_118, ez_118⟩ : ∃ y : Int32, y = L3_4 + 1 := ⟨_, rfl⟩
                  have jz_118 : z_118.toInt = L3_4.toInt + 1 := by rw [ez_118]; exact g_add rfl t_1 (by omega) (by omega)
                  refine lv_iinc (v := z_118) (lv' := [(3, .int z_118), (2, .int z_117), (5, .int z_9), (4, .int z_8), (0, .ref uh), (1, .ref nx)]) hx hb dX4_workOut_166 hl (k := 3) rfl (by rw [ez_118]; rfl) (by decide) rfl (fun ls hl => ?_)
                  refine lv_goto (tgt := 4) hx hb dX4_workOut_169 (by decide) ?_
                  exact ih_2 z_118 z_117 (upd uf2_4 (L2_4 : Int32).toNatClampNeg z_116) _ _ _ (by (try dsimp only); omega) (by (try dsimp only); omega) (by (try dsimp only); omega) (by exact WO_nam v2_4 (by omega) jz_118 ez_8 ez_9 (by omega) (by omega) ez_116 (by omega) (by omega) jz_117) hP hD hS (lv_sub hl [0, 1, 4, 5] rfl)
        ·
          have ic_10 : z_8.toInt = 2 := (g_eq rfl t_2).mp c_10
          clear c_10
          refine lv_iload_n hx hb dX4_workOut_34 rfl (lv_at hl 3 rfl) ?_
          refine lv_bipush (v := 120) hx hb dX4_workOut_35 (by decide) ?_
          refine lv_icmp_ge (tgt := 54) hx hb dX4_workOut_37 (by decide) (fun c_119 => ?_) (fun c_119 => ?_)
          ·
            have ic_119 : 120 ≤ L2_4.toInt := by first | exact (g_le t_120 rfl).mp c_119 | (have h := mt (g_lt rfl t_120).mpr c_119; omega)
            clear c_119
            refine lv_iload hx hb dX4_workOut_54 (lv_at hl 1 rfl) ?_
            refine lv_iconst (v := 3) hx hb dX4_workOut_56 (by decide) ?_
            refine lv_icmp_ne (tgt := 94) hx hb dX4_workOut_57 (by decide) (fun c_120 => ?_) (fun c_120 => absurd c_120 (by rw [g_eq rfl t_3]; omega))
            refine lv_iload hx hb dX4_workOut_94 (lv_at hl 1 rfl) ?_
            refine callRS (rest := []) (As := [.int z_8]) hx hb hml hown htb hK (g_X4_isAhead l D E z_8 ) ok_X4_isAhead k_756 k_757 k_6 k_758 ⟨(Nat.le_of_ble_eq_true rfl), (Nat.le_of_ble_eq_true rfl)⟩ ⟨(Nat.le_of_ble_eq_true rfl), (Nat.le_of_ble_eq_true rfl)⟩ hl.1 (Nat.le_of_ble_eq_true rfl) rfl rfl dX4_workOut_96 (hP.sub (ws' := ([] : va_W)) [] rfl) (fun r_121 hw_122 => ?_)
            rcases hw_122 with ⟨hr_121, hw_122⟩ | ⟨hr_121, hw_122⟩
            ·
              refine W_top (y := .int 1) (by rw [hr_121]) ?_
              refine lv_if_eq (tgt := 131) hx hb dX4_workOut_99 (by decide) (fun c_124 => absurd c_124 (by decide)) (fun c_124 => ?_)
              refine lv_iload_n hx hb dX4_workOut_102 rfl (lv_at hl 3 rfl) ?_
              refine lv_iconst (v := 1) hx hb dX4_workOut_103 (by decide) ?_
              refine lv_icmp_lt (tgt := 131) hx hb dX4_workOut_104 (by decide) (fun c_125 => absurd c_125 (by rw [g_lt rfl t_1]; omega)) (fun c_125 => ?_)
              refine lv_aload_n hx hb dX4_workOut_107 rfl (lv_at hl 4 rfl) ?_
              refine va_get (D := D) (ci := 4) (v := .ref (ua 2)) (C := RX4) (T := TX4) (N := 4) hx hb htb iX4 hown hK.1 hP 0 rfl rfl 2 (by decide) (htb _ k_143) (fun _ h9 => h9) rfl dX4_workOut_108 ?_
              refine lv_iload_n hx hb dX4_workOut_111 rfl (lv_at hl 3 rfl) ?_
              refine lv_iconst (v := 1) hx hb dX4_workOut_112 (by decide) ?_
              refine lv_isub hx hb dX4_workOut_113 ?_
              refine lv_topi (fun z_126 ez_126 => ?_)
              have jz_126 : z_126.toInt = L2_4.toInt - 1 := by rw [ez_126]; exact g_sub rfl t_1 (by omega) (by omega)
              refine lv_iload hx hb dX4_workOut_114 (lv_at hl 1 rfl) ?_
              refine lv_aload_n hx hb dX4_workOut_116 rfl (lv_at hl 4 rfl) ?_
              refine va_get (D := D) (ci := 4) (v := .ref (ua 2)) (C := RX4) (T := TX4) (N := 4) hx hb htb iX4 hown hK.1 hP 0 rfl rfl 2 (by decide) (htb _ k_143) (fun _ h9 => h9) rfl dX4_workOut_117 ?_
              refine lv_iload_n hx hb dX4_workOut_120 rfl (lv_at hl 3 rfl) ?_
              refine lv_iconst (v := 1) hx hb dX4_workOut_121 (by decide) ?_
              refine lv_isub hx hb dX4_workOut_122 ?_
              refine lv_topi (fun z_127 ez_127 => ?_)
              have jz_127 : z_127.toInt = L2_4.toInt - 1 := by rw [ez_127]; exact g_sub rfl t_1 (by omega) (by omega)
              refine va_iald hx hb hK.1 hP 3 0 rfl rfl (g_in rfl (by omega) (by omega)) dX4_workOut_123 ?_
              refine lv_topi (fun z_128 ez_128 => ?_)
              have kz_128 := congrArg Int32.toInt ez_128
              refine callRS (rest := [.int z_126, .ref (ua 2)]) (As := [.int z_8, .int z_128]) hx hb hml hown htb hK (g_X4_workOutOne l D E z_8 z_128 ) ok_X4_workOutOne k_759 k_760 k_6 k_761 ⟨(Nat.le_of_ble_eq_true rfl), (Nat.le_of_ble_eq_true rfl)⟩ ⟨(Nat.le_of_ble_eq_true rfl), (Nat.le_of_ble_eq_true rfl)⟩ hl.1 (Nat.le_of_ble_eq_true rfl) rfl rfl dX4_workOut_124 (hP.sub (ws' := ([] : va_W)) [] rfl) (fun r_129 hw_130 => ?_)
              refine va_iast hx hb hK.1 hP hD hS 3 0 rfl rfl (g_in rfl (by omega) (by omega)) dX4_workOut_127 (fun H locs hP hD hS => ?_)
              have hP : va_P D vwCl [(uh, .inr (4, G4 ua usize)), ((ua 0), .inl (E 0, 120, .inl uf0)), ((ua 1), .inl (E 0, 120, .inl uf1)), ((ua 2), .inl (E 0, 120, .inl (upd uf2_4 (z_126 : Int32).toNatClampNeg r_129))), (nx, .inl (E 0, 9, .inl nxf))] H := hP
              have hD := toW hP hD rfl
              refine lv_goto (tgt := 166) hx hb dX4_workOut_128 (by decide) ?_
              obtain ⟨z_132, ez_132⟩ : ∃ y : Int32, y = L3_4 + 1 := ⟨_, rfl⟩
              have jz_132 : z_132.toInt = L3_4.toInt + 1 := by rw [ez_132]; exact g_add rfl t_1 (by omega) (by omega)
              refine lv_iinc (v := z_132) (lv' := [(3, .int z_132), (5, .int z_9), (4, .int z_8), (2, .int L2_4), (0, .ref uh), (1, .ref nx)]) hx hb dX4_workOut_166 hl (k := 2) rfl (by rw [ez_132]; rfl) (by decide) rfl (fun ls hl => ?_)
              refine lv_goto (tgt := 4) hx hb dX4_workOut_169 (by decide) ?_
              exact ih_2 z_132 L2_4 (upd uf2_4 (z_126 : Int32).toNatClampNeg r_129) _ _ _ (by (try dsimp only); omega) (by (try dsimp only); omega) (by (try dsimp only); omega) (by exact WO_un v2_4 (by omega) jz_132 ez_8 (by omega) (by omega) (by omega) (by omega) ez_128 hw_130) hP hD hS (lv_sub hl [0, 3, 4, 5] rfl)
            ·
              refine W_top (y := .int 0) (by rw [hr_121]) ?_
              refine lv_if_eq (tgt := 131) hx hb dX4_workOut_99 (by decide) (fun c_133 => ?_) (fun c_133 => absurd (by decide) c_133)
              refine lv_iload_n hx hb dX4_workOut_131 rfl (lv_at hl 3 rfl) ?_
              refine lv_iconst (v := 2) hx hb dX4_workOut_132 (by decide) ?_
              refine lv_icmp_lt (tgt := 166) hx hb dX4_workOut_133 (by decide) (fun c_134 => absurd c_134 (by rw [g_lt rfl t_2]; omega)) (fun c_134 => ?_)
              obtain ⟨z_135, ez_135⟩ : ∃ y : Int32, y = L2_4 + (-1) := ⟨_, rfl⟩
              have jz_135 : z_135.toInt = L2_4.toInt + -1 := by rw [ez_135]; exact g_add rfl t_m1 (by omega) (by omega)
              refine lv_iinc (v := z_135) (lv' := [(2, .int z_135), (5, .int z_9), (4, .int z_8), (3, .int L3_4), (0, .ref uh), (1, .ref nx)]) hx hb dX4_workOut_136 hl (k := 3) rfl (by rw [ez_135]; rfl) (by decide) rfl (fun ls hl => ?_)
              refine lv_aload_n hx hb dX4_workOut_139 rfl (lv_at hl 4 rfl) ?_
              refine va_get (D := D) (ci := 4) (v := .ref (ua 2)) (C := RX4) (T := TX4) (N := 4) hx hb htb iX4 hown hK.1 hP 0 rfl rfl 2 (by decide) (htb _ k_143) (fun _ h9 => h9) rfl dX4_workOut_140 ?_
              refine lv_iload_n hx hb dX4_workOut_143 rfl (lv_at hl 0 rfl) ?_
              refine lv_iconst (v := 1) hx hb dX4_workOut_144 (by decide) ?_
              refine lv_isub hx hb dX4_workOut_145 ?_
              refine lv_topi (fun z_136 ez_136 => ?_)
              have jz_136 : z_136.toInt = z_135.toInt - 1 := by rw [ez_136]; exact g_sub rfl t_1 (by omega) (by omega)
              refine lv_iload hx hb dX4_workOut_146 (lv_at hl 2 rfl) ?_
              refine lv_aload_n hx hb dX4_workOut_148 rfl (lv_at hl 4 rfl) ?_
              refine va_get (D := D) (ci := 4) (v := .ref (ua 2)) (C := RX4) (T := TX4) (N := 4) hx hb htb iX4 hown hK.1 hP 0 rfl rfl 2 (by decide) (htb _ k_143) (fun _ h9 => h9) rfl dX4_workOut_149 ?_
              refine lv_iload_n hx hb dX4_workOut_152 rfl (lv_at hl 0 rfl) ?_
              refine lv_iconst (v := 1) hx hb dX4_workOut_153 (by decide) ?_
              refine lv_isub hx hb dX4_workOut_154 ?_
              refine lv_topi (fun z_137 ez_137 => ?_)
              have jz_137 : z_137.toInt = z_135.toInt - 1 := by rw [ez_137]; exact g_sub rfl t_1 (by omega) (by omega)
              refine va_iald hx hb hK.1 hP 3 0 rfl rfl (g_in rfl (by omega) (by omega)) dX4_workOut_155 ?_
              refine lv_topi (fun z_138 ez_138 => ?_)
              have kz_138 := congrArg Int32.toInt ez_138
              refine lv_aload_n hx hb dX4_workOut_156 rfl (lv_at hl 4 rfl) ?_
              refine va_get (D := D) (ci := 4) (v := .ref (ua 2)) (C := RX4) (T := TX4) (N := 4) hx hb htb iX4 hown hK.1 hP 0 rfl rfl 2 (by decide) (htb _ k_143) (fun _ h9 => h9) rfl dX4_workOut_157 ?_
              refine lv_iload_n hx hb dX4_workOut_160 rfl (lv_at hl 0 rfl) ?_
              refine va_iald hx hb hK.1 hP 3 0 rfl rfl (g_in rfl (by omega) (by omega)) dX4_workOut_161 ?_
              refine lv_topi (fun z_139 ez_139 => ?_)
              have kz_139 := congrArg Int32.toInt ez_139
              refine callRS (rest := [.int z_136, .ref (ua 2)]) (As := [.int z_8, .int z_138, .int z_139]) hx hb hml hown htb hK (g_X4_workOutTwo l D E z_8 z_138 z_139 ) ok_X4_workOutTwo k_762 k_763 k_6 k_764 ⟨(Nat.le_of_ble_eq_true rfl), (Nat.le_of_ble_eq_true rfl)⟩ ⟨(Nat.le_of_ble_eq_true rfl), (Nat.le_of_ble_eq_true rfl)⟩ hl.1 (Nat.le_of_ble_eq_true rfl) rfl rfl dX4_workOut_162 (hP.sub (ws' := ([] : va_W)) [] rfl) (fun r_140 hw_141 => ?_)
              refine va_iast hx hb hK.1 hP hD hS 3 0 rfl rfl (g_in rfl (by omega) (by omega)) dX4_workOut_165 (fun H locs hP hD hS => ?_)
              have hP : va_P D vwCl [(uh, .inr (4, G4 ua usize)), ((ua 0), .inl (E 0, 120, .inl uf0)), ((ua 1), .inl (E 0, 120, .inl uf1)), ((ua 2), .inl (E 0, 120, .inl (upd uf2_4 (z_136 : Int32).toNatClampNeg r_140))), (nx, .inl (E 0, 9, .inl nxf))] H := hP
              have hD := toW hP hD rfl
              obtain ⟨z_143, ez_143⟩ : ∃ y : Int32, y = L3_4 + 1 := ⟨_, rfl⟩
              have jz_143 : z_143.toInt = L3_4.toInt + 1 := by rw [ez_143]; exact g_add rfl t_1 (by omega) (by omega)
              refine lv_iinc (v := z_143) (lv' := [(3, .int z_143), (2, .int z_135), (5, .int z_9), (4, .int z_8), (0, .ref uh), (1, .ref nx)]) hx hb dX4_workOut_166 hl (k := 3) rfl (by rw [ez_143]; rfl) (by decide) rfl (fun ls hl => ?_)
              refine lv_goto (tgt := 4) hx hb dX4_workOut_169 (by decide) ?_
              exact ih_2 z_143 z_135 (upd uf2_4 (z_136 : Int32).toNatClampNeg r_140) _ _ _ (by (try dsimp only); omega) (by (try dsimp only); omega) (by (try dsimp only); omega) (by exact WO_bin v2_4 (by omega) jz_143 ez_8 ez_9 (by omega) (by omega) (by omega) (by omega) jz_135 (by omega) (by omega) ez_138 ez_139 hw_141) hP hD hS (lv_sub hl [0, 1, 4, 5] rfl)
          ·
            have ic_119 : L2_4.toInt < 120 := by first | exact (g_lt rfl t_120).mp c_119 | (have h := mt (g_le t_120 rfl).mpr c_119; omega)
            clear c_119
            refine lv_aload_n hx hb dX4_workOut_40 rfl (lv_at hl 4 rfl) ?_
            refine va_get (D := D) (ci := 4) (v := .ref (ua 2)) (C := RX4) (T := TX4) (N := 4) hx hb htb iX4 hown hK.1 hP 0 rfl rfl 2 (by decide) (htb _ k_143) (fun _ h9 => h9) rfl dX4_workOut_41 ?_
            refine lv_iload_n hx hb dX4_workOut_44 rfl (lv_at hl 3 rfl) ?_
            refine lv_iload hx hb dX4_workOut_45 (lv_at hl 0 rfl) ?_
            refine va_iast hx hb hK.1 hP hD hS 3 0 rfl rfl (g_in rfl (by omega) (by omega)) dX4_workOut_47 (fun H locs hP hD hS => ?_)
            have hP : va_P D vwCl [(uh, .inr (4, G4 ua usize)), ((ua 0), .inl (E 0, 120, .inl uf0)), ((ua 1), .inl (E 0, 120, .inl uf1)), ((ua 2), .inl (E 0, 120, .inl (upd uf2_4 (L2_4 : Int32).toNatClampNeg z_9))), (nx, .inl (E 0, 9, .inl nxf))] H := hP
            have hD := toW hP hD rfl
            obtain ⟨z_144, ez_144⟩ : ∃ y : Int32, y = L2_4 + 1 := ⟨_, rfl⟩
            have jz_144 : z_144.toInt = L2_4.toInt + 1 := by rw [ez_144]; exact g_add rfl t_1 (by omega) (by omega)
            refine lv_iinc (v := z_144) (lv' := [(2, .int z_144), (5, .int z_9), (4, .int z_8), (3, .int L3_4), (0, .ref uh), (1, .ref nx)]) hx hb dX4_workOut_48 hl (k := 3) rfl (by rw [ez_144]; rfl) (by decide) rfl (fun ls hl => ?_)
            refine lv_goto (tgt := 166) hx hb dX4_workOut_51 (by decide) ?_
            obtain ⟨z_145, ez_145⟩ : ∃ y : Int32, y = L3_4 + 1 := ⟨_, rfl⟩
            have jz_145 : z_145.toInt = L3_4.toInt + 1 := by rw [ez_145]; exact g_add rfl t_1 (by omega) (by omega)
            refine lv_iinc (v := z_145) (lv' := [(3, .int z_145), (2, .int z_144), (5, .int z_9), (4, .int z_8), (0, .ref uh), (1, .ref nx)]) hx hb dX4_workOut_166 hl (k := 3) rfl (by rw [ez_145]; rfl) (by decide) rfl (fun ls hl => ?_)
            refine lv_goto (tgt := 4) hx hb dX4_workOut_169 (by decide) ?_
            exact ih_2 z_145 z_144 (upd uf2_4 (L2_4 : Int32).toNatClampNeg z_9) _ _ _ (by (try dsimp only); omega) (by (try dsimp only); omega) (by (try dsimp only); omega) (by exact WO_num v2_4 (by omega) jz_145 ez_8 ez_9 (by omega) (by omega) (by omega) jz_144) hP hD hS (lv_sub hl [0, 1, 4, 5] rfl)
  exact loop_1 121 0 0 uf2 _ _ _ (by have h0 := t_0; (try dsimp only); omega) (by have h0 := t_0; (try dsimp only); omega) (by have h0 := t_0; (try dsimp only); omega) (by rw [clamp_0]; rfl) hP hD hS (lv_sub hl [0, 1, 2, 3] rfl)
