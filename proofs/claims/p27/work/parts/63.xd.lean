set_option maxHeartbeats 4000000 in
set_option maxRecDepth 100000 in
theorem g_X6_readAsRule (l : Launch) (D : va_G) (E : Nat → Nat) (th : Nat) (ta : Nat → Nat) (tsize : Int32) (trule : Nat) (twords : Nat) (tat : Int32) (tword : Int32) (twordAt : Int32) (tvalue : Int32) (tf0 : Nat → Int32) (ua : Nat → Nat) (usize : Int32) (uf0 : Nat → Int32) (uf1 : Nat → Int32) (sh : Nat) (sv : Nat) (sn : Nat) (sf : Nat → Int32) (sz : Nat) (hi_t : (0 ≤ tsize.toInt ∧ tsize.toInt ≤ 120)) (hi_u : (0 ≤ usize.toInt ∧ usize.toInt ≤ 120)) (hsn : sn < 2147483647) (g1 : sn ≤ 900) : Met l yX6_readAsRule (wl yX6_readAsRule cX6_readAsRule 3 (some .int)) (RM 144 0 0) (muS_P D E [.ref th, .ref sh] [(th, .inr (6, G6 ta tsize trule twords tat tword twordAt tvalue)), ((ta 0), .inl (E 0, 120, .inl tf0)), (trule, .inr (4, G4 ua usize)), ((ua 0), .inl (E 0, 120, .inl uf0)), ((ua 1), .inl (E 0, 120, .inl uf1))] sz [(sh, sv, sn, sf)]) (va_Qi (fun (r : Int32) (u : (Int32) × (Int32) × (Int32) × (Int32) × (Nat) × (Nat → Int32) × (Nat → Int32) × (Int32)) => (0 ≤ u.2.2.2.2.2.2.2.toInt ∧ u.2.2.2.2.2.2.2.toInt ≤ 120) ∧ (-1 ≤ r.toInt ∧ r.toInt ≤ 120 ∧ RAP sn sf tf0 (tsize).toNatClampNeg r.toInt (oC (20 * whN sn) u.2.2.2.2.2.1 u.2.2.2.2.2.2.1 (u.2.2.2.2.2.2.2).toNatClampNeg))) (mu_B D (va_A [(th, .inr (6, G6 ta tsize trule twords tat tword twordAt tvalue)), ((ta 0), .inl (E 0, 120, .inl tf0)), (trule, .inr (4, G4 ua usize)), ((ua 0), .inl (E 0, 120, .inl uf0)), ((ua 1), .inl (E 0, 120, .inl uf1))] sz) (fun (u : (Int32) × (Int32) × (Int32) × (Int32) × (Nat) × (Nat → Int32) × (Nat → Int32) × (Int32)) => [(th, .inr (6, G6 ta tsize trule u.2.2.2.2.1 u.1 u.2.2.1 u.2.2.2.1 u.2.1)), ((ta 0), .inl (E 0, 120, .inl tf0)), (trule, .inr (4, G4 ua u.2.2.2.2.2.2.2)), ((ua 0), .inl (E 0, 120, .inl u.2.2.2.2.2.1)), ((ua 1), .inl (E 0, 120, .inl u.2.2.2.2.2.2.1))])) (va_A [(th, .inr (6, G6 ta tsize trule twords tat tword twordAt tvalue)), ((ta 0), .inl (E 0, 120, .inl tf0)), (trule, .inr (4, G4 ua usize)), ((ua 0), .inl (E 0, 120, .inl uf0)), ((ua 1), .inl (E 0, 120, .inl uf1))] sz)) 0 0 (va_A [(th, .inr (6, G6 ta tsize trule twords tat tword twordAt tvalue)), ((ta 0), .inl (E 0, 120, .inl tf0)), (trule, .inr (4, G4 ua usize)), ((ua 0), .inl (E 0, 120, .inl uf0)), ((ua 1), .inl (E 0, 120, .inl uf1))] sz) := by
  refine Met.ofW (cc := cX6_readAsRule) (maxL := 3) (ret := (some .int)) (by decide) rfl ?_
  intro p e s m args below meth c s₁ B hml hv
  obtain ⟨rfl, hsz, hP, hK, hD0, hG⟩ := hv
  have hx := B.exec; have hb := B.bytes; have hr := B.returns
  have hts := atoms_spec (ws := wl yX6_readAsRule cX6_readAsRule 3 (some .int)) B.pre
  have htb : ∀ w ∈ tb, w.before _ s = true := fun w h => hts w (List.mem_cons_of_mem _ h)
  have hown : s.vm.findClass RX6 = some m.cls := findClass_of_methodNamed B.named
  have hlocks := B.notSynchronized
  subst hsz
  have hD := hD0.self (sz := s.heap.size)
  generalize hAe : va_A [(th, .inr (6, G6 ta tsize trule twords tat tword twordAt tvalue)), ((ta 0), .inl (E 0, 120, .inl tf0)), (trule, .inr (4, G4 ua usize)), ((ua 0), .inl (E 0, 120, .inl uf0)), ((ua 1), .inl (E 0, 120, .inl uf1))] s.heap.size = A at hD hG ⊢
  have hA : ∀ q : Nat, s.heap.size ≤ q → A q := fun q h => by rw [← hAe]; exact Or.inr h
  have hS : va_S A s.heap s.heap [] := va_S.rf
  have hP : va_P D vwCl [(th, .inr (6, G6 ta tsize trule twords tat tword twordAt tvalue)), ((ta 0), .inl (E 0, 120, .inl tf0)), (trule, .inr (4, G4 ua usize)), ((ua 0), .inl (E 0, 120, .inl uf0)), ((ua 1), .inl (E 0, 120, .inl uf1))] s.heap := hP
  have hl := lv_entry ([.ref th, .ref sh]) (n := 3) (Nat.le_of_ble_eq_true rfl)
  rw [lg_entry_eq]
  generalize (lg_sl ([.ref th, .ref sh]) ++ List.replicate (3 - (lg_sl ([.ref th, .ref sh])).length) Slot.unset).toArray = ls at hl ⊢
  have hl : lv_has ls 3 [(0, .ref th), (1, .ref sh)] := hl
  refine lv_aload_n hx hb dX6_readAsRule_0 rfl (lv_at hl 0 rfl) ?_
  refine lv_aload_n hx hb dX6_readAsRule_1 rfl (lv_at hl 1 rfl) ?_
  refine va_put (D := D) (ci := 6) (v := .ref sh) (ty := .object "java/lang/String") (C := RX6) (T := TX6) (N := 8) hx hb htb iX6 tyX6 tyX6_ok nmX6 hown hK.1 hP hD hS 0 rfl rfl 3 (by decide) (htb _ k_161) (fun _ h9 => h9) rfl (by decide +kernel) rfl rfl (Nat.le_of_ble_eq_true rfl) dX6_readAsRule_2 (fun H locs hP hD hS => ?_)
  have hP : va_P D vwCl [(th, .inr (6, G6 ta tsize trule sh tat tword twordAt tvalue)), ((ta 0), .inl (E 0, 120, .inl tf0)), (trule, .inr (4, G4 ua usize)), ((ua 0), .inl (E 0, 120, .inl uf0)), ((ua 1), .inl (E 0, 120, .inl uf1))] H := hP
  have hD := toW hP hD rfl
  refine lv_aload_n hx hb dX6_readAsRule_5 rfl (lv_at hl 0 rfl) ?_
  refine va_get (D := D) (ci := 6) (v := .ref trule) (C := RX6) (T := TX6) (N := 8) hx hb htb iX6 hown hK.1 hP 0 rfl rfl 2 (by decide) (htb _ k_160) (fun _ h9 => h9) rfl dX6_readAsRule_6 ?_
  refine lv_iconst (v := 0) hx hb dX6_readAsRule_9 (by decide) ?_
  refine va_putN (D := D) (ci := 4) (v := .int 0) (ty := .int) (C := RX4) (T := TX4) (N := 4) hx hb htb iX4 tyX4 tyX4_ok nmX4 hown hK.1 hP hD hS 2 rfl rfl 3 (by decide) (va_Nw.use rfl (hK.2.1 (Cond.fieldLinkNest RX6 44 "SeaWatches$Rule" "size" "I" "SeaWatches") (by decide +kernel))) (fun _ h9 => h9) rfl (by decide +kernel) rfl rfl (Nat.le_of_ble_eq_true rfl) dX6_readAsRule_10 (fun H locs hP hD hS => ?_)
  have hP : va_P D vwCl [(th, .inr (6, G6 ta tsize trule sh tat tword twordAt tvalue)), ((ta 0), .inl (E 0, 120, .inl tf0)), (trule, .inr (4, G4 ua 0)), ((ua 0), .inl (E 0, 120, .inl uf0)), ((ua 1), .inl (E 0, 120, .inl uf1))] H := hP
  have hD := toW hP hD rfl
  refine lv_aload_n hx hb dX6_readAsRule_13 rfl (lv_at hl 0 rfl) ?_
  refine lv_iconst (v := 0) hx hb dX6_readAsRule_14 (by decide) ?_
  refine va_put (D := D) (ci := 6) (v := .int 0) (ty := .int) (C := RX6) (T := TX6) (N := 8) hx hb htb iX6 tyX6 tyX6_ok nmX6 hown hK.1 hP hD hS 0 rfl rfl 4 (by decide) (htb _ k_162) (fun _ h9 => h9) rfl (by decide +kernel) rfl rfl (Nat.le_of_ble_eq_true rfl) dX6_readAsRule_15 (fun H locs hP hD hS => ?_)
  have hP : va_P D vwCl [(th, .inr (6, G6 ta tsize trule sh 0 tword twordAt tvalue)), ((ta 0), .inl (E 0, 120, .inl tf0)), (trule, .inr (4, G4 ua 0)), ((ua 0), .inl (E 0, 120, .inl uf0)), ((ua 1), .inl (E 0, 120, .inl uf1))] H := hP
  have hD := toW hP hD rfl
  refine lv_aload_n hx hb dX6_readAsRule_18 rfl (lv_at hl 0 rfl) ?_
  have hPc := hP.sub (ws' := [(th, .inr (6, G6 ta tsize trule sh 0 tword twordAt tvalue)), ((ta 0), .inl (E 0, 120, .inl tf0))]) [0, 1] rfl
  have hDc := hD.sub (ws' := [(th, .inr (6, G6 ta tsize trule sh 0 tword twordAt tvalue)), ((ta 0), .inl (E 0, 120, .inl tf0))]) [0, 1] (by decide) rfl
  refine aft_v (runMG (rest := []) (As := []) hx hb hml hown htb (g_X6_goOn l D E th ta tsize trule sh 0 tword twordAt tvalue tf0 sv sn sf _ (by (try dsimp only); omega) hsn (by have h0 := t_0; (try dsimp only); omega) g1) ok_X6_goOn k_591 k_593 ks_11 k_5 k_594 ⟨(Nat.le_of_ble_eq_true rfl), (Nat.le_of_ble_eq_true rfl)⟩ ⟨(Nat.le_of_ble_eq_true rfl), (Nat.le_of_ble_eq_true rfl)⟩ hl.1 (Nat.le_of_ble_eq_true rfl) rfl rfl dX6_readAsRule_19 (pmVS hPc hDc hK rfl rfl 0 rfl hG hS (va_free hD hS hA [0, 1] rfl))) hP hD hS hA [0, 1] [2, 3, 4] (wr := [(trule, .inr (4, G4 ua 0)), ((ua 0), .inl (E 0, 120, .inl uf0)), ((ua 1), .inl (E 0, 120, .inl uf1))]) rfl rfl (by decide) (by decide) (fun u_3 H locs hw_2 hP hD hS => ?_)
  clear hPc hDc
  obtain ⟨w_4, w_5, w_6, w_7⟩ := u_3
  try dsimp only at hw_2
  have hP : va_P D vwCl [(trule, .inr (4, G4 ua 0)), ((ua 0), .inl (E 0, 120, .inl uf0)), ((ua 1), .inl (E 0, 120, .inl uf1)), (th, .inr (6, G6 ta tsize trule sh w_4 w_6 w_7 w_5)), ((ta 0), .inl (E 0, 120, .inl tf0))] H := hP
  have hD := toW hP hD rfl
  obtain ⟨hw_2_0, hw_2_1⟩ := hw_2
  try simp only [t_0] at hw_2_0
  try simp only [t_0] at hw_2_1
  refine lv_aload_n hx hb dX6_readAsRule_22 rfl (lv_at hl 0 rfl) ?_
  refine lv_iconst (v := 0) hx hb dX6_readAsRule_23 (by decide) ?_
  have hPc := hP.sub (ws' := [(th, .inr (6, G6 ta tsize trule sh w_4 w_6 w_7 w_5)), ((ta 0), .inl (E 0, 120, .inl tf0)), (trule, .inr (4, G4 ua 0)), ((ua 0), .inl (E 0, 120, .inl uf0)), ((ua 1), .inl (E 0, 120, .inl uf1))]) [3, 4, 0, 1, 2] rfl
  have hDc := hD.sub (ws' := [(th, .inr (6, G6 ta tsize trule sh w_4 w_6 w_7 w_5)), ((ta 0), .inl (E 0, 120, .inl tf0)), (trule, .inr (4, G4 ua 0)), ((ua 0), .inl (E 0, 120, .inl uf0)), ((ua 1), .inl (E 0, 120, .inl uf1))]) [3, 4, 0, 1, 2] (by decide) rfl
  refine aft_i (runMG (rest := []) (As := [.int 0]) hx hb hml hown htb (rd_top l D E th ta tsize trule sh w_4 w_6 w_7 w_5 tf0 ua 0 uf0 uf1 sv sn sf _ (by (try dsimp only); omega) (by have h0 := t_0; (try dsimp only); omega) hsn (by (try dsimp only); omega) g1) ok_X6_readEither k_668 k_670 ks_16 k_5 k_671 ⟨(Nat.le_of_ble_eq_true rfl), (Nat.le_of_ble_eq_true rfl)⟩ ⟨(Nat.le_of_ble_eq_true rfl), (Nat.le_of_ble_eq_true rfl)⟩ hl.1 (Nat.le_of_ble_eq_true rfl) rfl rfl dX6_readAsRule_24 (pmVS hPc hDc hK rfl rfl 0 rfl hG hS (va_free hD hS hA [3, 4, 0, 1, 2] rfl))) hP hD hS hA [3, 4, 0, 1, 2] [] (wr := ([] : va_W)) rfl rfl (by decide) (by decide) (fun r_8 u_10 H locs hw_9 hP hD hS => ?_)
  clear hPc hDc
  obtain ⟨w_11, w_12, w_13, w_14, w_15, w_16, w_17⟩ := u_10
  try dsimp only at hw_9
  have hP : va_P D vwCl [(th, .inr (6, G6 ta tsize trule sh w_11 w_13 w_14 w_12)), ((ta 0), .inl (E 0, 120, .inl tf0)), (trule, .inr (4, G4 ua w_17)), ((ua 0), .inl (E 0, 120, .inl w_15)), ((ua 1), .inl (E 0, 120, .inl w_16))] H := hP
  have hD := toW hP hD rfl
  obtain ⟨hw_9_0, hw_9_1, hw_9_2⟩ := hw_9
  try simp only [t_0] at hw_9_0
  try simp only [t_0] at hw_9_1
  try simp only [t_0] at hw_9_2
  obtain ⟨hw_9_2r, hw_9_2k⟩ := hw_9_2
  refine lv_istore_n (lv' := [(2, .int r_8), (0, .ref th), (1, .ref sh)]) hx hb dX6_readAsRule_27 rfl hl (by decide) rfl (fun ls hl => ?_)
  refine lv_iload_n hx hb dX6_readAsRule_28 rfl (lv_at hl 0 rfl) ?_
  refine lv_if_eq (tgt := 43) hx hb dX6_readAsRule_29 (by decide) (fun c_18 => ?_) (fun c_18 => ?_)
  ·
    have ic_18 : r_8.toInt = 0 := (g_eq rfl t_0).mp c_18
    clear c_18
    refine lv_aload_n hx hb dX6_readAsRule_43 rfl (lv_at hl 1 rfl) ?_
    refine va_get (D := D) (ci := 6) (v := .int w_14) (C := RX6) (T := TX6) (N := 8) hx hb htb iX6 hown hK.1 hP 0 rfl rfl 6 (by decide) (htb _ k_164) (fun _ h9 => h9) rfl dX6_readAsRule_44 ?_
    have hP9 := hP.sub (ws' := [(th, .inr (6, G6 ta tsize trule sh w_11 w_13 w_14 w_12)), ((ta 0), .inl (E 0, 120, .inl tf0)), (trule, .inr (4, G4 ua w_17)), ((ua 0), .inl (E 0, 120, .inl w_15)), ((ua 1), .inl (E 0, 120, .inl w_16))]) [0, 1, 2, 3, 4] rfl
    have hD9 := hD.sub (ws' := [(th, .inr (6, G6 ta tsize trule sh w_11 w_13 w_14 w_12)), ((ta 0), .inl (E 0, 120, .inl tf0)), (trule, .inr (4, G4 ua w_17)), ((ua 0), .inl (E 0, 120, .inl w_15)), ((ua 1), .inl (E 0, 120, .inl w_16))]) [0, 1, 2, 3, 4] (by decide) rfl
    exact W.iret (v := w_14) hx hb hr (fun t ht hW => ⟨⟨w_14, (w_11, w_12, w_13, w_14, sh, w_15, w_16, w_17), rfl, ⟨(by (try dsimp only); omega), (by have hl0 := t_0; (try dsimp only); have c0 := i_clamp0 (x := tsize) (by omega); exact ⟨by omega, by omega, by first | exact RA_no (by have h9 := hw_2_1; rw [clamp_0] at h9; exact h9) hw_9_2k (by omega) (by omega) (by omega) | exact RA_bad (by have h9 := hw_2_1; rw [clamp_0] at h9; exact h9) hw_9_2k (by omega) (by omega) (by omega) (by omega)⟩)⟩, by rw [ht]; exact hP9, hD9⟩, hS.F ht⟩) hS.2.2 dX6_readAsRule_47
  ·
    have ic_18 : r_8.toInt ≠ 0 := mt (g_eq rfl t_0).mpr c_18
    clear c_18
    refine lv_aload_n hx hb dX6_readAsRule_32 rfl (lv_at hl 1 rfl) ?_
    refine va_get (D := D) (ci := 6) (v := .int w_13) (C := RX6) (T := TX6) (N := 8) hx hb htb iX6 hown hK.1 hP 0 rfl rfl 5 (by decide) (htb _ k_163) (fun _ h9 => h9) rfl dX6_readAsRule_33 ?_
    refine lv_if_ne (tgt := 43) hx hb dX6_readAsRule_36 (by decide) (fun c_19 => ?_) (fun c_19 => ?_)
    ·
      have ic_19 : w_13.toInt ≠ 0 := mt (g_eq rfl t_0).mpr c_19
      clear c_19
      refine lv_aload_n hx hb dX6_readAsRule_43 rfl (lv_at hl 1 rfl) ?_
      refine va_get (D := D) (ci := 6) (v := .int w_14) (C := RX6) (T := TX6) (N := 8) hx hb htb iX6 hown hK.1 hP 0 rfl rfl 6 (by decide) (htb _ k_164) (fun _ h9 => h9) rfl dX6_readAsRule_44 ?_
      have hP9 := hP.sub (ws' := [(th, .inr (6, G6 ta tsize trule sh w_11 w_13 w_14 w_12)), ((ta 0), .inl (E 0, 120, .inl tf0)), (trule, .inr (4, G4 ua w_17)), ((ua 0), .inl (E 0, 120, .inl w_15)), ((ua 1), .inl (E 0, 120, .inl w_16))]) [0, 1, 2, 3, 4] rfl
      have hD9 := hD.sub (ws' := [(th, .inr (6, G6 ta tsize trule sh w_11 w_13 w_14 w_12)), ((ta 0), .inl (E 0, 120, .inl tf0)), (trule, .inr (4, G4 ua w_17)), ((ua 0), .inl (E 0, 120, .inl w_15)), ((ua 1), .inl (E 0, 120, .inl w_16))]) [0, 1, 2, 3, 4] (by decide) rfl
      exact W.iret (v := w_14) hx hb hr (fun t ht hW => ⟨⟨w_14, (w_11, w_12, w_13, w_14, sh, w_15, w_16, w_17), rfl, ⟨(by (try dsimp only); omega), (by have hl0 := t_0; (try dsimp only); have c0 := i_clamp0 (x := tsize) (by omega); exact ⟨by omega, by omega, by first | exact RA_no (by have h9 := hw_2_1; rw [clamp_0] at h9; exact h9) hw_9_2k (by omega) (by omega) (by omega) | exact RA_bad (by have h9 := hw_2_1; rw [clamp_0] at h9; exact h9) hw_9_2k (by omega) (by omega) (by omega) (by omega)⟩)⟩, by rw [ht]; exact hP9, hD9⟩, hS.F ht⟩) hS.2.2 dX6_readAsRule_47
    ·
      have ic_19 : w_13.toInt = 0 := (g_eq rfl t_0).mp c_19
      clear c_19
      refine lv_iconst (v := (-1)) hx hb dX6_readAsRule_39 (by decide) ?_
      refine lv_goto (tgt := 47) hx hb dX6_readAsRule_40 (by decide) ?_
      have hP9 := hP.sub (ws' := [(th, .inr (6, G6 ta tsize trule sh w_11 w_13 w_14 w_12)), ((ta 0), .inl (E 0, 120, .inl tf0)), (trule, .inr (4, G4 ua w_17)), ((ua 0), .inl (E 0, 120, .inl w_15)), ((ua 1), .inl (E 0, 120, .inl w_16))]) [0, 1, 2, 3, 4] rfl
      have hD9 := hD.sub (ws' := [(th, .inr (6, G6 ta tsize trule sh w_11 w_13 w_14 w_12)), ((ta 0), .inl (E 0, 120, .inl tf0)), (trule, .inr (4, G4 ua w_17)), ((ua 0), .inl (E 0, 120, .inl w_15)), ((ua 1), .inl (E 0, 120, .inl w_16))]) [0, 1, 2, 3, 4] (by decide) rfl
      exact W.iret (v := (-1)) hx hb hr (fun t ht hW => ⟨⟨(-1), (w_11, w_12, w_13, w_14, sh, w_15, w_16, w_17), rfl, ⟨(by (try dsimp only); omega), (by have hl := t_m1; have hl0 := t_0; (try dsimp only); have c0 := i_clamp0 (x := tsize) (by omega); exact ⟨by omega, by omega, RA_ok (by have h9 := hw_2_1; rw [clamp_0] at h9; exact h9) hw_9_2k clamp_0 (by omega) (by omega) (by omega)⟩)⟩, by rw [ht]; exact hP9, hD9⟩, hS.F ht⟩) hS.2.2 dX6_readAsRule_47
set_option maxHeartbeats 4000000 in
set_option maxRecDepth 100000 in
theorem g_X6_exchangeRule (l : Launch) (D : va_G) (E : Nat → Nat) (th : Nat) (ta : Nat → Nat) (tsize : Int32) (trule : Nat) (twords : Nat) (tat : Int32) (tword : Int32) (twordAt : Int32) (tvalue : Int32) (pr : Nat) (sz : Nat) (hi_t : (0 ≤ tsize.toInt ∧ tsize.toInt ≤ 120)) : Met l yX6_exchangeRule (wl yX6_exchangeRule cX6_exchangeRule 3 (some (.object "SeaWatches$Rule"))) (RM 0 0 0) (mu_P D E [.ref th, .ref pr] [(th, .inr (6, G6 ta tsize trule twords tat tword twordAt tvalue))] sz) (va_Qr (fun (u : (Nat)) => (u = pr)) (fun u x t => x = trule ∧ mu_B D (va_A [(th, .inr (6, G6 ta tsize trule twords tat tword twordAt tvalue))] sz) (fun (u : (Nat)) => [(th, .inr (6, G6 ta tsize u twords tat tword twordAt tvalue))]) u t) (va_A [(th, .inr (6, G6 ta tsize trule twords tat tword twordAt tvalue))] sz)) 0 0 (va_A [(th, .inr (6, G6 ta tsize trule twords tat tword twordAt tvalue))] sz) := by
  refine Met.ofW (cc := cX6_exchangeRule) (maxL := 3) (ret := (some (.object "SeaWatches$Rule"))) (by decide) rfl ?_
  intro p e s m args below meth c s₁ B hml hv
  obtain ⟨rfl, hsz, hP, hK, hD0⟩ := hv
  have hx := B.exec; have hb := B.bytes; have hr := B.returns
  have hts := atoms_spec (ws := wl yX6_exchangeRule cX6_exchangeRule 3 (some (.object "SeaWatches$Rule"))) B.pre
  have htb : ∀ w ∈ tb, w.before _ s = true := fun w h => hts w (List.mem_cons_of_mem _ h)
  have hown : s.vm.findClass RX6 = some m.cls := findClass_of_methodNamed B.named
  have hlocks := B.notSynchronized
  subst hsz
  have hD := hD0.self (sz := s.heap.size)
  generalize hAe : va_A [(th, .inr (6, G6 ta tsize trule twords tat tword twordAt tvalue))] s.heap.size = A at hD ⊢
  have hA : ∀ q : Nat, s.heap.size ≤ q → A q := fun q h => by rw [← hAe]; exact Or.inr h
  have hS : va_S A s.heap s.heap [] := va_S.rf
  have hP : va_P D vwCl [(th, .inr (6, G6 ta tsize trule twords tat tword twordAt tvalue))] s.heap := hP
  have hl := lv_entry ([.ref th, .ref pr]) (n := 3) (Nat.le_of_ble_eq_true rfl)
  rw [lg_entry_eq]
  generalize (lg_sl ([.ref th, .ref pr]) ++ List.replicate (3 - (lg_sl ([.ref th, .ref pr])).length) Slot.unset).toArray = ls at hl ⊢
  have hl : lv_has ls 3 [(0, .ref th), (1, .ref pr)] := hl
  refine lv_aload_n hx hb dX6_exchangeRule_0 rfl (lv_at hl 0 rfl) ?_
  refine va_get (D := D) (ci := 6) (v := .ref trule) (C := RX6) (T := TX6) (N := 8) hx hb htb iX6 hown hK.1 hP 0 rfl rfl 2 (by decide) (htb _ k_160) (fun _ h9 => h9) rfl dX6_exchangeRule_1 ?_
  refine lv_astore_n (lv' := [(2, .ref trule), (0, .ref th), (1, .ref pr)]) hx hb dX6_exchangeRule_4 rfl hl (by decide) rfl (fun ls hl => ?_)
  refine lv_aload_n hx hb dX6_exchangeRule_5 rfl (lv_at hl 1 rfl) ?_
  refine lv_aload_n hx hb dX6_exchangeRule_6 rfl (lv_at hl 2 rfl) ?_
  refine va_put (D := D) (ci := 6) (v := .ref pr) (ty := .object "SeaWatches$Rule") (C := RX6) (T := TX6) (N := 8) hx hb htb iX6 tyX6 tyX6_ok nmX6 hown hK.1 hP hD hS 0 rfl rfl 2 (by decide) (htb _ k_160) (fun _ h9 => h9) rfl (by decide +kernel) rfl rfl (Nat.le_of_ble_eq_true rfl) dX6_exchangeRule_7 (fun H locs hP hD hS => ?_)
  have hP : va_P D vwCl [(th, .inr (6, G6 ta tsize pr twords tat tword twordAt tvalue))] H := hP
  have hD := toW hP hD rfl
  refine lv_aload_n hx hb dX6_exchangeRule_10 rfl (lv_at hl 0 rfl) ?_
  have hP9 := hP.sub (ws' := [(th, .inr (6, G6 ta tsize pr twords tat tword twordAt tvalue))]) [0] rfl
  have hD9 := hD.sub (ws' := [(th, .inr (6, G6 ta tsize pr twords tat tword twordAt tvalue))]) [0] (by decide) rfl
  exact W.aret (v := .ref trule) hx hb hr (Or.inl ⟨_, rfl⟩) (Or.inr ⟨_, rfl⟩) (fun t ht hW => ⟨⟨pr, trule, rfl, rfl, rfl, by rw [ht]; exact hP9, hD9⟩, hS.F ht⟩) hS.2.2 dX6_exchangeRule_11
