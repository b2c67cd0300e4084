set_option maxHeartbeats 4000000 in
set_option maxRecDepth 100000 in
theorem g_X2_add (l : Launch) (D : va_G) (E : Nat → Nat) (oh : Nat) (oa : Nat → Nat) (osize : Int32) (of0 : Nat → Int32) (of1 : Nat → Int32) (of2 : Nat → Int32) (of3 : Nat → Int32) (of4 : Nat → Int32) (p0 : Int32) (p1 : Int32) (p2 : Int32) (p3 : Int32) (p4 : Int32) (sz : Nat) (hi_o : (0 ≤ osize.toInt ∧ osize.toInt ≤ 60)) : Met l yX2_add (wl yX2_add cX2_add 6 none) (RM 0 0 0) (mu_P D E [.ref oh, .int p0, .int p1, .int p2, .int p3, .int p4] [(oh, .inr (2, G2 oa osize)), ((oa 0), .inl (E 0, 60, .inl of0)), ((oa 1), .inl (E 0, 60, .inl of1)), ((oa 2), .inl (E 0, 60, .inl of2)), ((oa 3), .inl (E 0, 60, .inl of3)), ((oa 4), .inl (E 0, 60, .inl of4))] sz) (va_Qv (fun (u : (Nat → Int32) × (Nat → Int32) × (Nat → Int32) × (Nat → Int32) × (Nat → Int32) × (Int32)) => (0 ≤ u.2.2.2.2.2.toInt ∧ u.2.2.2.2.2.toInt ≤ 60) ∧ ((osize.toInt < 60 ∧ u.2.2.2.2.2.toInt = osize.toInt + 1 ∧ u.1 = upd of0 (osize).toNatClampNeg p0 ∧ u.2.1 = upd of1 (osize).toNatClampNeg p1 ∧ u.2.2.1 = upd of2 (osize).toNatClampNeg p2 ∧ u.2.2.2.1 = upd of3 (osize).toNatClampNeg p3 ∧ u.2.2.2.2.1 = upd of4 (osize).toNatClampNeg p4) ∨ (osize.toInt = 60 ∧ u.2.2.2.2.2.toInt = osize.toInt ∧ u.1 = of0 ∧ u.2.1 = of1 ∧ u.2.2.1 = of2 ∧ u.2.2.2.1 = of3 ∧ u.2.2.2.2.1 = of4))) (mu_B D (va_A [(oh, .inr (2, G2 oa osize)), ((oa 0), .inl (E 0, 60, .inl of0)), ((oa 1), .inl (E 0, 60, .inl of1)), ((oa 2), .inl (E 0, 60, .inl of2)), ((oa 3), .inl (E 0, 60, .inl of3)), ((oa 4), .inl (E 0, 60, .inl of4))] sz) (fun (u : (Nat → Int32) × (Nat → Int32) × (Nat → Int32) × (Nat → Int32) × (Nat → Int32) × (Int32)) => [(oh, .inr (2, G2 oa u.2.2.2.2.2)), ((oa 0), .inl (E 0, 60, .inl u.1)), ((oa 1), .inl (E 0, 60, .inl u.2.1)), ((oa 2), .inl (E 0, 60, .inl u.2.2.1)), ((oa 3), .inl (E 0, 60, .inl u.2.2.2.1)), ((oa 4), .inl (E 0, 60, .inl u.2.2.2.2.1))])) (va_A [(oh, .inr (2, G2 oa osize)), ((oa 0), .inl (E 0, 60, .inl of0)), ((oa 1), .inl (E 0, 60, .inl of1)), ((oa 2), .inl (E 0, 60, .inl of2)), ((oa 3), .inl (E 0, 60, .inl of3)), ((oa 4), .inl (E 0, 60, .inl of4))] sz)) 0 0 (va_A [(oh, .inr (2, G2 oa osize)), ((oa 0), .inl (E 0, 60, .inl of0)), ((oa 1), .inl (E 0, 60, .inl of1)), ((oa 2), .inl (E 0, 60, .inl of2)), ((oa 3), .inl (E 0, 60, .inl of3)), ((oa 4), .inl (E 0, 60, .inl of4))] sz) := by
  refine Met.ofW (cc := cX2_add) (maxL := 6) (ret := none) (by decide) rfl ?_
  intro p e s m args below meth c s₁ B hml hv
  obtain ⟨rfl, hsz, hP, hK, hD0⟩ := hv
  have hx := B.exec; have hb := B.bytes; have hr := B.returns
  have hts := atoms_spec (ws := wl yX2_add cX2_add 6 none) B.pre
  have htb : ∀ w ∈ tb, w.before _ s = true := fun w h => hts w (List.mem_cons_of_mem _ h)
  have hown : s.vm.findClass RX2 = some m.cls := findClass_of_methodNamed B.named
  have hlocks := B.notSynchronized
  subst hsz
  have hD := hD0.self (sz := s.heap.size)
  generalize hAe : va_A [(oh, .inr (2, G2 oa osize)), ((oa 0), .inl (E 0, 60, .inl of0)), ((oa 1), .inl (E 0, 60, .inl of1)), ((oa 2), .inl (E 0, 60, .inl of2)), ((oa 3), .inl (E 0, 60, .inl of3)), ((oa 4), .inl (E 0, 60, .inl of4))] s.heap.size = A at hD ⊢
  have hA : ∀ q : Nat, s.heap.size ≤ q → A q := fun q h => by rw [← hAe]; exact Or.inr h
  have hS : va_S A s.heap s.heap [] := va_S.rf
  have hP : va_P D vwCl [(oh, .inr (2, G2 oa osize)), ((oa 0), .inl (E 0, 60, .inl of0)), ((oa 1), .inl (E 0, 60, .inl of1)), ((oa 2), .inl (E 0, 60, .inl of2)), ((oa 3), .inl (E 0, 60, .inl of3)), ((oa 4), .inl (E 0, 60, .inl of4))] s.heap := hP
  have hl := lv_entry ([.ref oh, .int p0, .int p1, .int p2, .int p3, .int p4]) (n := 6) (Nat.le_of_ble_eq_true rfl)
  rw [lg_entry_eq]
  generalize (lg_sl ([.ref oh, .int p0, .int p1, .int p2, .int p3, .int p4]) ++ List.replicate (6 - (lg_sl ([.ref oh, .int p0, .int p1, .int p2, .int p3, .int p4])).length) Slot.unset).toArray = ls at hl ⊢
  have hl : lv_has ls 6 [(0, .ref oh), (1, .int p0), (2, .int p1), (3, .int p2), (4, .int p3), (5, .int p4)] := hl
  have lo_p0 := i_lo p0; have hi_p0 := i_hi p0
  have lo_p1 := i_lo p1; have hi_p1 := i_hi p1
  have lo_p2 := i_lo p2; have hi_p2 := i_hi p2
  have lo_p3 := i_lo p3; have hi_p3 := i_hi p3
  have lo_p4 := i_lo p4; have hi_p4 := i_hi p4
  refine lv_aload_n hx hb dX2_add_0 rfl (lv_at hl 0 rfl) ?_
  refine va_get (D := D) (ci := 2) (v := .int osize) (C := RX2) (T := TX2) (N := 6) hx hb htb iX2 hown hK.1 hP 0 rfl rfl 5 (by decide) (htb _ k_39) (fun _ h9 => h9) rfl dX2_add_1 ?_
  refine lv_bipush (v := 60) hx hb dX2_add_4 (by decide) ?_
  refine lv_icmp_lt (tgt := 10) hx hb dX2_add_6 (by decide) (fun c_1 => ?_) (fun c_1 => ?_)
  ·
    have ic_1 : osize.toInt < 60 := by first | exact (g_lt rfl t_60).mp c_1 | (have h := mt (g_le t_60 rfl).mpr c_1; omega)
    clear c_1
    refine lv_aload_n hx hb dX2_add_10 rfl (lv_at hl 0 rfl) ?_
    refine va_get (D := D) (ci := 2) (v := .ref (oa 0)) (C := RX2) (T := TX2) (N := 6) hx hb htb iX2 hown hK.1 hP 0 rfl rfl 0 (by decide) (htb _ k_34) (fun _ h9 => h9) rfl dX2_add_11 ?_
    refine lv_aload_n hx hb dX2_add_14 rfl (lv_at hl 0 rfl) ?_
    refine va_get (D := D) (ci := 2) (v := .int osize) (C := RX2) (T := TX2) (N := 6) hx hb htb iX2 hown hK.1 hP 0 rfl rfl 5 (by decide) (htb _ k_39) (fun _ h9 => h9) rfl dX2_add_15 ?_
    refine lv_iload_n hx hb dX2_add_18 rfl (lv_at hl 1 rfl) ?_
    refine va_iast hx hb hK.1 hP hD hS 1 0 rfl rfl (g_in rfl (by omega) (by omega)) dX2_add_19 (fun H locs hP hD hS => ?_)
    have hP : va_P D vwCl [(oh, .inr (2, G2 oa osize)), ((oa 0), .inl (E 0, 60, .inl (upd of0 (osize : Int32).toNatClampNeg p0))), ((oa 1), .inl (E 0, 60, .inl of1)), ((oa 2), .inl (E 0, 60, .inl of2)), ((oa 3), .inl (E 0, 60, .inl of3)), ((oa 4), .inl (E 0, 60, .inl of4))] H := hP
    have hD := toW hP hD rfl
    refine lv_aload_n hx hb dX2_add_20 rfl (lv_at hl 0 rfl) ?_
    refine va_get (D := D) (ci := 2) (v := .ref (oa 1)) (C := RX2) (T := TX2) (N := 6) hx hb htb iX2 hown hK.1 hP 0 rfl rfl 1 (by decide) (htb _ k_35) (fun _ h9 => h9) rfl dX2_add_21 ?_
    refine lv_aload_n hx hb dX2_add_24 rfl (lv_at hl 0 rfl) ?_
    refine va_get (D := D) (ci := 2) (v := .int osize) (C := RX2) (T := TX2) (N := 6) hx hb htb iX2 hown hK.1 hP 0 rfl rfl 5 (by decide) (htb _ k_39) (fun _ h9 => h9) rfl dX2_add_25 ?_
    refine lv_iload_n hx hb dX2_add_28 rfl (lv_at hl 2 rfl) ?_
    refine va_iast hx hb hK.1 hP hD hS 2 0 rfl rfl (g_in rfl (by omega) (by omega)) dX2_add_29 (fun H locs hP hD hS => ?_)
    have hP : va_P D vwCl [(oh, .inr (2, G2 oa osize)), ((oa 0), .inl (E 0, 60, .inl (upd of0 (osize : Int32).toNatClampNeg p0))), ((oa 1), .inl (E 0, 60, .inl (upd of1 (osize : Int32).toNatClampNeg p1))), ((oa 2), .inl (E 0, 60, .inl of2)), ((oa 3), .inl (E 0, 60, .inl of3)), ((oa 4), .inl (E 0, 60, .inl of4))] H := hP
    have hD := toW hP hD rfl
    refine lv_aload_n hx hb dX2_add_30 rfl (lv_at hl 0 rfl) ?_
    refine va_get (D := D) (ci := 2) (v := .ref (oa 2)) (C := RX2) (T := TX2) (N := 6) hx hb htb iX2 hown hK.1 hP 0 rfl rfl 2 (by decide) (htb _ k_36) (fun _ h9 => h9) rfl dX2_add_31 ?_
    refine lv_aload_n hx hb dX2_add_34 rfl (lv_at hl 0 rfl) ?_
    refine va_get (D := D) (ci := 2) (v := .int osize) (C := RX2) (T := TX2) (N := 6) hx hb htb iX2 hown hK.1 hP 0 rfl rfl 5 (by decide) (htb _ k_39) (fun _ h9 => h9) rfl dX2_add_35 ?_
    refine lv_iload_n hx hb dX2_add_38 rfl (lv_at hl 3 rfl) ?_
    refine va_iast hx hb hK.1 hP hD hS 3 0 rfl rfl (g_in rfl (by omega) (by omega)) dX2_add_39 (fun H locs hP hD hS => ?_)
    have hP : va_P D vwCl [(oh, .inr (2, G2 oa osize)), ((oa 0), .inl (E 0, 60, .inl (upd of0 (osize : Int32).toNatClampNeg p0))), ((oa 1), .inl (E 0, 60, .inl (upd of1 (osize : Int32).toNatClampNeg p1))), ((oa 2), .inl (E 0, 60, .inl (upd of2 (osize : Int32).toNatClampNeg p2))), ((oa 3), .inl (E 0, 60, .inl of3)), ((oa 4), .inl (E 0, 60, .inl of4))] H := hP
    have hD := toW hP hD rfl
    refine lv_aload_n hx hb dX2_add_40 rfl (lv_at hl 0 rfl) ?_
    refine va_get (D := D) (ci := 2) (v := .ref (oa 3)) (C := RX2) (T := TX2) (N := 6) hx hb htb iX2 hown hK.1 hP 0 rfl rfl 3 (by decide) (htb _ k_37) (fun _ h9 => h9) rfl dX2_add_41 ?_
    refine lv_aload_n hx hb dX2_add_44 rfl (lv_at hl 0 rfl) ?_
    refine va_get (D := D) (ci := 2) (v := .int osize) (C := RX2) (T := TX2) (N := 6) hx hb htb iX2 hown hK.1 hP 0 rfl rfl 5 (by decide) (htb _ k_39) (fun _ h9 => h9) rfl dX2_add_45 ?_
    refine lv_iload hx hb dX2_add_48 (lv_at hl 4 rfl) ?_
    refine va_iast hx hb hK.1 hP hD hS 4 0 rfl rfl (g_in rfl (by omega) (by omega)) dX2_add_50 (fun H locs hP hD hS => ?_)
    have hP : va_P D vwCl [(oh, .inr (2, G2 oa osize)), ((oa 0), .inl (E 0, 60, .inl (upd of0 (osize : Int32).toNatClampNeg p0))), ((oa 1), .inl (E 0, 60, .inl (upd of1 (osize : Int32).toNatClampNeg p1))), ((oa 2), .inl (E 0, 60, .inl (upd of2 (osize : Int32).toNatClampNeg p2))), ((oa 3), .inl (E 0, 60, .inl (upd of3 (osize : Int32).toNatClampNeg p3))), ((oa 4), .inl (E 0, 60, .inl of4))] H := hP
    have hD := toW hP hD rfl
    refine lv_aload_n hx hb dX2_add_51 rfl (lv_at hl 0 rfl) ?_
    refine va_get (D := D) (ci := 2) (v := .ref (oa 4)) (C := RX2) (T := TX2) (N := 6) hx hb htb iX2 hown hK.1 hP 0 rfl rfl 4 (by decide) (htb _ k_38) (fun _ h9 => h9) rfl dX2_add_52 ?_
    refine lv_aload_n hx hb dX2_add_55 rfl (lv_at hl 0 rfl) ?_
    refine va_get (D := D) (ci := 2) (v := .int osize) (C := RX2) (T := TX2) (N := 6) hx hb htb iX2 hown hK.1 hP 0 rfl rfl 5 (by decide) (htb _ k_39) (fun _ h9 => h9) rfl dX2_add_56 ?_
    refine lv_iload hx hb dX2_add_59 (lv_at hl 5 rfl) ?_
    refine va_iast hx hb hK.1 hP hD hS 5 0 rfl rfl (g_in rfl (by omega) (by omega)) dX2_add_61 (fun H locs hP hD hS => ?_)
    have hP : va_P D vwCl [(oh, .inr (2, G2 oa osize)), ((oa 0), .inl (E 0, 60, .inl (upd of0 (osize : Int32).toNatClampNeg p0))), ((oa 1), .inl (E 0, 60, .inl (upd of1 (osize : Int32).toNatClampNeg p1))), ((oa 2), .inl (E 0, 60, .inl (upd of2 (osize : Int32).toNatClampNeg p2))), ((oa 3), .inl (E 0, 60, .inl (upd of3 (osize : Int32).toNatClampNeg p3))), ((oa 4), .inl (E 0, 60, .inl (upd of4 (osize : Int32).toNatClampNeg p4)))] H := hP
    have hD := toW hP hD rfl
    refine lv_aload_n hx hb dX2_add_62 rfl (lv_at hl 0 rfl) ?_
    refine lv_dup hx hb dX2_add_63 rfl ?_
    refine va_get (D := D) (ci := 2) (v := .int osize) (C := RX2) (T := TX2) (N := 6) hx hb htb iX2 hown hK.1 hP 0 rfl rfl 5 (by decide) (htb _ k_39) (fun _ h9 => h9) rfl dX2_add_64 ?_
    refine lv_iconst (v := 1) hx hb dX2_add_67 (by decide) ?_
    refine lv_iadd hx hb dX2_add_68 ?_
    refine lv_topi (fun z_2 ez_2 => ?_)
    have jz_2 : z_2.toInt = osize.toInt + 1 := by rw [ez_2]; exact g_add rfl t_1 (by omega) (by omega)
    refine va_put (D := D) (ci := 2) (v := .int z_2) (ty := .int) (C := RX2) (T := TX2) (N := 6) hx hb htb iX2 tyX2 tyX2_ok nmX2 hown hK.1 hP hD hS 0 rfl rfl 5 (by decide) (htb _ k_39) (fun _ h9 => h9) rfl (by decide +kernel) rfl rfl (Nat.le_of_ble_eq_true rfl) dX2_add_69 (fun H locs hP hD hS => ?_)
    have hP : va_P D vwCl [(oh, .inr (2, G2 oa z_2)), ((oa 0), .inl (E 0, 60, .inl (upd of0 (osize : Int32).toNatClampNeg p0))), ((oa 1), .inl (E 0, 60, .inl (upd of1 (osize : Int32).toNatClampNeg p1))), ((oa 2), .inl (E 0, 60, .inl (upd of2 (osize : Int32).toNatClampNeg p2))), ((oa 3), .inl (E 0, 60, .inl (upd of3 (osize : Int32).toNatClampNeg p3))), ((oa 4), .inl (E 0, 60, .inl (upd of4 (osize : Int32).toNatClampNeg p4)))] H := hP
    have hD := toW hP hD rfl
    have hP9 := hP.sub (ws' := [(oh, .inr (2, G2 oa z_2)), ((oa 0), .inl (E 0, 60, .inl (upd of0 (osize : Int32).toNatClampNeg p0))), ((oa 1), .inl (E 0, 60, .inl (upd of1 (osize : Int32).toNatClampNeg p1))), ((oa 2), .inl (E 0, 60, .inl (upd of2 (osize : Int32).toNatClampNeg p2))), ((oa 3), .inl (E 0, 60, .inl (upd of3 (osize : Int32).toNatClampNeg p3))), ((oa 4), .inl (E 0, 60, .inl (upd of4 (osize : Int32).toNatClampNeg p4)))]) [0, 1, 2, 3, 4, 5] rfl
    have hD9 := hD.sub (ws' := [(oh, .inr (2, G2 oa z_2)), ((oa 0), .inl (E 0, 60, .inl (upd of0 (osize : Int32).toNatClampNeg p0))), ((oa 1), .inl (E 0, 60, .inl (upd of1 (osize : Int32).toNatClampNeg p1))), ((oa 2), .inl (E 0, 60, .inl (upd of2 (osize : Int32).toNatClampNeg p2))), ((oa 3), .inl (E 0, 60, .inl (upd of3 (osize : Int32).toNatClampNeg p3))), ((oa 4), .inl (E 0, 60, .inl (upd of4 (osize : Int32).toNatClampNeg p4)))]) [0, 1, 2, 3, 4, 5] (by decide) rfl
    exact W.vret hx hb hr (fun t ht hW => ⟨⟨((upd of0 (osize : Int32).toNatClampNeg p0), (upd of1 (osize : Int32).toNatClampNeg p1), (upd of2 (osize : Int32).toNatClampNeg p2), (upd of3 (osize : Int32).toNatClampNeg p3), (upd of4 (osize : Int32).toNatClampNeg p4), z_2), rfl, ⟨(by (try dsimp only); omega), (by (try dsimp only); first | exact Or.inl ⟨by omega, by omega, rfl, rfl, rfl, rfl, rfl⟩ | exact Or.inr ⟨by omega, by omega, rfl, rfl, rfl, rfl, rfl⟩)⟩, by rw [ht]; exact hP9, hD9⟩, hS.F ht⟩) hS.2.2 dX2_add_72
  ·
    have ic_1 : 60 ≤ osize.toInt := by first | exact (g_le t_60 rfl).mp c_1 | (have h := mt (g_lt rfl t_60).mpr c_1; omega)
    clear c_1
    have hP9 := hP.sub (ws' := [(oh, .inr (2, G2 oa osize)), ((oa 0), .inl (E 0, 60, .inl of0)), ((oa 1), .inl (E 0, 60, .inl of1)), ((oa 2), .inl (E 0, 60, .inl of2)), ((oa 3), .inl (E 0, 60, .inl of3)), ((oa 4), .inl (E 0, 60, .inl of4))]) [0, 1, 2, 3, 4, 5] rfl
    have hD9 := hD.sub (ws' := [(oh, .inr (2, G2 oa osize)), ((oa 0), .inl (E 0, 60, .inl of0)), ((oa 1), .inl (E 0, 60, .inl of1)), ((oa 2), .inl (E 0, 60, .inl of2)), ((oa 3), .inl (E 0, 60, .inl of3)), ((oa 4), .inl (E 0, 60, .inl of4))]) [0, 1, 2, 3, 4, 5] (by decide) rfl
    exact W.vret hx hb hr (fun t ht hW => ⟨⟨(of0, of1, of2, of3, of4, osize), rfl, ⟨(by (try dsimp only); omega), (by (try dsimp only); first | exact Or.inl ⟨by omega, by omega, rfl, rfl, rfl, rfl, rfl⟩ | exact Or.inr ⟨by omega, by omega, rfl, rfl, rfl, rfl, rfl⟩)⟩, by rw [ht]; exact hP9, hD9⟩, hS.F ht⟩) hS.2.2 dX2_add_9
set_option maxHeartbeats 4000000 in
set_option maxRecDepth 100000 in
theorem g_X2_sumFor (l : Launch) (D : va_G) (E : Nat → Nat) (oh : Nat) (oa : Nat → Nat) (osize : Int32) (of0 : Nat → Int32) (of1 : Nat → Int32) (of2 : Nat → Int32) (of3 : Nat → Int32) (of4 : Nat → Int32) (p0 : Int32) (p1 : Int32) (p2 : Int32) (hi_o : (0 ≤ osize.toInt ∧ osize.toInt ≤ 60)) : Met l yX2_sumFor (wl yX2_sumFor cX2_sumFor 6 (some .int)) (RM 0 0 0) (rd_P D E [.ref oh, .int p0, .int p1, .int p2] [(oh, .inr (2, G2 oa osize)), ((oa 0), .inl (E 0, 60, .inl of0)), ((oa 1), .inl (E 0, 60, .inl of1)), ((oa 2), .inl (E 0, 60, .inl of2)), ((oa 3), .inl (E 0, 60, .inl of3)), ((oa 4), .inl (E 0, 60, .inl of4))]) (rd_Q (fun r => (r = sumF of0 of1 of2 of3 of4 osize p0 p1 p2))) 0 0 (fun _ => False) := by
  refine Met.ofW (cc := cX2_sumFor) (maxL := 6) (ret := (some .int)) (by decide) rfl ?_
  intro p e s m args below meth c s₁ B hml hv
  obtain ⟨rfl, hP, hK⟩ := hv
  have hx := B.exec; have hb := B.bytes; have hr := B.returns
  have hts := atoms_spec (ws := wl yX2_sumFor cX2_sumFor 6 (some .int)) B.pre
  have htb : ∀ w ∈ tb, w.before _ s = true := fun w h => hts w (List.mem_cons_of_mem _ h)
  have hown : s.vm.findClass RX2 = some m.cls := findClass_of_methodNamed B.named
  have hlocks := B.notSynchronized
  have hP : va_P D vwCl [(oh, .inr (2, G2 oa osize)), ((oa 0), .inl (E 0, 60, .inl of0)), ((oa 1), .inl (E 0, 60, .inl of1)), ((oa 2), .inl (E 0, 60, .inl of2)), ((oa 3), .inl (E 0, 60, .inl of3)), ((oa 4), .inl (E 0, 60, .inl of4))] s.heap := hP
  have hl := lv_entry ([.ref oh, .int p0, .int p1, .int p2]) (n := 6) (Nat.le_of_ble_eq_true rfl)
  rw [lg_entry_eq]
  generalize (lg_sl ([.ref oh, .int p0, .int p1, .int p2]) ++ List.replicate (6 - (lg_sl ([.ref oh, .int p0, .int p1, .int p2])).length) Slot.unset).toArray = ls at hl ⊢
  have hl : lv_has ls 6 [(0, .ref oh), (1, .int p0), (2, .int p1), (3, .int p2)] := hl
  have lo_p0 := i_lo p0; have hi_p0 := i_hi p0
  have lo_p1 := i_lo p1; have hi_p1 := i_hi p1
  have lo_p2 := i_lo p2; have hi_p2 := i_hi p2
  refine lv_iconst (v := 0) hx hb dX2_sumFor_0 (by decide) ?_
  refine lv_istore (lv' := [(4, .int 0), (0, .ref oh), (1, .int p0), (2, .int p1), (3, .int p2)]) hx hb dX2_sumFor_1 hl (by decide) rfl (fun ls hl => ?_)
  refine lv_iload_n hx hb dX2_sumFor_3 rfl (lv_at hl 2 rfl) ?_
  refine lv_if_ne (tgt := 10) hx hb dX2_sumFor_4 (by decide) (fun c_1 => ?_) (fun c_1 => ?_)
  ·
    have ic_1 : p0.toInt ≠ 0 := mt (g_eq rfl t_0).mpr c_1
    clear c_1
    refine lv_iconst (v := 0) hx hb dX2_sumFor_10 (by decide) ?_
    refine lv_istore (lv' := [(5, .int 0), (4, .int 0), (0, .ref oh), (1, .int p0), (2, .int p1), (3, .int p2)]) hx hb dX2_sumFor_11 hl (by decide) rfl (fun ls hl => ?_)
    have loop_2 : ∀ (N_4 : Nat) (L5_13 : Int32) (L4_13 : Int32)  (ls : Array Slot), osize.toInt - L5_13.toInt < (N_4 : Int) → (0 ≤ L5_13.toInt ∧ L5_13.toInt ≤ osize.toInt) → (L4_13 = offS of0 of1 of2 of3 of4 p0 p1 p2 (L5_13).toNatClampNeg) → lv_has ls 6 [(5, .int L5_13), (4, .int L4_13), (0, .ref oh), (1, .int p0), (2, .int p1), (3, .int p2)] → W p l e (headSpec (wl yX2_sumFor cX2_sumFor 6 (some .int)) (RM 0 0 0)).room s m [Value.ref oh, .int p0, .int p1, .int p2].toArray below meth c s.heap [] 0 0 (MQ below (rd_Q (fun r => (r = sumF of0 of1 of2 of3 of4 osize p0 p1 p2))) [Value.ref oh, .int p0, .int p1, .int p2].toArray s 0 0 (fun _ => False)) (F0 m 13 ls []) := by
      intro N_4
      induction N_4 with
      | zero => intro L5_13 L4_13  ls hm v0_13 v1_13 _; exfalso; omega
      | succ N_4 ih_3 =>
        intro L5_13 L4_13 ls hm v0_13 v1_13 hl
        have lo_L5_13 := i_lo L5_13; have hi_L5_13 := i_hi L5_13
        have lo_L4_13 := i_lo L4_13; have hi_L4_13 := i_hi L4_13
        refine lv_iload hx hb dX2_sumFor_13 (lv_at hl 0 rfl) ?_
        refine lv_aload_n hx hb dX2_sumFor_15 rfl (lv_at hl 2 rfl) ?_
        refine va_get (D := D) (ci := 2) (v := .int osize) (C := RX2) (T := TX2) (N := 6) hx hb htb iX2 hown hK.1 hP 0 rfl rfl 5 (by decide) (htb _ k_39) (fun _ h9 => h9) rfl dX2_sumFor_16 ?_
        refine lv_icmp_ge (tgt := 89) hx hb dX2_sumFor_19 (by decide) (fun c_5 => ?_) (fun c_5 => ?_)
        ·
          have ic_5 : osize.toInt ≤ L5_13.toInt := by first | exact (g_le rfl rfl).mp c_5 | (have h := mt (g_lt rfl rfl).mpr c_5; omega)
          clear c_5
          refine lv_iload hx hb dX2_sumFor_89 (lv_at hl 1 rfl) ?_
          exact W.iret (v := L4_13) hx hb hr (fun t ht hW => ⟨L4_13, rfl, (by unfold sumF; have hcl := clampE (i := L5_13) (j := osize) (by omega) (by omega); subst_vars; rw [if_neg (by omega), hcl]), ht⟩) (fun q h => by cases h) dX2_sumFor_91
        ·
          have ic_5 : L5_13.toInt < osize.toInt := by first | exact (g_lt rfl rfl).mp c_5 | (have h := mt (g_le rfl rfl).mpr c_5; omega)
          clear c_5
          refine lv_aload_n hx hb dX2_sumFor_22 rfl (lv_at hl 2 rfl) ?_
          refine va_get (D := D) (ci := 2) (v := .ref (oa 0)) (C := RX2) (T := TX2) (N := 6) hx hb htb iX2 hown hK.1 hP 0 rfl rfl 0 (by decide) (htb _ k_34) (fun _ h9 => h9) rfl dX2_sumFor_23 ?_
          refine lv_iload hx hb dX2_sumFor_26 (lv_at hl 0 rfl) ?_
          refine va_iald hx hb hK.1 hP 1 0 rfl rfl (g_in rfl (by omega) (by omega)) dX2_sumFor_28 ?_
          refine lv_topi (fun z_6 ez_6 => ?_)
          have kz_6 := congrArg Int32.toInt ez_6
          refine lv_iload_n hx hb dX2_sumFor_29 rfl (lv_at hl 3 rfl) ?_
          refine lv_icmp_ne (tgt := 83) hx hb dX2_sumFor_30 (by decide) (fun c_7 => ?_) (fun c_7 => ?_)
          ·
            have ic_7 : z_6.toInt ≠ p0.toInt := mt (g_eq rfl rfl).mpr c_7
            clear c_7
            obtain ⟨z_8, ez_8⟩ : ∃ y : Int32, y = L5_13 + 1 := ⟨_, rfl⟩
            have jz_8 : z_8.toInt = L5_13.toInt + 1 := by rw [ez_8]; exact g_add rfl t_1 (by omega) (by omega)
            refine lv_iinc (v := z_8) (lv' := [(5, .int z_8), (4, .int L4_13), (0, .ref oh), (1, .int p0), (2, .int p1), (3, .int p2)]) hx hb dX2_sumFor_83 hl (k := 0) rfl (by rw [ez_8]; rfl) (by decide) rfl (fun ls hl => ?_)
            refine lv_goto (tgt := 13) hx hb dX2_sumFor_86 (by decide) ?_
            exact ih_3 z_8 L4_13 _ (by (try dsimp only); omega) (by (try dsimp only); omega) (by have hcl := clampS (by omega) jz_8; subst_vars; rw [hcl, offS_succ]; split <;> first | rfl | (exfalso; omega)) (lv_sub hl [0, 1, 2, 3, 4, 5] rfl)
          ·
            have ic_7 : z_6.toInt = p0.toInt := (g_eq rfl rfl).mp c_7
            clear c_7
            refine lv_aload_n hx hb dX2_sumFor_33 rfl (lv_at hl 2 rfl) ?_
            refine va_get (D := D) (ci := 2) (v := .ref (oa 1)) (C := RX2) (T := TX2) (N := 6) hx hb htb iX2 hown hK.1 hP 0 rfl rfl 1 (by decide) (htb _ k_35) (fun _ h9 => h9) rfl dX2_sumFor_34 ?_
            refine lv_iload hx hb dX2_sumFor_37 (lv_at hl 0 rfl) ?_
            refine va_iald hx hb hK.1 hP 2 0 rfl rfl (g_in rfl (by omega) (by omega)) dX2_sumFor_39 ?_
            refine lv_topi (fun z_9 ez_9 => ?_)
            have kz_9 := congrArg Int32.toInt ez_9
            refine lv_iload_n hx hb dX2_sumFor_40 rfl (lv_at hl 4 rfl) ?_
            refine lv_icmp_gt (tgt := 83) hx hb dX2_sumFor_41 (by decide) (fun c_10 => ?_) (fun c_10 => ?_)
            ·
              have ic_10 : p1.toInt < z_9.toInt := by first | exact (g_lt rfl rfl).mp c_10 | (have h := mt (g_le rfl rfl).mpr c_10; omega)
              clear c_10
              obtain ⟨z_11, ez_11⟩ : ∃ y : Int32, y = L5_13 + 1 := ⟨_, rfl⟩
              have jz_11 : z_11.toInt = L5_13.toInt + 1 := by rw [ez_11]; exact g_add rfl t_1 (by omega) (by omega)
              refine lv_iinc (v := z_11) (lv' := [(5, .int z_11), (4, .int L4_13), (0, .ref oh), (1, .int p0), (2, .int p1), (3, .int p2)]) hx hb dX2_sumFor_83 hl (k := 0) rfl (by rw [ez_11]; rfl) (by decide) rfl (fun ls hl => ?_)
              refine lv_goto (tgt := 13) hx hb dX2_sumFor_86 (by decide) ?_
              exact ih_3 z_11 L4_13 _ (by (try dsimp only); omega) (by (try dsimp only); omega) (by have hcl := clampS (by omega) jz_11; subst_vars; rw [hcl, offS_succ]; split <;> first | rfl | (exfalso; omega)) (lv_sub hl [0, 1, 2, 3, 4, 5] rfl)
            ·
              have ic_10 : z_9.toInt ≤ p1.toInt := by first | exact (g_le rfl rfl).mp c_10 | (have h := mt (g_lt rfl rfl).mpr c_10; omega)
              clear c_10
              refine lv_iload_n hx hb dX2_sumFor_44 rfl (lv_at hl 4 rfl) ?_
              refine lv_aload_n hx hb dX2_sumFor_45 rfl (lv_at hl 2 rfl) ?_
              refine va_get (D := D) (ci := 2) (v := .ref (oa 2)) (C := RX2) (T := TX2) (N := 6) hx hb htb iX2 hown hK.1 hP 0 rfl rfl 2 (by decide) (htb _ k_36) (fun _ h9 => h9) rfl dX2_sumFor_46 ?_
              refine lv_iload hx hb dX2_sumFor_49 (lv_at hl 0 rfl) ?_
              refine va_iald hx hb hK.1 hP 3 0 rfl rfl (g_in rfl (by omega) (by omega)) dX2_sumFor_51 ?_
              refine lv_topi (fun z_12 ez_12 => ?_)
              have kz_12 := congrArg Int32.toInt ez_12
              refine lv_icmp_gt (tgt := 83) hx hb dX2_sumFor_52 (by decide) (fun c_13 => ?_) (fun c_13 => ?_)
              ·
                have ic_13 : z_12.toInt < p1.toInt := by first | exact (g_lt rfl rfl).mp c_13 | (have h := mt (g_le rfl rfl).mpr c_13; omega)
                clear c_13
                obtain ⟨z_14, ez_14⟩ : ∃ y : Int32, y = L5_13 + 1 := ⟨_, rfl⟩
                have jz_14 : z_14.toInt = L5_13.toInt + 1 := by rw [ez_14]; exact g_add rfl t_1 (by omega) (by omega)
                refine lv_iinc (v := z_14) (lv' := [(5, .int z_14), (4, .int L4_13), (0, .ref oh), (1, .int p0), (2, .int p1), (3, .int p2)]) hx hb dX2_sumFor_83 hl (k := 0) rfl (by rw [ez_14]; rfl) (by decide) rfl (fun ls hl => ?_)
                refine lv_goto (tgt := 13) hx hb dX2_sumFor_86 (by decide) ?_
                exact ih_3 z_14 L4_13 _ (by (try dsimp only); omega) (by (try dsimp only); omega) (by have hcl := clampS (by omega) jz_14; subst_vars; rw [hcl, offS_succ]; split <;> first | rfl | (exfalso; omega)) (lv_sub hl [0, 1, 2, 3, 4, 5] rfl)
              ·
                have ic_13 : p1.toInt ≤ z_12.toInt := by first | exact (g_le rfl rfl).mp c_13 | (have h := mt (g_lt rfl rfl).mpr c_13; omega)
                clear c_13
                refine lv_iload_n hx hb dX2_sumFor_55 rfl (lv_at hl 5 rfl) ?_
                refine lv_iconst (v := (-1)) hx hb dX2_sumFor_56 (by decide) ?_
                refine lv_icmp_eq (tgt := 71) hx hb dX2_sumFor_57 (by decide) (fun c_15 => ?_) (fun c_15 => ?_)
                ·
                  have ic_15 : p2.toInt = -1 := (g_eq rfl t_m1).mp c_15
                  clear c_15
                  refine lv_iload hx hb dX2_sumFor_71 (lv_at hl 1 rfl) ?_
                  refine lv_aload_n hx hb dX2_sumFor_73 rfl (lv_at hl 2 rfl) ?_
                  refine va_get (D := D) (ci := 2) (v := .ref (oa 3)) (C := RX2) (T := TX2) (N := 6) hx hb htb iX2 hown hK.1 hP 0 rfl rfl 3 (by decide) (htb _ k_37) (fun _ h9 => h9) rfl dX2_sumFor_74 ?_
                  refine lv_iload hx hb dX2_sumFor_77 (lv_at hl 0 rfl) ?_
                  refine va_iald hx hb hK.1 hP 4 0 rfl rfl (g_in rfl (by omega) (by omega)) dX2_sumFor_79 ?_
                  refine lv_topi (fun z_16 ez_16 => ?_)
                  have kz_16 := congrArg Int32.toInt ez_16
                  refine lv_iadd hx hb dX2_sumFor_80 ?_
                  refine lv_topi (fun z_17 ez_17 => ?_)
                  refine lv_istore (lv' := [(4, .int z_17), (5, .int L5_13), (0, .ref oh), (1, .int p0), (2, .int p1), (3, .int p2)]) hx hb dX2_sumFor_81 hl (by decide) rfl (fun ls hl => ?_)
                  obtain ⟨z_18, ez_18⟩ : ∃ y : Int32, y = L5_13 + 1 := ⟨_, rfl⟩
                  have jz_18 : z_18.toInt = L5_13.toInt + 1 := by rw [ez_18]; exact g_add rfl t_1 (by omega) (by omega)
                  refine lv_iinc (v := z_18) (lv' := [(5, .int z_18), (4, .int z_17), (0, .ref oh), (1, .int p0), (2, .int p1), (3, .int p2)]) hx hb dX2_sumFor_83 hl (k := 1) rfl (by rw [ez_18]; rfl) (by decide) rfl (fun ls hl => ?_)
                  refine lv_goto (tgt := 13) hx hb dX2_sumFor_86 (by decide) ?_
                  exact ih_3 z_18 z_17 _ (by (try dsimp only); omega) (by (try dsimp only); omega) (by have hcl := clampS (by omega) jz_18; subst_vars; rw [hcl, offS_succ]; split <;> first | rfl | (exfalso; omega)) (lv_sub hl [0, 1, 2, 3, 4, 5] rfl)
                ·
                  have ic_15 : p2.toInt ≠ -1 := mt (g_eq rfl t_m1).mpr c_15
                  clear c_15
                  refine lv_aload_n hx hb dX2_sumFor_60 rfl (lv_at hl 2 rfl) ?_
                  refine va_get (D := D) (ci := 2) (v := .ref (oa 4)) (C := RX2) (T := TX2) (N := 6) hx hb htb iX2 hown hK.1 hP 0 rfl rfl 4 (by decide) (htb _ k_38) (fun _ h9 => h9) rfl dX2_sumFor_61 ?_
                  refine lv_iload hx hb dX2_sumFor_64 (lv_at hl 0 rfl) ?_
                  refine va_iald hx hb hK.1 hP 5 0 rfl rfl (g_in rfl (by omega) (by omega)) dX2_sumFor_66 ?_
                  refine lv_topi (fun z_19 ez_19 => ?_)
                  have kz_19 := congrArg Int32.toInt ez_19
                  refine lv_iload_n hx hb dX2_sumFor_67 rfl (lv_at hl 5 rfl) ?_
                  refine lv_icmp_gt (tgt := 83) hx hb dX2_sumFor_68 (by decide) (fun c_20 => ?_) (fun c_20 => ?_)
                  ·
                    have ic_20 : p2.toInt < z_19.toInt := by first | exact (g_lt rfl rfl).mp c_20 | (have h := mt (g_le rfl rfl).mpr c_20; omega)
                    clear c_20
                    obtain ⟨z_21, ez_21⟩ : ∃ y : Int32, y = L5_13 + 1 := ⟨_, rfl⟩
                    have jz_21 : z_21.toInt = L5_13.toInt + 1 := by rw [ez_21]; exact g_add rfl t_1 (by omega) (by omega)
                    refine lv_iinc (v := z_21) (lv' := [(5, .int z_21), (4, .int L4_13), (0, .ref oh), (1, .int p0), (2, .int p1), (3, .int p2)]) hx hb dX2_sumFor_83 hl (k := 0) rfl (by rw [ez_21]; rfl) (by decide) rfl (fun ls hl => ?_)
                    refine lv_goto (tgt := 13) hx hb dX2_sumFor_86 (by decide) ?_
                    exact ih_3 z_21 L4_13 _ (by (try dsimp only); omega) (by (try dsimp only); omega) (by have hcl := clampS (by omega) jz_21; subst_vars; rw [hcl, offS_succ]; split <;> first | rfl | (exfalso; omega)) (lv_sub hl [0, 1, 2, 3, 4, 5] rfl)
                  ·
                    have ic_20 : z_19.toInt ≤ p2.toInt := by first | exact (g_le rfl rfl).mp c_20 | (have h := mt (g_lt rfl rfl).mpr c_20; omega)
                    clear c_20
                    refine lv_iload hx hb dX2_sumFor_71 (lv_at hl 1 rfl) ?_
                    refine lv_aload_n hx hb dX2_sumFor_73 rfl (lv_at hl 2 rfl) ?_
                    refine va_get (D := D) (ci := 2) (v := .ref (oa 3)) (C := RX2) (T := TX2) (N := 6) hx hb htb iX2 hown hK.1 hP 0 rfl rfl 3 (by decide) (htb _ k_37) (fun _ h9 => h9) rfl dX2_sumFor_74 ?_
                    refine lv_iload hx hb dX2_sumFor_77 (lv_at hl 0 rfl) ?_
                    refine va_iald hx hb hK.1 hP 4 0 rfl rfl (g_in rfl (by omega) (by omega)) dX2_sumFor_79 ?_
                    refine lv_topi (fun z_22 ez_22 => ?_)
                    have kz_22 := congrArg Int32.toInt ez_22
                    refine lv_iadd hx hb dX2_sumFor_80 ?_
                    refine lv_topi (fun z_23 ez_23 => ?_)
                    refine lv_istore (lv' := [(4, .int z_23), (5, .int L5_13), (0, .ref oh), (1, .int p0), (2, .int p1), (3, .int p2)]) hx hb dX2_sumFor_81 hl (by decide) rfl (fun ls hl => ?_)
                    obtain ⟨z_24, ez_24⟩ : ∃ y : Int32, y = L5_13 + 1 := ⟨_, rfl⟩
                    have jz_24 : z_24.toInt = L5_13.toInt + 1 := by rw [ez_24]; exact g_add rfl t_1 (by omega) (by omega)
                    refine lv_iinc (v := z_24) (lv' := [(5, .int z_24), (4, .int z_23), (0, .ref oh), (1, .int p0), (2, .int p1), (3, .int p2)]) hx hb dX2_sumFor_83 hl (k := 1) rfl (by rw [ez_24]; rfl) (by decide) rfl (fun ls hl => ?_)
                    refine lv_goto (tgt := 13) hx hb dX2_sumFor_86 (by decide) ?_
                    exact ih_3 z_24 z_23 _ (by (try dsimp only); omega) (by (try dsimp only); omega) (by have hcl := clampS (by omega) jz_24; subst_vars; rw [hcl, offS_succ]; split <;> first | rfl | (exfalso; omega)) (lv_sub hl [0, 1, 2, 3, 4, 5] rfl)
    exact loop_2 61 0 0 _ (by have h0 := t_0; (try dsimp only); omega) (by have h0 := t_0; (try dsimp only); omega) (by rfl)  (lv_sub hl [0, 1, 2, 3, 4, 5] rfl)
  ·
    have ic_1 : p0.toInt = 0 := (g_eq rfl t_0).mp c_1
    clear c_1
    refine lv_iload hx hb dX2_sumFor_7 (lv_at hl 0 rfl) ?_
    exact W.iret (v := 0) hx hb hr (fun t ht hW => ⟨0, rfl, (by unfold sumF; rw [if_pos (by omega)]), ht⟩) (fun q h => by cases h) dX2_sumFor_9
set_option maxHeartbeats 4000000 in
set_option maxRecDepth 100000 in
theorem g_X7_becomeNew (l : Launch) (D : va_G) (E : Nat → Nat) (wh : Nat) (wa : Nat → Nat) (wf0 : Nat → Int32) (wf1 : Nat → Int32) (wf2 : Nat → Int32) (wf3 : Nat → Int32) (sz : Nat)  : Met l yX7_becomeNew (wl yX7_becomeNew cX7_becomeNew 2 none) (RM 0 0 0) (mu_P D E [.ref wh] [(wh, .inr (7, G7 wa)), ((wa 0), .inl (E 0, 400, .inl wf0)), ((wa 1), .inl (E 0, 400, .inl wf1)), ((wa 2), .inl (E 0, 400, .inl wf2)), ((wa 3), .inl (E 0, 400, .inl wf3))] sz) (va_Qv (fun (u : (Nat → Int32) × (Nat → Int32) × (Nat → Int32) × (Nat → Int32)) => (NEW4 u.1 u.2.1 u.2.2.1 u.2.2.2 400)) (mu_B D (va_A [(wh, .inr (7, G7 wa)), ((wa 0), .inl (E 0, 400, .inl wf0)), ((wa 1), .inl (E 0, 400, .inl wf1)), ((wa 2), .inl (E 0, 400, .inl wf2)), ((wa 3), .inl (E 0, 400, .inl wf3))] sz) (fun (u : (Nat → Int32) × (Nat → Int32) × (Nat → Int32) × (Nat → Int32)) => [(wh, .inr (7, G7 wa)), ((wa 0), .inl (E 0, 400, .inl u.1)), ((wa 1), .inl (E 0, 400, .inl u.2.1)), ((wa 2), .inl (E 0, 400, .inl u.2.2.1)), ((wa 3), .inl (E 0, 400, .inl u.2.2.2))])) (va_A [(wh, .inr (7, G7 wa)), ((wa 0), .inl (E 0, 400, .inl wf0)), ((wa 1), .inl (E 0, 400, .inl wf1)), ((wa 2), .inl (E 0, 400, .inl wf2)), ((wa 3), .inl (E 0, 400, .inl wf3))] sz)) 0 0 (va_A [(wh, .inr (7, G7 wa)), ((wa 0), .inl (E 0, 400, .inl wf0)), ((wa 1), .inl (E 0, 400, .inl wf1)), ((wa 2), .inl (E 0, 400, .inl wf2)), ((wa 3), .inl (E 0, 400, .inl wf3))] sz) := by
  refine Met.ofW (cc := cX7_becomeNew) (maxL := 2) (ret := none) (by decide) rfl ?_
  intro p e s m args below meth c s₁ B hml hv
  obtain ⟨rfl, hsz, hP, hK, hD0⟩ := hv
  have hx := B.exec; have hb := B.bytes; have hr := B.returns
  have hts := atoms_spec (ws := wl yX7_becomeNew cX7_becomeNew 2 none) B.pre
  have htb : ∀ w ∈ tb, w.before _ s = true := fun w h => hts w (List.mem_cons_of_mem _ h)
  have hown : s.vm.findClass RX7 = some m.cls := findClass_of_methodNamed B.named
  have hlocks := B.notSynchronized
  subst hsz
  have hD := hD0.self (sz := s.heap.size)
  generalize hAe : va_A [(wh, .inr (7, G7 wa)), ((wa 0), .inl (E 0, 400, .inl wf0)), ((wa 1), .inl (E 0, 400, .inl wf1)), ((wa 2), .inl (E 0, 400, .inl wf2)), ((wa 3), .inl (E 0, 400, .inl wf3))] s.heap.size = A at hD ⊢
  have hA : ∀ q : Nat, s.heap.size ≤ q → A q := fun q h => by rw [← hAe]; exact Or.inr h
  have hS : va_S A s.heap s.heap [] := va_S.rf
  have hP : va_P D vwCl [(wh, .inr (7, G7 wa)), ((wa 0), .inl (E 0, 400, .inl wf0)), ((wa 1), .inl (E 0, 400, .inl wf1)), ((wa 2), .inl (E 0, 400, .inl wf2)), ((wa 3), .inl (E 0, 400, .inl wf3))] s.heap := hP
  have hl := lv_entry ([.ref wh]) (n := 2) (Nat.le_of_ble_eq_true rfl)
  rw [lg_entry_eq]
  generalize (lg_sl ([.ref wh]) ++ List.replicate (2 - (lg_sl ([.ref wh])).length) Slot.unset).toArray = ls at hl ⊢
  have hl : lv_has ls 2 [(0, .ref wh)] := hl
  refine lv_iconst (v := 0) hx hb dX7_becomeNew_0 (by decide) ?_
  refine lv_istore_n (lv' := [(1, .int 0), (0, .ref wh)]) hx hb dX7_becomeNew_1 rfl hl (by decide) rfl (fun ls hl => ?_)
  have loop_1 : ∀ (N_3 : Nat) (L1_2 : Int32) (wf0_2 : Nat → Int32) (wf1_2 : Nat → Int32) (wf2_2 : Nat → Int32) (wf3_2 : Nat → Int32) (H : Heap) (locs : List Loc) (ls : Array Slot), 400 - L1_2.toInt < (N_3 : Int) → (0 ≤ L1_2.toInt ∧ L1_2.toInt ≤ 400) → (NEW4 wf0_2 wf1_2 wf2_2 wf3_2 L1_2.toInt) → va_P D vwCl [(wh, .inr (7, G7 wa)), ((wa 0), .inl (E 0, 400, .inl wf0_2)), ((wa 1), .inl (E 0, 400, .inl wf1_2)), ((wa 2), .inl (E 0, 400, .inl wf2_2)), ((wa 3), .inl (E 0, 400, .inl wf3_2))] H → va_D A [(wh, .inr (7, G7 wa)), ((wa 0), .inl (E 0, 400, .inl wf0_2)), ((wa 1), .inl (E 0, 400, .inl wf1_2)), ((wa 2), .inl (E 0, 400, .inl wf2_2)), ((wa 3), .inl (E 0, 400, .inl wf3_2))] → va_S A s.heap H locs → lv_has ls 2 [(1, .int L1_2), (0, .ref wh)] → W p l e (headSpec (wl yX7_becomeNew cX7_becomeNew 2 none) (RM 0 0 0)).room s m [Value.ref wh].toArray below meth c H locs 0 0 (MQ below (va_Qv (fun (u : (Nat → Int32) × (Nat → Int32) × (Nat → Int32) × (Nat → Int32)) => (NEW4 u.1 u.2.1 u.2.2.1 u.2.2.2 400)) (mu_B D A (fun (u : (Nat → Int32) × (Nat → Int32) × (Nat → Int32) × (Nat → Int32)) => [(wh, .inr (7, G7 wa)), ((wa 0), .inl (E 0, 400, .inl u.1)), ((wa 1), .inl (E 0, 400, .inl u.2.1)), ((wa 2), .inl (E 0, 400, .inl u.2.2.1)), ((wa 3), .inl (E 0, 400, .inl u.2.2.2))])) A) [Value.ref wh].toArray s 0 0 A) (F0 m 2 ls []) := by
    intro N_3
    induction N_3 with
    | zero => intro L1_2 wf0_2 wf1_2 wf2_2 wf3_2 H locs ls hm v0_2 v1_2 _ _ _ _; exfalso; omega
    | succ N_3 ih_2 =>
      intro L1_2 wf0_2 wf1_2 wf2_2 wf3_2 H locs ls hm v0_2 v1_2 hP hD hS hl
      have lo_L1_2 := i_lo L1_2; have hi_L1_2 := i_hi L1_2
      refine lv_iload_n hx hb dX7_becomeNew_2 rfl (lv_at hl 0 rfl) ?_
      refine lv_sipush (v := 400) hx hb dX7_becomeNew_3 (by decide) ?_
      refine lv_icmp_ge (tgt := 43) hx hb dX7_becomeNew_6 (by decide) (fun c_4 => ?_) (fun c_4 => ?_)
      ·
        have ic_4 : 400 ≤ L1_2.toInt := by first | exact (g_le t_400 rfl).mp c_4 | (have h := mt (g_lt rfl t_400).mpr c_4; omega)
        clear c_4
        have hP9 := hP.sub (ws' := [(wh, .inr (7, G7 wa)), ((wa 0), .inl (E 0, 400, .inl wf0_2)), ((wa 1), .inl (E 0, 400, .inl wf1_2)), ((wa 2), .inl (E 0, 400, .inl wf2_2)), ((wa 3), .inl (E 0, 400, .inl wf3_2))]) [0, 1, 2, 3, 4] rfl
        have hD9 := hD.sub (ws' := [(wh, .inr (7, G7 wa)), ((wa 0), .inl (E 0, 400, .inl wf0_2)), ((wa 1), .inl (E 0, 400, .inl wf1_2)), ((wa 2), .inl (E 0, 400, .inl wf2_2)), ((wa 3), .inl (E 0, 400, .inl wf3_2))]) [0, 1, 2, 3, 4] (by decide) rfl
        exact W.vret hx hb hr (fun t ht hW => ⟨⟨(wf0_2, wf1_2, wf2_2, wf3_2), rfl, (by have h9 := v1_2; rw [show L1_2.toInt = 400 by omega] at h9; exact h9), by rw [ht]; exact hP9, hD9⟩, hS.F ht⟩) hS.2.2 dX7_becomeNew_43
      ·
        have ic_4 : L1_2.toInt < 400 := by first | exact (g_lt rfl t_400).mp c_4 | (have h := mt (g_le t_400 rfl).mpr c_4; omega)
        clear c_4
        refine lv_aload_n hx hb dX7_becomeNew_9 rfl (lv_at hl 1 rfl) ?_
        refine va_get (D := D) (ci := 7) (v := .ref (wa 0)) (C := RX7) (T := TX7) (N := 4) hx hb htb iX7 hown hK.1 hP 0 rfl rfl 0 (by decide) (htb _ k_348) (fun _ h9 => h9) rfl dX7_becomeNew_10 ?_
        refine lv_iload_n hx hb dX7_becomeNew_13 rfl (lv_at hl 0 rfl) ?_
        refine lv_iconst (v := 0) hx hb dX7_becomeNew_14 (by decide) ?_
        refine va_iast hx hb hK.1 hP hD hS 1 0 rfl rfl (g_in rfl (by omega) (by omega)) dX7_becomeNew_15 (fun H locs hP hD hS => ?_)
        have hP : va_P D vwCl [(wh, .inr (7, G7 wa)), ((wa 0), .inl (E 0, 400, .inl (upd wf0_2 (L1_2 : Int32).toNatClampNeg 0))), ((wa 1), .inl (E 0, 400, .inl wf1_2)), ((wa 2), .inl (E 0, 400, .inl wf2_2)), ((wa 3), .inl (E 0, 400, .inl wf3_2))] H := hP
        have hD := toW hP hD rfl
        refine lv_aload_n hx hb dX7_becomeNew_16 rfl (lv_at hl 1 rfl) ?_
        refine va_get (D := D) (ci := 7) (v := .ref (wa 1)) (C := RX7) (T := TX7) (N := 4) hx hb htb iX7 hown hK.1 hP 0 rfl rfl 1 (by decide) (htb _ k_349) (fun _ h9 => h9) rfl dX7_becomeNew_17 ?_
        refine lv_iload_n hx hb dX7_becomeNew_20 rfl (lv_at hl 0 rfl) ?_
        refine lv_iconst (v := (-1)) hx hb dX7_becomeNew_21 (by decide) ?_
        refine va_iast hx hb hK.1 hP hD hS 2 0 rfl rfl (g_in rfl (by omega) (by omega)) dX7_becomeNew_22 (fun H locs hP hD hS => ?_)
        have hP : va_P D vwCl [(wh, .inr (7, G7 wa)), ((wa 0), .inl (E 0, 400, .inl (upd wf0_2 (L1_2 : Int32).toNatClampNeg 0))), ((wa 1), .inl (E 0, 400, .inl (upd wf1_2 (L1_2 : Int32).toNatClampNeg (-1)))), ((wa 2), .inl (E 0, 400, .inl wf2_2)), ((wa 3), .inl (E 0, 400, .inl wf3_2))] H := hP
        have hD := toW hP hD rfl
        refine lv_aload_n hx hb dX7_becomeNew_23 rfl (lv_at hl 1 rfl) ?_
        refine va_get (D := D) (ci := 7) (v := .ref (wa 2)) (C := RX7) (T := TX7) (N := 4) hx hb htb iX7 hown hK.1 hP 0 rfl rfl 2 (by decide) (htb _ k_350) (fun _ h9 => h9) rfl dX7_becomeNew_24 ?_
        refine lv_iload_n hx hb dX7_becomeNew_27 rfl (lv_at hl 0 rfl) ?_
        refine lv_iconst (v := 0) hx hb dX7_becomeNew_28 (by decide) ?_
        refine va_iast hx hb hK.1 hP hD hS 3 0 rfl rfl (g_in rfl (by omega) (by omega)) dX7_becomeNew_29 (fun H locs hP hD hS => ?_)
        have hP : va_P D vwCl [(wh, .inr (7, G7 wa)), ((wa 0), .inl (E 0, 400, .inl (upd wf0_2 (L1_2 : Int32).toNatClampNeg 0))), ((wa 1), .inl (E 0, 400, .inl (upd wf1_2 (L1_2 : Int32).toNatClampNeg (-1)))), ((wa 2), .inl (E 0, 400, .inl (upd wf2_2 (L1_2 : Int32).toNatClampNeg 0))), ((wa 3), .inl (E 0, 400, .inl wf3_2))] H := hP
        have hD := toW hP hD rfl
        refine lv_aload_n hx hb dX7_becomeNew_30 rfl (lv_at hl 1 rfl) ?_
        refine va_get (D := D) (ci := 7) (v := .ref (wa 3)) (C := RX7) (T := TX7) (N := 4) hx hb htb iX7 hown hK.1 hP 0 rfl rfl 3 (by decide) (htb _ k_351) (fun _ h9 => h9) rfl dX7_becomeNew_31 ?_
        refine lv_iload_n hx hb dX7_becomeNew_34 rfl (lv_at hl 0 rfl) ?_
        refine lv_iconst (v := (-1)) hx hb dX7_becomeNew_35 (by decide) ?_
        refine va_iast hx hb hK.1 hP hD hS 4 0 rfl rfl (g_in rfl (by omega) (by omega)) dX7_becomeNew_36 (fun H locs hP hD hS => ?_)
        have hP : va_P D vwCl [(wh, .inr (7, G7 wa)), ((wa 0), .inl (E 0, 400, .inl (upd wf0_2 (L1_2 : Int32).toNatClampNeg 0))), ((wa 1), .inl (E 0, 400, .inl (upd wf1_2 (L1_2 : Int32).toNatClampNeg (-1)))), ((wa 2), .inl (E 0, 400, .inl (upd wf2_2 (L1_2 : Int32).toNatClampNeg 0))), ((wa 3), .inl (E 0, 400, .inl (upd wf3_2 (L1_2 : Int32).toNatClampNeg (-1))))] H := hP
        have hD := toW hP hD rfl
        obtain ⟨z_5, ez_5⟩ : ∃ y : Int32, y = L1_2 + 1 := ⟨_, rfl⟩
        have jz_5 : z_5.toInt = L1_2.toInt + 1 := by rw [ez_5]; exact g_add rfl t_1 (by omega) (by omega)
        refine lv_iinc (v := z_5) (lv' := [(1, .int z_5), (0, .ref wh)]) hx hb dX7_becomeNew_37 hl (k := 0) rfl (by rw [ez_5]; rfl) (by decide) rfl (fun ls hl => ?_)
        refine lv_goto (tgt := 2) hx hb dX7_becomeNew_40 (by decide) ?_
        exact ih_2 z_5 (upd wf0_2 (L1_2 : Int32).toNatClampNeg 0) (upd wf1_2 (L1_2 : Int32).toNatClampNeg (-1)) (upd wf2_2 (L1_2 : Int32).toNatClampNeg 0) (upd wf3_2 (L1_2 : Int32).toNatClampNeg (-1)) _ _ _ (by (try dsimp only); omega) (by (try dsimp only); omega) (NEW4_s v1_2 (by omega) rfl (by omega)) hP hD hS (lv_sub hl [0, 1] rfl)
  exact loop_1 401 0 wf0 wf1 wf2 wf3 _ _ _ (by have h0 := t_0; (try dsimp only); omega) (by have h0 := t_0; (try dsimp only); omega) (NEW4_0 (by decide)) hP hD hS (lv_sub hl [0, 1] rfl)
set_option maxHeartbeats 4000000 in
set_option maxRecDepth 100000 in
theorem g_X7_isCompared (l : Launch) (D : va_G) (E : Nat → Nat) (wh : Nat) (wa : Nat → Nat) (wf1 : Nat → Int32) (p0 : Int32)  : Met l yX7_isCompared (wl yX7_isCompared cX7_isCompared 2 (some .boolean)) (RM 1 0 0) (rd_P D E [.ref wh, .int p0] [(wh, .inr (7, G7 wa)), ((wa 1), .inl (E 0, 400, .inl wf1))]) (rd_Q (fun r => ((r.toInt = 1 ∧ ((0 ≤ p0.toInt ∧ p0.toInt ≤ 399) ∧ (wf1 (p0).toNatClampNeg).toInt ≠ -1)) ∨ (r.toInt = 0 ∧ ¬ ((0 ≤ p0.toInt ∧ p0.toInt ≤ 399) ∧ (wf1 (p0).toNatClampNeg).toInt ≠ -1))))) 0 0 (fun _ => False) := by
  refine Met.ofW (cc := cX7_isCompared) (maxL := 2) (ret := (some .boolean)) (by decide) rfl ?_
  intro p e s m args below meth c s₁ B hml hv
  obtain ⟨rfl, hP, hK⟩ := hv
  have hx := B.exec; have hb := B.bytes; have hr := B.returns
  have hts := atoms_spec (ws := wl yX7_isCompared cX7_isCompared 2 (some .boolean)) B.pre
  have htb : ∀ w ∈ tb, w.before _ s = true := fun w h => hts w (List.mem_cons_of_mem _ h)
  have hown : s.vm.findClass RX7 = some m.cls := findClass_of_methodNamed B.named
  have hlocks := B.notSynchronized
  have hP : va_P D vwCl [(wh, .inr (7, G7 wa)), ((wa 1), .inl (E 0, 400, .inl wf1))] s.heap := hP
  have hl := lv_entry ([.ref wh, .int p0]) (n := 2) (Nat.le_of_ble_eq_true rfl)
  rw [lg_entry_eq]
  generalize (lg_sl ([.ref wh, .int p0]) ++ List.replicate (2 - (lg_sl ([.ref wh, .int p0])).length) Slot.unset).toArray = ls at hl ⊢
  have hl : lv_has ls 2 [(0, .ref wh), (1, .int p0)] := hl
  have lo_p0 := i_lo p0; have hi_p0 := i_hi p0
  refine lv_iload_n hx hb dX7_isCompared_0 rfl (lv_at hl 1 rfl) ?_
  refine callRSN (rest := []) (As := [.int p0]) hx hb hml hown htb hK (g_X8_isDay l D E p0 ) ok_X8_isDay (show Cond.methodLinkNest RX7 24 yX8_isDay RX8 ∈ nestW by decide +kernel) k_324 k_1 k_325 ⟨(Nat.le_of_ble_eq_true rfl), (Nat.le_of_ble_eq_true rfl)⟩ ⟨(Nat.le_of_ble_eq_true rfl), (Nat.le_of_ble_eq_true rfl)⟩ hl.1 (Nat.le_of_ble_eq_true rfl) rfl rfl dX7_isCompared_1 (hP.sub (ws' := ([] : va_W)) [] rfl) (fun r_1 hw_2 => ?_)
  rcases hw_2 with ⟨hr_1, hw_2⟩ | ⟨hr_1, hw_2⟩
  ·
    refine W_top (y := .int 1) (by rw [hr_1]) ?_
    refine lv_if_eq (tgt := 21) hx hb dX7_isCompared_4 (by decide) (fun c_4 => absurd c_4 (by decide)) (fun c_4 => ?_)
    refine lv_aload_n hx hb dX7_isCompared_7 rfl (lv_at hl 0 rfl) ?_
    refine va_get (D := D) (ci := 7) (v := .ref (wa 1)) (C := RX7) (T := TX7) (N := 4) hx hb htb iX7 hown hK.1 hP 0 rfl rfl 1 (by decide) (htb _ k_349) (fun _ h9 => h9) rfl dX7_isCompared_8 ?_
    refine lv_iload_n hx hb dX7_isCompared_11 rfl (lv_at hl 1 rfl) ?_
    refine va_iald hx hb hK.1 hP 1 0 rfl rfl (g_in rfl (by omega) (by omega)) dX7_isCompared_12 ?_
    refine lv_topi (fun z_5 ez_5 => ?_)
    have kz_5 := congrArg Int32.toInt ez_5
    refine lv_iconst (v := (-1)) hx hb dX7_isCompared_13 (by decide) ?_
    refine lv_icmp_eq (tgt := 21) hx hb dX7_isCompared_14 (by decide) (fun c_6 => ?_) (fun c_6 => ?_)
    ·
      have ic_6 : z_5.toInt = -1 := (g_eq rfl t_m1).mp c_6
      clear c_6
      refine lv_iconst (v := 0) hx hb dX7_isCompared_21 (by decide) ?_
      exact W.zret (v := 0) hx hb hr rfl (fun t ht hW => ⟨0, rfl, (by have h0 := t_0; (try dsimp only); omega), ht⟩) (fun q h => by cases h) dX7_isCompared_22
    ·
      have ic_6 : z_5.toInt ≠ -1 := mt (g_eq rfl t_m1).mpr c_6
      clear c_6
      refine lv_iconst (v := 1) hx hb dX7_isCompared_17 (by decide) ?_
      refine lv_goto (tgt := 22) hx hb dX7_isCompared_18 (by decide) ?_
      exact W.zret (v := 1) hx hb hr rfl (fun t ht hW => ⟨1, rfl, (by have h0 := t_1; (try dsimp only); omega), ht⟩) (fun q h => by cases h) dX7_isCompared_22
  ·
    refine W_top (y := .int 0) (by rw [hr_1]) ?_
    refine lv_if_eq (tgt := 21) hx hb dX7_isCompared_4 (by decide) (fun c_7 => ?_) (fun c_7 => absurd (by decide) c_7)
    refine lv_iconst (v := 0) hx hb dX7_isCompared_21 (by decide) ?_
    exact W.zret (v := 0) hx hb hr rfl (fun t ht hW => ⟨0, rfl, (by have h0 := t_0; (try dsimp only); omega), ht⟩) (fun q h => by cases h) dX7_isCompared_22
set_option maxHeartbeats 4000000 in
set_option maxRecDepth 100000 in
theorem g_X7_tell (l : Launch) (D : va_G) (E : Nat → Nat) (wh : Nat) (wa : Nat → Nat) (wf0 : Nat → Int32) (wf1 : Nat → Int32) (p0 : Int32) (p1 : Int32) (p2 : Int32) (sz : Nat)  : Met l yX7_tell (wl yX7_tell cX7_tell 4 none) (RM 1 0 0) (mu_P D E [.ref wh, .int p0, .int p1, .int p2] [(wh, .inr (7, G7 wa)), ((wa 0), .inl (E 0, 400, .inl wf0)), ((wa 1), .inl (E 0, 400, .inl wf1))] sz) (va_Qv (fun (u : (Nat → Int32) × (Nat → Int32)) => (((0 ≤ p0.toInt ∧ p0.toInt ≤ 399) ∧ u.1 = upd wf0 (p0).toNatClampNeg p1 ∧ u.2 = upd wf1 (p0).toNatClampNeg p2) ∨ (¬ (0 ≤ p0.toInt ∧ p0.toInt ≤ 399) ∧ u.1 = wf0 ∧ u.2 = wf1))) (mu_B D (va_A [(wh, .inr (7, G7 wa)), ((wa 0), .inl (E 0, 400, .inl wf0)), ((wa 1), .inl (E 0, 400, .inl wf1))] sz) (fun (u : (Nat → Int32) × (Nat → Int32)) => [(wh, .inr (7, G7 wa)), ((wa 0), .inl (E 0, 400, .inl u.1)), ((wa 1), .inl (E 0, 400, .inl u.2))])) (va_A [(wh, .inr (7, G7 wa)), ((wa 0), .inl (E 0, 400, .inl wf0)), ((wa 1), .inl (E 0, 400, .inl wf1))] sz)) 0 0 (va_A [(wh, .inr (7, G7 wa)), ((wa 0), .inl (E 0, 400, .inl wf0)), ((wa 1), .inl (E 0, 400, .inl wf1))] sz) := by
  refine Met.ofW (cc := cX7_tell) (maxL := 4) (ret := none) (by decide) rfl ?_
  intro p e s m args below meth c s₁ B hml hv
  obtain ⟨rfl, hsz, hP, hK, hD0⟩ := hv
  have hx := B.exec; have hb := B.bytes; have hr := B.returns
  have hts := atoms_spec (ws := wl yX7_tell cX7_tell 4 none) B.pre
  have htb : ∀ w ∈ tb, w.before _ s = true := fun w h => hts w (List.mem_cons_of_mem _ h)
  have hown : s.vm.findClass RX7 = some m.cls := findClass_of_methodNamed B.named
  have hlocks := B.notSynchronized
  subst hsz
  have hD := hD0.self (sz := s.heap.size)
  generalize hAe : va_A [(wh, .inr (7, G7 wa)), ((wa 0), .inl (E 0, 400, .inl wf0)), ((wa 1), .inl (E 0, 400, .inl wf1))] s.heap.size = A at hD ⊢
  have hA : ∀ q : Nat, s.heap.size ≤ q → A q := fun q h => by rw [← hAe]; exact Or.inr h
  have hS : va_S A s.heap s.heap [] := va_S.rf
  have hP : va_P D vwCl [(wh, .inr (7, G7 wa)), ((wa 0), .inl (E 0, 400, .inl wf0)), ((wa 1), .inl (E 0, 400, .inl wf1))] s.heap := hP
  have hl := lv_entry ([.ref wh, .int p0, .int p1, .int p2]) (n := 4) (Nat.le_of_ble_eq_true rfl)
  rw [lg_entry_eq]
  generalize (lg_sl ([.ref wh, .int p0, .int p1, .int p2]) ++ List.replicate (4 - (lg_sl ([.ref wh, .int p0, .int p1, .int p2])).length) Slot.unset).toArray = ls at hl ⊢
  have hl : lv_has ls 4 [(0, .ref wh), (1, .int p0), (2, .int p1), (3, .int p2)] := hl
  have lo_p0 := i_lo p0; have hi_p0 := i_hi p0
  have lo_p1 := i_lo p1; have hi_p1 := i_hi p1
  have lo_p2 := i_lo p2; have hi_p2 := i_hi p2
  refine lv_iload_n hx hb dX7_tell_0 rfl (lv_at hl 1 rfl) ?_
  refine callRSN (rest := []) (As := [.int p0]) hx hb hml hown htb hK (g_X8_isDay l D E p0 ) ok_X8_isDay (show Cond.methodLinkNest RX7 24 yX8_isDay RX8 ∈ nestW by decide +kernel) k_324 k_1 k_325 ⟨(Nat.le_of_ble_eq_true rfl), (Nat.le_of_ble_eq_true rfl)⟩ ⟨(Nat.le_of_ble_eq_true rfl), (Nat.le_of_ble_eq_true rfl)⟩ hl.1 (Nat.le_of_ble_eq_true rfl) rfl rfl dX7_tell_1 (hP.sub (ws' := ([] : va_W)) [] rfl) (fun r_1 hw_2 => ?_)
  rcases hw_2 with ⟨hr_1, hw_2⟩ | ⟨hr_1, hw_2⟩
  ·
    refine W_top (y := .int 1) (by rw [hr_1]) ?_
    refine lv_if_eq (tgt := 21) hx hb dX7_tell_4 (by decide) (fun c_4 => absurd c_4 (by decide)) (fun c_4 => ?_)
    refine lv_aload_n hx hb dX7_tell_7 rfl (lv_at hl 0 rfl) ?_
    refine va_get (D := D) (ci := 7) (v := .ref (wa 0)) (C := RX7) (T := TX7) (N := 4) hx hb htb iX7 hown hK.1 hP 0 rfl rfl 0 (by decide) (htb _ k_348) (fun _ h9 => h9) rfl dX7_tell_8 ?_
    refine lv_iload_n hx hb dX7_tell_11 rfl (lv_at hl 1 rfl) ?_
    refine lv_iload_n hx hb dX7_tell_12 rfl (lv_at hl 2 rfl) ?_
    refine va_iast hx hb hK.1 hP hD hS 1 0 rfl rfl (g_in rfl (by omega) (by omega)) dX7_tell_13 (fun H locs hP hD hS => ?_)
    have hP : va_P D vwCl [(wh, .inr (7, G7 wa)), ((wa 0), .inl (E 0, 400, .inl (upd wf0 (p0 : Int32).toNatClampNeg p1))), ((wa 1), .inl (E 0, 400, .inl wf1))] H := hP
    have hD := toW hP hD rfl
    refine lv_aload_n hx hb dX7_tell_14 rfl (lv_at hl 0 rfl) ?_
    refine va_get (D := D) (ci := 7) (v := .ref (wa 1)) (C := RX7) (T := TX7) (N := 4) hx hb htb iX7 hown hK.1 hP 0 rfl rfl 1 (by decide) (htb _ k_349) (fun _ h9 => h9) rfl dX7_tell_15 ?_
    refine lv_iload_n hx hb dX7_tell_18 rfl (lv_at hl 1 rfl) ?_
    refine lv_iload_n hx hb dX7_tell_19 rfl (lv_at hl 3 rfl) ?_
    refine va_iast hx hb hK.1 hP hD hS 2 0 rfl rfl (g_in rfl (by omega) (by omega)) dX7_tell_20 (fun H locs hP hD hS => ?_)
    have hP : va_P D vwCl [(wh, .inr (7, G7 wa)), ((wa 0), .inl (E 0, 400, .inl (upd wf0 (p0 : Int32).toNatClampNeg p1))), ((wa 1), .inl (E 0, 400, .inl (upd wf1 (p0 : Int32).toNatClampNeg p2)))] H := hP
    have hD := toW hP hD rfl
    have hP9 := hP.sub (ws' := [(wh, .inr (7, G7 wa)), ((wa 0), .inl (E 0, 400, .inl (upd wf0 (p0 : Int32).toNatClampNeg p1))), ((wa 1), .inl (E 0, 400, .inl (upd wf1 (p0 : Int32).toNatClampNeg p2)))]) [0, 1, 2] rfl
    have hD9 := hD.sub (ws' := [(wh, .inr (7, G7 wa)), ((wa 0), .inl (E 0, 400, .inl (upd wf0 (p0 : Int32).toNatClampNeg p1))), ((wa 1), .inl (E 0, 400, .inl (upd wf1 (p0 : Int32).toNatClampNeg p2)))]) [0, 1, 2] (by decide) rfl
    exact W.vret hx hb hr (fun t ht hW => ⟨⟨((upd wf0 (p0 : Int32).toNatClampNeg p1), (upd wf1 (p0 : Int32).toNatClampNeg p2)), rfl, (by (try dsimp only); first | exact Or.inl ⟨by omega, rfl, rfl⟩ | exact Or.inr ⟨by omega, rfl, rfl⟩), by rw [ht]; exact hP9, hD9⟩, hS.F ht⟩) hS.2.2 dX7_tell_21
  ·
    refine W_top (y := .int 0) (by rw [hr_1]) ?_
    refine lv_if_eq (tgt := 21) hx hb dX7_tell_4 (by decide) (fun c_5 => ?_) (fun c_5 => absurd (by decide) c_5)
    have hP9 := hP.sub (ws' := [(wh, .inr (7, G7 wa)), ((wa 0), .inl (E 0, 400, .inl wf0)), ((wa 1), .inl (E 0, 400, .inl wf1))]) [0, 1, 2] rfl
    have hD9 := hD.sub (ws' := [(wh, .inr (7, G7 wa)), ((wa 0), .inl (E 0, 400, .inl wf0)), ((wa 1), .inl (E 0, 400, .inl wf1))]) [0, 1, 2] (by decide) rfl
    exact W.vret hx hb hr (fun t ht hW => ⟨⟨(wf0, wf1), rfl, (by (try dsimp only); first | exact Or.inl ⟨by omega, rfl, rfl⟩ | exact Or.inr ⟨by omega, rfl, rfl⟩), by rw [ht]; exact hP9, hD9⟩, hS.F ht⟩) hS.2.2 dX7_tell_21
set_option maxHeartbeats 4000000 in
set_option maxRecDepth 100000 in
theorem g_X7_isMarked (l : Launch) (D : va_G) (E : Nat → Nat) (wh : Nat) (wa : Nat → Nat) (wf2 : Nat → Int32) (p0 : Int32) (p1 : Int32)  : Met l yX7_isMarked (wl yX7_isMarked cX7_isMarked 3 (some .boolean)) (RM 1 0 0) (rd_P D E [.ref wh, .int p0, .int p1] [(wh, .inr (7, G7 wa)), ((wa 2), .inl (E 0, 400, .inl wf2))]) (rd_Q (fun r => ((r.toInt = 1 ∧ ((0 ≤ p0.toInt ∧ p0.toInt ≤ 399) ∧ ((wf2 (p0).toNatClampNeg) &&& p1).toInt ≠ 0)) ∨ (r.toInt = 0 ∧ ¬ ((0 ≤ p0.toInt ∧ p0.toInt ≤ 399) ∧ ((wf2 (p0).toNatClampNeg) &&& p1).toInt ≠ 0))))) 0 0 (fun _ => False) := by
  refine Met.ofW (cc := cX7_isMarked) (maxL := 3) (ret := (some .boolean)) (by decide) rfl ?_
  intro p e s m args below meth c s₁ B hml hv
  obtain ⟨rfl, hP, hK⟩ := hv
  have hx := B.exec; have hb := B.bytes; have hr := B.returns
  have hts := atoms_spec (ws := wl yX7_isMarked cX7_isMarked 3 (some .boolean)) B.pre
  have htb : ∀ w ∈ tb, w.before _ s = true := fun w h => hts w (List.mem_cons_of_mem _ h)
  have hown : s.vm.findClass RX7 = some m.cls := findClass_of_methodNamed B.named
  have hlocks := B.notSynchronized
  have hP : va_P D vwCl [(wh, .inr (7, G7 wa)), ((wa 2), .inl (E 0, 400, .inl wf2))] s.heap := hP
  have hl := lv_entry ([.ref wh, .int p0, .int p1]) (n := 3) (Nat.le_of_ble_eq_true rfl)
  rw [lg_entry_eq]
  generalize (lg_sl ([.ref wh, .int p0, .int p1]) ++ List.replicate (3 - (lg_sl ([.ref wh, .int p0, .int p1])).length) Slot.unset).toArray = ls at hl ⊢
  have hl : lv_has ls 3 [(0, .ref wh), (1, .int p0), (2, .int p1)] := hl
  have lo_p0 := i_lo p0; have hi_p0 := i_hi p0
  have lo_p1 := i_lo p1; have hi_p1 := i_hi p1
  refine lv_iload_n hx hb dX7_isMarked_0 rfl (lv_at hl 1 rfl) ?_
  refine callRSN (rest := []) (As := [.int p0]) hx hb hml hown htb hK (g_X8_isDay l D E p0 ) ok_X8_isDay (show Cond.methodLinkNest RX7 24 yX8_isDay RX8 ∈ nestW by decide +kernel) k_324 k_1 k_325 ⟨(Nat.le_of_ble_eq_true rfl), (Nat.le_of_ble_eq_true rfl)⟩ ⟨(Nat.le_of_ble_eq_true rfl), (Nat.le_of_ble_eq_true rfl)⟩ hl.1 (Nat.le_of_ble_eq_true rfl) rfl rfl dX7_isMarked_1 (hP.sub (ws' := ([] : va_W)) [] rfl) (fun r_1 hw_2 => ?_)
  rcases hw_2 with ⟨hr_1, hw_2⟩ | ⟨hr_1, hw_2⟩
  ·
    refine W_top (y := .int 1) (by rw [hr_1]) ?_
    refine lv_if_eq (tgt := 22) hx hb dX7_isMarked_4 (by decide) (fun c_4 => absurd c_4 (by decide)) (fun c_4 => ?_)
    refine lv_aload_n hx hb dX7_isMarked_7 rfl (lv_at hl 0 rfl) ?_
    refine va_get (D := D) (ci := 7) (v := .ref (wa 2)) (C := RX7) (T := TX7) (N := 4) hx hb htb iX7 hown hK.1 hP 0 rfl rfl 2 (by decide) (htb _ k_350) (fun _ h9 => h9) rfl dX7_isMarked_8 ?_
    refine lv_iload_n hx hb dX7_isMarked_11 rfl (lv_at hl 1 rfl) ?_
    refine va_iald hx hb hK.1 hP 1 0 rfl rfl (g_in rfl (by omega) (by omega)) dX7_isMarked_12 ?_
    refine lv_topi (fun z_5 ez_5 => ?_)
    have kz_5 := congrArg Int32.toInt ez_5
    refine lv_iload_n hx hb dX7_isMarked_13 rfl (lv_at hl 2 rfl) ?_
    refine lv_iand hx hb dX7_isMarked_14 ?_
    refine lv_topi (fun z_6 ez_6 => ?_)
    refine lv_if_eq (tgt := 22) hx hb dX7_isMarked_15 (by decide) (fun c_7 => ?_) (fun c_7 => ?_)
    ·
      have ic_7 : z_6.toInt = 0 := (g_eq rfl t_0).mp c_7
      clear c_7
      refine lv_iconst (v := 0) hx hb dX7_isMarked_22 (by decide) ?_
      exact W.zret (v := 0) hx hb hr rfl (fun t ht hW => ⟨0, rfl, (by have hl0 := t_0; subst_vars; omega), ht⟩) (fun q h => by cases h) dX7_isMarked_23
    ·
      have ic_7 : z_6.toInt ≠ 0 := mt (g_eq rfl t_0).mpr c_7
      clear c_7
      refine lv_iconst (v := 1) hx hb dX7_isMarked_18 (by decide) ?_
      refine lv_goto (tgt := 23) hx hb dX7_isMarked_19 (by decide) ?_
      exact W.zret (v := 1) hx hb hr rfl (fun t ht hW => ⟨1, rfl, (by have hl0 := t_1; subst_vars; omega), ht⟩) (fun q h => by cases h) dX7_isMarked_23
  ·
    refine W_top (y := .int 0) (by rw [hr_1]) ?_
    refine lv_if_eq (tgt := 22) hx hb dX7_isMarked_4 (by decide) (fun c_8 => ?_) (fun c_8 => absurd (by decide) c_8)
    refine lv_iconst (v := 0) hx hb dX7_isMarked_22 (by decide) ?_
    exact W.zret (v := 0) hx hb hr rfl (fun t ht hW => ⟨0, rfl, (by have hl0 := t_0; subst_vars; omega), ht⟩) (fun q h => by cases h) dX7_isMarked_23
set_option maxHeartbeats 4000000 in
set_option maxRecDepth 100000 in
theorem g_X7_addMark (l : Launch) (D : va_G) (E : Nat → Nat) (wh : Nat) (wa : Nat → Nat) (wf2 : Nat → Int32) (p0 : Int32) (p1 : Int32) (sz : Nat)  : Met l yX7_addMark (wl yX7_addMark cX7_addMark 3 (some .boolean)) (RM 2 0 0) (mu_P D E [.ref wh, .int p0, .int p1] [(wh, .inr (7, G7 wa)), ((wa 2), .inl (E 0, 400, .inl wf2))] sz) (va_Qi (fun (r : Int32) (u : (Nat → Int32)) => ((r.toInt = 1 ∧ (0 ≤ p0.toInt ∧ p0.toInt ≤ 399) ∧ ¬ ((0 ≤ p0.toInt ∧ p0.toInt ≤ 399) ∧ ((wf2 (p0).toNatClampNeg) &&& p1).toInt ≠ 0) ∧ u = upd wf2 (p0).toNatClampNeg ((wf2 (p0).toNatClampNeg) ||| p1)) ∨ (r.toInt = 0 ∧ ((0 ≤ p0.toInt ∧ p0.toInt ≤ 399) → ((0 ≤ p0.toInt ∧ p0.toInt ≤ 399) ∧ ((wf2 (p0).toNatClampNeg) &&& p1).toInt ≠ 0)) ∧ u = wf2))) (mu_B D (va_A [(wh, .inr (7, G7 wa)), ((wa 2), .inl (E 0, 400, .inl wf2))] sz) (fun (u : (Nat → Int32)) => [(wh, .inr (7, G7 wa)), ((wa 2), .inl (E 0, 400, .inl u))])) (va_A [(wh, .inr (7, G7 wa)), ((wa 2), .inl (E 0, 400, .inl wf2))] sz)) 0 0 (va_A [(wh, .inr (7, G7 wa)), ((wa 2), .inl (E 0, 400, .inl wf2))] sz) := by
  refine Met.ofW (cc := cX7_addMark) (maxL := 3) (ret := (some .boolean)) (by decide) rfl ?_
  intro p e s m args below meth c s₁ B hml hv
  obtain ⟨rfl, hsz, hP, hK, hD0⟩ := hv
  have hx := B.exec; have hb := B.bytes; have hr := B.returns
  have hts := atoms_spec (ws := wl yX7_addMark cX7_addMark 3 (some .boolean)) B.pre
  have htb : ∀ w ∈ tb, w.before _ s = true := fun w h => hts w (List.mem_cons_of_mem _ h)
  have hown : s.vm.findClass RX7 = some m.cls := findClass_of_methodNamed B.named
  have hlocks := B.notSynchronized
  subst hsz
  have hD := hD0.self (sz := s.heap.size)
  generalize hAe : va_A [(wh, .inr (7, G7 wa)), ((wa 2), .inl (E 0, 400, .inl wf2))] s.heap.size = A at hD ⊢
  have hA : ∀ q : Nat, s.heap.size ≤ q → A q := fun q h => by rw [← hAe]; exact Or.inr h
  have hS : va_S A s.heap s.heap [] := va_S.rf
  have hP : va_P D vwCl [(wh, .inr (7, G7 wa)), ((wa 2), .inl (E 0, 400, .inl wf2))] s.heap := hP
  have hl := lv_entry ([.ref wh, .int p0, .int p1]) (n := 3) (Nat.le_of_ble_eq_true rfl)
  rw [lg_entry_eq]
  generalize (lg_sl ([.ref wh, .int p0, .int p1]) ++ List.replicate (3 - (lg_sl ([.ref wh, .int p0, .int p1])).length) Slot.unset).toArray = ls at hl ⊢
  have hl : lv_has ls 3 [(0, .ref wh), (1, .int p0), (2, .int p1)] := hl
  have lo_p0 := i_lo p0; have hi_p0 := i_hi p0
  have lo_p1 := i_lo p1; have hi_p1 := i_hi p1
  refine lv_iload_n hx hb dX7_addMark_0 rfl (lv_at hl 1 rfl) ?_
  refine callRSN (rest := []) (As := [.int p0]) hx hb hml hown htb hK (g_X8_isDay l D E p0 ) ok_X8_isDay (show Cond.methodLinkNest RX7 24 yX8_isDay RX8 ∈ nestW by decide +kernel) k_324 k_1 k_325 ⟨(Nat.le_of_ble_eq_true rfl), (Nat.le_of_ble_eq_true rfl)⟩ ⟨(Nat.le_of_ble_eq_true rfl), (Nat.le_of_ble_eq_true rfl)⟩ hl.1 (Nat.le_of_ble_eq_true rfl) rfl rfl dX7_addMark_1 (hP.sub (ws' := ([] : va_W)) [] rfl) (fun r_1 hw_2 => ?_)
  rcases hw_2 with ⟨hr_1, hw_2⟩ | ⟨hr_1, hw_2⟩
  ·
    refine W_top (y := .int 1) (by rw [hr_1]) ?_
    refine lv_if_eq (tgt := 16) hx hb dX7_addMark_4 (by decide) (fun c_4 => absurd c_4 (by decide)) (fun c_4 => ?_)
    refine lv_aload_n hx hb dX7_addMark_7 rfl (lv_at hl 0 rfl) ?_
    refine lv_iload_n hx hb dX7_addMark_8 rfl (lv_at hl 1 rfl) ?_
    refine lv_iload_n hx hb dX7_addMark_9 rfl (lv_at hl 2 rfl) ?_
    refine callRV (rest := []) (As := [.int p0, .int p1]) hx hb hml hown htb hK (g_X7_isMarked l D E wh wa wf2 p0 p1 ) ok_X7_isMarked k_439 k_440 k_441 k_10 k_442 ⟨(Nat.le_of_ble_eq_true rfl), (Nat.le_of_ble_eq_true rfl)⟩ ⟨(Nat.le_of_ble_eq_true rfl), (Nat.le_of_ble_eq_true rfl)⟩ hl.1 (Nat.le_of_ble_eq_true rfl) rfl rfl dX7_addMark_10 (hP.sub (ws' := [(wh, .inr (7, G7 wa)), ((wa 2), .inl (E 0, 400, .inl wf2))]) [0, 1] rfl) rfl rfl 0 rfl (fun r_5 hw_6 => ?_)
    refine lv_if_eq (tgt := 18) hx hb dX7_addMark_13 (by decide) (fun c_8 => ?_) (fun c_8 => ?_)
    ·
      have ic_8 : r_5.toInt = 0 := (g_eq rfl t_0).mp c_8
      clear c_8
      refine lv_aload_n hx hb dX7_addMark_18 rfl (lv_at hl 0 rfl) ?_
      refine va_get (D := D) (ci := 7) (v := .ref (wa 2)) (C := RX7) (T := TX7) (N := 4) hx hb htb iX7 hown hK.1 hP 0 rfl rfl 2 (by decide) (htb _ k_350) (fun _ h9 => h9) rfl dX7_addMark_19 ?_
      refine lv_iload_n hx hb dX7_addMark_22 rfl (lv_at hl 1 rfl) ?_
      refine lv_dup2_11 hx hb dX7_addMark_23 rfl rfl ?_
      refine va_iald hx hb hK.1 hP 1 0 rfl rfl (g_in rfl (by omega) (by omega)) dX7_addMark_24 ?_
      refine lv_topi (fun z_9 ez_9 => ?_)
      have kz_9 := congrArg Int32.toInt ez_9
      refine lv_iload_n hx hb dX7_addMark_25 rfl (lv_at hl 2 rfl) ?_
      refine lv_ior hx hb dX7_addMark_26 ?_
      refine lv_topi (fun z_10 ez_10 => ?_)
      refine va_iast hx hb hK.1 hP hD hS 1 0 rfl rfl (g_in rfl (by omega) (by omega)) dX7_addMark_27 (fun H locs hP hD hS => ?_)
      have hP : va_P D vwCl [(wh, .inr (7, G7 wa)), ((wa 2), .inl (E 0, 400, .inl (upd wf2 (p0 : Int32).toNatClampNeg z_10)))] H := hP
      have hD := toW hP hD rfl
      refine lv_iconst (v := 1) hx hb dX7_addMark_28 (by decide) ?_
      have hP9 := hP.sub (ws' := [(wh, .inr (7, G7 wa)), ((wa 2), .inl (E 0, 400, .inl (upd wf2 (p0 : Int32).toNatClampNeg z_10)))]) [0, 1] rfl
      have hD9 := hD.sub (ws' := [(wh, .inr (7, G7 wa)), ((wa 2), .inl (E 0, 400, .inl (upd wf2 (p0 : Int32).toNatClampNeg z_10)))]) [0, 1] (by decide) rfl
      exact W.zret (v := 1) hx hb hr rfl (fun t ht hW => ⟨⟨1, (upd wf2 (p0 : Int32).toNatClampNeg z_10), rfl, (by have hl0 := t_1; (try dsimp only); first | exact Or.inl ⟨by omega, by omega, by omega, by subst_vars; rfl⟩), by rw [ht]; exact hP9, hD9⟩, hS.F ht⟩) hS.2.2 dX7_addMark_29
    ·
      have ic_8 : r_5.toInt ≠ 0 := mt (g_eq rfl t_0).mpr c_8
      clear c_8
      refine lv_iconst (v := 0) hx hb dX7_addMark_16 (by decide) ?_
      have hP9 := hP.sub (ws' := [(wh, .inr (7, G7 wa)), ((wa 2), .inl (E 0, 400, .inl wf2))]) [0, 1] rfl
      have hD9 := hD.sub (ws' := [(wh, .inr (7, G7 wa)), ((wa 2), .inl (E 0, 400, .inl wf2))]) [0, 1] (by decide) rfl
      exact W.zret (v := 0) hx hb hr rfl (fun t ht hW => ⟨⟨0, wf2, rfl, (by have hl0 := t_0; (try dsimp only); first | exact Or.inr ⟨by omega, by omega, rfl⟩), by rw [ht]; exact hP9, hD9⟩, hS.F ht⟩) hS.2.2 dX7_addMark_17
  ·
    refine W_top (y := .int 0) (by rw [hr_1]) ?_
    refine lv_if_eq (tgt := 16) hx hb dX7_addMark_4 (by decide) (fun c_11 => ?_) (fun c_11 => absurd (by decide) c_11)
    refine lv_iconst (v := 0) hx hb dX7_addMark_16 (by decide) ?_
    have hP9 := hP.sub (ws' := [(wh, .inr (7, G7 wa)), ((wa 2), .inl (E 0, 400, .inl wf2))]) [0, 1] rfl
    have hD9 := hD.sub (ws' := [(wh, .inr (7, G7 wa)), ((wa 2), .inl (E 0, 400, .inl wf2))]) [0, 1] (by decide) rfl
    exact W.zret (v := 0) hx hb hr rfl (fun t ht hW => ⟨⟨0, wf2, rfl, (by have hl0 := t_0; (try dsimp only); first | exact Or.inr ⟨by omega, by omega, rfl⟩), by rw [ht]; exact hP9, hD9⟩, hS.F ht⟩) hS.2.2 dX7_addMark_17
set_option maxHeartbeats 4000000 in
set_option maxRecDepth 100000 in
theorem g_X7_holderOn (l : Launch) (D : va_G) (E : Nat → Nat) (wh : Nat) (wa : Nat → Nat) (wf3 : Nat → Int32) (p0 : Int32)  : Met l yX7_holderOn (wl yX7_holderOn cX7_holderOn 2 (some .int)) (RM 1 0 0) (rd_P D E [.ref wh, .int p0] [(wh, .inr (7, G7 wa)), ((wa 3), .inl (E 0, 400, .inl wf3))]) (rd_Q (fun r => (((0 ≤ p0.toInt ∧ p0.toInt ≤ 399) ∧ r = (wf3 (p0).toNatClampNeg)) ∨ (¬ (0 ≤ p0.toInt ∧ p0.toInt ≤ 399) ∧ r.toInt = -1)))) 0 0 (fun _ => False) := by
  refine Met.ofW (cc := cX7_holderOn) (maxL := 2) (ret := (some .int)) (by decide) rfl ?_
  intro p e s m args below meth c s₁ B hml hv
  obtain ⟨rfl, hP, hK⟩ := hv
  have hx := B.exec; have hb := B.bytes; have hr := B.returns
  have hts := atoms_spec (ws := wl yX7_holderOn cX7_holderOn 2 (some .int)) B.pre
  have htb : ∀ w ∈ tb, w.before _ s = true := fun w h => hts w (List.mem_cons_of_mem _ h)
  have hown : s.vm.findClass RX7 = some m.cls := findClass_of_methodNamed B.named
  have hlocks := B.notSynchronized
  have hP : va_P D vwCl [(wh, .inr (7, G7 wa)), ((wa 3), .inl (E 0, 400, .inl wf3))] s.heap := hP
  have hl := lv_entry ([.ref wh, .int p0]) (n := 2) (Nat.le_of_ble_eq_true rfl)
  rw [lg_entry_eq]
  generalize (lg_sl ([.ref wh, .int p0]) ++ List.replicate (2 - (lg_sl ([.ref wh, .int p0])).length) Slot.unset).toArray = ls at hl ⊢
  have hl : lv_has ls 2 [(0, .ref wh), (1, .int p0)] := hl
  have lo_p0 := i_lo p0; have hi_p0 := i_hi p0
  refine lv_iload_n hx hb dX7_holderOn_0 rfl (lv_at hl 1 rfl) ?_
  refine callRSN (rest := []) (As := [.int p0]) hx hb hml hown htb hK (g_X8_isDay l D E p0 ) ok_X8_isDay (show Cond.methodLinkNest RX7 24 yX8_isDay RX8 ∈ nestW by decide +kernel) k_324 k_1 k_325 ⟨(Nat.le_of_ble_eq_true rfl), (Nat.le_of_ble_eq_true rfl)⟩ ⟨(Nat.le_of_ble_eq_true rfl), (Nat.le_of_ble_eq_true rfl)⟩ hl.1 (Nat.le_of_ble_eq_true rfl) rfl rfl dX7_holderOn_1 (hP.sub (ws' := ([] : va_W)) [] rfl) (fun r_1 hw_2 => ?_)
  rcases hw_2 with ⟨hr_1, hw_2⟩ | ⟨hr_1, hw_2⟩
  ·
    refine W_top (y := .int 1) (by rw [hr_1]) ?_
    refine lv_if_eq (tgt := 16) hx hb dX7_holderOn_4 (by decide) (fun c_4 => absurd c_4 (by decide)) (fun c_4 => ?_)
    refine lv_aload_n hx hb dX7_holderOn_7 rfl (lv_at hl 0 rfl) ?_
    refine va_get (D := D) (ci := 7) (v := .ref (wa 3)) (C := RX7) (T := TX7) (N := 4) hx hb htb iX7 hown hK.1 hP 0 rfl rfl 3 (by decide) (htb _ k_351) (fun _ h9 => h9) rfl dX7_holderOn_8 ?_
    refine lv_iload_n hx hb dX7_holderOn_11 rfl (lv_at hl 1 rfl) ?_
    refine va_iald hx hb hK.1 hP 1 0 rfl rfl (g_in rfl (by omega) (by omega)) dX7_holderOn_12 ?_
    refine lv_topi (fun z_5 ez_5 => ?_)
    have kz_5 := congrArg Int32.toInt ez_5
    refine lv_goto (tgt := 17) hx hb dX7_holderOn_13 (by decide) ?_
    exact W.iret (v := z_5) hx hb hr (fun t ht hW => ⟨z_5, rfl, (by (try dsimp only); first | exact Or.inl ⟨by omega, by subst_vars; rfl⟩ | exact Or.inr ⟨by omega, by omega⟩), ht⟩) (fun q h => by cases h) dX7_holderOn_17
  ·
    refine W_top (y := .int 0) (by rw [hr_1]) ?_
    refine lv_if_eq (tgt := 16) hx hb dX7_holderOn_4 (by decide) (fun c_6 => ?_) (fun c_6 => absurd (by decide) c_6)
    refine lv_iconst (v := (-1)) hx hb dX7_holderOn_16 (by decide) ?_
    exact W.iret (v := (-1)) hx hb hr (fun t ht hW => ⟨(-1), rfl, (by have hl0 := t_m1; (try dsimp only); first | exact Or.inl ⟨by omega, by subst_vars; rfl⟩ | exact Or.inr ⟨by omega, by omega⟩), ht⟩) (fun q h => by cases h) dX7_holderOn_17
set_option maxHeartbeats 4000000 in
set_option maxRecDepth 100000 in
theorem g_X7_giveTo (l : Launch) (D : va_G) (E : Nat → Nat) (wh : Nat) (wa : Nat → Nat) (wf3 : Nat → Int32) (p0 : Int32) (p1 : Int32) (sz : Nat) (g0 : 0 ≤ p1.toInt ∧ p1.toInt ≤ 399) : Met l yX7_giveTo (wl yX7_giveTo cX7_giveTo 4 none) (RM 1 0 0) (mu_P D E [.ref wh, .int p0, .int p1] [(wh, .inr (7, G7 wa)), ((wa 3), .inl (E 0, 400, .inl wf3))] sz) (va_Qv (fun (u : (Nat → Int32)) => (GIV wf3 u p1.toInt p0)) (mu_B D (va_A [(wh, .inr (7, G7 wa)), ((wa 3), .inl (E 0, 400, .inl wf3))] sz) (fun (u : (Nat → Int32)) => [(wh, .inr (7, G7 wa)), ((wa 3), .inl (E 0, 400, .inl u))])) (va_A [(wh, .inr (7, G7 wa)), ((wa 3), .inl (E 0, 400, .inl wf3))] sz)) 0 0 (va_A [(wh, .inr (7, G7 wa)), ((wa 3), .inl (E 0, 400, .inl wf3))] sz) := by
  refine Met.ofW (cc := cX7_giveTo) (maxL := 4) (ret := none) (by decide) rfl ?_
  intro p e s m args below meth c s₁ B hml hv
  obtain ⟨rfl, hsz, hP, hK, hD0⟩ := hv
  have hx := B.exec; have hb := B.bytes; have hr := B.returns
  have hts := atoms_spec (ws := wl yX7_giveTo cX7_giveTo 4 none) B.pre
  have htb : ∀ w ∈ tb, w.before _ s = true := fun w h => hts w (List.mem_cons_of_mem _ h)
  have hown : s.vm.findClass RX7 = some m.cls := findClass_of_methodNamed B.named
  have hlocks := B.notSynchronized
  subst hsz
  have hD := hD0.self (sz := s.heap.size)
  generalize hAe : va_A [(wh, .inr (7, G7 wa)), ((wa 3), .inl (E 0, 400, .inl wf3))] s.heap.size = A at hD ⊢
  have hA : ∀ q : Nat, s.heap.size ≤ q → A q := fun q h => by rw [← hAe]; exact Or.inr h
  have hS : va_S A s.heap s.heap [] := va_S.rf
  have hP : va_P D vwCl [(wh, .inr (7, G7 wa)), ((wa 3), .inl (E 0, 400, .inl wf3))] s.heap := hP
  have hl := lv_entry ([.ref wh, .int p0, .int p1]) (n := 4) (Nat.le_of_ble_eq_true rfl)
  rw [lg_entry_eq]
  generalize (lg_sl ([.ref wh, .int p0, .int p1]) ++ List.replicate (4 - (lg_sl ([.ref wh, .int p0, .int p1])).length) Slot.unset).toArray = ls at hl ⊢
  have hl : lv_has ls 4 [(0, .ref wh), (1, .int p0), (2, .int p1)] := hl
  have lo_p0 := i_lo p0; have hi_p0 := i_hi p0
  have lo_p1 := i_lo p1; have hi_p1 := i_hi p1
  refine lv_iconst (v := 0) hx hb dX7_giveTo_0 (by decide) ?_
  refine lv_iload_n hx hb dX7_giveTo_1 rfl (lv_at hl 2 rfl) ?_
  refine va_mmax hx hb (by rw [hml, hl.1]) hown (htb _ k_807) (htb _ k_732) (htb _ k_11) (htb _ k_733) (Nat.le_of_ble_eq_true rfl) (Nat.le_of_ble_eq_true rfl) (Nat.le_of_ble_eq_true rfl) (Nat.le_of_ble_eq_true rfl) dX7_giveTo_2 ?_
  refine lv_topi (fun z_1 ez_1 => ?_)
  have jz_1 := g_max t_0 rfl ez_1
  refine lv_istore_n (lv' := [(3, .int z_1), (0, .ref wh), (1, .int p0), (2, .int p1)]) hx hb dX7_giveTo_5 rfl hl (by decide) rfl (fun ls hl => ?_)
  have loop_2 : ∀ (N_4 : Nat) (L3_6 : Int32) (wf3_6 : Nat → Int32) (H : Heap) (locs : List Loc) (ls : Array Slot), 400 - L3_6.toInt < (N_4 : Int) → (p1.toInt ≤ L3_6.toInt ∧ L3_6.toInt ≤ 400) → (GIVl wf3 wf3_6 p1.toInt L3_6.toInt p0) → va_P D vwCl [(wh, .inr (7, G7 wa)), ((wa 3), .inl (E 0, 400, .inl wf3_6))] H → va_D A [(wh, .inr (7, G7 wa)), ((wa 3), .inl (E 0, 400, .inl wf3_6))] → va_S A s.heap H locs → lv_has ls 4 [(3, .int L3_6), (0, .ref wh), (1, .int p0), (2, .int p1)] → W p l e (headSpec (wl yX7_giveTo cX7_giveTo 4 none) (RM 1 0 0)).room s m [Value.ref wh, .int p0, .int p1].toArray below meth c H locs 0 0 (MQ below (va_Qv (fun (u : (Nat → Int32)) => (GIV wf3 u p1.toInt p0)) (mu_B D A (fun (u : (Nat → Int32)) => [(wh, .inr (7, G7 wa)), ((wa 3), .inl (E 0, 400, .inl u))])) A) [Value.ref wh, .int p0, .int p1].toArray s 0 0 A) (F0 m 6 ls []) := by
    intro N_4
    induction N_4 with
    | zero => intro L3_6 wf3_6 H locs ls hm v0_6 v1_6 _ _ _ _; exfalso; omega
    | succ N_4 ih_3 =>
      intro L3_6 wf3_6 H locs ls hm v0_6 v1_6 hP hD hS hl
      have lo_L3_6 := i_lo L3_6; have hi_L3_6 := i_hi L3_6
      refine lv_iload_n hx hb dX7_giveTo_6 rfl (lv_at hl 0 rfl) ?_
      refine lv_sipush (v := 400) hx hb dX7_giveTo_7 (by decide) ?_
      refine lv_icmp_ge (tgt := 26) hx hb dX7_giveTo_10 (by decide) (fun c_5 => ?_) (fun c_5 => ?_)
      ·
        have ic_5 : 400 ≤ L3_6.toInt := by first | exact (g_le t_400 rfl).mp c_5 | (have h := mt (g_lt rfl t_400).mpr c_5; omega)
        clear c_5
        have hP9 := hP.sub (ws' := [(wh, .inr (7, G7 wa)), ((wa 3), .inl (E 0, 400, .inl wf3_6))]) [0, 1] rfl
        have hD9 := hD.sub (ws' := [(wh, .inr (7, G7 wa)), ((wa 3), .inl (E 0, 400, .inl wf3_6))]) [0, 1] (by decide) rfl
        exact W.vret hx hb hr (fun t ht hW => ⟨⟨wf3_6, rfl, (GIVl_e v1_6 (by omega)), by rw [ht]; exact hP9, hD9⟩, hS.F ht⟩) hS.2.2 dX7_giveTo_26
      ·
        have ic_5 : L3_6.toInt < 400 := by first | exact (g_lt rfl t_400).mp c_5 | (have h := mt (g_le t_400 rfl).mpr c_5; omega)
        clear c_5
        refine lv_aload_n hx hb dX7_giveTo_13 rfl (lv_at hl 1 rfl) ?_
        refine va_get (D := D) (ci := 7) (v := .ref (wa 3)) (C := RX7) (T := TX7) (N := 4) hx hb htb iX7 hown hK.1 hP 0 rfl rfl 3 (by decide) (htb _ k_351) (fun _ h9 => h9) rfl dX7_giveTo_14 ?_
        refine lv_iload_n hx hb dX7_giveTo_17 rfl (lv_at hl 0 rfl) ?_
        refine lv_iload_n hx hb dX7_giveTo_18 rfl (lv_at hl 2 rfl) ?_
        refine va_iast hx hb hK.1 hP hD hS 1 0 rfl rfl (g_in rfl (by omega) (by omega)) dX7_giveTo_19 (fun H locs hP hD hS => ?_)
        have hP : va_P D vwCl [(wh, .inr (7, G7 wa)), ((wa 3), .inl (E 0, 400, .inl (upd wf3_6 (L3_6 : Int32).toNatClampNeg p0)))] H := hP
        have hD := toW hP hD rfl
        obtain ⟨z_6, ez_6⟩ : ∃ y : Int32, y = L3_6 + 1 := ⟨_, rfl⟩
        have jz_6 : z_6.toInt = L3_6.toInt + 1 := by rw [ez_6]; exact g_add rfl t_1 (by omega) (by omega)
        refine lv_iinc (v := z_6) (lv' := [(3, .int z_6), (0, .ref wh), (1, .int p0), (2, .int p1)]) hx hb dX7_giveTo_20 hl (k := 0) rfl (by rw [ez_6]; rfl) (by decide) rfl (fun ls hl => ?_)
        refine lv_goto (tgt := 6) hx hb dX7_giveTo_23 (by decide) ?_
        exact ih_3 z_6 (upd wf3_6 (L3_6 : Int32).toNatClampNeg p0) _ _ _ (by (try dsimp only); omega) (by (try dsimp only); omega) (GIVl_s v1_6 (by omega) (by omega) rfl (by omega)) hP hD hS (lv_sub hl [0, 1, 2, 3] rfl)
  exact loop_2 401 z_1 wf3 _ _ _ (by (try dsimp only); omega) (by (try dsimp only); omega) (GIVl_0 (by omega)) hP hD hS (lv_sub hl [0, 1, 2, 3] rfl)
