set_option maxHeartbeats 4000000 in
set_option maxRecDepth 100000 in
theorem c_X7_becomeNew (l : Launch) (D : va_G) (E : Nat → Nat) (h0 : Nat) (a : Nat → Nat) (f0 : Nat → Int32) (f1 : Nat → Int32) (f2 : Nat → Int32) (f3 : Nat → Int32) (sz : Nat)  : Met l yX7_becomeNew (wl yX7_becomeNew cX7_becomeNew 2 none) (RM 0 0 0) (mu_P D E [.ref h0] [(h0, .inr (7, [.ref (a 0), .ref (a 1), .ref (a 2), .ref (a 3)])), ((a 0), .inl (E 0, 400, .inl f0)), ((a 1), .inl (E 0, 400, .inl f1)), ((a 2), .inl (E 0, 400, .inl f2)), ((a 3), .inl (E 0, 400, .inl f3))] sz) (va_Qv (fun (u : Unit) => True) (mu_B D (va_A [(h0, .inr (7, [.ref (a 0), .ref (a 1), .ref (a 2), .ref (a 3)])), ((a 0), .inl (E 0, 400, .inl f0)), ((a 1), .inl (E 0, 400, .inl f1)), ((a 2), .inl (E 0, 400, .inl f2)), ((a 3), .inl (E 0, 400, .inl f3))] sz) (fun (u : Unit) => ([] : va_W))) (va_A [(h0, .inr (7, [.ref (a 0), .ref (a 1), .ref (a 2), .ref (a 3)])), ((a 0), .inl (E 0, 400, .inl f0)), ((a 1), .inl (E 0, 400, .inl f1)), ((a 2), .inl (E 0, 400, .inl f2)), ((a 3), .inl (E 0, 400, .inl f3))] sz)) 0 0 (va_A [(h0, .inr (7, [.ref (a 0), .ref (a 1), .ref (a 2), .ref (a 3)])), ((a 0), .inl (E 0, 400, .inl f0)), ((a 1), .inl (E 0, 400, .inl f1)), ((a 2), .inl (E 0, 400, .inl f2)), ((a 3), .inl (E 0, 400, .inl f3))] sz) := by
  refine Met.ofW (cc := cX7_becomeNew) (maxL := 2) (ret := none) (by decide) rfl ?_
  intro p e s m args below meth c s₁ B hml hv
  obtain ⟨rfl, hsz, hP, hK, hD0⟩ := hv
  have hx := B.exec
  have hb := B.bytes
  have hr := B.returns
  have hts := atoms_spec (ws := wl yX7_becomeNew cX7_becomeNew 2 none) B.pre
  have htb : ∀ w ∈ tb, w.before _ s = true := fun w h => hts w (List.mem_cons_of_mem _ h)
  have hown : s.vm.findClass RX7 = some m.cls := findClass_of_methodNamed B.named
  have hlocks := B.notSynchronized
  subst hsz
  have hD := hD0.self (sz := s.heap.size)
  generalize hAe : va_A [(h0, .inr (7, [.ref (a 0), .ref (a 1), .ref (a 2), .ref (a 3)])), ((a 0), .inl (E 0, 400, .inl f0)), ((a 1), .inl (E 0, 400, .inl f1)), ((a 2), .inl (E 0, 400, .inl f2)), ((a 3), .inl (E 0, 400, .inl f3))] s.heap.size = A at hD ⊢
  have hA : ∀ q : Nat, s.heap.size ≤ q → A q := fun q h => by rw [← hAe]; exact Or.inr h
  have hS : va_S A s.heap s.heap [] := va_S.rf
  have hP : va_P D vwCl [(h0, .inr (7, [.ref (a 0), .ref (a 1), .ref (a 2), .ref (a 3)])), ((a 0), .inl (E 0, 400, .inl f0)), ((a 1), .inl (E 0, 400, .inl f1)), ((a 2), .inl (E 0, 400, .inl f2)), ((a 3), .inl (E 0, 400, .inl f3))] s.heap := hP
  have hl := lv_entry ([.ref h0]) (n := 2) (Nat.le_of_ble_eq_true rfl)
  rw [lg_entry_eq]
  generalize (lg_sl ([.ref h0]) ++ List.replicate (2 - (lg_sl ([.ref h0])).length) Slot.unset).toArray = ls at hl ⊢
  have hl : lv_has ls 2 [(0, .ref h0)] := hl
  refine lv_iconst (v := 0) hx hb dX7_becomeNew_0 (by decide) ?_
  refine lv_istore_n (lv' := [(1, .int 0), (0, .ref h0)]) hx hb dX7_becomeNew_1 rfl hl (by decide) rfl (fun ls hl => ?_)
  have loop_3 : ∀ (N_2 : Nat) (ix : Int32) (gf2_0 : Nat → Int32) (gf2_1 : Nat → Int32) (gf2_2 : Nat → Int32) (gf2_3 : Nat → Int32) (H : Heap) (locs : List Loc) (ls : Array Slot), 400 - ix.toInt < (N_2 : Int) → (0 ≤ ix.toInt) → (ix.toInt ≤ 400) → va_P D vwCl [(h0, .inr (7, [.ref (a 0), .ref (a 1), .ref (a 2), .ref (a 3)])), ((a 0), .inl (E 0, 400, .inl gf2_0)), ((a 1), .inl (E 0, 400, .inl gf2_1)), ((a 2), .inl (E 0, 400, .inl gf2_2)), ((a 3), .inl (E 0, 400, .inl gf2_3))] H → va_D A [(h0, .inr (7, [.ref (a 0), .ref (a 1), .ref (a 2), .ref (a 3)])), ((a 0), .inl (E 0, 400, .inl gf2_0)), ((a 1), .inl (E 0, 400, .inl gf2_1)), ((a 2), .inl (E 0, 400, .inl gf2_2)), ((a 3), .inl (E 0, 400, .inl gf2_3))] → va_S A s.heap H locs → lv_has ls 2 [(1, .int ix), (0, .ref h0)] → W p l e (headSpec (wl yX7_becomeNew cX7_becomeNew 2 none) (RM 0 0 0)).room s m [Value.ref h0].toArray below meth c H locs 0 0 (MQ below (va_Qv (fun (u : Unit) => True) (mu_B D A (fun (u : Unit) => ([] : va_W))) A) [Value.ref h0].toArray s 0 0 A) (F0 m 2 ls []) := by
    intro N_2
    induction N_2 with
    | zero => intro ix gf2_0 gf2_1 gf2_2 gf2_3 H locs ls hm v0_loop_3 v1_loop_3 _ _ _ _; exfalso; omega
    | succ N_2 ih_1 =>
      intro ix gf2_0 gf2_1 gf2_2 gf2_3 H locs ls hm v0_loop_3 v1_loop_3 hP hD hS hl
      refine lv_iload_n hx hb dX7_becomeNew_2 rfl (lv_at hl 0 rfl) ?_
      refine lv_sipush (v := 400) hx hb dX7_becomeNew_3 (by decide) ?_
      refine lv_icmp_ge (tgt := 43) hx hb dX7_becomeNew_6 (by decide) (fun c_4 => ?_) (fun c_4 => ?_)
      ·
        have ic_4 : 400 ≤ ix.toInt := by first | exact (g_le t_400 rfl).mp c_4 | (have h := mt (g_lt rfl t_400).mpr c_4; omega)
        have hP9 := hP.sub (ws' := ([] : va_W)) [] rfl
        have hD9 := hD.sub (ws' := ([] : va_W)) [] (by decide) rfl
        exact W.vret hx hb hr (fun t ht hW => ⟨⟨(), rfl, trivial, by rw [ht]; exact hP9, hD9⟩, hS.F ht⟩) hS.2.2 dX7_becomeNew_43
      ·
        have ic_4 : ix.toInt < 400 := by first | exact (g_lt rfl t_400).mp c_4 | (have h := mt (g_le t_400 rfl).mpr c_4; omega)
        refine lv_aload_n hx hb dX7_becomeNew_9 rfl (lv_at hl 1 rfl) ?_
        refine va_get (D := D) (ci := 7) (v := .ref (a 0)) (C := RX7) (T := TX7) (N := 4) hx hb htb iX7 hown hK.1 hP 0 rfl rfl 0 (by decide) (htb _ k_348) (fun _ h9 => h9) rfl dX7_becomeNew_10 ?_
        refine lv_iload_n hx hb dX7_becomeNew_13 rfl (lv_at hl 0 rfl) ?_
        refine lv_iconst (v := 0) hx hb dX7_becomeNew_14 (by decide) ?_
        refine va_iast hx hb hK.1 hP hD hS 1 0 rfl rfl (g_in rfl (by omega) (by omega)) dX7_becomeNew_15 (fun H locs hP hD hS => ?_)
        have hP : va_P D vwCl [(h0, .inr (7, [.ref (a 0), .ref (a 1), .ref (a 2), .ref (a 3)])), ((a 0), .inl (E 0, 400, .inl (upd gf2_0 (ix : Int32).toNatClampNeg 0))), ((a 1), .inl (E 0, 400, .inl gf2_1)), ((a 2), .inl (E 0, 400, .inl gf2_2)), ((a 3), .inl (E 0, 400, .inl gf2_3))] H := hP
        have hD : va_D A [(h0, .inr (7, [.ref (a 0), .ref (a 1), .ref (a 2), .ref (a 3)])), ((a 0), .inl (E 0, 400, .inl (upd gf2_0 (ix : Int32).toNatClampNeg 0))), ((a 1), .inl (E 0, 400, .inl gf2_1)), ((a 2), .inl (E 0, 400, .inl gf2_2)), ((a 3), .inl (E 0, 400, .inl gf2_3))] := hD
        refine lv_aload_n hx hb dX7_becomeNew_16 rfl (lv_at hl 1 rfl) ?_
        refine va_get (D := D) (ci := 7) (v := .ref (a 1)) (C := RX7) (T := TX7) (N := 4) hx hb htb iX7 hown hK.1 hP 0 rfl rfl 1 (by decide) (htb _ k_349) (fun _ h9 => h9) rfl dX7_becomeNew_17 ?_
        refine lv_iload_n hx hb dX7_becomeNew_20 rfl (lv_at hl 0 rfl) ?_
        refine lv_iconst (v := (-1)) hx hb dX7_becomeNew_21 (by decide) ?_
        refine va_iast hx hb hK.1 hP hD hS 2 0 rfl rfl (g_in rfl (by omega) (by omega)) dX7_becomeNew_22 (fun H locs hP hD hS => ?_)
        have hP : va_P D vwCl [(h0, .inr (7, [.ref (a 0), .ref (a 1), .ref (a 2), .ref (a 3)])), ((a 0), .inl (E 0, 400, .inl (upd gf2_0 (ix : Int32).toNatClampNeg 0))), ((a 1), .inl (E 0, 400, .inl (upd gf2_1 (ix : Int32).toNatClampNeg (-1)))), ((a 2), .inl (E 0, 400, .inl gf2_2)), ((a 3), .inl (E 0, 400, .inl gf2_3))] H := hP
        have hD : va_D A [(h0, .inr (7, [.ref (a 0), .ref (a 1), .ref (a 2), .ref (a 3)])), ((a 0), .inl (E 0, 400, .inl (upd gf2_0 (ix : Int32).toNatClampNeg 0))), ((a 1), .inl (E 0, 400, .inl (upd gf2_1 (ix : Int32).toNatClampNeg (-1)))), ((a 2), .inl (E 0, 400, .inl gf2_2)), ((a 3), .inl (E 0, 400, .inl gf2_3))] := hD
        refine lv_aload_n hx hb dX7_becomeNew_23 rfl (lv_at hl 1 rfl) ?_
        refine va_get (D := D) (ci := 7) (v := .ref (a 2)) (C := RX7) (T := TX7) (N := 4) hx hb htb iX7 hown hK.1 hP 0 rfl rfl 2 (by decide) (htb _ k_350) (fun _ h9 => h9) rfl dX7_becomeNew_24 ?_
        refine lv_iload_n hx hb dX7_becomeNew_27 rfl (lv_at hl 0 rfl) ?_
        refine lv_iconst (v := 0) hx hb dX7_becomeNew_28 (by decide) ?_
        refine va_iast hx hb hK.1 hP hD hS 3 0 rfl rfl (g_in rfl (by omega) (by omega)) dX7_becomeNew_29 (fun H locs hP hD hS => ?_)
        have hP : va_P D vwCl [(h0, .inr (7, [.ref (a 0), .ref (a 1), .ref (a 2), .ref (a 3)])), ((a 0), .inl (E 0, 400, .inl (upd gf2_0 (ix : Int32).toNatClampNeg 0))), ((a 1), .inl (E 0, 400, .inl (upd gf2_1 (ix : Int32).toNatClampNeg (-1)))), ((a 2), .inl (E 0, 400, .inl (upd gf2_2 (ix : Int32).toNatClampNeg 0))), ((a 3), .inl (E 0, 400, .inl gf2_3))] H := hP
        have hD : va_D A [(h0, .inr (7, [.ref (a 0), .ref (a 1), .ref (a 2), .ref (a 3)])), ((a 0), .inl (E 0, 400, .inl (upd gf2_0 (ix : Int32).toNatClampNeg 0))), ((a 1), .inl (E 0, 400, .inl (upd gf2_1 (ix : Int32).toNatClampNeg (-1)))), ((a 2), .inl (E 0, 400, .inl (upd gf2_2 (ix : Int32).toNatClampNeg 0))), ((a 3), .inl (E 0, 400, .inl gf2_3))] := hD
        refine lv_aload_n hx hb dX7_becomeNew_30 rfl (lv_at hl 1 rfl) ?_
        refine va_get (D := D) (ci := 7) (v := .ref (a 3)) (C := RX7) (T := TX7) (N := 4) hx hb htb iX7 hown hK.1 hP 0 rfl rfl 3 (by decide) (htb _ k_351) (fun _ h9 => h9) rfl dX7_becomeNew_31 ?_
        refine lv_iload_n hx hb dX7_becomeNew_34 rfl (lv_at hl 0 rfl) ?_
        refine lv_iconst (v := (-1)) hx hb dX7_becomeNew_35 (by decide) ?_
        refine va_iast hx hb hK.1 hP hD hS 4 0 rfl rfl (g_in rfl (by omega) (by omega)) dX7_becomeNew_36 (fun H locs hP hD hS => ?_)
        have hP : va_P D vwCl [(h0, .inr (7, [.ref (a 0), .ref (a 1), .ref (a 2), .ref (a 3)])), ((a 0), .inl (E 0, 400, .inl (upd gf2_0 (ix : Int32).toNatClampNeg 0))), ((a 1), .inl (E 0, 400, .inl (upd gf2_1 (ix : Int32).toNatClampNeg (-1)))), ((a 2), .inl (E 0, 400, .inl (upd gf2_2 (ix : Int32).toNatClampNeg 0))), ((a 3), .inl (E 0, 400, .inl (upd gf2_3 (ix : Int32).toNatClampNeg (-1))))] H := hP
        have hD : va_D A [(h0, .inr (7, [.ref (a 0), .ref (a 1), .ref (a 2), .ref (a 3)])), ((a 0), .inl (E 0, 400, .inl (upd gf2_0 (ix : Int32).toNatClampNeg 0))), ((a 1), .inl (E 0, 400, .inl (upd gf2_1 (ix : Int32).toNatClampNeg (-1)))), ((a 2), .inl (E 0, 400, .inl (upd gf2_2 (ix : Int32).toNatClampNeg 0))), ((a 3), .inl (E 0, 400, .inl (upd gf2_3 (ix : Int32).toNatClampNeg (-1))))] := hD
        obtain ⟨z_5, ez_5⟩ : ∃ y : Int32, y = ix + 1 := ⟨_, rfl⟩
        have jz_5 : z_5.toInt = ix.toInt + 1 := by rw [ez_5]; exact g_add rfl t_1 (by omega) (by omega)
        refine lv_iinc (v := z_5) (lv' := [(1, .int z_5), (0, .ref h0)]) hx hb dX7_becomeNew_37 hl (k := 0) rfl (by rw [ez_5]; rfl) (by decide) rfl (fun ls hl => ?_)
        refine lv_goto (tgt := 2) hx hb dX7_becomeNew_40 (by decide) ?_
        exact ih_1 z_5 (upd gf2_0 (ix : Int32).toNatClampNeg 0) (upd gf2_1 (ix : Int32).toNatClampNeg (-1)) (upd gf2_2 (ix : Int32).toNatClampNeg 0) (upd gf2_3 (ix : Int32).toNatClampNeg (-1)) _ _ _ (by omega) (by omega) (by omega) hP hD hS (lv_sub hl [0, 1] rfl)
  exact loop_3 401 0 f0 f1 f2 f3 _ _ _ (by have h0 := t_0; omega) (by have h0 := t_0; omega) (by have h0 := t_0; omega) hP hD hS (lv_sub hl [0, 1] rfl)
set_option maxHeartbeats 4000000 in
set_option maxRecDepth 100000 in
theorem c_X8_bringWatch (l : Launch) (D : va_G) (E : Nat → Nat) (h0 : Nat) (a : Nat → Nat) (p0 : Int32) (sz : Nat)  : Met l yX8_bringWatch (wl yX8_bringWatch cX8_bringWatch 2 none) (RM 2 5 1604) (mu_P D E [.ref h0, .int p0] [(h0, .inr (8, xF a 0)), ((a 3), .inl (E 3, 16, .inr (.inr (.inr (.inr (fun _ => none))))))] sz) (va_Qv (fun (u : Unit) => True) (mu_B D (va_A [(h0, .inr (8, xF a 0)), ((a 3), .inl (E 3, 16, .inr (.inr (.inr (.inr (fun _ => none))))))] sz) (fun (u : Unit) => ([] : va_W))) (va_A [(h0, .inr (8, xF a 0)), ((a 3), .inl (E 3, 16, .inr (.inr (.inr (.inr (fun _ => none))))))] sz)) 5 1604 (va_A [(h0, .inr (8, xF a 0)), ((a 3), .inl (E 3, 16, .inr (.inr (.inr (.inr (fun _ => none))))))] sz) := by
  refine Met.ofW (cc := cX8_bringWatch) (maxL := 2) (ret := none) (by decide) rfl ?_
  intro p e s m args below meth c s₁ B hml hv
  obtain ⟨rfl, hsz, hP, hK, hD0⟩ := hv
  have hx := B.exec
  have hb := B.bytes
  have hr := B.returns
  have hts := atoms_spec (ws := wl yX8_bringWatch cX8_bringWatch 2 none) B.pre
  have htb : ∀ w ∈ tb, w.before _ s = true := fun w h => hts w (List.mem_cons_of_mem _ h)
  have hown : s.vm.findClass RX8 = some m.cls := findClass_of_methodNamed B.named
  have hlocks := B.notSynchronized
  subst hsz
  have hD := hD0.self (sz := s.heap.size)
  generalize hAe : va_A [(h0, .inr (8, xF a 0)), ((a 3), .inl (E 3, 16, .inr (.inr (.inr (.inr (fun _ => none))))))] s.heap.size = A at hD ⊢
  have hA : ∀ q : Nat, s.heap.size ≤ q → A q := fun q h => by rw [← hAe]; exact Or.inr h
  have hS : va_S A s.heap s.heap [] := va_S.rf
  have hP : va_P D vwCl [(h0, .inr (8, xF a 0)), ((a 3), .inl (E 3, 16, .inr (.inr (.inr (.inr (fun _ => none))))))] s.heap := hP
  have hl := lv_entry ([.ref h0, .int p0]) (n := 2) (Nat.le_of_ble_eq_true rfl)
  rw [lg_entry_eq]
  generalize (lg_sl ([.ref h0, .int p0]) ++ List.replicate (2 - (lg_sl ([.ref h0, .int p0])).length) Slot.unset).toArray = ls at hl ⊢
  have hl : lv_has ls 2 [(0, .ref h0), (1, .int p0)] := hl
  have lo_p0 := i_lo p0
  have hi_p0 := i_hi p0
  refine lv_iload_n hx hb dX8_bringWatch_0 rfl (lv_at hl 1 rfl) ?_
  refine callRS (rest := []) (As := [.int p0]) hx hb hml hown htb hK (c_X8_isPlace l D E p0 ) ok_X8_isPlace k_333 k_334 k_1 k_335 ⟨(Nat.le_of_ble_eq_true rfl), (Nat.le_of_ble_eq_true rfl)⟩ ⟨(Nat.le_of_ble_eq_true rfl), (Nat.le_of_ble_eq_true rfl)⟩ hl.1 (Nat.le_of_ble_eq_true rfl) rfl rfl dX8_bringWatch_1 (hP.sub (ws' := ([] : va_W)) [] rfl) (fun r_2 hw_1 => ?_)
  rcases hw_1 with ⟨hr_2, hw_1⟩ | ⟨hr_2, hw_1⟩
  ·
    refine W_top (y := .int 1) (by rw [hr_2]) ?_
    refine lv_if_ne (tgt := 8) hx hb dX8_bringWatch_4 (by decide) (fun c_3 => ?_) (fun c_3 => absurd c_3 (by decide))
    refine lv_aload_n hx hb dX8_bringWatch_8 rfl (lv_at hl 0 rfl) ?_
    refine va_get (D := D) (ci := 8) (v := .ref (a 3)) (C := RX8) (T := TX8) (N := 14) hx hb htb iX8 hown hK.1 hP 0 rfl rfl 3 (by decide) (htb _ k_275) (fun _ h9 => h9) rfl dX8_bringWatch_9 ?_
    refine lv_iload_n hx hb dX8_bringWatch_12 rfl (lv_at hl 1 rfl) ?_
    refine va_aldq hx hb hK.1 hP 1 3 rfl rfl (g_in rfl (by omega) (by omega)) dX8_bringWatch_13 ?_
    refine W_top (y := .null) rfl ?_
    refine lv_ifnonnullN hx hb dX8_bringWatch_14 ?_
    refine lv_aload_n hx hb dX8_bringWatch_17 rfl (lv_at hl 0 rfl) ?_
    refine va_get (D := D) (ci := 8) (v := .ref (a 3)) (C := RX8) (T := TX8) (N := 14) hx hb htb iX8 hown hK.1 hP 0 rfl rfl 3 (by decide) (htb _ k_275) (fun _ h9 => h9) rfl dX8_bringWatch_18 ?_
    refine lv_iload_n hx hb dX8_bringWatch_21 rfl (lv_at hl 1 rfl) ?_
    refine va_new (ci := 7) (fs := [.null, .null, .null, .null]) (C := RX7) (T := TX7) (N := 4) hx hb htb iX7 tyX7 tyX7_ok hown (htb _ k_24) (htb _ k_343) (htb _ k_10) hK.1 hP hD hS hA rfl (by decide) (Nat.le_of_ble_eq_true rfl) (Nat.le_of_ble_eq_true rfl) dX8_bringWatch_22 (fun q_4 H hP hD hS => ?_)
    have hP : va_P D vwCl [(h0, .inr (8, xF a 0)), ((a 3), .inl (E 3, 16, .inr (.inr (.inr (.inr (fun _ => none)))))), (q_4, .inr (7, [.null, .null, .null, .null]))] H := hP
    have hD : va_D A [(h0, .inr (8, xF a 0)), ((a 3), .inl (E 3, 16, .inr (.inr (.inr (.inr (fun _ => none)))))), (q_4, .inr (7, [.null, .null, .null, .null]))] := hD
    refine W.widen (k := 1) (n := 4) (Nat.le_of_ble_eq_true rfl) (Nat.le_of_ble_eq_true rfl) ?_
    refine lv_dup hx hb dX8_bringWatch_25 rfl ?_
    have hPc := hP.sub (ws' := [(q_4, .inr (7, [.null, .null, .null, .null]))]) [2] rfl
    have hDc := hD.sub (ws' := [(q_4, .inr (7, [.null, .null, .null, .null]))]) [2] (by decide) rfl
    refine aft_v (runMN (rest := [.ref q_4, .int p0, .ref (a 3)]) (As := []) hx hb hml hown htb hK (c_X7_init l D E q_4 _ ) ok_X7_init rfl (show Cond.methodLinkNest RX8 301 yX7_init RX8 ∈ nestW by decide +kernel) k_345 k_10 k_346 ⟨(Nat.le_of_ble_eq_true rfl), (Nat.le_of_ble_eq_true rfl)⟩ ⟨(Nat.le_of_ble_eq_true rfl), (Nat.le_of_ble_eq_true rfl)⟩ hl.1 (Nat.le_of_ble_eq_true rfl) rfl rfl dX8_bringWatch_26 hPc hDc) hP hD hS hA [2] [0, 1] (wr := [(h0, .inr (8, xF a 0)), ((a 3), .inl (E 3, 16, .inr (.inr (.inr (.inr (fun _ => none))))))]) rfl rfl (by decide) (by decide) (fun u_5 H locs hw_6 hP hD hS => ?_)
    clear hPc hDc
    have hP : va_P D vwCl [(h0, .inr (8, xF a 0)), ((a 3), .inl (E 3, 16, .inr (.inr (.inr (.inr (fun _ => none)))))), (q_4, .inr (7, [.ref (u_5 0), .ref (u_5 1), .ref (u_5 2), .ref (u_5 3)])), ((u_5 0), .inl (E 0, 400, .inl (fun _ => 0))), ((u_5 1), .inl (E 0, 400, .inl (fun _ => 0))), ((u_5 2), .inl (E 0, 400, .inl (fun _ => 0))), ((u_5 3), .inl (E 0, 400, .inl (fun _ => 0)))] H := hP
    have hD : va_D A [(h0, .inr (8, xF a 0)), ((a 3), .inl (E 3, 16, .inr (.inr (.inr (.inr (fun _ => none)))))), (q_4, .inr (7, [.ref (u_5 0), .ref (u_5 1), .ref (u_5 2), .ref (u_5 3)])), ((u_5 0), .inl (E 0, 400, .inl (fun _ => 0))), ((u_5 1), .inl (E 0, 400, .inl (fun _ => 0))), ((u_5 2), .inl (E 0, 400, .inl (fun _ => 0))), ((u_5 3), .inl (E 0, 400, .inl (fun _ => 0)))] := hD
    refine W.widen (k := 5) (n := 1604) (Nat.le_of_ble_eq_true rfl) (Nat.le_of_ble_eq_true rfl) ?_
    refine va_astq hx hb hK.1 hP hD hS 1 3 2 7 rfl rfl rfl rfl (g_in rfl (by omega) (by omega)) dX8_bringWatch_29 (fun H locs hP hD hS => ?_)
    have hP : va_P D vwCl [(h0, .inr (8, xF a 0)), ((a 3), .inl (E 3, 16, .inr (.inr (.inr (.inr (va_up (fun _ => none) (p0 : Int32).toNatClampNeg (some q_4))))))), (q_4, .inr (7, [.ref (u_5 0), .ref (u_5 1), .ref (u_5 2), .ref (u_5 3)])), ((u_5 0), .inl (E 0, 400, .inl (fun _ => 0))), ((u_5 1), .inl (E 0, 400, .inl (fun _ => 0))), ((u_5 2), .inl (E 0, 400, .inl (fun _ => 0))), ((u_5 3), .inl (E 0, 400, .inl (fun _ => 0)))] H := hP
    have hD : va_D A [(h0, .inr (8, xF a 0)), ((a 3), .inl (E 3, 16, .inr (.inr (.inr (.inr (va_up (fun _ => none) (p0 : Int32).toNatClampNeg (some q_4))))))), (q_4, .inr (7, [.ref (u_5 0), .ref (u_5 1), .ref (u_5 2), .ref (u_5 3)])), ((u_5 0), .inl (E 0, 400, .inl (fun _ => 0))), ((u_5 1), .inl (E 0, 400, .inl (fun _ => 0))), ((u_5 2), .inl (E 0, 400, .inl (fun _ => 0))), ((u_5 3), .inl (E 0, 400, .inl (fun _ => 0)))] := hD
    refine lv_aload_n hx hb dX8_bringWatch_30 rfl (lv_at hl 0 rfl) ?_
    refine va_get (D := D) (ci := 8) (v := .ref (a 3)) (C := RX8) (T := TX8) (N := 14) hx hb htb iX8 hown hK.1 hP 0 rfl rfl 3 (by decide) (htb _ k_275) (fun _ h9 => h9) rfl dX8_bringWatch_31 ?_
    refine lv_iload_n hx hb dX8_bringWatch_34 rfl (lv_at hl 1 rfl) ?_
    refine va_aldq hx hb hK.1 hP 1 3 rfl rfl (g_in rfl (by omega) (by omega)) dX8_bringWatch_35 ?_
    refine W_top (y := .ref q_4) (by simp [va_up, va_rf]) ?_
    have hPc := hP.sub (ws' := [(q_4, .inr (7, [.ref (u_5 0), .ref (u_5 1), .ref (u_5 2), .ref (u_5 3)])), ((u_5 0), .inl (E 0, 400, .inl (fun _ => 0))), ((u_5 1), .inl (E 0, 400, .inl (fun _ => 0))), ((u_5 2), .inl (E 0, 400, .inl (fun _ => 0))), ((u_5 3), .inl (E 0, 400, .inl (fun _ => 0)))]) [2, 3, 4, 5, 6] rfl
    have hDc := hD.sub (ws' := [(q_4, .inr (7, [.ref (u_5 0), .ref (u_5 1), .ref (u_5 2), .ref (u_5 3)])), ((u_5 0), .inl (E 0, 400, .inl (fun _ => 0))), ((u_5 1), .inl (E 0, 400, .inl (fun _ => 0))), ((u_5 2), .inl (E 0, 400, .inl (fun _ => 0))), ((u_5 3), .inl (E 0, 400, .inl (fun _ => 0)))]) [2, 3, 4, 5, 6] (by decide) rfl
    refine aft_v (runMV (rest := []) (As := []) hx hb hml hown htb hK (c_X7_becomeNew l D E q_4 u_5 (fun _ => 0) (fun _ => 0) (fun _ => 0) (fun _ => 0) _ ) ok_X7_becomeNew k_361 k_362 k_363 k_10 k_364 ⟨(Nat.le_of_ble_eq_true rfl), (Nat.le_of_ble_eq_true rfl)⟩ ⟨(Nat.le_of_ble_eq_true rfl), (Nat.le_of_ble_eq_true rfl)⟩ hl.1 (Nat.le_of_ble_eq_true rfl) rfl rfl dX8_bringWatch_36 hPc hDc rfl rfl 0 rfl) hP hD hS hA [2, 3, 4, 5, 6] [0, 1] (wr := [(h0, .inr (8, xF a 0)), ((a 3), .inl (E 3, 16, .inr (.inr (.inr (.inr (va_up (fun _ => none) (p0 : Int32).toNatClampNeg (some q_4)))))))]) rfl rfl (by decide) (by decide) (fun u_8 H locs hw_9 hP hD hS => ?_)
    clear hPc hDc
    have hP : va_P D vwCl [(h0, .inr (8, xF a 0)), ((a 3), .inl (E 3, 16, .inr (.inr (.inr (.inr (va_up (fun _ => none) (p0 : Int32).toNatClampNeg (some q_4)))))))] H := hP
    have hD : va_D A [(h0, .inr (8, xF a 0)), ((a 3), .inl (E 3, 16, .inr (.inr (.inr (.inr (va_up (fun _ => none) (p0 : Int32).toNatClampNeg (some q_4)))))))] := hD
    have hP9 := hP.sub (ws' := ([] : va_W)) [] rfl
    have hD9 := hD.sub (ws' := ([] : va_W)) [] (by decide) rfl
    exact W.vret hx hb hr (fun t ht hW => ⟨⟨(), rfl, trivial, by rw [ht]; exact hP9, hD9⟩, hS.F ht⟩) hS.2.2 dX8_bringWatch_39
  ·
    refine W_top (y := .int 0) (by rw [hr_2]) ?_
    refine lv_if_ne (tgt := 8) hx hb dX8_bringWatch_4 (by decide) (fun c_11 => absurd (by decide) c_11) (fun c_11 => ?_)
    refine W.widen (k := 5) (n := 1604) (Nat.le_of_ble_eq_true rfl) (Nat.le_of_ble_eq_true rfl) ?_
    have hP9 := hP.sub (ws' := ([] : va_W)) [] rfl
    have hD9 := hD.sub (ws' := ([] : va_W)) [] (by decide) rfl
    exact W.vret hx hb hr (fun t ht hW => ⟨⟨(), rfl, trivial, by rw [ht]; exact hP9, hD9⟩, hS.F ht⟩) hS.2.2 dX8_bringWatch_7
set_option maxHeartbeats 4000000 in
set_option maxRecDepth 100000 in
theorem c_X8_put (l : Launch) (D : va_G) (E : Nat → Nat) (h0 : Nat) (a : Nat → Nat) (p0 : Int32) (p1 : Int32) (p2 : Int32) (sz : Nat)  : Met l yX8_put (wl yX8_put cX8_put 4 (some .int)) (RM 3 5 1604) (mu_P D E [.ref h0, .int p0, .int p1, .int p2] [(h0, .inr (8, xF a 0)), ((a 1), .inl (E 0, 16, .inl (fun _ => -5))), ((a 2), .inl (E 0, 16, .inl (fun _ => 0))), ((a 3), .inl (E 3, 16, .inr (.inr (.inr (.inr (fun _ => none))))))] sz) (va_Qi (fun (r : Int32) (u : Unit) => (r = 1 ∧ ((0 ≤ p0.toInt ∧ p0.toInt ≤ 15) ∧ ((p1.toInt = 0 ∧ p2.toInt = 0) ∨ (p1.toInt = 1 ∧ -50 ≤ p2.toInt ∧ p2.toInt ≤ 50) ∨ p1.toInt = 2))) ∨ (r = (-1) ∧ ¬ ((0 ≤ p0.toInt ∧ p0.toInt ≤ 15) ∧ ((p1.toInt = 0 ∧ p2.toInt = 0) ∨ (p1.toInt = 1 ∧ -50 ≤ p2.toInt ∧ p2.toInt ≤ 50) ∨ p1.toInt = 2)))) (mu_B D (va_A [(h0, .inr (8, xF a 0)), ((a 1), .inl (E 0, 16, .inl (fun _ => -5))), ((a 2), .inl (E 0, 16, .inl (fun _ => 0))), ((a 3), .inl (E 3, 16, .inr (.inr (.inr (.inr (fun _ => none))))))] sz) (fun (u : Unit) => ([] : va_W))) (va_A [(h0, .inr (8, xF a 0)), ((a 1), .inl (E 0, 16, .inl (fun _ => -5))), ((a 2), .inl (E 0, 16, .inl (fun _ => 0))), ((a 3), .inl (E 3, 16, .inr (.inr (.inr (.inr (fun _ => none))))))] sz)) 5 1604 (va_A [(h0, .inr (8, xF a 0)), ((a 1), .inl (E 0, 16, .inl (fun _ => -5))), ((a 2), .inl (E 0, 16, .inl (fun _ => 0))), ((a 3), .inl (E 3, 16, .inr (.inr (.inr (.inr (fun _ => none))))))] sz) := by
  refine Met.ofW (cc := cX8_put) (maxL := 4) (ret := (some .int)) (by decide) rfl ?_
  intro p e s m args below meth c s₁ B hml hv
  obtain ⟨rfl, hsz, hP, hK, hD0⟩ := hv
  have hx := B.exec
  have hb := B.bytes
  have hr := B.returns
  have hts := atoms_spec (ws := wl yX8_put cX8_put 4 (some .int)) B.pre
  have htb : ∀ w ∈ tb, w.before _ s = true := fun w h => hts w (List.mem_cons_of_mem _ h)
  have hown : s.vm.findClass RX8 = some m.cls := findClass_of_methodNamed B.named
  have hlocks := B.notSynchronized
  subst hsz
  have hD := hD0.self (sz := s.heap.size)
  generalize hAe : va_A [(h0, .inr (8, xF a 0)), ((a 1), .inl (E 0, 16, .inl (fun _ => -5))), ((a 2), .inl (E 0, 16, .inl (fun _ => 0))), ((a 3), .inl (E 3, 16, .inr (.inr (.inr (.inr (fun _ => none))))))] s.heap.size = A at hD ⊢
  have hA : ∀ q : Nat, s.heap.size ≤ q → A q := fun q h => by rw [← hAe]; exact Or.inr h
  have hS : va_S A s.heap s.heap [] := va_S.rf
  have hP : va_P D vwCl [(h0, .inr (8, xF a 0)), ((a 1), .inl (E 0, 16, .inl (fun _ => -5))), ((a 2), .inl (E 0, 16, .inl (fun _ => 0))), ((a 3), .inl (E 3, 16, .inr (.inr (.inr (.inr (fun _ => none))))))] s.heap := hP
  have hl := lv_entry ([.ref h0, .int p0, .int p1, .int p2]) (n := 4) (Nat.le_of_ble_eq_true rfl)
  rw [lg_entry_eq]
  generalize (lg_sl ([.ref h0, .int p0, .int p1, .int p2]) ++ List.replicate (4 - (lg_sl ([.ref h0, .int p0, .int p1, .int p2])).length) Slot.unset).toArray = ls at hl ⊢
  have hl : lv_has ls 4 [(0, .ref h0), (1, .int p0), (2, .int p1), (3, .int p2)] := hl
  have lo_p0 := i_lo p0
  have hi_p0 := i_hi p0
  have lo_p1 := i_lo p1
  have hi_p1 := i_hi p1
  have lo_p2 := i_lo p2
  have hi_p2 := i_hi p2
  refine lv_iload_n hx hb dX8_put_0 rfl (lv_at hl 1 rfl) ?_
  refine callRS (rest := []) (As := [.int p0]) hx hb hml hown htb hK (c_X8_isPlace l D E p0 ) ok_X8_isPlace k_333 k_334 k_1 k_335 ⟨(Nat.le_of_ble_eq_true rfl), (Nat.le_of_ble_eq_true rfl)⟩ ⟨(Nat.le_of_ble_eq_true rfl), (Nat.le_of_ble_eq_true rfl)⟩ hl.1 (Nat.le_of_ble_eq_true rfl) rfl rfl dX8_put_1 (hP.sub (ws' := ([] : va_W)) [] rfl) (fun r_2 hw_1 => ?_)
  rcases hw_1 with ⟨hr_2, hw_1⟩ | ⟨hr_2, hw_1⟩
  ·
    refine W_top (y := .int 1) (by rw [hr_2]) ?_
    refine lv_if_eq (tgt := 15) hx hb dX8_put_4 (by decide) (fun c_3 => absurd c_3 (by decide)) (fun c_3 => ?_)
    refine lv_iload_n hx hb dX8_put_7 rfl (lv_at hl 2 rfl) ?_
    refine lv_iload_n hx hb dX8_put_8 rfl (lv_at hl 3 rfl) ?_
    refine callRS (rest := []) (As := [.int p1, .int p2]) hx hb hml hown htb hK (c_X8_fitsKind l D E p1 p2 ) ok_X8_fitsKind k_336 k_337 k_1 k_338 ⟨(Nat.le_of_ble_eq_true rfl), (Nat.le_of_ble_eq_true rfl)⟩ ⟨(Nat.le_of_ble_eq_true rfl), (Nat.le_of_ble_eq_true rfl)⟩ hl.1 (Nat.le_of_ble_eq_true rfl) rfl rfl dX8_put_9 (hP.sub (ws' := ([] : va_W)) [] rfl) (fun r_5 hw_4 => ?_)
    rcases hw_4 with ⟨hr_5, hw_4⟩ | ⟨hr_5, hw_4⟩
    ·
      refine W_top (y := .int 1) (by rw [hr_5]) ?_
      refine lv_if_ne (tgt := 17) hx hb dX8_put_12 (by decide) (fun c_6 => ?_) (fun c_6 => absurd c_6 (by decide))
      refine lv_aload_n hx hb dX8_put_17 rfl (lv_at hl 0 rfl) ?_
      refine va_get (D := D) (ci := 8) (v := .ref (a 1)) (C := RX8) (T := TX8) (N := 14) hx hb htb iX8 hown hK.1 hP 0 rfl rfl 1 (by decide) (htb _ k_273) (fun _ h9 => h9) rfl dX8_put_18 ?_
      refine lv_iload_n hx hb dX8_put_21 rfl (lv_at hl 1 rfl) ?_
      refine va_iald hx hb hK.1 hP 1 0 rfl rfl (g_in rfl (by omega) (by omega)) dX8_put_22 ?_
      refine W_top (y := .int (-5)) rfl ?_
      refine lv_bipush (v := (-5)) hx hb dX8_put_23 (by decide) ?_
      refine lv_icmp_eq (tgt := 31) hx hb dX8_put_25 (by decide) (fun c_7 => ?_) (fun c_7 => absurd (by decide) c_7)
      refine lv_aload_n hx hb dX8_put_31 rfl (lv_at hl 0 rfl) ?_
      refine va_get (D := D) (ci := 8) (v := .ref (a 1)) (C := RX8) (T := TX8) (N := 14) hx hb htb iX8 hown hK.1 hP 0 rfl rfl 1 (by decide) (htb _ k_273) (fun _ h9 => h9) rfl dX8_put_32 ?_
      refine lv_iload_n hx hb dX8_put_35 rfl (lv_at hl 1 rfl) ?_
      refine lv_iload_n hx hb dX8_put_36 rfl (lv_at hl 2 rfl) ?_
      refine va_iast hx hb hK.1 hP hD hS 1 0 rfl rfl (g_in rfl (by omega) (by omega)) dX8_put_37 (fun H locs hP hD hS => ?_)
      have hP : va_P D vwCl [(h0, .inr (8, xF a 0)), ((a 1), .inl (E 0, 16, .inl (upd (fun _ => -5) (p0 : Int32).toNatClampNeg p1))), ((a 2), .inl (E 0, 16, .inl (fun _ => 0))), ((a 3), .inl (E 3, 16, .inr (.inr (.inr (.inr (fun _ => none))))))] H := hP
      have hD : va_D A [(h0, .inr (8, xF a 0)), ((a 1), .inl (E 0, 16, .inl (upd (fun _ => -5) (p0 : Int32).toNatClampNeg p1))), ((a 2), .inl (E 0, 16, .inl (fun _ => 0))), ((a 3), .inl (E 3, 16, .inr (.inr (.inr (.inr (fun _ => none))))))] := hD
      refine lv_aload_n hx hb dX8_put_38 rfl (lv_at hl 0 rfl) ?_
      refine va_get (D := D) (ci := 8) (v := .ref (a 2)) (C := RX8) (T := TX8) (N := 14) hx hb htb iX8 hown hK.1 hP 0 rfl rfl 2 (by decide) (htb _ k_274) (fun _ h9 => h9) rfl dX8_put_39 ?_
      refine lv_iload_n hx hb dX8_put_42 rfl (lv_at hl 1 rfl) ?_
      refine lv_iload_n hx hb dX8_put_43 rfl (lv_at hl 3 rfl) ?_
      refine va_iast hx hb hK.1 hP hD hS 2 0 rfl rfl (g_in rfl (by omega) (by omega)) dX8_put_44 (fun H locs hP hD hS => ?_)
      have hP : va_P D vwCl [(h0, .inr (8, xF a 0)), ((a 1), .inl (E 0, 16, .inl (upd (fun _ => -5) (p0 : Int32).toNatClampNeg p1))), ((a 2), .inl (E 0, 16, .inl (upd (fun _ => 0) (p0 : Int32).toNatClampNeg p2))), ((a 3), .inl (E 3, 16, .inr (.inr (.inr (.inr (fun _ => none))))))] H := hP
      have hD : va_D A [(h0, .inr (8, xF a 0)), ((a 1), .inl (E 0, 16, .inl (upd (fun _ => -5) (p0 : Int32).toNatClampNeg p1))), ((a 2), .inl (E 0, 16, .inl (upd (fun _ => 0) (p0 : Int32).toNatClampNeg p2))), ((a 3), .inl (E 3, 16, .inr (.inr (.inr (.inr (fun _ => none))))))] := hD
      refine lv_iload_n hx hb dX8_put_45 rfl (lv_at hl 2 rfl) ?_
      refine lv_iconst (v := 2) hx hb dX8_put_46 (by decide) ?_
      refine lv_icmp_eq (tgt := 55) hx hb dX8_put_47 (by decide) (fun c_8 => ?_) (fun c_8 => ?_)
      ·
        have ic_8 : p1.toInt = 2 := (g_eq rfl t_2).mp c_8
        refine lv_iconst (v := 1) hx hb dX8_put_55 (by decide) ?_
        refine W.widen (k := 5) (n := 1604) (Nat.le_of_ble_eq_true rfl) (Nat.le_of_ble_eq_true rfl) ?_
        have hP9 := hP.sub (ws' := ([] : va_W)) [] rfl
        have hD9 := hD.sub (ws' := ([] : va_W)) [] (by decide) rfl
        exact W.iret (v := 1) hx hb hr (fun t ht hW => ⟨⟨1, (), rfl, by first | exact Or.inl ⟨rfl, by omega⟩ | (exfalso; omega), by rw [ht]; exact hP9, hD9⟩, hS.F ht⟩) hS.2.2 dX8_put_56
      ·
        have ic_8 : p1.toInt ≠ 2 := mt (g_eq rfl t_2).mpr c_8
        refine lv_aload_n hx hb dX8_put_50 rfl (lv_at hl 0 rfl) ?_
        refine lv_iload_n hx hb dX8_put_51 rfl (lv_at hl 1 rfl) ?_
        have hPc := hP.sub (ws' := [(h0, .inr (8, xF a 0)), ((a 3), .inl (E 3, 16, .inr (.inr (.inr (.inr (fun _ => none))))))]) [0, 3] rfl
        have hDc := hD.sub (ws' := [(h0, .inr (8, xF a 0)), ((a 3), .inl (E 3, 16, .inr (.inr (.inr (.inr (fun _ => none))))))]) [0, 3] (by decide) rfl
        refine aft_v (runMV (rest := []) (As := [.int p0]) hx hb hml hown htb hK (c_X8_bringWatch l D E h0 a p0 _ ) ok_X8_bringWatch k_339 k_341 ks_0 k_1 k_342 ⟨(Nat.le_of_ble_eq_true rfl), (Nat.le_of_ble_eq_true rfl)⟩ ⟨(Nat.le_of_ble_eq_true rfl), (Nat.le_of_ble_eq_true rfl)⟩ hl.1 (Nat.le_of_ble_eq_true rfl) rfl rfl dX8_put_52 hPc hDc rfl rfl 0 rfl) hP hD hS hA [0, 3] [1, 2] (wr := [((a 1), .inl (E 0, 16, .inl (upd (fun _ => -5) (p0 : Int32).toNatClampNeg p1))), ((a 2), .inl (E 0, 16, .inl (upd (fun _ => 0) (p0 : Int32).toNatClampNeg p2)))]) rfl rfl (by decide) (by decide) (fun u_9 H locs hw_10 hP hD hS => ?_)
        clear hPc hDc
        have hP : va_P D vwCl [((a 1), .inl (E 0, 16, .inl (upd (fun _ => -5) (p0 : Int32).toNatClampNeg p1))), ((a 2), .inl (E 0, 16, .inl (upd (fun _ => 0) (p0 : Int32).toNatClampNeg p2)))] H := hP
        have hD : va_D A [((a 1), .inl (E 0, 16, .inl (upd (fun _ => -5) (p0 : Int32).toNatClampNeg p1))), ((a 2), .inl (E 0, 16, .inl (upd (fun _ => 0) (p0 : Int32).toNatClampNeg p2)))] := hD
        refine W.widen (k := 5) (n := 1604) (Nat.le_of_ble_eq_true rfl) (Nat.le_of_ble_eq_true rfl) ?_
        refine lv_iconst (v := 1) hx hb dX8_put_55 (by decide) ?_
        have hP9 := hP.sub (ws' := ([] : va_W)) [] rfl
        have hD9 := hD.sub (ws' := ([] : va_W)) [] (by decide) rfl
        exact W.iret (v := 1) hx hb hr (fun t ht hW => ⟨⟨1, (), rfl, by first | exact Or.inl ⟨rfl, by omega⟩ | (exfalso; omega), by rw [ht]; exact hP9, hD9⟩, hS.F ht⟩) hS.2.2 dX8_put_56
    ·
      refine W_top (y := .int 0) (by rw [hr_5]) ?_
      refine lv_if_ne (tgt := 17) hx hb dX8_put_12 (by decide) (fun c_12 => absurd (by decide) c_12) (fun c_12 => ?_)
      refine lv_iconst (v := (-1)) hx hb dX8_put_15 (by decide) ?_
      refine W.widen (k := 5) (n := 1604) (Nat.le_of_ble_eq_true rfl) (Nat.le_of_ble_eq_true rfl) ?_
      have hP9 := hP.sub (ws' := ([] : va_W)) [] rfl
      have hD9 := hD.sub (ws' := ([] : va_W)) [] (by decide) rfl
      exact W.iret (v := (-1)) hx hb hr (fun t ht hW => ⟨⟨(-1), (), rfl, by first | exact Or.inr ⟨rfl, by omega⟩ | (exfalso; omega), by rw [ht]; exact hP9, hD9⟩, hS.F ht⟩) hS.2.2 dX8_put_16
  ·
    refine W_top (y := .int 0) (by rw [hr_2]) ?_
    refine lv_if_eq (tgt := 15) hx hb dX8_put_4 (by decide) (fun c_13 => ?_) (fun c_13 => absurd (by decide) c_13)
    refine lv_iconst (v := (-1)) hx hb dX8_put_15 (by decide) ?_
    refine W.widen (k := 5) (n := 1604) (Nat.le_of_ble_eq_true rfl) (Nat.le_of_ble_eq_true rfl) ?_
    have hP9 := hP.sub (ws' := ([] : va_W)) [] rfl
    have hD9 := hD.sub (ws' := ([] : va_W)) [] (by decide) rfl
    exact W.iret (v := (-1)) hx hb hr (fun t ht hW => ⟨⟨(-1), (), rfl, by first | exact Or.inr ⟨rfl, by omega⟩ | (exfalso; omega), by rw [ht]; exact hP9, hD9⟩, hS.F ht⟩) hS.2.2 dX8_put_16
