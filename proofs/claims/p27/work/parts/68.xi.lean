set_option maxHeartbeats 4000000 in
set_option maxRecDepth 100000 in
theorem g_X8_carried_T (l : Launch) (D : va_G) (E : Nat → Nat) (xh : Nat) (xa : Nat → Nat) (xtrialRule : Nat) (xdropRule : Nat) (xtoday : Int32) (xf4 : Nat → Option Nat) (p0 : Int32) (p1 : Int32) (p2 : Int32) (hi_x : (0 ≤ xtoday.toInt ∧ xtoday.toInt ≤ 399)) (ht0 : ¬ (0 ≤ p0.toInt ∧ p0.toInt ≤ 4)) : Met l yX8_carried (wl yX8_carried cX8_carried 5 (some .int)) (RM 1 0 0) (rd_P D E [.ref xh, .int p0, .int p1, .int p2] [(xh, .inr (8, G8 xa xtrialRule xdropRule xtoday)), ((xa 4), .inl (E 4, 5, .inr (.inr (.inr (.inr xf4)))))]) (rd_Q (fun r => ((r.toInt = -2000000000)))) 0 0 (fun _ => False) := by
  refine Met.ofW (cc := cX8_carried) (maxL := 5) (ret := (some .int)) (by decide) rfl ?_
  intro p e s m args below meth c s₁ B hml hv
  obtain ⟨rfl, hP, hK⟩ := hv
  have hx := B.exec; have hb := B.bytes; have hr := B.returns
  have hts := atoms_spec (ws := wl yX8_carried cX8_carried 5 (some .int)) B.pre
  have htb : ∀ w ∈ tb, w.before _ s = true := fun w h => hts w (List.mem_cons_of_mem _ h)
  have hown : s.vm.findClass RX8 = some m.cls := findClass_of_methodNamed B.named
  have hlocks := B.notSynchronized
  have hP : va_P D vwCl [(xh, .inr (8, G8 xa xtrialRule xdropRule xtoday)), ((xa 4), .inl (E 4, 5, .inr (.inr (.inr (.inr xf4)))))] s.heap := hP
  have hl := lv_entry ([.ref xh, .int p0, .int p1, .int p2]) (n := 5) (Nat.le_of_ble_eq_true rfl)
  rw [lg_entry_eq]
  generalize (lg_sl ([.ref xh, .int p0, .int p1, .int p2]) ++ List.replicate (5 - (lg_sl ([.ref xh, .int p0, .int p1, .int p2])).length) Slot.unset).toArray = ls at hl ⊢
  have hl : lv_has ls 5 [(0, .ref xh), (1, .int p0), (2, .int p1), (3, .int p2)] := hl
  have lo_p0 := i_lo p0; have hi_p0 := i_hi p0
  have lo_p1 := i_lo p1; have hi_p1 := i_hi p1
  have lo_p2 := i_lo p2; have hi_p2 := i_hi p2
  refine lv_iload_n hx hb dX8_carried_0 rfl (lv_at hl 1 rfl) ?_
  refine callRS (rest := []) (As := [.int p0]) hx hb hml hown htb hK (g_X8_isShip l D E p0 ) ok_X8_isShip k_773 k_774 k_1 k_775 ⟨(Nat.le_of_ble_eq_true rfl), (Nat.le_of_ble_eq_true rfl)⟩ ⟨(Nat.le_of_ble_eq_true rfl), (Nat.le_of_ble_eq_true rfl)⟩ hl.1 (Nat.le_of_ble_eq_true rfl) rfl rfl dX8_carried_1 (hP.sub (ws' := ([] : va_W)) [] rfl) (fun r_1 hw_2 => ?_)
  rcases hw_2 with ⟨hr_1, hw_2⟩ | ⟨hr_1, hw_2⟩
  ·
    refine W_top (y := .int 1) (by rw [hr_1]) ?_
    refine lv_if_eq (tgt := 28) hx hb dX8_carried_4 (by decide) (fun c_4 => absurd c_4 (by decide)) (fun c_4 => ?_)
    refine lv_iload_n hx hb dX8_carried_7 rfl (lv_at hl 2 rfl) ?_
    refine lv_if_lt (tgt := 28) hx hb dX8_carried_8 (by decide) (fun c_5 => ?_) (fun c_5 => ?_)
    ·
      have ic_5 : p1.toInt < 0 := by first | exact (g_lt rfl t_0).mp c_5 | (have h := mt (g_le t_0 rfl).mpr c_5; omega)
      clear c_5
      refine lv_ldc hx hb hown (htb _ k_386) dX8_carried_28 ?_
      exact W.iret (v := (-2000000000)) hx hb hr (fun t ht hW => ⟨(-2000000000), rfl, (by have hl0 := t_m2000000000; (try dsimp only); first | exact (by omega)), ht⟩) (fun q h => by cases h) dX8_carried_30
    ·
      have ic_5 : 0 ≤ p1.toInt := by first | exact (g_le t_0 rfl).mp c_5 | (have h := mt (g_lt rfl t_0).mpr c_5; omega)
      clear c_5
      refine lv_iload_n hx hb dX8_carried_11 rfl (lv_at hl 2 rfl) ?_
      refine lv_iconst (v := 3) hx hb dX8_carried_12 (by decide) ?_
      refine lv_icmp_ge (tgt := 28) hx hb dX8_carried_13 (by decide) (fun c_6 => ?_) (fun c_6 => ?_)
      ·
        have ic_6 : 3 ≤ p1.toInt := by first | exact (g_le t_3 rfl).mp c_6 | (have h := mt (g_lt rfl t_3).mpr c_6; omega)
        clear c_6
        refine lv_ldc hx hb hown (htb _ k_386) dX8_carried_28 ?_
        exact W.iret (v := (-2000000000)) hx hb hr (fun t ht hW => ⟨(-2000000000), rfl, (by have hl0 := t_m2000000000; (try dsimp only); first | exact (by omega)), ht⟩) (fun q h => by cases h) dX8_carried_30
      ·
        have ic_6 : p1.toInt < 3 := by first | exact (g_lt rfl t_3).mp c_6 | (have h := mt (g_le t_3 rfl).mpr c_6; omega)
        clear c_6
        refine lv_aload_n hx hb dX8_carried_16 rfl (lv_at hl 0 rfl) ?_
        refine va_get (D := D) (ci := 8) (v := .ref (xa 4)) (C := RX8) (T := TX8) (N := 14) hx hb htb iX8 hown hK.1 hP 0 rfl rfl 4 (by decide) (htb _ k_276) (fun _ h9 => h9) rfl dX8_carried_17 ?_
        refine lv_iload_n hx hb dX8_carried_20 rfl (lv_at hl 1 rfl) ?_
        refine va_aldq hx hb hK.1 hP 1 4 rfl rfl (g_in rfl (by omega) (by omega)) dX8_carried_21 ?_
        exfalso; omega
  ·
    refine W_top (y := .int 0) (by rw [hr_1]) ?_
    refine lv_if_eq (tgt := 28) hx hb dX8_carried_4 (by decide) (fun c_7 => ?_) (fun c_7 => absurd (by decide) c_7)
    refine lv_ldc hx hb hown (htb _ k_386) dX8_carried_28 ?_
    exact W.iret (v := (-2000000000)) hx hb hr (fun t ht hW => ⟨(-2000000000), rfl, (by have hl0 := t_m2000000000; (try dsimp only); first | exact (by omega)), ht⟩) (fun q h => by cases h) dX8_carried_30
set_option maxHeartbeats 4000000 in
set_option maxRecDepth 100000 in
theorem g_X8_carried_S (l : Launch) (D : va_G) (E : Nat → Nat) (xh : Nat) (xa : Nat → Nat) (xtrialRule : Nat) (xdropRule : Nat) (xtoday : Int32) (xf4 : Nat → Option Nat) (yh : Nat) (ya : Nat → Nat) (ysights : Int32) (ystage : Int32) (ysailed : Int32) (yvoyage : Int32) (yf0 : Nat → Int32) (yf1 : Nat → Int32) (yf2 : Nat → Int32) (yf3 : Nat → Int32) (p0 : Int32) (p1 : Int32) (p2 : Int32) (hi_x : (0 ≤ xtoday.toInt ∧ xtoday.toInt ≤ 399)) (hi_y : (0 ≤ ysights.toInt ∧ ysights.toInt ≤ 40)) (hs0 : 0 ≤ p0.toInt ∧ p0.toInt ≤ 4) (hy0 : xf4 (p0).toNatClampNeg = some yh) : Met l yX8_carried (wl yX8_carried cX8_carried 5 (some .int)) (RM 1 0 0) (rd_P D E [.ref xh, .int p0, .int p1, .int p2] [(xh, .inr (8, G8 xa xtrialRule xdropRule xtoday)), ((xa 4), .inl (E 4, 5, .inr (.inr (.inr (.inr xf4))))), (yh, .inr (5, G5 ya ysights ystage ysailed yvoyage)), ((ya 0), .inl (E 0, 3, .inl yf0)), ((ya 1), .inl (E 0, 3, .inl yf1)), ((ya 2), .inl (E 0, 3, .inl yf2)), ((ya 3), .inl (E 0, 3, .inl yf3))]) (rd_Q (fun r => ((((0 ≤ p1.toInt ∧ p1.toInt ≤ 2) ∧ ystage.toInt ≠ 0) ∧ p2.toInt = 0 ∧ r = (yf0 (p1).toNatClampNeg)) ∨ (((0 ≤ p1.toInt ∧ p1.toInt ≤ 2) ∧ ystage.toInt ≠ 0) ∧ p2.toInt = 1 ∧ r = (yf1 (p1).toNatClampNeg)) ∨ (((0 ≤ p1.toInt ∧ p1.toInt ≤ 2) ∧ ystage.toInt ≠ 0) ∧ p2.toInt = 2 ∧ r = (yf2 (p1).toNatClampNeg)) ∨ (((0 ≤ p1.toInt ∧ p1.toInt ≤ 2) ∧ ystage.toInt ≠ 0) ∧ p2.toInt = 3 ∧ r = (yf3 (p1).toNatClampNeg)) ∨ (¬ (((0 ≤ p1.toInt ∧ p1.toInt ≤ 2) ∧ ystage.toInt ≠ 0) ∧ (0 ≤ p2.toInt ∧ p2.toInt ≤ 3)) ∧ r.toInt = -2000000000)))) 0 0 (fun _ => False) := by
  refine Met.ofW (cc := cX8_carried) (maxL := 5) (ret := (some .int)) (by decide) rfl ?_
  intro p e s m args below meth c s₁ B hml hv
  obtain ⟨rfl, hP, hK⟩ := hv
  have hx := B.exec; have hb := B.bytes; have hr := B.returns
  have hts := atoms_spec (ws := wl yX8_carried cX8_carried 5 (some .int)) B.pre
  have htb : ∀ w ∈ tb, w.before _ s = true := fun w h => hts w (List.mem_cons_of_mem _ h)
  have hown : s.vm.findClass RX8 = some m.cls := findClass_of_methodNamed B.named
  have hlocks := B.notSynchronized
  have hP : va_P D vwCl [(xh, .inr (8, G8 xa xtrialRule xdropRule xtoday)), ((xa 4), .inl (E 4, 5, .inr (.inr (.inr (.inr xf4))))), (yh, .inr (5, G5 ya ysights ystage ysailed yvoyage)), ((ya 0), .inl (E 0, 3, .inl yf0)), ((ya 1), .inl (E 0, 3, .inl yf1)), ((ya 2), .inl (E 0, 3, .inl yf2)), ((ya 3), .inl (E 0, 3, .inl yf3))] s.heap := hP
  have hl := lv_entry ([.ref xh, .int p0, .int p1, .int p2]) (n := 5) (Nat.le_of_ble_eq_true rfl)
  rw [lg_entry_eq]
  generalize (lg_sl ([.ref xh, .int p0, .int p1, .int p2]) ++ List.replicate (5 - (lg_sl ([.ref xh, .int p0, .int p1, .int p2])).length) Slot.unset).toArray = ls at hl ⊢
  have hl : lv_has ls 5 [(0, .ref xh), (1, .int p0), (2, .int p1), (3, .int p2)] := hl
  have lo_p0 := i_lo p0; have hi_p0 := i_hi p0
  have lo_p1 := i_lo p1; have hi_p1 := i_hi p1
  have lo_p2 := i_lo p2; have hi_p2 := i_hi p2
  refine lv_iload_n hx hb dX8_carried_0 rfl (lv_at hl 1 rfl) ?_
  refine callRS (rest := []) (As := [.int p0]) hx hb hml hown htb hK (g_X8_isShip l D E p0 ) ok_X8_isShip k_773 k_774 k_1 k_775 ⟨(Nat.le_of_ble_eq_true rfl), (Nat.le_of_ble_eq_true rfl)⟩ ⟨(Nat.le_of_ble_eq_true rfl), (Nat.le_of_ble_eq_true rfl)⟩ hl.1 (Nat.le_of_ble_eq_true rfl) rfl rfl dX8_carried_1 (hP.sub (ws' := ([] : va_W)) [] rfl) (fun r_1 hw_2 => ?_)
  rcases hw_2 with ⟨hr_1, hw_2⟩ | ⟨hr_1, hw_2⟩
  ·
    refine W_top (y := .int 1) (by rw [hr_1]) ?_
    refine lv_if_eq (tgt := 28) hx hb dX8_carried_4 (by decide) (fun c_4 => absurd c_4 (by decide)) (fun c_4 => ?_)
    refine lv_iload_n hx hb dX8_carried_7 rfl (lv_at hl 2 rfl) ?_
    refine lv_if_lt (tgt := 28) hx hb dX8_carried_8 (by decide) (fun c_5 => ?_) (fun c_5 => ?_)
    ·
      have ic_5 : p1.toInt < 0 := by first | exact (g_lt rfl t_0).mp c_5 | (have h := mt (g_le t_0 rfl).mpr c_5; omega)
      clear c_5
      refine lv_ldc hx hb hown (htb _ k_386) dX8_carried_28 ?_
      exact W.iret (v := (-2000000000)) hx hb hr (fun t ht hW => ⟨(-2000000000), rfl, (by have hl0 := t_m2000000000; (try dsimp only); first | exact Or.inl ⟨by omega, by omega, by subst_vars; rfl⟩ | exact Or.inr (Or.inl ⟨by omega, by omega, by subst_vars; rfl⟩) | exact Or.inr (Or.inr (Or.inl ⟨by omega, by omega, by subst_vars; rfl⟩)) | exact Or.inr (Or.inr (Or.inr (Or.inl ⟨by omega, by omega, by subst_vars; rfl⟩))) | exact Or.inr (Or.inr (Or.inr (Or.inr ⟨by omega, by omega⟩)))), ht⟩) (fun q h => by cases h) dX8_carried_30
    ·
      have ic_5 : 0 ≤ p1.toInt := by first | exact (g_le t_0 rfl).mp c_5 | (have h := mt (g_lt rfl t_0).mpr c_5; omega)
      clear c_5
      refine lv_iload_n hx hb dX8_carried_11 rfl (lv_at hl 2 rfl) ?_
      refine lv_iconst (v := 3) hx hb dX8_carried_12 (by decide) ?_
      refine lv_icmp_ge (tgt := 28) hx hb dX8_carried_13 (by decide) (fun c_6 => ?_) (fun c_6 => ?_)
      ·
        have ic_6 : 3 ≤ p1.toInt := by first | exact (g_le t_3 rfl).mp c_6 | (have h := mt (g_lt rfl t_3).mpr c_6; omega)
        clear c_6
        refine lv_ldc hx hb hown (htb _ k_386) dX8_carried_28 ?_
        exact W.iret (v := (-2000000000)) hx hb hr (fun t ht hW => ⟨(-2000000000), rfl, (by have hl0 := t_m2000000000; (try dsimp only); first | exact Or.inl ⟨by omega, by omega, by subst_vars; rfl⟩ | exact Or.inr (Or.inl ⟨by omega, by omega, by subst_vars; rfl⟩) | exact Or.inr (Or.inr (Or.inl ⟨by omega, by omega, by subst_vars; rfl⟩)) | exact Or.inr (Or.inr (Or.inr (Or.inl ⟨by omega, by omega, by subst_vars; rfl⟩))) | exact Or.inr (Or.inr (Or.inr (Or.inr ⟨by omega, by omega⟩)))), ht⟩) (fun q h => by cases h) dX8_carried_30
      ·
        have ic_6 : p1.toInt < 3 := by first | exact (g_lt rfl t_3).mp c_6 | (have h := mt (g_le t_3 rfl).mpr c_6; omega)
        clear c_6
        refine lv_aload_n hx hb dX8_carried_16 rfl (lv_at hl 0 rfl) ?_
        refine va_get (D := D) (ci := 8) (v := .ref (xa 4)) (C := RX8) (T := TX8) (N := 14) hx hb htb iX8 hown hK.1 hP 0 rfl rfl 4 (by decide) (htb _ k_276) (fun _ h9 => h9) rfl dX8_carried_17 ?_
        refine lv_iload_n hx hb dX8_carried_20 rfl (lv_at hl 1 rfl) ?_
        refine va_aldq hx hb hK.1 hP 1 4 rfl rfl (g_in rfl (by omega) (by omega)) dX8_carried_21 ?_
        refine W_top (y := .ref yh) (congrArg va_rf hy0) ?_
        refine va_getN (D := D) (ci := 5) (v := .int ystage) (C := RX5) (T := TX5) (N := 11) hx hb htb iX5 hown hK.1 hP 2 rfl rfl 8 (by decide) (va_Nw.use rfl (hK.2.1 (Cond.fieldLinkNest RX8 208 "SeaWatches$Ship" "stage" "I" "SeaWatches") (by decide +kernel))) (fun _ h9 => h9) rfl dX8_carried_22 ?_
        refine lv_if_ne (tgt := 31) hx hb dX8_carried_25 (by decide) (fun c_7 => ?_) (fun c_7 => ?_)
        ·
          have ic_7 : ystage.toInt ≠ 0 := mt (g_eq rfl t_0).mpr c_7
          clear c_7
          refine lv_aload_n hx hb dX8_carried_31 rfl (lv_at hl 0 rfl) ?_
          refine va_get (D := D) (ci := 8) (v := .ref (xa 4)) (C := RX8) (T := TX8) (N := 14) hx hb htb iX8 hown hK.1 hP 0 rfl rfl 4 (by decide) (htb _ k_276) (fun _ h9 => h9) rfl dX8_carried_32 ?_
          refine lv_iload_n hx hb dX8_carried_35 rfl (lv_at hl 1 rfl) ?_
          refine va_aldq hx hb hK.1 hP 1 4 rfl rfl (g_in rfl (by omega) (by omega)) dX8_carried_36 ?_
          refine W_top (y := .ref yh) (congrArg va_rf hy0) ?_
          refine lv_astore (lv' := [(4, .ref yh), (0, .ref xh), (1, .int p0), (2, .int p1), (3, .int p2)]) hx hb dX8_carried_37 hl (by decide) rfl (fun ls hl => ?_)
          refine lv_iload_n hx hb dX8_carried_39 rfl (lv_at hl 4 rfl) ?_
          by_cases h_8 : p2.toInt < 0 ∨ 3 < p2.toInt
          ·
            refine lv_tableOut (tgt := 104) hx hb dX8_carried_40 h_8 (by decide) ?_
            refine lv_ldc hx hb hown (htb _ k_386) dX8_carried_104 ?_
            exact W.iret (v := (-2000000000)) hx hb hr (fun t ht hW => ⟨(-2000000000), rfl, (by have hl0 := t_m2000000000; (try dsimp only); first | exact Or.inl ⟨by omega, by omega, by subst_vars; rfl⟩ | exact Or.inr (Or.inl ⟨by omega, by omega, by subst_vars; rfl⟩) | exact Or.inr (Or.inr (Or.inl ⟨by omega, by omega, by subst_vars; rfl⟩)) | exact Or.inr (Or.inr (Or.inr (Or.inl ⟨by omega, by omega, by subst_vars; rfl⟩))) | exact Or.inr (Or.inr (Or.inr (Or.inr ⟨by omega, by omega⟩)))), ht⟩) (fun q h => by cases h) dX8_carried_106
          ·
            have h_9 : p2.toInt = 0 ∨ p2.toInt = 1 ∨ p2.toInt = 2 ∨ p2.toInt = 3 := by omega
            rcases h_9 with h_9 | h_9 | h_9 | h_9
            ·
              refine lv_tableIn (off := 32) (tgt := 72) hx hb dX8_carried_40 (by omega) (by omega) (by rw [h_9]; decide) (by decide) ?_
              refine lv_aload hx hb dX8_carried_72 (lv_at hl 0 rfl) ?_
              refine va_getN (D := D) (ci := 5) (v := .ref (ya 0)) (C := RX5) (T := TX5) (N := 11) hx hb htb iX5 hown hK.1 hP 2 rfl rfl 0 (by decide) (va_Nw.use rfl (hK.2.1 (Cond.fieldLinkNest RX8 220 "SeaWatches$Ship" "places" "[I" "SeaWatches") (by decide +kernel))) (fun _ h9 => h9) rfl dX8_carried_74 ?_
              refine lv_iload_n hx hb dX8_carried_77 rfl (lv_at hl 3 rfl) ?_
              refine va_iald hx hb hK.1 hP 3 0 rfl rfl (g_in rfl (by omega) (by omega)) dX8_carried_78 ?_
              refine lv_topi (fun z_10 ez_10 => ?_)
              have kz_10 := congrArg Int32.toInt ez_10
              exact W.iret (v := z_10) hx hb hr (fun t ht hW => ⟨z_10, rfl, (by (try dsimp only); first | exact Or.inl ⟨by omega, by omega, by subst_vars; rfl⟩ | exact Or.inr (Or.inl ⟨by omega, by omega, by subst_vars; rfl⟩) | exact Or.inr (Or.inr (Or.inl ⟨by omega, by omega, by subst_vars; rfl⟩)) | exact Or.inr (Or.inr (Or.inr (Or.inl ⟨by omega, by omega, by subst_vars; rfl⟩))) | exact Or.inr (Or.inr (Or.inr (Or.inr ⟨by omega, by omega⟩)))), ht⟩) (fun q h => by cases h) dX8_carried_79
            ·
              refine lv_tableIn (off := 40) (tgt := 80) hx hb dX8_carried_40 (by omega) (by omega) (by rw [h_9]; decide) (by decide) ?_
              refine lv_aload hx hb dX8_carried_80 (lv_at hl 0 rfl) ?_
              refine va_getN (D := D) (ci := 5) (v := .ref (ya 1)) (C := RX5) (T := TX5) (N := 11) hx hb htb iX5 hown hK.1 hP 2 rfl rfl 1 (by decide) (va_Nw.use rfl (hK.2.1 (Cond.fieldLinkNest RX8 223 "SeaWatches$Ship" "starts" "[I" "SeaWatches") (by decide +kernel))) (fun _ h9 => h9) rfl dX8_carried_82 ?_
              refine lv_iload_n hx hb dX8_carried_85 rfl (lv_at hl 3 rfl) ?_
              refine va_iald hx hb hK.1 hP 4 0 rfl rfl (g_in rfl (by omega) (by omega)) dX8_carried_86 ?_
              refine lv_topi (fun z_11 ez_11 => ?_)
              have kz_11 := congrArg Int32.toInt ez_11
              exact W.iret (v := z_11) hx hb hr (fun t ht hW => ⟨z_11, rfl, (by (try dsimp only); first | exact Or.inl ⟨by omega, by omega, by subst_vars; rfl⟩ | exact Or.inr (Or.inl ⟨by omega, by omega, by subst_vars; rfl⟩) | exact Or.inr (Or.inr (Or.inl ⟨by omega, by omega, by subst_vars; rfl⟩)) | exact Or.inr (Or.inr (Or.inr (Or.inl ⟨by omega, by omega, by subst_vars; rfl⟩))) | exact Or.inr (Or.inr (Or.inr (Or.inr ⟨by omega, by omega⟩)))), ht⟩) (fun q h => by cases h) dX8_carried_87
            ·
              refine lv_tableIn (off := 48) (tgt := 88) hx hb dX8_carried_40 (by omega) (by omega) (by rw [h_9]; decide) (by decide) ?_
              refine lv_aload hx hb dX8_carried_88 (lv_at hl 0 rfl) ?_
              refine va_getN (D := D) (ci := 5) (v := .ref (ya 2)) (C := RX5) (T := TX5) (N := 11) hx hb htb iX5 hown hK.1 hP 2 rfl rfl 2 (by decide) (va_Nw.use rfl (hK.2.1 (Cond.fieldLinkNest RX8 226 "SeaWatches$Ship" "goings" "[I" "SeaWatches") (by decide +kernel))) (fun _ h9 => h9) rfl dX8_carried_90 ?_
              refine lv_iload_n hx hb dX8_carried_93 rfl (lv_at hl 3 rfl) ?_
              refine va_iald hx hb hK.1 hP 5 0 rfl rfl (g_in rfl (by omega) (by omega)) dX8_carried_94 ?_
              refine lv_topi (fun z_12 ez_12 => ?_)
              have kz_12 := congrArg Int32.toInt ez_12
              exact W.iret (v := z_12) hx hb hr (fun t ht hW => ⟨z_12, rfl, (by (try dsimp only); first | exact Or.inl ⟨by omega, by omega, by subst_vars; rfl⟩ | exact Or.inr (Or.inl ⟨by omega, by omega, by subst_vars; rfl⟩) | exact Or.inr (Or.inr (Or.inl ⟨by omega, by omega, by subst_vars; rfl⟩)) | exact Or.inr (Or.inr (Or.inr (Or.inl ⟨by omega, by omega, by subst_vars; rfl⟩))) | exact Or.inr (Or.inr (Or.inr (Or.inr ⟨by omega, by omega⟩)))), ht⟩) (fun q h => by cases h) dX8_carried_95
            ·
              refine lv_tableIn (off := 56) (tgt := 96) hx hb dX8_carried_40 (by omega) (by omega) (by rw [h_9]; decide) (by decide) ?_
              refine lv_aload hx hb dX8_carried_96 (lv_at hl 0 rfl) ?_
              refine va_getN (D := D) (ci := 5) (v := .ref (ya 3)) (C := RX5) (T := TX5) (N := 11) hx hb htb iX5 hown hK.1 hP 2 rfl rfl 3 (by decide) (va_Nw.use rfl (hK.2.1 (Cond.fieldLinkNest RX8 229 "SeaWatches$Ship" "doubts" "[I" "SeaWatches") (by decide +kernel))) (fun _ h9 => h9) rfl dX8_carried_98 ?_
              refine lv_iload_n hx hb dX8_carried_101 rfl (lv_at hl 3 rfl) ?_
              refine va_iald hx hb hK.1 hP 6 0 rfl rfl (g_in rfl (by omega) (by omega)) dX8_carried_102 ?_
              refine lv_topi (fun z_13 ez_13 => ?_)
              have kz_13 := congrArg Int32.toInt ez_13
              exact W.iret (v := z_13) hx hb hr (fun t ht hW => ⟨z_13, rfl, (by (try dsimp only); first | exact Or.inl ⟨by omega, by omega, by subst_vars; rfl⟩ | exact Or.inr (Or.inl ⟨by omega, by omega, by subst_vars; rfl⟩) | exact Or.inr (Or.inr (Or.inl ⟨by omega, by omega, by subst_vars; rfl⟩)) | exact Or.inr (Or.inr (Or.inr (Or.inl ⟨by omega, by omega, by subst_vars; rfl⟩))) | exact Or.inr (Or.inr (Or.inr (Or.inr ⟨by omega, by omega⟩)))), ht⟩) (fun q h => by cases h) dX8_carried_103
        ·
          have ic_7 : ystage.toInt = 0 := (g_eq rfl t_0).mp c_7
          clear c_7
          refine lv_ldc hx hb hown (htb _ k_386) dX8_carried_28 ?_
          exact W.iret (v := (-2000000000)) hx hb hr (fun t ht hW => ⟨(-2000000000), rfl, (by have hl0 := t_m2000000000; (try dsimp only); first | exact Or.inl ⟨by omega, by omega, by subst_vars; rfl⟩ | exact Or.inr (Or.inl ⟨by omega, by omega, by subst_vars; rfl⟩) | exact Or.inr (Or.inr (Or.inl ⟨by omega, by omega, by subst_vars; rfl⟩)) | exact Or.inr (Or.inr (Or.inr (Or.inl ⟨by omega, by omega, by subst_vars; rfl⟩))) | exact Or.inr (Or.inr (Or.inr (Or.inr ⟨by omega, by omega⟩)))), ht⟩) (fun q h => by cases h) dX8_carried_30
  ·
    refine W_top (y := .int 0) (by rw [hr_1]) ?_
    refine lv_if_eq (tgt := 28) hx hb dX8_carried_4 (by decide) (fun c_14 => ?_) (fun c_14 => absurd (by decide) c_14)
    refine lv_ldc hx hb hown (htb _ k_386) dX8_carried_28 ?_
    exact W.iret (v := (-2000000000)) hx hb hr (fun t ht hW => ⟨(-2000000000), rfl, (by have hl0 := t_m2000000000; (try dsimp only); first | exact Or.inl ⟨by omega, by omega, by subst_vars; rfl⟩ | exact Or.inr (Or.inl ⟨by omega, by omega, by subst_vars; rfl⟩) | exact Or.inr (Or.inr (Or.inl ⟨by omega, by omega, by subst_vars; rfl⟩)) | exact Or.inr (Or.inr (Or.inr (Or.inl ⟨by omega, by omega, by subst_vars; rfl⟩))) | exact Or.inr (Or.inr (Or.inr (Or.inr ⟨by omega, by omega⟩)))), ht⟩) (fun q h => by cases h) dX8_carried_30
set_option maxHeartbeats 4000000 in
set_option maxRecDepth 100000 in
theorem g_X8_state_T (l : Launch) (D : va_G) (E : Nat → Nat) (xh : Nat) (xa : Nat → Nat) (xtrialRule : Nat) (xdropRule : Nat) (xtoday : Int32) (xf4 : Nat → Option Nat) (p0 : Int32) (hi_x : (0 ≤ xtoday.toInt ∧ xtoday.toInt ≤ 399)) (ht0 : ¬ (0 ≤ p0.toInt ∧ p0.toInt ≤ 4)) : Met l yX8_state (wl yX8_state cX8_state 2 (some .int)) (RM 1 0 0) (rd_P D E [.ref xh, .int p0] [(xh, .inr (8, G8 xa xtrialRule xdropRule xtoday)), ((xa 4), .inl (E 4, 5, .inr (.inr (.inr (.inr xf4)))))]) (rd_Q (fun r => ((r.toInt = -1)))) 0 0 (fun _ => False) := by
  refine Met.ofW (cc := cX8_state) (maxL := 2) (ret := (some .int)) (by decide) rfl ?_
  intro p e s m args below meth c s₁ B hml hv
  obtain ⟨rfl, hP, hK⟩ := hv
  have hx := B.exec; have hb := B.bytes; have hr := B.returns
  have hts := atoms_spec (ws := wl yX8_state cX8_state 2 (some .int)) B.pre
  have htb : ∀ w ∈ tb, w.before _ s = true := fun w h => hts w (List.mem_cons_of_mem _ h)
  have hown : s.vm.findClass RX8 = some m.cls := findClass_of_methodNamed B.named
  have hlocks := B.notSynchronized
  have hP : va_P D vwCl [(xh, .inr (8, G8 xa xtrialRule xdropRule xtoday)), ((xa 4), .inl (E 4, 5, .inr (.inr (.inr (.inr xf4)))))] s.heap := hP
  have hl := lv_entry ([.ref xh, .int p0]) (n := 2) (Nat.le_of_ble_eq_true rfl)
  rw [lg_entry_eq]
  generalize (lg_sl ([.ref xh, .int p0]) ++ List.replicate (2 - (lg_sl ([.ref xh, .int p0])).length) Slot.unset).toArray = ls at hl ⊢
  have hl : lv_has ls 2 [(0, .ref xh), (1, .int p0)] := hl
  have lo_p0 := i_lo p0; have hi_p0 := i_hi p0
  refine lv_iload_n hx hb dX8_state_0 rfl (lv_at hl 1 rfl) ?_
  refine callRS (rest := []) (As := [.int p0]) hx hb hml hown htb hK (g_X8_isShip l D E p0 ) ok_X8_isShip k_773 k_774 k_1 k_775 ⟨(Nat.le_of_ble_eq_true rfl), (Nat.le_of_ble_eq_true rfl)⟩ ⟨(Nat.le_of_ble_eq_true rfl), (Nat.le_of_ble_eq_true rfl)⟩ hl.1 (Nat.le_of_ble_eq_true rfl) rfl rfl dX8_state_1 (hP.sub (ws' := ([] : va_W)) [] rfl) (fun r_1 hw_2 => ?_)
  rcases hw_2 with ⟨hr_1, hw_2⟩ | ⟨hr_1, hw_2⟩
  ·
    refine W_top (y := .int 1) (by rw [hr_1]) ?_
    refine lv_if_eq (tgt := 19) hx hb dX8_state_4 (by decide) (fun c_4 => absurd c_4 (by decide)) (fun c_4 => ?_)
    refine lv_aload_n hx hb dX8_state_7 rfl (lv_at hl 0 rfl) ?_
    refine va_get (D := D) (ci := 8) (v := .ref (xa 4)) (C := RX8) (T := TX8) (N := 14) hx hb htb iX8 hown hK.1 hP 0 rfl rfl 4 (by decide) (htb _ k_276) (fun _ h9 => h9) rfl dX8_state_8 ?_
    refine lv_iload_n hx hb dX8_state_11 rfl (lv_at hl 1 rfl) ?_
    refine va_aldq hx hb hK.1 hP 1 4 rfl rfl (g_in rfl (by omega) (by omega)) dX8_state_12 ?_
    exfalso; omega
  ·
    refine W_top (y := .int 0) (by rw [hr_1]) ?_
    refine lv_if_eq (tgt := 19) hx hb dX8_state_4 (by decide) (fun c_5 => ?_) (fun c_5 => absurd (by decide) c_5)
    refine lv_iconst (v := (-1)) hx hb dX8_state_19 (by decide) ?_
    exact W.iret (v := (-1)) hx hb hr (fun t ht hW => ⟨(-1), rfl, (by have hl0 := t_m1; (try dsimp only); first | exact (by omega)), ht⟩) (fun q h => by cases h) dX8_state_20
set_option maxHeartbeats 4000000 in
set_option maxRecDepth 100000 in
theorem g_X8_state_S (l : Launch) (D : va_G) (E : Nat → Nat) (xh : Nat) (xa : Nat → Nat) (xtrialRule : Nat) (xdropRule : Nat) (xtoday : Int32) (xf4 : Nat → Option Nat) (yh : Nat) (ya : Nat → Nat) (ysights : Int32) (ystage : Int32) (ysailed : Int32) (yvoyage : Int32) (p0 : Int32) (hi_x : (0 ≤ xtoday.toInt ∧ xtoday.toInt ≤ 399)) (hi_y : (0 ≤ ysights.toInt ∧ ysights.toInt ≤ 40)) (hs0 : 0 ≤ p0.toInt ∧ p0.toInt ≤ 4) (hy0 : xf4 (p0).toNatClampNeg = some yh) : Met l yX8_state (wl yX8_state cX8_state 2 (some .int)) (RM 1 0 0) (rd_P D E [.ref xh, .int p0] [(xh, .inr (8, G8 xa xtrialRule xdropRule xtoday)), ((xa 4), .inl (E 4, 5, .inr (.inr (.inr (.inr xf4))))), (yh, .inr (5, G5 ya ysights ystage ysailed yvoyage))]) (rd_Q (fun r => ((r = ystage)))) 0 0 (fun _ => False) := by
  refine Met.ofW (cc := cX8_state) (maxL := 2) (ret := (some .int)) (by decide) rfl ?_
  intro p e s m args below meth c s₁ B hml hv
  obtain ⟨rfl, hP, hK⟩ := hv
  have hx := B.exec; have hb := B.bytes; have hr := B.returns
  have hts := atoms_spec (ws := wl yX8_state cX8_state 2 (some .int)) B.pre
  have htb : ∀ w ∈ tb, w.before _ s = true := fun w h => hts w (List.mem_cons_of_mem _ h)
  have hown : s.vm.findClass RX8 = some m.cls := findClass_of_methodNamed B.named
  have hlocks := B.notSynchronized
  have hP : va_P D vwCl [(xh, .inr (8, G8 xa xtrialRule xdropRule xtoday)), ((xa 4), .inl (E 4, 5, .inr (.inr (.inr (.inr xf4))))), (yh, .inr (5, G5 ya ysights ystage ysailed yvoyage))] s.heap := hP
  have hl := lv_entry ([.ref xh, .int p0]) (n := 2) (Nat.le_of_ble_eq_true rfl)
  rw [lg_entry_eq]
  generalize (lg_sl ([.ref xh, .int p0]) ++ List.replicate (2 - (lg_sl ([.ref xh, .int p0])).length) Slot.unset).toArray = ls at hl ⊢
  have hl : lv_has ls 2 [(0, .ref xh), (1, .int p0)] := hl
  have lo_p0 := i_lo p0; have hi_p0 := i_hi p0
  refine lv_iload_n hx hb dX8_state_0 rfl (lv_at hl 1 rfl) ?_
  refine callRS (rest := []) (As := [.int p0]) hx hb hml hown htb hK (g_X8_isShip l D E p0 ) ok_X8_isShip k_773 k_774 k_1 k_775 ⟨(Nat.le_of_ble_eq_true rfl), (Nat.le_of_ble_eq_true rfl)⟩ ⟨(Nat.le_of_ble_eq_true rfl), (Nat.le_of_ble_eq_true rfl)⟩ hl.1 (Nat.le_of_ble_eq_true rfl) rfl rfl dX8_state_1 (hP.sub (ws' := ([] : va_W)) [] rfl) (fun r_1 hw_2 => ?_)
  rcases hw_2 with ⟨hr_1, hw_2⟩ | ⟨hr_1, hw_2⟩
  ·
    refine W_top (y := .int 1) (by rw [hr_1]) ?_
    refine lv_if_eq (tgt := 19) hx hb dX8_state_4 (by decide) (fun c_4 => absurd c_4 (by decide)) (fun c_4 => ?_)
    refine lv_aload_n hx hb dX8_state_7 rfl (lv_at hl 0 rfl) ?_
    refine va_get (D := D) (ci := 8) (v := .ref (xa 4)) (C := RX8) (T := TX8) (N := 14) hx hb htb iX8 hown hK.1 hP 0 rfl rfl 4 (by decide) (htb _ k_276) (fun _ h9 => h9) rfl dX8_state_8 ?_
    refine lv_iload_n hx hb dX8_state_11 rfl (lv_at hl 1 rfl) ?_
    refine va_aldq hx hb hK.1 hP 1 4 rfl rfl (g_in rfl (by omega) (by omega)) dX8_state_12 ?_
    refine W_top (y := .ref yh) (congrArg va_rf hy0) ?_
    refine va_getN (D := D) (ci := 5) (v := .int ystage) (C := RX5) (T := TX5) (N := 11) hx hb htb iX5 hown hK.1 hP 2 rfl rfl 8 (by decide) (va_Nw.use rfl (hK.2.1 (Cond.fieldLinkNest RX8 208 "SeaWatches$Ship" "stage" "I" "SeaWatches") (by decide +kernel))) (fun _ h9 => h9) rfl dX8_state_13 ?_
    refine lv_goto (tgt := 20) hx hb dX8_state_16 (by decide) ?_
    exact W.iret (v := ystage) hx hb hr (fun t ht hW => ⟨ystage, rfl, (by first | rfl | (exfalso; omega)), ht⟩) (fun q h => by cases h) dX8_state_20
  ·
    refine W_top (y := .int 0) (by rw [hr_1]) ?_
    refine lv_if_eq (tgt := 19) hx hb dX8_state_4 (by decide) (fun c_5 => ?_) (fun c_5 => absurd (by decide) c_5)
    refine lv_iconst (v := (-1)) hx hb dX8_state_19 (by decide) ?_
    exact W.iret (v := (-1)) hx hb hr (fun t ht hW => ⟨(-1), rfl, (by first | rfl | (exfalso; omega)), ht⟩) (fun q h => by cases h) dX8_state_20
set_option maxHeartbeats 4000000 in
set_option maxRecDepth 100000 in
theorem g_X8_sight_T (l : Launch) (D : va_G) (E : Nat → Nat) (xh : Nat) (xa : Nat → Nat) (xtrialRule : Nat) (xdropRule : Nat) (xtoday : Int32) (xf4 : Nat → Option Nat) (p0 : Int32) (p1 : Int32) (p2 : Int32) (p3 : Int32) (p4 : Int32) (hi_x : (0 ≤ xtoday.toInt ∧ xtoday.toInt ≤ 399)) (ht0 : ¬ (0 ≤ p0.toInt ∧ p0.toInt ≤ 4)) : Met l yX8_sight (wl yX8_sight cX8_sight 7 (some .int)) (RM 1 0 0) (rd_P D E [.ref xh, .int p0, .int p1, .int p2, .int p3, .int p4] [(xh, .inr (8, G8 xa xtrialRule xdropRule xtoday)), ((xa 4), .inl (E 4, 5, .inr (.inr (.inr (.inr xf4)))))]) (rd_Q (fun r => ((r.toInt = -1)))) 0 0 (fun _ => False) := by
  refine Met.ofW (cc := cX8_sight) (maxL := 7) (ret := (some .int)) (by decide) rfl ?_
  intro p e s m args below meth c s₁ B hml hv
  obtain ⟨rfl, hP, hK⟩ := hv
  have hx := B.exec; have hb := B.bytes; have hr := B.returns
  have hts := atoms_spec (ws := wl yX8_sight cX8_sight 7 (some .int)) B.pre
  have htb : ∀ w ∈ tb, w.before _ s = true := fun w h => hts w (List.mem_cons_of_mem _ h)
  have hown : s.vm.findClass RX8 = some m.cls := findClass_of_methodNamed B.named
  have hlocks := B.notSynchronized
  have hP : va_P D vwCl [(xh, .inr (8, G8 xa xtrialRule xdropRule xtoday)), ((xa 4), .inl (E 4, 5, .inr (.inr (.inr (.inr xf4)))))] s.heap := hP
  have hl := lv_entry ([.ref xh, .int p0, .int p1, .int p2, .int p3, .int p4]) (n := 7) (Nat.le_of_ble_eq_true rfl)
  rw [lg_entry_eq]
  generalize (lg_sl ([.ref xh, .int p0, .int p1, .int p2, .int p3, .int p4]) ++ List.replicate (7 - (lg_sl ([.ref xh, .int p0, .int p1, .int p2, .int p3, .int p4])).length) Slot.unset).toArray = ls at hl ⊢
  have hl : lv_has ls 7 [(0, .ref xh), (1, .int p0), (2, .int p1), (3, .int p2), (4, .int p3), (5, .int p4)] := hl
  have lo_p0 := i_lo p0; have hi_p0 := i_hi p0
  have lo_p1 := i_lo p1; have hi_p1 := i_hi p1
  have lo_p2 := i_lo p2; have hi_p2 := i_hi p2
  have lo_p3 := i_lo p3; have hi_p3 := i_hi p3
  have lo_p4 := i_lo p4; have hi_p4 := i_hi p4
  refine lv_iload_n hx hb dX8_sight_0 rfl (lv_at hl 1 rfl) ?_
  refine callRS (rest := []) (As := [.int p0]) hx hb hml hown htb hK (g_X8_isShip l D E p0 ) ok_X8_isShip k_773 k_774 k_1 k_775 ⟨(Nat.le_of_ble_eq_true rfl), (Nat.le_of_ble_eq_true rfl)⟩ ⟨(Nat.le_of_ble_eq_true rfl), (Nat.le_of_ble_eq_true rfl)⟩ hl.1 (Nat.le_of_ble_eq_true rfl) rfl rfl dX8_sight_1 (hP.sub (ws' := ([] : va_W)) [] rfl) (fun r_1 hw_2 => ?_)
  rcases hw_2 with ⟨hr_1, hw_2⟩ | ⟨hr_1, hw_2⟩
  ·
    refine W_top (y := .int 1) (by rw [hr_1]) ?_
    refine lv_if_eq (tgt := 44) hx hb dX8_sight_4 (by decide) (fun c_4 => absurd c_4 (by decide)) (fun c_4 => ?_)
    refine lv_aload_n hx hb dX8_sight_7 rfl (lv_at hl 0 rfl) ?_
    refine lv_iload_n hx hb dX8_sight_8 rfl (lv_at hl 2 rfl) ?_
    refine callRV (rest := []) (As := [.int p1]) hx hb hml hown htb hK (g_X8_isPast l D E xh xa xtrialRule xdropRule xtoday p1 (by (try dsimp only); omega)) ok_X8_isPast k_391 k_393 ks_2 k_1 k_394 ⟨(Nat.le_of_ble_eq_true rfl), (Nat.le_of_ble_eq_true rfl)⟩ ⟨(Nat.le_of_ble_eq_true rfl), (Nat.le_of_ble_eq_true rfl)⟩ hl.1 (Nat.le_of_ble_eq_true rfl) rfl rfl dX8_sight_9 (hP.sub (ws' := [(xh, .inr (8, G8 xa xtrialRule xdropRule xtoday))]) [0] rfl) rfl rfl 0 rfl (fun r_5 hw_6 => ?_)
    rcases hw_6 with ⟨hr_5, hw_6⟩ | ⟨hr_5, hw_6⟩
    ·
      refine W_top (y := .int 1) (by rw [hr_5]) ?_
      refine lv_if_eq (tgt := 44) hx hb dX8_sight_12 (by decide) (fun c_8 => absurd c_8 (by decide)) (fun c_8 => ?_)
      refine lv_iload_n hx hb dX8_sight_15 rfl (lv_at hl 3 rfl) ?_
      refine lv_ldc hx hb hown (htb _ k_816) dX8_sight_16 ?_
      refine callRS (rest := []) (As := [.int p2, .int 2000000]) hx hb hml hown htb hK (g_X8_isWithin l D E p2 2000000 (by decide)) ok_X8_isWithin k_326 k_327 k_1 k_328 ⟨(Nat.le_of_ble_eq_true rfl), (Nat.le_of_ble_eq_true rfl)⟩ ⟨(Nat.le_of_ble_eq_true rfl), (Nat.le_of_ble_eq_true rfl)⟩ hl.1 (Nat.le_of_ble_eq_true rfl) rfl rfl dX8_sight_18 (hP.sub (ws' := ([] : va_W)) [] rfl) (fun r_9 hw_10 => ?_)
      try simp only [t_2000000] at hw_10
      rcases hw_10 with ⟨hr_9, hw_10⟩ | ⟨hr_9, hw_10⟩
      ·
        try simp only [t_2000000] at hw_10
        refine W_top (y := .int 1) (by rw [hr_9]) ?_
        refine lv_if_eq (tgt := 44) hx hb dX8_sight_21 (by decide) (fun c_12 => absurd c_12 (by decide)) (fun c_12 => ?_)
        refine lv_iload hx hb dX8_sight_24 (lv_at hl 4 rfl) ?_
        refine lv_ldc hx hb hown (htb _ k_816) dX8_sight_26 ?_
        refine callRS (rest := []) (As := [.int p3, .int 2000000]) hx hb hml hown htb hK (g_X8_isWithin l D E p3 2000000 (by decide)) ok_X8_isWithin k_326 k_327 k_1 k_328 ⟨(Nat.le_of_ble_eq_true rfl), (Nat.le_of_ble_eq_true rfl)⟩ ⟨(Nat.le_of_ble_eq_true rfl), (Nat.le_of_ble_eq_true rfl)⟩ hl.1 (Nat.le_of_ble_eq_true rfl) rfl rfl dX8_sight_28 (hP.sub (ws' := ([] : va_W)) [] rfl) (fun r_13 hw_14 => ?_)
        try simp only [t_2000000] at hw_14
        rcases hw_14 with ⟨hr_13, hw_14⟩ | ⟨hr_13, hw_14⟩
        ·
          try simp only [t_2000000] at hw_14
          refine W_top (y := .int 1) (by rw [hr_13]) ?_
          refine lv_if_eq (tgt := 44) hx hb dX8_sight_31 (by decide) (fun c_16 => absurd c_16 (by decide)) (fun c_16 => ?_)
          refine lv_iload hx hb dX8_sight_34 (lv_at hl 5 rfl) ?_
          refine lv_ldc hx hb hown (htb _ k_816) dX8_sight_36 ?_
          refine callRS (rest := []) (As := [.int p4, .int 2000000]) hx hb hml hown htb hK (g_X8_isWithin l D E p4 2000000 (by decide)) ok_X8_isWithin k_326 k_327 k_1 k_328 ⟨(Nat.le_of_ble_eq_true rfl), (Nat.le_of_ble_eq_true rfl)⟩ ⟨(Nat.le_of_ble_eq_true rfl), (Nat.le_of_ble_eq_true rfl)⟩ hl.1 (Nat.le_of_ble_eq_true rfl) rfl rfl dX8_sight_38 (hP.sub (ws' := ([] : va_W)) [] rfl) (fun r_17 hw_18 => ?_)
          try simp only [t_2000000] at hw_18
          rcases hw_18 with ⟨hr_17, hw_18⟩ | ⟨hr_17, hw_18⟩
          ·
            try simp only [t_2000000] at hw_18
            refine W_top (y := .int 1) (by rw [hr_17]) ?_
            refine lv_if_ne (tgt := 46) hx hb dX8_sight_41 (by decide) (fun c_20 => ?_) (fun c_20 => absurd c_20 (by decide))
            refine lv_aload_n hx hb dX8_sight_46 rfl (lv_at hl 0 rfl) ?_
            refine va_get (D := D) (ci := 8) (v := .ref (xa 4)) (C := RX8) (T := TX8) (N := 14) hx hb htb iX8 hown hK.1 hP 0 rfl rfl 4 (by decide) (htb _ k_276) (fun _ h9 => h9) rfl dX8_sight_47 ?_
            refine lv_iload_n hx hb dX8_sight_50 rfl (lv_at hl 1 rfl) ?_
            refine va_aldq hx hb hK.1 hP 1 4 rfl rfl (g_in rfl (by omega) (by omega)) dX8_sight_51 ?_
            exfalso; omega
          ·
            try simp only [t_2000000] at hw_18
            refine W_top (y := .int 0) (by rw [hr_17]) ?_
            refine lv_if_ne (tgt := 46) hx hb dX8_sight_41 (by decide) (fun c_21 => absurd (by decide) c_21) (fun c_21 => ?_)
            refine lv_iconst (v := (-1)) hx hb dX8_sight_44 (by decide) ?_
            exact W.iret (v := (-1)) hx hb hr (fun t ht hW => ⟨(-1), rfl, (by have hl0 := t_m1; (try dsimp only); first | exact (by omega)), ht⟩) (fun q h => by cases h) dX8_sight_45
        ·
          try simp only [t_2000000] at hw_14
          refine W_top (y := .int 0) (by rw [hr_13]) ?_
          refine lv_if_eq (tgt := 44) hx hb dX8_sight_31 (by decide) (fun c_22 => ?_) (fun c_22 => absurd (by decide) c_22)
          refine lv_iconst (v := (-1)) hx hb dX8_sight_44 (by decide) ?_
          exact W.iret (v := (-1)) hx hb hr (fun t ht hW => ⟨(-1), rfl, (by have hl0 := t_m1; (try dsimp only); first | exact (by omega)), ht⟩) (fun q h => by cases h) dX8_sight_45
      ·
        try simp only [t_2000000] at hw_10
        refine W_top (y := .int 0) (by rw [hr_9]) ?_
        refine lv_if_eq (tgt := 44) hx hb dX8_sight_21 (by decide) (fun c_23 => ?_) (fun c_23 => absurd (by decide) c_23)
        refine lv_iconst (v := (-1)) hx hb dX8_sight_44 (by decide) ?_
        exact W.iret (v := (-1)) hx hb hr (fun t ht hW => ⟨(-1), rfl, (by have hl0 := t_m1; (try dsimp only); first | exact (by omega)), ht⟩) (fun q h => by cases h) dX8_sight_45
    ·
      refine W_top (y := .int 0) (by rw [hr_5]) ?_
      refine lv_if_eq (tgt := 44) hx hb dX8_sight_12 (by decide) (fun c_24 => ?_) (fun c_24 => absurd (by decide) c_24)
      refine lv_iconst (v := (-1)) hx hb dX8_sight_44 (by decide) ?_
      exact W.iret (v := (-1)) hx hb hr (fun t ht hW => ⟨(-1), rfl, (by have hl0 := t_m1; (try dsimp only); first | exact (by omega)), ht⟩) (fun q h => by cases h) dX8_sight_45
  ·
    refine W_top (y := .int 0) (by rw [hr_1]) ?_
    refine lv_if_eq (tgt := 44) hx hb dX8_sight_4 (by decide) (fun c_25 => ?_) (fun c_25 => absurd (by decide) c_25)
    refine lv_iconst (v := (-1)) hx hb dX8_sight_44 (by decide) ?_
    exact W.iret (v := (-1)) hx hb hr (fun t ht hW => ⟨(-1), rfl, (by have hl0 := t_m1; (try dsimp only); first | exact (by omega)), ht⟩) (fun q h => by cases h) dX8_sight_45
set_option maxHeartbeats 4000000 in
set_option maxRecDepth 100000 in
theorem g_X8_sight_S (l : Launch) (D : va_G) (E : Nat → Nat) (xh : Nat) (xa : Nat → Nat) (xtrialRule : Nat) (xdropRule : Nat) (xtoday : Int32) (xf4 : Nat → Option Nat) (yh : Nat) (ya : Nat → Nat) (ysights : Int32) (ystage : Int32) (ysailed : Int32) (yvoyage : Int32) (yf5 : Nat → Int32) (yf6 : Nat → Int32) (p0 : Int32) (p1 : Int32) (p2 : Int32) (p3 : Int32) (p4 : Int32) (sz : Nat) (hi_x : (0 ≤ xtoday.toInt ∧ xtoday.toInt ≤ 399)) (hi_y : (0 ≤ ysights.toInt ∧ ysights.toInt ≤ 40)) (hs0 : 0 ≤ p0.toInt ∧ p0.toInt ≤ 4) (hy0 : xf4 (p0).toNatClampNeg = some yh) : Met l yX8_sight (wl yX8_sight cX8_sight 7 (some .int)) (RM 1 0 0) (mu_P D E [.ref xh, .int p0, .int p1, .int p2, .int p3, .int p4] [(xh, .inr (8, G8 xa xtrialRule xdropRule xtoday)), ((xa 4), .inl (E 4, 5, .inr (.inr (.inr (.inr xf4))))), (yh, .inr (5, G5 ya ysights ystage ysailed yvoyage)), ((ya 5), .inl (E 0, 40, .inl yf5)), ((ya 6), .inl (E 0, 120, .inl yf6))] sz) (va_Qi (fun (r : Int32) (u : (Nat → Int32) × (Nat → Int32) × (Int32)) => (0 ≤ u.2.2.toInt ∧ u.2.2.toInt ≤ 40) ∧ ((r.toInt = -1 ∧ (¬ ((0 ≤ p1.toInt ∧ p1.toInt ≤ xtoday.toInt) ∧ (-2000000 ≤ p2.toInt ∧ p2.toInt ≤ 2000000) ∧ (-2000000 ≤ p3.toInt ∧ p3.toInt ≤ 2000000) ∧ (-2000000 ≤ p4.toInt ∧ p4.toInt ≤ 2000000)) ∨ ¬ (ystage.toInt ≠ 0 → ysailed.toInt < p1.toInt ∧ (ysights.toInt = 0 ∨ (yf5 (ysights.toInt - 1).toNat).toInt ≤ p1.toInt))) ∧ u.2.2 = ysights ∧ u.1 = yf5 ∧ u.2.1 = yf6) ∨ (r.toInt = -4 ∧ ystage.toInt ≠ 1 ∧ u.2.2 = ysights ∧ u.1 = yf5 ∧ u.2.1 = yf6) ∨ (r.toInt = -5 ∧ ysights.toInt = 40 ∧ u.2.2 = ysights ∧ u.1 = yf5 ∧ u.2.1 = yf6) ∨ (((0 ≤ p1.toInt ∧ p1.toInt ≤ xtoday.toInt) ∧ (-2000000 ≤ p2.toInt ∧ p2.toInt ≤ 2000000) ∧ (-2000000 ≤ p3.toInt ∧ p3.toInt ≤ 2000000) ∧ (-2000000 ≤ p4.toInt ∧ p4.toInt ≤ 2000000)) ∧ ystage.toInt = 1 ∧ (ystage.toInt ≠ 0 → ysailed.toInt < p1.toInt ∧ (ysights.toInt = 0 ∨ (yf5 (ysights.toInt - 1).toNat).toInt ≤ p1.toInt)) ∧ ysights.toInt < 40 ∧ r.toInt = ysights.toInt ∧ u.2.2.toInt = ysights.toInt + 1 ∧ u.1 = upd yf5 (ysights).toNatClampNeg p1 ∧ u.2.1 = upd (upd (upd yf6 (3 * (ysights).toNatClampNeg + 0) p2) (3 * (ysights).toNatClampNeg + 1) p3) (3 * (ysights).toNatClampNeg + 2) p4))) (mu_B D (va_A [(xh, .inr (8, G8 xa xtrialRule xdropRule xtoday)), ((xa 4), .inl (E 4, 5, .inr (.inr (.inr (.inr xf4))))), (yh, .inr (5, G5 ya ysights ystage ysailed yvoyage)), ((ya 5), .inl (E 0, 40, .inl yf5)), ((ya 6), .inl (E 0, 120, .inl yf6))] sz) (fun (u : (Nat → Int32) × (Nat → Int32) × (Int32)) => [(xh, .inr (8, G8 xa xtrialRule xdropRule xtoday)), ((xa 4), .inl (E 4, 5, .inr (.inr (.inr (.inr xf4))))), (yh, .inr (5, G5 ya u.2.2 ystage ysailed yvoyage)), ((ya 5), .inl (E 0, 40, .inl u.1)), ((ya 6), .inl (E 0, 120, .inl u.2.1))])) (va_A [(xh, .inr (8, G8 xa xtrialRule xdropRule xtoday)), ((xa 4), .inl (E 4, 5, .inr (.inr (.inr (.inr xf4))))), (yh, .inr (5, G5 ya ysights ystage ysailed yvoyage)), ((ya 5), .inl (E 0, 40, .inl yf5)), ((ya 6), .inl (E 0, 120, .inl yf6))] sz)) 0 0 (va_A [(xh, .inr (8, G8 xa xtrialRule xdropRule xtoday)), ((xa 4), .inl (E 4, 5, .inr (.inr (.inr (.inr xf4))))), (yh, .inr (5, G5 ya ysights ystage ysailed yvoyage)), ((ya 5), .inl (E 0, 40, .inl yf5)), ((ya 6), .inl (E 0, 120, .inl yf6))] sz) := by
  refine Met.ofW (cc := cX8_sight) (maxL := 7) (ret := (some .int)) (by decide) rfl ?_
  intro p e s m args below meth c s₁ B hml hv
  obtain ⟨rfl, hsz, hP, hK, hD0⟩ := hv
  have hx := B.exec; have hb := B.bytes; have hr := B.returns
  have hts := atoms_spec (ws := wl yX8_sight cX8_sight 7 (some .int)) B.pre
  have htb : ∀ w ∈ tb, w.before _ s = true := fun w h => hts w (List.mem_cons_of_mem _ h)
  have hown : s.vm.findClass RX8 = some m.cls := findClass_of_methodNamed B.named
  have hlocks := B.notSynchronized
  subst hsz
  have hD := hD0.self (sz := s.heap.size)
  generalize hAe : va_A [(xh, .inr (8, G8 xa xtrialRule xdropRule xtoday)), ((xa 4), .inl (E 4, 5, .inr (.inr (.inr (.inr xf4))))), (yh, .inr (5, G5 ya ysights ystage ysailed yvoyage)), ((ya 5), .inl (E 0, 40, .inl yf5)), ((ya 6), .inl (E 0, 120, .inl yf6))] s.heap.size = A at hD ⊢
  have hA : ∀ q : Nat, s.heap.size ≤ q → A q := fun q h => by rw [← hAe]; exact Or.inr h
  have hS : va_S A s.heap s.heap [] := va_S.rf
  have hP : va_P D vwCl [(xh, .inr (8, G8 xa xtrialRule xdropRule xtoday)), ((xa 4), .inl (E 4, 5, .inr (.inr (.inr (.inr xf4))))), (yh, .inr (5, G5 ya ysights ystage ysailed yvoyage)), ((ya 5), .inl (E 0, 40, .inl yf5)), ((ya 6), .inl (E 0, 120, .inl yf6))] s.heap := hP
  have hl := lv_entry ([.ref xh, .int p0, .int p1, .int p2, .int p3, .int p4]) (n := 7) (Nat.le_of_ble_eq_true rfl)
  rw [lg_entry_eq]
  generalize (lg_sl ([.ref xh, .int p0, .int p1, .int p2, .int p3, .int p4]) ++ List.replicate (7 - (lg_sl ([.ref xh, .int p0, .int p1, .int p2, .int p3, .int p4])).length) Slot.unset).toArray = ls at hl ⊢
  have hl : lv_has ls 7 [(0, .ref xh), (1, .int p0), (2, .int p1), (3, .int p2), (4, .int p3), (5, .int p4)] := hl
  have lo_p0 := i_lo p0; have hi_p0 := i_hi p0
  have lo_p1 := i_lo p1; have hi_p1 := i_hi p1
  have lo_p2 := i_lo p2; have hi_p2 := i_hi p2
  have lo_p3 := i_lo p3; have hi_p3 := i_hi p3
  have lo_p4 := i_lo p4; have hi_p4 := i_hi p4
  refine lv_iload_n hx hb dX8_sight_0 rfl (lv_at hl 1 rfl) ?_
  refine callRS (rest := []) (As := [.int p0]) hx hb hml hown htb hK (g_X8_isShip l D E p0 ) ok_X8_isShip k_773 k_774 k_1 k_775 ⟨(Nat.le_of_ble_eq_true rfl), (Nat.le_of_ble_eq_true rfl)⟩ ⟨(Nat.le_of_ble_eq_true rfl), (Nat.le_of_ble_eq_true rfl)⟩ hl.1 (Nat.le_of_ble_eq_true rfl) rfl rfl dX8_sight_1 (hP.sub (ws' := ([] : va_W)) [] rfl) (fun r_1 hw_2 => ?_)
  rcases hw_2 with ⟨hr_1, hw_2⟩ | ⟨hr_1, hw_2⟩
  ·
    refine W_top (y := .int 1) (by rw [hr_1]) ?_
    refine lv_if_eq (tgt := 44) hx hb dX8_sight_4 (by decide) (fun c_4 => absurd c_4 (by decide)) (fun c_4 => ?_)
    refine lv_aload_n hx hb dX8_sight_7 rfl (lv_at hl 0 rfl) ?_
    refine lv_iload_n hx hb dX8_sight_8 rfl (lv_at hl 2 rfl) ?_
    refine callRV (rest := []) (As := [.int p1]) hx hb hml hown htb hK (g_X8_isPast l D E xh xa xtrialRule xdropRule xtoday p1 (by (try dsimp only); omega)) ok_X8_isPast k_391 k_393 ks_2 k_1 k_394 ⟨(Nat.le_of_ble_eq_true rfl), (Nat.le_of_ble_eq_true rfl)⟩ ⟨(Nat.le_of_ble_eq_true rfl), (Nat.le_of_ble_eq_true rfl)⟩ hl.1 (Nat.le_of_ble_eq_true rfl) rfl rfl dX8_sight_9 (hP.sub (ws' := [(xh, .inr (8, G8 xa xtrialRule xdropRule xtoday))]) [0] rfl) rfl rfl 0 rfl (fun r_5 hw_6 => ?_)
    rcases hw_6 with ⟨hr_5, hw_6⟩ | ⟨hr_5, hw_6⟩
    ·
      refine W_top (y := .int 1) (by rw [hr_5]) ?_
      refine lv_if_eq (tgt := 44) hx hb dX8_sight_12 (by decide) (fun c_8 => absurd c_8 (by decide)) (fun c_8 => ?_)
      refine lv_iload_n hx hb dX8_sight_15 rfl (lv_at hl 3 rfl) ?_
      refine lv_ldc hx hb hown (htb _ k_816) dX8_sight_16 ?_
      refine callRS (rest := []) (As := [.int p2, .int 2000000]) hx hb hml hown htb hK (g_X8_isWithin l D E p2 2000000 (by decide)) ok_X8_isWithin k_326 k_327 k_1 k_328 ⟨(Nat.le_of_ble_eq_true rfl), (Nat.le_of_ble_eq_true rfl)⟩ ⟨(Nat.le_of_ble_eq_true rfl), (Nat.le_of_ble_eq_true rfl)⟩ hl.1 (Nat.le_of_ble_eq_true rfl) rfl rfl dX8_sight_18 (hP.sub (ws' := ([] : va_W)) [] rfl) (fun r_9 hw_10 => ?_)
      try simp only [t_2000000] at hw_10
      rcases hw_10 with ⟨hr_9, hw_10⟩ | ⟨hr_9, hw_10⟩
      ·
        try simp only [t_2000000] at hw_10
        refine W_top (y := .int 1) (by rw [hr_9]) ?_
        refine lv_if_eq (tgt := 44) hx hb dX8_sight_21 (by decide) (fun c_12 => absurd c_12 (by decide)) (fun c_12 => ?_)
        refine lv_iload hx hb dX8_sight_24 (lv_at hl 4 rfl) ?_
        refine lv_ldc hx hb hown (htb _ k_816) dX8_sight_26 ?_
        refine callRS (rest := []) (As := [.int p3, .int 2000000]) hx hb hml hown htb hK (g_X8_isWithin l D E p3 2000000 (by decide)) ok_X8_isWithin k_326 k_327 k_1 k_328 ⟨(Nat.le_of_ble_eq_true rfl), (Nat.le_of_ble_eq_true rfl)⟩ ⟨(Nat.le_of_ble_eq_true rfl), (Nat.le_of_ble_eq_true rfl)⟩ hl.1 (Nat.le_of_ble_eq_true rfl) rfl rfl dX8_sight_28 (hP.sub (ws' := ([] : va_W)) [] rfl) (fun r_13 hw_14 => ?_)
        try simp only [t_2000000] at hw_14
        rcases hw_14 with ⟨hr_13, hw_14⟩ | ⟨hr_13, hw_14⟩
        ·
          try simp only [t_2000000] at hw_14
          refine W_top (y := .int 1) (by rw [hr_13]) ?_
          refine lv_if_eq (tgt := 44) hx hb dX8_sight_31 (by decide) (fun c_16 => absurd c_16 (by decide)) (fun c_16 => ?_)
          refine lv_iload hx hb dX8_sight_34 (lv_at hl 5 rfl) ?_
          refine lv_ldc hx hb hown (htb _ k_816) dX8_sight_36 ?_
          refine callRS (rest := []) (As := [.int p4, .int 2000000]) hx hb hml hown htb hK (g_X8_isWithin l D E p4 2000000 (by decide)) ok_X8_isWithin k_326 k_327 k_1 k_328 ⟨(Nat.le_of_ble_eq_true rfl), (Nat.le_of_ble_eq_true rfl)⟩ ⟨(Nat.le_of_ble_eq_true rfl), (Nat.le_of_ble_eq_true rfl)⟩ hl.1 (Nat.le_of_ble_eq_true rfl) rfl rfl dX8_sight_38 (hP.sub (ws' := ([] : va_W)) [] rfl) (fun r_17 hw_18 => ?_)
          try simp only [t_2000000] at hw_18
          rcases hw_18 with ⟨hr_17, hw_18⟩ | ⟨hr_17, hw_18⟩
          ·
            try simp only [t_2000000] at hw_18
            refine W_top (y := .int 1) (by rw [hr_17]) ?_
            refine lv_if_ne (tgt := 46) hx hb dX8_sight_41 (by decide) (fun c_20 => ?_) (fun c_20 => absurd c_20 (by decide))
            refine lv_aload_n hx hb dX8_sight_46 rfl (lv_at hl 0 rfl) ?_
            refine va_get (D := D) (ci := 8) (v := .ref (xa 4)) (C := RX8) (T := TX8) (N := 14) hx hb htb iX8 hown hK.1 hP 0 rfl rfl 4 (by decide) (htb _ k_276) (fun _ h9 => h9) rfl dX8_sight_47 ?_
            refine lv_iload_n hx hb dX8_sight_50 rfl (lv_at hl 1 rfl) ?_
            refine va_aldq hx hb hK.1 hP 1 4 rfl rfl (g_in rfl (by omega) (by omega)) dX8_sight_51 ?_
            refine W_top (y := .ref yh) (congrArg va_rf hy0) ?_
            refine lv_astore (lv' := [(6, .ref yh), (0, .ref xh), (1, .int p0), (2, .int p1), (3, .int p2), (4, .int p3), (5, .int p4)]) hx hb dX8_sight_52 hl (by decide) rfl (fun ls hl => ?_)
            refine lv_aload hx hb dX8_sight_54 (lv_at hl 0 rfl) ?_
            refine lv_iload_n hx hb dX8_sight_56 rfl (lv_at hl 3 rfl) ?_
            refine callRV (rest := []) (As := [.int p1]) hx hb hml hown htb hK (g_X5_mayBeSighted l D E yh ya ysights ystage ysailed yvoyage yf5 p1 (by (try dsimp only); omega)) ok_X5_mayBeSighted k_817 k_818 k_819 k_8 k_820 ⟨(Nat.le_of_ble_eq_true rfl), (Nat.le_of_ble_eq_true rfl)⟩ ⟨(Nat.le_of_ble_eq_true rfl), (Nat.le_of_ble_eq_true rfl)⟩ hl.1 (Nat.le_of_ble_eq_true rfl) rfl rfl dX8_sight_57 (hP.sub (ws' := [(yh, .inr (5, G5 ya ysights ystage ysailed yvoyage)), ((ya 5), .inl (E 0, 40, .inl yf5))]) [2, 3] rfl) rfl rfl 0 rfl (fun r_21 hw_22 => ?_)
            refine lv_if_ne (tgt := 65) hx hb dX8_sight_60 (by decide) (fun c_24 => ?_) (fun c_24 => ?_)
            ·
              have ic_24 : r_21.toInt ≠ 0 := mt (g_eq rfl t_0).mpr c_24
              clear c_24
              refine lv_aload hx hb dX8_sight_65 (lv_at hl 0 rfl) ?_
              refine va_getN (D := D) (ci := 5) (v := .int ystage) (C := RX5) (T := TX5) (N := 11) hx hb htb iX5 hown hK.1 hP 2 rfl rfl 8 (by decide) (va_Nw.use rfl (hK.2.1 (Cond.fieldLinkNest RX8 208 "SeaWatches$Ship" "stage" "I" "SeaWatches") (by decide +kernel))) (fun _ h9 => h9) rfl dX8_sight_67 ?_
              refine lv_iconst (v := 1) hx hb dX8_sight_70 (by decide) ?_
              refine lv_icmp_eq (tgt := 77) hx hb dX8_sight_71 (by decide) (fun c_25 => ?_) (fun c_25 => ?_)
              ·
                have ic_25 : ystage.toInt = 1 := (g_eq rfl t_1).mp c_25
                clear c_25
                refine lv_aload hx hb dX8_sight_77 (lv_at hl 0 rfl) ?_
                refine va_getN (D := D) (ci := 5) (v := .int ysights) (C := RX5) (T := TX5) (N := 11) hx hb htb iX5 hown hK.1 hP 2 rfl rfl 7 (by decide) (va_Nw.use rfl (hK.2.1 (Cond.fieldLinkNest RX8 236 "SeaWatches$Ship" "sights" "I" "SeaWatches") (by decide +kernel))) (fun _ h9 => h9) rfl dX8_sight_79 ?_
                refine lv_bipush (v := 40) hx hb dX8_sight_82 (by decide) ?_
                refine lv_icmp_lt (tgt := 90) hx hb dX8_sight_84 (by decide) (fun c_26 => ?_) (fun c_26 => ?_)
                ·
                  have ic_26 : ysights.toInt < 40 := by first | exact (g_lt rfl t_40).mp c_26 | (have h := mt (g_le t_40 rfl).mpr c_26; omega)
                  clear c_26
                  refine lv_aload hx hb dX8_sight_90 (lv_at hl 0 rfl) ?_
                  refine lv_iload_n hx hb dX8_sight_92 rfl (lv_at hl 3 rfl) ?_
                  refine lv_iload_n hx hb dX8_sight_93 rfl (lv_at hl 4 rfl) ?_
                  refine lv_iload hx hb dX8_sight_94 (lv_at hl 5 rfl) ?_
                  refine lv_iload hx hb dX8_sight_96 (lv_at hl 6 rfl) ?_
                  have hPc := hP.sub (ws' := [(yh, .inr (5, G5 ya ysights ystage ysailed yvoyage)), ((ya 5), .inl (E 0, 40, .inl yf5)), ((ya 6), .inl (E 0, 120, .inl yf6))]) [2, 3, 4] rfl
                  have hDc := hD.sub (ws' := [(yh, .inr (5, G5 ya ysights ystage ysailed yvoyage)), ((ya 5), .inl (E 0, 40, .inl yf5)), ((ya 6), .inl (E 0, 120, .inl yf6))]) [2, 3, 4] (by decide) rfl
                  refine aft_i (runMV (rest := []) (As := [.int p1, .int p2, .int p3, .int p4]) hx hb hml hown htb hK (g_X5_addSight l D E yh ya ysights ystage ysailed yvoyage yf5 yf6 p1 p2 p3 p4 _ (by (try dsimp only); omega)) ok_X5_addSight k_821 k_822 k_823 k_8 k_824 ⟨(Nat.le_of_ble_eq_true rfl), (Nat.le_of_ble_eq_true rfl)⟩ ⟨(Nat.le_of_ble_eq_true rfl), (Nat.le_of_ble_eq_true rfl)⟩ hl.1 (Nat.le_of_ble_eq_true rfl) rfl rfl dX8_sight_98 hPc hDc rfl rfl 0 rfl) hP hD hS hA [2, 3, 4] [0, 1] (wr := [(xh, .inr (8, G8 xa xtrialRule xdropRule xtoday)), ((xa 4), .inl (E 4, 5, .inr (.inr (.inr (.inr xf4)))))]) rfl rfl (by decide) (by decide) (fun r_27 u_29 H locs hw_28 hP hD hS => ?_)
                  clear hPc hDc
                  obtain ⟨w_30, w_31, w_32⟩ := u_29
                  try dsimp only at hw_28
                  have hP : va_P D vwCl [(xh, .inr (8, G8 xa xtrialRule xdropRule xtoday)), ((xa 4), .inl (E 4, 5, .inr (.inr (.inr (.inr xf4))))), (yh, .inr (5, G5 ya w_32 ystage ysailed yvoyage)), ((ya 5), .inl (E 0, 40, .inl w_30)), ((ya 6), .inl (E 0, 120, .inl w_31))] H := hP
                  have hD := toW hP hD rfl
                  obtain ⟨hw_28_0, hw_28_1⟩ := hw_28
                  have hP9 := hP.sub (ws' := [(xh, .inr (8, G8 xa xtrialRule xdropRule xtoday)), ((xa 4), .inl (E 4, 5, .inr (.inr (.inr (.inr xf4))))), (yh, .inr (5, G5 ya w_32 ystage ysailed yvoyage)), ((ya 5), .inl (E 0, 40, .inl w_30)), ((ya 6), .inl (E 0, 120, .inl w_31))]) [0, 1, 2, 3, 4] rfl
                  have hD9 := hD.sub (ws' := [(xh, .inr (8, G8 xa xtrialRule xdropRule xtoday)), ((xa 4), .inl (E 4, 5, .inr (.inr (.inr (.inr xf4))))), (yh, .inr (5, G5 ya w_32 ystage ysailed yvoyage)), ((ya 5), .inl (E 0, 40, .inl w_30)), ((ya 6), .inl (E 0, 120, .inl w_31))]) [0, 1, 2, 3, 4] (by decide) rfl
                  exact W.iret (v := r_27) hx hb hr (fun t ht hW => ⟨⟨r_27, (w_30, w_31, w_32), rfl, ⟨(by (try dsimp only); omega), (by have hm := hw_22; (try dsimp only); have ha := hw_28_1; rcases ha with h9 | h9; {exact Or.inr (Or.inr (Or.inr ⟨by omega, by omega, by rcases hm with q | q; {exact q.2}; {exfalso; have := q.1; omega}, by omega, by omega, by omega, h9.2.2.2.1, h9.2.2.2.2⟩))}; {exfalso; omega})⟩, by rw [ht]; exact hP9, hD9⟩, hS.F ht⟩) hS.2.2 dX8_sight_101
                ·
                  have ic_26 : 40 ≤ ysights.toInt := by first | exact (g_le t_40 rfl).mp c_26 | (have h := mt (g_lt rfl t_40).mpr c_26; omega)
                  clear c_26
                  refine lv_bipush (v := (-5)) hx hb dX8_sight_87 (by decide) ?_
                  have hP9 := hP.sub (ws' := [(xh, .inr (8, G8 xa xtrialRule xdropRule xtoday)), ((xa 4), .inl (E 4, 5, .inr (.inr (.inr (.inr xf4))))), (yh, .inr (5, G5 ya ysights ystage ysailed yvoyage)), ((ya 5), .inl (E 0, 40, .inl yf5)), ((ya 6), .inl (E 0, 120, .inl yf6))]) [0, 1, 2, 3, 4] rfl
                  have hD9 := hD.sub (ws' := [(xh, .inr (8, G8 xa xtrialRule xdropRule xtoday)), ((xa 4), .inl (E 4, 5, .inr (.inr (.inr (.inr xf4))))), (yh, .inr (5, G5 ya ysights ystage ysailed yvoyage)), ((ya 5), .inl (E 0, 40, .inl yf5)), ((ya 6), .inl (E 0, 120, .inl yf6))]) [0, 1, 2, 3, 4] (by decide) rfl
                  exact W.iret (v := (-5)) hx hb hr (fun t ht hW => ⟨⟨(-5), (yf5, yf6, ysights), rfl, ⟨(by (try dsimp only); omega), (by have hl := t_m5; (try dsimp only); exact Or.inr (Or.inr (Or.inl ⟨by omega, by omega, rfl, rfl, rfl⟩)))⟩, by rw [ht]; exact hP9, hD9⟩, hS.F ht⟩) hS.2.2 dX8_sight_89
              ·
                have ic_25 : ystage.toInt ≠ 1 := mt (g_eq rfl t_1).mpr c_25
                clear c_25
                refine lv_bipush (v := (-4)) hx hb dX8_sight_74 (by decide) ?_
                have hP9 := hP.sub (ws' := [(xh, .inr (8, G8 xa xtrialRule xdropRule xtoday)), ((xa 4), .inl (E 4, 5, .inr (.inr (.inr (.inr xf4))))), (yh, .inr (5, G5 ya ysights ystage ysailed yvoyage)), ((ya 5), .inl (E 0, 40, .inl yf5)), ((ya 6), .inl (E 0, 120, .inl yf6))]) [0, 1, 2, 3, 4] rfl
                have hD9 := hD.sub (ws' := [(xh, .inr (8, G8 xa xtrialRule xdropRule xtoday)), ((xa 4), .inl (E 4, 5, .inr (.inr (.inr (.inr xf4))))), (yh, .inr (5, G5 ya ysights ystage ysailed yvoyage)), ((ya 5), .inl (E 0, 40, .inl yf5)), ((ya 6), .inl (E 0, 120, .inl yf6))]) [0, 1, 2, 3, 4] (by decide) rfl
                exact W.iret (v := (-4)) hx hb hr (fun t ht hW => ⟨⟨(-4), (yf5, yf6, ysights), rfl, ⟨(by (try dsimp only); omega), (by have hl := t_m4; (try dsimp only); exact Or.inr (Or.inl ⟨by omega, by omega, rfl, rfl, rfl⟩))⟩, by rw [ht]; exact hP9, hD9⟩, hS.F ht⟩) hS.2.2 dX8_sight_76
            ·
              have ic_24 : r_21.toInt = 0 := (g_eq rfl t_0).mp c_24
              clear c_24
              refine lv_iconst (v := (-1)) hx hb dX8_sight_63 (by decide) ?_
              have hP9 := hP.sub (ws' := [(xh, .inr (8, G8 xa xtrialRule xdropRule xtoday)), ((xa 4), .inl (E 4, 5, .inr (.inr (.inr (.inr xf4))))), (yh, .inr (5, G5 ya ysights ystage ysailed yvoyage)), ((ya 5), .inl (E 0, 40, .inl yf5)), ((ya 6), .inl (E 0, 120, .inl yf6))]) [0, 1, 2, 3, 4] rfl
              have hD9 := hD.sub (ws' := [(xh, .inr (8, G8 xa xtrialRule xdropRule xtoday)), ((xa 4), .inl (E 4, 5, .inr (.inr (.inr (.inr xf4))))), (yh, .inr (5, G5 ya ysights ystage ysailed yvoyage)), ((ya 5), .inl (E 0, 40, .inl yf5)), ((ya 6), .inl (E 0, 120, .inl yf6))]) [0, 1, 2, 3, 4] (by decide) rfl
              exact W.iret (v := (-1)) hx hb hr (fun t ht hW => ⟨⟨(-1), (yf5, yf6, ysights), rfl, ⟨(by (try dsimp only); omega), (by have hl := t_m1; have hm := hw_22; (try dsimp only); exact Or.inl ⟨by omega, Or.inr (fun hh => by rcases hm with h9 | h9; {have := h9.1; omega}; {exact h9.2 hh}), rfl, rfl, rfl⟩)⟩, by rw [ht]; exact hP9, hD9⟩, hS.F ht⟩) hS.2.2 dX8_sight_64
          ·
            try simp only [t_2000000] at hw_18
            refine W_top (y := .int 0) (by rw [hr_17]) ?_
            refine lv_if_ne (tgt := 46) hx hb dX8_sight_41 (by decide) (fun c_33 => absurd (by decide) c_33) (fun c_33 => ?_)
            refine lv_iconst (v := (-1)) hx hb dX8_sight_44 (by decide) ?_
            have hP9 := hP.sub (ws' := [(xh, .inr (8, G8 xa xtrialRule xdropRule xtoday)), ((xa 4), .inl (E 4, 5, .inr (.inr (.inr (.inr xf4))))), (yh, .inr (5, G5 ya ysights ystage ysailed yvoyage)), ((ya 5), .inl (E 0, 40, .inl yf5)), ((ya 6), .inl (E 0, 120, .inl yf6))]) [0, 1, 2, 3, 4] rfl
            have hD9 := hD.sub (ws' := [(xh, .inr (8, G8 xa xtrialRule xdropRule xtoday)), ((xa 4), .inl (E 4, 5, .inr (.inr (.inr (.inr xf4))))), (yh, .inr (5, G5 ya ysights ystage ysailed yvoyage)), ((ya 5), .inl (E 0, 40, .inl yf5)), ((ya 6), .inl (E 0, 120, .inl yf6))]) [0, 1, 2, 3, 4] (by decide) rfl
            exact W.iret (v := (-1)) hx hb hr (fun t ht hW => ⟨⟨(-1), (yf5, yf6, ysights), rfl, ⟨(by (try dsimp only); omega), (by have hl := t_m1; (try dsimp only); exact Or.inl ⟨by omega, Or.inl (by omega), rfl, rfl, rfl⟩)⟩, by rw [ht]; exact hP9, hD9⟩, hS.F ht⟩) hS.2.2 dX8_sight_45
        ·
          try simp only [t_2000000] at hw_14
          refine W_top (y := .int 0) (by rw [hr_13]) ?_
          refine lv_if_eq (tgt := 44) hx hb dX8_sight_31 (by decide) (fun c_34 => ?_) (fun c_34 => absurd (by decide) c_34)
          refine lv_iconst (v := (-1)) hx hb dX8_sight_44 (by decide) ?_
          have hP9 := hP.sub (ws' := [(xh, .inr (8, G8 xa xtrialRule xdropRule xtoday)), ((xa 4), .inl (E 4, 5, .inr (.inr (.inr (.inr xf4))))), (yh, .inr (5, G5 ya ysights ystage ysailed yvoyage)), ((ya 5), .inl (E 0, 40, .inl yf5)), ((ya 6), .inl (E 0, 120, .inl yf6))]) [0, 1, 2, 3, 4] rfl
          have hD9 := hD.sub (ws' := [(xh, .inr (8, G8 xa xtrialRule xdropRule xtoday)), ((xa 4), .inl (E 4, 5, .inr (.inr (.inr (.inr xf4))))), (yh, .inr (5, G5 ya ysights ystage ysailed yvoyage)), ((ya 5), .inl (E 0, 40, .inl yf5)), ((ya 6), .inl (E 0, 120, .inl yf6))]) [0, 1, 2, 3, 4] (by decide) rfl
          exact W.iret (v := (-1)) hx hb hr (fun t ht hW => ⟨⟨(-1), (yf5, yf6, ysights), rfl, ⟨(by (try dsimp only); omega), (by have hl := t_m1; (try dsimp only); exact Or.inl ⟨by omega, Or.inl (by omega), rfl, rfl, rfl⟩)⟩, by rw [ht]; exact hP9, hD9⟩, hS.F ht⟩) hS.2.2 dX8_sight_45
      ·
        try simp only [t_2000000] at hw_10
        refine W_top (y := .int 0) (by rw [hr_9]) ?_
        refine lv_if_eq (tgt := 44) hx hb dX8_sight_21 (by decide) (fun c_35 => ?_) (fun c_35 => absurd (by decide) c_35)
        refine lv_iconst (v := (-1)) hx hb dX8_sight_44 (by decide) ?_
        have hP9 := hP.sub (ws' := [(xh, .inr (8, G8 xa xtrialRule xdropRule xtoday)), ((xa 4), .inl (E 4, 5, .inr (.inr (.inr (.inr xf4))))), (yh, .inr (5, G5 ya ysights ystage ysailed yvoyage)), ((ya 5), .inl (E 0, 40, .inl yf5)), ((ya 6), .inl (E 0, 120, .inl yf6))]) [0, 1, 2, 3, 4] rfl
        have hD9 := hD.sub (ws' := [(xh, .inr (8, G8 xa xtrialRule xdropRule xtoday)), ((xa 4), .inl (E 4, 5, .inr (.inr (.inr (.inr xf4))))), (yh, .inr (5, G5 ya ysights ystage ysailed yvoyage)), ((ya 5), .inl (E 0, 40, .inl yf5)), ((ya 6), .inl (E 0, 120, .inl yf6))]) [0, 1, 2, 3, 4] (by decide) rfl
        exact W.iret (v := (-1)) hx hb hr (fun t ht hW => ⟨⟨(-1), (yf5, yf6, ysights), rfl, ⟨(by (try dsimp only); omega), (by have hl := t_m1; (try dsimp only); exact Or.inl ⟨by omega, Or.inl (by omega), rfl, rfl, rfl⟩)⟩, by rw [ht]; exact hP9, hD9⟩, hS.F ht⟩) hS.2.2 dX8_sight_45
    ·
      refine W_top (y := .int 0) (by rw [hr_5]) ?_
      refine lv_if_eq (tgt := 44) hx hb dX8_sight_12 (by decide) (fun c_36 => ?_) (fun c_36 => absurd (by decide) c_36)
      refine lv_iconst (v := (-1)) hx hb dX8_sight_44 (by decide) ?_
      have hP9 := hP.sub (ws' := [(xh, .inr (8, G8 xa xtrialRule xdropRule xtoday)), ((xa 4), .inl (E 4, 5, .inr (.inr (.inr (.inr xf4))))), (yh, .inr (5, G5 ya ysights ystage ysailed yvoyage)), ((ya 5), .inl (E 0, 40, .inl yf5)), ((ya 6), .inl (E 0, 120, .inl yf6))]) [0, 1, 2, 3, 4] rfl
      have hD9 := hD.sub (ws' := [(xh, .inr (8, G8 xa xtrialRule xdropRule xtoday)), ((xa 4), .inl (E 4, 5, .inr (.inr (.inr (.inr xf4))))), (yh, .inr (5, G5 ya ysights ystage ysailed yvoyage)), ((ya 5), .inl (E 0, 40, .inl yf5)), ((ya 6), .inl (E 0, 120, .inl yf6))]) [0, 1, 2, 3, 4] (by decide) rfl
      exact W.iret (v := (-1)) hx hb hr (fun t ht hW => ⟨⟨(-1), (yf5, yf6, ysights), rfl, ⟨(by (try dsimp only); omega), (by have hl := t_m1; (try dsimp only); exact Or.inl ⟨by omega, Or.inl (by omega), rfl, rfl, rfl⟩)⟩, by rw [ht]; exact hP9, hD9⟩, hS.F ht⟩) hS.2.2 dX8_sight_45
  ·
    refine W_top (y := .int 0) (by rw [hr_1]) ?_
    refine lv_if_eq (tgt := 44) hx hb dX8_sight_4 (by decide) (fun c_37 => ?_) (fun c_37 => absurd (by decide) c_37)
    refine lv_iconst (v := (-1)) hx hb dX8_sight_44 (by decide) ?_
    have hP9 := hP.sub (ws' := [(xh, .inr (8, G8 xa xtrialRule xdropRule xtoday)), ((xa 4), .inl (E 4, 5, .inr (.inr (.inr (.inr xf4))))), (yh, .inr (5, G5 ya ysights ystage ysailed yvoyage)), ((ya 5), .inl (E 0, 40, .inl yf5)), ((ya 6), .inl (E 0, 120, .inl yf6))]) [0, 1, 2, 3, 4] rfl
    have hD9 := hD.sub (ws' := [(xh, .inr (8, G8 xa xtrialRule xdropRule xtoday)), ((xa 4), .inl (E 4, 5, .inr (.inr (.inr (.inr xf4))))), (yh, .inr (5, G5 ya ysights ystage ysailed yvoyage)), ((ya 5), .inl (E 0, 40, .inl yf5)), ((ya 6), .inl (E 0, 120, .inl yf6))]) [0, 1, 2, 3, 4] (by decide) rfl
    exact W.iret (v := (-1)) hx hb hr (fun t ht hW => ⟨⟨(-1), (yf5, yf6, ysights), rfl, ⟨(by (try dsimp only); omega), (by have hl := t_m1; (try dsimp only); exact Or.inl ⟨by omega, Or.inl (by omega), rfl, rfl, rfl⟩)⟩, by rw [ht]; exact hP9, hD9⟩, hS.F ht⟩) hS.2.2 dX8_sight_45
set_option maxHeartbeats 4000000 in
set_option maxRecDepth 100000 in
theorem g_X8_droppedOf (l : Launch) (D : va_G) (E : Nat → Nat) (xh : Nat) (xa : Nat → Nat) (xtrialRule : Nat) (xdropRule : Nat) (xtoday : Int32) (xf5 : Nat → Int32) (yh : Nat) (ya : Nat → Nat) (ysights : Int32) (ystage : Int32) (ysailed : Int32) (yvoyage : Int32) (yf1 : Nat → Int32) (yf2 : Nat → Int32) (yf3 : Nat → Int32) (yf4 : Nat → Int32) (yf5 : Nat → Int32) (yf6 : Nat → Int32) (u2a : Nat → Nat) (u2size : Int32) (u2f0 : Nat → Int32) (u2f1 : Nat → Int32) (u2f2 : Nat → Int32) (p1 : Int32) (sz : Nat) (hi_x : (0 ≤ xtoday.toInt ∧ xtoday.toInt ≤ 399)) (hi_y : (0 ≤ ysights.toInt ∧ ysights.toInt ≤ 40)) (hi_u2 : (0 ≤ u2size.toInt ∧ u2size.toInt ≤ 120)) : Met l yX8_droppedOf (wl yX8_droppedOf cX8_droppedOf 7 (some .int)) (RM 4 0 0) (mu_P D E [.ref xh, .ref yh, .int p1] [(xh, .inr (8, G8 xa xtrialRule xdropRule xtoday)), ((xa 5), .inl (E 0, 9, .inl xf5)), (yh, .inr (5, G5 ya ysights ystage ysailed yvoyage)), ((ya 1), .inl (E 0, 3, .inl yf1)), ((ya 2), .inl (E 0, 3, .inl yf2)), ((ya 3), .inl (E 0, 3, .inl yf3)), ((ya 4), .inl (E 0, 3, .inl yf4)), ((ya 5), .inl (E 0, 40, .inl yf5)), ((ya 6), .inl (E 0, 120, .inl yf6)), (xdropRule, .inr (4, G4 u2a u2size)), ((u2a 0), .inl (E 0, 120, .inl u2f0)), ((u2a 1), .inl (E 0, 120, .inl u2f1)), ((u2a 2), .inl (E 0, 120, .inl u2f2))] sz) (va_Qi (fun (r : Int32) (u : (Nat → Int32) × (Nat → Int32)) => ((0 ≤ p1.toInt ∧ p1.toInt < ysights.toInt) → DRX (fun k => tmX ystage yvoyage ysailed yf1 yf2 yf4 yf5 yf6 p1 (Int32.ofNat k)) yf3 (yf5 (p1).toNatClampNeg - ysailed) u2f0 u2f1 u2size r.toInt)) (mu_B D (va_A [(xh, .inr (8, G8 xa xtrialRule xdropRule xtoday)), ((xa 5), .inl (E 0, 9, .inl xf5)), (yh, .inr (5, G5 ya ysights ystage ysailed yvoyage)), ((ya 1), .inl (E 0, 3, .inl yf1)), ((ya 2), .inl (E 0, 3, .inl yf2)), ((ya 3), .inl (E 0, 3, .inl yf3)), ((ya 4), .inl (E 0, 3, .inl yf4)), ((ya 5), .inl (E 0, 40, .inl yf5)), ((ya 6), .inl (E 0, 120, .inl yf6)), (xdropRule, .inr (4, G4 u2a u2size)), ((u2a 0), .inl (E 0, 120, .inl u2f0)), ((u2a 1), .inl (E 0, 120, .inl u2f1)), ((u2a 2), .inl (E 0, 120, .inl u2f2))] sz) (fun (u : (Nat → Int32) × (Nat → Int32)) => [(xh, .inr (8, G8 xa xtrialRule xdropRule xtoday)), ((xa 5), .inl (E 0, 9, .inl u.2)), (yh, .inr (5, G5 ya ysights ystage ysailed yvoyage)), ((ya 1), .inl (E 0, 3, .inl yf1)), ((ya 2), .inl (E 0, 3, .inl yf2)), ((ya 3), .inl (E 0, 3, .inl yf3)), ((ya 4), .inl (E 0, 3, .inl yf4)), ((ya 5), .inl (E 0, 40, .inl yf5)), ((ya 6), .inl (E 0, 120, .inl yf6)), (xdropRule, .inr (4, G4 u2a u2size)), ((u2a 0), .inl (E 0, 120, .inl u2f0)), ((u2a 1), .inl (E 0, 120, .inl u2f1)), ((u2a 2), .inl (E 0, 120, .inl u.1))])) (va_A [(xh, .inr (8, G8 xa xtrialRule xdropRule xtoday)), ((xa 5), .inl (E 0, 9, .inl xf5)), (yh, .inr (5, G5 ya ysights ystage ysailed yvoyage)), ((ya 1), .inl (E 0, 3, .inl yf1)), ((ya 2), .inl (E 0, 3, .inl yf2)), ((ya 3), .inl (E 0, 3, .inl yf3)), ((ya 4), .inl (E 0, 3, .inl yf4)), ((ya 5), .inl (E 0, 40, .inl yf5)), ((ya 6), .inl (E 0, 120, .inl yf6)), (xdropRule, .inr (4, G4 u2a u2size)), ((u2a 0), .inl (E 0, 120, .inl u2f0)), ((u2a 1), .inl (E 0, 120, .inl u2f1)), ((u2a 2), .inl (E 0, 120, .inl u2f2))] sz)) 0 0 (va_A [(xh, .inr (8, G8 xa xtrialRule xdropRule xtoday)), ((xa 5), .inl (E 0, 9, .inl xf5)), (yh, .inr (5, G5 ya ysights ystage ysailed yvoyage)), ((ya 1), .inl (E 0, 3, .inl yf1)), ((ya 2), .inl (E 0, 3, .inl yf2)), ((ya 3), .inl (E 0, 3, .inl yf3)), ((ya 4), .inl (E 0, 3, .inl yf4)), ((ya 5), .inl (E 0, 40, .inl yf5)), ((ya 6), .inl (E 0, 120, .inl yf6)), (xdropRule, .inr (4, G4 u2a u2size)), ((u2a 0), .inl (E 0, 120, .inl u2f0)), ((u2a 1), .inl (E 0, 120, .inl u2f1)), ((u2a 2), .inl (E 0, 120, .inl u2f2))] sz) := by
  refine Met.ofW (cc := cX8_droppedOf) (maxL := 7) (ret := (some .int)) (by decide) rfl ?_
  intro p e s m args below meth c s₁ B hml hv
  obtain ⟨rfl, hsz, hP, hK, hD0⟩ := hv
  have hx := B.exec; have hb := B.bytes; have hr := B.returns
  have hts := atoms_spec (ws := wl yX8_droppedOf cX8_droppedOf 7 (some .int)) B.pre
  have htb : ∀ w ∈ tb, w.before _ s = true := fun w h => hts w (List.mem_cons_of_mem _ h)
  have hown : s.vm.findClass RX8 = some m.cls := findClass_of_methodNamed B.named
  have hlocks := B.notSynchronized
  subst hsz
  have hD := hD0.self (sz := s.heap.size)
  generalize hAe : va_A [(xh, .inr (8, G8 xa xtrialRule xdropRule xtoday)), ((xa 5), .inl (E 0, 9, .inl xf5)), (yh, .inr (5, G5 ya ysights ystage ysailed yvoyage)), ((ya 1), .inl (E 0, 3, .inl yf1)), ((ya 2), .inl (E 0, 3, .inl yf2)), ((ya 3), .inl (E 0, 3, .inl yf3)), ((ya 4), .inl (E 0, 3, .inl yf4)), ((ya 5), .inl (E 0, 40, .inl yf5)), ((ya 6), .inl (E 0, 120, .inl yf6)), (xdropRule, .inr (4, G4 u2a u2size)), ((u2a 0), .inl (E 0, 120, .inl u2f0)), ((u2a 1), .inl (E 0, 120, .inl u2f1)), ((u2a 2), .inl (E 0, 120, .inl u2f2))] s.heap.size = A at hD ⊢
  have hA : ∀ q : Nat, s.heap.size ≤ q → A q := fun q h => by rw [← hAe]; exact Or.inr h
  have hS : va_S A s.heap s.heap [] := va_S.rf
  have hP : va_P D vwCl [(xh, .inr (8, G8 xa xtrialRule xdropRule xtoday)), ((xa 5), .inl (E 0, 9, .inl xf5)), (yh, .inr (5, G5 ya ysights ystage ysailed yvoyage)), ((ya 1), .inl (E 0, 3, .inl yf1)), ((ya 2), .inl (E 0, 3, .inl yf2)), ((ya 3), .inl (E 0, 3, .inl yf3)), ((ya 4), .inl (E 0, 3, .inl yf4)), ((ya 5), .inl (E 0, 40, .inl yf5)), ((ya 6), .inl (E 0, 120, .inl yf6)), (xdropRule, .inr (4, G4 u2a u2size)), ((u2a 0), .inl (E 0, 120, .inl u2f0)), ((u2a 1), .inl (E 0, 120, .inl u2f1)), ((u2a 2), .inl (E 0, 120, .inl u2f2))] s.heap := hP
  have hl := lv_entry ([.ref xh, .ref yh, .int p1]) (n := 7) (Nat.le_of_ble_eq_true rfl)
  rw [lg_entry_eq]
  generalize (lg_sl ([.ref xh, .ref yh, .int p1]) ++ List.replicate (7 - (lg_sl ([.ref xh, .ref yh, .int p1])).length) Slot.unset).toArray = ls at hl ⊢
  have hl : lv_has ls 7 [(0, .ref xh), (1, .ref yh), (2, .int p1)] := hl
  have lo_p1 := i_lo p1; have hi_p1 := i_hi p1
  refine lv_iconst (v := (-1)) hx hb dX8_droppedOf_0 (by decide) ?_
  refine lv_istore_n (lv' := [(3, .int (-1)), (0, .ref xh), (1, .ref yh), (2, .int p1)]) hx hb dX8_droppedOf_1 rfl hl (by decide) rfl (fun ls hl => ?_)
  refine lv_aload_n hx hb dX8_droppedOf_2 rfl (lv_at hl 1 rfl) ?_
  refine va_get (D := D) (ci := 8) (v := .ref xdropRule) (C := RX8) (T := TX8) (N := 14) hx hb htb iX8 hown hK.1 hP 0 rfl rfl 12 (by decide) (htb _ k_284) (fun _ h9 => h9) rfl dX8_droppedOf_3 ?_
  refine va_getN (D := D) (ci := 4) (v := .int u2size) (C := RX4) (T := TX4) (N := 4) hx hb htb iX4 hown hK.1 hP 9 rfl rfl 3 (by decide) (va_Nw.use rfl (hK.2.1 (Cond.fieldLinkNest RX8 327 "SeaWatches$Rule" "size" "I" "SeaWatches") (by decide +kernel))) (fun _ h9 => h9) rfl dX8_droppedOf_6 ?_
  refine lv_if_ne (tgt := 14) hx hb dX8_droppedOf_9 (by decide) (fun c_1 => ?_) (fun c_1 => ?_)
  ·
    have ic_1 : u2size.toInt ≠ 0 := mt (g_eq rfl t_0).mpr c_1
    clear c_1
    refine lv_iconst (v := 0) hx hb dX8_droppedOf_14 (by decide) ?_
    refine lv_istore (lv' := [(4, .int 0), (3, .int (-1)), (0, .ref xh), (1, .ref yh), (2, .int p1)]) hx hb dX8_droppedOf_15 hl (by decide) rfl (fun ls hl => ?_)
    refine lv_iconst (v := 0) hx hb dX8_droppedOf_17 (by decide) ?_
    refine lv_istore (lv' := [(5, .int 0), (4, .int 0), (3, .int (-1)), (0, .ref xh), (1, .ref yh), (2, .int p1)]) hx hb dX8_droppedOf_18 hl (by decide) rfl (fun ls hl => ?_)
    have loop_2 : ∀ (N_4 : Nat) (L5_20 : Int32) (xf5_20 : Nat → Int32) (u2f2_20 : Nat → Int32) (L4_20 : Int32) (L3_20 : Int32) (H : Heap) (locs : List Loc) (ls : Array Slot), 3 - L5_20.toInt < (N_4 : Int) → (0 ≤ L5_20.toInt ∧ L5_20.toInt ≤ 3) → ((0 ≤ p1.toInt ∧ p1.toInt < ysights.toInt) → DPP (TDX (fun k => tmX ystage yvoyage ysailed yf1 yf2 yf4 yf5 yf6 p1 (Int32.ofNat k)) yf3 (yf5 (p1).toNatClampNeg - ysailed) u2f0 u2f1 u2size) (L5_20).toNatClampNeg L3_20.toInt L4_20.toInt) → va_P D vwCl [(xh, .inr (8, G8 xa xtrialRule xdropRule xtoday)), ((xa 5), .inl (E 0, 9, .inl xf5_20)), (yh, .inr (5, G5 ya ysights ystage ysailed yvoyage)), ((ya 1), .inl (E 0, 3, .inl yf1)), ((ya 2), .inl (E 0, 3, .inl yf2)), ((ya 3), .inl (E 0, 3, .inl yf3)), ((ya 4), .inl (E 0, 3, .inl yf4)), ((ya 5), .inl (E 0, 40, .inl yf5)), ((ya 6), .inl (E 0, 120, .inl yf6)), (xdropRule, .inr (4, G4 u2a u2size)), ((u2a 0), .inl (E 0, 120, .inl u2f0)), ((u2a 1), .inl (E 0, 120, .inl u2f1)), ((u2a 2), .inl (E 0, 120, .inl u2f2_20))] H → va_D A [(xh, .inr (8, G8 xa xtrialRule xdropRule xtoday)), ((xa 5), .inl (E 0, 9, .inl xf5_20)), (yh, .inr (5, G5 ya ysights ystage ysailed yvoyage)), ((ya 1), .inl (E 0, 3, .inl yf1)), ((ya 2), .inl (E 0, 3, .inl yf2)), ((ya 3), .inl (E 0, 3, .inl yf3)), ((ya 4), .inl (E 0, 3, .inl yf4)), ((ya 5), .inl (E 0, 40, .inl yf5)), ((ya 6), .inl (E 0, 120, .inl yf6)), (xdropRule, .inr (4, G4 u2a u2size)), ((u2a 0), .inl (E 0, 120, .inl u2f0)), ((u2a 1), .inl (E 0, 120, .inl u2f1)), ((u2a 2), .inl (E 0, 120, .inl u2f2_20))] → va_S A s.heap H locs → lv_has ls 7 [(5, .int L5_20), (4, .int L4_20), (3, .int L3_20), (0, .ref xh), (1, .ref yh), (2, .int p1)] → W p l e (headSpec (wl yX8_droppedOf cX8_droppedOf 7 (some .int)) (RM 4 0 0)).room s m [Value.ref xh, .ref yh, .int p1].toArray below meth c H locs 0 0 (MQ below (va_Qi (fun (r : Int32) (u : (Nat → Int32) × (Nat → Int32)) => ((0 ≤ p1.toInt ∧ p1.toInt < ysights.toInt) → DRX (fun k => tmX ystage yvoyage ysailed yf1 yf2 yf4 yf5 yf6 p1 (Int32.ofNat k)) yf3 (yf5 (p1).toNatClampNeg - ysailed) u2f0 u2f1 u2size r.toInt)) (mu_B D A (fun (u : (Nat → Int32) × (Nat → Int32)) => [(xh, .inr (8, G8 xa xtrialRule xdropRule xtoday)), ((xa 5), .inl (E 0, 9, .inl u.2)), (yh, .inr (5, G5 ya ysights ystage ysailed yvoyage)), ((ya 1), .inl (E 0, 3, .inl yf1)), ((ya 2), .inl (E 0, 3, .inl yf2)), ((ya 3), .inl (E 0, 3, .inl yf3)), ((ya 4), .inl (E 0, 3, .inl yf4)), ((ya 5), .inl (E 0, 40, .inl yf5)), ((ya 6), .inl (E 0, 120, .inl yf6)), (xdropRule, .inr (4, G4 u2a u2size)), ((u2a 0), .inl (E 0, 120, .inl u2f0)), ((u2a 1), .inl (E 0, 120, .inl u2f1)), ((u2a 2), .inl (E 0, 120, .inl u.1))])) A) [Value.ref xh, .ref yh, .int p1].toArray s 0 0 A) (F0 m 20 ls []) := by
      intro N_4
      induction N_4 with
      | zero => intro L5_20 xf5_20 u2f2_20 L4_20 L3_20 H locs ls hm v0_20 v1_20 _ _ _ _; exfalso; omega
      | succ N_4 ih_3 =>
        intro L5_20 xf5_20 u2f2_20 L4_20 L3_20 H locs ls hm v0_20 v1_20 hP hD hS hl
        have lo_L5_20 := i_lo L5_20; have hi_L5_20 := i_hi L5_20
        have lo_L4_20 := i_lo L4_20; have hi_L4_20 := i_hi L4_20
        have lo_L3_20 := i_lo L3_20; have hi_L3_20 := i_hi L3_20
        refine lv_iload hx hb dX8_droppedOf_20 (lv_at hl 0 rfl) ?_
        refine lv_iconst (v := 3) hx hb dX8_droppedOf_22 (by decide) ?_
        refine lv_icmp_ge (tgt := 104) hx hb dX8_droppedOf_23 (by decide) (fun c_5 => ?_) (fun c_5 => ?_)
        ·
          have ic_5 : 3 ≤ L5_20.toInt := by first | exact (g_le t_3 rfl).mp c_5 | (have h := mt (g_lt rfl t_3).mpr c_5; omega)
          clear c_5
          refine lv_iload_n hx hb dX8_droppedOf_104 rfl (lv_at hl 2 rfl) ?_
          have hP9 := hP.sub (ws' := [(xh, .inr (8, G8 xa xtrialRule xdropRule xtoday)), ((xa 5), .inl (E 0, 9, .inl xf5_20)), (yh, .inr (5, G5 ya ysights ystage ysailed yvoyage)), ((ya 1), .inl (E 0, 3, .inl yf1)), ((ya 2), .inl (E 0, 3, .inl yf2)), ((ya 3), .inl (E 0, 3, .inl yf3)), ((ya 4), .inl (E 0, 3, .inl yf4)), ((ya 5), .inl (E 0, 40, .inl yf5)), ((ya 6), .inl (E 0, 120, .inl yf6)), (xdropRule, .inr (4, G4 u2a u2size)), ((u2a 0), .inl (E 0, 120, .inl u2f0)), ((u2a 1), .inl (E 0, 120, .inl u2f1)), ((u2a 2), .inl (E 0, 120, .inl u2f2_20))]) [0, 1, 2, 3, 4, 5, 6, 7, 8, 9, 10, 11, 12] rfl
          have hD9 := hD.sub (ws' := [(xh, .inr (8, G8 xa xtrialRule xdropRule xtoday)), ((xa 5), .inl (E 0, 9, .inl xf5_20)), (yh, .inr (5, G5 ya ysights ystage ysailed yvoyage)), ((ya 1), .inl (E 0, 3, .inl yf1)), ((ya 2), .inl (E 0, 3, .inl yf2)), ((ya 3), .inl (E 0, 3, .inl yf3)), ((ya 4), .inl (E 0, 3, .inl yf4)), ((ya 5), .inl (E 0, 40, .inl yf5)), ((ya 6), .inl (E 0, 120, .inl yf6)), (xdropRule, .inr (4, G4 u2a u2size)), ((u2a 0), .inl (E 0, 120, .inl u2f0)), ((u2a 1), .inl (E 0, 120, .inl u2f1)), ((u2a 2), .inl (E 0, 120, .inl u2f2_20))]) [0, 1, 2, 3, 4, 5, 6, 7, 8, 9, 10, 11, 12] (by decide) rfl
          exact W.iret (v := L3_20) hx hb hr (fun t ht hW => ⟨⟨L3_20, (u2f2_20, xf5_20), rfl, (fun hO => by refine Or.inr ⟨by omega, L4_20.toInt, ?_⟩; have e3 : (L5_20).toNatClampNeg = 3 := (by have c9 := i_clamp0 (x := L5_20) (by omega); omega); have v9 := v1_20 hO; rw [e3] at v9; exact v9), by rw [ht]; exact hP9, hD9⟩, hS.F ht⟩) hS.2.2 dX8_droppedOf_105
        ·
          have ic_5 : L5_20.toInt < 3 := by first | exact (g_lt rfl t_3).mp c_5 | (have h := mt (g_le t_3 rfl).mpr c_5; omega)
          clear c_5
          refine lv_aload_n hx hb dX8_droppedOf_26 rfl (lv_at hl 3 rfl) ?_
          refine va_get (D := D) (ci := 8) (v := .ref (xa 5)) (C := RX8) (T := TX8) (N := 14) hx hb htb iX8 hown hK.1 hP 0 rfl rfl 5 (by decide) (htb _ k_277) (fun _ h9 => h9) rfl dX8_droppedOf_27 ?_
          refine lv_iconst (v := 0) hx hb dX8_droppedOf_30 (by decide) ?_
          refine lv_aload_n hx hb dX8_droppedOf_31 rfl (lv_at hl 4 rfl) ?_
          refine lv_iload_n hx hb dX8_droppedOf_32 rfl (lv_at hl 5 rfl) ?_
          refine lv_iload hx hb dX8_droppedOf_33 (lv_at hl 0 rfl) ?_
          refine callRV (rest := [.int 0, .ref (xa 5)]) (As := [.int p1, .int L5_20]) hx hb hml hown htb hK (g_X5_offFromOthers l D E yh ya ysights ystage ysailed yvoyage yf1 yf2 yf4 yf5 yf6 p1 L5_20 (by (try dsimp only); omega) (by (try dsimp only); omega)) ok_X5_offFromOthers k_851 k_852 k_853 k_8 k_854 ⟨(Nat.le_of_ble_eq_true rfl), (Nat.le_of_ble_eq_true rfl)⟩ ⟨(Nat.le_of_ble_eq_true rfl), (Nat.le_of_ble_eq_true rfl)⟩ hl.1 (Nat.le_of_ble_eq_true rfl) rfl rfl dX8_droppedOf_35 (hP.sub (ws' := [(yh, .inr (5, G5 ya ysights ystage ysailed yvoyage)), ((ya 1), .inl (E 0, 3, .inl yf1)), ((ya 2), .inl (E 0, 3, .inl yf2)), ((ya 4), .inl (E 0, 3, .inl yf4)), ((ya 5), .inl (E 0, 40, .inl yf5)), ((ya 6), .inl (E 0, 120, .inl yf6))]) [2, 3, 4, 6, 7, 8] rfl) rfl rfl 0 rfl (fun r_6 hw_7 => ?_)
          refine va_iast hx hb hK.1 hP hD hS 1 0 rfl rfl (g_in t_0 (by decide) (by decide)) dX8_droppedOf_38 (fun H locs hP hD hS => ?_)
          have hP : va_P D vwCl [(xh, .inr (8, G8 xa xtrialRule xdropRule xtoday)), ((xa 5), .inl (E 0, 9, .inl (upd xf5_20 (0 : Int32).toNatClampNeg r_6))), (yh, .inr (5, G5 ya ysights ystage ysailed yvoyage)), ((ya 1), .inl (E 0, 3, .inl yf1)), ((ya 2), .inl (E 0, 3, .inl yf2)), ((ya 3), .inl (E 0, 3, .inl yf3)), ((ya 4), .inl (E 0, 3, .inl yf4)), ((ya 5), .inl (E 0, 40, .inl yf5)), ((ya 6), .inl (E 0, 120, .inl yf6)), (xdropRule, .inr (4, G4 u2a u2size)), ((u2a 0), .inl (E 0, 120, .inl u2f0)), ((u2a 1), .inl (E 0, 120, .inl u2f1)), ((u2a 2), .inl (E 0, 120, .inl u2f2_20))] H := hP
          have hD := toW hP hD rfl
          refine lv_aload_n hx hb dX8_droppedOf_39 rfl (lv_at hl 3 rfl) ?_
          refine va_get (D := D) (ci := 8) (v := .ref (xa 5)) (C := RX8) (T := TX8) (N := 14) hx hb htb iX8 hown hK.1 hP 0 rfl rfl 5 (by decide) (htb _ k_277) (fun _ h9 => h9) rfl dX8_droppedOf_40 ?_
          refine lv_iconst (v := 1) hx hb dX8_droppedOf_43 (by decide) ?_
          refine lv_aload_n hx hb dX8_droppedOf_44 rfl (lv_at hl 4 rfl) ?_
          refine va_getN (D := D) (ci := 5) (v := .ref (ya 3)) (C := RX5) (T := TX5) (N := 11) hx hb htb iX5 hown hK.1 hP 2 rfl rfl 3 (by decide) (va_Nw.use rfl (hK.2.1 (Cond.fieldLinkNest RX8 229 "SeaWatches$Ship" "doubts" "[I" "SeaWatches") (by decide +kernel))) (fun _ h9 => h9) rfl dX8_droppedOf_45 ?_
          refine lv_iload hx hb dX8_droppedOf_48 (lv_at hl 0 rfl) ?_
          refine va_iald hx hb hK.1 hP 5 0 rfl rfl (g_in rfl (by omega) (by omega)) dX8_droppedOf_50 ?_
          refine lv_topi (fun z_9 ez_9 => ?_)
          have kz_9 := congrArg Int32.toInt ez_9
          refine va_iast hx hb hK.1 hP hD hS 1 0 rfl rfl (g_in t_1 (by decide) (by decide)) dX8_droppedOf_51 (fun H locs hP hD hS => ?_)
          have hP : va_P D vwCl [(xh, .inr (8, G8 xa xtrialRule xdropRule xtoday)), ((xa 5), .inl (E 0, 9, .inl (upd (upd xf5_20 (0 : Int32).toNatClampNeg r_6) (1 : Int32).toNatClampNeg z_9))), (yh, .inr (5, G5 ya ysights ystage ysailed yvoyage)), ((ya 1), .inl (E 0, 3, .inl yf1)), ((ya 2), .inl (E 0, 3, .inl yf2)), ((ya 3), .inl (E 0, 3, .inl yf3)), ((ya 4), .inl (E 0, 3, .inl yf4)), ((ya 5), .inl (E 0, 40, .inl yf5)), ((ya 6), .inl (E 0, 120, .inl yf6)), (xdropRule, .inr (4, G4 u2a u2size)), ((u2a 0), .inl (E 0, 120, .inl u2f0)), ((u2a 1), .inl (E 0, 120, .inl u2f1)), ((u2a 2), .inl (E 0, 120, .inl u2f2_20))] H := hP
          have hD := toW hP hD rfl
          refine lv_aload_n hx hb dX8_droppedOf_52 rfl (lv_at hl 3 rfl) ?_
          refine va_get (D := D) (ci := 8) (v := .ref (xa 5)) (C := RX8) (T := TX8) (N := 14) hx hb htb iX8 hown hK.1 hP 0 rfl rfl 5 (by decide) (htb _ k_277) (fun _ h9 => h9) rfl dX8_droppedOf_53 ?_
          refine lv_iconst (v := 2) hx hb dX8_droppedOf_56 (by decide) ?_
          refine lv_aload_n hx hb dX8_droppedOf_57 rfl (lv_at hl 4 rfl) ?_
          refine lv_iload_n hx hb dX8_droppedOf_58 rfl (lv_at hl 5 rfl) ?_
          refine callRV (rest := [.int 2, .ref (xa 5)]) (As := [.int p1]) hx hb hml hown htb hK (g_X5_daysSince l D E yh ya ysights ystage ysailed yvoyage yf5 p1 (by (try dsimp only); omega)) ok_X5_daysSince k_857 k_838 k_839 k_8 k_840 ⟨(Nat.le_of_ble_eq_true rfl), (Nat.le_of_ble_eq_true rfl)⟩ ⟨(Nat.le_of_ble_eq_true rfl), (Nat.le_of_ble_eq_true rfl)⟩ hl.1 (Nat.le_of_ble_eq_true rfl) rfl rfl dX8_droppedOf_59 (hP.sub (ws' := [(yh, .inr (5, G5 ya ysights ystage ysailed yvoyage)), ((ya 5), .inl (E 0, 40, .inl yf5))]) [2, 7] rfl) rfl rfl 0 rfl (fun r_10 hw_11 => ?_)
          refine va_iast hx hb hK.1 hP hD hS 1 0 rfl rfl (g_in t_2 (by decide) (by decide)) dX8_droppedOf_62 (fun H locs hP hD hS => ?_)
          have hP : va_P D vwCl [(xh, .inr (8, G8 xa xtrialRule xdropRule xtoday)), ((xa 5), .inl (E 0, 9, .inl (upd (upd (upd xf5_20 (0 : Int32).toNatClampNeg r_6) (1 : Int32).toNatClampNeg z_9) (2 : Int32).toNatClampNeg r_10))), (yh, .inr (5, G5 ya ysights ystage ysailed yvoyage)), ((ya 1), .inl (E 0, 3, .inl yf1)), ((ya 2), .inl (E 0, 3, .inl yf2)), ((ya 3), .inl (E 0, 3, .inl yf3)), ((ya 4), .inl (E 0, 3, .inl yf4)), ((ya 5), .inl (E 0, 40, .inl yf5)), ((ya 6), .inl (E 0, 120, .inl yf6)), (xdropRule, .inr (4, G4 u2a u2size)), ((u2a 0), .inl (E 0, 120, .inl u2f0)), ((u2a 1), .inl (E 0, 120, .inl u2f1)), ((u2a 2), .inl (E 0, 120, .inl u2f2_20))] H := hP
          have hD := toW hP hD rfl
          refine lv_aload_n hx hb dX8_droppedOf_63 rfl (lv_at hl 3 rfl) ?_
          refine va_get (D := D) (ci := 8) (v := .ref (xa 5)) (C := RX8) (T := TX8) (N := 14) hx hb htb iX8 hown hK.1 hP 0 rfl rfl 5 (by decide) (htb _ k_277) (fun _ h9 => h9) rfl dX8_droppedOf_64 ?_
          refine lv_iconst (v := 3) hx hb dX8_droppedOf_67 (by decide) ?_
          refine lv_iload hx hb dX8_droppedOf_68 (lv_at hl 0 rfl) ?_
          refine va_iast hx hb hK.1 hP hD hS 1 0 rfl rfl (g_in t_3 (by decide) (by decide)) dX8_droppedOf_70 (fun H locs hP hD hS => ?_)
          have hP : va_P D vwCl [(xh, .inr (8, G8 xa xtrialRule xdropRule xtoday)), ((xa 5), .inl (E 0, 9, .inl (upd (upd (upd (upd xf5_20 (0 : Int32).toNatClampNeg r_6) (1 : Int32).toNatClampNeg z_9) (2 : Int32).toNatClampNeg r_10) (3 : Int32).toNatClampNeg L5_20))), (yh, .inr (5, G5 ya ysights ystage ysailed yvoyage)), ((ya 1), .inl (E 0, 3, .inl yf1)), ((ya 2), .inl (E 0, 3, .inl yf2)), ((ya 3), .inl (E 0, 3, .inl yf3)), ((ya 4), .inl (E 0, 3, .inl yf4)), ((ya 5), .inl (E 0, 40, .inl yf5)), ((ya 6), .inl (E 0, 120, .inl yf6)), (xdropRule, .inr (4, G4 u2a u2size)), ((u2a 0), .inl (E 0, 120, .inl u2f0)), ((u2a 1), .inl (E 0, 120, .inl u2f1)), ((u2a 2), .inl (E 0, 120, .inl u2f2_20))] H := hP
          have hD := toW hP hD rfl
          refine lv_aload_n hx hb dX8_droppedOf_71 rfl (lv_at hl 3 rfl) ?_
          refine va_get (D := D) (ci := 8) (v := .ref xdropRule) (C := RX8) (T := TX8) (N := 14) hx hb htb iX8 hown hK.1 hP 0 rfl rfl 12 (by decide) (htb _ k_284) (fun _ h9 => h9) rfl dX8_droppedOf_72 ?_
          refine lv_aload_n hx hb dX8_droppedOf_75 rfl (lv_at hl 3 rfl) ?_
          refine va_get (D := D) (ci := 8) (v := .ref (xa 5)) (C := RX8) (T := TX8) (N := 14) hx hb htb iX8 hown hK.1 hP 0 rfl rfl 5 (by decide) (htb _ k_277) (fun _ h9 => h9) rfl dX8_droppedOf_76 ?_
          have hPc := hP.sub (ws' := [(xdropRule, .inr (4, G4 u2a u2size)), ((u2a 0), .inl (E 0, 120, .inl u2f0)), ((u2a 1), .inl (E 0, 120, .inl u2f1)), ((u2a 2), .inl (E 0, 120, .inl u2f2_20)), ((xa 5), .inl (E 0, 9, .inl (upd (upd (upd (upd xf5_20 (0 : Int32).toNatClampNeg r_6) (1 : Int32).toNatClampNeg z_9) (2 : Int32).toNatClampNeg r_10) (3 : Int32).toNatClampNeg L5_20)))]) [9, 10, 11, 12, 1] rfl
          have hDc := hD.sub (ws' := [(xdropRule, .inr (4, G4 u2a u2size)), ((u2a 0), .inl (E 0, 120, .inl u2f0)), ((u2a 1), .inl (E 0, 120, .inl u2f1)), ((u2a 2), .inl (E 0, 120, .inl u2f2_20)), ((xa 5), .inl (E 0, 9, .inl (upd (upd (upd (upd xf5_20 (0 : Int32).toNatClampNeg r_6) (1 : Int32).toNatClampNeg z_9) (2 : Int32).toNatClampNeg r_10) (3 : Int32).toNatClampNeg L5_20)))]) [9, 10, 11, 12, 1] (by decide) rfl
          refine aft_i (runMV (rest := []) (As := [.ref (xa 5)]) hx hb hml hown htb hK (g_X4_workOut l D E xdropRule u2a u2size u2f0 u2f1 u2f2_20 (xa 5) (upd (upd (upd (upd xf5_20 (0 : Int32).toNatClampNeg r_6) (1 : Int32).toNatClampNeg z_9) (2 : Int32).toNatClampNeg r_10) (3 : Int32).toNatClampNeg L5_20) _ (by (try dsimp only); omega)) ok_X4_workOut k_752 k_753 k_754 k_6 k_755 ⟨(Nat.le_of_ble_eq_true rfl), (Nat.le_of_ble_eq_true rfl)⟩ ⟨(Nat.le_of_ble_eq_true rfl), (Nat.le_of_ble_eq_true rfl)⟩ hl.1 (Nat.le_of_ble_eq_true rfl) rfl rfl dX8_droppedOf_79 hPc hDc rfl rfl 0 rfl) hP hD hS hA [9, 10, 11, 12, 1] [0, 2, 3, 4, 5, 6, 7, 8] (wr := [(xh, .inr (8, G8 xa xtrialRule xdropRule xtoday)), (yh, .inr (5, G5 ya ysights ystage ysailed yvoyage)), ((ya 1), .inl (E 0, 3, .inl yf1)), ((ya 2), .inl (E 0, 3, .inl yf2)), ((ya 3), .inl (E 0, 3, .inl yf3)), ((ya 4), .inl (E 0, 3, .inl yf4)), ((ya 5), .inl (E 0, 40, .inl yf5)), ((ya 6), .inl (E 0, 120, .inl yf6))]) rfl rfl (by decide) (by decide) (fun r_13 u_15 H locs hw_14 hP hD hS => ?_)
          clear hPc hDc
          have hP : va_P D vwCl [(xh, .inr (8, G8 xa xtrialRule xdropRule xtoday)), (yh, .inr (5, G5 ya ysights ystage ysailed yvoyage)), ((ya 1), .inl (E 0, 3, .inl yf1)), ((ya 2), .inl (E 0, 3, .inl yf2)), ((ya 3), .inl (E 0, 3, .inl yf3)), ((ya 4), .inl (E 0, 3, .inl yf4)), ((ya 5), .inl (E 0, 40, .inl yf5)), ((ya 6), .inl (E 0, 120, .inl yf6)), (xdropRule, .inr (4, G4 u2a u2size)), ((u2a 0), .inl (E 0, 120, .inl u2f0)), ((u2a 1), .inl (E 0, 120, .inl u2f1)), ((u2a 2), .inl (E 0, 120, .inl u_15)), ((xa 5), .inl (E 0, 9, .inl (upd (upd (upd (upd xf5_20 (0 : Int32).toNatClampNeg r_6) (1 : Int32).toNatClampNeg z_9) (2 : Int32).toNatClampNeg r_10) (3 : Int32).toNatClampNeg L5_20)))] H := hP
          have hD := toW hP hD rfl
          refine lv_istore (lv' := [(6, .int r_13), (5, .int L5_20), (4, .int L4_20), (3, .int L3_20), (0, .ref xh), (1, .ref yh), (2, .int p1)]) hx hb dX8_droppedOf_82 hl (by decide) rfl (fun ls hl => ?_)
          refine lv_iload hx hb dX8_droppedOf_84 (lv_at hl 0 rfl) ?_
          refine lv_iload hx hb dX8_droppedOf_86 (lv_at hl 2 rfl) ?_
          refine lv_icmp_le (tgt := 98) hx hb dX8_droppedOf_88 (by decide) (fun c_16 => ?_) (fun c_16 => ?_)
          ·
            have ic_16 : r_13.toInt ≤ L4_20.toInt := by first | exact (g_le rfl rfl).mp c_16 | (have h := mt (g_lt rfl rfl).mpr c_16; omega)
            clear c_16
            obtain ⟨z_17, ez_17⟩ : ∃ y : Int32, y = L5_20 + 1 := ⟨_, rfl⟩
            have jz_17 : z_17.toInt = L5_20.toInt + 1 := by rw [ez_17]; exact g_add rfl t_1 (by omega) (by omega)
            refine lv_iinc (v := z_17) (lv' := [(5, .int z_17), (6, .int r_13), (4, .int L4_20), (3, .int L3_20), (0, .ref xh), (1, .ref yh), (2, .int p1)]) hx hb dX8_droppedOf_98 hl (k := 1) rfl (by rw [ez_17]; rfl) (by decide) rfl (fun ls hl => ?_)
            refine lv_goto (tgt := 20) hx hb dX8_droppedOf_101 (by decide) ?_
            have hP := hP.sub (ws' := [(xh, .inr (8, G8 xa xtrialRule xdropRule xtoday)), ((xa 5), .inl (E 0, 9, .inl (upd (upd (upd (upd xf5_20 (0 : Int32).toNatClampNeg r_6) (1 : Int32).toNatClampNeg z_9) (2 : Int32).toNatClampNeg r_10) (3 : Int32).toNatClampNeg L5_20))), (yh, .inr (5, G5 ya ysights ystage ysailed yvoyage)), ((ya 1), .inl (E 0, 3, .inl yf1)), ((ya 2), .inl (E 0, 3, .inl yf2)), ((ya 3), .inl (E 0, 3, .inl yf3)), ((ya 4), .inl (E 0, 3, .inl yf4)), ((ya 5), .inl (E 0, 40, .inl yf5)), ((ya 6), .inl (E 0, 120, .inl yf6)), (xdropRule, .inr (4, G4 u2a u2size)), ((u2a 0), .inl (E 0, 120, .inl u2f0)), ((u2a 1), .inl (E 0, 120, .inl u2f1)), ((u2a 2), .inl (E 0, 120, .inl u_15))]) [0, 12, 1, 2, 3, 4, 5, 6, 7, 8, 9, 10, 11] rfl
            have hD := hD.sub (ws' := [(xh, .inr (8, G8 xa xtrialRule xdropRule xtoday)), ((xa 5), .inl (E 0, 9, .inl (upd (upd (upd (upd xf5_20 (0 : Int32).toNatClampNeg r_6) (1 : Int32).toNatClampNeg z_9) (2 : Int32).toNatClampNeg r_10) (3 : Int32).toNatClampNeg L5_20))), (yh, .inr (5, G5 ya ysights ystage ysailed yvoyage)), ((ya 1), .inl (E 0, 3, .inl yf1)), ((ya 2), .inl (E 0, 3, .inl yf2)), ((ya 3), .inl (E 0, 3, .inl yf3)), ((ya 4), .inl (E 0, 3, .inl yf4)), ((ya 5), .inl (E 0, 40, .inl yf5)), ((ya 6), .inl (E 0, 120, .inl yf6)), (xdropRule, .inr (4, G4 u2a u2size)), ((u2a 0), .inl (E 0, 120, .inl u2f0)), ((u2a 1), .inl (E 0, 120, .inl u2f1)), ((u2a 2), .inl (E 0, 120, .inl u_15))]) [0, 12, 1, 2, 3, 4, 5, 6, 7, 8, 9, 10, 11] (by decide) rfl
            exact ih_3 z_17 (upd (upd (upd (upd xf5_20 (0 : Int32).toNatClampNeg r_6) (1 : Int32).toNatClampNeg z_9) (2 : Int32).toNatClampNeg r_10) (3 : Int32).toNatClampNeg L5_20) u_15 L4_20 L3_20 _ _ _ (by (try dsimp only); omega) (by (try dsimp only); omega) (fun hO => by have hg9 : (upd (upd (upd (upd xf5_20 (0 : Int32).toNatClampNeg r_6) (1 : Int32).toNatClampNeg z_9) (2 : Int32).toNatClampNeg r_10) (3 : Int32).toNatClampNeg L5_20) = (upd (upd (upd (upd xf5_20 0 r_6) 1 z_9) 2 r_10) 3 L5_20) := (by simp only [ci_0, ci_1, ci_2, ci_3]); have hw9 := hw_14; rw [hg9] at hw9; exact DPP_s (v1_20 hO) (by omega) jz_17 ⟨_, ⟨by rw [uq_ne (i := 3) (j := 0) (by decide), uq_ne (i := 2) (j := 0) (by decide), uq_ne (i := 1) (j := 0) (by decide), uq_at]; exact hw_7 hO, by rw [uq_ne (i := 3) (j := 1) (by decide), uq_ne (i := 2) (j := 1) (by decide), uq_at]; exact ez_9, by rw [uq_ne (i := 3) (j := 2) (by decide), uq_at]; exact (hw_11.resolve_right (fun h9 => h9.1 hO)).2, by rw [uq_at]; exact ofN_i (by have c9 := i_clamp0 (x := L5_20) (by omega); omega)⟩, hw9⟩ (Or.inr ⟨by omega, rfl, rfl⟩)) hP hD hS (lv_sub hl [0, 2, 3, 4, 5, 6] rfl)
          ·
            have ic_16 : L4_20.toInt < r_13.toInt := by first | exact (g_lt rfl rfl).mp c_16 | (have h := mt (g_le rfl rfl).mpr c_16; omega)
            clear c_16
            refine lv_iload hx hb dX8_droppedOf_91 (lv_at hl 0 rfl) ?_
            refine lv_istore (lv' := [(4, .int r_13), (6, .int r_13), (5, .int L5_20), (3, .int L3_20), (0, .ref xh), (1, .ref yh), (2, .int p1)]) hx hb dX8_droppedOf_93 hl (by decide) rfl (fun ls hl => ?_)
            refine lv_iload hx hb dX8_droppedOf_95 (lv_at hl 2 rfl) ?_
            refine lv_istore_n (lv' := [(3, .int L5_20), (4, .int r_13), (6, .int r_13), (5, .int L5_20), (0, .ref xh), (1, .ref yh), (2, .int p1)]) hx hb dX8_droppedOf_97 rfl hl (by decide) rfl (fun ls hl => ?_)
            obtain ⟨z_18, ez_18⟩ : ∃ y : Int32, y = L5_20 + 1 := ⟨_, rfl⟩
            have jz_18 : z_18.toInt = L5_20.toInt + 1 := by rw [ez_18]; exact g_add rfl t_1 (by omega) (by omega)
            refine lv_iinc (v := z_18) (lv' := [(5, .int z_18), (3, .int L5_20), (4, .int r_13), (6, .int r_13), (0, .ref xh), (1, .ref yh), (2, .int p1)]) hx hb dX8_droppedOf_98 hl (k := 3) rfl (by rw [ez_18]; rfl) (by decide) rfl (fun ls hl => ?_)
            refine lv_goto (tgt := 20) hx hb dX8_droppedOf_101 (by decide) ?_
            have hP := hP.sub (ws' := [(xh, .inr (8, G8 xa xtrialRule xdropRule xtoday)), ((xa 5), .inl (E 0, 9, .inl (upd (upd (upd (upd xf5_20 (0 : Int32).toNatClampNeg r_6) (1 : Int32).toNatClampNeg z_9) (2 : Int32).toNatClampNeg r_10) (3 : Int32).toNatClampNeg L5_20))), (yh, .inr (5, G5 ya ysights ystage ysailed yvoyage)), ((ya 1), .inl (E 0, 3, .inl yf1)), ((ya 2), .inl (E 0, 3, .inl yf2)), ((ya 3), .inl (E 0, 3, .inl yf3)), ((ya 4), .inl (E 0, 3, .inl yf4)), ((ya 5), .inl (E 0, 40, .inl yf5)), ((ya 6), .inl (E 0, 120, .inl yf6)), (xdropRule, .inr (4, G4 u2a u2size)), ((u2a 0), .inl (E 0, 120, .inl u2f0)), ((u2a 1), .inl (E 0, 120, .inl u2f1)), ((u2a 2), .inl (E 0, 120, .inl u_15))]) [0, 12, 1, 2, 3, 4, 5, 6, 7, 8, 9, 10, 11] rfl
            have hD := hD.sub (ws' := [(xh, .inr (8, G8 xa xtrialRule xdropRule xtoday)), ((xa 5), .inl (E 0, 9, .inl (upd (upd (upd (upd xf5_20 (0 : Int32).toNatClampNeg r_6) (1 : Int32).toNatClampNeg z_9) (2 : Int32).toNatClampNeg r_10) (3 : Int32).toNatClampNeg L5_20))), (yh, .inr (5, G5 ya ysights ystage ysailed yvoyage)), ((ya 1), .inl (E 0, 3, .inl yf1)), ((ya 2), .inl (E 0, 3, .inl yf2)), ((ya 3), .inl (E 0, 3, .inl yf3)), ((ya 4), .inl (E 0, 3, .inl yf4)), ((ya 5), .inl (E 0, 40, .inl yf5)), ((ya 6), .inl (E 0, 120, .inl yf6)), (xdropRule, .inr (4, G4 u2a u2size)), ((u2a 0), .inl (E 0, 120, .inl u2f0)), ((u2a 1), .inl (E 0, 120, .inl u2f1)), ((u2a 2), .inl (E 0, 120, .inl u_15))]) [0, 12, 1, 2, 3, 4, 5, 6, 7, 8, 9, 10, 11] (by decide) rfl
            exact ih_3 z_18 (upd (upd (upd (upd xf5_20 (0 : Int32).toNatClampNeg r_6) (1 : Int32).toNatClampNeg z_9) (2 : Int32).toNatClampNeg r_10) (3 : Int32).toNatClampNeg L5_20) u_15 r_13 L5_20 _ _ _ (by (try dsimp only); omega) (by (try dsimp only); omega) (fun hO => by have hg9 : (upd (upd (upd (upd xf5_20 (0 : Int32).toNatClampNeg r_6) (1 : Int32).toNatClampNeg z_9) (2 : Int32).toNatClampNeg r_10) (3 : Int32).toNatClampNeg L5_20) = (upd (upd (upd (upd xf5_20 0 r_6) 1 z_9) 2 r_10) 3 L5_20) := (by simp only [ci_0, ci_1, ci_2, ci_3]); have hw9 := hw_14; rw [hg9] at hw9; exact DPP_s (v1_20 hO) (by omega) jz_18 ⟨_, ⟨by rw [uq_ne (i := 3) (j := 0) (by decide), uq_ne (i := 2) (j := 0) (by decide), uq_ne (i := 1) (j := 0) (by decide), uq_at]; exact hw_7 hO, by rw [uq_ne (i := 3) (j := 1) (by decide), uq_ne (i := 2) (j := 1) (by decide), uq_at]; exact ez_9, by rw [uq_ne (i := 3) (j := 2) (by decide), uq_at]; exact (hw_11.resolve_right (fun h9 => h9.1 hO)).2, by rw [uq_at]; exact ofN_i (by have c9 := i_clamp0 (x := L5_20) (by omega); omega)⟩, hw9⟩ (Or.inl ⟨by omega, by omega, by omega⟩)) hP hD hS (lv_sub hl [0, 2, 1, 4, 5, 6] rfl)
    exact loop_2 4 0 xf5 u2f2 0 ((-1)) _ _ _ (by have h0 := t_m1; have h1 := t_0; (try dsimp only); omega) (by have h0 := t_m1; have h1 := t_0; (try dsimp only); omega) (fun _ => by rw [clamp_0]; exact ⟨t_m1, t_0⟩) hP hD hS (lv_sub hl [0, 1, 2, 3, 4, 5] rfl)
  ·
    have ic_1 : u2size.toInt = 0 := (g_eq rfl t_0).mp c_1
    clear c_1
    refine lv_iload_n hx hb dX8_droppedOf_12 rfl (lv_at hl 0 rfl) ?_
    have hP9 := hP.sub (ws' := [(xh, .inr (8, G8 xa xtrialRule xdropRule xtoday)), ((xa 5), .inl (E 0, 9, .inl xf5)), (yh, .inr (5, G5 ya ysights ystage ysailed yvoyage)), ((ya 1), .inl (E 0, 3, .inl yf1)), ((ya 2), .inl (E 0, 3, .inl yf2)), ((ya 3), .inl (E 0, 3, .inl yf3)), ((ya 4), .inl (E 0, 3, .inl yf4)), ((ya 5), .inl (E 0, 40, .inl yf5)), ((ya 6), .inl (E 0, 120, .inl yf6)), (xdropRule, .inr (4, G4 u2a u2size)), ((u2a 0), .inl (E 0, 120, .inl u2f0)), ((u2a 1), .inl (E 0, 120, .inl u2f1)), ((u2a 2), .inl (E 0, 120, .inl u2f2))]) [0, 1, 2, 3, 4, 5, 6, 7, 8, 9, 10, 11, 12] rfl
    have hD9 := hD.sub (ws' := [(xh, .inr (8, G8 xa xtrialRule xdropRule xtoday)), ((xa 5), .inl (E 0, 9, .inl xf5)), (yh, .inr (5, G5 ya ysights ystage ysailed yvoyage)), ((ya 1), .inl (E 0, 3, .inl yf1)), ((ya 2), .inl (E 0, 3, .inl yf2)), ((ya 3), .inl (E 0, 3, .inl yf3)), ((ya 4), .inl (E 0, 3, .inl yf4)), ((ya 5), .inl (E 0, 40, .inl yf5)), ((ya 6), .inl (E 0, 120, .inl yf6)), (xdropRule, .inr (4, G4 u2a u2size)), ((u2a 0), .inl (E 0, 120, .inl u2f0)), ((u2a 1), .inl (E 0, 120, .inl u2f1)), ((u2a 2), .inl (E 0, 120, .inl u2f2))]) [0, 1, 2, 3, 4, 5, 6, 7, 8, 9, 10, 11, 12] (by decide) rfl
    exact W.iret (v := (-1)) hx hb hr (fun t ht hW => ⟨⟨(-1), (u2f2, xf5), rfl, (fun _ => by have hl := t_m1; exact Or.inl ⟨by omega, by omega⟩), by rw [ht]; exact hP9, hD9⟩, hS.F ht⟩) hS.2.2 dX8_droppedOf_13
set_option maxHeartbeats 4000000 in
set_option maxRecDepth 100000 in
theorem g_X8_told_T (l : Launch) (D : va_G) (E : Nat → Nat) (xh : Nat) (xa : Nat → Nat) (xtrialRule : Nat) (xdropRule : Nat) (xtoday : Int32) (xf4 : Nat → Option Nat) (p0 : Int32) (p1 : Int32) (p2 : Int32) (hi_x : (0 ≤ xtoday.toInt ∧ xtoday.toInt ≤ 399)) (ht0 : ¬ (0 ≤ p0.toInt ∧ p0.toInt ≤ 4)) : Met l yX8_told (wl yX8_told cX8_told 8 (some .int)) (RM 1 0 0) (rd_P D E [.ref xh, .int p0, .int p1, .int p2] [(xh, .inr (8, G8 xa xtrialRule xdropRule xtoday)), ((xa 4), .inl (E 4, 5, .inr (.inr (.inr (.inr xf4)))))]) (rd_Q (fun r => ((r.toInt = -2000000000)))) 0 0 (fun _ => False) := by
  refine Met.ofW (cc := cX8_told) (maxL := 8) (ret := (some .int)) (by decide) rfl ?_
  intro p e s m args below meth c s₁ B hml hv
  obtain ⟨rfl, hP, hK⟩ := hv
  have hx := B.exec; have hb := B.bytes; have hr := B.returns
  have hts := atoms_spec (ws := wl yX8_told cX8_told 8 (some .int)) B.pre
  have htb : ∀ w ∈ tb, w.before _ s = true := fun w h => hts w (List.mem_cons_of_mem _ h)
  have hown : s.vm.findClass RX8 = some m.cls := findClass_of_methodNamed B.named
  have hlocks := B.notSynchronized
  have hP : va_P D vwCl [(xh, .inr (8, G8 xa xtrialRule xdropRule xtoday)), ((xa 4), .inl (E 4, 5, .inr (.inr (.inr (.inr xf4)))))] s.heap := hP
  have hl := lv_entry ([.ref xh, .int p0, .int p1, .int p2]) (n := 8) (Nat.le_of_ble_eq_true rfl)
  rw [lg_entry_eq]
  generalize (lg_sl ([.ref xh, .int p0, .int p1, .int p2]) ++ List.replicate (8 - (lg_sl ([.ref xh, .int p0, .int p1, .int p2])).length) Slot.unset).toArray = ls at hl ⊢
  have hl : lv_has ls 8 [(0, .ref xh), (1, .int p0), (2, .int p1), (3, .int p2)] := hl
  have lo_p0 := i_lo p0; have hi_p0 := i_hi p0
  have lo_p1 := i_lo p1; have hi_p1 := i_hi p1
  have lo_p2 := i_lo p2; have hi_p2 := i_hi p2
  refine lv_iload_n hx hb dX8_told_0 rfl (lv_at hl 1 rfl) ?_
  refine callRS (rest := []) (As := [.int p0]) hx hb hml hown htb hK (g_X8_isShip l D E p0 ) ok_X8_isShip k_773 k_774 k_1 k_775 ⟨(Nat.le_of_ble_eq_true rfl), (Nat.le_of_ble_eq_true rfl)⟩ ⟨(Nat.le_of_ble_eq_true rfl), (Nat.le_of_ble_eq_true rfl)⟩ hl.1 (Nat.le_of_ble_eq_true rfl) rfl rfl dX8_told_1 (hP.sub (ws' := ([] : va_W)) [] rfl) (fun r_1 hw_2 => ?_)
  rcases hw_2 with ⟨hr_1, hw_2⟩ | ⟨hr_1, hw_2⟩
  ·
    refine W_top (y := .int 1) (by rw [hr_1]) ?_
    refine lv_if_eq (tgt := 34) hx hb dX8_told_4 (by decide) (fun c_4 => absurd c_4 (by decide)) (fun c_4 => ?_)
    refine lv_iload_n hx hb dX8_told_7 rfl (lv_at hl 2 rfl) ?_
    refine lv_if_lt (tgt := 34) hx hb dX8_told_8 (by decide) (fun c_5 => ?_) (fun c_5 => ?_)
    ·
      have ic_5 : p1.toInt < 0 := by first | exact (g_lt rfl t_0).mp c_5 | (have h := mt (g_le t_0 rfl).mpr c_5; omega)
      clear c_5
      refine lv_ldc hx hb hown (htb _ k_386) dX8_told_34 ?_
      exact W.iret (v := (-2000000000)) hx hb hr (fun t ht hW => ⟨(-2000000000), rfl, (by have hl0 := t_m2000000000; (try dsimp only); first | exact (by omega)), ht⟩) (fun q h => by cases h) dX8_told_36
    ·
      have ic_5 : 0 ≤ p1.toInt := by first | exact (g_le t_0 rfl).mp c_5 | (have h := mt (g_lt rfl t_0).mpr c_5; omega)
      clear c_5
      refine lv_iload_n hx hb dX8_told_11 rfl (lv_at hl 2 rfl) ?_
      refine lv_aload_n hx hb dX8_told_12 rfl (lv_at hl 0 rfl) ?_
      refine va_get (D := D) (ci := 8) (v := .ref (xa 4)) (C := RX8) (T := TX8) (N := 14) hx hb htb iX8 hown hK.1 hP 0 rfl rfl 4 (by decide) (htb _ k_276) (fun _ h9 => h9) rfl dX8_told_13 ?_
      refine lv_iload_n hx hb dX8_told_16 rfl (lv_at hl 1 rfl) ?_
      refine va_aldq hx hb hK.1 hP 1 4 rfl rfl (g_in rfl (by omega) (by omega)) dX8_told_17 ?_
      exfalso; omega
  ·
    refine W_top (y := .int 0) (by rw [hr_1]) ?_
    refine lv_if_eq (tgt := 34) hx hb dX8_told_4 (by decide) (fun c_6 => ?_) (fun c_6 => absurd (by decide) c_6)
    refine lv_ldc hx hb hown (htb _ k_386) dX8_told_34 ?_
    exact W.iret (v := (-2000000000)) hx hb hr (fun t ht hW => ⟨(-2000000000), rfl, (by have hl0 := t_m2000000000; (try dsimp only); first | exact (by omega)), ht⟩) (fun q h => by cases h) dX8_told_36
set_option maxHeartbeats 4000000 in
set_option maxRecDepth 100000 in
theorem g_X8_told_S (l : Launch) (D : va_G) (E : Nat → Nat) (xh : Nat) (xa : Nat → Nat) (xtrialRule : Nat) (xdropRule : Nat) (xtoday : Int32) (xf4 : Nat → Option Nat) (xf5 : Nat → Int32) (yh : Nat) (ya : Nat → Nat) (ysights : Int32) (ystage : Int32) (ysailed : Int32) (yvoyage : Int32) (yf1 : Nat → Int32) (yf2 : Nat → Int32) (yf3 : Nat → Int32) (yf4 : Nat → Int32) (yf5 : Nat → Int32) (yf6 : Nat → Int32) (u2a : Nat → Nat) (u2size : Int32) (u2f0 : Nat → Int32) (u2f1 : Nat → Int32) (u2f2 : Nat → Int32) (p0 : Int32) (p1 : Int32) (p2 : Int32) (sz : Nat) (hi_x : (0 ≤ xtoday.toInt ∧ xtoday.toInt ≤ 399)) (hi_y : (0 ≤ ysights.toInt ∧ ysights.toInt ≤ 40)) (hi_u2 : (0 ≤ u2size.toInt ∧ u2size.toInt ≤ 120)) (hs0 : 0 ≤ p0.toInt ∧ p0.toInt ≤ 4) (hy0 : xf4 (p0).toNatClampNeg = some yh) : Met l yX8_told (wl yX8_told cX8_told 8 (some .int)) (RM 5 0 0) (mu_P D E [.ref xh, .int p0, .int p1, .int p2] [(xh, .inr (8, G8 xa xtrialRule xdropRule xtoday)), ((xa 4), .inl (E 4, 5, .inr (.inr (.inr (.inr xf4))))), ((xa 5), .inl (E 0, 9, .inl xf5)), (yh, .inr (5, G5 ya ysights ystage ysailed yvoyage)), ((ya 1), .inl (E 0, 3, .inl yf1)), ((ya 2), .inl (E 0, 3, .inl yf2)), ((ya 3), .inl (E 0, 3, .inl yf3)), ((ya 4), .inl (E 0, 3, .inl yf4)), ((ya 5), .inl (E 0, 40, .inl yf5)), ((ya 6), .inl (E 0, 120, .inl yf6)), (xdropRule, .inr (4, G4 u2a u2size)), ((u2a 0), .inl (E 0, 120, .inl u2f0)), ((u2a 1), .inl (E 0, 120, .inl u2f1)), ((u2a 2), .inl (E 0, 120, .inl u2f2))] sz) (va_Qi (fun (r : Int32) (u : (Nat → Int32) × (Nat → Int32)) => ((¬ ((0 ≤ p1.toInt ∧ p1.toInt < ysights.toInt) ∧ (0 ≤ p2.toInt ∧ p2.toInt ≤ 9)) ∧ r.toInt = -2000000000) ∨ (((0 ≤ p1.toInt ∧ p1.toInt < ysights.toInt) ∧ (0 ≤ p2.toInt ∧ p2.toInt ≤ 9)) ∧ TLD (yf5 (p1).toNatClampNeg) (fun k => tmX ystage yvoyage ysailed yf1 yf2 yf4 yf5 yf6 p1 (Int32.ofNat k)) (fun k => wdX ystage yvoyage ysailed yf3 yf5 p1 (Int32.ofNat k)) (fun d => DRX (fun k => tmX ystage yvoyage ysailed yf1 yf2 yf4 yf5 yf6 p1 (Int32.ofNat k)) yf3 (yf5 (p1).toNatClampNeg - ysailed) u2f0 u2f1 u2size d) p2 r))) (mu_B D (va_A [(xh, .inr (8, G8 xa xtrialRule xdropRule xtoday)), ((xa 4), .inl (E 4, 5, .inr (.inr (.inr (.inr xf4))))), ((xa 5), .inl (E 0, 9, .inl xf5)), (yh, .inr (5, G5 ya ysights ystage ysailed yvoyage)), ((ya 1), .inl (E 0, 3, .inl yf1)), ((ya 2), .inl (E 0, 3, .inl yf2)), ((ya 3), .inl (E 0, 3, .inl yf3)), ((ya 4), .inl (E 0, 3, .inl yf4)), ((ya 5), .inl (E 0, 40, .inl yf5)), ((ya 6), .inl (E 0, 120, .inl yf6)), (xdropRule, .inr (4, G4 u2a u2size)), ((u2a 0), .inl (E 0, 120, .inl u2f0)), ((u2a 1), .inl (E 0, 120, .inl u2f1)), ((u2a 2), .inl (E 0, 120, .inl u2f2))] sz) (fun (u : (Nat → Int32) × (Nat → Int32)) => [(xh, .inr (8, G8 xa xtrialRule xdropRule xtoday)), ((xa 4), .inl (E 4, 5, .inr (.inr (.inr (.inr xf4))))), ((xa 5), .inl (E 0, 9, .inl u.2)), (yh, .inr (5, G5 ya ysights ystage ysailed yvoyage)), ((ya 1), .inl (E 0, 3, .inl yf1)), ((ya 2), .inl (E 0, 3, .inl yf2)), ((ya 3), .inl (E 0, 3, .inl yf3)), ((ya 4), .inl (E 0, 3, .inl yf4)), ((ya 5), .inl (E 0, 40, .inl yf5)), ((ya 6), .inl (E 0, 120, .inl yf6)), (xdropRule, .inr (4, G4 u2a u2size)), ((u2a 0), .inl (E 0, 120, .inl u2f0)), ((u2a 1), .inl (E 0, 120, .inl u2f1)), ((u2a 2), .inl (E 0, 120, .inl u.1))])) (va_A [(xh, .inr (8, G8 xa xtrialRule xdropRule xtoday)), ((xa 4), .inl (E 4, 5, .inr (.inr (.inr (.inr xf4))))), ((xa 5), .inl (E 0, 9, .inl xf5)), (yh, .inr (5, G5 ya ysights ystage ysailed yvoyage)), ((ya 1), .inl (E 0, 3, .inl yf1)), ((ya 2), .inl (E 0, 3, .inl yf2)), ((ya 3), .inl (E 0, 3, .inl yf3)), ((ya 4), .inl (E 0, 3, .inl yf4)), ((ya 5), .inl (E 0, 40, .inl yf5)), ((ya 6), .inl (E 0, 120, .inl yf6)), (xdropRule, .inr (4, G4 u2a u2size)), ((u2a 0), .inl (E 0, 120, .inl u2f0)), ((u2a 1), .inl (E 0, 120, .inl u2f1)), ((u2a 2), .inl (E 0, 120, .inl u2f2))] sz)) 0 0 (va_A [(xh, .inr (8, G8 xa xtrialRule xdropRule xtoday)), ((xa 4), .inl (E 4, 5, .inr (.inr (.inr (.inr xf4))))), ((xa 5), .inl (E 0, 9, .inl xf5)), (yh, .inr (5, G5 ya ysights ystage ysailed yvoyage)), ((ya 1), .inl (E 0, 3, .inl yf1)), ((ya 2), .inl (E 0, 3, .inl yf2)), ((ya 3), .inl (E 0, 3, .inl yf3)), ((ya 4), .inl (E 0, 3, .inl yf4)), ((ya 5), .inl (E 0, 40, .inl yf5)), ((ya 6), .inl (E 0, 120, .inl yf6)), (xdropRule, .inr (4, G4 u2a u2size)), ((u2a 0), .inl (E 0, 120, .inl u2f0)), ((u2a 1), .inl (E 0, 120, .inl u2f1)), ((u2a 2), .inl (E 0, 120, .inl u2f2))] sz) := by
  refine Met.ofW (cc := cX8_told) (maxL := 8) (ret := (some .int)) (by decide) rfl ?_
  intro p e s m args below meth c s₁ B hml hv
  obtain ⟨rfl, hsz, hP, hK, hD0⟩ := hv
  have hx := B.exec; have hb := B.bytes; have hr := B.returns
  have hts := atoms_spec (ws := wl yX8_told cX8_told 8 (some .int)) B.pre
  have htb : ∀ w ∈ tb, w.before _ s = true := fun w h => hts w (List.mem_cons_of_mem _ h)
  have hown : s.vm.findClass RX8 = some m.cls := findClass_of_methodNamed B.named
  have hlocks := B.notSynchronized
  subst hsz
  have hD := hD0.self (sz := s.heap.size)
  generalize hAe : va_A [(xh, .inr (8, G8 xa xtrialRule xdropRule xtoday)), ((xa 4), .inl (E 4, 5, .inr (.inr (.inr (.inr xf4))))), ((xa 5), .inl (E 0, 9, .inl xf5)), (yh, .inr (5, G5 ya ysights ystage ysailed yvoyage)), ((ya 1), .inl (E 0, 3, .inl yf1)), ((ya 2), .inl (E 0, 3, .inl yf2)), ((ya 3), .inl (E 0, 3, .inl yf3)), ((ya 4), .inl (E 0, 3, .inl yf4)), ((ya 5), .inl (E 0, 40, .inl yf5)), ((ya 6), .inl (E 0, 120, .inl yf6)), (xdropRule, .inr (4, G4 u2a u2size)), ((u2a 0), .inl (E 0, 120, .inl u2f0)), ((u2a 1), .inl (E 0, 120, .inl u2f1)), ((u2a 2), .inl (E 0, 120, .inl u2f2))] s.heap.size = A at hD ⊢
  have hA : ∀ q : Nat, s.heap.size ≤ q → A q := fun q h => by rw [← hAe]; exact Or.inr h
  have hS : va_S A s.heap s.heap [] := va_S.rf
  have hP : va_P D vwCl [(xh, .inr (8, G8 xa xtrialRule xdropRule xtoday)), ((xa 4), .inl (E 4, 5, .inr (.inr (.inr (.inr xf4))))), ((xa 5), .inl (E 0, 9, .inl xf5)), (yh, .inr (5, G5 ya ysights ystage ysailed yvoyage)), ((ya 1), .inl (E 0, 3, .inl yf1)), ((ya 2), .inl (E 0, 3, .inl yf2)), ((ya 3), .inl (E 0, 3, .inl yf3)), ((ya 4), .inl (E 0, 3, .inl yf4)), ((ya 5), .inl (E 0, 40, .inl yf5)), ((ya 6), .inl (E 0, 120, .inl yf6)), (xdropRule, .inr (4, G4 u2a u2size)), ((u2a 0), .inl (E 0, 120, .inl u2f0)), ((u2a 1), .inl (E 0, 120, .inl u2f1)), ((u2a 2), .inl (E 0, 120, .inl u2f2))] s.heap := hP
  have hl := lv_entry ([.ref xh, .int p0, .int p1, .int p2]) (n := 8) (Nat.le_of_ble_eq_true rfl)
  rw [lg_entry_eq]
  generalize (lg_sl ([.ref xh, .int p0, .int p1, .int p2]) ++ List.replicate (8 - (lg_sl ([.ref xh, .int p0, .int p1, .int p2])).length) Slot.unset).toArray = ls at hl ⊢
  have hl : lv_has ls 8 [(0, .ref xh), (1, .int p0), (2, .int p1), (3, .int p2)] := hl
  have lo_p0 := i_lo p0; have hi_p0 := i_hi p0
  have lo_p1 := i_lo p1; have hi_p1 := i_hi p1
  have lo_p2 := i_lo p2; have hi_p2 := i_hi p2
  refine lv_iload_n hx hb dX8_told_0 rfl (lv_at hl 1 rfl) ?_
  refine callRS (rest := []) (As := [.int p0]) hx hb hml hown htb hK (g_X8_isShip l D E p0 ) ok_X8_isShip k_773 k_774 k_1 k_775 ⟨(Nat.le_of_ble_eq_true rfl), (Nat.le_of_ble_eq_true rfl)⟩ ⟨(Nat.le_of_ble_eq_true rfl), (Nat.le_of_ble_eq_true rfl)⟩ hl.1 (Nat.le_of_ble_eq_true rfl) rfl rfl dX8_told_1 (hP.sub (ws' := ([] : va_W)) [] rfl) (fun r_1 hw_2 => ?_)
  rcases hw_2 with ⟨hr_1, hw_2⟩ | ⟨hr_1, hw_2⟩
  ·
    refine W_top (y := .int 1) (by rw [hr_1]) ?_
    refine lv_if_eq (tgt := 34) hx hb dX8_told_4 (by decide) (fun c_4 => absurd c_4 (by decide)) (fun c_4 => ?_)
    refine lv_iload_n hx hb dX8_told_7 rfl (lv_at hl 2 rfl) ?_
    refine lv_if_lt (tgt := 34) hx hb dX8_told_8 (by decide) (fun c_5 => ?_) (fun c_5 => ?_)
    ·
      have ic_5 : p1.toInt < 0 := by first | exact (g_lt rfl t_0).mp c_5 | (have h := mt (g_le t_0 rfl).mpr c_5; omega)
      clear c_5
      refine lv_ldc hx hb hown (htb _ k_386) dX8_told_34 ?_
      have hP9 := hP.sub (ws' := [(xh, .inr (8, G8 xa xtrialRule xdropRule xtoday)), ((xa 4), .inl (E 4, 5, .inr (.inr (.inr (.inr xf4))))), ((xa 5), .inl (E 0, 9, .inl xf5)), (yh, .inr (5, G5 ya ysights ystage ysailed yvoyage)), ((ya 1), .inl (E 0, 3, .inl yf1)), ((ya 2), .inl (E 0, 3, .inl yf2)), ((ya 3), .inl (E 0, 3, .inl yf3)), ((ya 4), .inl (E 0, 3, .inl yf4)), ((ya 5), .inl (E 0, 40, .inl yf5)), ((ya 6), .inl (E 0, 120, .inl yf6)), (xdropRule, .inr (4, G4 u2a u2size)), ((u2a 0), .inl (E 0, 120, .inl u2f0)), ((u2a 1), .inl (E 0, 120, .inl u2f1)), ((u2a 2), .inl (E 0, 120, .inl u2f2))]) [0, 1, 2, 3, 4, 5, 6, 7, 8, 9, 10, 11, 12, 13] rfl
      have hD9 := hD.sub (ws' := [(xh, .inr (8, G8 xa xtrialRule xdropRule xtoday)), ((xa 4), .inl (E 4, 5, .inr (.inr (.inr (.inr xf4))))), ((xa 5), .inl (E 0, 9, .inl xf5)), (yh, .inr (5, G5 ya ysights ystage ysailed yvoyage)), ((ya 1), .inl (E 0, 3, .inl yf1)), ((ya 2), .inl (E 0, 3, .inl yf2)), ((ya 3), .inl (E 0, 3, .inl yf3)), ((ya 4), .inl (E 0, 3, .inl yf4)), ((ya 5), .inl (E 0, 40, .inl yf5)), ((ya 6), .inl (E 0, 120, .inl yf6)), (xdropRule, .inr (4, G4 u2a u2size)), ((u2a 0), .inl (E 0, 120, .inl u2f0)), ((u2a 1), .inl (E 0, 120, .inl u2f1)), ((u2a 2), .inl (E 0, 120, .inl u2f2))]) [0, 1, 2, 3, 4, 5, 6, 7, 8, 9, 10, 11, 12, 13] (by decide) rfl
      exact W.iret (v := (-2000000000)) hx hb hr (fun t ht hW => ⟨⟨(-2000000000), (u2f2, xf5), rfl, (by have hl := t_m2000000000; exact Or.inl ⟨by omega, by omega⟩), by rw [ht]; exact hP9, hD9⟩, hS.F ht⟩) hS.2.2 dX8_told_36
    ·
      have ic_5 : 0 ≤ p1.toInt := by first | exact (g_le t_0 rfl).mp c_5 | (have h := mt (g_lt rfl t_0).mpr c_5; omega)
      clear c_5
      refine lv_iload_n hx hb dX8_told_11 rfl (lv_at hl 2 rfl) ?_
      refine lv_aload_n hx hb dX8_told_12 rfl (lv_at hl 0 rfl) ?_
      refine va_get (D := D) (ci := 8) (v := .ref (xa 4)) (C := RX8) (T := TX8) (N := 14) hx hb htb iX8 hown hK.1 hP 0 rfl rfl 4 (by decide) (htb _ k_276) (fun _ h9 => h9) rfl dX8_told_13 ?_
      refine lv_iload_n hx hb dX8_told_16 rfl (lv_at hl 1 rfl) ?_
      refine va_aldq hx hb hK.1 hP 1 4 rfl rfl (g_in rfl (by omega) (by omega)) dX8_told_17 ?_
      refine W_top (y := .ref yh) (congrArg va_rf hy0) ?_
      refine va_getN (D := D) (ci := 5) (v := .int ysights) (C := RX5) (T := TX5) (N := 11) hx hb htb iX5 hown hK.1 hP 3 rfl rfl 7 (by decide) (va_Nw.use rfl (hK.2.1 (Cond.fieldLinkNest RX8 236 "SeaWatches$Ship" "sights" "I" "SeaWatches") (by decide +kernel))) (fun _ h9 => h9) rfl dX8_told_18 ?_
      refine lv_icmp_ge (tgt := 34) hx hb dX8_told_21 (by decide) (fun c_6 => ?_) (fun c_6 => ?_)
      ·
        have ic_6 : ysights.toInt ≤ p1.toInt := by first | exact (g_le rfl rfl).mp c_6 | (have h := mt (g_lt rfl rfl).mpr c_6; omega)
        clear c_6
        refine lv_ldc hx hb hown (htb _ k_386) dX8_told_34 ?_
        have hP9 := hP.sub (ws' := [(xh, .inr (8, G8 xa xtrialRule xdropRule xtoday)), ((xa 4), .inl (E 4, 5, .inr (.inr (.inr (.inr xf4))))), ((xa 5), .inl (E 0, 9, .inl xf5)), (yh, .inr (5, G5 ya ysights ystage ysailed yvoyage)), ((ya 1), .inl (E 0, 3, .inl yf1)), ((ya 2), .inl (E 0, 3, .inl yf2)), ((ya 3), .inl (E 0, 3, .inl yf3)), ((ya 4), .inl (E 0, 3, .inl yf4)), ((ya 5), .inl (E 0, 40, .inl yf5)), ((ya 6), .inl (E 0, 120, .inl yf6)), (xdropRule, .inr (4, G4 u2a u2size)), ((u2a 0), .inl (E 0, 120, .inl u2f0)), ((u2a 1), .inl (E 0, 120, .inl u2f1)), ((u2a 2), .inl (E 0, 120, .inl u2f2))]) [0, 1, 2, 3, 4, 5, 6, 7, 8, 9, 10, 11, 12, 13] rfl
        have hD9 := hD.sub (ws' := [(xh, .inr (8, G8 xa xtrialRule xdropRule xtoday)), ((xa 4), .inl (E 4, 5, .inr (.inr (.inr (.inr xf4))))), ((xa 5), .inl (E 0, 9, .inl xf5)), (yh, .inr (5, G5 ya ysights ystage ysailed yvoyage)), ((ya 1), .inl (E 0, 3, .inl yf1)), ((ya 2), .inl (E 0, 3, .inl yf2)), ((ya 3), .inl (E 0, 3, .inl yf3)), ((ya 4), .inl (E 0, 3, .inl yf4)), ((ya 5), .inl (E 0, 40, .inl yf5)), ((ya 6), .inl (E 0, 120, .inl yf6)), (xdropRule, .inr (4, G4 u2a u2size)), ((u2a 0), .inl (E 0, 120, .inl u2f0)), ((u2a 1), .inl (E 0, 120, .inl u2f1)), ((u2a 2), .inl (E 0, 120, .inl u2f2))]) [0, 1, 2, 3, 4, 5, 6, 7, 8, 9, 10, 11, 12, 13] (by decide) rfl
        exact W.iret (v := (-2000000000)) hx hb hr (fun t ht hW => ⟨⟨(-2000000000), (u2f2, xf5), rfl, (by have hl := t_m2000000000; exact Or.inl ⟨by omega, by omega⟩), by rw [ht]; exact hP9, hD9⟩, hS.F ht⟩) hS.2.2 dX8_told_36
      ·
        have ic_6 : p1.toInt < ysights.toInt := by first | exact (g_lt rfl rfl).mp c_6 | (have h := mt (g_le rfl rfl).mpr c_6; omega)
        clear c_6
        refine lv_iload_n hx hb dX8_told_24 rfl (lv_at hl 3 rfl) ?_
        refine lv_if_lt (tgt := 34) hx hb dX8_told_25 (by decide) (fun c_7 => ?_) (fun c_7 => ?_)
        ·
          have ic_7 : p2.toInt < 0 := by first | exact (g_lt rfl t_0).mp c_7 | (have h := mt (g_le t_0 rfl).mpr c_7; omega)
          clear c_7
          refine lv_ldc hx hb hown (htb _ k_386) dX8_told_34 ?_
          have hP9 := hP.sub (ws' := [(xh, .inr (8, G8 xa xtrialRule xdropRule xtoday)), ((xa 4), .inl (E 4, 5, .inr (.inr (.inr (.inr xf4))))), ((xa 5), .inl (E 0, 9, .inl xf5)), (yh, .inr (5, G5 ya ysights ystage ysailed yvoyage)), ((ya 1), .inl (E 0, 3, .inl yf1)), ((ya 2), .inl (E 0, 3, .inl yf2)), ((ya 3), .inl (E 0, 3, .inl yf3)), ((ya 4), .inl (E 0, 3, .inl yf4)), ((ya 5), .inl (E 0, 40, .inl yf5)), ((ya 6), .inl (E 0, 120, .inl yf6)), (xdropRule, .inr (4, G4 u2a u2size)), ((u2a 0), .inl (E 0, 120, .inl u2f0)), ((u2a 1), .inl (E 0, 120, .inl u2f1)), ((u2a 2), .inl (E 0, 120, .inl u2f2))]) [0, 1, 2, 3, 4, 5, 6, 7, 8, 9, 10, 11, 12, 13] rfl
          have hD9 := hD.sub (ws' := [(xh, .inr (8, G8 xa xtrialRule xdropRule xtoday)), ((xa 4), .inl (E 4, 5, .inr (.inr (.inr (.inr xf4))))), ((xa 5), .inl (E 0, 9, .inl xf5)), (yh, .inr (5, G5 ya ysights ystage ysailed yvoyage)), ((ya 1), .inl (E 0, 3, .inl yf1)), ((ya 2), .inl (E 0, 3, .inl yf2)), ((ya 3), .inl (E 0, 3, .inl yf3)), ((ya 4), .inl (E 0, 3, .inl yf4)), ((ya 5), .inl (E 0, 40, .inl yf5)), ((ya 6), .inl (E 0, 120, .inl yf6)), (xdropRule, .inr (4, G4 u2a u2size)), ((u2a 0), .inl (E 0, 120, .inl u2f0)), ((u2a 1), .inl (E 0, 120, .inl u2f1)), ((u2a 2), .inl (E 0, 120, .inl u2f2))]) [0, 1, 2, 3, 4, 5, 6, 7, 8, 9, 10, 11, 12, 13] (by decide) rfl
          exact W.iret (v := (-2000000000)) hx hb hr (fun t ht hW => ⟨⟨(-2000000000), (u2f2, xf5), rfl, (by have hl := t_m2000000000; exact Or.inl ⟨by omega, by omega⟩), by rw [ht]; exact hP9, hD9⟩, hS.F ht⟩) hS.2.2 dX8_told_36
        ·
          have ic_7 : 0 ≤ p2.toInt := by first | exact (g_le t_0 rfl).mp c_7 | (have h := mt (g_lt rfl t_0).mpr c_7; omega)
          clear c_7
          refine lv_iload_n hx hb dX8_told_28 rfl (lv_at hl 3 rfl) ?_
          refine lv_bipush (v := 9) hx hb dX8_told_29 (by decide) ?_
          refine lv_icmp_le (tgt := 37) hx hb dX8_told_31 (by decide) (fun c_8 => ?_) (fun c_8 => ?_)
          ·
            have ic_8 : p2.toInt ≤ 9 := by first | exact (g_le rfl t_9).mp c_8 | (have h := mt (g_lt t_9 rfl).mpr c_8; omega)
            clear c_8
            refine lv_aload_n hx hb dX8_told_37 rfl (lv_at hl 0 rfl) ?_
            refine va_get (D := D) (ci := 8) (v := .ref (xa 4)) (C := RX8) (T := TX8) (N := 14) hx hb htb iX8 hown hK.1 hP 0 rfl rfl 4 (by decide) (htb _ k_276) (fun _ h9 => h9) rfl dX8_told_38 ?_
            refine lv_iload_n hx hb dX8_told_41 rfl (lv_at hl 1 rfl) ?_
            refine va_aldq hx hb hK.1 hP 1 4 rfl rfl (g_in rfl (by omega) (by omega)) dX8_told_42 ?_
            refine W_top (y := .ref yh) (congrArg va_rf hy0) ?_
            refine lv_astore (lv' := [(4, .ref yh), (0, .ref xh), (1, .int p0), (2, .int p1), (3, .int p2)]) hx hb dX8_told_43 hl (by decide) rfl (fun ls hl => ?_)
            refine lv_iload_n hx hb dX8_told_45 rfl (lv_at hl 4 rfl) ?_
            refine lv_if_ne (tgt := 57) hx hb dX8_told_46 (by decide) (fun c_9 => ?_) (fun c_9 => ?_)
            ·
              have ic_9 : p2.toInt ≠ 0 := mt (g_eq rfl t_0).mpr c_9
              clear c_9
              refine lv_iload_n hx hb dX8_told_57 rfl (lv_at hl 4 rfl) ?_
              refine lv_bipush (v := 7) hx hb dX8_told_58 (by decide) ?_
              refine lv_icmp_lt (tgt := 74) hx hb dX8_told_60 (by decide) (fun c_10 => ?_) (fun c_10 => ?_)
              ·
                have ic_10 : p2.toInt < 7 := by first | exact (g_lt rfl t_7).mp c_10 | (have h := mt (g_le t_7 rfl).mpr c_10; omega)
                clear c_10
                refine lv_iload_n hx hb dX8_told_74 rfl (lv_at hl 4 rfl) ?_
                refine lv_iconst (v := 4) hx hb dX8_told_75 (by decide) ?_
                refine lv_icmp_lt (tgt := 89) hx hb dX8_told_76 (by decide) (fun c_11 => ?_) (fun c_11 => ?_)
                ·
                  have ic_11 : p2.toInt < 4 := by first | exact (g_lt rfl t_4).mp c_11 | (have h := mt (g_le t_4 rfl).mpr c_11; omega)
                  clear c_11
                  refine lv_aload_n hx hb dX8_told_89 rfl (lv_at hl 1 rfl) ?_
                  refine lv_aload hx hb dX8_told_90 (lv_at hl 0 rfl) ?_
                  refine lv_iload_n hx hb dX8_told_92 rfl (lv_at hl 3 rfl) ?_
                  have hPc := hP.sub (ws' := [(xh, .inr (8, G8 xa xtrialRule xdropRule xtoday)), ((xa 5), .inl (E 0, 9, .inl xf5)), (yh, .inr (5, G5 ya ysights ystage ysailed yvoyage)), ((ya 1), .inl (E 0, 3, .inl yf1)), ((ya 2), .inl (E 0, 3, .inl yf2)), ((ya 3), .inl (E 0, 3, .inl yf3)), ((ya 4), .inl (E 0, 3, .inl yf4)), ((ya 5), .inl (E 0, 40, .inl yf5)), ((ya 6), .inl (E 0, 120, .inl yf6)), (xdropRule, .inr (4, G4 u2a u2size)), ((u2a 0), .inl (E 0, 120, .inl u2f0)), ((u2a 1), .inl (E 0, 120, .inl u2f1)), ((u2a 2), .inl (E 0, 120, .inl u2f2))]) [0, 2, 3, 4, 5, 6, 7, 8, 9, 10, 11, 12, 13] rfl
                  have hDc := hD.sub (ws' := [(xh, .inr (8, G8 xa xtrialRule xdropRule xtoday)), ((xa 5), .inl (E 0, 9, .inl xf5)), (yh, .inr (5, G5 ya ysights ystage ysailed yvoyage)), ((ya 1), .inl (E 0, 3, .inl yf1)), ((ya 2), .inl (E 0, 3, .inl yf2)), ((ya 3), .inl (E 0, 3, .inl yf3)), ((ya 4), .inl (E 0, 3, .inl yf4)), ((ya 5), .inl (E 0, 40, .inl yf5)), ((ya 6), .inl (E 0, 120, .inl yf6)), (xdropRule, .inr (4, G4 u2a u2size)), ((u2a 0), .inl (E 0, 120, .inl u2f0)), ((u2a 1), .inl (E 0, 120, .inl u2f1)), ((u2a 2), .inl (E 0, 120, .inl u2f2))]) [0, 2, 3, 4, 5, 6, 7, 8, 9, 10, 11, 12, 13] (by decide) rfl
                  refine aft_i (runMV (rest := []) (As := [.ref yh, .int p1]) hx hb hml hown htb hK (g_X8_droppedOf l D E xh xa xtrialRule xdropRule xtoday xf5 yh ya ysights ystage ysailed yvoyage yf1 yf2 yf3 yf4 yf5 yf6 u2a u2size u2f0 u2f1 u2f2 p1 _ (by (try dsimp only); omega) (by (try dsimp only); omega) (by (try dsimp only); omega)) ok_X8_droppedOf k_847 k_849 ks_32 k_1 k_850 ⟨(Nat.le_of_ble_eq_true rfl), (Nat.le_of_ble_eq_true rfl)⟩ ⟨(Nat.le_of_ble_eq_true rfl), (Nat.le_of_ble_eq_true rfl)⟩ hl.1 (Nat.le_of_ble_eq_true rfl) rfl rfl dX8_told_93 hPc hDc rfl rfl 0 rfl) hP hD hS hA [0, 2, 3, 4, 5, 6, 7, 8, 9, 10, 11, 12, 13] [1] (wr := [((xa 4), .inl (E 4, 5, .inr (.inr (.inr (.inr xf4)))))]) rfl rfl (by decide) (by decide) (fun r_12 u_14 H locs hw_13 hP hD hS => ?_)
                  clear hPc hDc
                  obtain ⟨w_15, w_16⟩ := u_14
                  try dsimp only at hw_13
                  have hP : va_P D vwCl [((xa 4), .inl (E 4, 5, .inr (.inr (.inr (.inr xf4))))), (xh, .inr (8, G8 xa xtrialRule xdropRule xtoday)), ((xa 5), .inl (E 0, 9, .inl w_16)), (yh, .inr (5, G5 ya ysights ystage ysailed yvoyage)), ((ya 1), .inl (E 0, 3, .inl yf1)), ((ya 2), .inl (E 0, 3, .inl yf2)), ((ya 3), .inl (E 0, 3, .inl yf3)), ((ya 4), .inl (E 0, 3, .inl yf4)), ((ya 5), .inl (E 0, 40, .inl yf5)), ((ya 6), .inl (E 0, 120, .inl yf6)), (xdropRule, .inr (4, G4 u2a u2size)), ((u2a 0), .inl (E 0, 120, .inl u2f0)), ((u2a 1), .inl (E 0, 120, .inl u2f1)), ((u2a 2), .inl (E 0, 120, .inl w_15))] H := hP
                  have hD := toW hP hD rfl
                  refine lv_istore (lv' := [(5, .int r_12), (4, .ref yh), (0, .ref xh), (1, .int p0), (2, .int p1), (3, .int p2)]) hx hb dX8_told_96 hl (by decide) rfl (fun ls hl => ?_)
                  refine lv_iload_n hx hb dX8_told_98 rfl (lv_at hl 5 rfl) ?_
                  refine lv_iconst (v := 1) hx hb dX8_told_99 (by decide) ?_
                  refine lv_icmp_ne (tgt := 106) hx hb dX8_told_100 (by decide) (fun c_17 => ?_) (fun c_17 => ?_)
                  ·
                    have ic_17 : p2.toInt ≠ 1 := mt (g_eq rfl t_1).mpr c_17
                    clear c_17
                    refine lv_aload hx hb dX8_told_106 (lv_at hl 1 rfl) ?_
                    refine lv_iload_n hx hb dX8_told_108 rfl (lv_at hl 4 rfl) ?_
                    refine lv_iload hx hb dX8_told_109 (lv_at hl 0 rfl) ?_
                    refine callRV (rest := []) (As := [.int p1, .int r_12]) hx hb hml hown htb hK (g_X5_beginOf l D E yh ya ysights ystage ysailed yvoyage yf1 yf2 yf3 yf4 yf5 yf6 p1 r_12 (by (try dsimp only); omega)) ok_X5_beginOf k_858 k_859 k_860 k_8 k_861 ⟨(Nat.le_of_ble_eq_true rfl), (Nat.le_of_ble_eq_true rfl)⟩ ⟨(Nat.le_of_ble_eq_true rfl), (Nat.le_of_ble_eq_true rfl)⟩ hl.1 (Nat.le_of_ble_eq_true rfl) rfl rfl dX8_told_111 (hP.sub (ws' := [(yh, .inr (5, G5 ya ysights ystage ysailed yvoyage)), ((ya 1), .inl (E 0, 3, .inl yf1)), ((ya 2), .inl (E 0, 3, .inl yf2)), ((ya 3), .inl (E 0, 3, .inl yf3)), ((ya 4), .inl (E 0, 3, .inl yf4)), ((ya 5), .inl (E 0, 40, .inl yf5)), ((ya 6), .inl (E 0, 120, .inl yf6))]) [3, 4, 5, 6, 7, 8, 9] rfl) rfl rfl 0 rfl (fun r_18 hw_19 => ?_)
                    refine lv_istore (lv' := [(6, .int r_18), (5, .int r_12), (4, .ref yh), (0, .ref xh), (1, .int p0), (2, .int p1), (3, .int p2)]) hx hb dX8_told_114 hl (by decide) rfl (fun ls hl => ?_)
                    refine lv_aload hx hb dX8_told_116 (lv_at hl 2 rfl) ?_
                    refine lv_iload_n hx hb dX8_told_118 rfl (lv_at hl 5 rfl) ?_
                    refine lv_iload hx hb dX8_told_119 (lv_at hl 1 rfl) ?_
                    refine callRV (rest := []) (As := [.int p1, .int r_12]) hx hb hml hown htb hK (g_X5_endOf l D E yh ya ysights ystage ysailed yvoyage yf1 yf2 yf3 yf4 yf5 yf6 p1 r_12 (by (try dsimp only); omega)) ok_X5_endOf k_865 k_866 k_867 k_8 k_868 ⟨(Nat.le_of_ble_eq_true rfl), (Nat.le_of_ble_eq_true rfl)⟩ ⟨(Nat.le_of_ble_eq_true rfl), (Nat.le_of_ble_eq_true rfl)⟩ hl.1 (Nat.le_of_ble_eq_true rfl) rfl rfl dX8_told_121 (hP.sub (ws' := [(yh, .inr (5, G5 ya ysights ystage ysailed yvoyage)), ((ya 1), .inl (E 0, 3, .inl yf1)), ((ya 2), .inl (E 0, 3, .inl yf2)), ((ya 3), .inl (E 0, 3, .inl yf3)), ((ya 4), .inl (E 0, 3, .inl yf4)), ((ya 5), .inl (E 0, 40, .inl yf5)), ((ya 6), .inl (E 0, 120, .inl yf6))]) [3, 4, 5, 6, 7, 8, 9] rfl) rfl rfl 0 rfl (fun r_21 hw_22 => ?_)
                    refine lv_istore (lv' := [(7, .int r_21), (6, .int r_18), (5, .int r_12), (4, .ref yh), (0, .ref xh), (1, .int p0), (2, .int p1), (3, .int p2)]) hx hb dX8_told_124 hl (by decide) rfl (fun ls hl => ?_)
                    refine lv_iload hx hb dX8_told_126 (lv_at hl 0 rfl) ?_
                    refine lv_iload hx hb dX8_told_128 (lv_at hl 1 rfl) ?_
                    refine lv_icmp_ge (tgt := 136) hx hb dX8_told_130 (by decide) (fun c_24 => ?_) (fun c_24 => ?_)
                    ·
                      have ic_24 : r_18.toInt ≤ r_21.toInt := by first | exact (g_le rfl rfl).mp c_24 | (have h := mt (g_lt rfl rfl).mpr c_24; omega)
                      clear c_24
                      refine lv_iload_n hx hb dX8_told_136 rfl (lv_at hl 7 rfl) ?_
                      refine lv_iconst (v := 2) hx hb dX8_told_137 (by decide) ?_
                      refine lv_icmp_ne (tgt := 146) hx hb dX8_told_138 (by decide) (fun c_25 => ?_) (fun c_25 => ?_)
                      ·
                        have ic_25 : p2.toInt ≠ 2 := mt (g_eq rfl t_2).mpr c_25
                        clear c_25
                        refine lv_iload hx hb dX8_told_146 (lv_at hl 0 rfl) ?_
                        have hP9 := hP.sub (ws' := [(xh, .inr (8, G8 xa xtrialRule xdropRule xtoday)), ((xa 4), .inl (E 4, 5, .inr (.inr (.inr (.inr xf4))))), ((xa 5), .inl (E 0, 9, .inl w_16)), (yh, .inr (5, G5 ya ysights ystage ysailed yvoyage)), ((ya 1), .inl (E 0, 3, .inl yf1)), ((ya 2), .inl (E 0, 3, .inl yf2)), ((ya 3), .inl (E 0, 3, .inl yf3)), ((ya 4), .inl (E 0, 3, .inl yf4)), ((ya 5), .inl (E 0, 40, .inl yf5)), ((ya 6), .inl (E 0, 120, .inl yf6)), (xdropRule, .inr (4, G4 u2a u2size)), ((u2a 0), .inl (E 0, 120, .inl u2f0)), ((u2a 1), .inl (E 0, 120, .inl u2f1)), ((u2a 2), .inl (E 0, 120, .inl w_15))]) [1, 0, 2, 3, 4, 5, 6, 7, 8, 9, 10, 11, 12, 13] rfl
                        have hD9 := hD.sub (ws' := [(xh, .inr (8, G8 xa xtrialRule xdropRule xtoday)), ((xa 4), .inl (E 4, 5, .inr (.inr (.inr (.inr xf4))))), ((xa 5), .inl (E 0, 9, .inl w_16)), (yh, .inr (5, G5 ya ysights ystage ysailed yvoyage)), ((ya 1), .inl (E 0, 3, .inl yf1)), ((ya 2), .inl (E 0, 3, .inl yf2)), ((ya 3), .inl (E 0, 3, .inl yf3)), ((ya 4), .inl (E 0, 3, .inl yf4)), ((ya 5), .inl (E 0, 40, .inl yf5)), ((ya 6), .inl (E 0, 120, .inl yf6)), (xdropRule, .inr (4, G4 u2a u2size)), ((u2a 0), .inl (E 0, 120, .inl u2f0)), ((u2a 1), .inl (E 0, 120, .inl u2f1)), ((u2a 2), .inl (E 0, 120, .inl w_15))]) [1, 0, 2, 3, 4, 5, 6, 7, 8, 9, 10, 11, 12, 13] (by decide) rfl
                        exact W.iret (v := r_21) hx hb hr (fun t ht hW => ⟨⟨r_21, (w_15, w_16), rfl, (by have hb9 := hw_19 (by omega); have he9 := hw_22 (by omega); refine Or.inr ⟨by omega, Or.inr (Or.inr (Or.inr ⟨by omega, by omega, _, hw_13 (by omega), Or.inr ⟨by omega, Or.inr ⟨by rw [← hb9, ← he9]; omega, Or.inr ⟨by omega, he9⟩⟩⟩⟩))⟩), by rw [ht]; exact hP9, hD9⟩, hS.F ht⟩) hS.2.2 dX8_told_148
                      ·
                        have ic_25 : p2.toInt = 2 := (g_eq rfl t_2).mp c_25
                        clear c_25
                        refine lv_iload hx hb dX8_told_141 (lv_at hl 1 rfl) ?_
                        refine lv_goto (tgt := 148) hx hb dX8_told_143 (by decide) ?_
                        have hP9 := hP.sub (ws' := [(xh, .inr (8, G8 xa xtrialRule xdropRule xtoday)), ((xa 4), .inl (E 4, 5, .inr (.inr (.inr (.inr xf4))))), ((xa 5), .inl (E 0, 9, .inl w_16)), (yh, .inr (5, G5 ya ysights ystage ysailed yvoyage)), ((ya 1), .inl (E 0, 3, .inl yf1)), ((ya 2), .inl (E 0, 3, .inl yf2)), ((ya 3), .inl (E 0, 3, .inl yf3)), ((ya 4), .inl (E 0, 3, .inl yf4)), ((ya 5), .inl (E 0, 40, .inl yf5)), ((ya 6), .inl (E 0, 120, .inl yf6)), (xdropRule, .inr (4, G4 u2a u2size)), ((u2a 0), .inl (E 0, 120, .inl u2f0)), ((u2a 1), .inl (E 0, 120, .inl u2f1)), ((u2a 2), .inl (E 0, 120, .inl w_15))]) [1, 0, 2, 3, 4, 5, 6, 7, 8, 9, 10, 11, 12, 13] rfl
                        have hD9 := hD.sub (ws' := [(xh, .inr (8, G8 xa xtrialRule xdropRule xtoday)), ((xa 4), .inl (E 4, 5, .inr (.inr (.inr (.inr xf4))))), ((xa 5), .inl (E 0, 9, .inl w_16)), (yh, .inr (5, G5 ya ysights ystage ysailed yvoyage)), ((ya 1), .inl (E 0, 3, .inl yf1)), ((ya 2), .inl (E 0, 3, .inl yf2)), ((ya 3), .inl (E 0, 3, .inl yf3)), ((ya 4), .inl (E 0, 3, .inl yf4)), ((ya 5), .inl (E 0, 40, .inl yf5)), ((ya 6), .inl (E 0, 120, .inl yf6)), (xdropRule, .inr (4, G4 u2a u2size)), ((u2a 0), .inl (E 0, 120, .inl u2f0)), ((u2a 1), .inl (E 0, 120, .inl u2f1)), ((u2a 2), .inl (E 0, 120, .inl w_15))]) [1, 0, 2, 3, 4, 5, 6, 7, 8, 9, 10, 11, 12, 13] (by decide) rfl
                        exact W.iret (v := r_18) hx hb hr (fun t ht hW => ⟨⟨r_18, (w_15, w_16), rfl, (by have hb9 := hw_19 (by omega); have he9 := hw_22 (by omega); refine Or.inr ⟨by omega, Or.inr (Or.inr (Or.inr ⟨by omega, by omega, _, hw_13 (by omega), Or.inr ⟨by omega, Or.inr ⟨by rw [← hb9, ← he9]; omega, Or.inl ⟨by omega, hb9⟩⟩⟩⟩))⟩), by rw [ht]; exact hP9, hD9⟩, hS.F ht⟩) hS.2.2 dX8_told_148
                    ·
                      have ic_24 : r_21.toInt < r_18.toInt := by first | exact (g_lt rfl rfl).mp c_24 | (have h := mt (g_le rfl rfl).mpr c_24; omega)
                      clear c_24
                      refine lv_ldc hx hb hown (htb _ k_386) dX8_told_133 ?_
                      have hP9 := hP.sub (ws' := [(xh, .inr (8, G8 xa xtrialRule xdropRule xtoday)), ((xa 4), .inl (E 4, 5, .inr (.inr (.inr (.inr xf4))))), ((xa 5), .inl (E 0, 9, .inl w_16)), (yh, .inr (5, G5 ya ysights ystage ysailed yvoyage)), ((ya 1), .inl (E 0, 3, .inl yf1)), ((ya 2), .inl (E 0, 3, .inl yf2)), ((ya 3), .inl (E 0, 3, .inl yf3)), ((ya 4), .inl (E 0, 3, .inl yf4)), ((ya 5), .inl (E 0, 40, .inl yf5)), ((ya 6), .inl (E 0, 120, .inl yf6)), (xdropRule, .inr (4, G4 u2a u2size)), ((u2a 0), .inl (E 0, 120, .inl u2f0)), ((u2a 1), .inl (E 0, 120, .inl u2f1)), ((u2a 2), .inl (E 0, 120, .inl w_15))]) [1, 0, 2, 3, 4, 5, 6, 7, 8, 9, 10, 11, 12, 13] rfl
                      have hD9 := hD.sub (ws' := [(xh, .inr (8, G8 xa xtrialRule xdropRule xtoday)), ((xa 4), .inl (E 4, 5, .inr (.inr (.inr (.inr xf4))))), ((xa 5), .inl (E 0, 9, .inl w_16)), (yh, .inr (5, G5 ya ysights ystage ysailed yvoyage)), ((ya 1), .inl (E 0, 3, .inl yf1)), ((ya 2), .inl (E 0, 3, .inl yf2)), ((ya 3), .inl (E 0, 3, .inl yf3)), ((ya 4), .inl (E 0, 3, .inl yf4)), ((ya 5), .inl (E 0, 40, .inl yf5)), ((ya 6), .inl (E 0, 120, .inl yf6)), (xdropRule, .inr (4, G4 u2a u2size)), ((u2a 0), .inl (E 0, 120, .inl u2f0)), ((u2a 1), .inl (E 0, 120, .inl u2f1)), ((u2a 2), .inl (E 0, 120, .inl w_15))]) [1, 0, 2, 3, 4, 5, 6, 7, 8, 9, 10, 11, 12, 13] (by decide) rfl
                      exact W.iret (v := (-2000000000)) hx hb hr (fun t ht hW => ⟨⟨(-2000000000), (w_15, w_16), rfl, (by have hl := t_m2000000000; have hb9 := hw_19 (by omega); have he9 := hw_22 (by omega); refine Or.inr ⟨by omega, Or.inr (Or.inr (Or.inr ⟨by omega, by omega, _, hw_13 (by omega), Or.inr ⟨by omega, Or.inl ⟨by rw [← hb9, ← he9]; omega, by omega⟩⟩⟩))⟩), by rw [ht]; exact hP9, hD9⟩, hS.F ht⟩) hS.2.2 dX8_told_135
                  ·
                    have ic_17 : p2.toInt = 1 := (g_eq rfl t_1).mp c_17
                    clear c_17
                    refine lv_iload hx hb dX8_told_103 (lv_at hl 0 rfl) ?_
                    have hP9 := hP.sub (ws' := [(xh, .inr (8, G8 xa xtrialRule xdropRule xtoday)), ((xa 4), .inl (E 4, 5, .inr (.inr (.inr (.inr xf4))))), ((xa 5), .inl (E 0, 9, .inl w_16)), (yh, .inr (5, G5 ya ysights ystage ysailed yvoyage)), ((ya 1), .inl (E 0, 3, .inl yf1)), ((ya 2), .inl (E 0, 3, .inl yf2)), ((ya 3), .inl (E 0, 3, .inl yf3)), ((ya 4), .inl (E 0, 3, .inl yf4)), ((ya 5), .inl (E 0, 40, .inl yf5)), ((ya 6), .inl (E 0, 120, .inl yf6)), (xdropRule, .inr (4, G4 u2a u2size)), ((u2a 0), .inl (E 0, 120, .inl u2f0)), ((u2a 1), .inl (E 0, 120, .inl u2f1)), ((u2a 2), .inl (E 0, 120, .inl w_15))]) [1, 0, 2, 3, 4, 5, 6, 7, 8, 9, 10, 11, 12, 13] rfl
                    have hD9 := hD.sub (ws' := [(xh, .inr (8, G8 xa xtrialRule xdropRule xtoday)), ((xa 4), .inl (E 4, 5, .inr (.inr (.inr (.inr xf4))))), ((xa 5), .inl (E 0, 9, .inl w_16)), (yh, .inr (5, G5 ya ysights ystage ysailed yvoyage)), ((ya 1), .inl (E 0, 3, .inl yf1)), ((ya 2), .inl (E 0, 3, .inl yf2)), ((ya 3), .inl (E 0, 3, .inl yf3)), ((ya 4), .inl (E 0, 3, .inl yf4)), ((ya 5), .inl (E 0, 40, .inl yf5)), ((ya 6), .inl (E 0, 120, .inl yf6)), (xdropRule, .inr (4, G4 u2a u2size)), ((u2a 0), .inl (E 0, 120, .inl u2f0)), ((u2a 1), .inl (E 0, 120, .inl u2f1)), ((u2a 2), .inl (E 0, 120, .inl w_15))]) [1, 0, 2, 3, 4, 5, 6, 7, 8, 9, 10, 11, 12, 13] (by decide) rfl
                    exact W.iret (v := r_12) hx hb hr (fun t ht hW => ⟨⟨r_12, (w_15, w_16), rfl, (by refine Or.inr ⟨by omega, Or.inr (Or.inr (Or.inr ⟨by omega, by omega, _, hw_13 (by omega), Or.inl ⟨by omega, rfl⟩⟩))⟩), by rw [ht]; exact hP9, hD9⟩, hS.F ht⟩) hS.2.2 dX8_told_105
                ·
                  have ic_11 : 4 ≤ p2.toInt := by first | exact (g_le t_4 rfl).mp c_11 | (have h := mt (g_lt rfl t_4).mpr c_11; omega)
                  clear c_11
                  refine lv_aload hx hb dX8_told_79 (lv_at hl 0 rfl) ?_
                  refine lv_iload_n hx hb dX8_told_81 rfl (lv_at hl 3 rfl) ?_
                  refine lv_iload_n hx hb dX8_told_82 rfl (lv_at hl 4 rfl) ?_
                  refine lv_iconst (v := 4) hx hb dX8_told_83 (by decide) ?_
                  refine lv_isub hx hb dX8_told_84 ?_
                  refine lv_topi (fun z_26 ez_26 => ?_)
                  have jz_26 : z_26.toInt = p2.toInt - 4 := by rw [ez_26]; exact g_sub rfl t_4 (by omega) (by omega)
                  refine callRV (rest := []) (As := [.int p1, .int z_26]) hx hb hml hown htb hK (g_X5_timeOf l D E yh ya ysights ystage ysailed yvoyage yf1 yf2 yf4 yf5 yf6 p1 z_26 (by (try dsimp only); omega)) ok_X5_timeOf k_842 k_843 k_844 k_8 k_845 ⟨(Nat.le_of_ble_eq_true rfl), (Nat.le_of_ble_eq_true rfl)⟩ ⟨(Nat.le_of_ble_eq_true rfl), (Nat.le_of_ble_eq_true rfl)⟩ hl.1 (Nat.le_of_ble_eq_true rfl) rfl rfl dX8_told_85 (hP.sub (ws' := [(yh, .inr (5, G5 ya ysights ystage ysailed yvoyage)), ((ya 1), .inl (E 0, 3, .inl yf1)), ((ya 2), .inl (E 0, 3, .inl yf2)), ((ya 4), .inl (E 0, 3, .inl yf4)), ((ya 5), .inl (E 0, 40, .inl yf5)), ((ya 6), .inl (E 0, 120, .inl yf6))]) [3, 4, 5, 7, 8, 9] rfl) rfl rfl 0 rfl (fun r_27 hw_28 => ?_)
                  have hP9 := hP.sub (ws' := [(xh, .inr (8, G8 xa xtrialRule xdropRule xtoday)), ((xa 4), .inl (E 4, 5, .inr (.inr (.inr (.inr xf4))))), ((xa 5), .inl (E 0, 9, .inl xf5)), (yh, .inr (5, G5 ya ysights ystage ysailed yvoyage)), ((ya 1), .inl (E 0, 3, .inl yf1)), ((ya 2), .inl (E 0, 3, .inl yf2)), ((ya 3), .inl (E 0, 3, .inl yf3)), ((ya 4), .inl (E 0, 3, .inl yf4)), ((ya 5), .inl (E 0, 40, .inl yf5)), ((ya 6), .inl (E 0, 120, .inl yf6)), (xdropRule, .inr (4, G4 u2a u2size)), ((u2a 0), .inl (E 0, 120, .inl u2f0)), ((u2a 1), .inl (E 0, 120, .inl u2f1)), ((u2a 2), .inl (E 0, 120, .inl u2f2))]) [0, 1, 2, 3, 4, 5, 6, 7, 8, 9, 10, 11, 12, 13] rfl
                  have hD9 := hD.sub (ws' := [(xh, .inr (8, G8 xa xtrialRule xdropRule xtoday)), ((xa 4), .inl (E 4, 5, .inr (.inr (.inr (.inr xf4))))), ((xa 5), .inl (E 0, 9, .inl xf5)), (yh, .inr (5, G5 ya ysights ystage ysailed yvoyage)), ((ya 1), .inl (E 0, 3, .inl yf1)), ((ya 2), .inl (E 0, 3, .inl yf2)), ((ya 3), .inl (E 0, 3, .inl yf3)), ((ya 4), .inl (E 0, 3, .inl yf4)), ((ya 5), .inl (E 0, 40, .inl yf5)), ((ya 6), .inl (E 0, 120, .inl yf6)), (xdropRule, .inr (4, G4 u2a u2size)), ((u2a 0), .inl (E 0, 120, .inl u2f0)), ((u2a 1), .inl (E 0, 120, .inl u2f1)), ((u2a 2), .inl (E 0, 120, .inl u2f2))]) [0, 1, 2, 3, 4, 5, 6, 7, 8, 9, 10, 11, 12, 13] (by decide) rfl
                  exact W.iret (v := r_27) hx hb hr (fun t ht hW => ⟨⟨r_27, (u2f2, xf5), rfl, (by refine Or.inr ⟨by omega, Or.inr (Or.inl ⟨by omega, by omega, by (try dsimp only); rw [← ofN_i (z := z_26) (by omega)]; exact (hw_28.resolve_right (fun h9 => h9.1 (by omega))).2⟩)⟩), by rw [ht]; exact hP9, hD9⟩, hS.F ht⟩) hS.2.2 dX8_told_88
              ·
                have ic_10 : 7 ≤ p2.toInt := by first | exact (g_le t_7 rfl).mp c_10 | (have h := mt (g_lt rfl t_7).mpr c_10; omega)
                clear c_10
                refine lv_aload hx hb dX8_told_63 (lv_at hl 0 rfl) ?_
                refine lv_iload_n hx hb dX8_told_65 rfl (lv_at hl 3 rfl) ?_
                refine lv_iload_n hx hb dX8_told_66 rfl (lv_at hl 4 rfl) ?_
                refine lv_bipush (v := 7) hx hb dX8_told_67 (by decide) ?_
                refine lv_isub hx hb dX8_told_69 ?_
                refine lv_topi (fun z_30 ez_30 => ?_)
                have jz_30 : z_30.toInt = p2.toInt - 7 := by rw [ez_30]; exact g_sub rfl t_7 (by omega) (by omega)
                refine callRV (rest := []) (As := [.int p1, .int z_30]) hx hb hml hown htb hK (g_X5_widthOf l D E yh ya ysights ystage ysailed yvoyage yf3 yf5 p1 z_30 (by (try dsimp only); omega)) ok_X5_widthOf k_829 k_830 k_831 k_8 k_832 ⟨(Nat.le_of_ble_eq_true rfl), (Nat.le_of_ble_eq_true rfl)⟩ ⟨(Nat.le_of_ble_eq_true rfl), (Nat.le_of_ble_eq_true rfl)⟩ hl.1 (Nat.le_of_ble_eq_true rfl) rfl rfl dX8_told_70 (hP.sub (ws' := [(yh, .inr (5, G5 ya ysights ystage ysailed yvoyage)), ((ya 3), .inl (E 0, 3, .inl yf3)), ((ya 5), .inl (E 0, 40, .inl yf5))]) [3, 6, 8] rfl) rfl rfl 0 rfl (fun r_31 hw_32 => ?_)
                have hP9 := hP.sub (ws' := [(xh, .inr (8, G8 xa xtrialRule xdropRule xtoday)), ((xa 4), .inl (E 4, 5, .inr (.inr (.inr (.inr xf4))))), ((xa 5), .inl (E 0, 9, .inl xf5)), (yh, .inr (5, G5 ya ysights ystage ysailed yvoyage)), ((ya 1), .inl (E 0, 3, .inl yf1)), ((ya 2), .inl (E 0, 3, .inl yf2)), ((ya 3), .inl (E 0, 3, .inl yf3)), ((ya 4), .inl (E 0, 3, .inl yf4)), ((ya 5), .inl (E 0, 40, .inl yf5)), ((ya 6), .inl (E 0, 120, .inl yf6)), (xdropRule, .inr (4, G4 u2a u2size)), ((u2a 0), .inl (E 0, 120, .inl u2f0)), ((u2a 1), .inl (E 0, 120, .inl u2f1)), ((u2a 2), .inl (E 0, 120, .inl u2f2))]) [0, 1, 2, 3, 4, 5, 6, 7, 8, 9, 10, 11, 12, 13] rfl
                have hD9 := hD.sub (ws' := [(xh, .inr (8, G8 xa xtrialRule xdropRule xtoday)), ((xa 4), .inl (E 4, 5, .inr (.inr (.inr (.inr xf4))))), ((xa 5), .inl (E 0, 9, .inl xf5)), (yh, .inr (5, G5 ya ysights ystage ysailed yvoyage)), ((ya 1), .inl (E 0, 3, .inl yf1)), ((ya 2), .inl (E 0, 3, .inl yf2)), ((ya 3), .inl (E 0, 3, .inl yf3)), ((ya 4), .inl (E 0, 3, .inl yf4)), ((ya 5), .inl (E 0, 40, .inl yf5)), ((ya 6), .inl (E 0, 120, .inl yf6)), (xdropRule, .inr (4, G4 u2a u2size)), ((u2a 0), .inl (E 0, 120, .inl u2f0)), ((u2a 1), .inl (E 0, 120, .inl u2f1)), ((u2a 2), .inl (E 0, 120, .inl u2f2))]) [0, 1, 2, 3, 4, 5, 6, 7, 8, 9, 10, 11, 12, 13] (by decide) rfl
                exact W.iret (v := r_31) hx hb hr (fun t ht hW => ⟨⟨r_31, (u2f2, xf5), rfl, (by refine Or.inr ⟨by omega, Or.inr (Or.inr (Or.inl ⟨by omega, by omega, by (try dsimp only); rw [← ofN_i (z := z_30) (by omega)]; exact (hw_32.resolve_right (fun h9 => h9.1 (by omega))).2⟩))⟩), by rw [ht]; exact hP9, hD9⟩, hS.F ht⟩) hS.2.2 dX8_told_73
            ·
              have ic_9 : p2.toInt = 0 := (g_eq rfl t_0).mp c_9
              clear c_9
              refine lv_aload hx hb dX8_told_49 (lv_at hl 0 rfl) ?_
              refine va_getN (D := D) (ci := 5) (v := .ref (ya 5)) (C := RX5) (T := TX5) (N := 11) hx hb htb iX5 hown hK.1 hP 3 rfl rfl 5 (by decide) (va_Nw.use rfl (hK.2.1 (Cond.fieldLinkNest RX8 243 "SeaWatches$Ship" "sightDays" "[I" "SeaWatches") (by decide +kernel))) (fun _ h9 => h9) rfl dX8_told_51 ?_
              refine lv_iload_n hx hb dX8_told_54 rfl (lv_at hl 3 rfl) ?_
              refine va_iald hx hb hK.1 hP 8 0 rfl rfl (g_in rfl (by omega) (by omega)) dX8_told_55 ?_
              refine lv_topi (fun z_34 ez_34 => ?_)
              have kz_34 := congrArg Int32.toInt ez_34
              have hP9 := hP.sub (ws' := [(xh, .inr (8, G8 xa xtrialRule xdropRule xtoday)), ((xa 4), .inl (E 4, 5, .inr (.inr (.inr (.inr xf4))))), ((xa 5), .inl (E 0, 9, .inl xf5)), (yh, .inr (5, G5 ya ysights ystage ysailed yvoyage)), ((ya 1), .inl (E 0, 3, .inl yf1)), ((ya 2), .inl (E 0, 3, .inl yf2)), ((ya 3), .inl (E 0, 3, .inl yf3)), ((ya 4), .inl (E 0, 3, .inl yf4)), ((ya 5), .inl (E 0, 40, .inl yf5)), ((ya 6), .inl (E 0, 120, .inl yf6)), (xdropRule, .inr (4, G4 u2a u2size)), ((u2a 0), .inl (E 0, 120, .inl u2f0)), ((u2a 1), .inl (E 0, 120, .inl u2f1)), ((u2a 2), .inl (E 0, 120, .inl u2f2))]) [0, 1, 2, 3, 4, 5, 6, 7, 8, 9, 10, 11, 12, 13] rfl
              have hD9 := hD.sub (ws' := [(xh, .inr (8, G8 xa xtrialRule xdropRule xtoday)), ((xa 4), .inl (E 4, 5, .inr (.inr (.inr (.inr xf4))))), ((xa 5), .inl (E 0, 9, .inl xf5)), (yh, .inr (5, G5 ya ysights ystage ysailed yvoyage)), ((ya 1), .inl (E 0, 3, .inl yf1)), ((ya 2), .inl (E 0, 3, .inl yf2)), ((ya 3), .inl (E 0, 3, .inl yf3)), ((ya 4), .inl (E 0, 3, .inl yf4)), ((ya 5), .inl (E 0, 40, .inl yf5)), ((ya 6), .inl (E 0, 120, .inl yf6)), (xdropRule, .inr (4, G4 u2a u2size)), ((u2a 0), .inl (E 0, 120, .inl u2f0)), ((u2a 1), .inl (E 0, 120, .inl u2f1)), ((u2a 2), .inl (E 0, 120, .inl u2f2))]) [0, 1, 2, 3, 4, 5, 6, 7, 8, 9, 10, 11, 12, 13] (by decide) rfl
              exact W.iret (v := z_34) hx hb hr (fun t ht hW => ⟨⟨z_34, (u2f2, xf5), rfl, (by refine Or.inr ⟨by omega, Or.inl ⟨by omega, by subst_vars; rfl⟩⟩), by rw [ht]; exact hP9, hD9⟩, hS.F ht⟩) hS.2.2 dX8_told_56
          ·
            have ic_8 : 9 < p2.toInt := by first | exact (g_lt t_9 rfl).mp c_8 | (have h := mt (g_le rfl t_9).mpr c_8; omega)
            clear c_8
            refine lv_ldc hx hb hown (htb _ k_386) dX8_told_34 ?_
            have hP9 := hP.sub (ws' := [(xh, .inr (8, G8 xa xtrialRule xdropRule xtoday)), ((xa 4), .inl (E 4, 5, .inr (.inr (.inr (.inr xf4))))), ((xa 5), .inl (E 0, 9, .inl xf5)), (yh, .inr (5, G5 ya ysights ystage ysailed yvoyage)), ((ya 1), .inl (E 0, 3, .inl yf1)), ((ya 2), .inl (E 0, 3, .inl yf2)), ((ya 3), .inl (E 0, 3, .inl yf3)), ((ya 4), .inl (E 0, 3, .inl yf4)), ((ya 5), .inl (E 0, 40, .inl yf5)), ((ya 6), .inl (E 0, 120, .inl yf6)), (xdropRule, .inr (4, G4 u2a u2size)), ((u2a 0), .inl (E 0, 120, .inl u2f0)), ((u2a 1), .inl (E 0, 120, .inl u2f1)), ((u2a 2), .inl (E 0, 120, .inl u2f2))]) [0, 1, 2, 3, 4, 5, 6, 7, 8, 9, 10, 11, 12, 13] rfl
            have hD9 := hD.sub (ws' := [(xh, .inr (8, G8 xa xtrialRule xdropRule xtoday)), ((xa 4), .inl (E 4, 5, .inr (.inr (.inr (.inr xf4))))), ((xa 5), .inl (E 0, 9, .inl xf5)), (yh, .inr (5, G5 ya ysights ystage ysailed yvoyage)), ((ya 1), .inl (E 0, 3, .inl yf1)), ((ya 2), .inl (E 0, 3, .inl yf2)), ((ya 3), .inl (E 0, 3, .inl yf3)), ((ya 4), .inl (E 0, 3, .inl yf4)), ((ya 5), .inl (E 0, 40, .inl yf5)), ((ya 6), .inl (E 0, 120, .inl yf6)), (xdropRule, .inr (4, G4 u2a u2size)), ((u2a 0), .inl (E 0, 120, .inl u2f0)), ((u2a 1), .inl (E 0, 120, .inl u2f1)), ((u2a 2), .inl (E 0, 120, .inl u2f2))]) [0, 1, 2, 3, 4, 5, 6, 7, 8, 9, 10, 11, 12, 13] (by decide) rfl
            exact W.iret (v := (-2000000000)) hx hb hr (fun t ht hW => ⟨⟨(-2000000000), (u2f2, xf5), rfl, (by have hl := t_m2000000000; exact Or.inl ⟨by omega, by omega⟩), by rw [ht]; exact hP9, hD9⟩, hS.F ht⟩) hS.2.2 dX8_told_36
  ·
    refine W_top (y := .int 0) (by rw [hr_1]) ?_
    refine lv_if_eq (tgt := 34) hx hb dX8_told_4 (by decide) (fun c_35 => ?_) (fun c_35 => absurd (by decide) c_35)
    refine lv_ldc hx hb hown (htb _ k_386) dX8_told_34 ?_
    have hP9 := hP.sub (ws' := [(xh, .inr (8, G8 xa xtrialRule xdropRule xtoday)), ((xa 4), .inl (E 4, 5, .inr (.inr (.inr (.inr xf4))))), ((xa 5), .inl (E 0, 9, .inl xf5)), (yh, .inr (5, G5 ya ysights ystage ysailed yvoyage)), ((ya 1), .inl (E 0, 3, .inl yf1)), ((ya 2), .inl (E 0, 3, .inl yf2)), ((ya 3), .inl (E 0, 3, .inl yf3)), ((ya 4), .inl (E 0, 3, .inl yf4)), ((ya 5), .inl (E 0, 40, .inl yf5)), ((ya 6), .inl (E 0, 120, .inl yf6)), (xdropRule, .inr (4, G4 u2a u2size)), ((u2a 0), .inl (E 0, 120, .inl u2f0)), ((u2a 1), .inl (E 0, 120, .inl u2f1)), ((u2a 2), .inl (E 0, 120, .inl u2f2))]) [0, 1, 2, 3, 4, 5, 6, 7, 8, 9, 10, 11, 12, 13] rfl
    have hD9 := hD.sub (ws' := [(xh, .inr (8, G8 xa xtrialRule xdropRule xtoday)), ((xa 4), .inl (E 4, 5, .inr (.inr (.inr (.inr xf4))))), ((xa 5), .inl (E 0, 9, .inl xf5)), (yh, .inr (5, G5 ya ysights ystage ysailed yvoyage)), ((ya 1), .inl (E 0, 3, .inl yf1)), ((ya 2), .inl (E 0, 3, .inl yf2)), ((ya 3), .inl (E 0, 3, .inl yf3)), ((ya 4), .inl (E 0, 3, .inl yf4)), ((ya 5), .inl (E 0, 40, .inl yf5)), ((ya 6), .inl (E 0, 120, .inl yf6)), (xdropRule, .inr (4, G4 u2a u2size)), ((u2a 0), .inl (E 0, 120, .inl u2f0)), ((u2a 1), .inl (E 0, 120, .inl u2f1)), ((u2a 2), .inl (E 0, 120, .inl u2f2))]) [0, 1, 2, 3, 4, 5, 6, 7, 8, 9, 10, 11, 12, 13] (by decide) rfl
    exact W.iret (v := (-2000000000)) hx hb hr (fun t ht hW => ⟨⟨(-2000000000), (u2f2, xf5), rfl, (by have hl := t_m2000000000; exact Or.inl ⟨by omega, by omega⟩), by rw [ht]; exact hP9, hD9⟩, hS.F ht⟩) hS.2.2 dX8_told_36
