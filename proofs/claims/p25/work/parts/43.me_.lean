section
set_option maxHeartbeats 4000000 in
set_option maxRecDepth 100000 in
theorem g_X9_work (l : Launch) (D : va_G) (E : Nat → Nat) (mh : Nat) (ma : Nat → Nat) (mcode : Int32) (mtoday : Int32) (moffs : Int32) (mmany : Int64) (msumW : Int64) (msumA : Int64) (msumR : Int64) (msumWW : Int64) (msumWA : Int64) (msumAA : Int64) (msumWR : Int64) (msumAR : Int64) (mupper : Int64) (mlower : Int64) (mrates : Int32) (mtaped : Int32) (mlaid : Int32) (mat : Int32) (mtk : Int32) (mtkAt : Int32) (mtkNumber : Int32) (mwaits : Int32) (mlisted : Int32) (mdealtMany : Int32) (mf34 : Nat → Int32) (mf35 : Nat → Int32) (mf36 : Nat → Int32) (mf37 : Nat → Int32) (mf45 : Nat → Int32) (mf46 : Nat → Int32) (mf47 : Nat → Int32) (mf48 : Nat → Int32) (mf49 : Nat → Int32) (mf51 : Nat → Int32) (mf52 : Nat → Int32) (mf53 : Nat → Int32) (mf54 : Nat → Int32) (mf56 : Nat → Int32) (mf57 : Nat → Int32) (mf59 : Nat → Int32) (mf60 : Nat → Int32) (p0 : Int32) (p1 : Int32) (sz : Nat) (hi_m : (0 ≤ mtoday.toInt ∧ mtoday.toInt ≤ 399) ∧ (0 ≤ moffs.toInt ∧ moffs.toInt ≤ 60) ∧ (0 ≤ mrates.toInt ∧ mrates.toInt ≤ 60) ∧ (0 ≤ mtaped.toInt ∧ mtaped.toInt ≤ 120) ∧ (0 ≤ mlisted.toInt ∧ mlisted.toInt ≤ 9) ∧ (0 ≤ mdealtMany.toInt ∧ mdealtMany.toInt ≤ 9)) (hr_m35 : ∀ k : Nat, k < 2 → 0 ≤ (mf35 k).toInt ∧ (mf35 k).toInt ≤ 127) (g0 : 0 ≤ p0.toInt ∧ p0.toInt ≤ 4 ∧ 0 ≤ p1.toInt ∧ p1.toInt ≤ 39) (j49 : J49 mf47 mf49) (hjw : JW mf36 mf35) : Met l yX9_work (wl yX9_work cX9_work 11 (some .int)) (RM 2 0 0) (mu_P D E [.ref mh, .int p0, .int p1] [(mh, .inr (9, G9 ma mcode mtoday moffs mmany msumW msumA msumR msumWW msumWA msumAA msumWR msumAR mupper mlower mrates mtaped mlaid mat mtk mtkAt mtkNumber mwaits mlisted mdealtMany)), ((ma 34), .inl (E 1, 2, .inl mf34)), ((ma 35), .inl (E 0, 2, .inl mf35)), ((ma 36), .inl (E 0, 384, .inl mf36)), ((ma 37), .inl (E 0, 384, .inl mf37)), ((ma 45), .inl (E 0, 130, .inl mf45)), ((ma 46), .inl (E 0, 24, .inl mf46)), ((ma 47), .inl (E 0, 5, .inl mf47)), ((ma 48), .inl (E 0, 5, .inl mf48)), ((ma 49), .inl (E 0, 5, .inl mf49)), ((ma 51), .inl (E 0, 15, .inl mf51)), ((ma 52), .inl (E 0, 15, .inl mf52)), ((ma 53), .inl (E 0, 15, .inl mf53)), ((ma 54), .inl (E 0, 15, .inl mf54)), ((ma 56), .inl (E 0, 200, .inl mf56)), ((ma 57), .inl (E 0, 600, .inl mf57)), ((ma 59), .inl (E 0, 3, .inl mf59)), ((ma 60), .inl (E 0, 3, .inl mf60))] sz) (va_Qi (fun (r : Int32) (u : (Nat → Int32) × (Nat → Int32) × (Nat → Int32) × (Nat → Int32)) => True) (mu_B D (va_A [(mh, .inr (9, G9 ma mcode mtoday moffs mmany msumW msumA msumR msumWW msumWA msumAA msumWR msumAR mupper mlower mrates mtaped mlaid mat mtk mtkAt mtkNumber mwaits mlisted mdealtMany)), ((ma 34), .inl (E 1, 2, .inl mf34)), ((ma 35), .inl (E 0, 2, .inl mf35)), ((ma 36), .inl (E 0, 384, .inl mf36)), ((ma 37), .inl (E 0, 384, .inl mf37)), ((ma 45), .inl (E 0, 130, .inl mf45)), ((ma 46), .inl (E 0, 24, .inl mf46)), ((ma 47), .inl (E 0, 5, .inl mf47)), ((ma 48), .inl (E 0, 5, .inl mf48)), ((ma 49), .inl (E 0, 5, .inl mf49)), ((ma 51), .inl (E 0, 15, .inl mf51)), ((ma 52), .inl (E 0, 15, .inl mf52)), ((ma 53), .inl (E 0, 15, .inl mf53)), ((ma 54), .inl (E 0, 15, .inl mf54)), ((ma 56), .inl (E 0, 200, .inl mf56)), ((ma 57), .inl (E 0, 600, .inl mf57)), ((ma 59), .inl (E 0, 3, .inl mf59)), ((ma 60), .inl (E 0, 3, .inl mf60))] sz) (fun (u : (Nat → Int32) × (Nat → Int32) × (Nat → Int32) × (Nat → Int32)) => [(mh, .inr (9, G9 ma mcode mtoday moffs mmany msumW msumA msumR msumWW msumWA msumAA msumWR msumAR mupper mlower mrates mtaped mlaid mat mtk mtkAt mtkNumber mwaits mlisted mdealtMany)), ((ma 34), .inl (E 1, 2, .inl mf34)), ((ma 35), .inl (E 0, 2, .inl mf35)), ((ma 36), .inl (E 0, 384, .inl mf36)), ((ma 37), .inl (E 0, 384, .inl mf37)), ((ma 45), .inl (E 0, 130, .inl u.1)), ((ma 46), .inl (E 0, 24, .inl u.2.1)), ((ma 47), .inl (E 0, 5, .inl mf47)), ((ma 48), .inl (E 0, 5, .inl mf48)), ((ma 49), .inl (E 0, 5, .inl mf49)), ((ma 51), .inl (E 0, 15, .inl mf51)), ((ma 52), .inl (E 0, 15, .inl mf52)), ((ma 53), .inl (E 0, 15, .inl mf53)), ((ma 54), .inl (E 0, 15, .inl mf54)), ((ma 56), .inl (E 0, 200, .inl mf56)), ((ma 57), .inl (E 0, 600, .inl mf57)), ((ma 59), .inl (E 0, 3, .inl u.2.2.1)), ((ma 60), .inl (E 0, 3, .inl u.2.2.2))])) (va_A [(mh, .inr (9, G9 ma mcode mtoday moffs mmany msumW msumA msumR msumWW msumWA msumAA msumWR msumAR mupper mlower mrates mtaped mlaid mat mtk mtkAt mtkNumber mwaits mlisted mdealtMany)), ((ma 34), .inl (E 1, 2, .inl mf34)), ((ma 35), .inl (E 0, 2, .inl mf35)), ((ma 36), .inl (E 0, 384, .inl mf36)), ((ma 37), .inl (E 0, 384, .inl mf37)), ((ma 45), .inl (E 0, 130, .inl mf45)), ((ma 46), .inl (E 0, 24, .inl mf46)), ((ma 47), .inl (E 0, 5, .inl mf47)), ((ma 48), .inl (E 0, 5, .inl mf48)), ((ma 49), .inl (E 0, 5, .inl mf49)), ((ma 51), .inl (E 0, 15, .inl mf51)), ((ma 52), .inl (E 0, 15, .inl mf52)), ((ma 53), .inl (E 0, 15, .inl mf53)), ((ma 54), .inl (E 0, 15, .inl mf54)), ((ma 56), .inl (E 0, 200, .inl mf56)), ((ma 57), .inl (E 0, 600, .inl mf57)), ((ma 59), .inl (E 0, 3, .inl mf59)), ((ma 60), .inl (E 0, 3, .inl mf60))] sz)) 0 0 (va_A [(mh, .inr (9, G9 ma mcode mtoday moffs mmany msumW msumA msumR msumWW msumWA msumAA msumWR msumAR mupper mlower mrates mtaped mlaid mat mtk mtkAt mtkNumber mwaits mlisted mdealtMany)), ((ma 34), .inl (E 1, 2, .inl mf34)), ((ma 35), .inl (E 0, 2, .inl mf35)), ((ma 36), .inl (E 0, 384, .inl mf36)), ((ma 37), .inl (E 0, 384, .inl mf37)), ((ma 45), .inl (E 0, 130, .inl mf45)), ((ma 46), .inl (E 0, 24, .inl mf46)), ((ma 47), .inl (E 0, 5, .inl mf47)), ((ma 48), .inl (E 0, 5, .inl mf48)), ((ma 49), .inl (E 0, 5, .inl mf49)), ((ma 51), .inl (E 0, 15, .inl mf51)), ((ma 52), .inl (E 0, 15, .inl mf52)), ((ma 53), .inl (E 0, 15, .inl mf53)), ((ma 54), .inl (E 0, 15, .inl mf54)), ((ma 56), .inl (E 0, 200, .inl mf56)), ((ma 57), .inl (E 0, 600, .inl mf57)), ((ma 59), .inl (E 0, 3, .inl mf59)), ((ma 60), .inl (E 0, 3, .inl mf60))] sz) := by
  refine Met.ofW (cc := cX9_work) (maxL := 11) (ret := (some .int)) (by decide) rfl ?_
  intro p e s m args below meth c s₁ B hml hv
  obtain ⟨rfl, hsz, hP, hK, hD0⟩ := hv
  have hx := B.exec; have hb := B.bytes; have hr := B.returns
  have hts := atoms_spec (ws := wl yX9_work cX9_work 11 (some .int)) B.pre
  have htb : ∀ w ∈ tb, w.before _ s = true := fun w h => hts w (List.mem_cons_of_mem _ h)
  have hown : s.vm.findClass RX9 = some m.cls := findClass_of_methodNamed B.named
  have hlocks := B.notSynchronized
  subst hsz
  have hD := hD0.self (sz := s.heap.size)
  generalize hAe : va_A [(mh, .inr (9, G9 ma mcode mtoday moffs mmany msumW msumA msumR msumWW msumWA msumAA msumWR msumAR mupper mlower mrates mtaped mlaid mat mtk mtkAt mtkNumber mwaits mlisted mdealtMany)), ((ma 34), .inl (E 1, 2, .inl mf34)), ((ma 35), .inl (E 0, 2, .inl mf35)), ((ma 36), .inl (E 0, 384, .inl mf36)), ((ma 37), .inl (E 0, 384, .inl mf37)), ((ma 45), .inl (E 0, 130, .inl mf45)), ((ma 46), .inl (E 0, 24, .inl mf46)), ((ma 47), .inl (E 0, 5, .inl mf47)), ((ma 48), .inl (E 0, 5, .inl mf48)), ((ma 49), .inl (E 0, 5, .inl mf49)), ((ma 51), .inl (E 0, 15, .inl mf51)), ((ma 52), .inl (E 0, 15, .inl mf52)), ((ma 53), .inl (E 0, 15, .inl mf53)), ((ma 54), .inl (E 0, 15, .inl mf54)), ((ma 56), .inl (E 0, 200, .inl mf56)), ((ma 57), .inl (E 0, 600, .inl mf57)), ((ma 59), .inl (E 0, 3, .inl mf59)), ((ma 60), .inl (E 0, 3, .inl mf60))] s.heap.size = A at hD ⊢
  have hA : ∀ q : Nat, s.heap.size ≤ q → A q := fun q h => by rw [← hAe]; exact Or.inr h
  have hS : va_S A s.heap s.heap [] := va_S.rf
  have hP : va_P D vwCl [(mh, .inr (9, G9 ma mcode mtoday moffs mmany msumW msumA msumR msumWW msumWA msumAA msumWR msumAR mupper mlower mrates mtaped mlaid mat mtk mtkAt mtkNumber mwaits mlisted mdealtMany)), ((ma 34), .inl (E 1, 2, .inl mf34)), ((ma 35), .inl (E 0, 2, .inl mf35)), ((ma 36), .inl (E 0, 384, .inl mf36)), ((ma 37), .inl (E 0, 384, .inl mf37)), ((ma 45), .inl (E 0, 130, .inl mf45)), ((ma 46), .inl (E 0, 24, .inl mf46)), ((ma 47), .inl (E 0, 5, .inl mf47)), ((ma 48), .inl (E 0, 5, .inl mf48)), ((ma 49), .inl (E 0, 5, .inl mf49)), ((ma 51), .inl (E 0, 15, .inl mf51)), ((ma 52), .inl (E 0, 15, .inl mf52)), ((ma 53), .inl (E 0, 15, .inl mf53)), ((ma 54), .inl (E 0, 15, .inl mf54)), ((ma 56), .inl (E 0, 200, .inl mf56)), ((ma 57), .inl (E 0, 600, .inl mf57)), ((ma 59), .inl (E 0, 3, .inl mf59)), ((ma 60), .inl (E 0, 3, .inl mf60))] s.heap := hP
  have hl := lv_entry ([.ref mh, .int p0, .int p1]) (n := 11) (Nat.le_of_ble_eq_true rfl)
  rw [lg_entry_eq]
  generalize (lg_sl ([.ref mh, .int p0, .int p1]) ++ List.replicate (11 - (lg_sl ([.ref mh, .int p0, .int p1])).length) Slot.unset).toArray = ls at hl ⊢
  have hl : lv_has ls 11 [(0, .ref mh), (1, .int p0), (2, .int p1)] := hl
  have lo_p0 := i_lo p0; have hi_p0 := i_hi p0
  have lo_p1 := i_lo p1; have hi_p1 := i_hi p1
  refine lv_aload_n hx hb dX9_work_0 rfl (lv_at hl 0 rfl) ?_
  refine va_get (D := D) (ci := 9) (v := .ref (ma 56)) (C := RX9) (T := TX9) (N := 68) hx hb htb iX9 hown hK.1 hP 0 rfl rfl 56 (by decide) (htb _ k_1014) (fun _ h9 => h9) rfl dX9_work_1 ?_
  refine lv_bipush (v := 40) hx hb dX9_work_4 (by decide) ?_
  refine lv_iload_n hx hb dX9_work_6 rfl (lv_at hl 1 rfl) ?_
  refine lv_imul hx hb dX9_work_7 ?_
  refine lv_topi (fun z_1 ez_1 => ?_)
  have jz_1 : z_1.toInt = 40 * p0.toInt := by rw [ez_1]; exact g_mul t_40 rfl (by omega) (by omega)
  refine lv_iload_n hx hb dX9_work_8 rfl (lv_at hl 2 rfl) ?_
  refine lv_iadd hx hb dX9_work_9 ?_
  refine lv_topi (fun z_2 ez_2 => ?_)
  have jz_2 : z_2.toInt = z_1.toInt + p1.toInt := by rw [ez_2]; exact g_add rfl rfl (by omega) (by omega)
  refine va_iald hx hb hK.1 hP 14 0 rfl rfl (g_in rfl (by omega) (by omega)) dX9_work_10 ?_
  refine lv_topi (fun z_3 ez_3 => ?_)
  have kz_3 := congrArg Int32.toInt ez_3
  refine lv_aload_n hx hb dX9_work_11 rfl (lv_at hl 0 rfl) ?_
  refine va_get (D := D) (ci := 9) (v := .ref (ma 48)) (C := RX9) (T := TX9) (N := 68) hx hb htb iX9 hown hK.1 hP 0 rfl rfl 48 (by decide) (htb _ k_1006) (fun _ h9 => h9) rfl dX9_work_12 ?_
  refine lv_iload_n hx hb dX9_work_15 rfl (lv_at hl 1 rfl) ?_
  refine va_iald hx hb hK.1 hP 8 0 rfl rfl (g_in rfl (by omega) (by omega)) dX9_work_16 ?_
  refine lv_topi (fun z_4 ez_4 => ?_)
  have kz_4 := congrArg Int32.toInt ez_4
  refine lv_isub hx hb dX9_work_17 ?_
  refine lv_topi (fun z_5 ez_5 => ?_)
  refine lv_istore_n (lv' := [(3, .int z_5), (0, .ref mh), (1, .int p0), (2, .int p1)]) hx hb dX9_work_18 rfl hl (by decide) rfl (fun ls hl => ?_)
  refine lv_aload_n hx hb dX9_work_19 rfl (lv_at hl 1 rfl) ?_
  refine va_get (D := D) (ci := 9) (v := .ref (ma 47)) (C := RX9) (T := TX9) (N := 68) hx hb htb iX9 hown hK.1 hP 0 rfl rfl 47 (by decide) (htb _ k_1005) (fun _ h9 => h9) rfl dX9_work_20 ?_
  refine lv_iload_n hx hb dX9_work_23 rfl (lv_at hl 2 rfl) ?_
  refine va_iald hx hb hK.1 hP 7 0 rfl rfl (g_in rfl (by omega) (by omega)) dX9_work_24 ?_
  refine lv_topi (fun z_6 ez_6 => ?_)
  have kz_6 := congrArg Int32.toInt ez_6
  refine lv_iconst (v := 2) hx hb dX9_work_25 (by decide) ?_
  refine lv_icmp_ne (tgt := 33) hx hb dX9_work_26 (by decide) (fun c_7 => ?_) (fun c_7 => ?_)
  ·
    have ic_7 : z_6.toInt ≠ 2 := mt (g_eq rfl t_2).mpr c_7
    clear c_7
    refine lv_iconst (v := 0) hx hb dX9_work_33 (by decide) ?_
    refine lv_istore (lv' := [(4, .int 0), (3, .int z_5), (0, .ref mh), (1, .int p0), (2, .int p1)]) hx hb dX9_work_34 hl (by decide) rfl (fun ls hl => ?_)
    refine lv_iconst (v := 0) hx hb dX9_work_36 (by decide) ?_
    refine lv_istore (lv' := [(5, .int 0), (4, .int 0), (3, .int z_5), (0, .ref mh), (1, .int p0), (2, .int p1)]) hx hb dX9_work_37 hl (by decide) rfl (fun ls hl => ?_)
    have loop_8 : ∀ (N_10 : Nat) (L5_39 : Int32) (mf59_39 : Nat → Int32) (mf60_39 : Nat → Int32) (H : Heap) (locs : List Loc) (ls : Array Slot), 3 - L5_39.toInt < (N_10 : Int) → (0 ≤ L5_39.toInt ∧ L5_39.toInt ≤ 3) → va_P D vwCl [(mh, .inr (9, G9 ma mcode mtoday moffs mmany msumW msumA msumR msumWW msumWA msumAA msumWR msumAR mupper mlower mrates mtaped mlaid mat mtk mtkAt mtkNumber mwaits mlisted mdealtMany)), ((ma 34), .inl (E 1, 2, .inl mf34)), ((ma 35), .inl (E 0, 2, .inl mf35)), ((ma 36), .inl (E 0, 384, .inl mf36)), ((ma 37), .inl (E 0, 384, .inl mf37)), ((ma 45), .inl (E 0, 130, .inl mf45)), ((ma 46), .inl (E 0, 24, .inl mf46)), ((ma 47), .inl (E 0, 5, .inl mf47)), ((ma 48), .inl (E 0, 5, .inl mf48)), ((ma 49), .inl (E 0, 5, .inl mf49)), ((ma 51), .inl (E 0, 15, .inl mf51)), ((ma 52), .inl (E 0, 15, .inl mf52)), ((ma 53), .inl (E 0, 15, .inl mf53)), ((ma 54), .inl (E 0, 15, .inl mf54)), ((ma 56), .inl (E 0, 200, .inl mf56)), ((ma 57), .inl (E 0, 600, .inl mf57)), ((ma 59), .inl (E 0, 3, .inl mf59_39)), ((ma 60), .inl (E 0, 3, .inl mf60_39))] H → va_D A [(mh, .inr (9, G9 ma mcode mtoday moffs mmany msumW msumA msumR msumWW msumWA msumAA msumWR msumAR mupper mlower mrates mtaped mlaid mat mtk mtkAt mtkNumber mwaits mlisted mdealtMany)), ((ma 34), .inl (E 1, 2, .inl mf34)), ((ma 35), .inl (E 0, 2, .inl mf35)), ((ma 36), .inl (E 0, 384, .inl mf36)), ((ma 37), .inl (E 0, 384, .inl mf37)), ((ma 45), .inl (E 0, 130, .inl mf45)), ((ma 46), .inl (E 0, 24, .inl mf46)), ((ma 47), .inl (E 0, 5, .inl mf47)), ((ma 48), .inl (E 0, 5, .inl mf48)), ((ma 49), .inl (E 0, 5, .inl mf49)), ((ma 51), .inl (E 0, 15, .inl mf51)), ((ma 52), .inl (E 0, 15, .inl mf52)), ((ma 53), .inl (E 0, 15, .inl mf53)), ((ma 54), .inl (E 0, 15, .inl mf54)), ((ma 56), .inl (E 0, 200, .inl mf56)), ((ma 57), .inl (E 0, 600, .inl mf57)), ((ma 59), .inl (E 0, 3, .inl mf59_39)), ((ma 60), .inl (E 0, 3, .inl mf60_39))] → va_S A s.heap H locs → lv_has ls 11 [(5, .int L5_39), (4, .int 0), (3, .int z_5), (0, .ref mh), (1, .int p0), (2, .int p1)] → W p l e (headSpec (wl yX9_work cX9_work 11 (some .int)) (RM 2 0 0)).room s m [Value.ref mh, .int p0, .int p1].toArray below meth c H locs 0 0 (MQ below (va_Qi (fun (r : Int32) (u : (Nat → Int32) × (Nat → Int32) × (Nat → Int32) × (Nat → Int32)) => True) (mu_B D A (fun (u : (Nat → Int32) × (Nat → Int32) × (Nat → Int32) × (Nat → Int32)) => [(mh, .inr (9, G9 ma mcode mtoday moffs mmany msumW msumA msumR msumWW msumWA msumAA msumWR msumAR mupper mlower mrates mtaped mlaid mat mtk mtkAt mtkNumber mwaits mlisted mdealtMany)), ((ma 34), .inl (E 1, 2, .inl mf34)), ((ma 35), .inl (E 0, 2, .inl mf35)), ((ma 36), .inl (E 0, 384, .inl mf36)), ((ma 37), .inl (E 0, 384, .inl mf37)), ((ma 45), .inl (E 0, 130, .inl u.1)), ((ma 46), .inl (E 0, 24, .inl u.2.1)), ((ma 47), .inl (E 0, 5, .inl mf47)), ((ma 48), .inl (E 0, 5, .inl mf48)), ((ma 49), .inl (E 0, 5, .inl mf49)), ((ma 51), .inl (E 0, 15, .inl mf51)), ((ma 52), .inl (E 0, 15, .inl mf52)), ((ma 53), .inl (E 0, 15, .inl mf53)), ((ma 54), .inl (E 0, 15, .inl mf54)), ((ma 56), .inl (E 0, 200, .inl mf56)), ((ma 57), .inl (E 0, 600, .inl mf57)), ((ma 59), .inl (E 0, 3, .inl u.2.2.1)), ((ma 60), .inl (E 0, 3, .inl u.2.2.2))])) A) [Value.ref mh, .int p0, .int p1].toArray s 0 0 A) (F0 m 39 ls []) := by
      intro N_10
      induction N_10 with
      | zero => intro L5_39 mf59_39 mf60_39 H locs ls hm v0_39 _ _ _ _; exfalso; omega
      | succ N_10 ih_9 =>
        intro L5_39 mf59_39 mf60_39 H locs ls hm v0_39 hP hD hS hl
        have lo_L5_39 := i_lo L5_39; have hi_L5_39 := i_hi L5_39
        refine lv_iload hx hb dX9_work_39 (lv_at hl 0 rfl) ?_
        refine lv_iconst (v := 3) hx hb dX9_work_41 (by decide) ?_
        refine lv_icmp_ge (tgt := 192) hx hb dX9_work_42 (by decide) (fun c_11 => ?_) (fun c_11 => ?_)
        ·
          have ic_11 : 3 ≤ L5_39.toInt := by first | exact (g_le t_3 rfl).mp c_11 | (have h := mt (g_lt rfl t_3).mpr c_11; omega)
          clear c_11
          refine lv_aload_n hx hb dX9_work_192 rfl (lv_at hl 3 rfl) ?_
          refine va_get (D := D) (ci := 9) (v := .ref (ma 34)) (C := RX9) (T := TX9) (N := 68) hx hb htb iX9 hown hK.1 hP 0 rfl rfl 34 (by decide) (htb _ k_992) (fun _ h9 => h9) rfl dX9_work_193 ?_
          refine lv_iconst (v := 1) hx hb dX9_work_196 (by decide) ?_
          refine va_zald hx hb hK.1 hP 1 1 rfl rfl (g_in t_1 (by decide) (by decide)) dX9_work_197 ?_
          refine lv_topi (fun z_12 ez_12 => ?_)
          have kz_12 := congrArg Int32.toInt ez_12
          refine lv_if_ne (tgt := 203) hx hb dX9_work_198 (by decide) (fun c_13 => ?_) (fun c_13 => ?_)
          ·
            have ic_13 : z_12.toInt ≠ 0 := mt (g_eq rfl t_0).mpr c_13
            clear c_13
            refine lv_iconst (v := (-1)) hx hb dX9_work_203 (by decide) ?_
            refine lv_istore (lv' := [(5, .int (-1)), (4, .int 0), (3, .int z_5), (0, .ref mh), (1, .int p0), (2, .int p1)]) hx hb dX9_work_204 hl (by decide) rfl (fun ls hl => ?_)
            refine lv_iconst (v := 0) hx hb dX9_work_206 (by decide) ?_
            refine lv_istore (lv' := [(6, .int 0), (5, .int (-1)), (4, .int 0), (3, .int z_5), (0, .ref mh), (1, .int p0), (2, .int p1)]) hx hb dX9_work_207 hl (by decide) rfl (fun ls hl => ?_)
            refine lv_iconst (v := 0) hx hb dX9_work_209 (by decide) ?_
            refine lv_istore (lv' := [(7, .int 0), (6, .int 0), (5, .int (-1)), (4, .int 0), (3, .int z_5), (0, .ref mh), (1, .int p0), (2, .int p1)]) hx hb dX9_work_210 hl (by decide) rfl (fun ls hl => ?_)
            have loop_14 : ∀ (N_16 : Nat) (L7_212 : Int32) (L6_212 : Int32) (L5_212 : Int32) (mf45_212 : Nat → Int32) (mf46_212 : Nat → Int32) (H : Heap) (locs : List Loc) (ls : Array Slot), 3 - L7_212.toInt < (N_16 : Int) → (0 ≤ L7_212.toInt ∧ L7_212.toInt ≤ 3) → va_P D vwCl [(mh, .inr (9, G9 ma mcode mtoday moffs mmany msumW msumA msumR msumWW msumWA msumAA msumWR msumAR mupper mlower mrates mtaped mlaid mat mtk mtkAt mtkNumber mwaits mlisted mdealtMany)), ((ma 34), .inl (E 1, 2, .inl mf34)), ((ma 35), .inl (E 0, 2, .inl mf35)), ((ma 36), .inl (E 0, 384, .inl mf36)), ((ma 37), .inl (E 0, 384, .inl mf37)), ((ma 45), .inl (E 0, 130, .inl mf45_212)), ((ma 46), .inl (E 0, 24, .inl mf46_212)), ((ma 47), .inl (E 0, 5, .inl mf47)), ((ma 48), .inl (E 0, 5, .inl mf48)), ((ma 49), .inl (E 0, 5, .inl mf49)), ((ma 51), .inl (E 0, 15, .inl mf51)), ((ma 52), .inl (E 0, 15, .inl mf52)), ((ma 53), .inl (E 0, 15, .inl mf53)), ((ma 54), .inl (E 0, 15, .inl mf54)), ((ma 56), .inl (E 0, 200, .inl mf56)), ((ma 57), .inl (E 0, 600, .inl mf57)), ((ma 59), .inl (E 0, 3, .inl mf59_39)), ((ma 60), .inl (E 0, 3, .inl mf60_39))] H → va_D A [(mh, .inr (9, G9 ma mcode mtoday moffs mmany msumW msumA msumR msumWW msumWA msumAA msumWR msumAR mupper mlower mrates mtaped mlaid mat mtk mtkAt mtkNumber mwaits mlisted mdealtMany)), ((ma 34), .inl (E 1, 2, .inl mf34)), ((ma 35), .inl (E 0, 2, .inl mf35)), ((ma 36), .inl (E 0, 384, .inl mf36)), ((ma 37), .inl (E 0, 384, .inl mf37)), ((ma 45), .inl (E 0, 130, .inl mf45_212)), ((ma 46), .inl (E 0, 24, .inl mf46_212)), ((ma 47), .inl (E 0, 5, .inl mf47)), ((ma 48), .inl (E 0, 5, .inl mf48)), ((ma 49), .inl (E 0, 5, .inl mf49)), ((ma 51), .inl (E 0, 15, .inl mf51)), ((ma 52), .inl (E 0, 15, .inl mf52)), ((ma 53), .inl (E 0, 15, .inl mf53)), ((ma 54), .inl (E 0, 15, .inl mf54)), ((ma 56), .inl (E 0, 200, .inl mf56)), ((ma 57), .inl (E 0, 600, .inl mf57)), ((ma 59), .inl (E 0, 3, .inl mf59_39)), ((ma 60), .inl (E 0, 3, .inl mf60_39))] → va_S A s.heap H locs → lv_has ls 11 [(7, .int L7_212), (6, .int L6_212), (5, .int L5_212), (4, .int 0), (3, .int z_5), (0, .ref mh), (1, .int p0), (2, .int p1)] → W p l e (headSpec (wl yX9_work cX9_work 11 (some .int)) (RM 2 0 0)).room s m [Value.ref mh, .int p0, .int p1].toArray below meth c H locs 0 0 (MQ below (va_Qi (fun (r : Int32) (u : (Nat → Int32) × (Nat → Int32) × (Nat → Int32) × (Nat → Int32)) => True) (mu_B D A (fun (u : (Nat → Int32) × (Nat → Int32) × (Nat → Int32) × (Nat → Int32)) => [(mh, .inr (9, G9 ma mcode mtoday moffs mmany msumW msumA msumR msumWW msumWA msumAA msumWR msumAR mupper mlower mrates mtaped mlaid mat mtk mtkAt mtkNumber mwaits mlisted mdealtMany)), ((ma 34), .inl (E 1, 2, .inl mf34)), ((ma 35), .inl (E 0, 2, .inl mf35)), ((ma 36), .inl (E 0, 384, .inl mf36)), ((ma 37), .inl (E 0, 384, .inl mf37)), ((ma 45), .inl (E 0, 130, .inl u.1)), ((ma 46), .inl (E 0, 24, .inl u.2.1)), ((ma 47), .inl (E 0, 5, .inl mf47)), ((ma 48), .inl (E 0, 5, .inl mf48)), ((ma 49), .inl (E 0, 5, .inl mf49)), ((ma 51), .inl (E 0, 15, .inl mf51)), ((ma 52), .inl (E 0, 15, .inl mf52)), ((ma 53), .inl (E 0, 15, .inl mf53)), ((ma 54), .inl (E 0, 15, .inl mf54)), ((ma 56), .inl (E 0, 200, .inl mf56)), ((ma 57), .inl (E 0, 600, .inl mf57)), ((ma 59), .inl (E 0, 3, .inl u.2.2.1)), ((ma 60), .inl (E 0, 3, .inl u.2.2.2))])) A) [Value.ref mh, .int p0, .int p1].toArray s 0 0 A) (F0 m 212 ls []) := by
              intro N_16
              induction N_16 with
              | zero => intro L7_212 L6_212 L5_212 mf45_212 mf46_212 H locs ls hm v0_212 _ _ _ _; exfalso; omega
              | succ N_16 ih_15 =>
                intro L7_212 L6_212 L5_212 mf45_212 mf46_212 H locs ls hm v0_212 hP hD hS hl
                have lo_L7_212 := i_lo L7_212; have hi_L7_212 := i_hi L7_212
                have lo_L6_212 := i_lo L6_212; have hi_L6_212 := i_hi L6_212
                have lo_L5_212 := i_lo L5_212; have hi_L5_212 := i_hi L5_212
                refine lv_iload hx hb dX9_work_212 (lv_at hl 0 rfl) ?_
                refine lv_iconst (v := 3) hx hb dX9_work_214 (by decide) ?_
                refine lv_icmp_ge (tgt := 339) hx hb dX9_work_215 (by decide) (fun c_17 => ?_) (fun c_17 => ?_)
                ·
                  have ic_17 : 3 ≤ L7_212.toInt := by first | exact (g_le t_3 rfl).mp c_17 | (have h := mt (g_lt rfl t_3).mpr c_17; omega)
                  clear c_17
                  refine lv_iload hx hb dX9_work_339 (lv_at hl 2 rfl) ?_
                  have hP9 := hP.sub (ws' := [(mh, .inr (9, G9 ma mcode mtoday moffs mmany msumW msumA msumR msumWW msumWA msumAA msumWR msumAR mupper mlower mrates mtaped mlaid mat mtk mtkAt mtkNumber mwaits mlisted mdealtMany)), ((ma 34), .inl (E 1, 2, .inl mf34)), ((ma 35), .inl (E 0, 2, .inl mf35)), ((ma 36), .inl (E 0, 384, .inl mf36)), ((ma 37), .inl (E 0, 384, .inl mf37)), ((ma 45), .inl (E 0, 130, .inl mf45_212)), ((ma 46), .inl (E 0, 24, .inl mf46_212)), ((ma 47), .inl (E 0, 5, .inl mf47)), ((ma 48), .inl (E 0, 5, .inl mf48)), ((ma 49), .inl (E 0, 5, .inl mf49)), ((ma 51), .inl (E 0, 15, .inl mf51)), ((ma 52), .inl (E 0, 15, .inl mf52)), ((ma 53), .inl (E 0, 15, .inl mf53)), ((ma 54), .inl (E 0, 15, .inl mf54)), ((ma 56), .inl (E 0, 200, .inl mf56)), ((ma 57), .inl (E 0, 600, .inl mf57)), ((ma 59), .inl (E 0, 3, .inl mf59_39)), ((ma 60), .inl (E 0, 3, .inl mf60_39))]) [0, 1, 2, 3, 4, 5, 6, 7, 8, 9, 10, 11, 12, 13, 14, 15, 16, 17] rfl
                  have hD9 := hD.sub (ws' := [(mh, .inr (9, G9 ma mcode mtoday moffs mmany msumW msumA msumR msumWW msumWA msumAA msumWR msumAR mupper mlower mrates mtaped mlaid mat mtk mtkAt mtkNumber mwaits mlisted mdealtMany)), ((ma 34), .inl (E 1, 2, .inl mf34)), ((ma 35), .inl (E 0, 2, .inl mf35)), ((ma 36), .inl (E 0, 384, .inl mf36)), ((ma 37), .inl (E 0, 384, .inl mf37)), ((ma 45), .inl (E 0, 130, .inl mf45_212)), ((ma 46), .inl (E 0, 24, .inl mf46_212)), ((ma 47), .inl (E 0, 5, .inl mf47)), ((ma 48), .inl (E 0, 5, .inl mf48)), ((ma 49), .inl (E 0, 5, .inl mf49)), ((ma 51), .inl (E 0, 15, .inl mf51)), ((ma 52), .inl (E 0, 15, .inl mf52)), ((ma 53), .inl (E 0, 15, .inl mf53)), ((ma 54), .inl (E 0, 15, .inl mf54)), ((ma 56), .inl (E 0, 200, .inl mf56)), ((ma 57), .inl (E 0, 600, .inl mf57)), ((ma 59), .inl (E 0, 3, .inl mf59_39)), ((ma 60), .inl (E 0, 3, .inl mf60_39))]) [0, 1, 2, 3, 4, 5, 6, 7, 8, 9, 10, 11, 12, 13, 14, 15, 16, 17] (by decide) rfl
                  exact W.iret (v := L5_212) hx hb hr (fun t ht hW => ⟨⟨L5_212, (mf45_212, mf46_212, mf59_39, mf60_39), rfl, trivial, by rw [ht]; exact hP9, hD9⟩, hS.F ht⟩) hS.2.2 dX9_work_341
                ·
                  have ic_17 : L7_212.toInt < 3 := by first | exact (g_lt rfl t_3).mp c_17 | (have h := mt (g_le t_3 rfl).mpr c_17; omega)
                  clear c_17
                  refine lv_aload_n hx hb dX9_work_218 rfl (lv_at hl 5 rfl) ?_
                  refine va_get (D := D) (ci := 9) (v := .ref (ma 59)) (C := RX9) (T := TX9) (N := 68) hx hb htb iX9 hown hK.1 hP 0 rfl rfl 59 (by decide) (htb _ k_1017) (fun _ h9 => h9) rfl dX9_work_219 ?_
                  refine lv_iload hx hb dX9_work_222 (lv_at hl 0 rfl) ?_
                  refine lv_iconst (v := 1) hx hb dX9_work_224 (by decide) ?_
                  refine lv_iadd hx hb dX9_work_225 ?_
                  refine lv_topi (fun z_18 ez_18 => ?_)
                  have jz_18 : z_18.toInt = L7_212.toInt + 1 := by rw [ez_18]; exact g_add rfl t_1 (by omega) (by omega)
                  refine lv_iconst (v := 3) hx hb dX9_work_226 (by decide) ?_
                  refine lv_irem hx hb dX9_work_227 (by decide) ?_
                  refine lv_topi (fun z_19 ez_19 => ?_)
                  have jz_19 : z_19.toInt = z_18.toInt % 3 := by rw [ez_19]; exact g_rem rfl t_3 (by omega) (by decide)
                  refine va_iald hx hb hK.1 hP 16 0 rfl rfl (g_in rfl (by omega) (by omega)) dX9_work_228 ?_
                  refine lv_topi (fun z_20 ez_20 => ?_)
                  have kz_20 := congrArg Int32.toInt ez_20
                  obtain ⟨z_21, ez_21⟩ : ∃ y : Int64, (z_20 : Int32).toInt64 = y := ⟨_, rfl⟩
                  refine lv_i2l hx hb dX9_work_229 ez_21 ?_
                  refine lv_aload_n hx hb dX9_work_230 rfl (lv_at hl 5 rfl) ?_
                  refine va_get (D := D) (ci := 9) (v := .ref (ma 59)) (C := RX9) (T := TX9) (N := 68) hx hb htb iX9 hown hK.1 hP 0 rfl rfl 59 (by decide) (htb _ k_1017) (fun _ h9 => h9) rfl dX9_work_231 ?_
                  refine lv_iload hx hb dX9_work_234 (lv_at hl 0 rfl) ?_
                  refine lv_iconst (v := 2) hx hb dX9_work_236 (by decide) ?_
                  refine lv_iadd hx hb dX9_work_237 ?_
                  refine lv_topi (fun z_22 ez_22 => ?_)
                  have jz_22 : z_22.toInt = L7_212.toInt + 2 := by rw [ez_22]; exact g_add rfl t_2 (by omega) (by omega)
                  refine lv_iconst (v := 3) hx hb dX9_work_238 (by decide) ?_
                  refine lv_irem hx hb dX9_work_239 (by decide) ?_
                  refine lv_topi (fun z_23 ez_23 => ?_)
                  have jz_23 : z_23.toInt = z_22.toInt % 3 := by rw [ez_23]; exact g_rem rfl t_3 (by omega) (by decide)
                  refine va_iald hx hb hK.1 hP 16 0 rfl rfl (g_in rfl (by omega) (by omega)) dX9_work_240 ?_
                  refine lv_topi (fun z_24 ez_24 => ?_)
                  have kz_24 := congrArg Int32.toInt ez_24
                  obtain ⟨z_25, ez_25⟩ : ∃ y : Int64, (z_24 : Int32).toInt64 = y := ⟨_, rfl⟩
                  refine lv_i2l hx hb dX9_work_241 ez_25 ?_
                  refine lv_ladd hx hb dX9_work_242 ?_
                  refine lv_topl (fun z_26 ez_26 => ?_)
                  refine lv_lstore (lv' := [(8, .long z_26), (7, .int L7_212), (6, .int L6_212), (5, .int L5_212), (4, .int 0), (3, .int z_5), (0, .ref mh), (1, .int p0), (2, .int p1)]) hx hb dX9_work_243 hl (by decide) rfl (fun ls hl => ?_)
                  refine lv_aload_n hx hb dX9_work_245 rfl (lv_at hl 6 rfl) ?_
                  refine va_get (D := D) (ci := 9) (v := .ref (ma 46)) (C := RX9) (T := TX9) (N := 68) hx hb htb iX9 hown hK.1 hP 0 rfl rfl 46 (by decide) (htb _ k_1004) (fun _ h9 => h9) rfl dX9_work_246 ?_
                  refine lv_bipush (v := 20) hx hb dX9_work_249 (by decide) ?_
                  refine lv_aload_n hx hb dX9_work_251 rfl (lv_at hl 6 rfl) ?_
                  refine va_get (D := D) (ci := 9) (v := .ref (ma 59)) (C := RX9) (T := TX9) (N := 68) hx hb htb iX9 hown hK.1 hP 0 rfl rfl 59 (by decide) (htb _ k_1017) (fun _ h9 => h9) rfl dX9_work_252 ?_
                  refine lv_iload hx hb dX9_work_255 (lv_at hl 1 rfl) ?_
                  refine va_iald hx hb hK.1 hP 16 0 rfl rfl (g_in rfl (by omega) (by omega)) dX9_work_257 ?_
                  refine lv_topi (fun z_27 ez_27 => ?_)
                  have kz_27 := congrArg Int32.toInt ez_27
                  obtain ⟨z_28, ez_28⟩ : ∃ y : Int64, (z_27 : Int32).toInt64 = y := ⟨_, rfl⟩
                  refine lv_i2l hx hb dX9_work_258 ez_28 ?_
                  refine lv_lload hx hb dX9_work_259 (lv_at hl 0 rfl) ?_
                  refine lv_ldc2 hx hb hown (htb _ k_1446) dX9_work_261 ?_
                  refine callLS (rest := [.long z_28, .int 20, .ref (ma 46)]) (As := [.long z_26, .long (2)]) hx hb hml hown htb hK (g_X9_floor l D E z_26 (2) (by decide)) ok_X9_floor k_1311 k_1312 k_9 k_1313 ⟨(Nat.le_of_ble_eq_true rfl), (Nat.le_of_ble_eq_true rfl)⟩ ⟨(Nat.le_of_ble_eq_true rfl), (Nat.le_of_ble_eq_true rfl)⟩ hl.1 (Nat.le_of_ble_eq_true rfl) rfl rfl dX9_work_264 (hP.sub (ws' := ([] : va_W)) [] rfl) (fun r_29 hw_30 => ?_)
                  try simp only [t_2] at hw_30
                  refine lv_lsub hx hb dX9_work_267 ?_
                  refine lv_topl (fun z_32 ez_32 => ?_)
                  obtain ⟨z_33, ez_33⟩ : ∃ y : Int32, (z_32 : Int64).toInt32 = y := ⟨_, rfl⟩
                  refine lv_l2i hx hb dX9_work_268 ez_33 ?_
                  refine callRS (rest := [.int 20, .ref (ma 46)]) (As := [.int z_33]) hx hb hml hown htb hK (g_X9_size l D E z_33 ) ok_X9_size k_1235 k_1236 k_9 k_1237 ⟨(Nat.le_of_ble_eq_true rfl), (Nat.le_of_ble_eq_true rfl)⟩ ⟨(Nat.le_of_ble_eq_true rfl), (Nat.le_of_ble_eq_true rfl)⟩ hl.1 (Nat.le_of_ble_eq_true rfl) rfl rfl dX9_work_269 (hP.sub (ws' := ([] : va_W)) [] rfl) (fun r_34 hw_35 => ?_)
                  refine va_iast hx hb hK.1 hP hD hS 6 0 rfl rfl (g_in t_20 (by decide) (by decide)) dX9_work_272 (fun H locs hP hD hS => ?_)
                  have hP : va_P D vwCl [(mh, .inr (9, G9 ma mcode mtoday moffs mmany msumW msumA msumR msumWW msumWA msumAA msumWR msumAR mupper mlower mrates mtaped mlaid mat mtk mtkAt mtkNumber mwaits mlisted mdealtMany)), ((ma 34), .inl (E 1, 2, .inl mf34)), ((ma 35), .inl (E 0, 2, .inl mf35)), ((ma 36), .inl (E 0, 384, .inl mf36)), ((ma 37), .inl (E 0, 384, .inl mf37)), ((ma 45), .inl (E 0, 130, .inl mf45_212)), ((ma 46), .inl (E 0, 24, .inl (upd mf46_212 (20 : Int32).toNatClampNeg r_34))), ((ma 47), .inl (E 0, 5, .inl mf47)), ((ma 48), .inl (E 0, 5, .inl mf48)), ((ma 49), .inl (E 0, 5, .inl mf49)), ((ma 51), .inl (E 0, 15, .inl mf51)), ((ma 52), .inl (E 0, 15, .inl mf52)), ((ma 53), .inl (E 0, 15, .inl mf53)), ((ma 54), .inl (E 0, 15, .inl mf54)), ((ma 56), .inl (E 0, 200, .inl mf56)), ((ma 57), .inl (E 0, 600, .inl mf57)), ((ma 59), .inl (E 0, 3, .inl mf59_39)), ((ma 60), .inl (E 0, 3, .inl mf60_39))] H := hP
                  have hD := toW hP hD rfl
                  refine lv_aload_n hx hb dX9_work_273 rfl (lv_at hl 6 rfl) ?_
                  refine va_get (D := D) (ci := 9) (v := .ref (ma 46)) (C := RX9) (T := TX9) (N := 68) hx hb htb iX9 hown hK.1 hP 0 rfl rfl 46 (by decide) (htb _ k_1004) (fun _ h9 => h9) rfl dX9_work_274 ?_
                  refine lv_bipush (v := 21) hx hb dX9_work_277 (by decide) ?_
                  refine lv_aload_n hx hb dX9_work_279 rfl (lv_at hl 6 rfl) ?_
                  refine va_get (D := D) (ci := 9) (v := .ref (ma 53)) (C := RX9) (T := TX9) (N := 68) hx hb htb iX9 hown hK.1 hP 0 rfl rfl 53 (by decide) (htb _ k_1011) (fun _ h9 => h9) rfl dX9_work_280 ?_
                  refine lv_iconst (v := 3) hx hb dX9_work_283 (by decide) ?_
                  refine lv_iload_n hx hb dX9_work_284 rfl (lv_at hl 7 rfl) ?_
                  refine lv_imul hx hb dX9_work_285 ?_
                  refine lv_topi (fun z_37 ez_37 => ?_)
                  have jz_37 : z_37.toInt = 3 * p0.toInt := by rw [ez_37]; exact g_mul t_3 rfl (by omega) (by omega)
                  refine lv_iload hx hb dX9_work_286 (lv_at hl 1 rfl) ?_
                  refine lv_iadd hx hb dX9_work_288 ?_
                  refine lv_topi (fun z_38 ez_38 => ?_)
                  have jz_38 : z_38.toInt = z_37.toInt + L7_212.toInt := by rw [ez_38]; exact g_add rfl rfl (by omega) (by omega)
                  refine va_iald hx hb hK.1 hP 12 0 rfl rfl (g_in rfl (by omega) (by omega)) dX9_work_289 ?_
                  refine lv_topi (fun z_39 ez_39 => ?_)
                  have kz_39 := congrArg Int32.toInt ez_39
                  refine va_iast hx hb hK.1 hP hD hS 6 0 rfl rfl (g_in t_21 (by decide) (by decide)) dX9_work_290 (fun H locs hP hD hS => ?_)
                  have hP : va_P D vwCl [(mh, .inr (9, G9 ma mcode mtoday moffs mmany msumW msumA msumR msumWW msumWA msumAA msumWR msumAR mupper mlower mrates mtaped mlaid mat mtk mtkAt mtkNumber mwaits mlisted mdealtMany)), ((ma 34), .inl (E 1, 2, .inl mf34)), ((ma 35), .inl (E 0, 2, .inl mf35)), ((ma 36), .inl (E 0, 384, .inl mf36)), ((ma 37), .inl (E 0, 384, .inl mf37)), ((ma 45), .inl (E 0, 130, .inl mf45_212)), ((ma 46), .inl (E 0, 24, .inl (upd (upd mf46_212 (20 : Int32).toNatClampNeg r_34) (21 : Int32).toNatClampNeg z_39))), ((ma 47), .inl (E 0, 5, .inl mf47)), ((ma 48), .inl (E 0, 5, .inl mf48)), ((ma 49), .inl (E 0, 5, .inl mf49)), ((ma 51), .inl (E 0, 15, .inl mf51)), ((ma 52), .inl (E 0, 15, .inl mf52)), ((ma 53), .inl (E 0, 15, .inl mf53)), ((ma 54), .inl (E 0, 15, .inl mf54)), ((ma 56), .inl (E 0, 200, .inl mf56)), ((ma 57), .inl (E 0, 600, .inl mf57)), ((ma 59), .inl (E 0, 3, .inl mf59_39)), ((ma 60), .inl (E 0, 3, .inl mf60_39))] H := hP
                  have hD := toW hP hD rfl
                  generalize (upd (upd mf46_212 (20 : Int32).toNatClampNeg r_34) (21 : Int32).toNatClampNeg z_39) = g_40 at hP hD
                  refine lv_aload_n hx hb dX9_work_291 rfl (lv_at hl 6 rfl) ?_
                  refine va_get (D := D) (ci := 9) (v := .ref (ma 46)) (C := RX9) (T := TX9) (N := 68) hx hb htb iX9 hown hK.1 hP 0 rfl rfl 46 (by decide) (htb _ k_1004) (fun _ h9 => h9) rfl dX9_work_292 ?_
                  refine lv_bipush (v := 22) hx hb dX9_work_295 (by decide) ?_
                  refine lv_iload_n hx hb dX9_work_297 rfl (lv_at hl 5 rfl) ?_
                  refine va_iast hx hb hK.1 hP hD hS 6 0 rfl rfl (g_in t_22 (by decide) (by decide)) dX9_work_298 (fun H locs hP hD hS => ?_)
                  have hP : va_P D vwCl [(mh, .inr (9, G9 ma mcode mtoday moffs mmany msumW msumA msumR msumWW msumWA msumAA msumWR msumAR mupper mlower mrates mtaped mlaid mat mtk mtkAt mtkNumber mwaits mlisted mdealtMany)), ((ma 34), .inl (E 1, 2, .inl mf34)), ((ma 35), .inl (E 0, 2, .inl mf35)), ((ma 36), .inl (E 0, 384, .inl mf36)), ((ma 37), .inl (E 0, 384, .inl mf37)), ((ma 45), .inl (E 0, 130, .inl mf45_212)), ((ma 46), .inl (E 0, 24, .inl (upd g_40 (22 : Int32).toNatClampNeg z_5))), ((ma 47), .inl (E 0, 5, .inl mf47)), ((ma 48), .inl (E 0, 5, .inl mf48)), ((ma 49), .inl (E 0, 5, .inl mf49)), ((ma 51), .inl (E 0, 15, .inl mf51)), ((ma 52), .inl (E 0, 15, .inl mf52)), ((ma 53), .inl (E 0, 15, .inl mf53)), ((ma 54), .inl (E 0, 15, .inl mf54)), ((ma 56), .inl (E 0, 200, .inl mf56)), ((ma 57), .inl (E 0, 600, .inl mf57)), ((ma 59), .inl (E 0, 3, .inl mf59_39)), ((ma 60), .inl (E 0, 3, .inl mf60_39))] H := hP
                  have hD := toW hP hD rfl
                  refine lv_aload_n hx hb dX9_work_299 rfl (lv_at hl 6 rfl) ?_
                  refine va_get (D := D) (ci := 9) (v := .ref (ma 46)) (C := RX9) (T := TX9) (N := 68) hx hb htb iX9 hown hK.1 hP 0 rfl rfl 46 (by decide) (htb _ k_1004) (fun _ h9 => h9) rfl dX9_work_300 ?_
                  refine lv_bipush (v := 23) hx hb dX9_work_303 (by decide) ?_
                  refine lv_iload hx hb dX9_work_305 (lv_at hl 1 rfl) ?_
                  refine va_iast hx hb hK.1 hP hD hS 6 0 rfl rfl (g_in t_23 (by decide) (by decide)) dX9_work_307 (fun H locs hP hD hS => ?_)
                  have hP : va_P D vwCl [(mh, .inr (9, G9 ma mcode mtoday moffs mmany msumW msumA msumR msumWW msumWA msumAA msumWR msumAR mupper mlower mrates mtaped mlaid mat mtk mtkAt mtkNumber mwaits mlisted mdealtMany)), ((ma 34), .inl (E 1, 2, .inl mf34)), ((ma 35), .inl (E 0, 2, .inl mf35)), ((ma 36), .inl (E 0, 384, .inl mf36)), ((ma 37), .inl (E 0, 384, .inl mf37)), ((ma 45), .inl (E 0, 130, .inl mf45_212)), ((ma 46), .inl (E 0, 24, .inl (upd (upd g_40 (22 : Int32).toNatClampNeg z_5) (23 : Int32).toNatClampNeg L7_212))), ((ma 47), .inl (E 0, 5, .inl mf47)), ((ma 48), .inl (E 0, 5, .inl mf48)), ((ma 49), .inl (E 0, 5, .inl mf49)), ((ma 51), .inl (E 0, 15, .inl mf51)), ((ma 52), .inl (E 0, 15, .inl mf52)), ((ma 53), .inl (E 0, 15, .inl mf53)), ((ma 54), .inl (E 0, 15, .inl mf54)), ((ma 56), .inl (E 0, 200, .inl mf56)), ((ma 57), .inl (E 0, 600, .inl mf57)), ((ma 59), .inl (E 0, 3, .inl mf59_39)), ((ma 60), .inl (E 0, 3, .inl mf60_39))] H := hP
                  have hD := toW hP hD rfl
                  generalize (upd (upd g_40 (22 : Int32).toNatClampNeg z_5) (23 : Int32).toNatClampNeg L7_212) = g_41 at hP hD
                  refine lv_aload_n hx hb dX9_work_308 rfl (lv_at hl 6 rfl) ?_
                  refine lv_iconst (v := 1) hx hb dX9_work_309 (by decide) ?_
                  have hPc := hP.sub (ws' := [(mh, .inr (9, G9 ma mcode mtoday moffs mmany msumW msumA msumR msumWW msumWA msumAA msumWR msumAR mupper mlower mrates mtaped mlaid mat mtk mtkAt mtkNumber mwaits mlisted mdealtMany)), ((ma 35), .inl (E 0, 2, .inl mf35)), ((ma 36), .inl (E 0, 384, .inl mf36)), ((ma 37), .inl (E 0, 384, .inl mf37)), ((ma 45), .inl (E 0, 130, .inl mf45_212)), ((ma 46), .inl (E 0, 24, .inl g_41))]) [0, 2, 3, 4, 5, 6] rfl
                  have hDc := hD.sub (ws' := [(mh, .inr (9, G9 ma mcode mtoday moffs mmany msumW msumA msumR msumWW msumWA msumAA msumWR msumAR mupper mlower mrates mtaped mlaid mat mtk mtkAt mtkNumber mwaits mlisted mdealtMany)), ((ma 35), .inl (E 0, 2, .inl mf35)), ((ma 36), .inl (E 0, 384, .inl mf36)), ((ma 37), .inl (E 0, 384, .inl mf37)), ((ma 45), .inl (E 0, 130, .inl mf45_212)), ((ma 46), .inl (E 0, 24, .inl g_41))]) [0, 2, 3, 4, 5, 6] (by decide) rfl
                  refine aft_i (runMV (rest := []) (As := [.int 1]) hx hb hml hown htb hK (g_X9_says1 l D E mh ma mcode mtoday moffs mmany msumW msumA msumR msumWW msumWA msumAA msumWR msumAR mupper mlower mrates mtaped mlaid mat mtk mtkAt mtkNumber mwaits mlisted mdealtMany mf35 mf36 mf37 mf45_212 g_41 _ (by (try dsimp only); omega) hr_m35 hjw) ok_X9_says k_1395 k_1397 ks_60 k_9 k_1398 ⟨(Nat.le_of_ble_eq_true rfl), (Nat.le_of_ble_eq_true rfl)⟩ ⟨(Nat.le_of_ble_eq_true rfl), (Nat.le_of_ble_eq_true rfl)⟩ hl.1 (Nat.le_of_ble_eq_true rfl) rfl rfl dX9_work_310 hPc hDc rfl rfl 0 rfl) hP hD hS hA [0, 2, 3, 4, 5, 6] [1, 7, 8, 9, 10, 11, 12, 13, 14, 15, 16, 17] (wr := [((ma 34), .inl (E 1, 2, .inl mf34)), ((ma 47), .inl (E 0, 5, .inl mf47)), ((ma 48), .inl (E 0, 5, .inl mf48)), ((ma 49), .inl (E 0, 5, .inl mf49)), ((ma 51), .inl (E 0, 15, .inl mf51)), ((ma 52), .inl (E 0, 15, .inl mf52)), ((ma 53), .inl (E 0, 15, .inl mf53)), ((ma 54), .inl (E 0, 15, .inl mf54)), ((ma 56), .inl (E 0, 200, .inl mf56)), ((ma 57), .inl (E 0, 600, .inl mf57)), ((ma 59), .inl (E 0, 3, .inl mf59_39)), ((ma 60), .inl (E 0, 3, .inl mf60_39))]) rfl rfl (by decide) (by decide) (fun r_42 u_44 H locs hw_43 hP hD hS => ?_)
                  clear hPc hDc
                  have hP : va_P D vwCl [((ma 34), .inl (E 1, 2, .inl mf34)), ((ma 47), .inl (E 0, 5, .inl mf47)), ((ma 48), .inl (E 0, 5, .inl mf48)), ((ma 49), .inl (E 0, 5, .inl mf49)), ((ma 51), .inl (E 0, 15, .inl mf51)), ((ma 52), .inl (E 0, 15, .inl mf52)), ((ma 53), .inl (E 0, 15, .inl mf53)), ((ma 54), .inl (E 0, 15, .inl mf54)), ((ma 56), .inl (E 0, 200, .inl mf56)), ((ma 57), .inl (E 0, 600, .inl mf57)), ((ma 59), .inl (E 0, 3, .inl mf59_39)), ((ma 60), .inl (E 0, 3, .inl mf60_39)), (mh, .inr (9, G9 ma mcode mtoday moffs mmany msumW msumA msumR msumWW msumWA msumAA msumWR msumAR mupper mlower mrates mtaped mlaid mat mtk mtkAt mtkNumber mwaits mlisted mdealtMany)), ((ma 35), .inl (E 0, 2, .inl mf35)), ((ma 36), .inl (E 0, 384, .inl mf36)), ((ma 37), .inl (E 0, 384, .inl mf37)), ((ma 45), .inl (E 0, 130, .inl u_44)), ((ma 46), .inl (E 0, 24, .inl g_41))] H := hP
                  have hD := toW hP hD rfl
                  refine lv_istore (lv' := [(10, .int r_42), (8, .long z_26), (7, .int L7_212), (6, .int L6_212), (5, .int L5_212), (4, .int 0), (3, .int z_5), (0, .ref mh), (1, .int p0), (2, .int p1)]) hx hb dX9_work_313 hl (by decide) rfl (fun ls hl => ?_)
                  refine lv_iload hx hb dX9_work_315 (lv_at hl 0 rfl) ?_
                  refine lv_iload hx hb dX9_work_317 (lv_at hl 3 rfl) ?_
                  refine lv_icmp_gt (tgt := 325) hx hb dX9_work_319 (by decide) (fun c_45 => ?_) (fun c_45 => ?_)
                  ·
                    have ic_45 : L6_212.toInt < r_42.toInt := by first | exact (g_lt rfl rfl).mp c_45 | (have h := mt (g_le rfl rfl).mpr c_45; omega)
                    clear c_45
                    refine lv_iload hx hb dX9_work_325 (lv_at hl 0 rfl) ?_
                    refine lv_istore (lv' := [(6, .int r_42), (10, .int r_42), (8, .long z_26), (7, .int L7_212), (5, .int L5_212), (4, .int 0), (3, .int z_5), (0, .ref mh), (1, .int p0), (2, .int p1)]) hx hb dX9_work_327 hl (by decide) rfl (fun ls hl => ?_)
                    refine lv_iload hx hb dX9_work_329 (lv_at hl 3 rfl) ?_
                    refine lv_istore (lv' := [(5, .int L7_212), (6, .int r_42), (10, .int r_42), (8, .long z_26), (7, .int L7_212), (4, .int 0), (3, .int z_5), (0, .ref mh), (1, .int p0), (2, .int p1)]) hx hb dX9_work_331 hl (by decide) rfl (fun ls hl => ?_)
                    obtain ⟨z_46, ez_46⟩ : ∃ y : Int32, y = L7_212 + 1 := ⟨_, rfl⟩
                    have jz_46 : z_46.toInt = L7_212.toInt + 1 := by rw [ez_46]; exact g_add rfl t_1 (by omega) (by omega)
                    refine lv_iinc (v := z_46) (lv' := [(7, .int z_46), (5, .int L7_212), (6, .int r_42), (10, .int r_42), (8, .long z_26), (4, .int 0), (3, .int z_5), (0, .ref mh), (1, .int p0), (2, .int p1)]) hx hb dX9_work_333 hl (k := 4) rfl (by rw [ez_46]; rfl) (by decide) rfl (fun ls hl => ?_)
                    refine lv_goto (tgt := 212) hx hb dX9_work_336 (by decide) ?_
                    have hP := hP.sub (ws' := [(mh, .inr (9, G9 ma mcode mtoday moffs mmany msumW msumA msumR msumWW msumWA msumAA msumWR msumAR mupper mlower mrates mtaped mlaid mat mtk mtkAt mtkNumber mwaits mlisted mdealtMany)), ((ma 34), .inl (E 1, 2, .inl mf34)), ((ma 35), .inl (E 0, 2, .inl mf35)), ((ma 36), .inl (E 0, 384, .inl mf36)), ((ma 37), .inl (E 0, 384, .inl mf37)), ((ma 45), .inl (E 0, 130, .inl u_44)), ((ma 46), .inl (E 0, 24, .inl g_41)), ((ma 47), .inl (E 0, 5, .inl mf47)), ((ma 48), .inl (E 0, 5, .inl mf48)), ((ma 49), .inl (E 0, 5, .inl mf49)), ((ma 51), .inl (E 0, 15, .inl mf51)), ((ma 52), .inl (E 0, 15, .inl mf52)), ((ma 53), .inl (E 0, 15, .inl mf53)), ((ma 54), .inl (E 0, 15, .inl mf54)), ((ma 56), .inl (E 0, 200, .inl mf56)), ((ma 57), .inl (E 0, 600, .inl mf57)), ((ma 59), .inl (E 0, 3, .inl mf59_39)), ((ma 60), .inl (E 0, 3, .inl mf60_39))]) [12, 0, 13, 14, 15, 16, 17, 1, 2, 3, 4, 5, 6, 7, 8, 9, 10, 11] rfl
                    have hD := hD.sub (ws' := [(mh, .inr (9, G9 ma mcode mtoday moffs mmany msumW msumA msumR msumWW msumWA msumAA msumWR msumAR mupper mlower mrates mtaped mlaid mat mtk mtkAt mtkNumber mwaits mlisted mdealtMany)), ((ma 34), .inl (E 1, 2, .inl mf34)), ((ma 35), .inl (E 0, 2, .inl mf35)), ((ma 36), .inl (E 0, 384, .inl mf36)), ((ma 37), .inl (E 0, 384, .inl mf37)), ((ma 45), .inl (E 0, 130, .inl u_44)), ((ma 46), .inl (E 0, 24, .inl g_41)), ((ma 47), .inl (E 0, 5, .inl mf47)), ((ma 48), .inl (E 0, 5, .inl mf48)), ((ma 49), .inl (E 0, 5, .inl mf49)), ((ma 51), .inl (E 0, 15, .inl mf51)), ((ma 52), .inl (E 0, 15, .inl mf52)), ((ma 53), .inl (E 0, 15, .inl mf53)), ((ma 54), .inl (E 0, 15, .inl mf54)), ((ma 56), .inl (E 0, 200, .inl mf56)), ((ma 57), .inl (E 0, 600, .inl mf57)), ((ma 59), .inl (E 0, 3, .inl mf59_39)), ((ma 60), .inl (E 0, 3, .inl mf60_39))]) [12, 0, 13, 14, 15, 16, 17, 1, 2, 3, 4, 5, 6, 7, 8, 9, 10, 11] (by decide) rfl
                    exact ih_15 z_46 r_42 L7_212 u_44 g_41 _ _ _ (by have h0 := t_0; (try dsimp only); omega) (by have h0 := t_0; (try dsimp only); omega) hP hD hS (lv_sub hl [0, 2, 1, 5, 6, 7, 8, 9] rfl)
                  ·
                    have ic_45 : r_42.toInt ≤ L6_212.toInt := by first | exact (g_le rfl rfl).mp c_45 | (have h := mt (g_lt rfl rfl).mpr c_45; omega)
                    clear c_45
                    refine lv_goto (tgt := 333) hx hb dX9_work_322 (by decide) ?_
                    obtain ⟨z_47, ez_47⟩ : ∃ y : Int32, y = L7_212 + 1 := ⟨_, rfl⟩
                    have jz_47 : z_47.toInt = L7_212.toInt + 1 := by rw [ez_47]; exact g_add rfl t_1 (by omega) (by omega)
                    refine lv_iinc (v := z_47) (lv' := [(7, .int z_47), (10, .int r_42), (8, .long z_26), (6, .int L6_212), (5, .int L5_212), (4, .int 0), (3, .int z_5), (0, .ref mh), (1, .int p0), (2, .int p1)]) hx hb dX9_work_333 hl (k := 2) rfl (by rw [ez_47]; rfl) (by decide) rfl (fun ls hl => ?_)
                    refine lv_goto (tgt := 212) hx hb dX9_work_336 (by decide) ?_
                    have hP := hP.sub (ws' := [(mh, .inr (9, G9 ma mcode mtoday moffs mmany msumW msumA msumR msumWW msumWA msumAA msumWR msumAR mupper mlower mrates mtaped mlaid mat mtk mtkAt mtkNumber mwaits mlisted mdealtMany)), ((ma 34), .inl (E 1, 2, .inl mf34)), ((ma 35), .inl (E 0, 2, .inl mf35)), ((ma 36), .inl (E 0, 384, .inl mf36)), ((ma 37), .inl (E 0, 384, .inl mf37)), ((ma 45), .inl (E 0, 130, .inl u_44)), ((ma 46), .inl (E 0, 24, .inl g_41)), ((ma 47), .inl (E 0, 5, .inl mf47)), ((ma 48), .inl (E 0, 5, .inl mf48)), ((ma 49), .inl (E 0, 5, .inl mf49)), ((ma 51), .inl (E 0, 15, .inl mf51)), ((ma 52), .inl (E 0, 15, .inl mf52)), ((ma 53), .inl (E 0, 15, .inl mf53)), ((ma 54), .inl (E 0, 15, .inl mf54)), ((ma 56), .inl (E 0, 200, .inl mf56)), ((ma 57), .inl (E 0, 600, .inl mf57)), ((ma 59), .inl (E 0, 3, .inl mf59_39)), ((ma 60), .inl (E 0, 3, .inl mf60_39))]) [12, 0, 13, 14, 15, 16, 17, 1, 2, 3, 4, 5, 6, 7, 8, 9, 10, 11] rfl
                    have hD := hD.sub (ws' := [(mh, .inr (9, G9 ma mcode mtoday moffs mmany msumW msumA msumR msumWW msumWA msumAA msumWR msumAR mupper mlower mrates mtaped mlaid mat mtk mtkAt mtkNumber mwaits mlisted mdealtMany)), ((ma 34), .inl (E 1, 2, .inl mf34)), ((ma 35), .inl (E 0, 2, .inl mf35)), ((ma 36), .inl (E 0, 384, .inl mf36)), ((ma 37), .inl (E 0, 384, .inl mf37)), ((ma 45), .inl (E 0, 130, .inl u_44)), ((ma 46), .inl (E 0, 24, .inl g_41)), ((ma 47), .inl (E 0, 5, .inl mf47)), ((ma 48), .inl (E 0, 5, .inl mf48)), ((ma 49), .inl (E 0, 5, .inl mf49)), ((ma 51), .inl (E 0, 15, .inl mf51)), ((ma 52), .inl (E 0, 15, .inl mf52)), ((ma 53), .inl (E 0, 15, .inl mf53)), ((ma 54), .inl (E 0, 15, .inl mf54)), ((ma 56), .inl (E 0, 200, .inl mf56)), ((ma 57), .inl (E 0, 600, .inl mf57)), ((ma 59), .inl (E 0, 3, .inl mf59_39)), ((ma 60), .inl (E 0, 3, .inl mf60_39))]) [12, 0, 13, 14, 15, 16, 17, 1, 2, 3, 4, 5, 6, 7, 8, 9, 10, 11] (by decide) rfl
                    exact ih_15 z_47 L6_212 L5_212 u_44 g_41 _ _ _ (by have h0 := t_0; (try dsimp only); omega) (by have h0 := t_0; (try dsimp only); omega) hP hD hS (lv_sub hl [0, 3, 4, 5, 6, 7, 8, 9] rfl)
            exact loop_14 4 0 0 ((-1)) mf45 mf46 _ _ _ (by have h0 := t_m1; have h1 := t_0; (try dsimp only); omega) (by have h0 := t_m1; have h1 := t_0; (try dsimp only); omega) hP hD hS (lv_sub hl [0, 1, 2, 3, 4, 5, 6, 7] rfl)
          ·
            have ic_13 : z_12.toInt = 0 := (g_eq rfl t_0).mp c_13
            clear c_13
            refine lv_iconst (v := (-1)) hx hb dX9_work_201 (by decide) ?_
            have hP9 := hP.sub (ws' := [(mh, .inr (9, G9 ma mcode mtoday moffs mmany msumW msumA msumR msumWW msumWA msumAA msumWR msumAR mupper mlower mrates mtaped mlaid mat mtk mtkAt mtkNumber mwaits mlisted mdealtMany)), ((ma 34), .inl (E 1, 2, .inl mf34)), ((ma 35), .inl (E 0, 2, .inl mf35)), ((ma 36), .inl (E 0, 384, .inl mf36)), ((ma 37), .inl (E 0, 384, .inl mf37)), ((ma 45), .inl (E 0, 130, .inl mf45)), ((ma 46), .inl (E 0, 24, .inl mf46)), ((ma 47), .inl (E 0, 5, .inl mf47)), ((ma 48), .inl (E 0, 5, .inl mf48)), ((ma 49), .inl (E 0, 5, .inl mf49)), ((ma 51), .inl (E 0, 15, .inl mf51)), ((ma 52), .inl (E 0, 15, .inl mf52)), ((ma 53), .inl (E 0, 15, .inl mf53)), ((ma 54), .inl (E 0, 15, .inl mf54)), ((ma 56), .inl (E 0, 200, .inl mf56)), ((ma 57), .inl (E 0, 600, .inl mf57)), ((ma 59), .inl (E 0, 3, .inl mf59_39)), ((ma 60), .inl (E 0, 3, .inl mf60_39))]) [0, 1, 2, 3, 4, 5, 6, 7, 8, 9, 10, 11, 12, 13, 14, 15, 16, 17] rfl
            have hD9 := hD.sub (ws' := [(mh, .inr (9, G9 ma mcode mtoday moffs mmany msumW msumA msumR msumWW msumWA msumAA msumWR msumAR mupper mlower mrates mtaped mlaid mat mtk mtkAt mtkNumber mwaits mlisted mdealtMany)), ((ma 34), .inl (E 1, 2, .inl mf34)), ((ma 35), .inl (E 0, 2, .inl mf35)), ((ma 36), .inl (E 0, 384, .inl mf36)), ((ma 37), .inl (E 0, 384, .inl mf37)), ((ma 45), .inl (E 0, 130, .inl mf45)), ((ma 46), .inl (E 0, 24, .inl mf46)), ((ma 47), .inl (E 0, 5, .inl mf47)), ((ma 48), .inl (E 0, 5, .inl mf48)), ((ma 49), .inl (E 0, 5, .inl mf49)), ((ma 51), .inl (E 0, 15, .inl mf51)), ((ma 52), .inl (E 0, 15, .inl mf52)), ((ma 53), .inl (E 0, 15, .inl mf53)), ((ma 54), .inl (E 0, 15, .inl mf54)), ((ma 56), .inl (E 0, 200, .inl mf56)), ((ma 57), .inl (E 0, 600, .inl mf57)), ((ma 59), .inl (E 0, 3, .inl mf59_39)), ((ma 60), .inl (E 0, 3, .inl mf60_39))]) [0, 1, 2, 3, 4, 5, 6, 7, 8, 9, 10, 11, 12, 13, 14, 15, 16, 17] (by decide) rfl
            exact W.iret (v := (-1)) hx hb hr (fun t ht hW => ⟨⟨(-1), (mf45, mf46, mf59_39, mf60_39), rfl, trivial, by rw [ht]; exact hP9, hD9⟩, hS.F ht⟩) hS.2.2 dX9_work_202
        ·
          have ic_11 : L5_39.toInt < 3 := by first | exact (g_lt rfl t_3).mp c_11 | (have h := mt (g_le t_3 rfl).mpr c_11; omega)
          clear c_11
          refine lv_iconst (v := 3) hx hb dX9_work_45 (by decide) ?_
          refine lv_iload_n hx hb dX9_work_46 rfl (lv_at hl 4 rfl) ?_
          refine lv_imul hx hb dX9_work_47 ?_
          refine lv_topi (fun z_48 ez_48 => ?_)
          have jz_48 : z_48.toInt = 3 * p0.toInt := by rw [ez_48]; exact g_mul t_3 rfl (by omega) (by omega)
          refine lv_iload hx hb dX9_work_48 (lv_at hl 0 rfl) ?_
          refine lv_iadd hx hb dX9_work_50 ?_
          refine lv_topi (fun z_49 ez_49 => ?_)
          have jz_49 : z_49.toInt = z_48.toInt + L5_39.toInt := by rw [ez_49]; exact g_add rfl rfl (by omega) (by omega)
          refine lv_istore (lv' := [(6, .int z_49), (5, .int L5_39), (4, .int 0), (3, .int z_5), (0, .ref mh), (1, .int p0), (2, .int p1)]) hx hb dX9_work_51 hl (by decide) rfl (fun ls hl => ?_)
          refine lv_iload hx hb dX9_work_53 (lv_at hl 2 rfl) ?_
          refine lv_if_eq (tgt := 91) hx hb dX9_work_55 (by decide) (fun c_50 => ?_) (fun c_50 => absurd (by decide) c_50)
          refine lv_aload_n hx hb dX9_work_91 rfl (lv_at hl 4 rfl) ?_
          refine va_get (D := D) (ci := 9) (v := .ref (ma 52)) (C := RX9) (T := TX9) (N := 68) hx hb htb iX9 hown hK.1 hP 0 rfl rfl 52 (by decide) (htb _ k_1010) (fun _ h9 => h9) rfl dX9_work_92 ?_
          refine lv_iload hx hb dX9_work_95 (lv_at hl 0 rfl) ?_
          refine va_iald hx hb hK.1 hP 11 0 rfl rfl (g_in rfl (by omega) (by omega)) dX9_work_97 ?_
          refine lv_topi (fun z_51 ez_51 => ?_)
          have kz_51 := congrArg Int32.toInt ez_51
          refine lv_iload_n hx hb dX9_work_98 rfl (lv_at hl 3 rfl) ?_
          refine lv_imul hx hb dX9_work_99 ?_
          refine lv_topi (fun z_52 ez_52 => ?_)
          refine lv_istore (lv' := [(7, .int z_52), (6, .int z_49), (5, .int L5_39), (4, .int 0), (3, .int z_5), (0, .ref mh), (1, .int p0), (2, .int p1)]) hx hb dX9_work_100 hl (by decide) rfl (fun ls hl => ?_)
          refine lv_aload_n hx hb dX9_work_102 rfl (lv_at hl 5 rfl) ?_
          refine va_get (D := D) (ci := 9) (v := .ref (ma 59)) (C := RX9) (T := TX9) (N := 68) hx hb htb iX9 hown hK.1 hP 0 rfl rfl 59 (by decide) (htb _ k_1017) (fun _ h9 => h9) rfl dX9_work_103 ?_
          refine lv_iload hx hb dX9_work_106 (lv_at hl 2 rfl) ?_
          refine lv_aload_n hx hb dX9_work_108 rfl (lv_at hl 5 rfl) ?_
          refine va_get (D := D) (ci := 9) (v := .ref (ma 57)) (C := RX9) (T := TX9) (N := 68) hx hb htb iX9 hown hK.1 hP 0 rfl rfl 57 (by decide) (htb _ k_1015) (fun _ h9 => h9) rfl dX9_work_109 ?_
          refine lv_iconst (v := 3) hx hb dX9_work_112 (by decide) ?_
          refine lv_bipush (v := 40) hx hb dX9_work_113 (by decide) ?_
          refine lv_iload_n hx hb dX9_work_115 rfl (lv_at hl 6 rfl) ?_
          refine lv_imul hx hb dX9_work_116 ?_
          refine lv_topi (fun z_53 ez_53 => ?_)
          have jz_53 : z_53.toInt = 40 * p0.toInt := by rw [ez_53]; exact g_mul t_40 rfl (by omega) (by omega)
          refine lv_iload_n hx hb dX9_work_117 rfl (lv_at hl 7 rfl) ?_
          refine lv_iadd hx hb dX9_work_118 ?_
          refine lv_topi (fun z_54 ez_54 => ?_)
          have jz_54 : z_54.toInt = z_53.toInt + p1.toInt := by rw [ez_54]; exact g_add rfl rfl (by omega) (by omega)
          refine lv_imul hx hb dX9_work_119 ?_
          refine lv_topi (fun z_55 ez_55 => ?_)
          have jz_55 : z_55.toInt = 3 * z_54.toInt := by rw [ez_55]; exact g_mul t_3 rfl (by omega) (by omega)
          refine lv_iload hx hb dX9_work_120 (lv_at hl 2 rfl) ?_
          refine lv_iadd hx hb dX9_work_122 ?_
          refine lv_topi (fun z_56 ez_56 => ?_)
          have jz_56 : z_56.toInt = z_55.toInt + L5_39.toInt := by rw [ez_56]; exact g_add rfl rfl (by omega) (by omega)
          refine va_iald hx hb hK.1 hP 15 0 rfl rfl (g_in rfl (by omega) (by omega)) dX9_work_123 ?_
          refine lv_topi (fun z_57 ez_57 => ?_)
          have kz_57 := congrArg Int32.toInt ez_57
          refine lv_aload_n hx hb dX9_work_124 rfl (lv_at hl 5 rfl) ?_
          refine va_get (D := D) (ci := 9) (v := .ref (ma 51)) (C := RX9) (T := TX9) (N := 68) hx hb htb iX9 hown hK.1 hP 0 rfl rfl 51 (by decide) (htb _ k_1009) (fun _ h9 => h9) rfl dX9_work_125 ?_
          refine lv_iload hx hb dX9_work_128 (lv_at hl 1 rfl) ?_
          refine va_iald hx hb hK.1 hP 10 0 rfl rfl (g_in rfl (by omega) (by omega)) dX9_work_130 ?_
          refine lv_topi (fun z_58 ez_58 => ?_)
          have kz_58 := congrArg Int32.toInt ez_58
          refine lv_isub hx hb dX9_work_131 ?_
          refine lv_topi (fun z_59 ez_59 => ?_)
          refine lv_iload hx hb dX9_work_132 (lv_at hl 0 rfl) ?_
          refine lv_isub hx hb dX9_work_134 ?_
          refine lv_topi (fun z_60 ez_60 => ?_)
          refine va_iast hx hb hK.1 hP hD hS 16 0 rfl rfl (g_in rfl (by omega) (by omega)) dX9_work_135 (fun H locs hP hD hS => ?_)
          have hP : va_P D vwCl [(mh, .inr (9, G9 ma mcode mtoday moffs mmany msumW msumA msumR msumWW msumWA msumAA msumWR msumAR mupper mlower mrates mtaped mlaid mat mtk mtkAt mtkNumber mwaits mlisted mdealtMany)), ((ma 34), .inl (E 1, 2, .inl mf34)), ((ma 35), .inl (E 0, 2, .inl mf35)), ((ma 36), .inl (E 0, 384, .inl mf36)), ((ma 37), .inl (E 0, 384, .inl mf37)), ((ma 45), .inl (E 0, 130, .inl mf45)), ((ma 46), .inl (E 0, 24, .inl mf46)), ((ma 47), .inl (E 0, 5, .inl mf47)), ((ma 48), .inl (E 0, 5, .inl mf48)), ((ma 49), .inl (E 0, 5, .inl mf49)), ((ma 51), .inl (E 0, 15, .inl mf51)), ((ma 52), .inl (E 0, 15, .inl mf52)), ((ma 53), .inl (E 0, 15, .inl mf53)), ((ma 54), .inl (E 0, 15, .inl mf54)), ((ma 56), .inl (E 0, 200, .inl mf56)), ((ma 57), .inl (E 0, 600, .inl mf57)), ((ma 59), .inl (E 0, 3, .inl (upd mf59_39 (L5_39 : Int32).toNatClampNeg z_60))), ((ma 60), .inl (E 0, 3, .inl mf60_39))] H := hP
          have hD := toW hP hD rfl
          refine lv_iload hx hb dX9_work_136 (lv_at hl 3 rfl) ?_
          refine lv_if_eq (tgt := 164) hx hb dX9_work_138 (by decide) (fun c_61 => ?_) (fun c_61 => absurd (by decide) c_61)
          refine lv_iload_n hx hb dX9_work_164 rfl (lv_at hl 4 rfl) ?_
          refine lv_istore (lv' := [(8, .int z_5), (7, .int z_52), (6, .int z_49), (5, .int L5_39), (4, .int 0), (3, .int z_5), (0, .ref mh), (1, .int p0), (2, .int p1)]) hx hb dX9_work_165 hl (by decide) rfl (fun ls hl => ?_)
          refine lv_aload_n hx hb dX9_work_167 rfl (lv_at hl 6 rfl) ?_
          refine va_get (D := D) (ci := 9) (v := .ref (ma 60)) (C := RX9) (T := TX9) (N := 68) hx hb htb iX9 hown hK.1 hP 0 rfl rfl 60 (by decide) (htb _ k_1018) (fun _ h9 => h9) rfl dX9_work_168 ?_
          refine lv_iload hx hb dX9_work_171 (lv_at hl 3 rfl) ?_
          refine lv_aload_n hx hb dX9_work_173 rfl (lv_at hl 6 rfl) ?_
          refine va_get (D := D) (ci := 9) (v := .ref (ma 53)) (C := RX9) (T := TX9) (N := 68) hx hb htb iX9 hown hK.1 hP 0 rfl rfl 53 (by decide) (htb _ k_1011) (fun _ h9 => h9) rfl dX9_work_174 ?_
          refine lv_iload hx hb dX9_work_177 (lv_at hl 2 rfl) ?_
          refine va_iald hx hb hK.1 hP 12 0 rfl rfl (g_in rfl (by omega) (by omega)) dX9_work_179 ?_
          refine lv_topi (fun z_62 ez_62 => ?_)
          have kz_62 := congrArg Int32.toInt ez_62
          refine lv_iload hx hb dX9_work_180 (lv_at hl 0 rfl) ?_
          refine lv_imul hx hb dX9_work_182 ?_
          refine lv_topi (fun z_63 ez_63 => ?_)
          refine lv_iconst (v := 5) hx hb dX9_work_183 (by decide) ?_
          refine lv_iadd hx hb dX9_work_184 ?_
          refine lv_topi (fun z_64 ez_64 => ?_)
          refine va_iast hx hb hK.1 hP hD hS 17 0 rfl rfl (g_in rfl (by omega) (by omega)) dX9_work_185 (fun H locs hP hD hS => ?_)
          have hP : va_P D vwCl [(mh, .inr (9, G9 ma mcode mtoday moffs mmany msumW msumA msumR msumWW msumWA msumAA msumWR msumAR mupper mlower mrates mtaped mlaid mat mtk mtkAt mtkNumber mwaits mlisted mdealtMany)), ((ma 34), .inl (E 1, 2, .inl mf34)), ((ma 35), .inl (E 0, 2, .inl mf35)), ((ma 36), .inl (E 0, 384, .inl mf36)), ((ma 37), .inl (E 0, 384, .inl mf37)), ((ma 45), .inl (E 0, 130, .inl mf45)), ((ma 46), .inl (E 0, 24, .inl mf46)), ((ma 47), .inl (E 0, 5, .inl mf47)), ((ma 48), .inl (E 0, 5, .inl mf48)), ((ma 49), .inl (E 0, 5, .inl mf49)), ((ma 51), .inl (E 0, 15, .inl mf51)), ((ma 52), .inl (E 0, 15, .inl mf52)), ((ma 53), .inl (E 0, 15, .inl mf53)), ((ma 54), .inl (E 0, 15, .inl mf54)), ((ma 56), .inl (E 0, 200, .inl mf56)), ((ma 57), .inl (E 0, 600, .inl mf57)), ((ma 59), .inl (E 0, 3, .inl (upd mf59_39 (L5_39 : Int32).toNatClampNeg z_60))), ((ma 60), .inl (E 0, 3, .inl (upd mf60_39 (L5_39 : Int32).toNatClampNeg z_64)))] H := hP
          have hD := toW hP hD rfl
          obtain ⟨z_65, ez_65⟩ : ∃ y : Int32, y = L5_39 + 1 := ⟨_, rfl⟩
          have jz_65 : z_65.toInt = L5_39.toInt + 1 := by rw [ez_65]; exact g_add rfl t_1 (by omega) (by omega)
          refine lv_iinc (v := z_65) (lv' := [(5, .int z_65), (8, .int z_5), (7, .int z_52), (6, .int z_49), (4, .int 0), (3, .int z_5), (0, .ref mh), (1, .int p0), (2, .int p1)]) hx hb dX9_work_186 hl (k := 3) rfl (by rw [ez_65]; rfl) (by decide) rfl (fun ls hl => ?_)
          refine lv_goto (tgt := 39) hx hb dX9_work_189 (by decide) ?_
          exact ih_9 z_65 (upd mf59_39 (L5_39 : Int32).toNatClampNeg z_60) (upd mf60_39 (L5_39 : Int32).toNatClampNeg z_64) _ _ _ (by have h0 := t_0; (try dsimp only); omega) (by have h0 := t_0; (try dsimp only); omega) hP hD hS (lv_sub hl [0, 4, 5, 6, 7, 8] rfl)
    exact loop_8 4 0 mf59 mf60 _ _ _ (by have h0 := t_0; (try dsimp only); omega) (by have h0 := t_0; (try dsimp only); omega) hP hD hS (lv_sub hl [0, 1, 2, 3, 4, 5] rfl)
  ·
    have ic_7 : z_6.toInt = 2 := (g_eq rfl t_2).mp c_7
    clear c_7
    refine lv_iconst (v := 1) hx hb dX9_work_29 (by decide) ?_
    refine lv_goto (tgt := 34) hx hb dX9_work_30 (by decide) ?_
    refine lv_istore (lv' := [(4, .int 1), (3, .int z_5), (0, .ref mh), (1, .int p0), (2, .int p1)]) hx hb dX9_work_34 hl (by decide) rfl (fun ls hl => ?_)
    refine lv_iconst (v := 0) hx hb dX9_work_36 (by decide) ?_
    refine lv_istore (lv' := [(5, .int 0), (4, .int 1), (3, .int z_5), (0, .ref mh), (1, .int p0), (2, .int p1)]) hx hb dX9_work_37 hl (by decide) rfl (fun ls hl => ?_)
    have loop_66 : ∀ (N_68 : Nat) (L5_39 : Int32) (mf59_39 : Nat → Int32) (mf60_39 : Nat → Int32) (H : Heap) (locs : List Loc) (ls : Array Slot), 3 - L5_39.toInt < (N_68 : Int) → (0 ≤ L5_39.toInt ∧ L5_39.toInt ≤ 3) → va_P D vwCl [(mh, .inr (9, G9 ma mcode mtoday moffs mmany msumW msumA msumR msumWW msumWA msumAA msumWR msumAR mupper mlower mrates mtaped mlaid mat mtk mtkAt mtkNumber mwaits mlisted mdealtMany)), ((ma 34), .inl (E 1, 2, .inl mf34)), ((ma 35), .inl (E 0, 2, .inl mf35)), ((ma 36), .inl (E 0, 384, .inl mf36)), ((ma 37), .inl (E 0, 384, .inl mf37)), ((ma 45), .inl (E 0, 130, .inl mf45)), ((ma 46), .inl (E 0, 24, .inl mf46)), ((ma 47), .inl (E 0, 5, .inl mf47)), ((ma 48), .inl (E 0, 5, .inl mf48)), ((ma 49), .inl (E 0, 5, .inl mf49)), ((ma 51), .inl (E 0, 15, .inl mf51)), ((ma 52), .inl (E 0, 15, .inl mf52)), ((ma 53), .inl (E 0, 15, .inl mf53)), ((ma 54), .inl (E 0, 15, .inl mf54)), ((ma 56), .inl (E 0, 200, .inl mf56)), ((ma 57), .inl (E 0, 600, .inl mf57)), ((ma 59), .inl (E 0, 3, .inl mf59_39)), ((ma 60), .inl (E 0, 3, .inl mf60_39))] H → va_D A [(mh, .inr (9, G9 ma mcode mtoday moffs mmany msumW msumA msumR msumWW msumWA msumAA msumWR msumAR mupper mlower mrates mtaped mlaid mat mtk mtkAt mtkNumber mwaits mlisted mdealtMany)), ((ma 34), .inl (E 1, 2, .inl mf34)), ((ma 35), .inl (E 0, 2, .inl mf35)), ((ma 36), .inl (E 0, 384, .inl mf36)), ((ma 37), .inl (E 0, 384, .inl mf37)), ((ma 45), .inl (E 0, 130, .inl mf45)), ((ma 46), .inl (E 0, 24, .inl mf46)), ((ma 47), .inl (E 0, 5, .inl mf47)), ((ma 48), .inl (E 0, 5, .inl mf48)), ((ma 49), .inl (E 0, 5, .inl mf49)), ((ma 51), .inl (E 0, 15, .inl mf51)), ((ma 52), .inl (E 0, 15, .inl mf52)), ((ma 53), .inl (E 0, 15, .inl mf53)), ((ma 54), .inl (E 0, 15, .inl mf54)), ((ma 56), .inl (E 0, 200, .inl mf56)), ((ma 57), .inl (E 0, 600, .inl mf57)), ((ma 59), .inl (E 0, 3, .inl mf59_39)), ((ma 60), .inl (E 0, 3, .inl mf60_39))] → va_S A s.heap H locs → lv_has ls 11 [(5, .int L5_39), (4, .int 1), (3, .int z_5), (0, .ref mh), (1, .int p0), (2, .int p1)] → W p l e (headSpec (wl yX9_work cX9_work 11 (some .int)) (RM 2 0 0)).room s m [Value.ref mh, .int p0, .int p1].toArray below meth c H locs 0 0 (MQ below (va_Qi (fun (r : Int32) (u : (Nat → Int32) × (Nat → Int32) × (Nat → Int32) × (Nat → Int32)) => True) (mu_B D A (fun (u : (Nat → Int32) × (Nat → Int32) × (Nat → Int32) × (Nat → Int32)) => [(mh, .inr (9, G9 ma mcode mtoday moffs mmany msumW msumA msumR msumWW msumWA msumAA msumWR msumAR mupper mlower mrates mtaped mlaid mat mtk mtkAt mtkNumber mwaits mlisted mdealtMany)), ((ma 34), .inl (E 1, 2, .inl mf34)), ((ma 35), .inl (E 0, 2, .inl mf35)), ((ma 36), .inl (E 0, 384, .inl mf36)), ((ma 37), .inl (E 0, 384, .inl mf37)), ((ma 45), .inl (E 0, 130, .inl u.1)), ((ma 46), .inl (E 0, 24, .inl u.2.1)), ((ma 47), .inl (E 0, 5, .inl mf47)), ((ma 48), .inl (E 0, 5, .inl mf48)), ((ma 49), .inl (E 0, 5, .inl mf49)), ((ma 51), .inl (E 0, 15, .inl mf51)), ((ma 52), .inl (E 0, 15, .inl mf52)), ((ma 53), .inl (E 0, 15, .inl mf53)), ((ma 54), .inl (E 0, 15, .inl mf54)), ((ma 56), .inl (E 0, 200, .inl mf56)), ((ma 57), .inl (E 0, 600, .inl mf57)), ((ma 59), .inl (E 0, 3, .inl u.2.2.1)), ((ma 60), .inl (E 0, 3, .inl u.2.2.2))])) A) [Value.ref mh, .int p0, .int p1].toArray s 0 0 A) (F0 m 39 ls []) := by
      intro N_68
      induction N_68 with
      | zero => intro L5_39 mf59_39 mf60_39 H locs ls hm v0_39 _ _ _ _; exfalso; omega
      | succ N_68 ih_67 =>
        intro L5_39 mf59_39 mf60_39 H locs ls hm v0_39 hP hD hS hl
        have lo_L5_39 := i_lo L5_39; have hi_L5_39 := i_hi L5_39
        refine lv_iload hx hb dX9_work_39 (lv_at hl 0 rfl) ?_
        refine lv_iconst (v := 3) hx hb dX9_work_41 (by decide) ?_
        refine lv_icmp_ge (tgt := 192) hx hb dX9_work_42 (by decide) (fun c_69 => ?_) (fun c_69 => ?_)
        ·
          have ic_69 : 3 ≤ L5_39.toInt := by first | exact (g_le t_3 rfl).mp c_69 | (have h := mt (g_lt rfl t_3).mpr c_69; omega)
          clear c_69
          refine lv_aload_n hx hb dX9_work_192 rfl (lv_at hl 3 rfl) ?_
          refine va_get (D := D) (ci := 9) (v := .ref (ma 34)) (C := RX9) (T := TX9) (N := 68) hx hb htb iX9 hown hK.1 hP 0 rfl rfl 34 (by decide) (htb _ k_992) (fun _ h9 => h9) rfl dX9_work_193 ?_
          refine lv_iconst (v := 1) hx hb dX9_work_196 (by decide) ?_
          refine va_zald hx hb hK.1 hP 1 1 rfl rfl (g_in t_1 (by decide) (by decide)) dX9_work_197 ?_
          refine lv_topi (fun z_70 ez_70 => ?_)
          have kz_70 := congrArg Int32.toInt ez_70
          refine lv_if_ne (tgt := 203) hx hb dX9_work_198 (by decide) (fun c_71 => ?_) (fun c_71 => ?_)
          ·
            have ic_71 : z_70.toInt ≠ 0 := mt (g_eq rfl t_0).mpr c_71
            clear c_71
            refine lv_iconst (v := (-1)) hx hb dX9_work_203 (by decide) ?_
            refine lv_istore (lv' := [(5, .int (-1)), (4, .int 1), (3, .int z_5), (0, .ref mh), (1, .int p0), (2, .int p1)]) hx hb dX9_work_204 hl (by decide) rfl (fun ls hl => ?_)
            refine lv_iconst (v := 0) hx hb dX9_work_206 (by decide) ?_
            refine lv_istore (lv' := [(6, .int 0), (5, .int (-1)), (4, .int 1), (3, .int z_5), (0, .ref mh), (1, .int p0), (2, .int p1)]) hx hb dX9_work_207 hl (by decide) rfl (fun ls hl => ?_)
            refine lv_iconst (v := 0) hx hb dX9_work_209 (by decide) ?_
            refine lv_istore (lv' := [(7, .int 0), (6, .int 0), (5, .int (-1)), (4, .int 1), (3, .int z_5), (0, .ref mh), (1, .int p0), (2, .int p1)]) hx hb dX9_work_210 hl (by decide) rfl (fun ls hl => ?_)
            have loop_72 : ∀ (N_74 : Nat) (L7_212 : Int32) (L6_212 : Int32) (L5_212 : Int32) (mf45_212 : Nat → Int32) (mf46_212 : Nat → Int32) (H : Heap) (locs : List Loc) (ls : Array Slot), 3 - L7_212.toInt < (N_74 : Int) → (0 ≤ L7_212.toInt ∧ L7_212.toInt ≤ 3) → va_P D vwCl [(mh, .inr (9, G9 ma mcode mtoday moffs mmany msumW msumA msumR msumWW msumWA msumAA msumWR msumAR mupper mlower mrates mtaped mlaid mat mtk mtkAt mtkNumber mwaits mlisted mdealtMany)), ((ma 34), .inl (E 1, 2, .inl mf34)), ((ma 35), .inl (E 0, 2, .inl mf35)), ((ma 36), .inl (E 0, 384, .inl mf36)), ((ma 37), .inl (E 0, 384, .inl mf37)), ((ma 45), .inl (E 0, 130, .inl mf45_212)), ((ma 46), .inl (E 0, 24, .inl mf46_212)), ((ma 47), .inl (E 0, 5, .inl mf47)), ((ma 48), .inl (E 0, 5, .inl mf48)), ((ma 49), .inl (E 0, 5, .inl mf49)), ((ma 51), .inl (E 0, 15, .inl mf51)), ((ma 52), .inl (E 0, 15, .inl mf52)), ((ma 53), .inl (E 0, 15, .inl mf53)), ((ma 54), .inl (E 0, 15, .inl mf54)), ((ma 56), .inl (E 0, 200, .inl mf56)), ((ma 57), .inl (E 0, 600, .inl mf57)), ((ma 59), .inl (E 0, 3, .inl mf59_39)), ((ma 60), .inl (E 0, 3, .inl mf60_39))] H → va_D A [(mh, .inr (9, G9 ma mcode mtoday moffs mmany msumW msumA msumR msumWW msumWA msumAA msumWR msumAR mupper mlower mrates mtaped mlaid mat mtk mtkAt mtkNumber mwaits mlisted mdealtMany)), ((ma 34), .inl (E 1, 2, .inl mf34)), ((ma 35), .inl (E 0, 2, .inl mf35)), ((ma 36), .inl (E 0, 384, .inl mf36)), ((ma 37), .inl (E 0, 384, .inl mf37)), ((ma 45), .inl (E 0, 130, .inl mf45_212)), ((ma 46), .inl (E 0, 24, .inl mf46_212)), ((ma 47), .inl (E 0, 5, .inl mf47)), ((ma 48), .inl (E 0, 5, .inl mf48)), ((ma 49), .inl (E 0, 5, .inl mf49)), ((ma 51), .inl (E 0, 15, .inl mf51)), ((ma 52), .inl (E 0, 15, .inl mf52)), ((ma 53), .inl (E 0, 15, .inl mf53)), ((ma 54), .inl (E 0, 15, .inl mf54)), ((ma 56), .inl (E 0, 200, .inl mf56)), ((ma 57), .inl (E 0, 600, .inl mf57)), ((ma 59), .inl (E 0, 3, .inl mf59_39)), ((ma 60), .inl (E 0, 3, .inl mf60_39))] → va_S A s.heap H locs → lv_has ls 11 [(7, .int L7_212), (6, .int L6_212), (5, .int L5_212), (4, .int 1), (3, .int z_5), (0, .ref mh), (1, .int p0), (2, .int p1)] → W p l e (headSpec (wl yX9_work cX9_work 11 (some .int)) (RM 2 0 0)).room s m [Value.ref mh, .int p0, .int p1].toArray below meth c H locs 0 0 (MQ below (va_Qi (fun (r : Int32) (u : (Nat → Int32) × (Nat → Int32) × (Nat → Int32) × (Nat → Int32)) => True) (mu_B D A (fun (u : (Nat → Int32) × (Nat → Int32) × (Nat → Int32) × (Nat → Int32)) => [(mh, .inr (9, G9 ma mcode mtoday moffs mmany msumW msumA msumR msumWW msumWA msumAA msumWR msumAR mupper mlower mrates mtaped mlaid mat mtk mtkAt mtkNumber mwaits mlisted mdealtMany)), ((ma 34), .inl (E 1, 2, .inl mf34)), ((ma 35), .inl (E 0, 2, .inl mf35)), ((ma 36), .inl (E 0, 384, .inl mf36)), ((ma 37), .inl (E 0, 384, .inl mf37)), ((ma 45), .inl (E 0, 130, .inl u.1)), ((ma 46), .inl (E 0, 24, .inl u.2.1)), ((ma 47), .inl (E 0, 5, .inl mf47)), ((ma 48), .inl (E 0, 5, .inl mf48)), ((ma 49), .inl (E 0, 5, .inl mf49)), ((ma 51), .inl (E 0, 15, .inl mf51)), ((ma 52), .inl (E 0, 15, .inl mf52)), ((ma 53), .inl (E 0, 15, .inl mf53)), ((ma 54), .inl (E 0, 15, .inl mf54)), ((ma 56), .inl (E 0, 200, .inl mf56)), ((ma 57), .inl (E 0, 600, .inl mf57)), ((ma 59), .inl (E 0, 3, .inl u.2.2.1)), ((ma 60), .inl (E 0, 3, .inl u.2.2.2))])) A) [Value.ref mh, .int p0, .int p1].toArray s 0 0 A) (F0 m 212 ls []) := by
              intro N_74
              induction N_74 with
              | zero => intro L7_212 L6_212 L5_212 mf45_212 mf46_212 H locs ls hm v0_212 _ _ _ _; exfalso; omega
              | succ N_74 ih_73 =>
                intro L7_212 L6_212 L5_212 mf45_212 mf46_212 H locs ls hm v0_212 hP hD hS hl
                have lo_L7_212 := i_lo L7_212; have hi_L7_212 := i_hi L7_212
                have lo_L6_212 := i_lo L6_212; have hi_L6_212 := i_hi L6_212
                have lo_L5_212 := i_lo L5_212; have hi_L5_212 := i_hi L5_212
                refine lv_iload hx hb dX9_work_212 (lv_at hl 0 rfl) ?_
                refine lv_iconst (v := 3) hx hb dX9_work_214 (by decide) ?_
                refine lv_icmp_ge (tgt := 339) hx hb dX9_work_215 (by decide) (fun c_75 => ?_) (fun c_75 => ?_)
                ·
                  have ic_75 : 3 ≤ L7_212.toInt := by first | exact (g_le t_3 rfl).mp c_75 | (have h := mt (g_lt rfl t_3).mpr c_75; omega)
                  clear c_75
                  refine lv_iload hx hb dX9_work_339 (lv_at hl 2 rfl) ?_
                  have hP9 := hP.sub (ws' := [(mh, .inr (9, G9 ma mcode mtoday moffs mmany msumW msumA msumR msumWW msumWA msumAA msumWR msumAR mupper mlower mrates mtaped mlaid mat mtk mtkAt mtkNumber mwaits mlisted mdealtMany)), ((ma 34), .inl (E 1, 2, .inl mf34)), ((ma 35), .inl (E 0, 2, .inl mf35)), ((ma 36), .inl (E 0, 384, .inl mf36)), ((ma 37), .inl (E 0, 384, .inl mf37)), ((ma 45), .inl (E 0, 130, .inl mf45_212)), ((ma 46), .inl (E 0, 24, .inl mf46_212)), ((ma 47), .inl (E 0, 5, .inl mf47)), ((ma 48), .inl (E 0, 5, .inl mf48)), ((ma 49), .inl (E 0, 5, .inl mf49)), ((ma 51), .inl (E 0, 15, .inl mf51)), ((ma 52), .inl (E 0, 15, .inl mf52)), ((ma 53), .inl (E 0, 15, .inl mf53)), ((ma 54), .inl (E 0, 15, .inl mf54)), ((ma 56), .inl (E 0, 200, .inl mf56)), ((ma 57), .inl (E 0, 600, .inl mf57)), ((ma 59), .inl (E 0, 3, .inl mf59_39)), ((ma 60), .inl (E 0, 3, .inl mf60_39))]) [0, 1, 2, 3, 4, 5, 6, 7, 8, 9, 10, 11, 12, 13, 14, 15, 16, 17] rfl
                  have hD9 := hD.sub (ws' := [(mh, .inr (9, G9 ma mcode mtoday moffs mmany msumW msumA msumR msumWW msumWA msumAA msumWR msumAR mupper mlower mrates mtaped mlaid mat mtk mtkAt mtkNumber mwaits mlisted mdealtMany)), ((ma 34), .inl (E 1, 2, .inl mf34)), ((ma 35), .inl (E 0, 2, .inl mf35)), ((ma 36), .inl (E 0, 384, .inl mf36)), ((ma 37), .inl (E 0, 384, .inl mf37)), ((ma 45), .inl (E 0, 130, .inl mf45_212)), ((ma 46), .inl (E 0, 24, .inl mf46_212)), ((ma 47), .inl (E 0, 5, .inl mf47)), ((ma 48), .inl (E 0, 5, .inl mf48)), ((ma 49), .inl (E 0, 5, .inl mf49)), ((ma 51), .inl (E 0, 15, .inl mf51)), ((ma 52), .inl (E 0, 15, .inl mf52)), ((ma 53), .inl (E 0, 15, .inl mf53)), ((ma 54), .inl (E 0, 15, .inl mf54)), ((ma 56), .inl (E 0, 200, .inl mf56)), ((ma 57), .inl (E 0, 600, .inl mf57)), ((ma 59), .inl (E 0, 3, .inl mf59_39)), ((ma 60), .inl (E 0, 3, .inl mf60_39))]) [0, 1, 2, 3, 4, 5, 6, 7, 8, 9, 10, 11, 12, 13, 14, 15, 16, 17] (by decide) rfl
                  exact W.iret (v := L5_212) hx hb hr (fun t ht hW => ⟨⟨L5_212, (mf45_212, mf46_212, mf59_39, mf60_39), rfl, trivial, by rw [ht]; exact hP9, hD9⟩, hS.F ht⟩) hS.2.2 dX9_work_341
                ·
                  have ic_75 : L7_212.toInt < 3 := by first | exact (g_lt rfl t_3).mp c_75 | (have h := mt (g_le t_3 rfl).mpr c_75; omega)
                  clear c_75
                  refine lv_aload_n hx hb dX9_work_218 rfl (lv_at hl 5 rfl) ?_
                  refine va_get (D := D) (ci := 9) (v := .ref (ma 59)) (C := RX9) (T := TX9) (N := 68) hx hb htb iX9 hown hK.1 hP 0 rfl rfl 59 (by decide) (htb _ k_1017) (fun _ h9 => h9) rfl dX9_work_219 ?_
                  refine lv_iload hx hb dX9_work_222 (lv_at hl 0 rfl) ?_
                  refine lv_iconst (v := 1) hx hb dX9_work_224 (by decide) ?_
                  refine lv_iadd hx hb dX9_work_225 ?_
                  refine lv_topi (fun z_76 ez_76 => ?_)
                  have jz_76 : z_76.toInt = L7_212.toInt + 1 := by rw [ez_76]; exact g_add rfl t_1 (by omega) (by omega)
                  refine lv_iconst (v := 3) hx hb dX9_work_226 (by decide) ?_
                  refine lv_irem hx hb dX9_work_227 (by decide) ?_
                  refine lv_topi (fun z_77 ez_77 => ?_)
                  have jz_77 : z_77.toInt = z_76.toInt % 3 := by rw [ez_77]; exact g_rem rfl t_3 (by omega) (by decide)
                  refine va_iald hx hb hK.1 hP 16 0 rfl rfl (g_in rfl (by omega) (by omega)) dX9_work_228 ?_
                  refine lv_topi (fun z_78 ez_78 => ?_)
                  have kz_78 := congrArg Int32.toInt ez_78
                  obtain ⟨z_79, ez_79⟩ : ∃ y : Int64, (z_78 : Int32).toInt64 = y := ⟨_, rfl⟩
                  refine lv_i2l hx hb dX9_work_229 ez_79 ?_
                  refine lv_aload_n hx hb dX9_work_230 rfl (lv_at hl 5 rfl) ?_
                  refine va_get (D := D) (ci := 9) (v := .ref (ma 59)) (C := RX9) (T := TX9) (N := 68) hx hb htb iX9 hown hK.1 hP 0 rfl rfl 59 (by decide) (htb _ k_1017) (fun _ h9 => h9) rfl dX9_work_231 ?_
                  refine lv_iload hx hb dX9_work_234 (lv_at hl 0 rfl) ?_
                  refine lv_iconst (v := 2) hx hb dX9_work_236 (by decide) ?_
                  refine lv_iadd hx hb dX9_work_237 ?_
                  refine lv_topi (fun z_80 ez_80 => ?_)
                  have jz_80 : z_80.toInt = L7_212.toInt + 2 := by rw [ez_80]; exact g_add rfl t_2 (by omega) (by omega)
                  refine lv_iconst (v := 3) hx hb dX9_work_238 (by decide) ?_
                  refine lv_irem hx hb dX9_work_239 (by decide) ?_
                  refine lv_topi (fun z_81 ez_81 => ?_)
                  have jz_81 : z_81.toInt = z_80.toInt % 3 := by rw [ez_81]; exact g_rem rfl t_3 (by omega) (by decide)
                  refine va_iald hx hb hK.1 hP 16 0 rfl rfl (g_in rfl (by omega) (by omega)) dX9_work_240 ?_
                  refine lv_topi (fun z_82 ez_82 => ?_)
                  have kz_82 := congrArg Int32.toInt ez_82
                  obtain ⟨z_83, ez_83⟩ : ∃ y : Int64, (z_82 : Int32).toInt64 = y := ⟨_, rfl⟩
                  refine lv_i2l hx hb dX9_work_241 ez_83 ?_
                  refine lv_ladd hx hb dX9_work_242 ?_
                  refine lv_topl (fun z_84 ez_84 => ?_)
                  refine lv_lstore (lv' := [(8, .long z_84), (7, .int L7_212), (6, .int L6_212), (5, .int L5_212), (4, .int 1), (3, .int z_5), (0, .ref mh), (1, .int p0), (2, .int p1)]) hx hb dX9_work_243 hl (by decide) rfl (fun ls hl => ?_)
                  refine lv_aload_n hx hb dX9_work_245 rfl (lv_at hl 6 rfl) ?_
                  refine va_get (D := D) (ci := 9) (v := .ref (ma 46)) (C := RX9) (T := TX9) (N := 68) hx hb htb iX9 hown hK.1 hP 0 rfl rfl 46 (by decide) (htb _ k_1004) (fun _ h9 => h9) rfl dX9_work_246 ?_
                  refine lv_bipush (v := 20) hx hb dX9_work_249 (by decide) ?_
                  refine lv_aload_n hx hb dX9_work_251 rfl (lv_at hl 6 rfl) ?_
                  refine va_get (D := D) (ci := 9) (v := .ref (ma 59)) (C := RX9) (T := TX9) (N := 68) hx hb htb iX9 hown hK.1 hP 0 rfl rfl 59 (by decide) (htb _ k_1017) (fun _ h9 => h9) rfl dX9_work_252 ?_
                  refine lv_iload hx hb dX9_work_255 (lv_at hl 1 rfl) ?_
                  refine va_iald hx hb hK.1 hP 16 0 rfl rfl (g_in rfl (by omega) (by omega)) dX9_work_257 ?_
                  refine lv_topi (fun z_85 ez_85 => ?_)
                  have kz_85 := congrArg Int32.toInt ez_85
                  obtain ⟨z_86, ez_86⟩ : ∃ y : Int64, (z_85 : Int32).toInt64 = y := ⟨_, rfl⟩
                  refine lv_i2l hx hb dX9_work_258 ez_86 ?_
                  refine lv_lload hx hb dX9_work_259 (lv_at hl 0 rfl) ?_
                  refine lv_ldc2 hx hb hown (htb _ k_1446) dX9_work_261 ?_
                  refine callLS (rest := [.long z_86, .int 20, .ref (ma 46)]) (As := [.long z_84, .long (2)]) hx hb hml hown htb hK (g_X9_floor l D E z_84 (2) (by decide)) ok_X9_floor k_1311 k_1312 k_9 k_1313 ⟨(Nat.le_of_ble_eq_true rfl), (Nat.le_of_ble_eq_true rfl)⟩ ⟨(Nat.le_of_ble_eq_true rfl), (Nat.le_of_ble_eq_true rfl)⟩ hl.1 (Nat.le_of_ble_eq_true rfl) rfl rfl dX9_work_264 (hP.sub (ws' := ([] : va_W)) [] rfl) (fun r_87 hw_88 => ?_)
                  try simp only [t_2] at hw_88
                  refine lv_lsub hx hb dX9_work_267 ?_
                  refine lv_topl (fun z_90 ez_90 => ?_)
                  obtain ⟨z_91, ez_91⟩ : ∃ y : Int32, (z_90 : Int64).toInt32 = y := ⟨_, rfl⟩
                  refine lv_l2i hx hb dX9_work_268 ez_91 ?_
                  refine callRS (rest := [.int 20, .ref (ma 46)]) (As := [.int z_91]) hx hb hml hown htb hK (g_X9_size l D E z_91 ) ok_X9_size k_1235 k_1236 k_9 k_1237 ⟨(Nat.le_of_ble_eq_true rfl), (Nat.le_of_ble_eq_true rfl)⟩ ⟨(Nat.le_of_ble_eq_true rfl), (Nat.le_of_ble_eq_true rfl)⟩ hl.1 (Nat.le_of_ble_eq_true rfl) rfl rfl dX9_work_269 (hP.sub (ws' := ([] : va_W)) [] rfl) (fun r_92 hw_93 => ?_)
                  refine va_iast hx hb hK.1 hP hD hS 6 0 rfl rfl (g_in t_20 (by decide) (by decide)) dX9_work_272 (fun H locs hP hD hS => ?_)
                  have hP : va_P D vwCl [(mh, .inr (9, G9 ma mcode mtoday moffs mmany msumW msumA msumR msumWW msumWA msumAA msumWR msumAR mupper mlower mrates mtaped mlaid mat mtk mtkAt mtkNumber mwaits mlisted mdealtMany)), ((ma 34), .inl (E 1, 2, .inl mf34)), ((ma 35), .inl (E 0, 2, .inl mf35)), ((ma 36), .inl (E 0, 384, .inl mf36)), ((ma 37), .inl (E 0, 384, .inl mf37)), ((ma 45), .inl (E 0, 130, .inl mf45_212)), ((ma 46), .inl (E 0, 24, .inl (upd mf46_212 (20 : Int32).toNatClampNeg r_92))), ((ma 47), .inl (E 0, 5, .inl mf47)), ((ma 48), .inl (E 0, 5, .inl mf48)), ((ma 49), .inl (E 0, 5, .inl mf49)), ((ma 51), .inl (E 0, 15, .inl mf51)), ((ma 52), .inl (E 0, 15, .inl mf52)), ((ma 53), .inl (E 0, 15, .inl mf53)), ((ma 54), .inl (E 0, 15, .inl mf54)), ((ma 56), .inl (E 0, 200, .inl mf56)), ((ma 57), .inl (E 0, 600, .inl mf57)), ((ma 59), .inl (E 0, 3, .inl mf59_39)), ((ma 60), .inl (E 0, 3, .inl mf60_39))] H := hP
                  have hD := toW hP hD rfl
                  refine lv_aload_n hx hb dX9_work_273 rfl (lv_at hl 6 rfl) ?_
                  refine va_get (D := D) (ci := 9) (v := .ref (ma 46)) (C := RX9) (T := TX9) (N := 68) hx hb htb iX9 hown hK.1 hP 0 rfl rfl 46 (by decide) (htb _ k_1004) (fun _ h9 => h9) rfl dX9_work_274 ?_
                  refine lv_bipush (v := 21) hx hb dX9_work_277 (by decide) ?_
                  refine lv_aload_n hx hb dX9_work_279 rfl (lv_at hl 6 rfl) ?_
                  refine va_get (D := D) (ci := 9) (v := .ref (ma 53)) (C := RX9) (T := TX9) (N := 68) hx hb htb iX9 hown hK.1 hP 0 rfl rfl 53 (by decide) (htb _ k_1011) (fun _ h9 => h9) rfl dX9_work_280 ?_
                  refine lv_iconst (v := 3) hx hb dX9_work_283 (by decide) ?_
                  refine lv_iload_n hx hb dX9_work_284 rfl (lv_at hl 7 rfl) ?_
                  refine lv_imul hx hb dX9_work_285 ?_
                  refine lv_topi (fun z_95 ez_95 => ?_)
                  have jz_95 : z_95.toInt = 3 * p0.toInt := by rw [ez_95]; exact g_mul t_3 rfl (by omega) (by omega)
                  refine lv_iload hx hb dX9_work_286 (lv_at hl 1 rfl) ?_
                  refine lv_iadd hx hb dX9_work_288 ?_
                  refine lv_topi (fun z_96 ez_96 => ?_)
                  have jz_96 : z_96.toInt = z_95.toInt + L7_212.toInt := by rw [ez_96]; exact g_add rfl rfl (by omega) (by omega)
                  refine va_iald hx hb hK.1 hP 12 0 rfl rfl (g_in rfl (by omega) (by omega)) dX9_work_289 ?_
                  refine lv_topi (fun z_97 ez_97 => ?_)
                  have kz_97 := congrArg Int32.toInt ez_97
                  refine va_iast hx hb hK.1 hP hD hS 6 0 rfl rfl (g_in t_21 (by decide) (by decide)) dX9_work_290 (fun H locs hP hD hS => ?_)
                  have hP : va_P D vwCl [(mh, .inr (9, G9 ma mcode mtoday moffs mmany msumW msumA msumR msumWW msumWA msumAA msumWR msumAR mupper mlower mrates mtaped mlaid mat mtk mtkAt mtkNumber mwaits mlisted mdealtMany)), ((ma 34), .inl (E 1, 2, .inl mf34)), ((ma 35), .inl (E 0, 2, .inl mf35)), ((ma 36), .inl (E 0, 384, .inl mf36)), ((ma 37), .inl (E 0, 384, .inl mf37)), ((ma 45), .inl (E 0, 130, .inl mf45_212)), ((ma 46), .inl (E 0, 24, .inl (upd (upd mf46_212 (20 : Int32).toNatClampNeg r_92) (21 : Int32).toNatClampNeg z_97))), ((ma 47), .inl (E 0, 5, .inl mf47)), ((ma 48), .inl (E 0, 5, .inl mf48)), ((ma 49), .inl (E 0, 5, .inl mf49)), ((ma 51), .inl (E 0, 15, .inl mf51)), ((ma 52), .inl (E 0, 15, .inl mf52)), ((ma 53), .inl (E 0, 15, .inl mf53)), ((ma 54), .inl (E 0, 15, .inl mf54)), ((ma 56), .inl (E 0, 200, .inl mf56)), ((ma 57), .inl (E 0, 600, .inl mf57)), ((ma 59), .inl (E 0, 3, .inl mf59_39)), ((ma 60), .inl (E 0, 3, .inl mf60_39))] H := hP
                  have hD := toW hP hD rfl
                  generalize (upd (upd mf46_212 (20 : Int32).toNatClampNeg r_92) (21 : Int32).toNatClampNeg z_97) = g_98 at hP hD
                  refine lv_aload_n hx hb dX9_work_291 rfl (lv_at hl 6 rfl) ?_
                  refine va_get (D := D) (ci := 9) (v := .ref (ma 46)) (C := RX9) (T := TX9) (N := 68) hx hb htb iX9 hown hK.1 hP 0 rfl rfl 46 (by decide) (htb _ k_1004) (fun _ h9 => h9) rfl dX9_work_292 ?_
                  refine lv_bipush (v := 22) hx hb dX9_work_295 (by decide) ?_
                  refine lv_iload_n hx hb dX9_work_297 rfl (lv_at hl 5 rfl) ?_
                  refine va_iast hx hb hK.1 hP hD hS 6 0 rfl rfl (g_in t_22 (by decide) (by decide)) dX9_work_298 (fun H locs hP hD hS => ?_)
                  have hP : va_P D vwCl [(mh, .inr (9, G9 ma mcode mtoday moffs mmany msumW msumA msumR msumWW msumWA msumAA msumWR msumAR mupper mlower mrates mtaped mlaid mat mtk mtkAt mtkNumber mwaits mlisted mdealtMany)), ((ma 34), .inl (E 1, 2, .inl mf34)), ((ma 35), .inl (E 0, 2, .inl mf35)), ((ma 36), .inl (E 0, 384, .inl mf36)), ((ma 37), .inl (E 0, 384, .inl mf37)), ((ma 45), .inl (E 0, 130, .inl mf45_212)), ((ma 46), .inl (E 0, 24, .inl (upd g_98 (22 : Int32).toNatClampNeg z_5))), ((ma 47), .inl (E 0, 5, .inl mf47)), ((ma 48), .inl (E 0, 5, .inl mf48)), ((ma 49), .inl (E 0, 5, .inl mf49)), ((ma 51), .inl (E 0, 15, .inl mf51)), ((ma 52), .inl (E 0, 15, .inl mf52)), ((ma 53), .inl (E 0, 15, .inl mf53)), ((ma 54), .inl (E 0, 15, .inl mf54)), ((ma 56), .inl (E 0, 200, .inl mf56)), ((ma 57), .inl (E 0, 600, .inl mf57)), ((ma 59), .inl (E 0, 3, .inl mf59_39)), ((ma 60), .inl (E 0, 3, .inl mf60_39))] H := hP
                  have hD := toW hP hD rfl
                  refine lv_aload_n hx hb dX9_work_299 rfl (lv_at hl 6 rfl) ?_
                  refine va_get (D := D) (ci := 9) (v := .ref (ma 46)) (C := RX9) (T := TX9) (N := 68) hx hb htb iX9 hown hK.1 hP 0 rfl rfl 46 (by decide) (htb _ k_1004) (fun _ h9 => h9) rfl dX9_work_300 ?_
                  refine lv_bipush (v := 23) hx hb dX9_work_303 (by decide) ?_
                  refine lv_iload hx hb dX9_work_305 (lv_at hl 1 rfl) ?_
                  refine va_iast hx hb hK.1 hP hD hS 6 0 rfl rfl (g_in t_23 (by decide) (by decide)) dX9_work_307 (fun H locs hP hD hS => ?_)
                  have hP : va_P D vwCl [(mh, .inr (9, G9 ma mcode mtoday moffs mmany msumW msumA msumR msumWW msumWA msumAA msumWR msumAR mupper mlower mrates mtaped mlaid mat mtk mtkAt mtkNumber mwaits mlisted mdealtMany)), ((ma 34), .inl (E 1, 2, .inl mf34)), ((ma 35), .inl (E 0, 2, .inl mf35)), ((ma 36), .inl (E 0, 384, .inl mf36)), ((ma 37), .inl (E 0, 384, .inl mf37)), ((ma 45), .inl (E 0, 130, .inl mf45_212)), ((ma 46), .inl (E 0, 24, .inl (upd (upd g_98 (22 : Int32).toNatClampNeg z_5) (23 : Int32).toNatClampNeg L7_212))), ((ma 47), .inl (E 0, 5, .inl mf47)), ((ma 48), .inl (E 0, 5, .inl mf48)), ((ma 49), .inl (E 0, 5, .inl mf49)), ((ma 51), .inl (E 0, 15, .inl mf51)), ((ma 52), .inl (E 0, 15, .inl mf52)), ((ma 53), .inl (E 0, 15, .inl mf53)), ((ma 54), .inl (E 0, 15, .inl mf54)), ((ma 56), .inl (E 0, 200, .inl mf56)), ((ma 57), .inl (E 0, 600, .inl mf57)), ((ma 59), .inl (E 0, 3, .inl mf59_39)), ((ma 60), .inl (E 0, 3, .inl mf60_39))] H := hP
                  have hD := toW hP hD rfl
                  generalize (upd (upd g_98 (22 : Int32).toNatClampNeg z_5) (23 : Int32).toNatClampNeg L7_212) = g_99 at hP hD
                  refine lv_aload_n hx hb dX9_work_308 rfl (lv_at hl 6 rfl) ?_
                  refine lv_iconst (v := 1) hx hb dX9_work_309 (by decide) ?_
                  have hPc := hP.sub (ws' := [(mh, .inr (9, G9 ma mcode mtoday moffs mmany msumW msumA msumR msumWW msumWA msumAA msumWR msumAR mupper mlower mrates mtaped mlaid mat mtk mtkAt mtkNumber mwaits mlisted mdealtMany)), ((ma 35), .inl (E 0, 2, .inl mf35)), ((ma 36), .inl (E 0, 384, .inl mf36)), ((ma 37), .inl (E 0, 384, .inl mf37)), ((ma 45), .inl (E 0, 130, .inl mf45_212)), ((ma 46), .inl (E 0, 24, .inl g_99))]) [0, 2, 3, 4, 5, 6] rfl
                  have hDc := hD.sub (ws' := [(mh, .inr (9, G9 ma mcode mtoday moffs mmany msumW msumA msumR msumWW msumWA msumAA msumWR msumAR mupper mlower mrates mtaped mlaid mat mtk mtkAt mtkNumber mwaits mlisted mdealtMany)), ((ma 35), .inl (E 0, 2, .inl mf35)), ((ma 36), .inl (E 0, 384, .inl mf36)), ((ma 37), .inl (E 0, 384, .inl mf37)), ((ma 45), .inl (E 0, 130, .inl mf45_212)), ((ma 46), .inl (E 0, 24, .inl g_99))]) [0, 2, 3, 4, 5, 6] (by decide) rfl
                  refine aft_i (runMV (rest := []) (As := [.int 1]) hx hb hml hown htb hK (g_X9_says1 l D E mh ma mcode mtoday moffs mmany msumW msumA msumR msumWW msumWA msumAA msumWR msumAR mupper mlower mrates mtaped mlaid mat mtk mtkAt mtkNumber mwaits mlisted mdealtMany mf35 mf36 mf37 mf45_212 g_99 _ (by (try dsimp only); omega) hr_m35 hjw) ok_X9_says k_1395 k_1397 ks_60 k_9 k_1398 ⟨(Nat.le_of_ble_eq_true rfl), (Nat.le_of_ble_eq_true rfl)⟩ ⟨(Nat.le_of_ble_eq_true rfl), (Nat.le_of_ble_eq_true rfl)⟩ hl.1 (Nat.le_of_ble_eq_true rfl) rfl rfl dX9_work_310 hPc hDc rfl rfl 0 rfl) hP hD hS hA [0, 2, 3, 4, 5, 6] [1, 7, 8, 9, 10, 11, 12, 13, 14, 15, 16, 17] (wr := [((ma 34), .inl (E 1, 2, .inl mf34)), ((ma 47), .inl (E 0, 5, .inl mf47)), ((ma 48), .inl (E 0, 5, .inl mf48)), ((ma 49), .inl (E 0, 5, .inl mf49)), ((ma 51), .inl (E 0, 15, .inl mf51)), ((ma 52), .inl (E 0, 15, .inl mf52)), ((ma 53), .inl (E 0, 15, .inl mf53)), ((ma 54), .inl (E 0, 15, .inl mf54)), ((ma 56), .inl (E 0, 200, .inl mf56)), ((ma 57), .inl (E 0, 600, .inl mf57)), ((ma 59), .inl (E 0, 3, .inl mf59_39)), ((ma 60), .inl (E 0, 3, .inl mf60_39))]) rfl rfl (by decide) (by decide) (fun r_100 u_102 H locs hw_101 hP hD hS => ?_)
                  clear hPc hDc
                  have hP : va_P D vwCl [((ma 34), .inl (E 1, 2, .inl mf34)), ((ma 47), .inl (E 0, 5, .inl mf47)), ((ma 48), .inl (E 0, 5, .inl mf48)), ((ma 49), .inl (E 0, 5, .inl mf49)), ((ma 51), .inl (E 0, 15, .inl mf51)), ((ma 52), .inl (E 0, 15, .inl mf52)), ((ma 53), .inl (E 0, 15, .inl mf53)), ((ma 54), .inl (E 0, 15, .inl mf54)), ((ma 56), .inl (E 0, 200, .inl mf56)), ((ma 57), .inl (E 0, 600, .inl mf57)), ((ma 59), .inl (E 0, 3, .inl mf59_39)), ((ma 60), .inl (E 0, 3, .inl mf60_39)), (mh, .inr (9, G9 ma mcode mtoday moffs mmany msumW msumA msumR msumWW msumWA msumAA msumWR msumAR mupper mlower mrates mtaped mlaid mat mtk mtkAt mtkNumber mwaits mlisted mdealtMany)), ((ma 35), .inl (E 0, 2, .inl mf35)), ((ma 36), .inl (E 0, 384, .inl mf36)), ((ma 37), .inl (E 0, 384, .inl mf37)), ((ma 45), .inl (E 0, 130, .inl u_102)), ((ma 46), .inl (E 0, 24, .inl g_99))] H := hP
                  have hD := toW hP hD rfl
                  refine lv_istore (lv' := [(10, .int r_100), (8, .long z_84), (7, .int L7_212), (6, .int L6_212), (5, .int L5_212), (4, .int 1), (3, .int z_5), (0, .ref mh), (1, .int p0), (2, .int p1)]) hx hb dX9_work_313 hl (by decide) rfl (fun ls hl => ?_)
                  refine lv_iload hx hb dX9_work_315 (lv_at hl 0 rfl) ?_
                  refine lv_iload hx hb dX9_work_317 (lv_at hl 3 rfl) ?_
                  refine lv_icmp_gt (tgt := 325) hx hb dX9_work_319 (by decide) (fun c_103 => ?_) (fun c_103 => ?_)
                  ·
                    have ic_103 : L6_212.toInt < r_100.toInt := by first | exact (g_lt rfl rfl).mp c_103 | (have h := mt (g_le rfl rfl).mpr c_103; omega)
                    clear c_103
                    refine lv_iload hx hb dX9_work_325 (lv_at hl 0 rfl) ?_
                    refine lv_istore (lv' := [(6, .int r_100), (10, .int r_100), (8, .long z_84), (7, .int L7_212), (5, .int L5_212), (4, .int 1), (3, .int z_5), (0, .ref mh), (1, .int p0), (2, .int p1)]) hx hb dX9_work_327 hl (by decide) rfl (fun ls hl => ?_)
                    refine lv_iload hx hb dX9_work_329 (lv_at hl 3 rfl) ?_
                    refine lv_istore (lv' := [(5, .int L7_212), (6, .int r_100), (10, .int r_100), (8, .long z_84), (7, .int L7_212), (4, .int 1), (3, .int z_5), (0, .ref mh), (1, .int p0), (2, .int p1)]) hx hb dX9_work_331 hl (by decide) rfl (fun ls hl => ?_)
                    obtain ⟨z_104, ez_104⟩ : ∃ y : Int32, y = L7_212 + 1 := ⟨_, rfl⟩
                    have jz_104 : z_104.toInt = L7_212.toInt + 1 := by rw [ez_104]; exact g_add rfl t_1 (by omega) (by omega)
                    refine lv_iinc (v := z_104) (lv' := [(7, .int z_104), (5, .int L7_212), (6, .int r_100), (10, .int r_100), (8, .long z_84), (4, .int 1), (3, .int z_5), (0, .ref mh), (1, .int p0), (2, .int p1)]) hx hb dX9_work_333 hl (k := 4) rfl (by rw [ez_104]; rfl) (by decide) rfl (fun ls hl => ?_)
                    refine lv_goto (tgt := 212) hx hb dX9_work_336 (by decide) ?_
                    have hP := hP.sub (ws' := [(mh, .inr (9, G9 ma mcode mtoday moffs mmany msumW msumA msumR msumWW msumWA msumAA msumWR msumAR mupper mlower mrates mtaped mlaid mat mtk mtkAt mtkNumber mwaits mlisted mdealtMany)), ((ma 34), .inl (E 1, 2, .inl mf34)), ((ma 35), .inl (E 0, 2, .inl mf35)), ((ma 36), .inl (E 0, 384, .inl mf36)), ((ma 37), .inl (E 0, 384, .inl mf37)), ((ma 45), .inl (E 0, 130, .inl u_102)), ((ma 46), .inl (E 0, 24, .inl g_99)), ((ma 47), .inl (E 0, 5, .inl mf47)), ((ma 48), .inl (E 0, 5, .inl mf48)), ((ma 49), .inl (E 0, 5, .inl mf49)), ((ma 51), .inl (E 0, 15, .inl mf51)), ((ma 52), .inl (E 0, 15, .inl mf52)), ((ma 53), .inl (E 0, 15, .inl mf53)), ((ma 54), .inl (E 0, 15, .inl mf54)), ((ma 56), .inl (E 0, 200, .inl mf56)), ((ma 57), .inl (E 0, 600, .inl mf57)), ((ma 59), .inl (E 0, 3, .inl mf59_39)), ((ma 60), .inl (E 0, 3, .inl mf60_39))]) [12, 0, 13, 14, 15, 16, 17, 1, 2, 3, 4, 5, 6, 7, 8, 9, 10, 11] rfl
                    have hD := hD.sub (ws' := [(mh, .inr (9, G9 ma mcode mtoday moffs mmany msumW msumA msumR msumWW msumWA msumAA msumWR msumAR mupper mlower mrates mtaped mlaid mat mtk mtkAt mtkNumber mwaits mlisted mdealtMany)), ((ma 34), .inl (E 1, 2, .inl mf34)), ((ma 35), .inl (E 0, 2, .inl mf35)), ((ma 36), .inl (E 0, 384, .inl mf36)), ((ma 37), .inl (E 0, 384, .inl mf37)), ((ma 45), .inl (E 0, 130, .inl u_102)), ((ma 46), .inl (E 0, 24, .inl g_99)), ((ma 47), .inl (E 0, 5, .inl mf47)), ((ma 48), .inl (E 0, 5, .inl mf48)), ((ma 49), .inl (E 0, 5, .inl mf49)), ((ma 51), .inl (E 0, 15, .inl mf51)), ((ma 52), .inl (E 0, 15, .inl mf52)), ((ma 53), .inl (E 0, 15, .inl mf53)), ((ma 54), .inl (E 0, 15, .inl mf54)), ((ma 56), .inl (E 0, 200, .inl mf56)), ((ma 57), .inl (E 0, 600, .inl mf57)), ((ma 59), .inl (E 0, 3, .inl mf59_39)), ((ma 60), .inl (E 0, 3, .inl mf60_39))]) [12, 0, 13, 14, 15, 16, 17, 1, 2, 3, 4, 5, 6, 7, 8, 9, 10, 11] (by decide) rfl
                    exact ih_73 z_104 r_100 L7_212 u_102 g_99 _ _ _ (by have h0 := t_1; (try dsimp only); omega) (by have h0 := t_1; (try dsimp only); omega) hP hD hS (lv_sub hl [0, 2, 1, 5, 6, 7, 8, 9] rfl)
                  ·
                    have ic_103 : r_100.toInt ≤ L6_212.toInt := by first | exact (g_le rfl rfl).mp c_103 | (have h := mt (g_lt rfl rfl).mpr c_103; omega)
                    clear c_103
                    refine lv_goto (tgt := 333) hx hb dX9_work_322 (by decide) ?_
                    obtain ⟨z_105, ez_105⟩ : ∃ y : Int32, y = L7_212 + 1 := ⟨_, rfl⟩
                    have jz_105 : z_105.toInt = L7_212.toInt + 1 := by rw [ez_105]; exact g_add rfl t_1 (by omega) (by omega)
                    refine lv_iinc (v := z_105) (lv' := [(7, .int z_105), (10, .int r_100), (8, .long z_84), (6, .int L6_212), (5, .int L5_212), (4, .int 1), (3, .int z_5), (0, .ref mh), (1, .int p0), (2, .int p1)]) hx hb dX9_work_333 hl (k := 2) rfl (by rw [ez_105]; rfl) (by decide) rfl (fun ls hl => ?_)
                    refine lv_goto (tgt := 212) hx hb dX9_work_336 (by decide) ?_
                    have hP := hP.sub (ws' := [(mh, .inr (9, G9 ma mcode mtoday moffs mmany msumW msumA msumR msumWW msumWA msumAA msumWR msumAR mupper mlower mrates mtaped mlaid mat mtk mtkAt mtkNumber mwaits mlisted mdealtMany)), ((ma 34), .inl (E 1, 2, .inl mf34)), ((ma 35), .inl (E 0, 2, .inl mf35)), ((ma 36), .inl (E 0, 384, .inl mf36)), ((ma 37), .inl (E 0, 384, .inl mf37)), ((ma 45), .inl (E 0, 130, .inl u_102)), ((ma 46), .inl (E 0, 24, .inl g_99)), ((ma 47), .inl (E 0, 5, .inl mf47)), ((ma 48), .inl (E 0, 5, .inl mf48)), ((ma 49), .inl (E 0, 5, .inl mf49)), ((ma 51), .inl (E 0, 15, .inl mf51)), ((ma 52), .inl (E 0, 15, .inl mf52)), ((ma 53), .inl (E 0, 15, .inl mf53)), ((ma 54), .inl (E 0, 15, .inl mf54)), ((ma 56), .inl (E 0, 200, .inl mf56)), ((ma 57), .inl (E 0, 600, .inl mf57)), ((ma 59), .inl (E 0, 3, .inl mf59_39)), ((ma 60), .inl (E 0, 3, .inl mf60_39))]) [12, 0, 13, 14, 15, 16, 17, 1, 2, 3, 4, 5, 6, 7, 8, 9, 10, 11] rfl
                    have hD := hD.sub (ws' := [(mh, .inr (9, G9 ma mcode mtoday moffs mmany msumW msumA msumR msumWW msumWA msumAA msumWR msumAR mupper mlower mrates mtaped mlaid mat mtk mtkAt mtkNumber mwaits mlisted mdealtMany)), ((ma 34), .inl (E 1, 2, .inl mf34)), ((ma 35), .inl (E 0, 2, .inl mf35)), ((ma 36), .inl (E 0, 384, .inl mf36)), ((ma 37), .inl (E 0, 384, .inl mf37)), ((ma 45), .inl (E 0, 130, .inl u_102)), ((ma 46), .inl (E 0, 24, .inl g_99)), ((ma 47), .inl (E 0, 5, .inl mf47)), ((ma 48), .inl (E 0, 5, .inl mf48)), ((ma 49), .inl (E 0, 5, .inl mf49)), ((ma 51), .inl (E 0, 15, .inl mf51)), ((ma 52), .inl (E 0, 15, .inl mf52)), ((ma 53), .inl (E 0, 15, .inl mf53)), ((ma 54), .inl (E 0, 15, .inl mf54)), ((ma 56), .inl (E 0, 200, .inl mf56)), ((ma 57), .inl (E 0, 600, .inl mf57)), ((ma 59), .inl (E 0, 3, .inl mf59_39)), ((ma 60), .inl (E 0, 3, .inl mf60_39))]) [12, 0, 13, 14, 15, 16, 17, 1, 2, 3, 4, 5, 6, 7, 8, 9, 10, 11] (by decide) rfl
                    exact ih_73 z_105 L6_212 L5_212 u_102 g_99 _ _ _ (by have h0 := t_1; (try dsimp only); omega) (by have h0 := t_1; (try dsimp only); omega) hP hD hS (lv_sub hl [0, 3, 4, 5, 6, 7, 8, 9] rfl)
            exact loop_72 4 0 0 ((-1)) mf45 mf46 _ _ _ (by have h0 := t_m1; have h1 := t_0; have h2 := t_1; (try dsimp only); omega) (by have h0 := t_m1; have h1 := t_0; have h2 := t_1; (try dsimp only); omega) hP hD hS (lv_sub hl [0, 1, 2, 3, 4, 5, 6, 7] rfl)
          ·
            have ic_71 : z_70.toInt = 0 := (g_eq rfl t_0).mp c_71
            clear c_71
            refine lv_iconst (v := (-1)) hx hb dX9_work_201 (by decide) ?_
            have hP9 := hP.sub (ws' := [(mh, .inr (9, G9 ma mcode mtoday moffs mmany msumW msumA msumR msumWW msumWA msumAA msumWR msumAR mupper mlower mrates mtaped mlaid mat mtk mtkAt mtkNumber mwaits mlisted mdealtMany)), ((ma 34), .inl (E 1, 2, .inl mf34)), ((ma 35), .inl (E 0, 2, .inl mf35)), ((ma 36), .inl (E 0, 384, .inl mf36)), ((ma 37), .inl (E 0, 384, .inl mf37)), ((ma 45), .inl (E 0, 130, .inl mf45)), ((ma 46), .inl (E 0, 24, .inl mf46)), ((ma 47), .inl (E 0, 5, .inl mf47)), ((ma 48), .inl (E 0, 5, .inl mf48)), ((ma 49), .inl (E 0, 5, .inl mf49)), ((ma 51), .inl (E 0, 15, .inl mf51)), ((ma 52), .inl (E 0, 15, .inl mf52)), ((ma 53), .inl (E 0, 15, .inl mf53)), ((ma 54), .inl (E 0, 15, .inl mf54)), ((ma 56), .inl (E 0, 200, .inl mf56)), ((ma 57), .inl (E 0, 600, .inl mf57)), ((ma 59), .inl (E 0, 3, .inl mf59_39)), ((ma 60), .inl (E 0, 3, .inl mf60_39))]) [0, 1, 2, 3, 4, 5, 6, 7, 8, 9, 10, 11, 12, 13, 14, 15, 16, 17] rfl
            have hD9 := hD.sub (ws' := [(mh, .inr (9, G9 ma mcode mtoday moffs mmany msumW msumA msumR msumWW msumWA msumAA msumWR msumAR mupper mlower mrates mtaped mlaid mat mtk mtkAt mtkNumber mwaits mlisted mdealtMany)), ((ma 34), .inl (E 1, 2, .inl mf34)), ((ma 35), .inl (E 0, 2, .inl mf35)), ((ma 36), .inl (E 0, 384, .inl mf36)), ((ma 37), .inl (E 0, 384, .inl mf37)), ((ma 45), .inl (E 0, 130, .inl mf45)), ((ma 46), .inl (E 0, 24, .inl mf46)), ((ma 47), .inl (E 0, 5, .inl mf47)), ((ma 48), .inl (E 0, 5, .inl mf48)), ((ma 49), .inl (E 0, 5, .inl mf49)), ((ma 51), .inl (E 0, 15, .inl mf51)), ((ma 52), .inl (E 0, 15, .inl mf52)), ((ma 53), .inl (E 0, 15, .inl mf53)), ((ma 54), .inl (E 0, 15, .inl mf54)), ((ma 56), .inl (E 0, 200, .inl mf56)), ((ma 57), .inl (E 0, 600, .inl mf57)), ((ma 59), .inl (E 0, 3, .inl mf59_39)), ((ma 60), .inl (E 0, 3, .inl mf60_39))]) [0, 1, 2, 3, 4, 5, 6, 7, 8, 9, 10, 11, 12, 13, 14, 15, 16, 17] (by decide) rfl
            exact W.iret (v := (-1)) hx hb hr (fun t ht hW => ⟨⟨(-1), (mf45, mf46, mf59_39, mf60_39), rfl, trivial, by rw [ht]; exact hP9, hD9⟩, hS.F ht⟩) hS.2.2 dX9_work_202
        ·
          have ic_69 : L5_39.toInt < 3 := by first | exact (g_lt rfl t_3).mp c_69 | (have h := mt (g_le t_3 rfl).mpr c_69; omega)
          clear c_69
          refine lv_iconst (v := 3) hx hb dX9_work_45 (by decide) ?_
          refine lv_iload_n hx hb dX9_work_46 rfl (lv_at hl 4 rfl) ?_
          refine lv_imul hx hb dX9_work_47 ?_
          refine lv_topi (fun z_106 ez_106 => ?_)
          have jz_106 : z_106.toInt = 3 * p0.toInt := by rw [ez_106]; exact g_mul t_3 rfl (by omega) (by omega)
          refine lv_iload hx hb dX9_work_48 (lv_at hl 0 rfl) ?_
          refine lv_iadd hx hb dX9_work_50 ?_
          refine lv_topi (fun z_107 ez_107 => ?_)
          have jz_107 : z_107.toInt = z_106.toInt + L5_39.toInt := by rw [ez_107]; exact g_add rfl rfl (by omega) (by omega)
          refine lv_istore (lv' := [(6, .int z_107), (5, .int L5_39), (4, .int 1), (3, .int z_5), (0, .ref mh), (1, .int p0), (2, .int p1)]) hx hb dX9_work_51 hl (by decide) rfl (fun ls hl => ?_)
          refine lv_iload hx hb dX9_work_53 (lv_at hl 2 rfl) ?_
          refine lv_if_eq (tgt := 91) hx hb dX9_work_55 (by decide) (fun c_108 => absurd c_108 (by decide)) (fun c_108 => ?_)
          refine lv_iload_n hx hb dX9_work_58 rfl (lv_at hl 3 rfl) ?_
          obtain ⟨z_109, ez_109⟩ : ∃ y : Int64, (z_5 : Int32).toInt64 = y := ⟨_, rfl⟩
          refine lv_i2l hx hb dX9_work_59 ez_109 ?_
          refine lv_aload_n hx hb dX9_work_60 rfl (lv_at hl 4 rfl) ?_
          refine va_get (D := D) (ci := 9) (v := .ref (ma 54)) (C := RX9) (T := TX9) (N := 68) hx hb htb iX9 hown hK.1 hP 0 rfl rfl 54 (by decide) (htb _ k_1012) (fun _ h9 => h9) rfl dX9_work_61 ?_
          refine lv_iload hx hb dX9_work_64 (lv_at hl 0 rfl) ?_
          refine va_iald hx hb hK.1 hP 13 0 rfl rfl (g_in rfl (by omega) (by omega)) dX9_work_66 ?_
          refine lv_topi (fun z_110 ez_110 => ?_)
          have kz_110 := congrArg Int32.toInt ez_110
          refine lv_aload_n hx hb dX9_work_67 rfl (lv_at hl 4 rfl) ?_
          refine va_get (D := D) (ci := 9) (v := .ref (ma 51)) (C := RX9) (T := TX9) (N := 68) hx hb htb iX9 hown hK.1 hP 0 rfl rfl 51 (by decide) (htb _ k_1009) (fun _ h9 => h9) rfl dX9_work_68 ?_
          refine lv_iload hx hb dX9_work_71 (lv_at hl 0 rfl) ?_
          refine va_iald hx hb hK.1 hP 10 0 rfl rfl (g_in rfl (by omega) (by omega)) dX9_work_73 ?_
          refine lv_topi (fun z_111 ez_111 => ?_)
          have kz_111 := congrArg Int32.toInt ez_111
          refine lv_isub hx hb dX9_work_74 ?_
          refine lv_topi (fun z_112 ez_112 => ?_)
          obtain ⟨z_113, ez_113⟩ : ∃ y : Int64, (z_112 : Int32).toInt64 = y := ⟨_, rfl⟩
          refine lv_i2l hx hb dX9_work_75 ez_113 ?_
          refine lv_lmul hx hb dX9_work_76 ?_
          refine lv_topl (fun z_114 ez_114 => ?_)
          refine lv_aload_n hx hb dX9_work_77 rfl (lv_at hl 4 rfl) ?_
          refine va_get (D := D) (ci := 9) (v := .ref (ma 49)) (C := RX9) (T := TX9) (N := 68) hx hb htb iX9 hown hK.1 hP 0 rfl rfl 49 (by decide) (htb _ k_1007) (fun _ h9 => h9) rfl dX9_work_78 ?_
          refine lv_iload_n hx hb dX9_work_81 rfl (lv_at hl 5 rfl) ?_
          refine va_iald hx hb hK.1 hP 9 0 rfl rfl (g_in rfl (by omega) (by omega)) dX9_work_82 ?_
          refine lv_topi (fun z_115 ez_115 => ?_)
          have kz_115 := congrArg Int32.toInt ez_115
          have nb_116 : z_115.toInt ≠ 0 := by rw [ez_115]; exact j49 _ (g_ix rfl (by omega) (by omega)) (by rw [← ez_6]; omega)
          obtain ⟨z_117, ez_117⟩ : ∃ y : Int64, (z_115 : Int32).toInt64 = y := ⟨_, rfl⟩
          refine lv_i2l hx hb dX9_work_83 ez_117 ?_
          refine callLS (rest := []) (As := [.long z_114, .long z_117]) hx hb hml hown htb hK (g_X9_floor l D E z_114 z_117 (i2l_nz ez_117 (by omega))) ok_X9_floor k_1311 k_1312 k_9 k_1313 ⟨(Nat.le_of_ble_eq_true rfl), (Nat.le_of_ble_eq_true rfl)⟩ ⟨(Nat.le_of_ble_eq_true rfl), (Nat.le_of_ble_eq_true rfl)⟩ hl.1 (Nat.le_of_ble_eq_true rfl) rfl rfl dX9_work_84 (hP.sub (ws' := ([] : va_W)) [] rfl) (fun r_118 hw_119 => ?_)
          obtain ⟨z_121, ez_121⟩ : ∃ y : Int32, (r_118 : Int64).toInt32 = y := ⟨_, rfl⟩
          refine lv_l2i hx hb dX9_work_87 ez_121 ?_
          refine lv_goto (tgt := 100) hx hb dX9_work_88 (by decide) ?_
          refine lv_istore (lv' := [(7, .int z_121), (6, .int z_107), (5, .int L5_39), (4, .int 1), (3, .int z_5), (0, .ref mh), (1, .int p0), (2, .int p1)]) hx hb dX9_work_100 hl (by decide) rfl (fun ls hl => ?_)
          refine lv_aload_n hx hb dX9_work_102 rfl (lv_at hl 5 rfl) ?_
          refine va_get (D := D) (ci := 9) (v := .ref (ma 59)) (C := RX9) (T := TX9) (N := 68) hx hb htb iX9 hown hK.1 hP 0 rfl rfl 59 (by decide) (htb _ k_1017) (fun _ h9 => h9) rfl dX9_work_103 ?_
          refine lv_iload hx hb dX9_work_106 (lv_at hl 2 rfl) ?_
          refine lv_aload_n hx hb dX9_work_108 rfl (lv_at hl 5 rfl) ?_
          refine va_get (D := D) (ci := 9) (v := .ref (ma 57)) (C := RX9) (T := TX9) (N := 68) hx hb htb iX9 hown hK.1 hP 0 rfl rfl 57 (by decide) (htb _ k_1015) (fun _ h9 => h9) rfl dX9_work_109 ?_
          refine lv_iconst (v := 3) hx hb dX9_work_112 (by decide) ?_
          refine lv_bipush (v := 40) hx hb dX9_work_113 (by decide) ?_
          refine lv_iload_n hx hb dX9_work_115 rfl (lv_at hl 6 rfl) ?_
          refine lv_imul hx hb dX9_work_116 ?_
          refine lv_topi (fun z_122 ez_122 => ?_)
          have jz_122 : z_122.toInt = 40 * p0.toInt := by rw [ez_122]; exact g_mul t_40 rfl (by omega) (by omega)
          refine lv_iload_n hx hb dX9_work_117 rfl (lv_at hl 7 rfl) ?_
          refine lv_iadd hx hb dX9_work_118 ?_
          refine lv_topi (fun z_123 ez_123 => ?_)
          have jz_123 : z_123.toInt = z_122.toInt + p1.toInt := by rw [ez_123]; exact g_add rfl rfl (by omega) (by omega)
          refine lv_imul hx hb dX9_work_119 ?_
          refine lv_topi (fun z_124 ez_124 => ?_)
          have jz_124 : z_124.toInt = 3 * z_123.toInt := by rw [ez_124]; exact g_mul t_3 rfl (by omega) (by omega)
          refine lv_iload hx hb dX9_work_120 (lv_at hl 2 rfl) ?_
          refine lv_iadd hx hb dX9_work_122 ?_
          refine lv_topi (fun z_125 ez_125 => ?_)
          have jz_125 : z_125.toInt = z_124.toInt + L5_39.toInt := by rw [ez_125]; exact g_add rfl rfl (by omega) (by omega)
          refine va_iald hx hb hK.1 hP 15 0 rfl rfl (g_in rfl (by omega) (by omega)) dX9_work_123 ?_
          refine lv_topi (fun z_126 ez_126 => ?_)
          have kz_126 := congrArg Int32.toInt ez_126
          refine lv_aload_n hx hb dX9_work_124 rfl (lv_at hl 5 rfl) ?_
          refine va_get (D := D) (ci := 9) (v := .ref (ma 51)) (C := RX9) (T := TX9) (N := 68) hx hb htb iX9 hown hK.1 hP 0 rfl rfl 51 (by decide) (htb _ k_1009) (fun _ h9 => h9) rfl dX9_work_125 ?_
          refine lv_iload hx hb dX9_work_128 (lv_at hl 1 rfl) ?_
          refine va_iald hx hb hK.1 hP 10 0 rfl rfl (g_in rfl (by omega) (by omega)) dX9_work_130 ?_
          refine lv_topi (fun z_127 ez_127 => ?_)
          have kz_127 := congrArg Int32.toInt ez_127
          refine lv_isub hx hb dX9_work_131 ?_
          refine lv_topi (fun z_128 ez_128 => ?_)
          refine lv_iload hx hb dX9_work_132 (lv_at hl 0 rfl) ?_
          refine lv_isub hx hb dX9_work_134 ?_
          refine lv_topi (fun z_129 ez_129 => ?_)
          refine va_iast hx hb hK.1 hP hD hS 16 0 rfl rfl (g_in rfl (by omega) (by omega)) dX9_work_135 (fun H locs hP hD hS => ?_)
          have hP : va_P D vwCl [(mh, .inr (9, G9 ma mcode mtoday moffs mmany msumW msumA msumR msumWW msumWA msumAA msumWR msumAR mupper mlower mrates mtaped mlaid mat mtk mtkAt mtkNumber mwaits mlisted mdealtMany)), ((ma 34), .inl (E 1, 2, .inl mf34)), ((ma 35), .inl (E 0, 2, .inl mf35)), ((ma 36), .inl (E 0, 384, .inl mf36)), ((ma 37), .inl (E 0, 384, .inl mf37)), ((ma 45), .inl (E 0, 130, .inl mf45)), ((ma 46), .inl (E 0, 24, .inl mf46)), ((ma 47), .inl (E 0, 5, .inl mf47)), ((ma 48), .inl (E 0, 5, .inl mf48)), ((ma 49), .inl (E 0, 5, .inl mf49)), ((ma 51), .inl (E 0, 15, .inl mf51)), ((ma 52), .inl (E 0, 15, .inl mf52)), ((ma 53), .inl (E 0, 15, .inl mf53)), ((ma 54), .inl (E 0, 15, .inl mf54)), ((ma 56), .inl (E 0, 200, .inl mf56)), ((ma 57), .inl (E 0, 600, .inl mf57)), ((ma 59), .inl (E 0, 3, .inl (upd mf59_39 (L5_39 : Int32).toNatClampNeg z_129))), ((ma 60), .inl (E 0, 3, .inl mf60_39))] H := hP
          have hD := toW hP hD rfl
          refine lv_iload hx hb dX9_work_136 (lv_at hl 3 rfl) ?_
          refine lv_if_eq (tgt := 164) hx hb dX9_work_138 (by decide) (fun c_130 => absurd c_130 (by decide)) (fun c_130 => ?_)
          refine lv_aload_n hx hb dX9_work_141 rfl (lv_at hl 5 rfl) ?_
          refine va_get (D := D) (ci := 9) (v := .ref (ma 49)) (C := RX9) (T := TX9) (N := 68) hx hb htb iX9 hown hK.1 hP 0 rfl rfl 49 (by decide) (htb _ k_1007) (fun _ h9 => h9) rfl dX9_work_142 ?_
          refine lv_iload_n hx hb dX9_work_145 rfl (lv_at hl 6 rfl) ?_
          refine va_iald hx hb hK.1 hP 9 0 rfl rfl (g_in rfl (by omega) (by omega)) dX9_work_146 ?_
          refine lv_topi (fun z_131 ez_131 => ?_)
          have kz_131 := congrArg Int32.toInt ez_131
          have nb_132 : z_131.toInt ≠ 0 := by rw [ez_131]; exact j49 _ (g_ix rfl (by omega) (by omega)) (by rw [← ez_6]; omega)
          refine lv_iload_n hx hb dX9_work_147 rfl (lv_at hl 4 rfl) ?_
          refine lv_isub hx hb dX9_work_148 ?_
          refine lv_topi (fun z_133 ez_133 => ?_)
          refine lv_iload_n hx hb dX9_work_149 rfl (lv_at hl 4 rfl) ?_
          refine lv_icmp_ge (tgt := 164) hx hb dX9_work_150 (by decide) (fun c_134 => ?_) (fun c_134 => ?_)
          ·
            have ic_134 : z_5.toInt ≤ z_133.toInt := by first | exact (g_le rfl rfl).mp c_134 | (have h := mt (g_lt rfl rfl).mpr c_134; omega)
            clear c_134
            refine lv_iload_n hx hb dX9_work_164 rfl (lv_at hl 4 rfl) ?_
            refine lv_istore (lv' := [(8, .int z_5), (7, .int z_121), (6, .int z_107), (5, .int L5_39), (4, .int 1), (3, .int z_5), (0, .ref mh), (1, .int p0), (2, .int p1)]) hx hb dX9_work_165 hl (by decide) rfl (fun ls hl => ?_)
            refine lv_aload_n hx hb dX9_work_167 rfl (lv_at hl 6 rfl) ?_
            refine va_get (D := D) (ci := 9) (v := .ref (ma 60)) (C := RX9) (T := TX9) (N := 68) hx hb htb iX9 hown hK.1 hP 0 rfl rfl 60 (by decide) (htb _ k_1018) (fun _ h9 => h9) rfl dX9_work_168 ?_
            refine lv_iload hx hb dX9_work_171 (lv_at hl 3 rfl) ?_
            refine lv_aload_n hx hb dX9_work_173 rfl (lv_at hl 6 rfl) ?_
            refine va_get (D := D) (ci := 9) (v := .ref (ma 53)) (C := RX9) (T := TX9) (N := 68) hx hb htb iX9 hown hK.1 hP 0 rfl rfl 53 (by decide) (htb _ k_1011) (fun _ h9 => h9) rfl dX9_work_174 ?_
            refine lv_iload hx hb dX9_work_177 (lv_at hl 2 rfl) ?_
            refine va_iald hx hb hK.1 hP 12 0 rfl rfl (g_in rfl (by omega) (by omega)) dX9_work_179 ?_
            refine lv_topi (fun z_135 ez_135 => ?_)
            have kz_135 := congrArg Int32.toInt ez_135
            refine lv_iload hx hb dX9_work_180 (lv_at hl 0 rfl) ?_
            refine lv_imul hx hb dX9_work_182 ?_
            refine lv_topi (fun z_136 ez_136 => ?_)
            refine lv_iconst (v := 5) hx hb dX9_work_183 (by decide) ?_
            refine lv_iadd hx hb dX9_work_184 ?_
            refine lv_topi (fun z_137 ez_137 => ?_)
            refine va_iast hx hb hK.1 hP hD hS 17 0 rfl rfl (g_in rfl (by omega) (by omega)) dX9_work_185 (fun H locs hP hD hS => ?_)
            have hP : va_P D vwCl [(mh, .inr (9, G9 ma mcode mtoday moffs mmany msumW msumA msumR msumWW msumWA msumAA msumWR msumAR mupper mlower mrates mtaped mlaid mat mtk mtkAt mtkNumber mwaits mlisted mdealtMany)), ((ma 34), .inl (E 1, 2, .inl mf34)), ((ma 35), .inl (E 0, 2, .inl mf35)), ((ma 36), .inl (E 0, 384, .inl mf36)), ((ma 37), .inl (E 0, 384, .inl mf37)), ((ma 45), .inl (E 0, 130, .inl mf45)), ((ma 46), .inl (E 0, 24, .inl mf46)), ((ma 47), .inl (E 0, 5, .inl mf47)), ((ma 48), .inl (E 0, 5, .inl mf48)), ((ma 49), .inl (E 0, 5, .inl mf49)), ((ma 51), .inl (E 0, 15, .inl mf51)), ((ma 52), .inl (E 0, 15, .inl mf52)), ((ma 53), .inl (E 0, 15, .inl mf53)), ((ma 54), .inl (E 0, 15, .inl mf54)), ((ma 56), .inl (E 0, 200, .inl mf56)), ((ma 57), .inl (E 0, 600, .inl mf57)), ((ma 59), .inl (E 0, 3, .inl (upd mf59_39 (L5_39 : Int32).toNatClampNeg z_129))), ((ma 60), .inl (E 0, 3, .inl (upd mf60_39 (L5_39 : Int32).toNatClampNeg z_137)))] H := hP
            have hD := toW hP hD rfl
            obtain ⟨z_138, ez_138⟩ : ∃ y : Int32, y = L5_39 + 1 := ⟨_, rfl⟩
            have jz_138 : z_138.toInt = L5_39.toInt + 1 := by rw [ez_138]; exact g_add rfl t_1 (by omega) (by omega)
            refine lv_iinc (v := z_138) (lv' := [(5, .int z_138), (8, .int z_5), (7, .int z_121), (6, .int z_107), (4, .int 1), (3, .int z_5), (0, .ref mh), (1, .int p0), (2, .int p1)]) hx hb dX9_work_186 hl (k := 3) rfl (by rw [ez_138]; rfl) (by decide) rfl (fun ls hl => ?_)
            refine lv_goto (tgt := 39) hx hb dX9_work_189 (by decide) ?_
            exact ih_67 z_138 (upd mf59_39 (L5_39 : Int32).toNatClampNeg z_129) (upd mf60_39 (L5_39 : Int32).toNatClampNeg z_137) _ _ _ (by have h0 := t_1; (try dsimp only); omega) (by have h0 := t_1; (try dsimp only); omega) hP hD hS (lv_sub hl [0, 4, 5, 6, 7, 8] rfl)
          ·
            have ic_134 : z_133.toInt < z_5.toInt := by first | exact (g_lt rfl rfl).mp c_134 | (have h := mt (g_le rfl rfl).mpr c_134; omega)
            clear c_134
            refine lv_aload_n hx hb dX9_work_153 rfl (lv_at hl 5 rfl) ?_
            refine va_get (D := D) (ci := 9) (v := .ref (ma 49)) (C := RX9) (T := TX9) (N := 68) hx hb htb iX9 hown hK.1 hP 0 rfl rfl 49 (by decide) (htb _ k_1007) (fun _ h9 => h9) rfl dX9_work_154 ?_
            refine lv_iload_n hx hb dX9_work_157 rfl (lv_at hl 6 rfl) ?_
            refine va_iald hx hb hK.1 hP 9 0 rfl rfl (g_in rfl (by omega) (by omega)) dX9_work_158 ?_
            refine lv_topi (fun z_139 ez_139 => ?_)
            have kz_139 := congrArg Int32.toInt ez_139
            have nb_140 : z_139.toInt ≠ 0 := by rw [ez_139]; exact j49 _ (g_ix rfl (by omega) (by omega)) (by rw [← ez_6]; omega)
            refine lv_iload_n hx hb dX9_work_159 rfl (lv_at hl 4 rfl) ?_
            refine lv_isub hx hb dX9_work_160 ?_
            refine lv_topi (fun z_141 ez_141 => ?_)
            refine lv_goto (tgt := 165) hx hb dX9_work_161 (by decide) ?_
            refine lv_istore (lv' := [(8, .int z_141), (7, .int z_121), (6, .int z_107), (5, .int L5_39), (4, .int 1), (3, .int z_5), (0, .ref mh), (1, .int p0), (2, .int p1)]) hx hb dX9_work_165 hl (by decide) rfl (fun ls hl => ?_)
            refine lv_aload_n hx hb dX9_work_167 rfl (lv_at hl 6 rfl) ?_
            refine va_get (D := D) (ci := 9) (v := .ref (ma 60)) (C := RX9) (T := TX9) (N := 68) hx hb htb iX9 hown hK.1 hP 0 rfl rfl 60 (by decide) (htb _ k_1018) (fun _ h9 => h9) rfl dX9_work_168 ?_
            refine lv_iload hx hb dX9_work_171 (lv_at hl 3 rfl) ?_
            refine lv_aload_n hx hb dX9_work_173 rfl (lv_at hl 6 rfl) ?_
            refine va_get (D := D) (ci := 9) (v := .ref (ma 53)) (C := RX9) (T := TX9) (N := 68) hx hb htb iX9 hown hK.1 hP 0 rfl rfl 53 (by decide) (htb _ k_1011) (fun _ h9 => h9) rfl dX9_work_174 ?_
            refine lv_iload hx hb dX9_work_177 (lv_at hl 2 rfl) ?_
            refine va_iald hx hb hK.1 hP 12 0 rfl rfl (g_in rfl (by omega) (by omega)) dX9_work_179 ?_
            refine lv_topi (fun z_142 ez_142 => ?_)
            have kz_142 := congrArg Int32.toInt ez_142
            refine lv_iload hx hb dX9_work_180 (lv_at hl 0 rfl) ?_
            refine lv_imul hx hb dX9_work_182 ?_
            refine lv_topi (fun z_143 ez_143 => ?_)
            refine lv_iconst (v := 5) hx hb dX9_work_183 (by decide) ?_
            refine lv_iadd hx hb dX9_work_184 ?_
            refine lv_topi (fun z_144 ez_144 => ?_)
            refine va_iast hx hb hK.1 hP hD hS 17 0 rfl rfl (g_in rfl (by omega) (by omega)) dX9_work_185 (fun H locs hP hD hS => ?_)
            have hP : va_P D vwCl [(mh, .inr (9, G9 ma mcode mtoday moffs mmany msumW msumA msumR msumWW msumWA msumAA msumWR msumAR mupper mlower mrates mtaped mlaid mat mtk mtkAt mtkNumber mwaits mlisted mdealtMany)), ((ma 34), .inl (E 1, 2, .inl mf34)), ((ma 35), .inl (E 0, 2, .inl mf35)), ((ma 36), .inl (E 0, 384, .inl mf36)), ((ma 37), .inl (E 0, 384, .inl mf37)), ((ma 45), .inl (E 0, 130, .inl mf45)), ((ma 46), .inl (E 0, 24, .inl mf46)), ((ma 47), .inl (E 0, 5, .inl mf47)), ((ma 48), .inl (E 0, 5, .inl mf48)), ((ma 49), .inl (E 0, 5, .inl mf49)), ((ma 51), .inl (E 0, 15, .inl mf51)), ((ma 52), .inl (E 0, 15, .inl mf52)), ((ma 53), .inl (E 0, 15, .inl mf53)), ((ma 54), .inl (E 0, 15, .inl mf54)), ((ma 56), .inl (E 0, 200, .inl mf56)), ((ma 57), .inl (E 0, 600, .inl mf57)), ((ma 59), .inl (E 0, 3, .inl (upd mf59_39 (L5_39 : Int32).toNatClampNeg z_129))), ((ma 60), .inl (E 0, 3, .inl (upd mf60_39 (L5_39 : Int32).toNatClampNeg z_144)))] H := hP
            have hD := toW hP hD rfl
            obtain ⟨z_145, ez_145⟩ : ∃ y : Int32, y = L5_39 + 1 := ⟨_, rfl⟩
            have jz_145 : z_145.toInt = L5_39.toInt + 1 := by rw [ez_145]; exact g_add rfl t_1 (by omega) (by omega)
            refine lv_iinc (v := z_145) (lv' := [(5, .int z_145), (8, .int z_141), (7, .int z_121), (6, .int z_107), (4, .int 1), (3, .int z_5), (0, .ref mh), (1, .int p0), (2, .int p1)]) hx hb dX9_work_186 hl (k := 3) rfl (by rw [ez_145]; rfl) (by decide) rfl (fun ls hl => ?_)
            refine lv_goto (tgt := 39) hx hb dX9_work_189 (by decide) ?_
            exact ih_67 z_145 (upd mf59_39 (L5_39 : Int32).toNatClampNeg z_129) (upd mf60_39 (L5_39 : Int32).toNatClampNeg z_144) _ _ _ (by have h0 := t_1; (try dsimp only); omega) (by have h0 := t_1; (try dsimp only); omega) hP hD hS (lv_sub hl [0, 4, 5, 6, 7, 8] rfl)
    exact loop_66 4 0 mf59 mf60 _ _ _ (by have h0 := t_0; have h1 := t_1; (try dsimp only); omega) (by have h0 := t_0; have h1 := t_1; (try dsimp only); omega) hP hD hS (lv_sub hl [0, 1, 2, 3, 4, 5] rfl)
set_option maxHeartbeats 4000000 in
set_option maxRecDepth 100000 in
theorem g_X9_told (l : Launch) (D : va_G) (E : Nat → Nat) (mh : Nat) (ma : Nat → Nat) (mcode : Int32) (mtoday : Int32) (moffs : Int32) (mmany : Int64) (msumW : Int64) (msumA : Int64) (msumR : Int64) (msumWW : Int64) (msumWA : Int64) (msumAA : Int64) (msumWR : Int64) (msumAR : Int64) (mupper : Int64) (mlower : Int64) (mrates : Int32) (mtaped : Int32) (mlaid : Int32) (mat : Int32) (mtk : Int32) (mtkAt : Int32) (mtkNumber : Int32) (mwaits : Int32) (mlisted : Int32) (mdealtMany : Int32) (mf34 : Nat → Int32) (mf35 : Nat → Int32) (mf36 : Nat → Int32) (mf37 : Nat → Int32) (mf45 : Nat → Int32) (mf46 : Nat → Int32) (mf47 : Nat → Int32) (mf48 : Nat → Int32) (mf49 : Nat → Int32) (mf51 : Nat → Int32) (mf52 : Nat → Int32) (mf53 : Nat → Int32) (mf54 : Nat → Int32) (mf55 : Nat → Int32) (mf56 : Nat → Int32) (mf57 : Nat → Int32) (mf59 : Nat → Int32) (mf60 : Nat → Int32) (p0 : Int32) (p1 : Int32) (p2 : Int32) (sz : Nat) (hi_m : (0 ≤ mtoday.toInt ∧ mtoday.toInt ≤ 399) ∧ (0 ≤ moffs.toInt ∧ moffs.toInt ≤ 60) ∧ (0 ≤ mrates.toInt ∧ mrates.toInt ≤ 60) ∧ (0 ≤ mtaped.toInt ∧ mtaped.toInt ≤ 120) ∧ (0 ≤ mlisted.toInt ∧ mlisted.toInt ≤ 9) ∧ (0 ≤ mdealtMany.toInt ∧ mdealtMany.toInt ≤ 9)) (hr_m35 : ∀ k : Nat, k < 2 → 0 ≤ (mf35 k).toInt ∧ (mf35 k).toInt ≤ 127) (hr_m55 : ∀ k : Nat, k < 5 → 0 ≤ (mf55 k).toInt ∧ (mf55 k).toInt ≤ 40) (j49 : J49 mf47 mf49) (hjw : JW mf36 mf35) : Met l yX9_told (wl yX9_told cX9_told 8 (some .int)) (RM 3 0 0) (mu_P D E [.ref mh, .int p0, .int p1, .int p2] [(mh, .inr (9, G9 ma mcode mtoday moffs mmany msumW msumA msumR msumWW msumWA msumAA msumWR msumAR mupper mlower mrates mtaped mlaid mat mtk mtkAt mtkNumber mwaits mlisted mdealtMany)), ((ma 34), .inl (E 1, 2, .inl mf34)), ((ma 35), .inl (E 0, 2, .inl mf35)), ((ma 36), .inl (E 0, 384, .inl mf36)), ((ma 37), .inl (E 0, 384, .inl mf37)), ((ma 45), .inl (E 0, 130, .inl mf45)), ((ma 46), .inl (E 0, 24, .inl mf46)), ((ma 47), .inl (E 0, 5, .inl mf47)), ((ma 48), .inl (E 0, 5, .inl mf48)), ((ma 49), .inl (E 0, 5, .inl mf49)), ((ma 51), .inl (E 0, 15, .inl mf51)), ((ma 52), .inl (E 0, 15, .inl mf52)), ((ma 53), .inl (E 0, 15, .inl mf53)), ((ma 54), .inl (E 0, 15, .inl mf54)), ((ma 55), .inl (E 0, 5, .inl mf55)), ((ma 56), .inl (E 0, 200, .inl mf56)), ((ma 57), .inl (E 0, 600, .inl mf57)), ((ma 59), .inl (E 0, 3, .inl mf59)), ((ma 60), .inl (E 0, 3, .inl mf60))] sz) (va_Qi (fun (r : Int32) (u : (Nat → Int32) × (Nat → Int32) × (Nat → Int32) × (Nat → Int32)) => True) (mu_B D (va_A [(mh, .inr (9, G9 ma mcode mtoday moffs mmany msumW msumA msumR msumWW msumWA msumAA msumWR msumAR mupper mlower mrates mtaped mlaid mat mtk mtkAt mtkNumber mwaits mlisted mdealtMany)), ((ma 34), .inl (E 1, 2, .inl mf34)), ((ma 35), .inl (E 0, 2, .inl mf35)), ((ma 36), .inl (E 0, 384, .inl mf36)), ((ma 37), .inl (E 0, 384, .inl mf37)), ((ma 45), .inl (E 0, 130, .inl mf45)), ((ma 46), .inl (E 0, 24, .inl mf46)), ((ma 47), .inl (E 0, 5, .inl mf47)), ((ma 48), .inl (E 0, 5, .inl mf48)), ((ma 49), .inl (E 0, 5, .inl mf49)), ((ma 51), .inl (E 0, 15, .inl mf51)), ((ma 52), .inl (E 0, 15, .inl mf52)), ((ma 53), .inl (E 0, 15, .inl mf53)), ((ma 54), .inl (E 0, 15, .inl mf54)), ((ma 55), .inl (E 0, 5, .inl mf55)), ((ma 56), .inl (E 0, 200, .inl mf56)), ((ma 57), .inl (E 0, 600, .inl mf57)), ((ma 59), .inl (E 0, 3, .inl mf59)), ((ma 60), .inl (E 0, 3, .inl mf60))] sz) (fun (u : (Nat → Int32) × (Nat → Int32) × (Nat → Int32) × (Nat → Int32)) => [(mh, .inr (9, G9 ma mcode mtoday moffs mmany msumW msumA msumR msumWW msumWA msumAA msumWR msumAR mupper mlower mrates mtaped mlaid mat mtk mtkAt mtkNumber mwaits mlisted mdealtMany)), ((ma 34), .inl (E 1, 2, .inl mf34)), ((ma 35), .inl (E 0, 2, .inl mf35)), ((ma 36), .inl (E 0, 384, .inl mf36)), ((ma 37), .inl (E 0, 384, .inl mf37)), ((ma 45), .inl (E 0, 130, .inl u.1)), ((ma 46), .inl (E 0, 24, .inl u.2.1)), ((ma 47), .inl (E 0, 5, .inl mf47)), ((ma 48), .inl (E 0, 5, .inl mf48)), ((ma 49), .inl (E 0, 5, .inl mf49)), ((ma 51), .inl (E 0, 15, .inl mf51)), ((ma 52), .inl (E 0, 15, .inl mf52)), ((ma 53), .inl (E 0, 15, .inl mf53)), ((ma 54), .inl (E 0, 15, .inl mf54)), ((ma 55), .inl (E 0, 5, .inl mf55)), ((ma 56), .inl (E 0, 200, .inl mf56)), ((ma 57), .inl (E 0, 600, .inl mf57)), ((ma 59), .inl (E 0, 3, .inl u.2.2.1)), ((ma 60), .inl (E 0, 3, .inl u.2.2.2))])) (va_A [(mh, .inr (9, G9 ma mcode mtoday moffs mmany msumW msumA msumR msumWW msumWA msumAA msumWR msumAR mupper mlower mrates mtaped mlaid mat mtk mtkAt mtkNumber mwaits mlisted mdealtMany)), ((ma 34), .inl (E 1, 2, .inl mf34)), ((ma 35), .inl (E 0, 2, .inl mf35)), ((ma 36), .inl (E 0, 384, .inl mf36)), ((ma 37), .inl (E 0, 384, .inl mf37)), ((ma 45), .inl (E 0, 130, .inl mf45)), ((ma 46), .inl (E 0, 24, .inl mf46)), ((ma 47), .inl (E 0, 5, .inl mf47)), ((ma 48), .inl (E 0, 5, .inl mf48)), ((ma 49), .inl (E 0, 5, .inl mf49)), ((ma 51), .inl (E 0, 15, .inl mf51)), ((ma 52), .inl (E 0, 15, .inl mf52)), ((ma 53), .inl (E 0, 15, .inl mf53)), ((ma 54), .inl (E 0, 15, .inl mf54)), ((ma 55), .inl (E 0, 5, .inl mf55)), ((ma 56), .inl (E 0, 200, .inl mf56)), ((ma 57), .inl (E 0, 600, .inl mf57)), ((ma 59), .inl (E 0, 3, .inl mf59)), ((ma 60), .inl (E 0, 3, .inl mf60))] sz)) 0 0 (va_A [(mh, .inr (9, G9 ma mcode mtoday moffs mmany msumW msumA msumR msumWW msumWA msumAA msumWR msumAR mupper mlower mrates mtaped mlaid mat mtk mtkAt mtkNumber mwaits mlisted mdealtMany)), ((ma 34), .inl (E 1, 2, .inl mf34)), ((ma 35), .inl (E 0, 2, .inl mf35)), ((ma 36), .inl (E 0, 384, .inl mf36)), ((ma 37), .inl (E 0, 384, .inl mf37)), ((ma 45), .inl (E 0, 130, .inl mf45)), ((ma 46), .inl (E 0, 24, .inl mf46)), ((ma 47), .inl (E 0, 5, .inl mf47)), ((ma 48), .inl (E 0, 5, .inl mf48)), ((ma 49), .inl (E 0, 5, .inl mf49)), ((ma 51), .inl (E 0, 15, .inl mf51)), ((ma 52), .inl (E 0, 15, .inl mf52)), ((ma 53), .inl (E 0, 15, .inl mf53)), ((ma 54), .inl (E 0, 15, .inl mf54)), ((ma 55), .inl (E 0, 5, .inl mf55)), ((ma 56), .inl (E 0, 200, .inl mf56)), ((ma 57), .inl (E 0, 600, .inl mf57)), ((ma 59), .inl (E 0, 3, .inl mf59)), ((ma 60), .inl (E 0, 3, .inl mf60))] sz) := by
  refine Met.ofW (cc := cX9_told) (maxL := 8) (ret := (some .int)) (by decide) rfl ?_
  intro p e s m args below meth c s₁ B hml hv
  obtain ⟨rfl, hsz, hP, hK, hD0⟩ := hv
  have hx := B.exec; have hb := B.bytes; have hr := B.returns
  have hts := atoms_spec (ws := wl yX9_told cX9_told 8 (some .int)) B.pre
  have htb : ∀ w ∈ tb, w.before _ s = true := fun w h => hts w (List.mem_cons_of_mem _ h)
  have hown : s.vm.findClass RX9 = some m.cls := findClass_of_methodNamed B.named
  have hlocks := B.notSynchronized
  subst hsz
  have hD := hD0.self (sz := s.heap.size)
  generalize hAe : va_A [(mh, .inr (9, G9 ma mcode mtoday moffs mmany msumW msumA msumR msumWW msumWA msumAA msumWR msumAR mupper mlower mrates mtaped mlaid mat mtk mtkAt mtkNumber mwaits mlisted mdealtMany)), ((ma 34), .inl (E 1, 2, .inl mf34)), ((ma 35), .inl (E 0, 2, .inl mf35)), ((ma 36), .inl (E 0, 384, .inl mf36)), ((ma 37), .inl (E 0, 384, .inl mf37)), ((ma 45), .inl (E 0, 130, .inl mf45)), ((ma 46), .inl (E 0, 24, .inl mf46)), ((ma 47), .inl (E 0, 5, .inl mf47)), ((ma 48), .inl (E 0, 5, .inl mf48)), ((ma 49), .inl (E 0, 5, .inl mf49)), ((ma 51), .inl (E 0, 15, .inl mf51)), ((ma 52), .inl (E 0, 15, .inl mf52)), ((ma 53), .inl (E 0, 15, .inl mf53)), ((ma 54), .inl (E 0, 15, .inl mf54)), ((ma 55), .inl (E 0, 5, .inl mf55)), ((ma 56), .inl (E 0, 200, .inl mf56)), ((ma 57), .inl (E 0, 600, .inl mf57)), ((ma 59), .inl (E 0, 3, .inl mf59)), ((ma 60), .inl (E 0, 3, .inl mf60))] s.heap.size = A at hD ⊢
  have hA : ∀ q : Nat, s.heap.size ≤ q → A q := fun q h => by rw [← hAe]; exact Or.inr h
  have hS : va_S A s.heap s.heap [] := va_S.rf
  have hP : va_P D vwCl [(mh, .inr (9, G9 ma mcode mtoday moffs mmany msumW msumA msumR msumWW msumWA msumAA msumWR msumAR mupper mlower mrates mtaped mlaid mat mtk mtkAt mtkNumber mwaits mlisted mdealtMany)), ((ma 34), .inl (E 1, 2, .inl mf34)), ((ma 35), .inl (E 0, 2, .inl mf35)), ((ma 36), .inl (E 0, 384, .inl mf36)), ((ma 37), .inl (E 0, 384, .inl mf37)), ((ma 45), .inl (E 0, 130, .inl mf45)), ((ma 46), .inl (E 0, 24, .inl mf46)), ((ma 47), .inl (E 0, 5, .inl mf47)), ((ma 48), .inl (E 0, 5, .inl mf48)), ((ma 49), .inl (E 0, 5, .inl mf49)), ((ma 51), .inl (E 0, 15, .inl mf51)), ((ma 52), .inl (E 0, 15, .inl mf52)), ((ma 53), .inl (E 0, 15, .inl mf53)), ((ma 54), .inl (E 0, 15, .inl mf54)), ((ma 55), .inl (E 0, 5, .inl mf55)), ((ma 56), .inl (E 0, 200, .inl mf56)), ((ma 57), .inl (E 0, 600, .inl mf57)), ((ma 59), .inl (E 0, 3, .inl mf59)), ((ma 60), .inl (E 0, 3, .inl mf60))] s.heap := hP
  have hl := lv_entry ([.ref mh, .int p0, .int p1, .int p2]) (n := 8) (Nat.le_of_ble_eq_true rfl)
  rw [lg_entry_eq]
  generalize (lg_sl ([.ref mh, .int p0, .int p1, .int p2]) ++ List.replicate (8 - (lg_sl ([.ref mh, .int p0, .int p1, .int p2])).length) Slot.unset).toArray = ls at hl ⊢
  have hl : lv_has ls 8 [(0, .ref mh), (1, .int p0), (2, .int p1), (3, .int p2)] := hl
  have lo_p0 := i_lo p0; have hi_p0 := i_hi p0
  have lo_p1 := i_lo p1; have hi_p1 := i_hi p1
  have lo_p2 := i_lo p2; have hi_p2 := i_hi p2
  refine lv_iload_n hx hb dX9_told_0 rfl (lv_at hl 1 rfl) ?_
  refine callRS (rest := []) (As := [.int p0]) hx hb hml hown htb hK (g_X9_isShip l D E p0 ) ok_X9_isShip k_1414 k_1415 k_9 k_1416 ⟨(Nat.le_of_ble_eq_true rfl), (Nat.le_of_ble_eq_true rfl)⟩ ⟨(Nat.le_of_ble_eq_true rfl), (Nat.le_of_ble_eq_true rfl)⟩ hl.1 (Nat.le_of_ble_eq_true rfl) rfl rfl dX9_told_1 (hP.sub (ws' := ([] : va_W)) [] rfl) (fun r_1 hw_2 => ?_)
  rcases hw_2 with ⟨hr_1, hw_2⟩ | ⟨hr_1, hw_2⟩
  ·
    refine W_top (y := .int 1) (by rw [hr_1]) ?_
    refine lv_if_eq (tgt := 33) hx hb dX9_told_4 (by decide) (fun c_4 => absurd c_4 (by decide)) (fun c_4 => ?_)
    refine lv_iload_n hx hb dX9_told_7 rfl (lv_at hl 2 rfl) ?_
    refine lv_iconst (v := 0) hx hb dX9_told_8 (by decide) ?_
    refine lv_aload_n hx hb dX9_told_9 rfl (lv_at hl 0 rfl) ?_
    refine va_get (D := D) (ci := 9) (v := .ref (ma 55)) (C := RX9) (T := TX9) (N := 68) hx hb htb iX9 hown hK.1 hP 0 rfl rfl 55 (by decide) (htb _ k_1013) (fun _ h9 => h9) rfl dX9_told_10 ?_
    refine lv_iload_n hx hb dX9_told_13 rfl (lv_at hl 1 rfl) ?_
    refine va_iald hx hb hK.1 hP 14 0 rfl rfl (g_in rfl (by omega) (by omega)) dX9_told_14 ?_
    refine lv_topi (fun z_5 ez_5 => ?_)
    have kz_5 := congrArg Int32.toInt ez_5
    have jz_5 : 0 ≤ z_5.toInt ∧ z_5.toInt ≤ 40 := by rw [ez_5]; exact hr_m55 _ (g_ix rfl (by omega) (by omega))
    refine lv_iconst (v := 1) hx hb dX9_told_15 (by decide) ?_
    refine lv_isub hx hb dX9_told_16 ?_
    refine lv_topi (fun z_6 ez_6 => ?_)
    have jz_6 : z_6.toInt = z_5.toInt - 1 := by rw [ez_6]; exact g_sub rfl t_1 (by omega) (by omega)
    refine callRS (rest := []) (As := [.int p1, .int 0, .int z_6]) hx hb hml hown htb hK (g_X9_in l D E p1 0 z_6 ) ok_X9_in k_1168 k_1169 k_9 k_1170 ⟨(Nat.le_of_ble_eq_true rfl), (Nat.le_of_ble_eq_true rfl)⟩ ⟨(Nat.le_of_ble_eq_true rfl), (Nat.le_of_ble_eq_true rfl)⟩ hl.1 (Nat.le_of_ble_eq_true rfl) rfl rfl dX9_told_17 (hP.sub (ws' := ([] : va_W)) [] rfl) (fun r_7 hw_8 => ?_)
    try simp only [t_0] at hw_8
    rcases hw_8 with ⟨hr_7, hw_8⟩ | ⟨hr_7, hw_8⟩
    ·
      try simp only [t_0] at hw_8
      refine W_top (y := .int 1) (by rw [hr_7]) ?_
      refine lv_if_eq (tgt := 33) hx hb dX9_told_20 (by decide) (fun c_10 => absurd c_10 (by decide)) (fun c_10 => ?_)
      refine lv_iload_n hx hb dX9_told_23 rfl (lv_at hl 3 rfl) ?_
      refine lv_iconst (v := 0) hx hb dX9_told_24 (by decide) ?_
      refine lv_bipush (v := 9) hx hb dX9_told_25 (by decide) ?_
      refine callRS (rest := []) (As := [.int p2, .int 0, .int 9]) hx hb hml hown htb hK (g_X9_in l D E p2 0 9 ) ok_X9_in k_1168 k_1169 k_9 k_1170 ⟨(Nat.le_of_ble_eq_true rfl), (Nat.le_of_ble_eq_true rfl)⟩ ⟨(Nat.le_of_ble_eq_true rfl), (Nat.le_of_ble_eq_true rfl)⟩ hl.1 (Nat.le_of_ble_eq_true rfl) rfl rfl dX9_told_27 (hP.sub (ws' := ([] : va_W)) [] rfl) (fun r_11 hw_12 => ?_)
      try simp only [t_0, t_9] at hw_12
      rcases hw_12 with ⟨hr_11, hw_12⟩ | ⟨hr_11, hw_12⟩
      ·
        try simp only [t_0, t_9] at hw_12
        refine W_top (y := .int 1) (by rw [hr_11]) ?_
        refine lv_if_ne (tgt := 36) hx hb dX9_told_30 (by decide) (fun c_14 => ?_) (fun c_14 => absurd c_14 (by decide))
        refine lv_aload_n hx hb dX9_told_36 rfl (lv_at hl 0 rfl) ?_
        refine lv_iload_n hx hb dX9_told_37 rfl (lv_at hl 1 rfl) ?_
        refine lv_iload_n hx hb dX9_told_38 rfl (lv_at hl 2 rfl) ?_
        have hPc := hP.sub (ws' := [(mh, .inr (9, G9 ma mcode mtoday moffs mmany msumW msumA msumR msumWW msumWA msumAA msumWR msumAR mupper mlower mrates mtaped mlaid mat mtk mtkAt mtkNumber mwaits mlisted mdealtMany)), ((ma 34), .inl (E 1, 2, .inl mf34)), ((ma 35), .inl (E 0, 2, .inl mf35)), ((ma 36), .inl (E 0, 384, .inl mf36)), ((ma 37), .inl (E 0, 384, .inl mf37)), ((ma 45), .inl (E 0, 130, .inl mf45)), ((ma 46), .inl (E 0, 24, .inl mf46)), ((ma 47), .inl (E 0, 5, .inl mf47)), ((ma 48), .inl (E 0, 5, .inl mf48)), ((ma 49), .inl (E 0, 5, .inl mf49)), ((ma 51), .inl (E 0, 15, .inl mf51)), ((ma 52), .inl (E 0, 15, .inl mf52)), ((ma 53), .inl (E 0, 15, .inl mf53)), ((ma 54), .inl (E 0, 15, .inl mf54)), ((ma 56), .inl (E 0, 200, .inl mf56)), ((ma 57), .inl (E 0, 600, .inl mf57)), ((ma 59), .inl (E 0, 3, .inl mf59)), ((ma 60), .inl (E 0, 3, .inl mf60))]) [0, 1, 2, 3, 4, 5, 6, 7, 8, 9, 10, 11, 12, 13, 15, 16, 17, 18] rfl
        have hDc := hD.sub (ws' := [(mh, .inr (9, G9 ma mcode mtoday moffs mmany msumW msumA msumR msumWW msumWA msumAA msumWR msumAR mupper mlower mrates mtaped mlaid mat mtk mtkAt mtkNumber mwaits mlisted mdealtMany)), ((ma 34), .inl (E 1, 2, .inl mf34)), ((ma 35), .inl (E 0, 2, .inl mf35)), ((ma 36), .inl (E 0, 384, .inl mf36)), ((ma 37), .inl (E 0, 384, .inl mf37)), ((ma 45), .inl (E 0, 130, .inl mf45)), ((ma 46), .inl (E 0, 24, .inl mf46)), ((ma 47), .inl (E 0, 5, .inl mf47)), ((ma 48), .inl (E 0, 5, .inl mf48)), ((ma 49), .inl (E 0, 5, .inl mf49)), ((ma 51), .inl (E 0, 15, .inl mf51)), ((ma 52), .inl (E 0, 15, .inl mf52)), ((ma 53), .inl (E 0, 15, .inl mf53)), ((ma 54), .inl (E 0, 15, .inl mf54)), ((ma 56), .inl (E 0, 200, .inl mf56)), ((ma 57), .inl (E 0, 600, .inl mf57)), ((ma 59), .inl (E 0, 3, .inl mf59)), ((ma 60), .inl (E 0, 3, .inl mf60))]) [0, 1, 2, 3, 4, 5, 6, 7, 8, 9, 10, 11, 12, 13, 15, 16, 17, 18] (by decide) rfl
        refine aft_i (runMV (rest := []) (As := [.int p0, .int p1]) hx hb hml hown htb hK (g_X9_work l D E mh ma mcode mtoday moffs mmany msumW msumA msumR msumWW msumWA msumAA msumWR msumAR mupper mlower mrates mtaped mlaid mat mtk mtkAt mtkNumber mwaits mlisted mdealtMany mf34 mf35 mf36 mf37 mf45 mf46 mf47 mf48 mf49 mf51 mf52 mf53 mf54 mf56 mf57 mf59 mf60 p0 p1 _ (by (try dsimp only); omega) hr_m35 (by (try dsimp only); omega) j49 hjw) ok_X9_work k_1442 k_1444 ks_64 k_9 k_1445 ⟨(Nat.le_of_ble_eq_true rfl), (Nat.le_of_ble_eq_true rfl)⟩ ⟨(Nat.le_of_ble_eq_true rfl), (Nat.le_of_ble_eq_true rfl)⟩ hl.1 (Nat.le_of_ble_eq_true rfl) rfl rfl dX9_told_39 hPc hDc rfl rfl 0 rfl) hP hD hS hA [0, 1, 2, 3, 4, 5, 6, 7, 8, 9, 10, 11, 12, 13, 15, 16, 17, 18] [14] (wr := [((ma 55), .inl (E 0, 5, .inl mf55))]) rfl rfl (by decide) (by decide) (fun r_15 u_17 H locs hw_16 hP hD hS => ?_)
        clear hPc hDc
        obtain ⟨w_18, w_19, w_20, w_21⟩ := u_17
        try dsimp only at hw_16
        have hP : va_P D vwCl [((ma 55), .inl (E 0, 5, .inl mf55)), (mh, .inr (9, G9 ma mcode mtoday moffs mmany msumW msumA msumR msumWW msumWA msumAA msumWR msumAR mupper mlower mrates mtaped mlaid mat mtk mtkAt mtkNumber mwaits mlisted mdealtMany)), ((ma 34), .inl (E 1, 2, .inl mf34)), ((ma 35), .inl (E 0, 2, .inl mf35)), ((ma 36), .inl (E 0, 384, .inl mf36)), ((ma 37), .inl (E 0, 384, .inl mf37)), ((ma 45), .inl (E 0, 130, .inl w_18)), ((ma 46), .inl (E 0, 24, .inl w_19)), ((ma 47), .inl (E 0, 5, .inl mf47)), ((ma 48), .inl (E 0, 5, .inl mf48)), ((ma 49), .inl (E 0, 5, .inl mf49)), ((ma 51), .inl (E 0, 15, .inl mf51)), ((ma 52), .inl (E 0, 15, .inl mf52)), ((ma 53), .inl (E 0, 15, .inl mf53)), ((ma 54), .inl (E 0, 15, .inl mf54)), ((ma 56), .inl (E 0, 200, .inl mf56)), ((ma 57), .inl (E 0, 600, .inl mf57)), ((ma 59), .inl (E 0, 3, .inl w_20)), ((ma 60), .inl (E 0, 3, .inl w_21))] H := hP
        have hD := toW hP hD rfl
        refine lv_istore (lv' := [(4, .int r_15), (0, .ref mh), (1, .int p0), (2, .int p1), (3, .int p2)]) hx hb dX9_told_42 hl (by decide) rfl (fun ls hl => ?_)
        refine lv_iload_n hx hb dX9_told_44 rfl (lv_at hl 4 rfl) ?_
        refine lv_if_ne (tgt := 60) hx hb dX9_told_45 (by decide) (fun c_22 => ?_) (fun c_22 => ?_)
        ·
          have ic_22 : p2.toInt ≠ 0 := mt (g_eq rfl t_0).mpr c_22
          clear c_22
          refine lv_iload_n hx hb dX9_told_60 rfl (lv_at hl 4 rfl) ?_
          refine lv_iconst (v := 1) hx hb dX9_told_61 (by decide) ?_
          refine lv_icmp_ne (tgt := 68) hx hb dX9_told_62 (by decide) (fun c_23 => ?_) (fun c_23 => ?_)
          ·
            have ic_23 : p2.toInt ≠ 1 := mt (g_eq rfl t_1).mpr c_23
            clear c_23
            refine lv_iload_n hx hb dX9_told_68 rfl (lv_at hl 4 rfl) ?_
            refine lv_iconst (v := 4) hx hb dX9_told_69 (by decide) ?_
            refine lv_icmp_lt (tgt := 100) hx hb dX9_told_70 (by decide) (fun c_24 => ?_) (fun c_24 => ?_)
            ·
              have ic_24 : p2.toInt < 4 := by first | exact (g_lt rfl t_4).mp c_24 | (have h := mt (g_le t_4 rfl).mpr c_24; omega)
              clear c_24
              refine lv_ldc hx hb hown (htb _ k_1205) dX9_told_100 ?_
              refine lv_istore (lv' := [(5, .int (-2000000000)), (4, .int r_15), (0, .ref mh), (1, .int p0), (2, .int p1), (3, .int p2)]) hx hb dX9_told_102 hl (by decide) rfl (fun ls hl => ?_)
              refine lv_ldcw hx hb hown (htb _ k_1447) dX9_told_104 ?_
              refine lv_istore (lv' := [(6, .int 2000000000), (5, .int (-2000000000)), (4, .int r_15), (0, .ref mh), (1, .int p0), (2, .int p1), (3, .int p2)]) hx hb dX9_told_107 hl (by decide) rfl (fun ls hl => ?_)
              refine lv_iconst (v := 0) hx hb dX9_told_109 (by decide) ?_
              refine lv_istore (lv' := [(7, .int 0), (6, .int 2000000000), (5, .int (-2000000000)), (4, .int r_15), (0, .ref mh), (1, .int p0), (2, .int p1), (3, .int p2)]) hx hb dX9_told_110 hl (by decide) rfl (fun ls hl => ?_)
              have loop_25 : ∀ (N_27 : Nat) (L7_112 : Int32) (L6_112 : Int32) (L5_112 : Int32) (H : Heap) (locs : List Loc) (ls : Array Slot), 3 - L7_112.toInt < (N_27 : Int) → (0 ≤ L7_112.toInt ∧ L7_112.toInt ≤ 3) → va_P D vwCl [((ma 55), .inl (E 0, 5, .inl mf55)), (mh, .inr (9, G9 ma mcode mtoday moffs mmany msumW msumA msumR msumWW msumWA msumAA msumWR msumAR mupper mlower mrates mtaped mlaid mat mtk mtkAt mtkNumber mwaits mlisted mdealtMany)), ((ma 34), .inl (E 1, 2, .inl mf34)), ((ma 35), .inl (E 0, 2, .inl mf35)), ((ma 36), .inl (E 0, 384, .inl mf36)), ((ma 37), .inl (E 0, 384, .inl mf37)), ((ma 45), .inl (E 0, 130, .inl w_18)), ((ma 46), .inl (E 0, 24, .inl w_19)), ((ma 47), .inl (E 0, 5, .inl mf47)), ((ma 48), .inl (E 0, 5, .inl mf48)), ((ma 49), .inl (E 0, 5, .inl mf49)), ((ma 51), .inl (E 0, 15, .inl mf51)), ((ma 52), .inl (E 0, 15, .inl mf52)), ((ma 53), .inl (E 0, 15, .inl mf53)), ((ma 54), .inl (E 0, 15, .inl mf54)), ((ma 56), .inl (E 0, 200, .inl mf56)), ((ma 57), .inl (E 0, 600, .inl mf57)), ((ma 59), .inl (E 0, 3, .inl w_20)), ((ma 60), .inl (E 0, 3, .inl w_21))] H → va_D A [((ma 55), .inl (E 0, 5, .inl mf55)), (mh, .inr (9, G9 ma mcode mtoday moffs mmany msumW msumA msumR msumWW msumWA msumAA msumWR msumAR mupper mlower mrates mtaped mlaid mat mtk mtkAt mtkNumber mwaits mlisted mdealtMany)), ((ma 34), .inl (E 1, 2, .inl mf34)), ((ma 35), .inl (E 0, 2, .inl mf35)), ((ma 36), .inl (E 0, 384, .inl mf36)), ((ma 37), .inl (E 0, 384, .inl mf37)), ((ma 45), .inl (E 0, 130, .inl w_18)), ((ma 46), .inl (E 0, 24, .inl w_19)), ((ma 47), .inl (E 0, 5, .inl mf47)), ((ma 48), .inl (E 0, 5, .inl mf48)), ((ma 49), .inl (E 0, 5, .inl mf49)), ((ma 51), .inl (E 0, 15, .inl mf51)), ((ma 52), .inl (E 0, 15, .inl mf52)), ((ma 53), .inl (E 0, 15, .inl mf53)), ((ma 54), .inl (E 0, 15, .inl mf54)), ((ma 56), .inl (E 0, 200, .inl mf56)), ((ma 57), .inl (E 0, 600, .inl mf57)), ((ma 59), .inl (E 0, 3, .inl w_20)), ((ma 60), .inl (E 0, 3, .inl w_21))] → va_S A s.heap H locs → lv_has ls 8 [(7, .int L7_112), (6, .int L6_112), (5, .int L5_112), (4, .int r_15), (0, .ref mh), (1, .int p0), (2, .int p1), (3, .int p2)] → W p l e (headSpec (wl yX9_told cX9_told 8 (some .int)) (RM 3 0 0)).room s m [Value.ref mh, .int p0, .int p1, .int p2].toArray below meth c H locs 0 0 (MQ below (va_Qi (fun (r : Int32) (u : (Nat → Int32) × (Nat → Int32) × (Nat → Int32) × (Nat → Int32)) => True) (mu_B D A (fun (u : (Nat → Int32) × (Nat → Int32) × (Nat → Int32) × (Nat → Int32)) => [(mh, .inr (9, G9 ma mcode mtoday moffs mmany msumW msumA msumR msumWW msumWA msumAA msumWR msumAR mupper mlower mrates mtaped mlaid mat mtk mtkAt mtkNumber mwaits mlisted mdealtMany)), ((ma 34), .inl (E 1, 2, .inl mf34)), ((ma 35), .inl (E 0, 2, .inl mf35)), ((ma 36), .inl (E 0, 384, .inl mf36)), ((ma 37), .inl (E 0, 384, .inl mf37)), ((ma 45), .inl (E 0, 130, .inl u.1)), ((ma 46), .inl (E 0, 24, .inl u.2.1)), ((ma 47), .inl (E 0, 5, .inl mf47)), ((ma 48), .inl (E 0, 5, .inl mf48)), ((ma 49), .inl (E 0, 5, .inl mf49)), ((ma 51), .inl (E 0, 15, .inl mf51)), ((ma 52), .inl (E 0, 15, .inl mf52)), ((ma 53), .inl (E 0, 15, .inl mf53)), ((ma 54), .inl (E 0, 15, .inl mf54)), ((ma 55), .inl (E 0, 5, .inl mf55)), ((ma 56), .inl (E 0, 200, .inl mf56)), ((ma 57), .inl (E 0, 600, .inl mf57)), ((ma 59), .inl (E 0, 3, .inl u.2.2.1)), ((ma 60), .inl (E 0, 3, .inl u.2.2.2))])) A) [Value.ref mh, .int p0, .int p1, .int p2].toArray s 0 0 A) (F0 m 112 ls []) := by
                intro N_27
                induction N_27 with
                | zero => intro L7_112 L6_112 L5_112 H locs ls hm v0_112 _ _ _ _; exfalso; omega
                | succ N_27 ih_26 =>
                  intro L7_112 L6_112 L5_112 H locs ls hm v0_112 hP hD hS hl
                  have lo_L7_112 := i_lo L7_112; have hi_L7_112 := i_hi L7_112
                  have lo_L6_112 := i_lo L6_112; have hi_L6_112 := i_hi L6_112
                  have lo_L5_112 := i_lo L5_112; have hi_L5_112 := i_hi L5_112
                  refine lv_iload hx hb dX9_told_112 (lv_at hl 0 rfl) ?_
                  refine lv_iconst (v := 3) hx hb dX9_told_114 (by decide) ?_
                  refine lv_icmp_ge (tgt := 218) hx hb dX9_told_115 (by decide) (fun c_28 => ?_) (fun c_28 => ?_)
                  ·
                    have ic_28 : 3 ≤ L7_112.toInt := by first | exact (g_le t_3 rfl).mp c_28 | (have h := mt (g_lt rfl t_3).mpr c_28; omega)
                    clear c_28
                    refine lv_iload hx hb dX9_told_218 (lv_at hl 1 rfl) ?_
                    refine lv_iload hx hb dX9_told_220 (lv_at hl 2 rfl) ?_
                    refine lv_icmp_ge (tgt := 230) hx hb dX9_told_222 (by decide) (fun c_29 => ?_) (fun c_29 => ?_)
                    ·
                      have ic_29 : L5_112.toInt ≤ L6_112.toInt := by first | exact (g_le rfl rfl).mp c_29 | (have h := mt (g_lt rfl rfl).mpr c_29; omega)
                      clear c_29
                      refine lv_iload_n hx hb dX9_told_230 rfl (lv_at hl 7 rfl) ?_
                      refine lv_iconst (v := 2) hx hb dX9_told_231 (by decide) ?_
                      refine lv_icmp_ne (tgt := 240) hx hb dX9_told_232 (by decide) (fun c_30 => ?_) (fun c_30 => ?_)
                      ·
                        have ic_30 : p2.toInt ≠ 2 := mt (g_eq rfl t_2).mpr c_30
                        clear c_30
                        refine lv_iload hx hb dX9_told_240 (lv_at hl 1 rfl) ?_
                        have hP9 := hP.sub (ws' := [(mh, .inr (9, G9 ma mcode mtoday moffs mmany msumW msumA msumR msumWW msumWA msumAA msumWR msumAR mupper mlower mrates mtaped mlaid mat mtk mtkAt mtkNumber mwaits mlisted mdealtMany)), ((ma 34), .inl (E 1, 2, .inl mf34)), ((ma 35), .inl (E 0, 2, .inl mf35)), ((ma 36), .inl (E 0, 384, .inl mf36)), ((ma 37), .inl (E 0, 384, .inl mf37)), ((ma 45), .inl (E 0, 130, .inl w_18)), ((ma 46), .inl (E 0, 24, .inl w_19)), ((ma 47), .inl (E 0, 5, .inl mf47)), ((ma 48), .inl (E 0, 5, .inl mf48)), ((ma 49), .inl (E 0, 5, .inl mf49)), ((ma 51), .inl (E 0, 15, .inl mf51)), ((ma 52), .inl (E 0, 15, .inl mf52)), ((ma 53), .inl (E 0, 15, .inl mf53)), ((ma 54), .inl (E 0, 15, .inl mf54)), ((ma 55), .inl (E 0, 5, .inl mf55)), ((ma 56), .inl (E 0, 200, .inl mf56)), ((ma 57), .inl (E 0, 600, .inl mf57)), ((ma 59), .inl (E 0, 3, .inl w_20)), ((ma 60), .inl (E 0, 3, .inl w_21))]) [1, 2, 3, 4, 5, 6, 7, 8, 9, 10, 11, 12, 13, 14, 0, 15, 16, 17, 18] rfl
                        have hD9 := hD.sub (ws' := [(mh, .inr (9, G9 ma mcode mtoday moffs mmany msumW msumA msumR msumWW msumWA msumAA msumWR msumAR mupper mlower mrates mtaped mlaid mat mtk mtkAt mtkNumber mwaits mlisted mdealtMany)), ((ma 34), .inl (E 1, 2, .inl mf34)), ((ma 35), .inl (E 0, 2, .inl mf35)), ((ma 36), .inl (E 0, 384, .inl mf36)), ((ma 37), .inl (E 0, 384, .inl mf37)), ((ma 45), .inl (E 0, 130, .inl w_18)), ((ma 46), .inl (E 0, 24, .inl w_19)), ((ma 47), .inl (E 0, 5, .inl mf47)), ((ma 48), .inl (E 0, 5, .inl mf48)), ((ma 49), .inl (E 0, 5, .inl mf49)), ((ma 51), .inl (E 0, 15, .inl mf51)), ((ma 52), .inl (E 0, 15, .inl mf52)), ((ma 53), .inl (E 0, 15, .inl mf53)), ((ma 54), .inl (E 0, 15, .inl mf54)), ((ma 55), .inl (E 0, 5, .inl mf55)), ((ma 56), .inl (E 0, 200, .inl mf56)), ((ma 57), .inl (E 0, 600, .inl mf57)), ((ma 59), .inl (E 0, 3, .inl w_20)), ((ma 60), .inl (E 0, 3, .inl w_21))]) [1, 2, 3, 4, 5, 6, 7, 8, 9, 10, 11, 12, 13, 14, 0, 15, 16, 17, 18] (by decide) rfl
                        exact W.iret (v := L6_112) hx hb hr (fun t ht hW => ⟨⟨L6_112, (w_18, w_19, w_20, w_21), rfl, trivial, by rw [ht]; exact hP9, hD9⟩, hS.F ht⟩) hS.2.2 dX9_told_242
                      ·
                        have ic_30 : p2.toInt = 2 := (g_eq rfl t_2).mp c_30
                        clear c_30
                        refine lv_iload hx hb dX9_told_235 (lv_at hl 2 rfl) ?_
                        refine lv_goto (tgt := 242) hx hb dX9_told_237 (by decide) ?_
                        have hP9 := hP.sub (ws' := [(mh, .inr (9, G9 ma mcode mtoday moffs mmany msumW msumA msumR msumWW msumWA msumAA msumWR msumAR mupper mlower mrates mtaped mlaid mat mtk mtkAt mtkNumber mwaits mlisted mdealtMany)), ((ma 34), .inl (E 1, 2, .inl mf34)), ((ma 35), .inl (E 0, 2, .inl mf35)), ((ma 36), .inl (E 0, 384, .inl mf36)), ((ma 37), .inl (E 0, 384, .inl mf37)), ((ma 45), .inl (E 0, 130, .inl w_18)), ((ma 46), .inl (E 0, 24, .inl w_19)), ((ma 47), .inl (E 0, 5, .inl mf47)), ((ma 48), .inl (E 0, 5, .inl mf48)), ((ma 49), .inl (E 0, 5, .inl mf49)), ((ma 51), .inl (E 0, 15, .inl mf51)), ((ma 52), .inl (E 0, 15, .inl mf52)), ((ma 53), .inl (E 0, 15, .inl mf53)), ((ma 54), .inl (E 0, 15, .inl mf54)), ((ma 55), .inl (E 0, 5, .inl mf55)), ((ma 56), .inl (E 0, 200, .inl mf56)), ((ma 57), .inl (E 0, 600, .inl mf57)), ((ma 59), .inl (E 0, 3, .inl w_20)), ((ma 60), .inl (E 0, 3, .inl w_21))]) [1, 2, 3, 4, 5, 6, 7, 8, 9, 10, 11, 12, 13, 14, 0, 15, 16, 17, 18] rfl
                        have hD9 := hD.sub (ws' := [(mh, .inr (9, G9 ma mcode mtoday moffs mmany msumW msumA msumR msumWW msumWA msumAA msumWR msumAR mupper mlower mrates mtaped mlaid mat mtk mtkAt mtkNumber mwaits mlisted mdealtMany)), ((ma 34), .inl (E 1, 2, .inl mf34)), ((ma 35), .inl (E 0, 2, .inl mf35)), ((ma 36), .inl (E 0, 384, .inl mf36)), ((ma 37), .inl (E 0, 384, .inl mf37)), ((ma 45), .inl (E 0, 130, .inl w_18)), ((ma 46), .inl (E 0, 24, .inl w_19)), ((ma 47), .inl (E 0, 5, .inl mf47)), ((ma 48), .inl (E 0, 5, .inl mf48)), ((ma 49), .inl (E 0, 5, .inl mf49)), ((ma 51), .inl (E 0, 15, .inl mf51)), ((ma 52), .inl (E 0, 15, .inl mf52)), ((ma 53), .inl (E 0, 15, .inl mf53)), ((ma 54), .inl (E 0, 15, .inl mf54)), ((ma 55), .inl (E 0, 5, .inl mf55)), ((ma 56), .inl (E 0, 200, .inl mf56)), ((ma 57), .inl (E 0, 600, .inl mf57)), ((ma 59), .inl (E 0, 3, .inl w_20)), ((ma 60), .inl (E 0, 3, .inl w_21))]) [1, 2, 3, 4, 5, 6, 7, 8, 9, 10, 11, 12, 13, 14, 0, 15, 16, 17, 18] (by decide) rfl
                        exact W.iret (v := L5_112) hx hb hr (fun t ht hW => ⟨⟨L5_112, (w_18, w_19, w_20, w_21), rfl, trivial, by rw [ht]; exact hP9, hD9⟩, hS.F ht⟩) hS.2.2 dX9_told_242
                    ·
                      have ic_29 : L6_112.toInt < L5_112.toInt := by first | exact (g_lt rfl rfl).mp c_29 | (have h := mt (g_le rfl rfl).mpr c_29; omega)
                      clear c_29
                      refine lv_ldc hx hb hown (htb _ k_1205) dX9_told_225 ?_
                      refine lv_goto (tgt := 242) hx hb dX9_told_227 (by decide) ?_
                      have hP9 := hP.sub (ws' := [(mh, .inr (9, G9 ma mcode mtoday moffs mmany msumW msumA msumR msumWW msumWA msumAA msumWR msumAR mupper mlower mrates mtaped mlaid mat mtk mtkAt mtkNumber mwaits mlisted mdealtMany)), ((ma 34), .inl (E 1, 2, .inl mf34)), ((ma 35), .inl (E 0, 2, .inl mf35)), ((ma 36), .inl (E 0, 384, .inl mf36)), ((ma 37), .inl (E 0, 384, .inl mf37)), ((ma 45), .inl (E 0, 130, .inl w_18)), ((ma 46), .inl (E 0, 24, .inl w_19)), ((ma 47), .inl (E 0, 5, .inl mf47)), ((ma 48), .inl (E 0, 5, .inl mf48)), ((ma 49), .inl (E 0, 5, .inl mf49)), ((ma 51), .inl (E 0, 15, .inl mf51)), ((ma 52), .inl (E 0, 15, .inl mf52)), ((ma 53), .inl (E 0, 15, .inl mf53)), ((ma 54), .inl (E 0, 15, .inl mf54)), ((ma 55), .inl (E 0, 5, .inl mf55)), ((ma 56), .inl (E 0, 200, .inl mf56)), ((ma 57), .inl (E 0, 600, .inl mf57)), ((ma 59), .inl (E 0, 3, .inl w_20)), ((ma 60), .inl (E 0, 3, .inl w_21))]) [1, 2, 3, 4, 5, 6, 7, 8, 9, 10, 11, 12, 13, 14, 0, 15, 16, 17, 18] rfl
                      have hD9 := hD.sub (ws' := [(mh, .inr (9, G9 ma mcode mtoday moffs mmany msumW msumA msumR msumWW msumWA msumAA msumWR msumAR mupper mlower mrates mtaped mlaid mat mtk mtkAt mtkNumber mwaits mlisted mdealtMany)), ((ma 34), .inl (E 1, 2, .inl mf34)), ((ma 35), .inl (E 0, 2, .inl mf35)), ((ma 36), .inl (E 0, 384, .inl mf36)), ((ma 37), .inl (E 0, 384, .inl mf37)), ((ma 45), .inl (E 0, 130, .inl w_18)), ((ma 46), .inl (E 0, 24, .inl w_19)), ((ma 47), .inl (E 0, 5, .inl mf47)), ((ma 48), .inl (E 0, 5, .inl mf48)), ((ma 49), .inl (E 0, 5, .inl mf49)), ((ma 51), .inl (E 0, 15, .inl mf51)), ((ma 52), .inl (E 0, 15, .inl mf52)), ((ma 53), .inl (E 0, 15, .inl mf53)), ((ma 54), .inl (E 0, 15, .inl mf54)), ((ma 55), .inl (E 0, 5, .inl mf55)), ((ma 56), .inl (E 0, 200, .inl mf56)), ((ma 57), .inl (E 0, 600, .inl mf57)), ((ma 59), .inl (E 0, 3, .inl w_20)), ((ma 60), .inl (E 0, 3, .inl w_21))]) [1, 2, 3, 4, 5, 6, 7, 8, 9, 10, 11, 12, 13, 14, 0, 15, 16, 17, 18] (by decide) rfl
                      exact W.iret (v := (-2000000000)) hx hb hr (fun t ht hW => ⟨⟨(-2000000000), (w_18, w_19, w_20, w_21), rfl, trivial, by rw [ht]; exact hP9, hD9⟩, hS.F ht⟩) hS.2.2 dX9_told_242
                  ·
                    have ic_28 : L7_112.toInt < 3 := by first | exact (g_lt rfl t_3).mp c_28 | (have h := mt (g_le t_3 rfl).mpr c_28; omega)
                    clear c_28
                    refine lv_iload hx hb dX9_told_118 (lv_at hl 0 rfl) ?_
                    refine lv_iload hx hb dX9_told_120 (lv_at hl 3 rfl) ?_
                    refine lv_icmp_ne (tgt := 128) hx hb dX9_told_122 (by decide) (fun c_31 => ?_) (fun c_31 => ?_)
                    ·
                      have ic_31 : L7_112.toInt ≠ r_15.toInt := mt (g_eq rfl rfl).mpr c_31
                      clear c_31
                      refine lv_aload_n hx hb dX9_told_128 rfl (lv_at hl 4 rfl) ?_
                      refine va_get (D := D) (ci := 9) (v := .ref (ma 59)) (C := RX9) (T := TX9) (N := 68) hx hb htb iX9 hown hK.1 hP 1 rfl rfl 59 (by decide) (htb _ k_1017) (fun _ h9 => h9) rfl dX9_told_129 ?_
                      refine lv_iload hx hb dX9_told_132 (lv_at hl 0 rfl) ?_
                      refine va_iald hx hb hK.1 hP 17 0 rfl rfl (g_in rfl (by omega) (by omega)) dX9_told_134 ?_
                      refine lv_topi (fun z_32 ez_32 => ?_)
                      have kz_32 := congrArg Int32.toInt ez_32
                      refine lv_aload_n hx hb dX9_told_135 rfl (lv_at hl 4 rfl) ?_
                      refine va_get (D := D) (ci := 9) (v := .ref (ma 60)) (C := RX9) (T := TX9) (N := 68) hx hb htb iX9 hown hK.1 hP 1 rfl rfl 60 (by decide) (htb _ k_1018) (fun _ h9 => h9) rfl dX9_told_136 ?_
                      refine lv_iload hx hb dX9_told_139 (lv_at hl 0 rfl) ?_
                      refine va_iald hx hb hK.1 hP 18 0 rfl rfl (g_in rfl (by omega) (by omega)) dX9_told_141 ?_
                      refine lv_topi (fun z_33 ez_33 => ?_)
                      have kz_33 := congrArg Int32.toInt ez_33
                      refine lv_isub hx hb dX9_told_142 ?_
                      refine lv_topi (fun z_34 ez_34 => ?_)
                      refine lv_iload hx hb dX9_told_143 (lv_at hl 2 rfl) ?_
                      refine lv_icmp_le (tgt := 166) hx hb dX9_told_145 (by decide) (fun c_35 => ?_) (fun c_35 => ?_)
                      ·
                        have ic_35 : z_34.toInt ≤ L5_112.toInt := by first | exact (g_le rfl rfl).mp c_35 | (have h := mt (g_lt rfl rfl).mpr c_35; omega)
                        clear c_35
                        refine lv_iload hx hb dX9_told_166 (lv_at hl 2 rfl) ?_
                        refine lv_istore (lv' := [(5, .int L5_112), (7, .int L7_112), (6, .int L6_112), (4, .int r_15), (0, .ref mh), (1, .int p0), (2, .int p1), (3, .int p2)]) hx hb dX9_told_168 hl (by decide) rfl (fun ls hl => ?_)
                        refine lv_aload_n hx hb dX9_told_170 rfl (lv_at hl 4 rfl) ?_
                        refine va_get (D := D) (ci := 9) (v := .ref (ma 59)) (C := RX9) (T := TX9) (N := 68) hx hb htb iX9 hown hK.1 hP 1 rfl rfl 59 (by decide) (htb _ k_1017) (fun _ h9 => h9) rfl dX9_told_171 ?_
                        refine lv_iload hx hb dX9_told_174 (lv_at hl 1 rfl) ?_
                        refine va_iald hx hb hK.1 hP 17 0 rfl rfl (g_in rfl (by omega) (by omega)) dX9_told_176 ?_
                        refine lv_topi (fun z_36 ez_36 => ?_)
                        have kz_36 := congrArg Int32.toInt ez_36
                        refine lv_aload_n hx hb dX9_told_177 rfl (lv_at hl 4 rfl) ?_
                        refine va_get (D := D) (ci := 9) (v := .ref (ma 60)) (C := RX9) (T := TX9) (N := 68) hx hb htb iX9 hown hK.1 hP 1 rfl rfl 60 (by decide) (htb _ k_1018) (fun _ h9 => h9) rfl dX9_told_178 ?_
                        refine lv_iload hx hb dX9_told_181 (lv_at hl 1 rfl) ?_
                        refine va_iald hx hb hK.1 hP 18 0 rfl rfl (g_in rfl (by omega) (by omega)) dX9_told_183 ?_
                        refine lv_topi (fun z_37 ez_37 => ?_)
                        have kz_37 := congrArg Int32.toInt ez_37
                        refine lv_iadd hx hb dX9_told_184 ?_
                        refine lv_topi (fun z_38 ez_38 => ?_)
                        refine lv_iload hx hb dX9_told_185 (lv_at hl 2 rfl) ?_
                        refine lv_icmp_ge (tgt := 208) hx hb dX9_told_187 (by decide) (fun c_39 => ?_) (fun c_39 => ?_)
                        ·
                          have ic_39 : L6_112.toInt ≤ z_38.toInt := by first | exact (g_le rfl rfl).mp c_39 | (have h := mt (g_lt rfl rfl).mpr c_39; omega)
                          clear c_39
                          refine lv_iload hx hb dX9_told_208 (lv_at hl 2 rfl) ?_
                          refine lv_istore (lv' := [(6, .int L6_112), (5, .int L5_112), (7, .int L7_112), (4, .int r_15), (0, .ref mh), (1, .int p0), (2, .int p1), (3, .int p2)]) hx hb dX9_told_210 hl (by decide) rfl (fun ls hl => ?_)
                          obtain ⟨z_40, ez_40⟩ : ∃ y : Int32, y = L7_112 + 1 := ⟨_, rfl⟩
                          have jz_40 : z_40.toInt = L7_112.toInt + 1 := by rw [ez_40]; exact g_add rfl t_1 (by omega) (by omega)
                          refine lv_iinc (v := z_40) (lv' := [(7, .int z_40), (6, .int L6_112), (5, .int L5_112), (4, .int r_15), (0, .ref mh), (1, .int p0), (2, .int p1), (3, .int p2)]) hx hb dX9_told_212 hl (k := 2) rfl (by rw [ez_40]; rfl) (by decide) rfl (fun ls hl => ?_)
                          refine lv_goto (tgt := 112) hx hb dX9_told_215 (by decide) ?_
                          exact ih_26 z_40 L6_112 L5_112 _ _ _ (by (try dsimp only); omega) (by (try dsimp only); omega) hP hD hS (lv_sub hl [0, 1, 2, 3, 4, 5, 6, 7] rfl)
                        ·
                          have ic_39 : z_38.toInt < L6_112.toInt := by first | exact (g_lt rfl rfl).mp c_39 | (have h := mt (g_le rfl rfl).mpr c_39; omega)
                          clear c_39
                          refine lv_aload_n hx hb dX9_told_190 rfl (lv_at hl 4 rfl) ?_
                          refine va_get (D := D) (ci := 9) (v := .ref (ma 59)) (C := RX9) (T := TX9) (N := 68) hx hb htb iX9 hown hK.1 hP 1 rfl rfl 59 (by decide) (htb _ k_1017) (fun _ h9 => h9) rfl dX9_told_191 ?_
                          refine lv_iload hx hb dX9_told_194 (lv_at hl 1 rfl) ?_
                          refine va_iald hx hb hK.1 hP 17 0 rfl rfl (g_in rfl (by omega) (by omega)) dX9_told_196 ?_
                          refine lv_topi (fun z_41 ez_41 => ?_)
                          have kz_41 := congrArg Int32.toInt ez_41
                          refine lv_aload_n hx hb dX9_told_197 rfl (lv_at hl 4 rfl) ?_
                          refine va_get (D := D) (ci := 9) (v := .ref (ma 60)) (C := RX9) (T := TX9) (N := 68) hx hb htb iX9 hown hK.1 hP 1 rfl rfl 60 (by decide) (htb _ k_1018) (fun _ h9 => h9) rfl dX9_told_198 ?_
                          refine lv_iload hx hb dX9_told_201 (lv_at hl 1 rfl) ?_
                          refine va_iald hx hb hK.1 hP 18 0 rfl rfl (g_in rfl (by omega) (by omega)) dX9_told_203 ?_
                          refine lv_topi (fun z_42 ez_42 => ?_)
                          have kz_42 := congrArg Int32.toInt ez_42
                          refine lv_iadd hx hb dX9_told_204 ?_
                          refine lv_topi (fun z_43 ez_43 => ?_)
                          refine lv_goto (tgt := 210) hx hb dX9_told_205 (by decide) ?_
                          refine lv_istore (lv' := [(6, .int z_43), (5, .int L5_112), (7, .int L7_112), (4, .int r_15), (0, .ref mh), (1, .int p0), (2, .int p1), (3, .int p2)]) hx hb dX9_told_210 hl (by decide) rfl (fun ls hl => ?_)
                          obtain ⟨z_44, ez_44⟩ : ∃ y : Int32, y = L7_112 + 1 := ⟨_, rfl⟩
                          have jz_44 : z_44.toInt = L7_112.toInt + 1 := by rw [ez_44]; exact g_add rfl t_1 (by omega) (by omega)
                          refine lv_iinc (v := z_44) (lv' := [(7, .int z_44), (6, .int z_43), (5, .int L5_112), (4, .int r_15), (0, .ref mh), (1, .int p0), (2, .int p1), (3, .int p2)]) hx hb dX9_told_212 hl (k := 2) rfl (by rw [ez_44]; rfl) (by decide) rfl (fun ls hl => ?_)
                          refine lv_goto (tgt := 112) hx hb dX9_told_215 (by decide) ?_
                          exact ih_26 z_44 z_43 L5_112 _ _ _ (by (try dsimp only); omega) (by (try dsimp only); omega) hP hD hS (lv_sub hl [0, 1, 2, 3, 4, 5, 6, 7] rfl)
                      ·
                        have ic_35 : L5_112.toInt < z_34.toInt := by first | exact (g_lt rfl rfl).mp c_35 | (have h := mt (g_le rfl rfl).mpr c_35; omega)
                        clear c_35
                        refine lv_aload_n hx hb dX9_told_148 rfl (lv_at hl 4 rfl) ?_
                        refine va_get (D := D) (ci := 9) (v := .ref (ma 59)) (C := RX9) (T := TX9) (N := 68) hx hb htb iX9 hown hK.1 hP 1 rfl rfl 59 (by decide) (htb _ k_1017) (fun _ h9 => h9) rfl dX9_told_149 ?_
                        refine lv_iload hx hb dX9_told_152 (lv_at hl 0 rfl) ?_
                        refine va_iald hx hb hK.1 hP 17 0 rfl rfl (g_in rfl (by omega) (by omega)) dX9_told_154 ?_
                        refine lv_topi (fun z_45 ez_45 => ?_)
                        have kz_45 := congrArg Int32.toInt ez_45
                        refine lv_aload_n hx hb dX9_told_155 rfl (lv_at hl 4 rfl) ?_
                        refine va_get (D := D) (ci := 9) (v := .ref (ma 60)) (C := RX9) (T := TX9) (N := 68) hx hb htb iX9 hown hK.1 hP 1 rfl rfl 60 (by decide) (htb _ k_1018) (fun _ h9 => h9) rfl dX9_told_156 ?_
                        refine lv_iload hx hb dX9_told_159 (lv_at hl 0 rfl) ?_
                        refine va_iald hx hb hK.1 hP 18 0 rfl rfl (g_in rfl (by omega) (by omega)) dX9_told_161 ?_
                        refine lv_topi (fun z_46 ez_46 => ?_)
                        have kz_46 := congrArg Int32.toInt ez_46
                        refine lv_isub hx hb dX9_told_162 ?_
                        refine lv_topi (fun z_47 ez_47 => ?_)
                        refine lv_goto (tgt := 168) hx hb dX9_told_163 (by decide) ?_
                        refine lv_istore (lv' := [(5, .int z_47), (7, .int L7_112), (6, .int L6_112), (4, .int r_15), (0, .ref mh), (1, .int p0), (2, .int p1), (3, .int p2)]) hx hb dX9_told_168 hl (by decide) rfl (fun ls hl => ?_)
                        refine lv_aload_n hx hb dX9_told_170 rfl (lv_at hl 4 rfl) ?_
                        refine va_get (D := D) (ci := 9) (v := .ref (ma 59)) (C := RX9) (T := TX9) (N := 68) hx hb htb iX9 hown hK.1 hP 1 rfl rfl 59 (by decide) (htb _ k_1017) (fun _ h9 => h9) rfl dX9_told_171 ?_
                        refine lv_iload hx hb dX9_told_174 (lv_at hl 1 rfl) ?_
                        refine va_iald hx hb hK.1 hP 17 0 rfl rfl (g_in rfl (by omega) (by omega)) dX9_told_176 ?_
                        refine lv_topi (fun z_48 ez_48 => ?_)
                        have kz_48 := congrArg Int32.toInt ez_48
                        refine lv_aload_n hx hb dX9_told_177 rfl (lv_at hl 4 rfl) ?_
                        refine va_get (D := D) (ci := 9) (v := .ref (ma 60)) (C := RX9) (T := TX9) (N := 68) hx hb htb iX9 hown hK.1 hP 1 rfl rfl 60 (by decide) (htb _ k_1018) (fun _ h9 => h9) rfl dX9_told_178 ?_
                        refine lv_iload hx hb dX9_told_181 (lv_at hl 1 rfl) ?_
                        refine va_iald hx hb hK.1 hP 18 0 rfl rfl (g_in rfl (by omega) (by omega)) dX9_told_183 ?_
                        refine lv_topi (fun z_49 ez_49 => ?_)
                        have kz_49 := congrArg Int32.toInt ez_49
                        refine lv_iadd hx hb dX9_told_184 ?_
                        refine lv_topi (fun z_50 ez_50 => ?_)
                        refine lv_iload hx hb dX9_told_185 (lv_at hl 2 rfl) ?_
                        refine lv_icmp_ge (tgt := 208) hx hb dX9_told_187 (by decide) (fun c_51 => ?_) (fun c_51 => ?_)
                        ·
                          have ic_51 : L6_112.toInt ≤ z_50.toInt := by first | exact (g_le rfl rfl).mp c_51 | (have h := mt (g_lt rfl rfl).mpr c_51; omega)
                          clear c_51
                          refine lv_iload hx hb dX9_told_208 (lv_at hl 2 rfl) ?_
                          refine lv_istore (lv' := [(6, .int L6_112), (5, .int z_47), (7, .int L7_112), (4, .int r_15), (0, .ref mh), (1, .int p0), (2, .int p1), (3, .int p2)]) hx hb dX9_told_210 hl (by decide) rfl (fun ls hl => ?_)
                          obtain ⟨z_52, ez_52⟩ : ∃ y : Int32, y = L7_112 + 1 := ⟨_, rfl⟩
                          have jz_52 : z_52.toInt = L7_112.toInt + 1 := by rw [ez_52]; exact g_add rfl t_1 (by omega) (by omega)
                          refine lv_iinc (v := z_52) (lv' := [(7, .int z_52), (6, .int L6_112), (5, .int z_47), (4, .int r_15), (0, .ref mh), (1, .int p0), (2, .int p1), (3, .int p2)]) hx hb dX9_told_212 hl (k := 2) rfl (by rw [ez_52]; rfl) (by decide) rfl (fun ls hl => ?_)
                          refine lv_goto (tgt := 112) hx hb dX9_told_215 (by decide) ?_
                          exact ih_26 z_52 L6_112 z_47 _ _ _ (by (try dsimp only); omega) (by (try dsimp only); omega) hP hD hS (lv_sub hl [0, 1, 2, 3, 4, 5, 6, 7] rfl)
                        ·
                          have ic_51 : z_50.toInt < L6_112.toInt := by first | exact (g_lt rfl rfl).mp c_51 | (have h := mt (g_le rfl rfl).mpr c_51; omega)
                          clear c_51
                          refine lv_aload_n hx hb dX9_told_190 rfl (lv_at hl 4 rfl) ?_
                          refine va_get (D := D) (ci := 9) (v := .ref (ma 59)) (C := RX9) (T := TX9) (N := 68) hx hb htb iX9 hown hK.1 hP 1 rfl rfl 59 (by decide) (htb _ k_1017) (fun _ h9 => h9) rfl dX9_told_191 ?_
                          refine lv_iload hx hb dX9_told_194 (lv_at hl 1 rfl) ?_
                          refine va_iald hx hb hK.1 hP 17 0 rfl rfl (g_in rfl (by omega) (by omega)) dX9_told_196 ?_
                          refine lv_topi (fun z_53 ez_53 => ?_)
                          have kz_53 := congrArg Int32.toInt ez_53
                          refine lv_aload_n hx hb dX9_told_197 rfl (lv_at hl 4 rfl) ?_
                          refine va_get (D := D) (ci := 9) (v := .ref (ma 60)) (C := RX9) (T := TX9) (N := 68) hx hb htb iX9 hown hK.1 hP 1 rfl rfl 60 (by decide) (htb _ k_1018) (fun _ h9 => h9) rfl dX9_told_198 ?_
                          refine lv_iload hx hb dX9_told_201 (lv_at hl 1 rfl) ?_
                          refine va_iald hx hb hK.1 hP 18 0 rfl rfl (g_in rfl (by omega) (by omega)) dX9_told_203 ?_
                          refine lv_topi (fun z_54 ez_54 => ?_)
                          have kz_54 := congrArg Int32.toInt ez_54
                          refine lv_iadd hx hb dX9_told_204 ?_
                          refine lv_topi (fun z_55 ez_55 => ?_)
                          refine lv_goto (tgt := 210) hx hb dX9_told_205 (by decide) ?_
                          refine lv_istore (lv' := [(6, .int z_55), (5, .int z_47), (7, .int L7_112), (4, .int r_15), (0, .ref mh), (1, .int p0), (2, .int p1), (3, .int p2)]) hx hb dX9_told_210 hl (by decide) rfl (fun ls hl => ?_)
                          obtain ⟨z_56, ez_56⟩ : ∃ y : Int32, y = L7_112 + 1 := ⟨_, rfl⟩
                          have jz_56 : z_56.toInt = L7_112.toInt + 1 := by rw [ez_56]; exact g_add rfl t_1 (by omega) (by omega)
                          refine lv_iinc (v := z_56) (lv' := [(7, .int z_56), (6, .int z_55), (5, .int z_47), (4, .int r_15), (0, .ref mh), (1, .int p0), (2, .int p1), (3, .int p2)]) hx hb dX9_told_212 hl (k := 2) rfl (by rw [ez_56]; rfl) (by decide) rfl (fun ls hl => ?_)
                          refine lv_goto (tgt := 112) hx hb dX9_told_215 (by decide) ?_
                          exact ih_26 z_56 z_55 z_47 _ _ _ (by (try dsimp only); omega) (by (try dsimp only); omega) hP hD hS (lv_sub hl [0, 1, 2, 3, 4, 5, 6, 7] rfl)
                    ·
                      have ic_31 : L7_112.toInt = r_15.toInt := (g_eq rfl rfl).mp c_31
                      clear c_31
                      refine lv_goto (tgt := 212) hx hb dX9_told_125 (by decide) ?_
                      obtain ⟨z_57, ez_57⟩ : ∃ y : Int32, y = L7_112 + 1 := ⟨_, rfl⟩
                      have jz_57 : z_57.toInt = L7_112.toInt + 1 := by rw [ez_57]; exact g_add rfl t_1 (by omega) (by omega)
                      refine lv_iinc (v := z_57) (lv' := [(7, .int z_57), (6, .int L6_112), (5, .int L5_112), (4, .int r_15), (0, .ref mh), (1, .int p0), (2, .int p1), (3, .int p2)]) hx hb dX9_told_212 hl (k := 0) rfl (by rw [ez_57]; rfl) (by decide) rfl (fun ls hl => ?_)
                      refine lv_goto (tgt := 112) hx hb dX9_told_215 (by decide) ?_
                      exact ih_26 z_57 L6_112 L5_112 _ _ _ (by (try dsimp only); omega) (by (try dsimp only); omega) hP hD hS (lv_sub hl [0, 1, 2, 3, 4, 5, 6, 7] rfl)
              exact loop_25 4 0 2000000000 ((-2000000000)) _ _ _ (by have h0 := t_m2000000000; have h1 := t_0; have h2 := t_2000000000; (try dsimp only); omega) (by have h0 := t_m2000000000; have h1 := t_0; have h2 := t_2000000000; (try dsimp only); omega) hP hD hS (lv_sub hl [0, 1, 2, 3, 4, 5, 6, 7] rfl)
            ·
              have ic_24 : 4 ≤ p2.toInt := by first | exact (g_le t_4 rfl).mp c_24 | (have h := mt (g_lt rfl t_4).mpr c_24; omega)
              clear c_24
              refine lv_iload_n hx hb dX9_told_73 rfl (lv_at hl 4 rfl) ?_
              refine lv_bipush (v := 7) hx hb dX9_told_74 (by decide) ?_
              refine lv_icmp_ge (tgt := 90) hx hb dX9_told_76 (by decide) (fun c_58 => ?_) (fun c_58 => ?_)
              ·
                have ic_58 : 7 ≤ p2.toInt := by first | exact (g_le t_7 rfl).mp c_58 | (have h := mt (g_lt rfl t_7).mpr c_58; omega)
                clear c_58
                refine lv_aload_n hx hb dX9_told_90 rfl (lv_at hl 1 rfl) ?_
                refine va_get (D := D) (ci := 9) (v := .ref (ma 60)) (C := RX9) (T := TX9) (N := 68) hx hb htb iX9 hown hK.1 hP 1 rfl rfl 60 (by decide) (htb _ k_1018) (fun _ h9 => h9) rfl dX9_told_91 ?_
                refine lv_iload_n hx hb dX9_told_94 rfl (lv_at hl 4 rfl) ?_
                refine lv_bipush (v := 7) hx hb dX9_told_95 (by decide) ?_
                refine lv_isub hx hb dX9_told_97 ?_
                refine lv_topi (fun z_59 ez_59 => ?_)
                have jz_59 : z_59.toInt = p2.toInt - 7 := by rw [ez_59]; exact g_sub rfl t_7 (by omega) (by omega)
                refine va_iald hx hb hK.1 hP 18 0 rfl rfl (g_in rfl (by omega) (by omega)) dX9_told_98 ?_
                refine lv_topi (fun z_60 ez_60 => ?_)
                have kz_60 := congrArg Int32.toInt ez_60
                have hP9 := hP.sub (ws' := [(mh, .inr (9, G9 ma mcode mtoday moffs mmany msumW msumA msumR msumWW msumWA msumAA msumWR msumAR mupper mlower mrates mtaped mlaid mat mtk mtkAt mtkNumber mwaits mlisted mdealtMany)), ((ma 34), .inl (E 1, 2, .inl mf34)), ((ma 35), .inl (E 0, 2, .inl mf35)), ((ma 36), .inl (E 0, 384, .inl mf36)), ((ma 37), .inl (E 0, 384, .inl mf37)), ((ma 45), .inl (E 0, 130, .inl w_18)), ((ma 46), .inl (E 0, 24, .inl w_19)), ((ma 47), .inl (E 0, 5, .inl mf47)), ((ma 48), .inl (E 0, 5, .inl mf48)), ((ma 49), .inl (E 0, 5, .inl mf49)), ((ma 51), .inl (E 0, 15, .inl mf51)), ((ma 52), .inl (E 0, 15, .inl mf52)), ((ma 53), .inl (E 0, 15, .inl mf53)), ((ma 54), .inl (E 0, 15, .inl mf54)), ((ma 55), .inl (E 0, 5, .inl mf55)), ((ma 56), .inl (E 0, 200, .inl mf56)), ((ma 57), .inl (E 0, 600, .inl mf57)), ((ma 59), .inl (E 0, 3, .inl w_20)), ((ma 60), .inl (E 0, 3, .inl w_21))]) [1, 2, 3, 4, 5, 6, 7, 8, 9, 10, 11, 12, 13, 14, 0, 15, 16, 17, 18] rfl
                have hD9 := hD.sub (ws' := [(mh, .inr (9, G9 ma mcode mtoday moffs mmany msumW msumA msumR msumWW msumWA msumAA msumWR msumAR mupper mlower mrates mtaped mlaid mat mtk mtkAt mtkNumber mwaits mlisted mdealtMany)), ((ma 34), .inl (E 1, 2, .inl mf34)), ((ma 35), .inl (E 0, 2, .inl mf35)), ((ma 36), .inl (E 0, 384, .inl mf36)), ((ma 37), .inl (E 0, 384, .inl mf37)), ((ma 45), .inl (E 0, 130, .inl w_18)), ((ma 46), .inl (E 0, 24, .inl w_19)), ((ma 47), .inl (E 0, 5, .inl mf47)), ((ma 48), .inl (E 0, 5, .inl mf48)), ((ma 49), .inl (E 0, 5, .inl mf49)), ((ma 51), .inl (E 0, 15, .inl mf51)), ((ma 52), .inl (E 0, 15, .inl mf52)), ((ma 53), .inl (E 0, 15, .inl mf53)), ((ma 54), .inl (E 0, 15, .inl mf54)), ((ma 55), .inl (E 0, 5, .inl mf55)), ((ma 56), .inl (E 0, 200, .inl mf56)), ((ma 57), .inl (E 0, 600, .inl mf57)), ((ma 59), .inl (E 0, 3, .inl w_20)), ((ma 60), .inl (E 0, 3, .inl w_21))]) [1, 2, 3, 4, 5, 6, 7, 8, 9, 10, 11, 12, 13, 14, 0, 15, 16, 17, 18] (by decide) rfl
                exact W.iret (v := z_60) hx hb hr (fun t ht hW => ⟨⟨z_60, (w_18, w_19, w_20, w_21), rfl, trivial, by rw [ht]; exact hP9, hD9⟩, hS.F ht⟩) hS.2.2 dX9_told_99
              ·
                have ic_58 : p2.toInt < 7 := by first | exact (g_lt rfl t_7).mp c_58 | (have h := mt (g_le t_7 rfl).mpr c_58; omega)
                clear c_58
                refine lv_aload_n hx hb dX9_told_79 rfl (lv_at hl 1 rfl) ?_
                refine va_get (D := D) (ci := 9) (v := .ref (ma 59)) (C := RX9) (T := TX9) (N := 68) hx hb htb iX9 hown hK.1 hP 1 rfl rfl 59 (by decide) (htb _ k_1017) (fun _ h9 => h9) rfl dX9_told_80 ?_
                refine lv_iload_n hx hb dX9_told_83 rfl (lv_at hl 4 rfl) ?_
                refine lv_iconst (v := 4) hx hb dX9_told_84 (by decide) ?_
                refine lv_isub hx hb dX9_told_85 ?_
                refine lv_topi (fun z_61 ez_61 => ?_)
                have jz_61 : z_61.toInt = p2.toInt - 4 := by rw [ez_61]; exact g_sub rfl t_4 (by omega) (by omega)
                refine va_iald hx hb hK.1 hP 17 0 rfl rfl (g_in rfl (by omega) (by omega)) dX9_told_86 ?_
                refine lv_topi (fun z_62 ez_62 => ?_)
                have kz_62 := congrArg Int32.toInt ez_62
                refine lv_goto (tgt := 99) hx hb dX9_told_87 (by decide) ?_
                have hP9 := hP.sub (ws' := [(mh, .inr (9, G9 ma mcode mtoday moffs mmany msumW msumA msumR msumWW msumWA msumAA msumWR msumAR mupper mlower mrates mtaped mlaid mat mtk mtkAt mtkNumber mwaits mlisted mdealtMany)), ((ma 34), .inl (E 1, 2, .inl mf34)), ((ma 35), .inl (E 0, 2, .inl mf35)), ((ma 36), .inl (E 0, 384, .inl mf36)), ((ma 37), .inl (E 0, 384, .inl mf37)), ((ma 45), .inl (E 0, 130, .inl w_18)), ((ma 46), .inl (E 0, 24, .inl w_19)), ((ma 47), .inl (E 0, 5, .inl mf47)), ((ma 48), .inl (E 0, 5, .inl mf48)), ((ma 49), .inl (E 0, 5, .inl mf49)), ((ma 51), .inl (E 0, 15, .inl mf51)), ((ma 52), .inl (E 0, 15, .inl mf52)), ((ma 53), .inl (E 0, 15, .inl mf53)), ((ma 54), .inl (E 0, 15, .inl mf54)), ((ma 55), .inl (E 0, 5, .inl mf55)), ((ma 56), .inl (E 0, 200, .inl mf56)), ((ma 57), .inl (E 0, 600, .inl mf57)), ((ma 59), .inl (E 0, 3, .inl w_20)), ((ma 60), .inl (E 0, 3, .inl w_21))]) [1, 2, 3, 4, 5, 6, 7, 8, 9, 10, 11, 12, 13, 14, 0, 15, 16, 17, 18] rfl
                have hD9 := hD.sub (ws' := [(mh, .inr (9, G9 ma mcode mtoday moffs mmany msumW msumA msumR msumWW msumWA msumAA msumWR msumAR mupper mlower mrates mtaped mlaid mat mtk mtkAt mtkNumber mwaits mlisted mdealtMany)), ((ma 34), .inl (E 1, 2, .inl mf34)), ((ma 35), .inl (E 0, 2, .inl mf35)), ((ma 36), .inl (E 0, 384, .inl mf36)), ((ma 37), .inl (E 0, 384, .inl mf37)), ((ma 45), .inl (E 0, 130, .inl w_18)), ((ma 46), .inl (E 0, 24, .inl w_19)), ((ma 47), .inl (E 0, 5, .inl mf47)), ((ma 48), .inl (E 0, 5, .inl mf48)), ((ma 49), .inl (E 0, 5, .inl mf49)), ((ma 51), .inl (E 0, 15, .inl mf51)), ((ma 52), .inl (E 0, 15, .inl mf52)), ((ma 53), .inl (E 0, 15, .inl mf53)), ((ma 54), .inl (E 0, 15, .inl mf54)), ((ma 55), .inl (E 0, 5, .inl mf55)), ((ma 56), .inl (E 0, 200, .inl mf56)), ((ma 57), .inl (E 0, 600, .inl mf57)), ((ma 59), .inl (E 0, 3, .inl w_20)), ((ma 60), .inl (E 0, 3, .inl w_21))]) [1, 2, 3, 4, 5, 6, 7, 8, 9, 10, 11, 12, 13, 14, 0, 15, 16, 17, 18] (by decide) rfl
                exact W.iret (v := z_62) hx hb hr (fun t ht hW => ⟨⟨z_62, (w_18, w_19, w_20, w_21), rfl, trivial, by rw [ht]; exact hP9, hD9⟩, hS.F ht⟩) hS.2.2 dX9_told_99
          ·
            have ic_23 : p2.toInt = 1 := (g_eq rfl t_1).mp c_23
            clear c_23
            refine lv_iload hx hb dX9_told_65 (lv_at hl 0 rfl) ?_
            have hP9 := hP.sub (ws' := [(mh, .inr (9, G9 ma mcode mtoday moffs mmany msumW msumA msumR msumWW msumWA msumAA msumWR msumAR mupper mlower mrates mtaped mlaid mat mtk mtkAt mtkNumber mwaits mlisted mdealtMany)), ((ma 34), .inl (E 1, 2, .inl mf34)), ((ma 35), .inl (E 0, 2, .inl mf35)), ((ma 36), .inl (E 0, 384, .inl mf36)), ((ma 37), .inl (E 0, 384, .inl mf37)), ((ma 45), .inl (E 0, 130, .inl w_18)), ((ma 46), .inl (E 0, 24, .inl w_19)), ((ma 47), .inl (E 0, 5, .inl mf47)), ((ma 48), .inl (E 0, 5, .inl mf48)), ((ma 49), .inl (E 0, 5, .inl mf49)), ((ma 51), .inl (E 0, 15, .inl mf51)), ((ma 52), .inl (E 0, 15, .inl mf52)), ((ma 53), .inl (E 0, 15, .inl mf53)), ((ma 54), .inl (E 0, 15, .inl mf54)), ((ma 55), .inl (E 0, 5, .inl mf55)), ((ma 56), .inl (E 0, 200, .inl mf56)), ((ma 57), .inl (E 0, 600, .inl mf57)), ((ma 59), .inl (E 0, 3, .inl w_20)), ((ma 60), .inl (E 0, 3, .inl w_21))]) [1, 2, 3, 4, 5, 6, 7, 8, 9, 10, 11, 12, 13, 14, 0, 15, 16, 17, 18] rfl
            have hD9 := hD.sub (ws' := [(mh, .inr (9, G9 ma mcode mtoday moffs mmany msumW msumA msumR msumWW msumWA msumAA msumWR msumAR mupper mlower mrates mtaped mlaid mat mtk mtkAt mtkNumber mwaits mlisted mdealtMany)), ((ma 34), .inl (E 1, 2, .inl mf34)), ((ma 35), .inl (E 0, 2, .inl mf35)), ((ma 36), .inl (E 0, 384, .inl mf36)), ((ma 37), .inl (E 0, 384, .inl mf37)), ((ma 45), .inl (E 0, 130, .inl w_18)), ((ma 46), .inl (E 0, 24, .inl w_19)), ((ma 47), .inl (E 0, 5, .inl mf47)), ((ma 48), .inl (E 0, 5, .inl mf48)), ((ma 49), .inl (E 0, 5, .inl mf49)), ((ma 51), .inl (E 0, 15, .inl mf51)), ((ma 52), .inl (E 0, 15, .inl mf52)), ((ma 53), .inl (E 0, 15, .inl mf53)), ((ma 54), .inl (E 0, 15, .inl mf54)), ((ma 55), .inl (E 0, 5, .inl mf55)), ((ma 56), .inl (E 0, 200, .inl mf56)), ((ma 57), .inl (E 0, 600, .inl mf57)), ((ma 59), .inl (E 0, 3, .inl w_20)), ((ma 60), .inl (E 0, 3, .inl w_21))]) [1, 2, 3, 4, 5, 6, 7, 8, 9, 10, 11, 12, 13, 14, 0, 15, 16, 17, 18] (by decide) rfl
            exact W.iret (v := r_15) hx hb hr (fun t ht hW => ⟨⟨r_15, (w_18, w_19, w_20, w_21), rfl, trivial, by rw [ht]; exact hP9, hD9⟩, hS.F ht⟩) hS.2.2 dX9_told_67
        ·
          have ic_22 : p2.toInt = 0 := (g_eq rfl t_0).mp c_22
          clear c_22
          refine lv_aload_n hx hb dX9_told_48 rfl (lv_at hl 1 rfl) ?_
          refine va_get (D := D) (ci := 9) (v := .ref (ma 56)) (C := RX9) (T := TX9) (N := 68) hx hb htb iX9 hown hK.1 hP 1 rfl rfl 56 (by decide) (htb _ k_1014) (fun _ h9 => h9) rfl dX9_told_49 ?_
          refine lv_bipush (v := 40) hx hb dX9_told_52 (by decide) ?_
          refine lv_iload_n hx hb dX9_told_54 rfl (lv_at hl 2 rfl) ?_
          refine lv_imul hx hb dX9_told_55 ?_
          refine lv_topi (fun z_63 ez_63 => ?_)
          have jz_63 : z_63.toInt = 40 * p0.toInt := by rw [ez_63]; exact g_mul t_40 rfl (by omega) (by omega)
          refine lv_iload_n hx hb dX9_told_56 rfl (lv_at hl 3 rfl) ?_
          refine lv_iadd hx hb dX9_told_57 ?_
          refine lv_topi (fun z_64 ez_64 => ?_)
          have jz_64 : z_64.toInt = z_63.toInt + p1.toInt := by rw [ez_64]; exact g_add rfl rfl (by omega) (by omega)
          refine va_iald hx hb hK.1 hP 15 0 rfl rfl (g_in rfl (by omega) (by omega)) dX9_told_58 ?_
          refine lv_topi (fun z_65 ez_65 => ?_)
          have kz_65 := congrArg Int32.toInt ez_65
          have hP9 := hP.sub (ws' := [(mh, .inr (9, G9 ma mcode mtoday moffs mmany msumW msumA msumR msumWW msumWA msumAA msumWR msumAR mupper mlower mrates mtaped mlaid mat mtk mtkAt mtkNumber mwaits mlisted mdealtMany)), ((ma 34), .inl (E 1, 2, .inl mf34)), ((ma 35), .inl (E 0, 2, .inl mf35)), ((ma 36), .inl (E 0, 384, .inl mf36)), ((ma 37), .inl (E 0, 384, .inl mf37)), ((ma 45), .inl (E 0, 130, .inl w_18)), ((ma 46), .inl (E 0, 24, .inl w_19)), ((ma 47), .inl (E 0, 5, .inl mf47)), ((ma 48), .inl (E 0, 5, .inl mf48)), ((ma 49), .inl (E 0, 5, .inl mf49)), ((ma 51), .inl (E 0, 15, .inl mf51)), ((ma 52), .inl (E 0, 15, .inl mf52)), ((ma 53), .inl (E 0, 15, .inl mf53)), ((ma 54), .inl (E 0, 15, .inl mf54)), ((ma 55), .inl (E 0, 5, .inl mf55)), ((ma 56), .inl (E 0, 200, .inl mf56)), ((ma 57), .inl (E 0, 600, .inl mf57)), ((ma 59), .inl (E 0, 3, .inl w_20)), ((ma 60), .inl (E 0, 3, .inl w_21))]) [1, 2, 3, 4, 5, 6, 7, 8, 9, 10, 11, 12, 13, 14, 0, 15, 16, 17, 18] rfl
          have hD9 := hD.sub (ws' := [(mh, .inr (9, G9 ma mcode mtoday moffs mmany msumW msumA msumR msumWW msumWA msumAA msumWR msumAR mupper mlower mrates mtaped mlaid mat mtk mtkAt mtkNumber mwaits mlisted mdealtMany)), ((ma 34), .inl (E 1, 2, .inl mf34)), ((ma 35), .inl (E 0, 2, .inl mf35)), ((ma 36), .inl (E 0, 384, .inl mf36)), ((ma 37), .inl (E 0, 384, .inl mf37)), ((ma 45), .inl (E 0, 130, .inl w_18)), ((ma 46), .inl (E 0, 24, .inl w_19)), ((ma 47), .inl (E 0, 5, .inl mf47)), ((ma 48), .inl (E 0, 5, .inl mf48)), ((ma 49), .inl (E 0, 5, .inl mf49)), ((ma 51), .inl (E 0, 15, .inl mf51)), ((ma 52), .inl (E 0, 15, .inl mf52)), ((ma 53), .inl (E 0, 15, .inl mf53)), ((ma 54), .inl (E 0, 15, .inl mf54)), ((ma 55), .inl (E 0, 5, .inl mf55)), ((ma 56), .inl (E 0, 200, .inl mf56)), ((ma 57), .inl (E 0, 600, .inl mf57)), ((ma 59), .inl (E 0, 3, .inl w_20)), ((ma 60), .inl (E 0, 3, .inl w_21))]) [1, 2, 3, 4, 5, 6, 7, 8, 9, 10, 11, 12, 13, 14, 0, 15, 16, 17, 18] (by decide) rfl
          exact W.iret (v := z_65) hx hb hr (fun t ht hW => ⟨⟨z_65, (w_18, w_19, w_20, w_21), rfl, trivial, by rw [ht]; exact hP9, hD9⟩, hS.F ht⟩) hS.2.2 dX9_told_59
      ·
        try simp only [t_0, t_9] at hw_12
        refine W_top (y := .int 0) (by rw [hr_11]) ?_
        refine lv_if_ne (tgt := 36) hx hb dX9_told_30 (by decide) (fun c_66 => absurd (by decide) c_66) (fun c_66 => ?_)
        refine lv_ldc hx hb hown (htb _ k_1205) dX9_told_33 ?_
        have hP9 := hP.sub (ws' := [(mh, .inr (9, G9 ma mcode mtoday moffs mmany msumW msumA msumR msumWW msumWA msumAA msumWR msumAR mupper mlower mrates mtaped mlaid mat mtk mtkAt mtkNumber mwaits mlisted mdealtMany)), ((ma 34), .inl (E 1, 2, .inl mf34)), ((ma 35), .inl (E 0, 2, .inl mf35)), ((ma 36), .inl (E 0, 384, .inl mf36)), ((ma 37), .inl (E 0, 384, .inl mf37)), ((ma 45), .inl (E 0, 130, .inl mf45)), ((ma 46), .inl (E 0, 24, .inl mf46)), ((ma 47), .inl (E 0, 5, .inl mf47)), ((ma 48), .inl (E 0, 5, .inl mf48)), ((ma 49), .inl (E 0, 5, .inl mf49)), ((ma 51), .inl (E 0, 15, .inl mf51)), ((ma 52), .inl (E 0, 15, .inl mf52)), ((ma 53), .inl (E 0, 15, .inl mf53)), ((ma 54), .inl (E 0, 15, .inl mf54)), ((ma 55), .inl (E 0, 5, .inl mf55)), ((ma 56), .inl (E 0, 200, .inl mf56)), ((ma 57), .inl (E 0, 600, .inl mf57)), ((ma 59), .inl (E 0, 3, .inl mf59)), ((ma 60), .inl (E 0, 3, .inl mf60))]) [0, 1, 2, 3, 4, 5, 6, 7, 8, 9, 10, 11, 12, 13, 14, 15, 16, 17, 18] rfl
        have hD9 := hD.sub (ws' := [(mh, .inr (9, G9 ma mcode mtoday moffs mmany msumW msumA msumR msumWW msumWA msumAA msumWR msumAR mupper mlower mrates mtaped mlaid mat mtk mtkAt mtkNumber mwaits mlisted mdealtMany)), ((ma 34), .inl (E 1, 2, .inl mf34)), ((ma 35), .inl (E 0, 2, .inl mf35)), ((ma 36), .inl (E 0, 384, .inl mf36)), ((ma 37), .inl (E 0, 384, .inl mf37)), ((ma 45), .inl (E 0, 130, .inl mf45)), ((ma 46), .inl (E 0, 24, .inl mf46)), ((ma 47), .inl (E 0, 5, .inl mf47)), ((ma 48), .inl (E 0, 5, .inl mf48)), ((ma 49), .inl (E 0, 5, .inl mf49)), ((ma 51), .inl (E 0, 15, .inl mf51)), ((ma 52), .inl (E 0, 15, .inl mf52)), ((ma 53), .inl (E 0, 15, .inl mf53)), ((ma 54), .inl (E 0, 15, .inl mf54)), ((ma 55), .inl (E 0, 5, .inl mf55)), ((ma 56), .inl (E 0, 200, .inl mf56)), ((ma 57), .inl (E 0, 600, .inl mf57)), ((ma 59), .inl (E 0, 3, .inl mf59)), ((ma 60), .inl (E 0, 3, .inl mf60))]) [0, 1, 2, 3, 4, 5, 6, 7, 8, 9, 10, 11, 12, 13, 14, 15, 16, 17, 18] (by decide) rfl
        exact W.iret (v := (-2000000000)) hx hb hr (fun t ht hW => ⟨⟨(-2000000000), (mf45, mf46, mf59, mf60), rfl, trivial, by rw [ht]; exact hP9, hD9⟩, hS.F ht⟩) hS.2.2 dX9_told_35
    ·
      try simp only [t_0] at hw_8
      refine W_top (y := .int 0) (by rw [hr_7]) ?_
      refine lv_if_eq (tgt := 33) hx hb dX9_told_20 (by decide) (fun c_67 => ?_) (fun c_67 => absurd (by decide) c_67)
      refine lv_ldc hx hb hown (htb _ k_1205) dX9_told_33 ?_
      have hP9 := hP.sub (ws' := [(mh, .inr (9, G9 ma mcode mtoday moffs mmany msumW msumA msumR msumWW msumWA msumAA msumWR msumAR mupper mlower mrates mtaped mlaid mat mtk mtkAt mtkNumber mwaits mlisted mdealtMany)), ((ma 34), .inl (E 1, 2, .inl mf34)), ((ma 35), .inl (E 0, 2, .inl mf35)), ((ma 36), .inl (E 0, 384, .inl mf36)), ((ma 37), .inl (E 0, 384, .inl mf37)), ((ma 45), .inl (E 0, 130, .inl mf45)), ((ma 46), .inl (E 0, 24, .inl mf46)), ((ma 47), .inl (E 0, 5, .inl mf47)), ((ma 48), .inl (E 0, 5, .inl mf48)), ((ma 49), .inl (E 0, 5, .inl mf49)), ((ma 51), .inl (E 0, 15, .inl mf51)), ((ma 52), .inl (E 0, 15, .inl mf52)), ((ma 53), .inl (E 0, 15, .inl mf53)), ((ma 54), .inl (E 0, 15, .inl mf54)), ((ma 55), .inl (E 0, 5, .inl mf55)), ((ma 56), .inl (E 0, 200, .inl mf56)), ((ma 57), .inl (E 0, 600, .inl mf57)), ((ma 59), .inl (E 0, 3, .inl mf59)), ((ma 60), .inl (E 0, 3, .inl mf60))]) [0, 1, 2, 3, 4, 5, 6, 7, 8, 9, 10, 11, 12, 13, 14, 15, 16, 17, 18] rfl
      have hD9 := hD.sub (ws' := [(mh, .inr (9, G9 ma mcode mtoday moffs mmany msumW msumA msumR msumWW msumWA msumAA msumWR msumAR mupper mlower mrates mtaped mlaid mat mtk mtkAt mtkNumber mwaits mlisted mdealtMany)), ((ma 34), .inl (E 1, 2, .inl mf34)), ((ma 35), .inl (E 0, 2, .inl mf35)), ((ma 36), .inl (E 0, 384, .inl mf36)), ((ma 37), .inl (E 0, 384, .inl mf37)), ((ma 45), .inl (E 0, 130, .inl mf45)), ((ma 46), .inl (E 0, 24, .inl mf46)), ((ma 47), .inl (E 0, 5, .inl mf47)), ((ma 48), .inl (E 0, 5, .inl mf48)), ((ma 49), .inl (E 0, 5, .inl mf49)), ((ma 51), .inl (E 0, 15, .inl mf51)), ((ma 52), .inl (E 0, 15, .inl mf52)), ((ma 53), .inl (E 0, 15, .inl mf53)), ((ma 54), .inl (E 0, 15, .inl mf54)), ((ma 55), .inl (E 0, 5, .inl mf55)), ((ma 56), .inl (E 0, 200, .inl mf56)), ((ma 57), .inl (E 0, 600, .inl mf57)), ((ma 59), .inl (E 0, 3, .inl mf59)), ((ma 60), .inl (E 0, 3, .inl mf60))]) [0, 1, 2, 3, 4, 5, 6, 7, 8, 9, 10, 11, 12, 13, 14, 15, 16, 17, 18] (by decide) rfl
      exact W.iret (v := (-2000000000)) hx hb hr (fun t ht hW => ⟨⟨(-2000000000), (mf45, mf46, mf59, mf60), rfl, trivial, by rw [ht]; exact hP9, hD9⟩, hS.F ht⟩) hS.2.2 dX9_told_35
  ·
    refine W_top (y := .int 0) (by rw [hr_1]) ?_
    refine lv_if_eq (tgt := 33) hx hb dX9_told_4 (by decide) (fun c_68 => ?_) (fun c_68 => absurd (by decide) c_68)
    refine lv_ldc hx hb hown (htb _ k_1205) dX9_told_33 ?_
    have hP9 := hP.sub (ws' := [(mh, .inr (9, G9 ma mcode mtoday moffs mmany msumW msumA msumR msumWW msumWA msumAA msumWR msumAR mupper mlower mrates mtaped mlaid mat mtk mtkAt mtkNumber mwaits mlisted mdealtMany)), ((ma 34), .inl (E 1, 2, .inl mf34)), ((ma 35), .inl (E 0, 2, .inl mf35)), ((ma 36), .inl (E 0, 384, .inl mf36)), ((ma 37), .inl (E 0, 384, .inl mf37)), ((ma 45), .inl (E 0, 130, .inl mf45)), ((ma 46), .inl (E 0, 24, .inl mf46)), ((ma 47), .inl (E 0, 5, .inl mf47)), ((ma 48), .inl (E 0, 5, .inl mf48)), ((ma 49), .inl (E 0, 5, .inl mf49)), ((ma 51), .inl (E 0, 15, .inl mf51)), ((ma 52), .inl (E 0, 15, .inl mf52)), ((ma 53), .inl (E 0, 15, .inl mf53)), ((ma 54), .inl (E 0, 15, .inl mf54)), ((ma 55), .inl (E 0, 5, .inl mf55)), ((ma 56), .inl (E 0, 200, .inl mf56)), ((ma 57), .inl (E 0, 600, .inl mf57)), ((ma 59), .inl (E 0, 3, .inl mf59)), ((ma 60), .inl (E 0, 3, .inl mf60))]) [0, 1, 2, 3, 4, 5, 6, 7, 8, 9, 10, 11, 12, 13, 14, 15, 16, 17, 18] rfl
    have hD9 := hD.sub (ws' := [(mh, .inr (9, G9 ma mcode mtoday moffs mmany msumW msumA msumR msumWW msumWA msumAA msumWR msumAR mupper mlower mrates mtaped mlaid mat mtk mtkAt mtkNumber mwaits mlisted mdealtMany)), ((ma 34), .inl (E 1, 2, .inl mf34)), ((ma 35), .inl (E 0, 2, .inl mf35)), ((ma 36), .inl (E 0, 384, .inl mf36)), ((ma 37), .inl (E 0, 384, .inl mf37)), ((ma 45), .inl (E 0, 130, .inl mf45)), ((ma 46), .inl (E 0, 24, .inl mf46)), ((ma 47), .inl (E 0, 5, .inl mf47)), ((ma 48), .inl (E 0, 5, .inl mf48)), ((ma 49), .inl (E 0, 5, .inl mf49)), ((ma 51), .inl (E 0, 15, .inl mf51)), ((ma 52), .inl (E 0, 15, .inl mf52)), ((ma 53), .inl (E 0, 15, .inl mf53)), ((ma 54), .inl (E 0, 15, .inl mf54)), ((ma 55), .inl (E 0, 5, .inl mf55)), ((ma 56), .inl (E 0, 200, .inl mf56)), ((ma 57), .inl (E 0, 600, .inl mf57)), ((ma 59), .inl (E 0, 3, .inl mf59)), ((ma 60), .inl (E 0, 3, .inl mf60))]) [0, 1, 2, 3, 4, 5, 6, 7, 8, 9, 10, 11, 12, 13, 14, 15, 16, 17, 18] (by decide) rfl
    exact W.iret (v := (-2000000000)) hx hb hr (fun t ht hW => ⟨⟨(-2000000000), (mf45, mf46, mf59, mf60), rfl, trivial, by rw [ht]; exact hP9, hD9⟩, hS.F ht⟩) hS.2.2 dX9_told_35
end
section
def RJ0 : String := "java/lang/String"
def RJ1 : String := "java/lang/StringLatin1"
def RJ2 : String := "java/lang/StringUTF16"
def RJ3 : String := "jdk/internal/util/Preconditions"
def RJ9 : String := "java/lang/Math"
abbrev cJ9_floorDiv_7cf53 : ByteArray := prog_12_method_47_code
def yJ9_floorDiv_7cf53 : MethodName := ⟨RJ9, "floorDiv", "(II)I"⟩
abbrev cJ9_floorDiv_f86c9 : ByteArray := prog_12_method_49_code
def yJ9_floorDiv_f86c9 : MethodName := ⟨RJ9, "floorDiv", "(JJ)J"⟩
abbrev cJ9_floorMod_f86c9 : ByteArray := prog_12_method_52_code
def yJ9_floorMod_f86c9 : MethodName := ⟨RJ9, "floorMod", "(JJ)J"⟩
abbrev cJ9_abs_0f7a4 : ByteArray := prog_12_method_59_code
def yJ9_abs_0f7a4 : MethodName := ⟨RJ9, "abs", "(I)I"⟩
abbrev cJ9_abs_067f4 : ByteArray := prog_12_method_61_code
def yJ9_abs_067f4 : MethodName := ⟨RJ9, "abs", "(J)J"⟩
abbrev cJ9_max_7cf53 : ByteArray := prog_12_method_65_code
def yJ9_max_7cf53 : MethodName := ⟨RJ9, "max", "(II)I"⟩
abbrev cJ9_min_7cf53 : ByteArray := prog_12_method_69_code
def yJ9_min_7cf53 : MethodName := ⟨RJ9, "min", "(II)I"⟩
abbrev cJ0_length_8abf5 : ByteArray := prog_13_method_54_code
def yJ0_length_8abf5 : MethodName := ⟨RJ0, "length", "()I"⟩
abbrev cJ0_charAt_5068e : ByteArray := prog_13_method_56_code
def yJ0_charAt_5068e : MethodName := ⟨RJ0, "charAt", "(I)C"⟩
abbrev cJ0_coder_7d493 : ByteArray := prog_13_method_152_code
def yJ0_coder_7d493 : MethodName := ⟨RJ0, "coder", "()B"⟩
abbrev cJ0_isLatin1_aae02 : ByteArray := prog_13_method_154_code
def yJ0_isLatin1_aae02 : MethodName := ⟨RJ0, "isLatin1", "()Z"⟩
abbrev cJ0_checkIndex_df160 : ByteArray := prog_13_method_155_code
def yJ0_checkIndex_df160 : MethodName := ⟨RJ0, "checkIndex", "(II)V"⟩
abbrev cJ1_charAt_3b067 : ByteArray := prog_14_method_2_code
def yJ1_charAt_3b067 : MethodName := ⟨RJ1, "charAt", "([BI)C"⟩
abbrev cJ2_getChar_3b067 : ByteArray := prog_15_method_5_code
def yJ2_getChar_3b067 : MethodName := ⟨RJ2, "getChar", "([BI)C"⟩
abbrev cJ2_length_9d52b : ByteArray := prog_15_method_6_code
def yJ2_length_9d52b : MethodName := ⟨RJ2, "length", "([B)I"⟩
abbrev cJ2_charAt_3b067 : ByteArray := prog_15_method_83_code
def yJ2_charAt_3b067 : MethodName := ⟨RJ2, "charAt", "([BI)C"⟩
abbrev cJ2_checkIndex_2214a : ByteArray := prog_15_method_91_code
def yJ2_checkIndex_2214a : MethodName := ⟨RJ2, "checkIndex", "(I[B)V"⟩
abbrev cJ3_checkIndex_8e157 : ByteArray := prog_16_method_11_code
def yJ3_checkIndex_8e157 : MethodName := ⟨RJ3, "checkIndex", "(IILjava/util/function/BiFunction;)I"⟩
theorem k_570 : Cond.methodLink RX3 45 Lib.Math.abs.name ∈ tb := tb_3 90 (by decide +kernel) (by decide)
theorem k_571 : Cond.static Lib.Math.abs.name ∈ tb := tb_3 91 (by decide +kernel) (by decide)
theorem k_572 : Cond.code Lib.Math.abs.name Lib.Math.abs.code 1 (some .int) ∈ tb := tb_3 92 (by decide +kernel) (by decide)
theorem k_724 : Cond.methodLink RX3 36 Lib.Math.min.name ∈ tb := tb_4 4 (by decide +kernel) (by decide)
theorem k_725 : Cond.static Lib.Math.min.name ∈ tb := tb_4 5 (by decide +kernel) (by decide)
theorem k_726 : Cond.code Lib.Math.min.name Lib.Math.min.code 2 (some .int) ∈ tb := tb_4 6 (by decide +kernel) (by decide)
theorem k_731 : Cond.methodLink RX3 42 Lib.Math.max.name ∈ tb := tb_4 11 (by decide +kernel) (by decide)
theorem k_732 : Cond.static Lib.Math.max.name ∈ tb := tb_4 12 (by decide +kernel) (by decide)
theorem k_733 : Cond.code Lib.Math.max.name Lib.Math.max.code 2 (some .int) ∈ tb := tb_4 13 (by decide +kernel) (by decide)
theorem k_807 : Cond.methodLink RX7 52 Lib.Math.max.name ∈ tb := tb_4 87 (by decide +kernel) (by decide)
end
section
theorem dX2_add_0 : decode cX2_add 0 = .ok (.aload_n 0, 1) := dq_42 (by decide +kernel)
theorem dX2_add_1 : decode cX2_add 1 = .ok (.getfield 27, 3) := dq_180 (by decide +kernel)
theorem dX2_add_4 : decode cX2_add 4 = .ok (.bipush 60, 2) := dq_16 (by decide +kernel)
theorem dX2_add_6 : decode cX2_add 6 = .ok (.if_icmp .lt 4, 3) := dq_161 (by decide +kernel)
theorem dX2_add_9 : decode cX2_add 9 = .ok (.return_, 1) := dq_177 (by decide +kernel)
theorem dX2_add_10 : decode cX2_add 10 = .ok (.aload_n 0, 1) := dq_42 (by decide +kernel)
theorem dX2_add_11 : decode cX2_add 11 = .ok (.getfield 9, 3) := dq_180 (by decide +kernel)
theorem dX2_add_14 : decode cX2_add 14 = .ok (.aload_n 0, 1) := dq_42 (by decide +kernel)
theorem dX2_add_15 : decode cX2_add 15 = .ok (.getfield 27, 3) := dq_180 (by decide +kernel)
theorem dX2_add_18 : decode cX2_add 18 = .ok (.iload_n 1, 1) := dq_27 (by decide +kernel)
theorem dX2_add_19 : decode cX2_add 19 = .ok (.iastore, 1) := dq_79 (by decide +kernel)
theorem dX2_add_20 : decode cX2_add 20 = .ok (.aload_n 0, 1) := dq_42 (by decide +kernel)
theorem dX2_add_21 : decode cX2_add 21 = .ok (.getfield 15, 3) := dq_180 (by decide +kernel)
theorem dX2_add_24 : decode cX2_add 24 = .ok (.aload_n 0, 1) := dq_42 (by decide +kernel)
theorem dX2_add_25 : decode cX2_add 25 = .ok (.getfield 27, 3) := dq_180 (by decide +kernel)
theorem dX2_add_28 : decode cX2_add 28 = .ok (.iload_n 2, 1) := dq_28 (by decide +kernel)
theorem dX2_add_29 : decode cX2_add 29 = .ok (.iastore, 1) := dq_79 (by decide +kernel)
theorem dX2_add_30 : decode cX2_add 30 = .ok (.aload_n 0, 1) := dq_42 (by decide +kernel)
theorem dX2_add_31 : decode cX2_add 31 = .ok (.getfield 18, 3) := dq_180 (by decide +kernel)
theorem dX2_add_34 : decode cX2_add 34 = .ok (.aload_n 0, 1) := dq_42 (by decide +kernel)
theorem dX2_add_35 : decode cX2_add 35 = .ok (.getfield 27, 3) := dq_180 (by decide +kernel)
theorem dX2_add_38 : decode cX2_add 38 = .ok (.iload_n 3, 1) := dq_29 (by decide +kernel)
theorem dX2_add_39 : decode cX2_add 39 = .ok (.iastore, 1) := dq_79 (by decide +kernel)
theorem dX2_add_40 : decode cX2_add 40 = .ok (.aload_n 0, 1) := dq_42 (by decide +kernel)
theorem dX2_add_41 : decode cX2_add 41 = .ok (.getfield 21, 3) := dq_180 (by decide +kernel)
theorem dX2_add_44 : decode cX2_add 44 = .ok (.aload_n 0, 1) := dq_42 (by decide +kernel)
theorem dX2_add_45 : decode cX2_add 45 = .ok (.getfield 27, 3) := dq_180 (by decide +kernel)
theorem dX2_add_48 : decode cX2_add 48 = .ok (.iload 4, 2) := dq_21 (by decide +kernel)
theorem dX2_add_50 : decode cX2_add 50 = .ok (.iastore, 1) := dq_79 (by decide +kernel)
theorem dX2_add_51 : decode cX2_add 51 = .ok (.aload_n 0, 1) := dq_42 (by decide +kernel)
theorem dX2_add_52 : decode cX2_add 52 = .ok (.getfield 24, 3) := dq_180 (by decide +kernel)
theorem dX2_add_55 : decode cX2_add 55 = .ok (.aload_n 0, 1) := dq_42 (by decide +kernel)
theorem dX2_add_56 : decode cX2_add 56 = .ok (.getfield 27, 3) := dq_180 (by decide +kernel)
theorem dX2_add_59 : decode cX2_add 59 = .ok (.iload 5, 2) := dq_21 (by decide +kernel)
theorem dX2_add_61 : decode cX2_add 61 = .ok (.iastore, 1) := dq_79 (by decide +kernel)
theorem dX2_add_62 : decode cX2_add 62 = .ok (.aload_n 0, 1) := dq_42 (by decide +kernel)
theorem dX2_add_63 : decode cX2_add 63 = .ok (.dup, 1) := dq_89 (by decide +kernel)
theorem dX2_add_64 : decode cX2_add 64 = .ok (.getfield 27, 3) := dq_180 (by decide +kernel)
theorem dX2_add_67 : decode cX2_add 67 = .ok (.iconst 1, 1) := dq_4 (by decide +kernel)
theorem dX2_add_68 : decode cX2_add 68 = .ok (.iadd, 1) := dq_96 (by decide +kernel)
theorem dX2_add_69 : decode cX2_add 69 = .ok (.putfield 27, 3) := dq_181 (by decide +kernel)
theorem dX2_add_72 : decode cX2_add 72 = .ok (.return_, 1) := dq_177 (by decide +kernel)
theorem dX2_sumFor_0 : decode cX2_sumFor 0 = .ok (.iconst 0, 1) := dq_3 (by decide +kernel)
theorem dX2_sumFor_1 : decode cX2_sumFor 1 = .ok (.istore 4, 2) := dq_54 (by decide +kernel)
theorem dX2_sumFor_3 : decode cX2_sumFor 3 = .ok (.iload_n 1, 1) := dq_27 (by decide +kernel)
theorem dX2_sumFor_4 : decode cX2_sumFor 4 = .ok (.ifCond .ne 6, 3) := dq_154 (by decide +kernel)
theorem dX2_sumFor_7 : decode cX2_sumFor 7 = .ok (.iload 4, 2) := dq_21 (by decide +kernel)
theorem dX2_sumFor_9 : decode cX2_sumFor 9 = .ok (.ireturn, 1) := dq_172 (by decide +kernel)
theorem dX2_sumFor_10 : decode cX2_sumFor 10 = .ok (.iconst 0, 1) := dq_3 (by decide +kernel)
theorem dX2_sumFor_11 : decode cX2_sumFor 11 = .ok (.istore 5, 2) := dq_54 (by decide +kernel)
theorem dX2_sumFor_13 : decode cX2_sumFor 13 = .ok (.iload 5, 2) := dq_21 (by decide +kernel)
theorem dX2_sumFor_15 : decode cX2_sumFor 15 = .ok (.aload_n 0, 1) := dq_42 (by decide +kernel)
theorem dX2_sumFor_16 : decode cX2_sumFor 16 = .ok (.getfield 27, 3) := dq_180 (by decide +kernel)
theorem dX2_sumFor_19 : decode cX2_sumFor 19 = .ok (.if_icmp .ge 70, 3) := dq_162 (by decide +kernel)
theorem dX2_sumFor_22 : decode cX2_sumFor 22 = .ok (.aload_n 0, 1) := dq_42 (by decide +kernel)
theorem dX2_sumFor_23 : decode cX2_sumFor 23 = .ok (.getfield 9, 3) := dq_180 (by decide +kernel)
theorem dX2_sumFor_26 : decode cX2_sumFor 26 = .ok (.iload 5, 2) := dq_21 (by decide +kernel)
theorem dX2_sumFor_28 : decode cX2_sumFor 28 = .ok (.iaload, 1) := dq_46 (by decide +kernel)
theorem dX2_sumFor_29 : decode cX2_sumFor 29 = .ok (.iload_n 1, 1) := dq_27 (by decide +kernel)
theorem dX2_sumFor_30 : decode cX2_sumFor 30 = .ok (.if_icmp .ne 53, 3) := dq_160 (by decide +kernel)
theorem dX2_sumFor_33 : decode cX2_sumFor 33 = .ok (.aload_n 0, 1) := dq_42 (by decide +kernel)
theorem dX2_sumFor_34 : decode cX2_sumFor 34 = .ok (.getfield 15, 3) := dq_180 (by decide +kernel)
theorem dX2_sumFor_37 : decode cX2_sumFor 37 = .ok (.iload 5, 2) := dq_21 (by decide +kernel)
theorem dX2_sumFor_39 : decode cX2_sumFor 39 = .ok (.iaload, 1) := dq_46 (by decide +kernel)
theorem dX2_sumFor_40 : decode cX2_sumFor 40 = .ok (.iload_n 2, 1) := dq_28 (by decide +kernel)
theorem dX2_sumFor_41 : decode cX2_sumFor 41 = .ok (.if_icmp .gt 42, 3) := dq_163 (by decide +kernel)
theorem dX2_sumFor_44 : decode cX2_sumFor 44 = .ok (.iload_n 2, 1) := dq_28 (by decide +kernel)
theorem dX2_sumFor_45 : decode cX2_sumFor 45 = .ok (.aload_n 0, 1) := dq_42 (by decide +kernel)
theorem dX2_sumFor_46 : decode cX2_sumFor 46 = .ok (.getfield 18, 3) := dq_180 (by decide +kernel)
theorem dX2_sumFor_49 : decode cX2_sumFor 49 = .ok (.iload 5, 2) := dq_21 (by decide +kernel)
theorem dX2_sumFor_51 : decode cX2_sumFor 51 = .ok (.iaload, 1) := dq_46 (by decide +kernel)
theorem dX2_sumFor_52 : decode cX2_sumFor 52 = .ok (.if_icmp .gt 31, 3) := dq_163 (by decide +kernel)
theorem dX2_sumFor_55 : decode cX2_sumFor 55 = .ok (.iload_n 3, 1) := dq_29 (by decide +kernel)
theorem dX2_sumFor_56 : decode cX2_sumFor 56 = .ok (.iconst (-1), 1) := dq_2 (by decide +kernel)
theorem dX2_sumFor_57 : decode cX2_sumFor 57 = .ok (.if_icmp .eq 14, 3) := dq_159 (by decide +kernel)
theorem dX2_sumFor_60 : decode cX2_sumFor 60 = .ok (.aload_n 0, 1) := dq_42 (by decide +kernel)
theorem dX2_sumFor_61 : decode cX2_sumFor 61 = .ok (.getfield 24, 3) := dq_180 (by decide +kernel)
theorem dX2_sumFor_64 : decode cX2_sumFor 64 = .ok (.iload 5, 2) := dq_21 (by decide +kernel)
theorem dX2_sumFor_66 : decode cX2_sumFor 66 = .ok (.iaload, 1) := dq_46 (by decide +kernel)
theorem dX2_sumFor_67 : decode cX2_sumFor 67 = .ok (.iload_n 3, 1) := dq_29 (by decide +kernel)
theorem dX2_sumFor_68 : decode cX2_sumFor 68 = .ok (.if_icmp .gt 15, 3) := dq_163 (by decide +kernel)
theorem dX2_sumFor_71 : decode cX2_sumFor 71 = .ok (.iload 4, 2) := dq_21 (by decide +kernel)
theorem dX2_sumFor_73 : decode cX2_sumFor 73 = .ok (.aload_n 0, 1) := dq_42 (by decide +kernel)
theorem dX2_sumFor_74 : decode cX2_sumFor 74 = .ok (.getfield 21, 3) := dq_180 (by decide +kernel)
theorem dX2_sumFor_77 : decode cX2_sumFor 77 = .ok (.iload 5, 2) := dq_21 (by decide +kernel)
theorem dX2_sumFor_79 : decode cX2_sumFor 79 = .ok (.iaload, 1) := dq_46 (by decide +kernel)
theorem dX2_sumFor_80 : decode cX2_sumFor 80 = .ok (.iadd, 1) := dq_96 (by decide +kernel)
theorem dX2_sumFor_81 : decode cX2_sumFor 81 = .ok (.istore 4, 2) := dq_54 (by decide +kernel)
theorem dX2_sumFor_83 : decode cX2_sumFor 83 = .ok (.iinc 5 1, 3) := dq_132 (by decide +kernel)
theorem dX2_sumFor_86 : decode cX2_sumFor 86 = .ok (.goto (-73), 3) := dq_167 (by decide +kernel)
theorem dX2_sumFor_89 : decode cX2_sumFor 89 = .ok (.iload 4, 2) := dq_21 (by decide +kernel)
theorem dX2_sumFor_91 : decode cX2_sumFor 91 = .ok (.ireturn, 1) := dq_172 (by decide +kernel)
end
section
theorem dX3_dayFarthestOff_0 : decode cX3_dayFarthestOff 0 = .ok (.aload_n 0, 1) := dq_42 (by decide +kernel)
theorem dX3_dayFarthestOff_1 : decode cX3_dayFarthestOff 1 = .ok (.getfield 21, 3) := dq_180 (by decide +kernel)
theorem dX3_dayFarthestOff_4 : decode cX3_dayFarthestOff 4 = .ok (.ifCond .ne 6, 3) := dq_154 (by decide +kernel)
theorem dX3_dayFarthestOff_7 : decode cX3_dayFarthestOff 7 = .ok (.bipush (-4), 2) := dq_16 (by decide +kernel)
theorem dX3_dayFarthestOff_9 : decode cX3_dayFarthestOff 9 = .ok (.ireturn, 1) := dq_172 (by decide +kernel)
theorem dX3_dayFarthestOff_10 : decode cX3_dayFarthestOff 10 = .ok (.aload_n 0, 1) := dq_42 (by decide +kernel)
theorem dX3_dayFarthestOff_11 : decode cX3_dayFarthestOff 11 = .ok (.invokevirtual 49, 3) := dq_182 (by decide +kernel)
theorem dX3_dayFarthestOff_14 : decode cX3_dayFarthestOff 14 = .ok (.istore_n 2, 1) := dq_61 (by decide +kernel)
theorem dX3_dayFarthestOff_15 : decode cX3_dayFarthestOff 15 = .ok (.iload_n 1, 1) := dq_27 (by decide +kernel)
theorem dX3_dayFarthestOff_16 : decode cX3_dayFarthestOff 16 = .ok (.istore_n 3, 1) := dq_62 (by decide +kernel)
theorem dX3_dayFarthestOff_17 : decode cX3_dayFarthestOff 17 = .ok (.bipush (-4), 2) := dq_16 (by decide +kernel)
theorem dX3_dayFarthestOff_19 : decode cX3_dayFarthestOff 19 = .ok (.istore 4, 2) := dq_54 (by decide +kernel)
theorem dX3_dayFarthestOff_21 : decode cX3_dayFarthestOff 21 = .ok (.iconst 0, 1) := dq_3 (by decide +kernel)
theorem dX3_dayFarthestOff_22 : decode cX3_dayFarthestOff 22 = .ok (.istore 5, 2) := dq_54 (by decide +kernel)
theorem dX3_dayFarthestOff_24 : decode cX3_dayFarthestOff 24 = .ok (.iload 5, 2) := dq_21 (by decide +kernel)
theorem dX3_dayFarthestOff_26 : decode cX3_dayFarthestOff 26 = .ok (.aload_n 0, 1) := dq_42 (by decide +kernel)
theorem dX3_dayFarthestOff_27 : decode cX3_dayFarthestOff 27 = .ok (.getfield 21, 3) := dq_180 (by decide +kernel)
theorem dX3_dayFarthestOff_30 : decode cX3_dayFarthestOff 30 = .ok (.if_icmp .ge 41, 3) := dq_162 (by decide +kernel)
theorem dX3_dayFarthestOff_33 : decode cX3_dayFarthestOff 33 = .ok (.aload_n 0, 1) := dq_42 (by decide +kernel)
theorem dX3_dayFarthestOff_34 : decode cX3_dayFarthestOff 34 = .ok (.getfield 15, 3) := dq_180 (by decide +kernel)
theorem dX3_dayFarthestOff_37 : decode cX3_dayFarthestOff 37 = .ok (.iload 5, 2) := dq_21 (by decide +kernel)
theorem dX3_dayFarthestOff_39 : decode cX3_dayFarthestOff 39 = .ok (.iaload, 1) := dq_46 (by decide +kernel)
theorem dX3_dayFarthestOff_40 : decode cX3_dayFarthestOff 40 = .ok (.iload_n 2, 1) := dq_28 (by decide +kernel)
theorem dX3_dayFarthestOff_41 : decode cX3_dayFarthestOff 41 = .ok (.isub, 1) := dq_100 (by decide +kernel)
theorem dX3_dayFarthestOff_42 : decode cX3_dayFarthestOff 42 = .ok (.invokestatic 45, 3) := dq_184 (by decide +kernel)
theorem dX3_dayFarthestOff_45 : decode cX3_dayFarthestOff 45 = .ok (.istore 6, 2) := dq_54 (by decide +kernel)
theorem dX3_dayFarthestOff_47 : decode cX3_dayFarthestOff 47 = .ok (.iload 6, 2) := dq_21 (by decide +kernel)
theorem dX3_dayFarthestOff_49 : decode cX3_dayFarthestOff 49 = .ok (.iload_n 3, 1) := dq_29 (by decide +kernel)
theorem dX3_dayFarthestOff_50 : decode cX3_dayFarthestOff 50 = .ok (.if_icmp .le 15, 3) := dq_164 (by decide +kernel)
theorem dX3_dayFarthestOff_53 : decode cX3_dayFarthestOff 53 = .ok (.iload 6, 2) := dq_21 (by decide +kernel)
theorem dX3_dayFarthestOff_55 : decode cX3_dayFarthestOff 55 = .ok (.istore_n 3, 1) := dq_62 (by decide +kernel)
theorem dX3_dayFarthestOff_56 : decode cX3_dayFarthestOff 56 = .ok (.aload_n 0, 1) := dq_42 (by decide +kernel)
theorem dX3_dayFarthestOff_57 : decode cX3_dayFarthestOff 57 = .ok (.getfield 9, 3) := dq_180 (by decide +kernel)
theorem dX3_dayFarthestOff_60 : decode cX3_dayFarthestOff 60 = .ok (.iload 5, 2) := dq_21 (by decide +kernel)
theorem dX3_dayFarthestOff_62 : decode cX3_dayFarthestOff 62 = .ok (.iaload, 1) := dq_46 (by decide +kernel)
theorem dX3_dayFarthestOff_63 : decode cX3_dayFarthestOff 63 = .ok (.istore 4, 2) := dq_54 (by decide +kernel)
theorem dX3_dayFarthestOff_65 : decode cX3_dayFarthestOff 65 = .ok (.iinc 5 1, 3) := dq_132 (by decide +kernel)
theorem dX3_dayFarthestOff_68 : decode cX3_dayFarthestOff 68 = .ok (.goto (-44), 3) := dq_167 (by decide +kernel)
theorem dX3_dayFarthestOff_71 : decode cX3_dayFarthestOff 71 = .ok (.iload 4, 2) := dq_21 (by decide +kernel)
theorem dX3_dayFarthestOff_73 : decode cX3_dayFarthestOff 73 = .ok (.ireturn, 1) := dq_172 (by decide +kernel)
theorem dX3_drift_0 : decode cX3_drift 0 = .ok (.aload_n 0, 1) := dq_42 (by decide +kernel)
theorem dX3_drift_1 : decode cX3_drift 1 = .ok (.getfield 21, 3) := dq_180 (by decide +kernel)
theorem dX3_drift_4 : decode cX3_drift 4 = .ok (.ifCond .ne 7, 3) := dq_154 (by decide +kernel)
theorem dX3_drift_7 : decode cX3_drift 7 = .ok (.iconst 0, 1) := dq_3 (by decide +kernel)
theorem dX3_drift_8 : decode cX3_drift 8 = .ok (.goto 21, 3) := dq_167 (by decide +kernel)
theorem dX3_drift_11 : decode cX3_drift 11 = .ok (.aload_n 0, 1) := dq_42 (by decide +kernel)
theorem dX3_drift_12 : decode cX3_drift 12 = .ok (.getfield 15, 3) := dq_180 (by decide +kernel)
theorem dX3_drift_15 : decode cX3_drift 15 = .ok (.aload_n 0, 1) := dq_42 (by decide +kernel)
theorem dX3_drift_16 : decode cX3_drift 16 = .ok (.getfield 21, 3) := dq_180 (by decide +kernel)
theorem dX3_drift_19 : decode cX3_drift 19 = .ok (.iconst 1, 1) := dq_4 (by decide +kernel)
theorem dX3_drift_20 : decode cX3_drift 20 = .ok (.isub, 1) := dq_100 (by decide +kernel)
theorem dX3_drift_21 : decode cX3_drift 21 = .ok (.iaload, 1) := dq_46 (by decide +kernel)
theorem dX3_drift_22 : decode cX3_drift 22 = .ok (.aload_n 0, 1) := dq_42 (by decide +kernel)
theorem dX3_drift_23 : decode cX3_drift 23 = .ok (.getfield 15, 3) := dq_180 (by decide +kernel)
theorem dX3_drift_26 : decode cX3_drift 26 = .ok (.iconst 0, 1) := dq_3 (by decide +kernel)
theorem dX3_drift_27 : decode cX3_drift 27 = .ok (.iaload, 1) := dq_46 (by decide +kernel)
theorem dX3_drift_28 : decode cX3_drift 28 = .ok (.isub, 1) := dq_100 (by decide +kernel)
theorem dX3_drift_29 : decode cX3_drift 29 = .ok (.ireturn, 1) := dq_172 (by decide +kernel)
theorem dX3_gather_0 : decode cX3_gather 0 = .ok (.aload_n 0, 1) := dq_42 (by decide +kernel)
theorem dX3_gather_1 : decode cX3_gather 1 = .ok (.iconst 0, 1) := dq_3 (by decide +kernel)
theorem dX3_gather_2 : decode cX3_gather 2 = .ok (.putfield 21, 3) := dq_181 (by decide +kernel)
theorem dX3_gather_5 : decode cX3_gather 5 = .ok (.aload_n 1, 1) := dq_43 (by decide +kernel)
theorem dX3_gather_6 : decode cX3_gather 6 = .ok (.ifnonnull 4, 3) := dq_199 (by decide +kernel)
theorem dX3_gather_9 : decode cX3_gather 9 = .ok (.return_, 1) := dq_177 (by decide +kernel)
theorem dX3_gather_10 : decode cX3_gather 10 = .ok (.aload_n 1, 1) := dq_43 (by decide +kernel)
theorem dX3_gather_11 : decode cX3_gather 11 = .ok (.iload_n 3, 1) := dq_29 (by decide +kernel)
theorem dX3_gather_12 : decode cX3_gather 12 = .ok (.aload_n 2, 1) := dq_44 (by decide +kernel)
theorem dX3_gather_13 : decode cX3_gather 13 = .ok (.iconst (-1), 1) := dq_2 (by decide +kernel)
theorem dX3_gather_14 : decode cX3_gather 14 = .ok (.invokevirtual 25, 3) := dq_182 (by decide +kernel)
theorem dX3_gather_17 : decode cX3_gather 17 = .ok (.istore 5, 2) := dq_54 (by decide +kernel)
theorem dX3_gather_19 : decode cX3_gather 19 = .ok (.iload_n 3, 1) := dq_29 (by decide +kernel)
theorem dX3_gather_20 : decode cX3_gather 20 = .ok (.istore 6, 2) := dq_54 (by decide +kernel)
theorem dX3_gather_22 : decode cX3_gather 22 = .ok (.iload 6, 2) := dq_21 (by decide +kernel)
theorem dX3_gather_24 : decode cX3_gather 24 = .ok (.iload 4, 2) := dq_21 (by decide +kernel)
theorem dX3_gather_26 : decode cX3_gather 26 = .ok (.if_icmp .ge 85, 3) := dq_162 (by decide +kernel)
theorem dX3_gather_29 : decode cX3_gather 29 = .ok (.aload_n 0, 1) := dq_42 (by decide +kernel)
theorem dX3_gather_30 : decode cX3_gather 30 = .ok (.getfield 21, 3) := dq_180 (by decide +kernel)
theorem dX3_gather_33 : decode cX3_gather 33 = .ok (.bipush 60, 2) := dq_16 (by decide +kernel)
theorem dX3_gather_35 : decode cX3_gather 35 = .ok (.if_icmp .ge 76, 3) := dq_162 (by decide +kernel)
theorem dX3_gather_38 : decode cX3_gather 38 = .ok (.aload_n 1, 1) := dq_43 (by decide +kernel)
theorem dX3_gather_39 : decode cX3_gather 39 = .ok (.iload 6, 2) := dq_21 (by decide +kernel)
theorem dX3_gather_41 : decode cX3_gather 41 = .ok (.iconst 1, 1) := dq_4 (by decide +kernel)
theorem dX3_gather_42 : decode cX3_gather 42 = .ok (.iadd, 1) := dq_96 (by decide +kernel)
theorem dX3_gather_43 : decode cX3_gather 43 = .ok (.aload_n 2, 1) := dq_44 (by decide +kernel)
theorem dX3_gather_44 : decode cX3_gather 44 = .ok (.iconst (-1), 1) := dq_2 (by decide +kernel)
theorem dX3_gather_45 : decode cX3_gather 45 = .ok (.invokevirtual 25, 3) := dq_182 (by decide +kernel)
theorem dX3_gather_48 : decode cX3_gather 48 = .ok (.istore 7, 2) := dq_54 (by decide +kernel)
theorem dX3_gather_50 : decode cX3_gather 50 = .ok (.aload_n 1, 1) := dq_43 (by decide +kernel)
theorem dX3_gather_51 : decode cX3_gather 51 = .ok (.iload 6, 2) := dq_21 (by decide +kernel)
theorem dX3_gather_53 : decode cX3_gather 53 = .ok (.iload 5, 2) := dq_21 (by decide +kernel)
theorem dX3_gather_55 : decode cX3_gather 55 = .ok (.iload 7, 2) := dq_21 (by decide +kernel)
theorem dX3_gather_57 : decode cX3_gather 57 = .ok (.invokevirtual 31, 3) := dq_182 (by decide +kernel)
theorem dX3_gather_60 : decode cX3_gather 60 = .ok (.istore 8, 2) := dq_54 (by decide +kernel)
theorem dX3_gather_62 : decode cX3_gather 62 = .ok (.iload 8, 2) := dq_21 (by decide +kernel)
theorem dX3_gather_64 : decode cX3_gather 64 = .ok (.ldc 35, 2) := dq_18 (by decide +kernel)
theorem dX3_gather_66 : decode cX3_gather 66 = .ok (.if_icmp .eq 35, 3) := dq_159 (by decide +kernel)
theorem dX3_gather_69 : decode cX3_gather 69 = .ok (.aload_n 0, 1) := dq_42 (by decide +kernel)
theorem dX3_gather_70 : decode cX3_gather 70 = .ok (.getfield 9, 3) := dq_180 (by decide +kernel)
theorem dX3_gather_73 : decode cX3_gather 73 = .ok (.aload_n 0, 1) := dq_42 (by decide +kernel)
theorem dX3_gather_74 : decode cX3_gather 74 = .ok (.getfield 21, 3) := dq_180 (by decide +kernel)
theorem dX3_gather_77 : decode cX3_gather 77 = .ok (.iload 6, 2) := dq_21 (by decide +kernel)
theorem dX3_gather_79 : decode cX3_gather 79 = .ok (.iastore, 1) := dq_79 (by decide +kernel)
theorem dX3_gather_80 : decode cX3_gather 80 = .ok (.aload_n 0, 1) := dq_42 (by decide +kernel)
theorem dX3_gather_81 : decode cX3_gather 81 = .ok (.getfield 15, 3) := dq_180 (by decide +kernel)
theorem dX3_gather_84 : decode cX3_gather 84 = .ok (.aload_n 0, 1) := dq_42 (by decide +kernel)
theorem dX3_gather_85 : decode cX3_gather 85 = .ok (.getfield 21, 3) := dq_180 (by decide +kernel)
theorem dX3_gather_88 : decode cX3_gather 88 = .ok (.iload 8, 2) := dq_21 (by decide +kernel)
theorem dX3_gather_90 : decode cX3_gather 90 = .ok (.iastore, 1) := dq_79 (by decide +kernel)
theorem dX3_gather_91 : decode cX3_gather 91 = .ok (.aload_n 0, 1) := dq_42 (by decide +kernel)
theorem dX3_gather_92 : decode cX3_gather 92 = .ok (.dup, 1) := dq_89 (by decide +kernel)
theorem dX3_gather_93 : decode cX3_gather 93 = .ok (.getfield 21, 3) := dq_180 (by decide +kernel)
theorem dX3_gather_96 : decode cX3_gather 96 = .ok (.iconst 1, 1) := dq_4 (by decide +kernel)
theorem dX3_gather_97 : decode cX3_gather 97 = .ok (.iadd, 1) := dq_96 (by decide +kernel)
theorem dX3_gather_98 : decode cX3_gather 98 = .ok (.putfield 21, 3) := dq_181 (by decide +kernel)
theorem dX3_gather_101 : decode cX3_gather 101 = .ok (.iload 7, 2) := dq_21 (by decide +kernel)
theorem dX3_gather_103 : decode cX3_gather 103 = .ok (.istore 5, 2) := dq_54 (by decide +kernel)
theorem dX3_gather_105 : decode cX3_gather 105 = .ok (.iinc 6 1, 3) := dq_132 (by decide +kernel)
theorem dX3_gather_108 : decode cX3_gather 108 = .ok (.goto (-86), 3) := dq_167 (by decide +kernel)
theorem dX3_gather_111 : decode cX3_gather 111 = .ok (.return_, 1) := dq_177 (by decide +kernel)
theorem dX3_greatestStep_0 : decode cX3_greatestStep 0 = .ok (.iconst 0, 1) := dq_3 (by decide +kernel)
theorem dX3_greatestStep_1 : decode cX3_greatestStep 1 = .ok (.istore_n 1, 1) := dq_60 (by decide +kernel)
theorem dX3_greatestStep_2 : decode cX3_greatestStep 2 = .ok (.iconst 1, 1) := dq_4 (by decide +kernel)
theorem dX3_greatestStep_3 : decode cX3_greatestStep 3 = .ok (.istore_n 2, 1) := dq_61 (by decide +kernel)
theorem dX3_greatestStep_4 : decode cX3_greatestStep 4 = .ok (.iload_n 2, 1) := dq_28 (by decide +kernel)
theorem dX3_greatestStep_5 : decode cX3_greatestStep 5 = .ok (.aload_n 0, 1) := dq_42 (by decide +kernel)
theorem dX3_greatestStep_6 : decode cX3_greatestStep 6 = .ok (.getfield 21, 3) := dq_180 (by decide +kernel)
theorem dX3_greatestStep_9 : decode cX3_greatestStep 9 = .ok (.if_icmp .ge 32, 3) := dq_162 (by decide +kernel)
theorem dX3_greatestStep_12 : decode cX3_greatestStep 12 = .ok (.iload_n 1, 1) := dq_27 (by decide +kernel)
theorem dX3_greatestStep_13 : decode cX3_greatestStep 13 = .ok (.aload_n 0, 1) := dq_42 (by decide +kernel)
theorem dX3_greatestStep_14 : decode cX3_greatestStep 14 = .ok (.getfield 15, 3) := dq_180 (by decide +kernel)
theorem dX3_greatestStep_17 : decode cX3_greatestStep 17 = .ok (.iload_n 2, 1) := dq_28 (by decide +kernel)
theorem dX3_greatestStep_18 : decode cX3_greatestStep 18 = .ok (.iaload, 1) := dq_46 (by decide +kernel)
theorem dX3_greatestStep_19 : decode cX3_greatestStep 19 = .ok (.aload_n 0, 1) := dq_42 (by decide +kernel)
theorem dX3_greatestStep_20 : decode cX3_greatestStep 20 = .ok (.getfield 15, 3) := dq_180 (by decide +kernel)
theorem dX3_greatestStep_23 : decode cX3_greatestStep 23 = .ok (.iload_n 2, 1) := dq_28 (by decide +kernel)
theorem dX3_greatestStep_24 : decode cX3_greatestStep 24 = .ok (.iconst 1, 1) := dq_4 (by decide +kernel)
theorem dX3_greatestStep_25 : decode cX3_greatestStep 25 = .ok (.isub, 1) := dq_100 (by decide +kernel)
theorem dX3_greatestStep_26 : decode cX3_greatestStep 26 = .ok (.iaload, 1) := dq_46 (by decide +kernel)
theorem dX3_greatestStep_27 : decode cX3_greatestStep 27 = .ok (.isub, 1) := dq_100 (by decide +kernel)
theorem dX3_greatestStep_28 : decode cX3_greatestStep 28 = .ok (.invokestatic 45, 3) := dq_184 (by decide +kernel)
theorem dX3_greatestStep_31 : decode cX3_greatestStep 31 = .ok (.invokestatic 42, 3) := dq_184 (by decide +kernel)
theorem dX3_greatestStep_34 : decode cX3_greatestStep 34 = .ok (.istore_n 1, 1) := dq_60 (by decide +kernel)
theorem dX3_greatestStep_35 : decode cX3_greatestStep 35 = .ok (.iinc 2 1, 3) := dq_132 (by decide +kernel)
theorem dX3_greatestStep_38 : decode cX3_greatestStep 38 = .ok (.goto (-34), 3) := dq_167 (by decide +kernel)
theorem dX3_greatestStep_41 : decode cX3_greatestStep 41 = .ok (.iload_n 1, 1) := dq_27 (by decide +kernel)
theorem dX3_greatestStep_42 : decode cX3_greatestStep 42 = .ok (.ireturn, 1) := dq_172 (by decide +kernel)
theorem dX3_least_0 : decode cX3_least 0 = .ok (.sipush 999, 3) := dq_17 (by decide +kernel)
theorem dX3_least_3 : decode cX3_least 3 = .ok (.istore_n 1, 1) := dq_60 (by decide +kernel)
theorem dX3_least_4 : decode cX3_least 4 = .ok (.iconst 0, 1) := dq_3 (by decide +kernel)
theorem dX3_least_5 : decode cX3_least 5 = .ok (.istore_n 2, 1) := dq_61 (by decide +kernel)
theorem dX3_least_6 : decode cX3_least 6 = .ok (.iload_n 2, 1) := dq_28 (by decide +kernel)
theorem dX3_least_7 : decode cX3_least 7 = .ok (.aload_n 0, 1) := dq_42 (by decide +kernel)
theorem dX3_least_8 : decode cX3_least 8 = .ok (.getfield 21, 3) := dq_180 (by decide +kernel)
theorem dX3_least_11 : decode cX3_least 11 = .ok (.if_icmp .ge 20, 3) := dq_162 (by decide +kernel)
theorem dX3_least_14 : decode cX3_least 14 = .ok (.iload_n 1, 1) := dq_27 (by decide +kernel)
theorem dX3_least_15 : decode cX3_least 15 = .ok (.aload_n 0, 1) := dq_42 (by decide +kernel)
theorem dX3_least_16 : decode cX3_least 16 = .ok (.getfield 15, 3) := dq_180 (by decide +kernel)
theorem dX3_least_19 : decode cX3_least 19 = .ok (.iload_n 2, 1) := dq_28 (by decide +kernel)
theorem dX3_least_20 : decode cX3_least 20 = .ok (.iaload, 1) := dq_46 (by decide +kernel)
theorem dX3_least_21 : decode cX3_least 21 = .ok (.invokestatic 36, 3) := dq_184 (by decide +kernel)
theorem dX3_least_24 : decode cX3_least 24 = .ok (.istore_n 1, 1) := dq_60 (by decide +kernel)
theorem dX3_least_25 : decode cX3_least 25 = .ok (.iinc 2 1, 3) := dq_132 (by decide +kernel)
theorem dX3_least_28 : decode cX3_least 28 = .ok (.goto (-22), 3) := dq_167 (by decide +kernel)
theorem dX3_least_31 : decode cX3_least 31 = .ok (.iload_n 1, 1) := dq_27 (by decide +kernel)
theorem dX3_least_32 : decode cX3_least 32 = .ok (.ireturn, 1) := dq_172 (by decide +kernel)
theorem dX3_middleOne_0 : decode cX3_middleOne 0 = .ok (.iconst 0, 1) := dq_3 (by decide +kernel)
theorem dX3_middleOne_1 : decode cX3_middleOne 1 = .ok (.istore_n 1, 1) := dq_60 (by decide +kernel)
theorem dX3_middleOne_2 : decode cX3_middleOne 2 = .ok (.iload_n 1, 1) := dq_27 (by decide +kernel)
theorem dX3_middleOne_3 : decode cX3_middleOne 3 = .ok (.aload_n 0, 1) := dq_42 (by decide +kernel)
theorem dX3_middleOne_4 : decode cX3_middleOne 4 = .ok (.getfield 21, 3) := dq_180 (by decide +kernel)
theorem dX3_middleOne_7 : decode cX3_middleOne 7 = .ok (.if_icmp .ge 64, 3) := dq_162 (by decide +kernel)
theorem dX3_middleOne_10 : decode cX3_middleOne 10 = .ok (.iload_n 1, 1) := dq_27 (by decide +kernel)
theorem dX3_middleOne_11 : decode cX3_middleOne 11 = .ok (.istore_n 2, 1) := dq_61 (by decide +kernel)
theorem dX3_middleOne_12 : decode cX3_middleOne 12 = .ok (.iload_n 2, 1) := dq_28 (by decide +kernel)
theorem dX3_middleOne_13 : decode cX3_middleOne 13 = .ok (.ifCond .le 40, 3) := dq_158 (by decide +kernel)
theorem dX3_middleOne_16 : decode cX3_middleOne 16 = .ok (.aload_n 0, 1) := dq_42 (by decide +kernel)
theorem dX3_middleOne_17 : decode cX3_middleOne 17 = .ok (.getfield 18, 3) := dq_180 (by decide +kernel)
theorem dX3_middleOne_20 : decode cX3_middleOne 20 = .ok (.iload_n 2, 1) := dq_28 (by decide +kernel)
theorem dX3_middleOne_21 : decode cX3_middleOne 21 = .ok (.iconst 1, 1) := dq_4 (by decide +kernel)
theorem dX3_middleOne_22 : decode cX3_middleOne 22 = .ok (.isub, 1) := dq_100 (by decide +kernel)
theorem dX3_middleOne_23 : decode cX3_middleOne 23 = .ok (.iaload, 1) := dq_46 (by decide +kernel)
theorem dX3_middleOne_24 : decode cX3_middleOne 24 = .ok (.aload_n 0, 1) := dq_42 (by decide +kernel)
theorem dX3_middleOne_25 : decode cX3_middleOne 25 = .ok (.getfield 15, 3) := dq_180 (by decide +kernel)
theorem dX3_middleOne_28 : decode cX3_middleOne 28 = .ok (.iload_n 1, 1) := dq_27 (by decide +kernel)
theorem dX3_middleOne_29 : decode cX3_middleOne 29 = .ok (.iaload, 1) := dq_46 (by decide +kernel)
theorem dX3_middleOne_30 : decode cX3_middleOne 30 = .ok (.if_icmp .le 23, 3) := dq_164 (by decide +kernel)
theorem dX3_middleOne_33 : decode cX3_middleOne 33 = .ok (.aload_n 0, 1) := dq_42 (by decide +kernel)
theorem dX3_middleOne_34 : decode cX3_middleOne 34 = .ok (.getfield 18, 3) := dq_180 (by decide +kernel)
theorem dX3_middleOne_37 : decode cX3_middleOne 37 = .ok (.iload_n 2, 1) := dq_28 (by decide +kernel)
theorem dX3_middleOne_38 : decode cX3_middleOne 38 = .ok (.aload_n 0, 1) := dq_42 (by decide +kernel)
theorem dX3_middleOne_39 : decode cX3_middleOne 39 = .ok (.getfield 18, 3) := dq_180 (by decide +kernel)
theorem dX3_middleOne_42 : decode cX3_middleOne 42 = .ok (.iload_n 2, 1) := dq_28 (by decide +kernel)
theorem dX3_middleOne_43 : decode cX3_middleOne 43 = .ok (.iconst 1, 1) := dq_4 (by decide +kernel)
theorem dX3_middleOne_44 : decode cX3_middleOne 44 = .ok (.isub, 1) := dq_100 (by decide +kernel)
theorem dX3_middleOne_45 : decode cX3_middleOne 45 = .ok (.iaload, 1) := dq_46 (by decide +kernel)
theorem dX3_middleOne_46 : decode cX3_middleOne 46 = .ok (.iastore, 1) := dq_79 (by decide +kernel)
theorem dX3_middleOne_47 : decode cX3_middleOne 47 = .ok (.iinc 2 (-1), 3) := dq_132 (by decide +kernel)
theorem dX3_middleOne_50 : decode cX3_middleOne 50 = .ok (.goto (-38), 3) := dq_167 (by decide +kernel)
theorem dX3_middleOne_53 : decode cX3_middleOne 53 = .ok (.aload_n 0, 1) := dq_42 (by decide +kernel)
theorem dX3_middleOne_54 : decode cX3_middleOne 54 = .ok (.getfield 18, 3) := dq_180 (by decide +kernel)
theorem dX3_middleOne_57 : decode cX3_middleOne 57 = .ok (.iload_n 2, 1) := dq_28 (by decide +kernel)
theorem dX3_middleOne_58 : decode cX3_middleOne 58 = .ok (.aload_n 0, 1) := dq_42 (by decide +kernel)
theorem dX3_middleOne_59 : decode cX3_middleOne 59 = .ok (.getfield 15, 3) := dq_180 (by decide +kernel)
theorem dX3_middleOne_62 : decode cX3_middleOne 62 = .ok (.iload_n 1, 1) := dq_27 (by decide +kernel)
theorem dX3_middleOne_63 : decode cX3_middleOne 63 = .ok (.iaload, 1) := dq_46 (by decide +kernel)
theorem dX3_middleOne_64 : decode cX3_middleOne 64 = .ok (.iastore, 1) := dq_79 (by decide +kernel)
theorem dX3_middleOne_65 : decode cX3_middleOne 65 = .ok (.iinc 1 1, 3) := dq_132 (by decide +kernel)
theorem dX3_middleOne_68 : decode cX3_middleOne 68 = .ok (.goto (-66), 3) := dq_167 (by decide +kernel)
theorem dX3_middleOne_71 : decode cX3_middleOne 71 = .ok (.aload_n 0, 1) := dq_42 (by decide +kernel)
theorem dX3_middleOne_72 : decode cX3_middleOne 72 = .ok (.getfield 21, 3) := dq_180 (by decide +kernel)
theorem dX3_middleOne_75 : decode cX3_middleOne 75 = .ok (.ifCond .ne 7, 3) := dq_154 (by decide +kernel)
theorem dX3_middleOne_78 : decode cX3_middleOne 78 = .ok (.iconst 0, 1) := dq_3 (by decide +kernel)
theorem dX3_middleOne_79 : decode cX3_middleOne 79 = .ok (.goto 16, 3) := dq_167 (by decide +kernel)
theorem dX3_middleOne_82 : decode cX3_middleOne 82 = .ok (.aload_n 0, 1) := dq_42 (by decide +kernel)
theorem dX3_middleOne_83 : decode cX3_middleOne 83 = .ok (.getfield 18, 3) := dq_180 (by decide +kernel)
theorem dX3_middleOne_86 : decode cX3_middleOne 86 = .ok (.aload_n 0, 1) := dq_42 (by decide +kernel)
theorem dX3_middleOne_87 : decode cX3_middleOne 87 = .ok (.getfield 21, 3) := dq_180 (by decide +kernel)
theorem dX3_middleOne_90 : decode cX3_middleOne 90 = .ok (.iconst 1, 1) := dq_4 (by decide +kernel)
theorem dX3_middleOne_91 : decode cX3_middleOne 91 = .ok (.isub, 1) := dq_100 (by decide +kernel)
theorem dX3_middleOne_92 : decode cX3_middleOne 92 = .ok (.iconst 2, 1) := dq_5 (by decide +kernel)
theorem dX3_middleOne_93 : decode cX3_middleOne 93 = .ok (.idiv, 1) := dq_108 (by decide +kernel)
theorem dX3_middleOne_94 : decode cX3_middleOne 94 = .ok (.iaload, 1) := dq_46 (by decide +kernel)
theorem dX3_middleOne_95 : decode cX3_middleOne 95 = .ok (.ireturn, 1) := dq_172 (by decide +kernel)
theorem dX3_most_0 : decode cX3_most 0 = .ok (.sipush (-999), 3) := dq_17 (by decide +kernel)
theorem dX3_most_3 : decode cX3_most 3 = .ok (.istore_n 1, 1) := dq_60 (by decide +kernel)
theorem dX3_most_4 : decode cX3_most 4 = .ok (.iconst 0, 1) := dq_3 (by decide +kernel)
theorem dX3_most_5 : decode cX3_most 5 = .ok (.istore_n 2, 1) := dq_61 (by decide +kernel)
theorem dX3_most_6 : decode cX3_most 6 = .ok (.iload_n 2, 1) := dq_28 (by decide +kernel)
theorem dX3_most_7 : decode cX3_most 7 = .ok (.aload_n 0, 1) := dq_42 (by decide +kernel)
theorem dX3_most_8 : decode cX3_most 8 = .ok (.getfield 21, 3) := dq_180 (by decide +kernel)
theorem dX3_most_11 : decode cX3_most 11 = .ok (.if_icmp .ge 20, 3) := dq_162 (by decide +kernel)
theorem dX3_most_14 : decode cX3_most 14 = .ok (.iload_n 1, 1) := dq_27 (by decide +kernel)
theorem dX3_most_15 : decode cX3_most 15 = .ok (.aload_n 0, 1) := dq_42 (by decide +kernel)
theorem dX3_most_16 : decode cX3_most 16 = .ok (.getfield 15, 3) := dq_180 (by decide +kernel)
theorem dX3_most_19 : decode cX3_most 19 = .ok (.iload_n 2, 1) := dq_28 (by decide +kernel)
theorem dX3_most_20 : decode cX3_most 20 = .ok (.iaload, 1) := dq_46 (by decide +kernel)
theorem dX3_most_21 : decode cX3_most 21 = .ok (.invokestatic 42, 3) := dq_184 (by decide +kernel)
theorem dX3_most_24 : decode cX3_most 24 = .ok (.istore_n 1, 1) := dq_60 (by decide +kernel)
theorem dX3_most_25 : decode cX3_most 25 = .ok (.iinc 2 1, 3) := dq_132 (by decide +kernel)
theorem dX3_most_28 : decode cX3_most 28 = .ok (.goto (-22), 3) := dq_167 (by decide +kernel)
theorem dX3_most_31 : decode cX3_most 31 = .ok (.iload_n 1, 1) := dq_27 (by decide +kernel)
theorem dX3_most_32 : decode cX3_most 32 = .ok (.ireturn, 1) := dq_172 (by decide +kernel)
theorem dX3_sum_0 : decode cX3_sum 0 = .ok (.iconst 0, 1) := dq_3 (by decide +kernel)
theorem dX3_sum_1 : decode cX3_sum 1 = .ok (.istore_n 1, 1) := dq_60 (by decide +kernel)
theorem dX3_sum_2 : decode cX3_sum 2 = .ok (.iconst 0, 1) := dq_3 (by decide +kernel)
theorem dX3_sum_3 : decode cX3_sum 3 = .ok (.istore_n 2, 1) := dq_61 (by decide +kernel)
theorem dX3_sum_4 : decode cX3_sum 4 = .ok (.iload_n 2, 1) := dq_28 (by decide +kernel)
theorem dX3_sum_5 : decode cX3_sum 5 = .ok (.aload_n 0, 1) := dq_42 (by decide +kernel)
theorem dX3_sum_6 : decode cX3_sum 6 = .ok (.getfield 21, 3) := dq_180 (by decide +kernel)
theorem dX3_sum_9 : decode cX3_sum 9 = .ok (.if_icmp .ge 18, 3) := dq_162 (by decide +kernel)
theorem dX3_sum_12 : decode cX3_sum 12 = .ok (.iload_n 1, 1) := dq_27 (by decide +kernel)
theorem dX3_sum_13 : decode cX3_sum 13 = .ok (.aload_n 0, 1) := dq_42 (by decide +kernel)
theorem dX3_sum_14 : decode cX3_sum 14 = .ok (.getfield 15, 3) := dq_180 (by decide +kernel)
theorem dX3_sum_17 : decode cX3_sum 17 = .ok (.iload_n 2, 1) := dq_28 (by decide +kernel)
theorem dX3_sum_18 : decode cX3_sum 18 = .ok (.iaload, 1) := dq_46 (by decide +kernel)
theorem dX3_sum_19 : decode cX3_sum 19 = .ok (.iadd, 1) := dq_96 (by decide +kernel)
theorem dX3_sum_20 : decode cX3_sum 20 = .ok (.istore_n 1, 1) := dq_60 (by decide +kernel)
theorem dX3_sum_21 : decode cX3_sum 21 = .ok (.iinc 2 1, 3) := dq_132 (by decide +kernel)
theorem dX3_sum_24 : decode cX3_sum 24 = .ok (.goto (-20), 3) := dq_167 (by decide +kernel)
theorem dX3_sum_27 : decode cX3_sum 27 = .ok (.iload_n 1, 1) := dq_27 (by decide +kernel)
theorem dX3_sum_28 : decode cX3_sum 28 = .ok (.ireturn, 1) := dq_172 (by decide +kernel)
end
section
theorem dX7_addMark_0 : decode cX7_addMark 0 = .ok (.iload_n 1, 1) := dq_27 (by decide +kernel)
theorem dX7_addMark_1 : decode cX7_addMark 1 = .ok (.invokestatic 24, 3) := dq_184 (by decide +kernel)
theorem dX7_addMark_4 : decode cX7_addMark 4 = .ok (.ifCond .eq 12, 3) := dq_153 (by decide +kernel)
theorem dX7_addMark_7 : decode cX7_addMark 7 = .ok (.aload_n 0, 1) := dq_42 (by decide +kernel)
theorem dX7_addMark_8 : decode cX7_addMark 8 = .ok (.iload_n 1, 1) := dq_27 (by decide +kernel)
theorem dX7_addMark_9 : decode cX7_addMark 9 = .ok (.iload_n 2, 1) := dq_28 (by decide +kernel)
theorem dX7_addMark_10 : decode cX7_addMark 10 = .ok (.invokevirtual 49, 3) := dq_182 (by decide +kernel)
theorem dX7_addMark_13 : decode cX7_addMark 13 = .ok (.ifCond .eq 5, 3) := dq_153 (by decide +kernel)
theorem dX7_addMark_16 : decode cX7_addMark 16 = .ok (.iconst 0, 1) := dq_3 (by decide +kernel)
theorem dX7_addMark_17 : decode cX7_addMark 17 = .ok (.ireturn, 1) := dq_172 (by decide +kernel)
theorem dX7_addMark_18 : decode cX7_addMark 18 = .ok (.aload_n 0, 1) := dq_42 (by decide +kernel)
theorem dX7_addMark_19 : decode cX7_addMark 19 = .ok (.getfield 18, 3) := dq_180 (by decide +kernel)
theorem dX7_addMark_22 : decode cX7_addMark 22 = .ok (.iload_n 1, 1) := dq_27 (by decide +kernel)
theorem dX7_addMark_23 : decode cX7_addMark 23 = .ok (.dup2, 1) := dq_92 (by decide +kernel)
theorem dX7_addMark_24 : decode cX7_addMark 24 = .ok (.iaload, 1) := dq_46 (by decide +kernel)
theorem dX7_addMark_25 : decode cX7_addMark 25 = .ok (.iload_n 2, 1) := dq_28 (by decide +kernel)
theorem dX7_addMark_26 : decode cX7_addMark 26 = .ok (.ior, 1) := dq_128 (by decide +kernel)
theorem dX7_addMark_27 : decode cX7_addMark 27 = .ok (.iastore, 1) := dq_79 (by decide +kernel)
theorem dX7_addMark_28 : decode cX7_addMark 28 = .ok (.iconst 1, 1) := dq_4 (by decide +kernel)
theorem dX7_addMark_29 : decode cX7_addMark 29 = .ok (.ireturn, 1) := dq_172 (by decide +kernel)
theorem dX7_ageOn_0 : decode cX7_ageOn 0 = .ok (.iconst 0, 1) := dq_3 (by decide +kernel)
theorem dX7_ageOn_1 : decode cX7_ageOn 1 = .ok (.istore_n 2, 1) := dq_61 (by decide +kernel)
theorem dX7_ageOn_2 : decode cX7_ageOn 2 = .ok (.iload_n 2, 1) := dq_28 (by decide +kernel)
theorem dX7_ageOn_3 : decode cX7_ageOn 3 = .ok (.iload_n 1, 1) := dq_27 (by decide +kernel)
theorem dX7_ageOn_4 : decode cX7_ageOn 4 = .ok (.if_icmp .ge 22, 3) := dq_162 (by decide +kernel)
theorem dX7_ageOn_7 : decode cX7_ageOn 7 = .ok (.aload_n 0, 1) := dq_42 (by decide +kernel)
theorem dX7_ageOn_8 : decode cX7_ageOn 8 = .ok (.iload_n 1, 1) := dq_27 (by decide +kernel)
theorem dX7_ageOn_9 : decode cX7_ageOn 9 = .ok (.iload_n 2, 1) := dq_28 (by decide +kernel)
theorem dX7_ageOn_10 : decode cX7_ageOn 10 = .ok (.isub, 1) := dq_100 (by decide +kernel)
theorem dX7_ageOn_11 : decode cX7_ageOn 11 = .ok (.iconst 1, 1) := dq_4 (by decide +kernel)
theorem dX7_ageOn_12 : decode cX7_ageOn 12 = .ok (.invokevirtual 49, 3) := dq_182 (by decide +kernel)
theorem dX7_ageOn_15 : decode cX7_ageOn 15 = .ok (.ifCond .eq 5, 3) := dq_153 (by decide +kernel)
theorem dX7_ageOn_18 : decode cX7_ageOn 18 = .ok (.iload_n 2, 1) := dq_28 (by decide +kernel)
theorem dX7_ageOn_19 : decode cX7_ageOn 19 = .ok (.ireturn, 1) := dq_172 (by decide +kernel)
theorem dX7_ageOn_20 : decode cX7_ageOn 20 = .ok (.iinc 2 1, 3) := dq_132 (by decide +kernel)
theorem dX7_ageOn_23 : decode cX7_ageOn 23 = .ok (.goto (-21), 3) := dq_167 (by decide +kernel)
theorem dX7_ageOn_26 : decode cX7_ageOn 26 = .ok (.iload_n 1, 1) := dq_27 (by decide +kernel)
theorem dX7_ageOn_27 : decode cX7_ageOn 27 = .ok (.ireturn, 1) := dq_172 (by decide +kernel)
theorem dX7_becomeNew_0 : decode cX7_becomeNew 0 = .ok (.iconst 0, 1) := dq_3 (by decide +kernel)
theorem dX7_becomeNew_1 : decode cX7_becomeNew 1 = .ok (.istore_n 1, 1) := dq_60 (by decide +kernel)
theorem dX7_becomeNew_2 : decode cX7_becomeNew 2 = .ok (.iload_n 1, 1) := dq_27 (by decide +kernel)
theorem dX7_becomeNew_3 : decode cX7_becomeNew 3 = .ok (.sipush 400, 3) := dq_17 (by decide +kernel)
theorem dX7_becomeNew_6 : decode cX7_becomeNew 6 = .ok (.if_icmp .ge 37, 3) := dq_162 (by decide +kernel)
theorem dX7_becomeNew_9 : decode cX7_becomeNew 9 = .ok (.aload_n 0, 1) := dq_42 (by decide +kernel)
theorem dX7_becomeNew_10 : decode cX7_becomeNew 10 = .ok (.getfield 9, 3) := dq_180 (by decide +kernel)
theorem dX7_becomeNew_13 : decode cX7_becomeNew 13 = .ok (.iload_n 1, 1) := dq_27 (by decide +kernel)
theorem dX7_becomeNew_14 : decode cX7_becomeNew 14 = .ok (.iconst 0, 1) := dq_3 (by decide +kernel)
theorem dX7_becomeNew_15 : decode cX7_becomeNew 15 = .ok (.iastore, 1) := dq_79 (by decide +kernel)
theorem dX7_becomeNew_16 : decode cX7_becomeNew 16 = .ok (.aload_n 0, 1) := dq_42 (by decide +kernel)
theorem dX7_becomeNew_17 : decode cX7_becomeNew 17 = .ok (.getfield 15, 3) := dq_180 (by decide +kernel)
theorem dX7_becomeNew_20 : decode cX7_becomeNew 20 = .ok (.iload_n 1, 1) := dq_27 (by decide +kernel)
theorem dX7_becomeNew_21 : decode cX7_becomeNew 21 = .ok (.iconst (-1), 1) := dq_2 (by decide +kernel)
theorem dX7_becomeNew_22 : decode cX7_becomeNew 22 = .ok (.iastore, 1) := dq_79 (by decide +kernel)
theorem dX7_becomeNew_23 : decode cX7_becomeNew 23 = .ok (.aload_n 0, 1) := dq_42 (by decide +kernel)
theorem dX7_becomeNew_24 : decode cX7_becomeNew 24 = .ok (.getfield 18, 3) := dq_180 (by decide +kernel)
theorem dX7_becomeNew_27 : decode cX7_becomeNew 27 = .ok (.iload_n 1, 1) := dq_27 (by decide +kernel)
theorem dX7_becomeNew_28 : decode cX7_becomeNew 28 = .ok (.iconst 0, 1) := dq_3 (by decide +kernel)
theorem dX7_becomeNew_29 : decode cX7_becomeNew 29 = .ok (.iastore, 1) := dq_79 (by decide +kernel)
theorem dX7_becomeNew_30 : decode cX7_becomeNew 30 = .ok (.aload_n 0, 1) := dq_42 (by decide +kernel)
theorem dX7_becomeNew_31 : decode cX7_becomeNew 31 = .ok (.getfield 21, 3) := dq_180 (by decide +kernel)
theorem dX7_becomeNew_34 : decode cX7_becomeNew 34 = .ok (.iload_n 1, 1) := dq_27 (by decide +kernel)
theorem dX7_becomeNew_35 : decode cX7_becomeNew 35 = .ok (.iconst (-1), 1) := dq_2 (by decide +kernel)
theorem dX7_becomeNew_36 : decode cX7_becomeNew 36 = .ok (.iastore, 1) := dq_79 (by decide +kernel)
theorem dX7_becomeNew_37 : decode cX7_becomeNew 37 = .ok (.iinc 1 1, 3) := dq_132 (by decide +kernel)
theorem dX7_becomeNew_40 : decode cX7_becomeNew 40 = .ok (.goto (-38), 3) := dq_167 (by decide +kernel)
theorem dX7_becomeNew_43 : decode cX7_becomeNew 43 = .ok (.return_, 1) := dq_177 (by decide +kernel)
theorem dX7_daysAway_0 : decode cX7_daysAway 0 = .ok (.iconst 0, 1) := dq_3 (by decide +kernel)
theorem dX7_daysAway_1 : decode cX7_daysAway 1 = .ok (.istore_n 2, 1) := dq_61 (by decide +kernel)
theorem dX7_daysAway_2 : decode cX7_daysAway 2 = .ok (.iconst 0, 1) := dq_3 (by decide +kernel)
theorem dX7_daysAway_3 : decode cX7_daysAway 3 = .ok (.istore_n 3, 1) := dq_62 (by decide +kernel)
theorem dX7_daysAway_4 : decode cX7_daysAway 4 = .ok (.iload_n 3, 1) := dq_29 (by decide +kernel)
theorem dX7_daysAway_5 : decode cX7_daysAway 5 = .ok (.iload_n 1, 1) := dq_27 (by decide +kernel)
theorem dX7_daysAway_6 : decode cX7_daysAway 6 = .ok (.if_icmp .gt 29, 3) := dq_163 (by decide +kernel)
theorem dX7_daysAway_9 : decode cX7_daysAway 9 = .ok (.iload_n 3, 1) := dq_29 (by decide +kernel)
theorem dX7_daysAway_10 : decode cX7_daysAway 10 = .ok (.sipush 400, 3) := dq_17 (by decide +kernel)
theorem dX7_daysAway_13 : decode cX7_daysAway 13 = .ok (.if_icmp .ge 22, 3) := dq_162 (by decide +kernel)
theorem dX7_daysAway_16 : decode cX7_daysAway 16 = .ok (.aload_n 0, 1) := dq_42 (by decide +kernel)
theorem dX7_daysAway_17 : decode cX7_daysAway 17 = .ok (.getfield 21, 3) := dq_180 (by decide +kernel)
theorem dX7_daysAway_20 : decode cX7_daysAway 20 = .ok (.iload_n 3, 1) := dq_29 (by decide +kernel)
theorem dX7_daysAway_21 : decode cX7_daysAway 21 = .ok (.iaload, 1) := dq_46 (by decide +kernel)
theorem dX7_daysAway_22 : decode cX7_daysAway 22 = .ok (.iconst (-1), 1) := dq_2 (by decide +kernel)
theorem dX7_daysAway_23 : decode cX7_daysAway 23 = .ok (.if_icmp .eq 6, 3) := dq_159 (by decide +kernel)
theorem dX7_daysAway_26 : decode cX7_daysAway 26 = .ok (.iinc 2 1, 3) := dq_132 (by decide +kernel)
theorem dX7_daysAway_29 : decode cX7_daysAway 29 = .ok (.iinc 3 1, 3) := dq_132 (by decide +kernel)
theorem dX7_daysAway_32 : decode cX7_daysAway 32 = .ok (.goto (-28), 3) := dq_167 (by decide +kernel)
theorem dX7_daysAway_35 : decode cX7_daysAway 35 = .ok (.iload_n 2, 1) := dq_28 (by decide +kernel)
theorem dX7_daysAway_36 : decode cX7_daysAway 36 = .ok (.ireturn, 1) := dq_172 (by decide +kernel)
theorem dX7_errorAsKnown_0 : decode cX7_errorAsKnown 0 = .ok (.aload_n 0, 1) := dq_42 (by decide +kernel)
theorem dX7_errorAsKnown_1 : decode cX7_errorAsKnown 1 = .ok (.iload_n 1, 1) := dq_27 (by decide +kernel)
theorem dX7_errorAsKnown_2 : decode cX7_errorAsKnown 2 = .ok (.invokevirtual 28, 3) := dq_182 (by decide +kernel)
theorem dX7_errorAsKnown_5 : decode cX7_errorAsKnown 5 = .ok (.ifCond .eq 25, 3) := dq_153 (by decide +kernel)
theorem dX7_errorAsKnown_8 : decode cX7_errorAsKnown 8 = .ok (.aload_n 0, 1) := dq_42 (by decide +kernel)
theorem dX7_errorAsKnown_9 : decode cX7_errorAsKnown 9 = .ok (.getfield 9, 3) := dq_180 (by decide +kernel)
theorem dX7_errorAsKnown_12 : decode cX7_errorAsKnown 12 = .ok (.iload_n 1, 1) := dq_27 (by decide +kernel)
theorem dX7_errorAsKnown_13 : decode cX7_errorAsKnown 13 = .ok (.iaload, 1) := dq_46 (by decide +kernel)
theorem dX7_errorAsKnown_14 : decode cX7_errorAsKnown 14 = .ok (.aload_n 2, 1) := dq_44 (by decide +kernel)
theorem dX7_errorAsKnown_15 : decode cX7_errorAsKnown 15 = .ok (.aload_n 0, 1) := dq_42 (by decide +kernel)
theorem dX7_errorAsKnown_16 : decode cX7_errorAsKnown 16 = .ok (.getfield 15, 3) := dq_180 (by decide +kernel)
theorem dX7_errorAsKnown_19 : decode cX7_errorAsKnown 19 = .ok (.iload_n 1, 1) := dq_27 (by decide +kernel)
theorem dX7_errorAsKnown_20 : decode cX7_errorAsKnown 20 = .ok (.iaload, 1) := dq_46 (by decide +kernel)
theorem dX7_errorAsKnown_21 : decode cX7_errorAsKnown 21 = .ok (.iload_n 1, 1) := dq_27 (by decide +kernel)
theorem dX7_errorAsKnown_22 : decode cX7_errorAsKnown 22 = .ok (.iload_n 3, 1) := dq_29 (by decide +kernel)
theorem dX7_errorAsKnown_23 : decode cX7_errorAsKnown 23 = .ok (.invokevirtual 31, 3) := dq_182 (by decide +kernel)
theorem dX7_errorAsKnown_26 : decode cX7_errorAsKnown 26 = .ok (.isub, 1) := dq_100 (by decide +kernel)
theorem dX7_errorAsKnown_27 : decode cX7_errorAsKnown 27 = .ok (.goto 5, 3) := dq_167 (by decide +kernel)
theorem dX7_errorAsKnown_30 : decode cX7_errorAsKnown 30 = .ok (.ldc 37, 2) := dq_18 (by decide +kernel)
theorem dX7_errorAsKnown_32 : decode cX7_errorAsKnown 32 = .ok (.ireturn, 1) := dq_172 (by decide +kernel)
theorem dX7_giveTo_0 : decode cX7_giveTo 0 = .ok (.iconst 0, 1) := dq_3 (by decide +kernel)
theorem dX7_giveTo_1 : decode cX7_giveTo 1 = .ok (.iload_n 2, 1) := dq_28 (by decide +kernel)
theorem dX7_giveTo_2 : decode cX7_giveTo 2 = .ok (.invokestatic 52, 3) := dq_184 (by decide +kernel)
theorem dX7_giveTo_5 : decode cX7_giveTo 5 = .ok (.istore_n 3, 1) := dq_62 (by decide +kernel)
theorem dX7_giveTo_6 : decode cX7_giveTo 6 = .ok (.iload_n 3, 1) := dq_29 (by decide +kernel)
theorem dX7_giveTo_7 : decode cX7_giveTo 7 = .ok (.sipush 400, 3) := dq_17 (by decide +kernel)
theorem dX7_giveTo_10 : decode cX7_giveTo 10 = .ok (.if_icmp .ge 16, 3) := dq_162 (by decide +kernel)
theorem dX7_giveTo_13 : decode cX7_giveTo 13 = .ok (.aload_n 0, 1) := dq_42 (by decide +kernel)
theorem dX7_giveTo_14 : decode cX7_giveTo 14 = .ok (.getfield 21, 3) := dq_180 (by decide +kernel)
theorem dX7_giveTo_17 : decode cX7_giveTo 17 = .ok (.iload_n 3, 1) := dq_29 (by decide +kernel)
theorem dX7_giveTo_18 : decode cX7_giveTo 18 = .ok (.iload_n 1, 1) := dq_27 (by decide +kernel)
theorem dX7_giveTo_19 : decode cX7_giveTo 19 = .ok (.iastore, 1) := dq_79 (by decide +kernel)
theorem dX7_giveTo_20 : decode cX7_giveTo 20 = .ok (.iinc 3 1, 3) := dq_132 (by decide +kernel)
theorem dX7_giveTo_23 : decode cX7_giveTo 23 = .ok (.goto (-17), 3) := dq_167 (by decide +kernel)
theorem dX7_giveTo_26 : decode cX7_giveTo 26 = .ok (.return_, 1) := dq_177 (by decide +kernel)
theorem dX7_holderOn_0 : decode cX7_holderOn 0 = .ok (.iload_n 1, 1) := dq_27 (by decide +kernel)
theorem dX7_holderOn_1 : decode cX7_holderOn 1 = .ok (.invokestatic 24, 3) := dq_184 (by decide +kernel)
theorem dX7_holderOn_4 : decode cX7_holderOn 4 = .ok (.ifCond .eq 12, 3) := dq_153 (by decide +kernel)
theorem dX7_holderOn_7 : decode cX7_holderOn 7 = .ok (.aload_n 0, 1) := dq_42 (by decide +kernel)
theorem dX7_holderOn_8 : decode cX7_holderOn 8 = .ok (.getfield 21, 3) := dq_180 (by decide +kernel)
theorem dX7_holderOn_11 : decode cX7_holderOn 11 = .ok (.iload_n 1, 1) := dq_27 (by decide +kernel)
theorem dX7_holderOn_12 : decode cX7_holderOn 12 = .ok (.iaload, 1) := dq_46 (by decide +kernel)
theorem dX7_holderOn_13 : decode cX7_holderOn 13 = .ok (.goto 4, 3) := dq_167 (by decide +kernel)
theorem dX7_holderOn_16 : decode cX7_holderOn 16 = .ok (.iconst (-1), 1) := dq_2 (by decide +kernel)
theorem dX7_holderOn_17 : decode cX7_holderOn 17 = .ok (.ireturn, 1) := dq_172 (by decide +kernel)
theorem dX7_isCompared_0 : decode cX7_isCompared 0 = .ok (.iload_n 1, 1) := dq_27 (by decide +kernel)
theorem dX7_isCompared_1 : decode cX7_isCompared 1 = .ok (.invokestatic 24, 3) := dq_184 (by decide +kernel)
theorem dX7_isCompared_4 : decode cX7_isCompared 4 = .ok (.ifCond .eq 17, 3) := dq_153 (by decide +kernel)
theorem dX7_isCompared_7 : decode cX7_isCompared 7 = .ok (.aload_n 0, 1) := dq_42 (by decide +kernel)
theorem dX7_isCompared_8 : decode cX7_isCompared 8 = .ok (.getfield 15, 3) := dq_180 (by decide +kernel)
theorem dX7_isCompared_11 : decode cX7_isCompared 11 = .ok (.iload_n 1, 1) := dq_27 (by decide +kernel)
theorem dX7_isCompared_12 : decode cX7_isCompared 12 = .ok (.iaload, 1) := dq_46 (by decide +kernel)
theorem dX7_isCompared_13 : decode cX7_isCompared 13 = .ok (.iconst (-1), 1) := dq_2 (by decide +kernel)
theorem dX7_isCompared_14 : decode cX7_isCompared 14 = .ok (.if_icmp .eq 7, 3) := dq_159 (by decide +kernel)
theorem dX7_isCompared_17 : decode cX7_isCompared 17 = .ok (.iconst 1, 1) := dq_4 (by decide +kernel)
theorem dX7_isCompared_18 : decode cX7_isCompared 18 = .ok (.goto 4, 3) := dq_167 (by decide +kernel)
theorem dX7_isCompared_21 : decode cX7_isCompared 21 = .ok (.iconst 0, 1) := dq_3 (by decide +kernel)
theorem dX7_isCompared_22 : decode cX7_isCompared 22 = .ok (.ireturn, 1) := dq_172 (by decide +kernel)
theorem dX7_isMarked_0 : decode cX7_isMarked 0 = .ok (.iload_n 1, 1) := dq_27 (by decide +kernel)
theorem dX7_isMarked_1 : decode cX7_isMarked 1 = .ok (.invokestatic 24, 3) := dq_184 (by decide +kernel)
theorem dX7_isMarked_4 : decode cX7_isMarked 4 = .ok (.ifCond .eq 18, 3) := dq_153 (by decide +kernel)
theorem dX7_isMarked_7 : decode cX7_isMarked 7 = .ok (.aload_n 0, 1) := dq_42 (by decide +kernel)
theorem dX7_isMarked_8 : decode cX7_isMarked 8 = .ok (.getfield 18, 3) := dq_180 (by decide +kernel)
theorem dX7_isMarked_11 : decode cX7_isMarked 11 = .ok (.iload_n 1, 1) := dq_27 (by decide +kernel)
theorem dX7_isMarked_12 : decode cX7_isMarked 12 = .ok (.iaload, 1) := dq_46 (by decide +kernel)
theorem dX7_isMarked_13 : decode cX7_isMarked 13 = .ok (.iload_n 2, 1) := dq_28 (by decide +kernel)
theorem dX7_isMarked_14 : decode cX7_isMarked 14 = .ok (.iand, 1) := dq_126 (by decide +kernel)
theorem dX7_isMarked_15 : decode cX7_isMarked 15 = .ok (.ifCond .eq 7, 3) := dq_153 (by decide +kernel)
theorem dX7_isMarked_18 : decode cX7_isMarked 18 = .ok (.iconst 1, 1) := dq_4 (by decide +kernel)
theorem dX7_isMarked_19 : decode cX7_isMarked 19 = .ok (.goto 4, 3) := dq_167 (by decide +kernel)
theorem dX7_isMarked_22 : decode cX7_isMarked 22 = .ok (.iconst 0, 1) := dq_3 (by decide +kernel)
theorem dX7_isMarked_23 : decode cX7_isMarked 23 = .ok (.ireturn, 1) := dq_172 (by decide +kernel)
theorem dX7_rateAsKnown_0 : decode cX7_rateAsKnown 0 = .ok (.aload_n 0, 1) := dq_42 (by decide +kernel)
theorem dX7_rateAsKnown_1 : decode cX7_rateAsKnown 1 = .ok (.iload_n 1, 1) := dq_27 (by decide +kernel)
theorem dX7_rateAsKnown_2 : decode cX7_rateAsKnown 2 = .ok (.aload_n 0, 1) := dq_42 (by decide +kernel)
theorem dX7_rateAsKnown_3 : decode cX7_rateAsKnown 3 = .ok (.iload_n 1, 1) := dq_27 (by decide +kernel)
theorem dX7_rateAsKnown_4 : decode cX7_rateAsKnown 4 = .ok (.aload_n 2, 1) := dq_44 (by decide +kernel)
theorem dX7_rateAsKnown_5 : decode cX7_rateAsKnown 5 = .ok (.iload_n 3, 1) := dq_29 (by decide +kernel)
theorem dX7_rateAsKnown_6 : decode cX7_rateAsKnown 6 = .ok (.invokevirtual 38, 3) := dq_182 (by decide +kernel)
theorem dX7_rateAsKnown_9 : decode cX7_rateAsKnown 9 = .ok (.aload_n 0, 1) := dq_42 (by decide +kernel)
theorem dX7_rateAsKnown_10 : decode cX7_rateAsKnown 10 = .ok (.iload_n 1, 1) := dq_27 (by decide +kernel)
theorem dX7_rateAsKnown_11 : decode cX7_rateAsKnown 11 = .ok (.iconst 1, 1) := dq_4 (by decide +kernel)
theorem dX7_rateAsKnown_12 : decode cX7_rateAsKnown 12 = .ok (.iadd, 1) := dq_96 (by decide +kernel)
theorem dX7_rateAsKnown_13 : decode cX7_rateAsKnown 13 = .ok (.aload_n 2, 1) := dq_44 (by decide +kernel)
theorem dX7_rateAsKnown_14 : decode cX7_rateAsKnown 14 = .ok (.iload_n 3, 1) := dq_29 (by decide +kernel)
theorem dX7_rateAsKnown_15 : decode cX7_rateAsKnown 15 = .ok (.invokevirtual 38, 3) := dq_182 (by decide +kernel)
theorem dX7_rateAsKnown_18 : decode cX7_rateAsKnown 18 = .ok (.invokevirtual 42, 3) := dq_182 (by decide +kernel)
theorem dX7_rateAsKnown_21 : decode cX7_rateAsKnown 21 = .ok (.ireturn, 1) := dq_172 (by decide +kernel)
theorem dX7_rateBetween_0 : decode cX7_rateBetween 0 = .ok (.iload_n 2, 1) := dq_28 (by decide +kernel)
theorem dX7_rateBetween_1 : decode cX7_rateBetween 1 = .ok (.ldc 37, 2) := dq_18 (by decide +kernel)
theorem dX7_rateBetween_3 : decode cX7_rateBetween 3 = .ok (.if_icmp .eq 21, 3) := dq_159 (by decide +kernel)
theorem dX7_rateBetween_6 : decode cX7_rateBetween 6 = .ok (.iload_n 3, 1) := dq_29 (by decide +kernel)
theorem dX7_rateBetween_7 : decode cX7_rateBetween 7 = .ok (.ldc 37, 2) := dq_18 (by decide +kernel)
theorem dX7_rateBetween_9 : decode cX7_rateBetween 9 = .ok (.if_icmp .eq 15, 3) := dq_159 (by decide +kernel)
theorem dX7_rateBetween_12 : decode cX7_rateBetween 12 = .ok (.iload_n 3, 1) := dq_29 (by decide +kernel)
theorem dX7_rateBetween_13 : decode cX7_rateBetween 13 = .ok (.iload_n 2, 1) := dq_28 (by decide +kernel)
theorem dX7_rateBetween_14 : decode cX7_rateBetween 14 = .ok (.isub, 1) := dq_100 (by decide +kernel)
theorem dX7_rateBetween_15 : decode cX7_rateBetween 15 = .ok (.sipush 999, 3) := dq_17 (by decide +kernel)
theorem dX7_rateBetween_18 : decode cX7_rateBetween 18 = .ok (.invokestatic 45, 3) := dq_184 (by decide +kernel)
theorem dX7_rateBetween_21 : decode cX7_rateBetween 21 = .ok (.ifCond .ne 6, 3) := dq_154 (by decide +kernel)
theorem dX7_rateBetween_24 : decode cX7_rateBetween 24 = .ok (.ldc 37, 2) := dq_18 (by decide +kernel)
theorem dX7_rateBetween_26 : decode cX7_rateBetween 26 = .ok (.ireturn, 1) := dq_172 (by decide +kernel)
theorem dX7_rateBetween_27 : decode cX7_rateBetween 27 = .ok (.aload_n 0, 1) := dq_42 (by decide +kernel)
theorem dX7_rateBetween_28 : decode cX7_rateBetween 28 = .ok (.iload_n 1, 1) := dq_27 (by decide +kernel)
theorem dX7_rateBetween_29 : decode cX7_rateBetween 29 = .ok (.iconst 2, 1) := dq_5 (by decide +kernel)
theorem dX7_rateBetween_30 : decode cX7_rateBetween 30 = .ok (.invokevirtual 49, 3) := dq_182 (by decide +kernel)
theorem dX7_rateBetween_33 : decode cX7_rateBetween 33 = .ok (.ifCond .ne 14, 3) := dq_154 (by decide +kernel)
theorem dX7_rateBetween_36 : decode cX7_rateBetween 36 = .ok (.aload_n 0, 1) := dq_42 (by decide +kernel)
theorem dX7_rateBetween_37 : decode cX7_rateBetween 37 = .ok (.iload_n 1, 1) := dq_27 (by decide +kernel)
theorem dX7_rateBetween_38 : decode cX7_rateBetween 38 = .ok (.iconst 1, 1) := dq_4 (by decide +kernel)
theorem dX7_rateBetween_39 : decode cX7_rateBetween 39 = .ok (.iadd, 1) := dq_96 (by decide +kernel)
theorem dX7_rateBetween_40 : decode cX7_rateBetween 40 = .ok (.iconst 3, 1) := dq_6 (by decide +kernel)
theorem dX7_rateBetween_41 : decode cX7_rateBetween 41 = .ok (.invokevirtual 49, 3) := dq_182 (by decide +kernel)
theorem dX7_rateBetween_44 : decode cX7_rateBetween 44 = .ok (.ifCond .eq 6, 3) := dq_153 (by decide +kernel)
theorem dX7_rateBetween_47 : decode cX7_rateBetween 47 = .ok (.ldc 37, 2) := dq_18 (by decide +kernel)
theorem dX7_rateBetween_49 : decode cX7_rateBetween 49 = .ok (.ireturn, 1) := dq_172 (by decide +kernel)
theorem dX7_rateBetween_50 : decode cX7_rateBetween 50 = .ok (.iload_n 3, 1) := dq_29 (by decide +kernel)
theorem dX7_rateBetween_51 : decode cX7_rateBetween 51 = .ok (.iload_n 2, 1) := dq_28 (by decide +kernel)
theorem dX7_rateBetween_52 : decode cX7_rateBetween 52 = .ok (.isub, 1) := dq_100 (by decide +kernel)
theorem dX7_rateBetween_53 : decode cX7_rateBetween 53 = .ok (.ireturn, 1) := dq_172 (by decide +kernel)
theorem dX7_tell_0 : decode cX7_tell 0 = .ok (.iload_n 1, 1) := dq_27 (by decide +kernel)
theorem dX7_tell_1 : decode cX7_tell 1 = .ok (.invokestatic 24, 3) := dq_184 (by decide +kernel)
theorem dX7_tell_4 : decode cX7_tell 4 = .ok (.ifCond .eq 17, 3) := dq_153 (by decide +kernel)
theorem dX7_tell_7 : decode cX7_tell 7 = .ok (.aload_n 0, 1) := dq_42 (by decide +kernel)
theorem dX7_tell_8 : decode cX7_tell 8 = .ok (.getfield 9, 3) := dq_180 (by decide +kernel)
theorem dX7_tell_11 : decode cX7_tell 11 = .ok (.iload_n 1, 1) := dq_27 (by decide +kernel)
theorem dX7_tell_12 : decode cX7_tell 12 = .ok (.iload_n 2, 1) := dq_28 (by decide +kernel)
theorem dX7_tell_13 : decode cX7_tell 13 = .ok (.iastore, 1) := dq_79 (by decide +kernel)
theorem dX7_tell_14 : decode cX7_tell 14 = .ok (.aload_n 0, 1) := dq_42 (by decide +kernel)
theorem dX7_tell_15 : decode cX7_tell 15 = .ok (.getfield 15, 3) := dq_180 (by decide +kernel)
theorem dX7_tell_18 : decode cX7_tell 18 = .ok (.iload_n 1, 1) := dq_27 (by decide +kernel)
theorem dX7_tell_19 : decode cX7_tell 19 = .ok (.iload_n 3, 1) := dq_29 (by decide +kernel)
theorem dX7_tell_20 : decode cX7_tell 20 = .ok (.iastore, 1) := dq_79 (by decide +kernel)
theorem dX7_tell_21 : decode cX7_tell 21 = .ok (.return_, 1) := dq_177 (by decide +kernel)
end
section
theorem dX8_fitsKind_0 : decode cX8_fitsKind 0 = .ok (.iload_n 0, 1) := dq_26 (by decide +kernel)
theorem dX8_fitsKind_1 : decode cX8_fitsKind 1 = .ok (.ifCond .ne 7, 3) := dq_154 (by decide +kernel)
theorem dX8_fitsKind_4 : decode cX8_fitsKind 4 = .ok (.iload_n 1, 1) := dq_27 (by decide +kernel)
theorem dX8_fitsKind_5 : decode cX8_fitsKind 5 = .ok (.ifCond .eq 22, 3) := dq_153 (by decide +kernel)
theorem dX8_fitsKind_8 : decode cX8_fitsKind 8 = .ok (.iload_n 0, 1) := dq_26 (by decide +kernel)
theorem dX8_fitsKind_9 : decode cX8_fitsKind 9 = .ok (.iconst 1, 1) := dq_4 (by decide +kernel)
theorem dX8_fitsKind_10 : decode cX8_fitsKind 10 = .ok (.if_icmp .ne 12, 3) := dq_160 (by decide +kernel)
theorem dX8_fitsKind_13 : decode cX8_fitsKind 13 = .ok (.iload_n 1, 1) := dq_27 (by decide +kernel)
theorem dX8_fitsKind_14 : decode cX8_fitsKind 14 = .ok (.bipush 50, 2) := dq_16 (by decide +kernel)
theorem dX8_fitsKind_16 : decode cX8_fitsKind 16 = .ok (.invokestatic 88, 3) := dq_184 (by decide +kernel)
theorem dX8_fitsKind_19 : decode cX8_fitsKind 19 = .ok (.ifCond .ne 8, 3) := dq_154 (by decide +kernel)
theorem dX8_fitsKind_22 : decode cX8_fitsKind 22 = .ok (.iload_n 0, 1) := dq_26 (by decide +kernel)
theorem dX8_fitsKind_23 : decode cX8_fitsKind 23 = .ok (.iconst 2, 1) := dq_5 (by decide +kernel)
theorem dX8_fitsKind_24 : decode cX8_fitsKind 24 = .ok (.if_icmp .ne 7, 3) := dq_160 (by decide +kernel)
theorem dX8_fitsKind_27 : decode cX8_fitsKind 27 = .ok (.iconst 1, 1) := dq_4 (by decide +kernel)
theorem dX8_fitsKind_28 : decode cX8_fitsKind 28 = .ok (.goto 4, 3) := dq_167 (by decide +kernel)
theorem dX8_fitsKind_31 : decode cX8_fitsKind 31 = .ok (.iconst 0, 1) := dq_3 (by decide +kernel)
theorem dX8_fitsKind_32 : decode cX8_fitsKind 32 = .ok (.ireturn, 1) := dq_172 (by decide +kernel)
theorem dX8_isDay_0 : decode cX8_isDay 0 = .ok (.iload_n 0, 1) := dq_26 (by decide +kernel)
theorem dX8_isDay_1 : decode cX8_isDay 1 = .ok (.ifCond .lt 14, 3) := dq_155 (by decide +kernel)
theorem dX8_isDay_4 : decode cX8_isDay 4 = .ok (.iload_n 0, 1) := dq_26 (by decide +kernel)
theorem dX8_isDay_5 : decode cX8_isDay 5 = .ok (.sipush 400, 3) := dq_17 (by decide +kernel)
theorem dX8_isDay_8 : decode cX8_isDay 8 = .ok (.if_icmp .ge 7, 3) := dq_162 (by decide +kernel)
theorem dX8_isDay_11 : decode cX8_isDay 11 = .ok (.iconst 1, 1) := dq_4 (by decide +kernel)
theorem dX8_isDay_12 : decode cX8_isDay 12 = .ok (.goto 4, 3) := dq_167 (by decide +kernel)
theorem dX8_isDay_15 : decode cX8_isDay 15 = .ok (.iconst 0, 1) := dq_3 (by decide +kernel)
theorem dX8_isDay_16 : decode cX8_isDay 16 = .ok (.ireturn, 1) := dq_172 (by decide +kernel)
theorem dX8_isKnowledge_0 : decode cX8_isKnowledge 0 = .ok (.iload_n 0, 1) := dq_26 (by decide +kernel)
theorem dX8_isKnowledge_1 : decode cX8_isKnowledge 1 = .ok (.iconst (-1), 1) := dq_2 (by decide +kernel)
theorem dX8_isKnowledge_2 : decode cX8_isKnowledge 2 = .ok (.if_icmp .eq 10, 3) := dq_159 (by decide +kernel)
theorem dX8_isKnowledge_5 : decode cX8_isKnowledge 5 = .ok (.iload_n 0, 1) := dq_26 (by decide +kernel)
theorem dX8_isKnowledge_6 : decode cX8_isKnowledge 6 = .ok (.invokestatic 84, 3) := dq_184 (by decide +kernel)
theorem dX8_isKnowledge_9 : decode cX8_isKnowledge 9 = .ok (.ifCond .eq 7, 3) := dq_153 (by decide +kernel)
theorem dX8_isKnowledge_12 : decode cX8_isKnowledge 12 = .ok (.iconst 1, 1) := dq_4 (by decide +kernel)
theorem dX8_isKnowledge_13 : decode cX8_isKnowledge 13 = .ok (.goto 4, 3) := dq_167 (by decide +kernel)
theorem dX8_isKnowledge_16 : decode cX8_isKnowledge 16 = .ok (.iconst 0, 1) := dq_3 (by decide +kernel)
theorem dX8_isKnowledge_17 : decode cX8_isKnowledge 17 = .ok (.ireturn, 1) := dq_172 (by decide +kernel)
theorem dX8_isPlace_0 : decode cX8_isPlace 0 = .ok (.iload_n 0, 1) := dq_26 (by decide +kernel)
theorem dX8_isPlace_1 : decode cX8_isPlace 1 = .ok (.ifCond .lt 13, 3) := dq_155 (by decide +kernel)
theorem dX8_isPlace_4 : decode cX8_isPlace 4 = .ok (.iload_n 0, 1) := dq_26 (by decide +kernel)
theorem dX8_isPlace_5 : decode cX8_isPlace 5 = .ok (.bipush 16, 2) := dq_16 (by decide +kernel)
theorem dX8_isPlace_7 : decode cX8_isPlace 7 = .ok (.if_icmp .ge 7, 3) := dq_162 (by decide +kernel)
theorem dX8_isPlace_10 : decode cX8_isPlace 10 = .ok (.iconst 1, 1) := dq_4 (by decide +kernel)
theorem dX8_isPlace_11 : decode cX8_isPlace 11 = .ok (.goto 4, 3) := dq_167 (by decide +kernel)
theorem dX8_isPlace_14 : decode cX8_isPlace 14 = .ok (.iconst 0, 1) := dq_3 (by decide +kernel)
theorem dX8_isPlace_15 : decode cX8_isPlace 15 = .ok (.ireturn, 1) := dq_172 (by decide +kernel)
theorem dX8_isShip_0 : decode cX8_isShip 0 = .ok (.iload_n 0, 1) := dq_26 (by decide +kernel)
theorem dX8_isShip_1 : decode cX8_isShip 1 = .ok (.ifCond .lt 12, 3) := dq_155 (by decide +kernel)
theorem dX8_isShip_4 : decode cX8_isShip 4 = .ok (.iload_n 0, 1) := dq_26 (by decide +kernel)
theorem dX8_isShip_5 : decode cX8_isShip 5 = .ok (.iconst 5, 1) := dq_8 (by decide +kernel)
theorem dX8_isShip_6 : decode cX8_isShip 6 = .ok (.if_icmp .ge 7, 3) := dq_162 (by decide +kernel)
theorem dX8_isShip_9 : decode cX8_isShip 9 = .ok (.iconst 1, 1) := dq_4 (by decide +kernel)
theorem dX8_isShip_10 : decode cX8_isShip 10 = .ok (.goto 4, 3) := dq_167 (by decide +kernel)
theorem dX8_isShip_13 : decode cX8_isShip 13 = .ok (.iconst 0, 1) := dq_3 (by decide +kernel)
theorem dX8_isShip_14 : decode cX8_isShip 14 = .ok (.ireturn, 1) := dq_172 (by decide +kernel)
theorem dX8_isStretch_0 : decode cX8_isStretch 0 = .ok (.iload_n 0, 1) := dq_26 (by decide +kernel)
theorem dX8_isStretch_1 : decode cX8_isStretch 1 = .ok (.invokestatic 84, 3) := dq_184 (by decide +kernel)
theorem dX8_isStretch_4 : decode cX8_isStretch 4 = .ok (.ifCond .eq 27, 3) := dq_153 (by decide +kernel)
theorem dX8_isStretch_7 : decode cX8_isStretch 7 = .ok (.iload_n 1, 1) := dq_27 (by decide +kernel)
theorem dX8_isStretch_8 : decode cX8_isStretch 8 = .ok (.invokestatic 84, 3) := dq_184 (by decide +kernel)
theorem dX8_isStretch_11 : decode cX8_isStretch 11 = .ok (.ifCond .eq 20, 3) := dq_153 (by decide +kernel)
theorem dX8_isStretch_14 : decode cX8_isStretch 14 = .ok (.iload_n 0, 1) := dq_26 (by decide +kernel)
theorem dX8_isStretch_15 : decode cX8_isStretch 15 = .ok (.iload_n 1, 1) := dq_27 (by decide +kernel)
theorem dX8_isStretch_16 : decode cX8_isStretch 16 = .ok (.if_icmp .ge 15, 3) := dq_162 (by decide +kernel)
theorem dX8_isStretch_19 : decode cX8_isStretch 19 = .ok (.iload_n 1, 1) := dq_27 (by decide +kernel)
theorem dX8_isStretch_20 : decode cX8_isStretch 20 = .ok (.iload_n 0, 1) := dq_26 (by decide +kernel)
theorem dX8_isStretch_21 : decode cX8_isStretch 21 = .ok (.isub, 1) := dq_100 (by decide +kernel)
theorem dX8_isStretch_22 : decode cX8_isStretch 22 = .ok (.bipush 60, 2) := dq_16 (by decide +kernel)
theorem dX8_isStretch_24 : decode cX8_isStretch 24 = .ok (.if_icmp .gt 7, 3) := dq_163 (by decide +kernel)
theorem dX8_isStretch_27 : decode cX8_isStretch 27 = .ok (.iconst 1, 1) := dq_4 (by decide +kernel)
theorem dX8_isStretch_28 : decode cX8_isStretch 28 = .ok (.goto 4, 3) := dq_167 (by decide +kernel)
theorem dX8_isStretch_31 : decode cX8_isStretch 31 = .ok (.iconst 0, 1) := dq_3 (by decide +kernel)
theorem dX8_isStretch_32 : decode cX8_isStretch 32 = .ok (.ireturn, 1) := dq_172 (by decide +kernel)
theorem dX8_isWithin_0 : decode cX8_isWithin 0 = .ok (.iload_n 0, 1) := dq_26 (by decide +kernel)
theorem dX8_isWithin_1 : decode cX8_isWithin 1 = .ok (.iload_n 1, 1) := dq_27 (by decide +kernel)
theorem dX8_isWithin_2 : decode cX8_isWithin 2 = .ok (.ineg, 1) := dq_116 (by decide +kernel)
theorem dX8_isWithin_3 : decode cX8_isWithin 3 = .ok (.if_icmp .lt 12, 3) := dq_161 (by decide +kernel)
theorem dX8_isWithin_6 : decode cX8_isWithin 6 = .ok (.iload_n 0, 1) := dq_26 (by decide +kernel)
theorem dX8_isWithin_7 : decode cX8_isWithin 7 = .ok (.iload_n 1, 1) := dq_27 (by decide +kernel)
theorem dX8_isWithin_8 : decode cX8_isWithin 8 = .ok (.if_icmp .gt 7, 3) := dq_163 (by decide +kernel)
theorem dX8_isWithin_11 : decode cX8_isWithin 11 = .ok (.iconst 1, 1) := dq_4 (by decide +kernel)
theorem dX8_isWithin_12 : decode cX8_isWithin 12 = .ok (.goto 4, 3) := dq_167 (by decide +kernel)
theorem dX8_isWithin_15 : decode cX8_isWithin 15 = .ok (.iconst 0, 1) := dq_3 (by decide +kernel)
theorem dX8_isWithin_16 : decode cX8_isWithin 16 = .ok (.ireturn, 1) := dq_172 (by decide +kernel)
end
section
section CALLS3
variable {p : Program} {l : Launch} {e : Env} {R : Room} {s : State} {m : MethodId} {args : Array Value} {below : List Frame} {meth : Method} {c : Code} {H : Heap} {locs : List Loc} {cells slots : Nat} {Q : State → Prop}
variable {cc : ByteArray} {pc : Nat} {ls : Array Slot} {rest st : List Value} {D : va_G} {E : Nat → Nat}
variable {nL n idx d mc ms maxL : Nat} {own : String} {y : MethodName} {bytes : ByteArray} {ret : Option FieldType}
/-- a reading static method of a nest mate -/
theorem callRSN {host : String} (hx : p.tables.exec = Jvm.exec) (hb : c.code = cc) (hml : c.maxLocals = nL) (hown : s.vm.findClass own = some m.cls) (htb : ∀ w ∈ tb, w.before args s = true) (hK : KX D E s)
    {As : List Value} {wc : va_W} {post : Int32 → Prop} (hM : Met l y (wl y bytes maxL ret) (RM d 0 0) (rd_P D E As wc) (rd_Q post) 0 0 (fun _ => False)) (hy : yOk y n)
    (k1 : Cond.methodLinkNest own idx y host ∈ nestW) (k2 : Cond.static y ∈ tb) (k4 : Cond.initialized y.cls ∈ tb) (k5 : Cond.code y bytes maxL ret ∈ tb)
    (hR : d + 1 ≤ R.frames ∧ 8 + (maxL + 11) + 40 * d ≤ R.locals) (hf : cells ≤ R.cells ∧ slots ≤ R.slots) (hls : ls.size = nL) (hroom : (rest.map fun v => v.category).sum ≤ 8) (hn : As.length = n) (hst : st = As.reverse ++ rest) (hdg : decode cc pc = .ok (.invokestatic idx, 3))
    (hP : va_P D vwCl wc H)
    (kk : ∀ r : Int32, post r → W p l e R s m args below meth c H locs cells slots Q (F0 m (pc + 3) ls (.int r :: rest))) : W p l e R s m args below meth c H locs cells slots Q (F0 m pc ls st) := by
  refine rd_call (a := As.toArray) (fun T hT X => ?_) kk
  obtain ⟨v, st₀, t, T', L, h0, X', hL, e1, -, hq, hg⟩ := va_runSN (As := As) (rest := rest) (g := F0 m pc ls st) ⟨hx, hb, hml, hown, htb⟩ hM ⟨cN htb hy hK k1 k4 k5 hR, htb _ k2, trivial⟩ (prS hP hK) rfl hn hls hst (l_room hroom) hdg hf T hT X
  exact ⟨v, st₀, t, T', L, h0, X', hL, e1, hq, hg⟩
end CALLS3
theorem g_max {a b z : Int32} {x y : Int} (ha : a.toInt = x) (hb : b.toInt = y) (hz : z = if a < b then b else a) : x ≤ z.toInt ∧ y ≤ z.toInt ∧ (z.toInt = x ∨ z.toInt = y) := by
  subst ha; subst hb; subst hz
  split
  · rename_i h; rw [i_lt] at h; omega
  · rename_i h; rw [i_lt] at h; omega
theorem g_min {a b z : Int32} {x y : Int} (ha : a.toInt = x) (hb : b.toInt = y) (hz : z = if b < a then b else a) : z.toInt ≤ x ∧ z.toInt ≤ y ∧ (z.toInt = x ∨ z.toInt = y) := by
  subst ha; subst hb; subst hz
  split
  · rename_i h; rw [i_lt] at h; omega
  · rename_i h; rw [i_lt] at h; omega
end
section
theorem lc_gt {x y : Int64} (h : 0 < lg_cmp x y ∨ ¬ lg_cmp x y ≤ 0) : ¬ x = y := by
  intro e
  subst e
  have e2 : lg_cmp x x = 0 := by simp [lg_cmp]
  rw [e2] at h
  revert h
  decide
/-- as Met.ofW, of a method of a class that has native rows, but none for it -/
theorem met_for {l : Launch} {y : MethodName} {ws ws' : List Cond} {rm : Room} {Pc : Array Value → State → Prop} {Qc : Array Value → State → Outcome → State → Prop} {mc ms : Nat} {free : Addr → Prop} {cc : ByteArray} {maxL : Nat} {ret : Option FieldType}
    (hy : plainFor y = true) (hw : ws = Cond.code y cc maxL ret :: ws')
    (body : ∀ p e s m args below meth c s₁, BodyLoose p l y (headSpec ws rm) cc maxL ret e s m args below meth c s₁ → c.maxLocals = maxL → Pc args s →
      W p l e (headSpec ws rm).room s m args below meth c s.heap [] 0 0 (MQ below Qc args s mc ms free) (entryFrame m args maxL)) : Met l y ws rm Pc Qc mc ms free := by
  refine MetFree.of_bodySF (code := cc) (maxLocals := maxL) (ret := ret) hy (fun args s m h hn => ?_) (fun p e s m args below meth c s₁ B hml hP _ => ?_)
  · obtain ⟨meth, c, h1, h2, h3, h4, h5, h6, -, -⟩ := Cond.code_spec hn (atoms_spec (ws := ws) h _ (by rw [hw]; exact List.mem_cons_self))
    exact ⟨meth, c, h1, h2, h3, h4, h5, h6⟩
  · obtain ⟨t, a1, o, b1, b2, b3⟩ := body p e s m args below meth c s₁ B hml hP s₁ (by rw [B.state]; rfl) (Stand.of_body B)
    exact ⟨t, o, a1, b1, b2, b3⟩
end
section
theorem k_546 : Cond.methodLink RX1 68 yJ9_abs_067f4 ∈ tb := tb_3 66 (by decide +kernel) (by decide)
theorem k_547 : Cond.static yJ9_abs_067f4 ∈ tb := tb_3 67 (by decide +kernel) (by decide)
theorem k_548 : Cond.code yJ9_abs_067f4 cJ9_abs_067f4 2 (some .long) ∈ tb := tb_3 68 (by decide +kernel) (by decide)
theorem k_549 : Cond.methodLink RX1 74 yJ9_floorMod_f86c9 ∈ tb := tb_3 69 (by decide +kernel) (by decide)
theorem k_550 : Cond.static yJ9_floorMod_f86c9 ∈ tb := tb_3 70 (by decide +kernel) (by decide)
theorem k_551 : Cond.code yJ9_floorMod_f86c9 cJ9_floorMod_f86c9 6 (some .long) ∈ tb := tb_3 71 (by decide +kernel) (by decide)
theorem k_552 : Cond.methodLink RX1 78 yJ9_floorDiv_f86c9 ∈ tb := tb_3 72 (by decide +kernel) (by decide)
theorem k_553 : Cond.static yJ9_floorDiv_f86c9 ∈ tb := tb_3 73 (by decide +kernel) (by decide)
theorem k_554 : Cond.code yJ9_floorDiv_f86c9 cJ9_floorDiv_f86c9 6 (some .long) ∈ tb := tb_3 74 (by decide +kernel) (by decide)
theorem k_797 : Cond.static yJ9_floorDiv_7cf53 ∈ tb := tb_4 77 (by decide +kernel) (by decide)
theorem k_798 : Cond.code yJ9_floorDiv_7cf53 cJ9_floorDiv_7cf53 3 (some .int) ∈ tb := tb_4 78 (by decide +kernel) (by decide)
theorem k_841 : Cond.methodLink RX5 60 Lib.Math.min.name ∈ tb := tb_4 121 (by decide +kernel) (by decide)
theorem k_846 : Cond.methodLink RX5 54 yJ9_floorDiv_7cf53 ∈ tb := tb_4 126 (by decide +kernel) (by decide)
theorem k_856 : Cond.methodLink RX5 66 Lib.Math.abs.name ∈ tb := tb_4 136 (by decide +kernel) (by decide)
theorem k_864 : Cond.methodLink RX5 73 Lib.Math.max.name ∈ tb := tb_4 144 (by decide +kernel) (by decide)
theorem k_902 : Cond.methodLink RX0 40 Lib.Math.min.name ∈ tb := tb_4 182 (by decide +kernel) (by decide)
theorem k_903 : Cond.methodLink RX0 46 Lib.Math.max.name ∈ tb := tb_4 183 (by decide +kernel) (by decide)
theorem ok_J9_abs_067f4 : yOk yJ9_abs_067f4 1 := ⟨by decide +kernel, by decide +kernel, by decide +kernel⟩
theorem ok_J9_floorDiv_7cf53 : yOk yJ9_floorDiv_7cf53 2 := ⟨by decide +kernel, by decide +kernel, by decide +kernel⟩
theorem ok_J9_floorDiv_f86c9 : yOk yJ9_floorDiv_f86c9 2 := ⟨by decide +kernel, by decide +kernel, by decide +kernel⟩
theorem ok_J9_floorMod_f86c9 : yOk yJ9_floorMod_f86c9 2 := ⟨by decide +kernel, by decide +kernel, by decide +kernel⟩
end
section
theorem dJ9_abs_067f4_0 : decode cJ9_abs_067f4 0 = .ok (.lload_n 0, 1) := dq_30 (by decide +kernel)
theorem dJ9_abs_067f4_1 : decode cJ9_abs_067f4 1 = .ok (.lconst 0, 1) := dq_9 (by decide +kernel)
theorem dJ9_abs_067f4_2 : decode cJ9_abs_067f4 2 = .ok (.lcmp, 1) := dq_148 (by decide +kernel)
theorem dJ9_abs_067f4_3 : decode cJ9_abs_067f4 3 = .ok (.ifCond .ge 8, 3) := dq_156 (by decide +kernel)
theorem dJ9_abs_067f4_6 : decode cJ9_abs_067f4 6 = .ok (.lload_n 0, 1) := dq_30 (by decide +kernel)
theorem dJ9_abs_067f4_7 : decode cJ9_abs_067f4 7 = .ok (.lneg, 1) := dq_117 (by decide +kernel)
theorem dJ9_abs_067f4_8 : decode cJ9_abs_067f4 8 = .ok (.goto 4, 3) := dq_167 (by decide +kernel)
theorem dJ9_abs_067f4_11 : decode cJ9_abs_067f4 11 = .ok (.lload_n 0, 1) := dq_30 (by decide +kernel)
theorem dJ9_abs_067f4_12 : decode cJ9_abs_067f4 12 = .ok (.lreturn, 1) := dq_173 (by decide +kernel)
theorem dJ9_floorDiv_7cf53_0 : decode cJ9_floorDiv_7cf53 0 = .ok (.iload_n 0, 1) := dq_26 (by decide +kernel)
theorem dJ9_floorDiv_7cf53_1 : decode cJ9_floorDiv_7cf53 1 = .ok (.iload_n 1, 1) := dq_27 (by decide +kernel)
theorem dJ9_floorDiv_7cf53_2 : decode cJ9_floorDiv_7cf53 2 = .ok (.idiv, 1) := dq_108 (by decide +kernel)
theorem dJ9_floorDiv_7cf53_3 : decode cJ9_floorDiv_7cf53 3 = .ok (.istore_n 2, 1) := dq_61 (by decide +kernel)
theorem dJ9_floorDiv_7cf53_4 : decode cJ9_floorDiv_7cf53 4 = .ok (.iload_n 0, 1) := dq_26 (by decide +kernel)
theorem dJ9_floorDiv_7cf53_5 : decode cJ9_floorDiv_7cf53 5 = .ok (.iload_n 1, 1) := dq_27 (by decide +kernel)
theorem dJ9_floorDiv_7cf53_6 : decode cJ9_floorDiv_7cf53 6 = .ok (.ixor, 1) := dq_130 (by decide +kernel)
theorem dJ9_floorDiv_7cf53_7 : decode cJ9_floorDiv_7cf53 7 = .ok (.ifCond .ge 14, 3) := dq_156 (by decide +kernel)
theorem dJ9_floorDiv_7cf53_10 : decode cJ9_floorDiv_7cf53 10 = .ok (.iload_n 2, 1) := dq_28 (by decide +kernel)
theorem dJ9_floorDiv_7cf53_11 : decode cJ9_floorDiv_7cf53 11 = .ok (.iload_n 1, 1) := dq_27 (by decide +kernel)
theorem dJ9_floorDiv_7cf53_12 : decode cJ9_floorDiv_7cf53 12 = .ok (.imul, 1) := dq_104 (by decide +kernel)
theorem dJ9_floorDiv_7cf53_13 : decode cJ9_floorDiv_7cf53 13 = .ok (.iload_n 0, 1) := dq_26 (by decide +kernel)
theorem dJ9_floorDiv_7cf53_14 : decode cJ9_floorDiv_7cf53 14 = .ok (.if_icmp .eq 7, 3) := dq_159 (by decide +kernel)
theorem dJ9_floorDiv_7cf53_17 : decode cJ9_floorDiv_7cf53 17 = .ok (.iload_n 2, 1) := dq_28 (by decide +kernel)
theorem dJ9_floorDiv_7cf53_18 : decode cJ9_floorDiv_7cf53 18 = .ok (.iconst 1, 1) := dq_4 (by decide +kernel)
theorem dJ9_floorDiv_7cf53_19 : decode cJ9_floorDiv_7cf53 19 = .ok (.isub, 1) := dq_100 (by decide +kernel)
theorem dJ9_floorDiv_7cf53_20 : decode cJ9_floorDiv_7cf53 20 = .ok (.ireturn, 1) := dq_172 (by decide +kernel)
theorem dJ9_floorDiv_7cf53_21 : decode cJ9_floorDiv_7cf53 21 = .ok (.iload_n 2, 1) := dq_28 (by decide +kernel)
theorem dJ9_floorDiv_7cf53_22 : decode cJ9_floorDiv_7cf53 22 = .ok (.ireturn, 1) := dq_172 (by decide +kernel)
theorem dJ9_floorDiv_f86c9_0 : decode cJ9_floorDiv_f86c9 0 = .ok (.lload_n 0, 1) := dq_30 (by decide +kernel)
theorem dJ9_floorDiv_f86c9_1 : decode cJ9_floorDiv_f86c9 1 = .ok (.lload_n 2, 1) := dq_32 (by decide +kernel)
theorem dJ9_floorDiv_f86c9_2 : decode cJ9_floorDiv_f86c9 2 = .ok (.ldiv, 1) := dq_109 (by decide +kernel)
theorem dJ9_floorDiv_f86c9_3 : decode cJ9_floorDiv_f86c9 3 = .ok (.lstore 4, 2) := dq_55 (by decide +kernel)
theorem dJ9_floorDiv_f86c9_5 : decode cJ9_floorDiv_f86c9 5 = .ok (.lload_n 0, 1) := dq_30 (by decide +kernel)
theorem dJ9_floorDiv_f86c9_6 : decode cJ9_floorDiv_f86c9 6 = .ok (.lload_n 2, 1) := dq_32 (by decide +kernel)
theorem dJ9_floorDiv_f86c9_7 : decode cJ9_floorDiv_f86c9 7 = .ok (.lxor, 1) := dq_131 (by decide +kernel)
theorem dJ9_floorDiv_f86c9_8 : decode cJ9_floorDiv_f86c9 8 = .ok (.lconst 0, 1) := dq_9 (by decide +kernel)
theorem dJ9_floorDiv_f86c9_9 : decode cJ9_floorDiv_f86c9 9 = .ok (.lcmp, 1) := dq_148 (by decide +kernel)
theorem dJ9_floorDiv_f86c9_10 : decode cJ9_floorDiv_f86c9 10 = .ok (.ifCond .ge 17, 3) := dq_156 (by decide +kernel)
theorem dJ9_floorDiv_f86c9_13 : decode cJ9_floorDiv_f86c9 13 = .ok (.lload 4, 2) := dq_22 (by decide +kernel)
theorem dJ9_floorDiv_f86c9_15 : decode cJ9_floorDiv_f86c9 15 = .ok (.lload_n 2, 1) := dq_32 (by decide +kernel)
theorem dJ9_floorDiv_f86c9_16 : decode cJ9_floorDiv_f86c9 16 = .ok (.lmul, 1) := dq_105 (by decide +kernel)
theorem dJ9_floorDiv_f86c9_17 : decode cJ9_floorDiv_f86c9 17 = .ok (.lload_n 0, 1) := dq_30 (by decide +kernel)
theorem dJ9_floorDiv_f86c9_18 : decode cJ9_floorDiv_f86c9 18 = .ok (.lcmp, 1) := dq_148 (by decide +kernel)
theorem dJ9_floorDiv_f86c9_19 : decode cJ9_floorDiv_f86c9 19 = .ok (.ifCond .eq 8, 3) := dq_153 (by decide +kernel)
theorem dJ9_floorDiv_f86c9_22 : decode cJ9_floorDiv_f86c9 22 = .ok (.lload 4, 2) := dq_22 (by decide +kernel)
theorem dJ9_floorDiv_f86c9_24 : decode cJ9_floorDiv_f86c9 24 = .ok (.lconst 1, 1) := dq_10 (by decide +kernel)
theorem dJ9_floorDiv_f86c9_25 : decode cJ9_floorDiv_f86c9 25 = .ok (.lsub, 1) := dq_101 (by decide +kernel)
theorem dJ9_floorDiv_f86c9_26 : decode cJ9_floorDiv_f86c9 26 = .ok (.lreturn, 1) := dq_173 (by decide +kernel)
theorem dJ9_floorDiv_f86c9_27 : decode cJ9_floorDiv_f86c9 27 = .ok (.lload 4, 2) := dq_22 (by decide +kernel)
theorem dJ9_floorDiv_f86c9_29 : decode cJ9_floorDiv_f86c9 29 = .ok (.lreturn, 1) := dq_173 (by decide +kernel)
theorem dJ9_floorMod_f86c9_0 : decode cJ9_floorMod_f86c9 0 = .ok (.lload_n 0, 1) := dq_30 (by decide +kernel)
theorem dJ9_floorMod_f86c9_1 : decode cJ9_floorMod_f86c9 1 = .ok (.lload_n 2, 1) := dq_32 (by decide +kernel)
theorem dJ9_floorMod_f86c9_2 : decode cJ9_floorMod_f86c9 2 = .ok (.lrem, 1) := dq_113 (by decide +kernel)
theorem dJ9_floorMod_f86c9_3 : decode cJ9_floorMod_f86c9 3 = .ok (.lstore 4, 2) := dq_55 (by decide +kernel)
theorem dJ9_floorMod_f86c9_5 : decode cJ9_floorMod_f86c9 5 = .ok (.lload_n 0, 1) := dq_30 (by decide +kernel)
theorem dJ9_floorMod_f86c9_6 : decode cJ9_floorMod_f86c9 6 = .ok (.lload_n 2, 1) := dq_32 (by decide +kernel)
theorem dJ9_floorMod_f86c9_7 : decode cJ9_floorMod_f86c9 7 = .ok (.lxor, 1) := dq_131 (by decide +kernel)
theorem dJ9_floorMod_f86c9_8 : decode cJ9_floorMod_f86c9 8 = .ok (.lconst 0, 1) := dq_9 (by decide +kernel)
theorem dJ9_floorMod_f86c9_9 : decode cJ9_floorMod_f86c9 9 = .ok (.lcmp, 1) := dq_148 (by decide +kernel)
theorem dJ9_floorMod_f86c9_10 : decode cJ9_floorMod_f86c9 10 = .ok (.ifCond .ge 15, 3) := dq_156 (by decide +kernel)
theorem dJ9_floorMod_f86c9_13 : decode cJ9_floorMod_f86c9 13 = .ok (.lload 4, 2) := dq_22 (by decide +kernel)
theorem dJ9_floorMod_f86c9_15 : decode cJ9_floorMod_f86c9 15 = .ok (.lconst 0, 1) := dq_9 (by decide +kernel)
theorem dJ9_floorMod_f86c9_16 : decode cJ9_floorMod_f86c9 16 = .ok (.lcmp, 1) := dq_148 (by decide +kernel)
theorem dJ9_floorMod_f86c9_17 : decode cJ9_floorMod_f86c9 17 = .ok (.ifCond .eq 8, 3) := dq_153 (by decide +kernel)
theorem dJ9_floorMod_f86c9_20 : decode cJ9_floorMod_f86c9 20 = .ok (.lload 4, 2) := dq_22 (by decide +kernel)
theorem dJ9_floorMod_f86c9_22 : decode cJ9_floorMod_f86c9 22 = .ok (.lload_n 2, 1) := dq_32 (by decide +kernel)
theorem dJ9_floorMod_f86c9_23 : decode cJ9_floorMod_f86c9 23 = .ok (.ladd, 1) := dq_97 (by decide +kernel)
theorem dJ9_floorMod_f86c9_24 : decode cJ9_floorMod_f86c9 24 = .ok (.lreturn, 1) := dq_173 (by decide +kernel)
theorem dJ9_floorMod_f86c9_25 : decode cJ9_floorMod_f86c9 25 = .ok (.lload 4, 2) := dq_22 (by decide +kernel)
theorem dJ9_floorMod_f86c9_27 : decode cJ9_floorMod_f86c9 27 = .ok (.lreturn, 1) := dq_173 (by decide +kernel)
end
section
theorem dX0_add_0 : decode cX0_add 0 = .ok (.aload_n 0, 1) := dq_42 (by decide +kernel)
theorem dX0_add_1 : decode cX0_add 1 = .ok (.getfield 27, 3) := dq_180 (by decide +kernel)
theorem dX0_add_4 : decode cX0_add 4 = .ok (.bipush 9, 2) := dq_16 (by decide +kernel)
theorem dX0_add_6 : decode cX0_add 6 = .ok (.if_icmp .ge 23, 3) := dq_162 (by decide +kernel)
theorem dX0_add_9 : decode cX0_add 9 = .ok (.aload_n 0, 1) := dq_42 (by decide +kernel)
theorem dX0_add_10 : decode cX0_add 10 = .ok (.getfield 9, 3) := dq_180 (by decide +kernel)
theorem dX0_add_13 : decode cX0_add 13 = .ok (.aload_n 0, 1) := dq_42 (by decide +kernel)
theorem dX0_add_14 : decode cX0_add 14 = .ok (.getfield 27, 3) := dq_180 (by decide +kernel)
theorem dX0_add_17 : decode cX0_add 17 = .ok (.iload_n 1, 1) := dq_27 (by decide +kernel)
theorem dX0_add_18 : decode cX0_add 18 = .ok (.iastore, 1) := dq_79 (by decide +kernel)
theorem dX0_add_19 : decode cX0_add 19 = .ok (.aload_n 0, 1) := dq_42 (by decide +kernel)
theorem dX0_add_20 : decode cX0_add 20 = .ok (.dup, 1) := dq_89 (by decide +kernel)
theorem dX0_add_21 : decode cX0_add 21 = .ok (.getfield 27, 3) := dq_180 (by decide +kernel)
theorem dX0_add_24 : decode cX0_add 24 = .ok (.iconst 1, 1) := dq_4 (by decide +kernel)
theorem dX0_add_25 : decode cX0_add 25 = .ok (.iadd, 1) := dq_96 (by decide +kernel)
theorem dX0_add_26 : decode cX0_add 26 = .ok (.putfield 27, 3) := dq_181 (by decide +kernel)
theorem dX0_add_29 : decode cX0_add 29 = .ok (.return_, 1) := dq_177 (by decide +kernel)
theorem dX0_keepIfBetter_0 : decode cX0_keepIfBetter 0 = .ok (.iconst 0, 1) := dq_3 (by decide +kernel)
theorem dX0_keepIfBetter_1 : decode cX0_keepIfBetter 1 = .ok (.istore_n 1, 1) := dq_60 (by decide +kernel)
theorem dX0_keepIfBetter_2 : decode cX0_keepIfBetter 2 = .ok (.iconst 0, 1) := dq_3 (by decide +kernel)
theorem dX0_keepIfBetter_3 : decode cX0_keepIfBetter 3 = .ok (.istore_n 2, 1) := dq_61 (by decide +kernel)
theorem dX0_keepIfBetter_4 : decode cX0_keepIfBetter 4 = .ok (.iload_n 2, 1) := dq_28 (by decide +kernel)
theorem dX0_keepIfBetter_5 : decode cX0_keepIfBetter 5 = .ok (.aload_n 0, 1) := dq_42 (by decide +kernel)
theorem dX0_keepIfBetter_6 : decode cX0_keepIfBetter 6 = .ok (.getfield 34, 3) := dq_180 (by decide +kernel)
theorem dX0_keepIfBetter_9 : decode cX0_keepIfBetter 9 = .ok (.if_icmp .ge 35, 3) := dq_162 (by decide +kernel)
theorem dX0_keepIfBetter_12 : decode cX0_keepIfBetter 12 = .ok (.iload_n 2, 1) := dq_28 (by decide +kernel)
theorem dX0_keepIfBetter_13 : decode cX0_keepIfBetter 13 = .ok (.aload_n 0, 1) := dq_42 (by decide +kernel)
theorem dX0_keepIfBetter_14 : decode cX0_keepIfBetter 14 = .ok (.getfield 21, 3) := dq_180 (by decide +kernel)
theorem dX0_keepIfBetter_17 : decode cX0_keepIfBetter 17 = .ok (.arraylength, 1) := dq_190 (by decide +kernel)
theorem dX0_keepIfBetter_18 : decode cX0_keepIfBetter 18 = .ok (.if_icmp .ge 26, 3) := dq_162 (by decide +kernel)
theorem dX0_keepIfBetter_21 : decode cX0_keepIfBetter 21 = .ok (.iload_n 1, 1) := dq_27 (by decide +kernel)
theorem dX0_keepIfBetter_22 : decode cX0_keepIfBetter 22 = .ok (.aload_n 0, 1) := dq_42 (by decide +kernel)
theorem dX0_keepIfBetter_23 : decode cX0_keepIfBetter 23 = .ok (.getfield 21, 3) := dq_180 (by decide +kernel)
theorem dX0_keepIfBetter_26 : decode cX0_keepIfBetter 26 = .ok (.iload_n 2, 1) := dq_28 (by decide +kernel)
theorem dX0_keepIfBetter_27 : decode cX0_keepIfBetter 27 = .ok (.iaload, 1) := dq_46 (by decide +kernel)
theorem dX0_keepIfBetter_28 : decode cX0_keepIfBetter 28 = .ok (.aload_n 0, 1) := dq_42 (by decide +kernel)
theorem dX0_keepIfBetter_29 : decode cX0_keepIfBetter 29 = .ok (.iload_n 2, 1) := dq_28 (by decide +kernel)
theorem dX0_keepIfBetter_30 : decode cX0_keepIfBetter 30 = .ok (.invokevirtual 57, 3) := dq_182 (by decide +kernel)
theorem dX0_keepIfBetter_33 : decode cX0_keepIfBetter 33 = .ok (.imul, 1) := dq_104 (by decide +kernel)
theorem dX0_keepIfBetter_34 : decode cX0_keepIfBetter 34 = .ok (.invokestatic 46, 3) := dq_184 (by decide +kernel)
theorem dX0_keepIfBetter_37 : decode cX0_keepIfBetter 37 = .ok (.istore_n 1, 1) := dq_60 (by decide +kernel)
theorem dX0_keepIfBetter_38 : decode cX0_keepIfBetter 38 = .ok (.iinc 2 1, 3) := dq_132 (by decide +kernel)
theorem dX0_keepIfBetter_41 : decode cX0_keepIfBetter 41 = .ok (.goto (-37), 3) := dq_167 (by decide +kernel)
theorem dX0_keepIfBetter_44 : decode cX0_keepIfBetter 44 = .ok (.iload_n 1, 1) := dq_27 (by decide +kernel)
theorem dX0_keepIfBetter_45 : decode cX0_keepIfBetter 45 = .ok (.aload_n 0, 1) := dq_42 (by decide +kernel)
theorem dX0_keepIfBetter_46 : decode cX0_keepIfBetter 46 = .ok (.getfield 37, 3) := dq_180 (by decide +kernel)
theorem dX0_keepIfBetter_49 : decode cX0_keepIfBetter 49 = .ok (.if_icmp .ge 34, 3) := dq_162 (by decide +kernel)
theorem dX0_keepIfBetter_52 : decode cX0_keepIfBetter 52 = .ok (.aload_n 0, 1) := dq_42 (by decide +kernel)
theorem dX0_keepIfBetter_53 : decode cX0_keepIfBetter 53 = .ok (.iload_n 1, 1) := dq_27 (by decide +kernel)
theorem dX0_keepIfBetter_54 : decode cX0_keepIfBetter 54 = .ok (.putfield 37, 3) := dq_181 (by decide +kernel)
theorem dX0_keepIfBetter_57 : decode cX0_keepIfBetter 57 = .ok (.iconst 0, 1) := dq_3 (by decide +kernel)
theorem dX0_keepIfBetter_58 : decode cX0_keepIfBetter 58 = .ok (.istore_n 2, 1) := dq_61 (by decide +kernel)
theorem dX0_keepIfBetter_59 : decode cX0_keepIfBetter 59 = .ok (.iload_n 2, 1) := dq_28 (by decide +kernel)
theorem dX0_keepIfBetter_60 : decode cX0_keepIfBetter 60 = .ok (.bipush 9, 2) := dq_16 (by decide +kernel)
theorem dX0_keepIfBetter_62 : decode cX0_keepIfBetter 62 = .ok (.if_icmp .ge 21, 3) := dq_162 (by decide +kernel)
theorem dX0_keepIfBetter_65 : decode cX0_keepIfBetter 65 = .ok (.aload_n 0, 1) := dq_42 (by decide +kernel)
theorem dX0_keepIfBetter_66 : decode cX0_keepIfBetter 66 = .ok (.getfield 18, 3) := dq_180 (by decide +kernel)
theorem dX0_keepIfBetter_69 : decode cX0_keepIfBetter 69 = .ok (.iload_n 2, 1) := dq_28 (by decide +kernel)
theorem dX0_keepIfBetter_70 : decode cX0_keepIfBetter 70 = .ok (.aload_n 0, 1) := dq_42 (by decide +kernel)
theorem dX0_keepIfBetter_71 : decode cX0_keepIfBetter 71 = .ok (.getfield 15, 3) := dq_180 (by decide +kernel)
theorem dX0_keepIfBetter_74 : decode cX0_keepIfBetter 74 = .ok (.iload_n 2, 1) := dq_28 (by decide +kernel)
theorem dX0_keepIfBetter_75 : decode cX0_keepIfBetter 75 = .ok (.iaload, 1) := dq_46 (by decide +kernel)
theorem dX0_keepIfBetter_76 : decode cX0_keepIfBetter 76 = .ok (.iastore, 1) := dq_79 (by decide +kernel)
theorem dX0_keepIfBetter_77 : decode cX0_keepIfBetter 77 = .ok (.iinc 2 1, 3) := dq_132 (by decide +kernel)
theorem dX0_keepIfBetter_80 : decode cX0_keepIfBetter 80 = .ok (.goto (-21), 3) := dq_167 (by decide +kernel)
theorem dX0_keepIfBetter_83 : decode cX0_keepIfBetter 83 = .ok (.return_, 1) := dq_177 (by decide +kernel)
theorem dX0_secondLeast_0 : decode cX0_secondLeast 0 = .ok (.iconst 0, 1) := dq_3 (by decide +kernel)
theorem dX0_secondLeast_1 : decode cX0_secondLeast 1 = .ok (.istore_n 2, 1) := dq_61 (by decide +kernel)
theorem dX0_secondLeast_2 : decode cX0_secondLeast 2 = .ok (.sipush 9999, 3) := dq_17 (by decide +kernel)
theorem dX0_secondLeast_5 : decode cX0_secondLeast 5 = .ok (.istore_n 3, 1) := dq_62 (by decide +kernel)
theorem dX0_secondLeast_6 : decode cX0_secondLeast 6 = .ok (.iconst 0, 1) := dq_3 (by decide +kernel)
theorem dX0_secondLeast_7 : decode cX0_secondLeast 7 = .ok (.istore 4, 2) := dq_54 (by decide +kernel)
theorem dX0_secondLeast_9 : decode cX0_secondLeast 9 = .ok (.iconst 0, 1) := dq_3 (by decide +kernel)
theorem dX0_secondLeast_10 : decode cX0_secondLeast 10 = .ok (.istore 5, 2) := dq_54 (by decide +kernel)
theorem dX0_secondLeast_12 : decode cX0_secondLeast 12 = .ok (.iload 5, 2) := dq_21 (by decide +kernel)
theorem dX0_secondLeast_14 : decode cX0_secondLeast 14 = .ok (.aload_n 0, 1) := dq_42 (by decide +kernel)
theorem dX0_secondLeast_15 : decode cX0_secondLeast 15 = .ok (.getfield 27, 3) := dq_180 (by decide +kernel)
theorem dX0_secondLeast_18 : decode cX0_secondLeast 18 = .ok (.if_icmp .ge 63, 3) := dq_162 (by decide +kernel)
theorem dX0_secondLeast_21 : decode cX0_secondLeast 21 = .ok (.iload 5, 2) := dq_21 (by decide +kernel)
theorem dX0_secondLeast_23 : decode cX0_secondLeast 23 = .ok (.bipush 9, 2) := dq_16 (by decide +kernel)
theorem dX0_secondLeast_25 : decode cX0_secondLeast 25 = .ok (.if_icmp .ge 56, 3) := dq_162 (by decide +kernel)
theorem dX0_secondLeast_28 : decode cX0_secondLeast 28 = .ok (.aload_n 0, 1) := dq_42 (by decide +kernel)
theorem dX0_secondLeast_29 : decode cX0_secondLeast 29 = .ok (.getfield 15, 3) := dq_180 (by decide +kernel)
theorem dX0_secondLeast_32 : decode cX0_secondLeast 32 = .ok (.iload 5, 2) := dq_21 (by decide +kernel)
theorem dX0_secondLeast_34 : decode cX0_secondLeast 34 = .ok (.iaload, 1) := dq_46 (by decide +kernel)
theorem dX0_secondLeast_35 : decode cX0_secondLeast 35 = .ok (.iload_n 1, 1) := dq_27 (by decide +kernel)
theorem dX0_secondLeast_36 : decode cX0_secondLeast 36 = .ok (.if_icmp .ne 39, 3) := dq_160 (by decide +kernel)
theorem dX0_secondLeast_39 : decode cX0_secondLeast 39 = .ok (.iload_n 2, 1) := dq_28 (by decide +kernel)
theorem dX0_secondLeast_40 : decode cX0_secondLeast 40 = .ok (.aload_n 0, 1) := dq_42 (by decide +kernel)
theorem dX0_secondLeast_41 : decode cX0_secondLeast 41 = .ok (.getfield 9, 3) := dq_180 (by decide +kernel)
theorem dX0_secondLeast_44 : decode cX0_secondLeast 44 = .ok (.iload 5, 2) := dq_21 (by decide +kernel)
theorem dX0_secondLeast_46 : decode cX0_secondLeast 46 = .ok (.iaload, 1) := dq_46 (by decide +kernel)
theorem dX0_secondLeast_47 : decode cX0_secondLeast 47 = .ok (.iadd, 1) := dq_96 (by decide +kernel)
theorem dX0_secondLeast_48 : decode cX0_secondLeast 48 = .ok (.istore_n 2, 1) := dq_61 (by decide +kernel)
theorem dX0_secondLeast_49 : decode cX0_secondLeast 49 = .ok (.iload_n 3, 1) := dq_29 (by decide +kernel)
theorem dX0_secondLeast_50 : decode cX0_secondLeast 50 = .ok (.aload_n 0, 1) := dq_42 (by decide +kernel)
theorem dX0_secondLeast_51 : decode cX0_secondLeast 51 = .ok (.getfield 9, 3) := dq_180 (by decide +kernel)
theorem dX0_secondLeast_54 : decode cX0_secondLeast 54 = .ok (.iload 5, 2) := dq_21 (by decide +kernel)
theorem dX0_secondLeast_56 : decode cX0_secondLeast 56 = .ok (.iaload, 1) := dq_46 (by decide +kernel)
theorem dX0_secondLeast_57 : decode cX0_secondLeast 57 = .ok (.invokestatic 40, 3) := dq_184 (by decide +kernel)
theorem dX0_secondLeast_60 : decode cX0_secondLeast 60 = .ok (.istore_n 3, 1) := dq_62 (by decide +kernel)
theorem dX0_secondLeast_61 : decode cX0_secondLeast 61 = .ok (.iload 4, 2) := dq_21 (by decide +kernel)
theorem dX0_secondLeast_63 : decode cX0_secondLeast 63 = .ok (.aload_n 0, 1) := dq_42 (by decide +kernel)
theorem dX0_secondLeast_64 : decode cX0_secondLeast 64 = .ok (.getfield 9, 3) := dq_180 (by decide +kernel)
theorem dX0_secondLeast_67 : decode cX0_secondLeast 67 = .ok (.iload 5, 2) := dq_21 (by decide +kernel)
theorem dX0_secondLeast_69 : decode cX0_secondLeast 69 = .ok (.iaload, 1) := dq_46 (by decide +kernel)
theorem dX0_secondLeast_70 : decode cX0_secondLeast 70 = .ok (.invokestatic 46, 3) := dq_184 (by decide +kernel)
theorem dX0_secondLeast_73 : decode cX0_secondLeast 73 = .ok (.istore 4, 2) := dq_54 (by decide +kernel)
theorem dX0_secondLeast_75 : decode cX0_secondLeast 75 = .ok (.iinc 5 1, 3) := dq_132 (by decide +kernel)
theorem dX0_secondLeast_78 : decode cX0_secondLeast 78 = .ok (.goto (-66), 3) := dq_167 (by decide +kernel)
theorem dX0_secondLeast_81 : decode cX0_secondLeast 81 = .ok (.iload_n 2, 1) := dq_28 (by decide +kernel)
theorem dX0_secondLeast_82 : decode cX0_secondLeast 82 = .ok (.iload_n 3, 1) := dq_29 (by decide +kernel)
theorem dX0_secondLeast_83 : decode cX0_secondLeast 83 = .ok (.isub, 1) := dq_100 (by decide +kernel)
theorem dX0_secondLeast_84 : decode cX0_secondLeast 84 = .ok (.iload 4, 2) := dq_21 (by decide +kernel)
theorem dX0_secondLeast_86 : decode cX0_secondLeast 86 = .ok (.isub, 1) := dq_100 (by decide +kernel)
theorem dX0_secondLeast_87 : decode cX0_secondLeast 87 = .ok (.ireturn, 1) := dq_172 (by decide +kernel)
theorem dX0_shareOut_0 : decode cX0_shareOut 0 = .ok (.aload_n 0, 1) := dq_42 (by decide +kernel)
theorem dX0_shareOut_1 : decode cX0_shareOut 1 = .ok (.iconst 0, 1) := dq_3 (by decide +kernel)
theorem dX0_shareOut_2 : decode cX0_shareOut 2 = .ok (.iload_n 1, 1) := dq_27 (by decide +kernel)
theorem dX0_shareOut_3 : decode cX0_shareOut 3 = .ok (.aload_n 0, 1) := dq_42 (by decide +kernel)
theorem dX0_shareOut_4 : decode cX0_shareOut 4 = .ok (.getfield 21, 3) := dq_180 (by decide +kernel)
theorem dX0_shareOut_7 : decode cX0_shareOut 7 = .ok (.arraylength, 1) := dq_190 (by decide +kernel)
theorem dX0_shareOut_8 : decode cX0_shareOut 8 = .ok (.invokestatic 40, 3) := dq_184 (by decide +kernel)
theorem dX0_shareOut_11 : decode cX0_shareOut 11 = .ok (.invokestatic 46, 3) := dq_184 (by decide +kernel)
theorem dX0_shareOut_14 : decode cX0_shareOut 14 = .ok (.putfield 34, 3) := dq_181 (by decide +kernel)
theorem dX0_shareOut_17 : decode cX0_shareOut 17 = .ok (.aload_n 0, 1) := dq_42 (by decide +kernel)
theorem dX0_shareOut_18 : decode cX0_shareOut 18 = .ok (.getfield 21, 3) := dq_180 (by decide +kernel)
theorem dX0_shareOut_21 : decode cX0_shareOut 21 = .ok (.iconst 0, 1) := dq_3 (by decide +kernel)
theorem dX0_shareOut_22 : decode cX0_shareOut 22 = .ok (.iload_n 2, 1) := dq_28 (by decide +kernel)
theorem dX0_shareOut_23 : decode cX0_shareOut 23 = .ok (.iastore, 1) := dq_79 (by decide +kernel)
theorem dX0_shareOut_24 : decode cX0_shareOut 24 = .ok (.aload_n 0, 1) := dq_42 (by decide +kernel)
theorem dX0_shareOut_25 : decode cX0_shareOut 25 = .ok (.getfield 21, 3) := dq_180 (by decide +kernel)
theorem dX0_shareOut_28 : decode cX0_shareOut 28 = .ok (.iconst 1, 1) := dq_4 (by decide +kernel)
theorem dX0_shareOut_29 : decode cX0_shareOut 29 = .ok (.iload_n 3, 1) := dq_29 (by decide +kernel)
theorem dX0_shareOut_30 : decode cX0_shareOut 30 = .ok (.iastore, 1) := dq_79 (by decide +kernel)
theorem dX0_shareOut_31 : decode cX0_shareOut 31 = .ok (.aload_n 0, 1) := dq_42 (by decide +kernel)
theorem dX0_shareOut_32 : decode cX0_shareOut 32 = .ok (.getfield 21, 3) := dq_180 (by decide +kernel)
theorem dX0_shareOut_35 : decode cX0_shareOut 35 = .ok (.iconst 2, 1) := dq_5 (by decide +kernel)
theorem dX0_shareOut_36 : decode cX0_shareOut 36 = .ok (.iload 4, 2) := dq_21 (by decide +kernel)
theorem dX0_shareOut_38 : decode cX0_shareOut 38 = .ok (.iastore, 1) := dq_79 (by decide +kernel)
theorem dX0_shareOut_39 : decode cX0_shareOut 39 = .ok (.aload_n 0, 1) := dq_42 (by decide +kernel)
theorem dX0_shareOut_40 : decode cX0_shareOut 40 = .ok (.ldc 49, 2) := dq_18 (by decide +kernel)
theorem dX0_shareOut_42 : decode cX0_shareOut 42 = .ok (.putfield 37, 3) := dq_181 (by decide +kernel)
theorem dX0_shareOut_45 : decode cX0_shareOut 45 = .ok (.iconst 0, 1) := dq_3 (by decide +kernel)
theorem dX0_shareOut_46 : decode cX0_shareOut 46 = .ok (.istore 5, 2) := dq_54 (by decide +kernel)
theorem dX0_shareOut_48 : decode cX0_shareOut 48 = .ok (.iload 5, 2) := dq_21 (by decide +kernel)
theorem dX0_shareOut_50 : decode cX0_shareOut 50 = .ok (.aload_n 0, 1) := dq_42 (by decide +kernel)
theorem dX0_shareOut_51 : decode cX0_shareOut 51 = .ok (.getfield 24, 3) := dq_180 (by decide +kernel)
theorem dX0_shareOut_54 : decode cX0_shareOut 54 = .ok (.arraylength, 1) := dq_190 (by decide +kernel)
theorem dX0_shareOut_55 : decode cX0_shareOut 55 = .ok (.if_icmp .ge 17, 3) := dq_162 (by decide +kernel)
theorem dX0_shareOut_58 : decode cX0_shareOut 58 = .ok (.aload_n 0, 1) := dq_42 (by decide +kernel)
theorem dX0_shareOut_59 : decode cX0_shareOut 59 = .ok (.getfield 24, 3) := dq_180 (by decide +kernel)
theorem dX0_shareOut_62 : decode cX0_shareOut 62 = .ok (.iload 5, 2) := dq_21 (by decide +kernel)
theorem dX0_shareOut_64 : decode cX0_shareOut 64 = .ok (.iconst 0, 1) := dq_3 (by decide +kernel)
theorem dX0_shareOut_65 : decode cX0_shareOut 65 = .ok (.iastore, 1) := dq_79 (by decide +kernel)
theorem dX0_shareOut_66 : decode cX0_shareOut 66 = .ok (.iinc 5 1, 3) := dq_132 (by decide +kernel)
theorem dX0_shareOut_69 : decode cX0_shareOut 69 = .ok (.goto (-21), 3) := dq_167 (by decide +kernel)
theorem dX0_shareOut_72 : decode cX0_shareOut 72 = .ok (.aload_n 0, 1) := dq_42 (by decide +kernel)
theorem dX0_shareOut_73 : decode cX0_shareOut 73 = .ok (.iconst 0, 1) := dq_3 (by decide +kernel)
theorem dX0_shareOut_74 : decode cX0_shareOut 74 = .ok (.aload_n 0, 1) := dq_42 (by decide +kernel)
theorem dX0_shareOut_75 : decode cX0_shareOut 75 = .ok (.getfield 27, 3) := dq_180 (by decide +kernel)
theorem dX0_shareOut_78 : decode cX0_shareOut 78 = .ok (.iconst 3, 1) := dq_6 (by decide +kernel)
theorem dX0_shareOut_79 : decode cX0_shareOut 79 = .ok (.aload_n 0, 1) := dq_42 (by decide +kernel)
theorem dX0_shareOut_80 : decode cX0_shareOut 80 = .ok (.getfield 34, 3) := dq_180 (by decide +kernel)
theorem dX0_shareOut_83 : decode cX0_shareOut 83 = .ok (.imul, 1) := dq_104 (by decide +kernel)
theorem dX0_shareOut_84 : decode cX0_shareOut 84 = .ok (.isub, 1) := dq_100 (by decide +kernel)
theorem dX0_shareOut_85 : decode cX0_shareOut 85 = .ok (.invokevirtual 50, 3) := dq_182 (by decide +kernel)
theorem dX0_shareOut_88 : decode cX0_shareOut 88 = .ok (.aload_n 0, 1) := dq_42 (by decide +kernel)
theorem dX0_shareOut_89 : decode cX0_shareOut 89 = .ok (.aload_n 0, 1) := dq_42 (by decide +kernel)
theorem dX0_shareOut_90 : decode cX0_shareOut 90 = .ok (.getfield 27, 3) := dq_180 (by decide +kernel)
theorem dX0_shareOut_93 : decode cX0_shareOut 93 = .ok (.putfield 31, 3) := dq_181 (by decide +kernel)
theorem dX0_shareOut_96 : decode cX0_shareOut 96 = .ok (.aload_n 0, 1) := dq_42 (by decide +kernel)
theorem dX0_shareOut_97 : decode cX0_shareOut 97 = .ok (.iconst 0, 1) := dq_3 (by decide +kernel)
theorem dX0_shareOut_98 : decode cX0_shareOut 98 = .ok (.putfield 27, 3) := dq_181 (by decide +kernel)
theorem dX0_shareOut_101 : decode cX0_shareOut 101 = .ok (.aload_n 0, 1) := dq_42 (by decide +kernel)
theorem dX0_shareOut_102 : decode cX0_shareOut 102 = .ok (.getfield 37, 3) := dq_180 (by decide +kernel)
theorem dX0_shareOut_105 : decode cX0_shareOut 105 = .ok (.ireturn, 1) := dq_172 (by decide +kernel)
theorem dX0_tryFrom_0 : decode cX0_tryFrom 0 = .ok (.iload_n 1, 1) := dq_27 (by decide +kernel)
theorem dX0_tryFrom_1 : decode cX0_tryFrom 1 = .ok (.aload_n 0, 1) := dq_42 (by decide +kernel)
theorem dX0_tryFrom_2 : decode cX0_tryFrom 2 = .ok (.getfield 27, 3) := dq_180 (by decide +kernel)
theorem dX0_tryFrom_5 : decode cX0_tryFrom 5 = .ok (.if_icmp .ge 9, 3) := dq_162 (by decide +kernel)
theorem dX0_tryFrom_8 : decode cX0_tryFrom 8 = .ok (.iload_n 1, 1) := dq_27 (by decide +kernel)
theorem dX0_tryFrom_9 : decode cX0_tryFrom 9 = .ok (.bipush 9, 2) := dq_16 (by decide +kernel)
theorem dX0_tryFrom_11 : decode cX0_tryFrom 11 = .ok (.if_icmp .lt 8, 3) := dq_161 (by decide +kernel)
theorem dX0_tryFrom_14 : decode cX0_tryFrom 14 = .ok (.aload_n 0, 1) := dq_42 (by decide +kernel)
theorem dX0_tryFrom_15 : decode cX0_tryFrom 15 = .ok (.invokevirtual 54, 3) := dq_182 (by decide +kernel)
theorem dX0_tryFrom_18 : decode cX0_tryFrom 18 = .ok (.return_, 1) := dq_177 (by decide +kernel)
theorem dX0_tryFrom_19 : decode cX0_tryFrom 19 = .ok (.iconst 0, 1) := dq_3 (by decide +kernel)
theorem dX0_tryFrom_20 : decode cX0_tryFrom 20 = .ok (.istore_n 3, 1) := dq_62 (by decide +kernel)
theorem dX0_tryFrom_21 : decode cX0_tryFrom 21 = .ok (.iload_n 3, 1) := dq_29 (by decide +kernel)
theorem dX0_tryFrom_22 : decode cX0_tryFrom 22 = .ok (.aload_n 0, 1) := dq_42 (by decide +kernel)
theorem dX0_tryFrom_23 : decode cX0_tryFrom 23 = .ok (.getfield 34, 3) := dq_180 (by decide +kernel)
theorem dX0_tryFrom_26 : decode cX0_tryFrom 26 = .ok (.if_icmp .ge 63, 3) := dq_162 (by decide +kernel)
theorem dX0_tryFrom_29 : decode cX0_tryFrom 29 = .ok (.iload_n 3, 1) := dq_29 (by decide +kernel)
theorem dX0_tryFrom_30 : decode cX0_tryFrom 30 = .ok (.aload_n 0, 1) := dq_42 (by decide +kernel)
theorem dX0_tryFrom_31 : decode cX0_tryFrom 31 = .ok (.getfield 24, 3) := dq_180 (by decide +kernel)
theorem dX0_tryFrom_34 : decode cX0_tryFrom 34 = .ok (.arraylength, 1) := dq_190 (by decide +kernel)
theorem dX0_tryFrom_35 : decode cX0_tryFrom 35 = .ok (.if_icmp .ge 54, 3) := dq_162 (by decide +kernel)
theorem dX0_tryFrom_38 : decode cX0_tryFrom 38 = .ok (.aload_n 0, 1) := dq_42 (by decide +kernel)
theorem dX0_tryFrom_39 : decode cX0_tryFrom 39 = .ok (.getfield 24, 3) := dq_180 (by decide +kernel)
theorem dX0_tryFrom_42 : decode cX0_tryFrom 42 = .ok (.iload_n 3, 1) := dq_29 (by decide +kernel)
theorem dX0_tryFrom_43 : decode cX0_tryFrom 43 = .ok (.iaload, 1) := dq_46 (by decide +kernel)
theorem dX0_tryFrom_44 : decode cX0_tryFrom 44 = .ok (.iconst 3, 1) := dq_6 (by decide +kernel)
theorem dX0_tryFrom_45 : decode cX0_tryFrom 45 = .ok (.if_icmp .ge 38, 3) := dq_162 (by decide +kernel)
theorem dX0_tryFrom_48 : decode cX0_tryFrom 48 = .ok (.aload_n 0, 1) := dq_42 (by decide +kernel)
theorem dX0_tryFrom_49 : decode cX0_tryFrom 49 = .ok (.getfield 15, 3) := dq_180 (by decide +kernel)
theorem dX0_tryFrom_52 : decode cX0_tryFrom 52 = .ok (.iload_n 1, 1) := dq_27 (by decide +kernel)
theorem dX0_tryFrom_53 : decode cX0_tryFrom 53 = .ok (.iload_n 3, 1) := dq_29 (by decide +kernel)
theorem dX0_tryFrom_54 : decode cX0_tryFrom 54 = .ok (.iastore, 1) := dq_79 (by decide +kernel)
theorem dX0_tryFrom_55 : decode cX0_tryFrom 55 = .ok (.aload_n 0, 1) := dq_42 (by decide +kernel)
theorem dX0_tryFrom_56 : decode cX0_tryFrom 56 = .ok (.getfield 24, 3) := dq_180 (by decide +kernel)
theorem dX0_tryFrom_59 : decode cX0_tryFrom 59 = .ok (.iload_n 3, 1) := dq_29 (by decide +kernel)
theorem dX0_tryFrom_60 : decode cX0_tryFrom 60 = .ok (.dup2, 1) := dq_92 (by decide +kernel)
theorem dX0_tryFrom_61 : decode cX0_tryFrom 61 = .ok (.iaload, 1) := dq_46 (by decide +kernel)
theorem dX0_tryFrom_62 : decode cX0_tryFrom 62 = .ok (.iconst 1, 1) := dq_4 (by decide +kernel)
theorem dX0_tryFrom_63 : decode cX0_tryFrom 63 = .ok (.iadd, 1) := dq_96 (by decide +kernel)
theorem dX0_tryFrom_64 : decode cX0_tryFrom 64 = .ok (.iastore, 1) := dq_79 (by decide +kernel)
theorem dX0_tryFrom_65 : decode cX0_tryFrom 65 = .ok (.aload_n 0, 1) := dq_42 (by decide +kernel)
theorem dX0_tryFrom_66 : decode cX0_tryFrom 66 = .ok (.iload_n 1, 1) := dq_27 (by decide +kernel)
theorem dX0_tryFrom_67 : decode cX0_tryFrom 67 = .ok (.iconst 1, 1) := dq_4 (by decide +kernel)
theorem dX0_tryFrom_68 : decode cX0_tryFrom 68 = .ok (.iadd, 1) := dq_96 (by decide +kernel)
theorem dX0_tryFrom_69 : decode cX0_tryFrom 69 = .ok (.iload_n 2, 1) := dq_28 (by decide +kernel)
theorem dX0_tryFrom_70 : decode cX0_tryFrom 70 = .ok (.invokevirtual 50, 3) := dq_182 (by decide +kernel)
theorem dX0_tryFrom_73 : decode cX0_tryFrom 73 = .ok (.aload_n 0, 1) := dq_42 (by decide +kernel)
theorem dX0_tryFrom_74 : decode cX0_tryFrom 74 = .ok (.getfield 24, 3) := dq_180 (by decide +kernel)
theorem dX0_tryFrom_77 : decode cX0_tryFrom 77 = .ok (.iload_n 3, 1) := dq_29 (by decide +kernel)
theorem dX0_tryFrom_78 : decode cX0_tryFrom 78 = .ok (.dup2, 1) := dq_92 (by decide +kernel)
theorem dX0_tryFrom_79 : decode cX0_tryFrom 79 = .ok (.iaload, 1) := dq_46 (by decide +kernel)
theorem dX0_tryFrom_80 : decode cX0_tryFrom 80 = .ok (.iconst 1, 1) := dq_4 (by decide +kernel)
theorem dX0_tryFrom_81 : decode cX0_tryFrom 81 = .ok (.isub, 1) := dq_100 (by decide +kernel)
theorem dX0_tryFrom_82 : decode cX0_tryFrom 82 = .ok (.iastore, 1) := dq_79 (by decide +kernel)
theorem dX0_tryFrom_83 : decode cX0_tryFrom 83 = .ok (.iinc 3 1, 3) := dq_132 (by decide +kernel)
theorem dX0_tryFrom_86 : decode cX0_tryFrom 86 = .ok (.goto (-65), 3) := dq_167 (by decide +kernel)
theorem dX0_tryFrom_89 : decode cX0_tryFrom 89 = .ok (.iload_n 2, 1) := dq_28 (by decide +kernel)
theorem dX0_tryFrom_90 : decode cX0_tryFrom 90 = .ok (.ifCond .le 20, 3) := dq_158 (by decide +kernel)
theorem dX0_tryFrom_93 : decode cX0_tryFrom 93 = .ok (.aload_n 0, 1) := dq_42 (by decide +kernel)
theorem dX0_tryFrom_94 : decode cX0_tryFrom 94 = .ok (.getfield 15, 3) := dq_180 (by decide +kernel)
theorem dX0_tryFrom_97 : decode cX0_tryFrom 97 = .ok (.iload_n 1, 1) := dq_27 (by decide +kernel)
theorem dX0_tryFrom_98 : decode cX0_tryFrom 98 = .ok (.iconst (-1), 1) := dq_2 (by decide +kernel)
theorem dX0_tryFrom_99 : decode cX0_tryFrom 99 = .ok (.iastore, 1) := dq_79 (by decide +kernel)
theorem dX0_tryFrom_100 : decode cX0_tryFrom 100 = .ok (.aload_n 0, 1) := dq_42 (by decide +kernel)
theorem dX0_tryFrom_101 : decode cX0_tryFrom 101 = .ok (.iload_n 1, 1) := dq_27 (by decide +kernel)
theorem dX0_tryFrom_102 : decode cX0_tryFrom 102 = .ok (.iconst 1, 1) := dq_4 (by decide +kernel)
theorem dX0_tryFrom_103 : decode cX0_tryFrom 103 = .ok (.iadd, 1) := dq_96 (by decide +kernel)
theorem dX0_tryFrom_104 : decode cX0_tryFrom 104 = .ok (.iload_n 2, 1) := dq_28 (by decide +kernel)
theorem dX0_tryFrom_105 : decode cX0_tryFrom 105 = .ok (.iconst 1, 1) := dq_4 (by decide +kernel)
theorem dX0_tryFrom_106 : decode cX0_tryFrom 106 = .ok (.isub, 1) := dq_100 (by decide +kernel)
theorem dX0_tryFrom_107 : decode cX0_tryFrom 107 = .ok (.invokevirtual 50, 3) := dq_182 (by decide +kernel)
theorem dX0_tryFrom_110 : decode cX0_tryFrom 110 = .ok (.return_, 1) := dq_177 (by decide +kernel)
end
section
theorem dX1_add_0 : decode cX1_add 0 = .ok (.aload_n 0, 1) := dq_42 (by decide +kernel)
theorem dX1_add_1 : decode cX1_add 1 = .ok (.dup, 1) := dq_89 (by decide +kernel)
theorem dX1_add_2 : decode cX1_add 2 = .ok (.getfield 19, 3) := dq_180 (by decide +kernel)
theorem dX1_add_5 : decode cX1_add 5 = .ok (.lconst 1, 1) := dq_10 (by decide +kernel)
theorem dX1_add_6 : decode cX1_add 6 = .ok (.ladd, 1) := dq_97 (by decide +kernel)
theorem dX1_add_7 : decode cX1_add 7 = .ok (.putfield 19, 3) := dq_181 (by decide +kernel)
theorem dX1_add_10 : decode cX1_add 10 = .ok (.aload_n 0, 1) := dq_42 (by decide +kernel)
theorem dX1_add_11 : decode cX1_add 11 = .ok (.dup, 1) := dq_89 (by decide +kernel)
theorem dX1_add_12 : decode cX1_add 12 = .ok (.getfield 22, 3) := dq_180 (by decide +kernel)
theorem dX1_add_15 : decode cX1_add 15 = .ok (.lload_n 1, 1) := dq_31 (by decide +kernel)
theorem dX1_add_16 : decode cX1_add 16 = .ok (.ladd, 1) := dq_97 (by decide +kernel)
theorem dX1_add_17 : decode cX1_add 17 = .ok (.putfield 22, 3) := dq_181 (by decide +kernel)
theorem dX1_add_20 : decode cX1_add 20 = .ok (.aload_n 0, 1) := dq_42 (by decide +kernel)
theorem dX1_add_21 : decode cX1_add 21 = .ok (.dup, 1) := dq_89 (by decide +kernel)
theorem dX1_add_22 : decode cX1_add 22 = .ok (.getfield 25, 3) := dq_180 (by decide +kernel)
theorem dX1_add_25 : decode cX1_add 25 = .ok (.lload_n 3, 1) := dq_33 (by decide +kernel)
theorem dX1_add_26 : decode cX1_add 26 = .ok (.ladd, 1) := dq_97 (by decide +kernel)
theorem dX1_add_27 : decode cX1_add 27 = .ok (.putfield 25, 3) := dq_181 (by decide +kernel)
theorem dX1_add_30 : decode cX1_add 30 = .ok (.aload_n 0, 1) := dq_42 (by decide +kernel)
theorem dX1_add_31 : decode cX1_add 31 = .ok (.dup, 1) := dq_89 (by decide +kernel)
theorem dX1_add_32 : decode cX1_add 32 = .ok (.getfield 28, 3) := dq_180 (by decide +kernel)
theorem dX1_add_35 : decode cX1_add 35 = .ok (.lload 5, 2) := dq_22 (by decide +kernel)
theorem dX1_add_37 : decode cX1_add 37 = .ok (.ladd, 1) := dq_97 (by decide +kernel)
theorem dX1_add_38 : decode cX1_add 38 = .ok (.putfield 28, 3) := dq_181 (by decide +kernel)
theorem dX1_add_41 : decode cX1_add 41 = .ok (.aload_n 0, 1) := dq_42 (by decide +kernel)
theorem dX1_add_42 : decode cX1_add 42 = .ok (.dup, 1) := dq_89 (by decide +kernel)
theorem dX1_add_43 : decode cX1_add 43 = .ok (.getfield 31, 3) := dq_180 (by decide +kernel)
theorem dX1_add_46 : decode cX1_add 46 = .ok (.lload_n 3, 1) := dq_33 (by decide +kernel)
theorem dX1_add_47 : decode cX1_add 47 = .ok (.lload_n 3, 1) := dq_33 (by decide +kernel)
theorem dX1_add_48 : decode cX1_add 48 = .ok (.lmul, 1) := dq_105 (by decide +kernel)
theorem dX1_add_49 : decode cX1_add 49 = .ok (.ladd, 1) := dq_97 (by decide +kernel)
theorem dX1_add_50 : decode cX1_add 50 = .ok (.putfield 31, 3) := dq_181 (by decide +kernel)
theorem dX1_add_53 : decode cX1_add 53 = .ok (.aload_n 0, 1) := dq_42 (by decide +kernel)
theorem dX1_add_54 : decode cX1_add 54 = .ok (.dup, 1) := dq_89 (by decide +kernel)
theorem dX1_add_55 : decode cX1_add 55 = .ok (.getfield 34, 3) := dq_180 (by decide +kernel)
theorem dX1_add_58 : decode cX1_add 58 = .ok (.lload 5, 2) := dq_22 (by decide +kernel)
theorem dX1_add_60 : decode cX1_add 60 = .ok (.lload 5, 2) := dq_22 (by decide +kernel)
theorem dX1_add_62 : decode cX1_add 62 = .ok (.lmul, 1) := dq_105 (by decide +kernel)
theorem dX1_add_63 : decode cX1_add 63 = .ok (.ladd, 1) := dq_97 (by decide +kernel)
theorem dX1_add_64 : decode cX1_add 64 = .ok (.putfield 34, 3) := dq_181 (by decide +kernel)
theorem dX1_add_67 : decode cX1_add 67 = .ok (.aload_n 0, 1) := dq_42 (by decide +kernel)
theorem dX1_add_68 : decode cX1_add 68 = .ok (.dup, 1) := dq_89 (by decide +kernel)
theorem dX1_add_69 : decode cX1_add 69 = .ok (.getfield 37, 3) := dq_180 (by decide +kernel)
theorem dX1_add_72 : decode cX1_add 72 = .ok (.lload_n 3, 1) := dq_33 (by decide +kernel)
theorem dX1_add_73 : decode cX1_add 73 = .ok (.lload 5, 2) := dq_22 (by decide +kernel)
theorem dX1_add_75 : decode cX1_add 75 = .ok (.lmul, 1) := dq_105 (by decide +kernel)
theorem dX1_add_76 : decode cX1_add 76 = .ok (.ladd, 1) := dq_97 (by decide +kernel)
theorem dX1_add_77 : decode cX1_add 77 = .ok (.putfield 37, 3) := dq_181 (by decide +kernel)
theorem dX1_add_80 : decode cX1_add 80 = .ok (.aload_n 0, 1) := dq_42 (by decide +kernel)
theorem dX1_add_81 : decode cX1_add 81 = .ok (.dup, 1) := dq_89 (by decide +kernel)
theorem dX1_add_82 : decode cX1_add 82 = .ok (.getfield 40, 3) := dq_180 (by decide +kernel)
theorem dX1_add_85 : decode cX1_add 85 = .ok (.lload_n 3, 1) := dq_33 (by decide +kernel)
theorem dX1_add_86 : decode cX1_add 86 = .ok (.lload_n 1, 1) := dq_31 (by decide +kernel)
theorem dX1_add_87 : decode cX1_add 87 = .ok (.lmul, 1) := dq_105 (by decide +kernel)
theorem dX1_add_88 : decode cX1_add 88 = .ok (.ladd, 1) := dq_97 (by decide +kernel)
theorem dX1_add_89 : decode cX1_add 89 = .ok (.putfield 40, 3) := dq_181 (by decide +kernel)
theorem dX1_add_92 : decode cX1_add 92 = .ok (.aload_n 0, 1) := dq_42 (by decide +kernel)
theorem dX1_add_93 : decode cX1_add 93 = .ok (.dup, 1) := dq_89 (by decide +kernel)
theorem dX1_add_94 : decode cX1_add 94 = .ok (.getfield 43, 3) := dq_180 (by decide +kernel)
theorem dX1_add_97 : decode cX1_add 97 = .ok (.lload 5, 2) := dq_22 (by decide +kernel)
theorem dX1_add_99 : decode cX1_add 99 = .ok (.lload_n 1, 1) := dq_31 (by decide +kernel)
theorem dX1_add_100 : decode cX1_add 100 = .ok (.lmul, 1) := dq_105 (by decide +kernel)
theorem dX1_add_101 : decode cX1_add 101 = .ok (.ladd, 1) := dq_97 (by decide +kernel)
theorem dX1_add_102 : decode cX1_add 102 = .ok (.putfield 43, 3) := dq_181 (by decide +kernel)
theorem dX1_add_105 : decode cX1_add 105 = .ok (.return_, 1) := dq_177 (by decide +kernel)
theorem dX1_addProduct_0 : decode cX1_addProduct 0 = .ok (.aload_n 0, 1) := dq_42 (by decide +kernel)
theorem dX1_addProduct_1 : decode cX1_addProduct 1 = .ok (.getfield 19, 3) := dq_180 (by decide +kernel)
theorem dX1_addProduct_4 : decode cX1_addProduct 4 = .ok (.aload_n 0, 1) := dq_42 (by decide +kernel)
theorem dX1_addProduct_5 : decode cX1_addProduct 5 = .ok (.getfield 9, 3) := dq_180 (by decide +kernel)
theorem dX1_addProduct_8 : decode cX1_addProduct 8 = .ok (.lmul, 1) := dq_105 (by decide +kernel)
theorem dX1_addProduct_9 : decode cX1_addProduct 9 = .ok (.lstore 5, 2) := dq_55 (by decide +kernel)
theorem dX1_addProduct_11 : decode cX1_addProduct 11 = .ok (.lload 5, 2) := dq_22 (by decide +kernel)
theorem dX1_addProduct_13 : decode cX1_addProduct 13 = .ok (.lconst 0, 1) := dq_9 (by decide +kernel)
theorem dX1_addProduct_14 : decode cX1_addProduct 14 = .ok (.lcmp, 1) := dq_148 (by decide +kernel)
theorem dX1_addProduct_15 : decode cX1_addProduct 15 = .ok (.ifCond .gt 4, 3) := dq_157 (by decide +kernel)
theorem dX1_addProduct_18 : decode cX1_addProduct 18 = .ok (.return_, 1) := dq_177 (by decide +kernel)
theorem dX1_addProduct_19 : decode cX1_addProduct 19 = .ok (.lload_n 3, 1) := dq_33 (by decide +kernel)
theorem dX1_addProduct_20 : decode cX1_addProduct 20 = .ok (.lconst 0, 1) := dq_9 (by decide +kernel)
theorem dX1_addProduct_21 : decode cX1_addProduct 21 = .ok (.lcmp, 1) := dq_148 (by decide +kernel)
theorem dX1_addProduct_22 : decode cX1_addProduct 22 = .ok (.ifCond .ge 8, 3) := dq_156 (by decide +kernel)
theorem dX1_addProduct_25 : decode cX1_addProduct 25 = .ok (.lload_n 1, 1) := dq_31 (by decide +kernel)
theorem dX1_addProduct_26 : decode cX1_addProduct 26 = .ok (.lneg, 1) := dq_117 (by decide +kernel)
theorem dX1_addProduct_27 : decode cX1_addProduct 27 = .ok (.goto 4, 3) := dq_167 (by decide +kernel)
theorem dX1_addProduct_30 : decode cX1_addProduct 30 = .ok (.lload_n 1, 1) := dq_31 (by decide +kernel)
theorem dX1_addProduct_31 : decode cX1_addProduct 31 = .ok (.lstore 7, 2) := dq_55 (by decide +kernel)
theorem dX1_addProduct_33 : decode cX1_addProduct 33 = .ok (.lload_n 3, 1) := dq_33 (by decide +kernel)
theorem dX1_addProduct_34 : decode cX1_addProduct 34 = .ok (.invokestatic 68, 3) := dq_184 (by decide +kernel)
theorem dX1_addProduct_37 : decode cX1_addProduct 37 = .ok (.lstore 9, 2) := dq_55 (by decide +kernel)
theorem dX1_addProduct_39 : decode cX1_addProduct 39 = .ok (.lload 7, 2) := dq_22 (by decide +kernel)
theorem dX1_addProduct_41 : decode cX1_addProduct 41 = .ok (.lload 5, 2) := dq_22 (by decide +kernel)
theorem dX1_addProduct_43 : decode cX1_addProduct 43 = .ok (.invokestatic 74, 3) := dq_184 (by decide +kernel)
theorem dX1_addProduct_46 : decode cX1_addProduct 46 = .ok (.lstore 11, 2) := dq_55 (by decide +kernel)
theorem dX1_addProduct_48 : decode cX1_addProduct 48 = .ok (.aload_n 0, 1) := dq_42 (by decide +kernel)
theorem dX1_addProduct_49 : decode cX1_addProduct 49 = .ok (.dup, 1) := dq_89 (by decide +kernel)
theorem dX1_addProduct_50 : decode cX1_addProduct 50 = .ok (.getfield 56, 3) := dq_180 (by decide +kernel)
theorem dX1_addProduct_53 : decode cX1_addProduct 53 = .ok (.lload 7, 2) := dq_22 (by decide +kernel)
theorem dX1_addProduct_55 : decode cX1_addProduct 55 = .ok (.lload 5, 2) := dq_22 (by decide +kernel)
theorem dX1_addProduct_57 : decode cX1_addProduct 57 = .ok (.invokestatic 78, 3) := dq_184 (by decide +kernel)
theorem dX1_addProduct_60 : decode cX1_addProduct 60 = .ok (.lload 9, 2) := dq_22 (by decide +kernel)
theorem dX1_addProduct_62 : decode cX1_addProduct 62 = .ok (.lmul, 1) := dq_105 (by decide +kernel)
theorem dX1_addProduct_63 : decode cX1_addProduct 63 = .ok (.ladd, 1) := dq_97 (by decide +kernel)
theorem dX1_addProduct_64 : decode cX1_addProduct 64 = .ok (.putfield 56, 3) := dq_181 (by decide +kernel)
theorem dX1_addProduct_67 : decode cX1_addProduct 67 = .ok (.lconst 0, 1) := dq_9 (by decide +kernel)
theorem dX1_addProduct_68 : decode cX1_addProduct 68 = .ok (.lstore 13, 2) := dq_55 (by decide +kernel)
theorem dX1_addProduct_70 : decode cX1_addProduct 70 = .ok (.lconst 0, 1) := dq_9 (by decide +kernel)
theorem dX1_addProduct_71 : decode cX1_addProduct 71 = .ok (.lstore 15, 2) := dq_55 (by decide +kernel)
theorem dX1_addProduct_73 : decode cX1_addProduct 73 = .ok (.bipush 30, 2) := dq_16 (by decide +kernel)
theorem dX1_addProduct_75 : decode cX1_addProduct 75 = .ok (.istore 17, 2) := dq_54 (by decide +kernel)
theorem dX1_addProduct_77 : decode cX1_addProduct 77 = .ok (.iload 17, 2) := dq_21 (by decide +kernel)
theorem dX1_addProduct_79 : decode cX1_addProduct 79 = .ok (.ifCond .lt 49, 3) := dq_155 (by decide +kernel)
theorem dX1_addProduct_82 : decode cX1_addProduct 82 = .ok (.ldc2_w 81, 3) := dq_20 (by decide +kernel)
theorem dX1_addProduct_85 : decode cX1_addProduct 85 = .ok (.lload 15, 2) := dq_22 (by decide +kernel)
theorem dX1_addProduct_87 : decode cX1_addProduct 87 = .ok (.lmul, 1) := dq_105 (by decide +kernel)
theorem dX1_addProduct_88 : decode cX1_addProduct 88 = .ok (.lload 9, 2) := dq_22 (by decide +kernel)
theorem dX1_addProduct_90 : decode cX1_addProduct 90 = .ok (.iload 17, 2) := dq_21 (by decide +kernel)
theorem dX1_addProduct_92 : decode cX1_addProduct 92 = .ok (.lshr, 1) := dq_123 (by decide +kernel)
theorem dX1_addProduct_93 : decode cX1_addProduct 93 = .ok (.lconst 1, 1) := dq_10 (by decide +kernel)
theorem dX1_addProduct_94 : decode cX1_addProduct 94 = .ok (.land, 1) := dq_127 (by decide +kernel)
theorem dX1_addProduct_95 : decode cX1_addProduct 95 = .ok (.lload 11, 2) := dq_22 (by decide +kernel)
theorem dX1_addProduct_97 : decode cX1_addProduct 97 = .ok (.lmul, 1) := dq_105 (by decide +kernel)
theorem dX1_addProduct_98 : decode cX1_addProduct 98 = .ok (.ladd, 1) := dq_97 (by decide +kernel)
theorem dX1_addProduct_99 : decode cX1_addProduct 99 = .ok (.lstore 15, 2) := dq_55 (by decide +kernel)
theorem dX1_addProduct_101 : decode cX1_addProduct 101 = .ok (.ldc2_w 81, 3) := dq_20 (by decide +kernel)
theorem dX1_addProduct_104 : decode cX1_addProduct 104 = .ok (.lload 13, 2) := dq_22 (by decide +kernel)
theorem dX1_addProduct_106 : decode cX1_addProduct 106 = .ok (.lmul, 1) := dq_105 (by decide +kernel)
theorem dX1_addProduct_107 : decode cX1_addProduct 107 = .ok (.lload 15, 2) := dq_22 (by decide +kernel)
theorem dX1_addProduct_109 : decode cX1_addProduct 109 = .ok (.lload 5, 2) := dq_22 (by decide +kernel)
theorem dX1_addProduct_111 : decode cX1_addProduct 111 = .ok (.ldiv, 1) := dq_109 (by decide +kernel)
theorem dX1_addProduct_112 : decode cX1_addProduct 112 = .ok (.ladd, 1) := dq_97 (by decide +kernel)
theorem dX1_addProduct_113 : decode cX1_addProduct 113 = .ok (.lstore 13, 2) := dq_55 (by decide +kernel)
theorem dX1_addProduct_115 : decode cX1_addProduct 115 = .ok (.lload 15, 2) := dq_22 (by decide +kernel)
theorem dX1_addProduct_117 : decode cX1_addProduct 117 = .ok (.lload 5, 2) := dq_22 (by decide +kernel)
theorem dX1_addProduct_119 : decode cX1_addProduct 119 = .ok (.lrem, 1) := dq_113 (by decide +kernel)
theorem dX1_addProduct_120 : decode cX1_addProduct 120 = .ok (.lstore 15, 2) := dq_55 (by decide +kernel)
theorem dX1_addProduct_122 : decode cX1_addProduct 122 = .ok (.iinc 17 (-1), 3) := dq_132 (by decide +kernel)
theorem dX1_addProduct_125 : decode cX1_addProduct 125 = .ok (.goto (-48), 3) := dq_167 (by decide +kernel)
theorem dX1_addProduct_128 : decode cX1_addProduct 128 = .ok (.aload_n 0, 1) := dq_42 (by decide +kernel)
theorem dX1_addProduct_129 : decode cX1_addProduct 129 = .ok (.dup, 1) := dq_89 (by decide +kernel)
theorem dX1_addProduct_130 : decode cX1_addProduct 130 = .ok (.getfield 59, 3) := dq_180 (by decide +kernel)
theorem dX1_addProduct_133 : decode cX1_addProduct 133 = .ok (.lload 15, 2) := dq_22 (by decide +kernel)
theorem dX1_addProduct_135 : decode cX1_addProduct 135 = .ok (.ladd, 1) := dq_97 (by decide +kernel)
theorem dX1_addProduct_136 : decode cX1_addProduct 136 = .ok (.putfield 59, 3) := dq_181 (by decide +kernel)
theorem dX1_addProduct_139 : decode cX1_addProduct 139 = .ok (.aload_n 0, 1) := dq_42 (by decide +kernel)
theorem dX1_addProduct_140 : decode cX1_addProduct 140 = .ok (.dup, 1) := dq_89 (by decide +kernel)
theorem dX1_addProduct_141 : decode cX1_addProduct 141 = .ok (.getfield 56, 3) := dq_180 (by decide +kernel)
theorem dX1_addProduct_144 : decode cX1_addProduct 144 = .ok (.lload 13, 2) := dq_22 (by decide +kernel)
theorem dX1_addProduct_146 : decode cX1_addProduct 146 = .ok (.aload_n 0, 1) := dq_42 (by decide +kernel)
theorem dX1_addProduct_147 : decode cX1_addProduct 147 = .ok (.getfield 59, 3) := dq_180 (by decide +kernel)
theorem dX1_addProduct_150 : decode cX1_addProduct 150 = .ok (.lload 5, 2) := dq_22 (by decide +kernel)
theorem dX1_addProduct_152 : decode cX1_addProduct 152 = .ok (.ldiv, 1) := dq_109 (by decide +kernel)
theorem dX1_addProduct_153 : decode cX1_addProduct 153 = .ok (.ladd, 1) := dq_97 (by decide +kernel)
theorem dX1_addProduct_154 : decode cX1_addProduct 154 = .ok (.ladd, 1) := dq_97 (by decide +kernel)
theorem dX1_addProduct_155 : decode cX1_addProduct 155 = .ok (.putfield 56, 3) := dq_181 (by decide +kernel)
theorem dX1_addProduct_158 : decode cX1_addProduct 158 = .ok (.aload_n 0, 1) := dq_42 (by decide +kernel)
theorem dX1_addProduct_159 : decode cX1_addProduct 159 = .ok (.aload_n 0, 1) := dq_42 (by decide +kernel)
theorem dX1_addProduct_160 : decode cX1_addProduct 160 = .ok (.getfield 59, 3) := dq_180 (by decide +kernel)
theorem dX1_addProduct_163 : decode cX1_addProduct 163 = .ok (.lload 5, 2) := dq_22 (by decide +kernel)
theorem dX1_addProduct_165 : decode cX1_addProduct 165 = .ok (.lrem, 1) := dq_113 (by decide +kernel)
theorem dX1_addProduct_166 : decode cX1_addProduct 166 = .ok (.putfield 59, 3) := dq_181 (by decide +kernel)
theorem dX1_addProduct_169 : decode cX1_addProduct 169 = .ok (.return_, 1) := dq_177 (by decide +kernel)
theorem dX1_clear_0 : decode cX1_clear 0 = .ok (.aload_n 0, 1) := dq_42 (by decide +kernel)
theorem dX1_clear_1 : decode cX1_clear 1 = .ok (.lconst 0, 1) := dq_9 (by decide +kernel)
theorem dX1_clear_2 : decode cX1_clear 2 = .ok (.putfield 19, 3) := dq_181 (by decide +kernel)
theorem dX1_clear_5 : decode cX1_clear 5 = .ok (.aload_n 0, 1) := dq_42 (by decide +kernel)
theorem dX1_clear_6 : decode cX1_clear 6 = .ok (.lconst 0, 1) := dq_9 (by decide +kernel)
theorem dX1_clear_7 : decode cX1_clear 7 = .ok (.putfield 22, 3) := dq_181 (by decide +kernel)
theorem dX1_clear_10 : decode cX1_clear 10 = .ok (.aload_n 0, 1) := dq_42 (by decide +kernel)
theorem dX1_clear_11 : decode cX1_clear 11 = .ok (.lconst 0, 1) := dq_9 (by decide +kernel)
theorem dX1_clear_12 : decode cX1_clear 12 = .ok (.putfield 25, 3) := dq_181 (by decide +kernel)
theorem dX1_clear_15 : decode cX1_clear 15 = .ok (.aload_n 0, 1) := dq_42 (by decide +kernel)
theorem dX1_clear_16 : decode cX1_clear 16 = .ok (.lconst 0, 1) := dq_9 (by decide +kernel)
theorem dX1_clear_17 : decode cX1_clear 17 = .ok (.putfield 28, 3) := dq_181 (by decide +kernel)
theorem dX1_clear_20 : decode cX1_clear 20 = .ok (.aload_n 0, 1) := dq_42 (by decide +kernel)
theorem dX1_clear_21 : decode cX1_clear 21 = .ok (.lconst 0, 1) := dq_9 (by decide +kernel)
theorem dX1_clear_22 : decode cX1_clear 22 = .ok (.putfield 31, 3) := dq_181 (by decide +kernel)
theorem dX1_clear_25 : decode cX1_clear 25 = .ok (.aload_n 0, 1) := dq_42 (by decide +kernel)
theorem dX1_clear_26 : decode cX1_clear 26 = .ok (.lconst 0, 1) := dq_9 (by decide +kernel)
theorem dX1_clear_27 : decode cX1_clear 27 = .ok (.putfield 34, 3) := dq_181 (by decide +kernel)
theorem dX1_clear_30 : decode cX1_clear 30 = .ok (.aload_n 0, 1) := dq_42 (by decide +kernel)
theorem dX1_clear_31 : decode cX1_clear 31 = .ok (.lconst 0, 1) := dq_9 (by decide +kernel)
theorem dX1_clear_32 : decode cX1_clear 32 = .ok (.putfield 37, 3) := dq_181 (by decide +kernel)
theorem dX1_clear_35 : decode cX1_clear 35 = .ok (.aload_n 0, 1) := dq_42 (by decide +kernel)
theorem dX1_clear_36 : decode cX1_clear 36 = .ok (.lconst 0, 1) := dq_9 (by decide +kernel)
theorem dX1_clear_37 : decode cX1_clear 37 = .ok (.putfield 40, 3) := dq_181 (by decide +kernel)
theorem dX1_clear_40 : decode cX1_clear 40 = .ok (.aload_n 0, 1) := dq_42 (by decide +kernel)
theorem dX1_clear_41 : decode cX1_clear 41 = .ok (.lconst 0, 1) := dq_9 (by decide +kernel)
theorem dX1_clear_42 : decode cX1_clear 42 = .ok (.putfield 43, 3) := dq_181 (by decide +kernel)
theorem dX1_clear_45 : decode cX1_clear 45 = .ok (.return_, 1) := dq_177 (by decide +kernel)
theorem dX1_form_0 : decode cX1_form 0 = .ok (.aload_n 0, 1) := dq_42 (by decide +kernel)
theorem dX1_form_1 : decode cX1_form 1 = .ok (.getfield 15, 3) := dq_180 (by decide +kernel)
theorem dX1_form_4 : decode cX1_form 4 = .ok (.ireturn, 1) := dq_172 (by decide +kernel)
theorem dX1_setLaw_0 : decode cX1_setLaw 0 = .ok (.aload_n 0, 1) := dq_42 (by decide +kernel)
theorem dX1_setLaw_1 : decode cX1_setLaw 1 = .ok (.iload_n 1, 1) := dq_27 (by decide +kernel)
theorem dX1_setLaw_2 : decode cX1_setLaw 2 = .ok (.putfield 15, 3) := dq_181 (by decide +kernel)
theorem dX1_setLaw_5 : decode cX1_setLaw 5 = .ok (.aload_n 0, 1) := dq_42 (by decide +kernel)
theorem dX1_setLaw_6 : decode cX1_setLaw 6 = .ok (.lload_n 2, 1) := dq_32 (by decide +kernel)
theorem dX1_setLaw_7 : decode cX1_setLaw 7 = .ok (.putfield 9, 3) := dq_181 (by decide +kernel)
theorem dX1_setLaw_10 : decode cX1_setLaw 10 = .ok (.aload_n 0, 1) := dq_42 (by decide +kernel)
theorem dX1_setLaw_11 : decode cX1_setLaw 11 = .ok (.lload 4, 2) := dq_22 (by decide +kernel)
theorem dX1_setLaw_13 : decode cX1_setLaw 13 = .ok (.putfield 50, 3) := dq_181 (by decide +kernel)
theorem dX1_setLaw_16 : decode cX1_setLaw 16 = .ok (.aload_n 0, 1) := dq_42 (by decide +kernel)
theorem dX1_setLaw_17 : decode cX1_setLaw 17 = .ok (.lload 6, 2) := dq_22 (by decide +kernel)
theorem dX1_setLaw_19 : decode cX1_setLaw 19 = .ok (.putfield 53, 3) := dq_181 (by decide +kernel)
theorem dX1_setLaw_22 : decode cX1_setLaw 22 = .ok (.return_, 1) := dq_177 (by decide +kernel)
theorem dX1_size_0 : decode cX1_size 0 = .ok (.aload_n 0, 1) := dq_42 (by decide +kernel)
theorem dX1_size_1 : decode cX1_size 1 = .ok (.getfield 19, 3) := dq_180 (by decide +kernel)
theorem dX1_size_4 : decode cX1_size 4 = .ok (.l2i, 1) := dq_136 (by decide +kernel)
theorem dX1_size_5 : decode cX1_size 5 = .ok (.ireturn, 1) := dq_172 (by decide +kernel)
theorem dX1_solve_0 : decode cX1_solve 0 = .ok (.aload_n 0, 1) := dq_42 (by decide +kernel)
theorem dX1_solve_1 : decode cX1_solve 1 = .ok (.getfield 19, 3) := dq_180 (by decide +kernel)
theorem dX1_solve_4 : decode cX1_solve 4 = .ok (.aload_n 0, 1) := dq_42 (by decide +kernel)
theorem dX1_solve_5 : decode cX1_solve 5 = .ok (.getfield 31, 3) := dq_180 (by decide +kernel)
theorem dX1_solve_8 : decode cX1_solve 8 = .ok (.lmul, 1) := dq_105 (by decide +kernel)
theorem dX1_solve_9 : decode cX1_solve 9 = .ok (.aload_n 0, 1) := dq_42 (by decide +kernel)
theorem dX1_solve_10 : decode cX1_solve 10 = .ok (.getfield 25, 3) := dq_180 (by decide +kernel)
theorem dX1_solve_13 : decode cX1_solve 13 = .ok (.aload_n 0, 1) := dq_42 (by decide +kernel)
theorem dX1_solve_14 : decode cX1_solve 14 = .ok (.getfield 25, 3) := dq_180 (by decide +kernel)
theorem dX1_solve_17 : decode cX1_solve 17 = .ok (.lmul, 1) := dq_105 (by decide +kernel)
theorem dX1_solve_18 : decode cX1_solve 18 = .ok (.lsub, 1) := dq_101 (by decide +kernel)
theorem dX1_solve_19 : decode cX1_solve 19 = .ok (.lstore_n 1, 1) := dq_64 (by decide +kernel)
theorem dX1_solve_20 : decode cX1_solve 20 = .ok (.aload_n 0, 1) := dq_42 (by decide +kernel)
theorem dX1_solve_21 : decode cX1_solve 21 = .ok (.getfield 19, 3) := dq_180 (by decide +kernel)
theorem dX1_solve_24 : decode cX1_solve 24 = .ok (.aload_n 0, 1) := dq_42 (by decide +kernel)
theorem dX1_solve_25 : decode cX1_solve 25 = .ok (.getfield 34, 3) := dq_180 (by decide +kernel)
theorem dX1_solve_28 : decode cX1_solve 28 = .ok (.lmul, 1) := dq_105 (by decide +kernel)
theorem dX1_solve_29 : decode cX1_solve 29 = .ok (.aload_n 0, 1) := dq_42 (by decide +kernel)
theorem dX1_solve_30 : decode cX1_solve 30 = .ok (.getfield 28, 3) := dq_180 (by decide +kernel)
theorem dX1_solve_33 : decode cX1_solve 33 = .ok (.aload_n 0, 1) := dq_42 (by decide +kernel)
theorem dX1_solve_34 : decode cX1_solve 34 = .ok (.getfield 28, 3) := dq_180 (by decide +kernel)
theorem dX1_solve_37 : decode cX1_solve 37 = .ok (.lmul, 1) := dq_105 (by decide +kernel)
theorem dX1_solve_38 : decode cX1_solve 38 = .ok (.lsub, 1) := dq_101 (by decide +kernel)
theorem dX1_solve_39 : decode cX1_solve 39 = .ok (.lstore_n 3, 1) := dq_66 (by decide +kernel)
theorem dX1_solve_40 : decode cX1_solve 40 = .ok (.aload_n 0, 1) := dq_42 (by decide +kernel)
theorem dX1_solve_41 : decode cX1_solve 41 = .ok (.getfield 19, 3) := dq_180 (by decide +kernel)
theorem dX1_solve_44 : decode cX1_solve 44 = .ok (.aload_n 0, 1) := dq_42 (by decide +kernel)
theorem dX1_solve_45 : decode cX1_solve 45 = .ok (.getfield 37, 3) := dq_180 (by decide +kernel)
theorem dX1_solve_48 : decode cX1_solve 48 = .ok (.lmul, 1) := dq_105 (by decide +kernel)
theorem dX1_solve_49 : decode cX1_solve 49 = .ok (.aload_n 0, 1) := dq_42 (by decide +kernel)
theorem dX1_solve_50 : decode cX1_solve 50 = .ok (.getfield 25, 3) := dq_180 (by decide +kernel)
theorem dX1_solve_53 : decode cX1_solve 53 = .ok (.aload_n 0, 1) := dq_42 (by decide +kernel)
theorem dX1_solve_54 : decode cX1_solve 54 = .ok (.getfield 28, 3) := dq_180 (by decide +kernel)
theorem dX1_solve_57 : decode cX1_solve 57 = .ok (.lmul, 1) := dq_105 (by decide +kernel)
theorem dX1_solve_58 : decode cX1_solve 58 = .ok (.lsub, 1) := dq_101 (by decide +kernel)
theorem dX1_solve_59 : decode cX1_solve 59 = .ok (.lstore 5, 2) := dq_55 (by decide +kernel)
theorem dX1_solve_61 : decode cX1_solve 61 = .ok (.aload_n 0, 1) := dq_42 (by decide +kernel)
theorem dX1_solve_62 : decode cX1_solve 62 = .ok (.getfield 19, 3) := dq_180 (by decide +kernel)
theorem dX1_solve_65 : decode cX1_solve 65 = .ok (.aload_n 0, 1) := dq_42 (by decide +kernel)
theorem dX1_solve_66 : decode cX1_solve 66 = .ok (.getfield 40, 3) := dq_180 (by decide +kernel)
theorem dX1_solve_69 : decode cX1_solve 69 = .ok (.lmul, 1) := dq_105 (by decide +kernel)
theorem dX1_solve_70 : decode cX1_solve 70 = .ok (.aload_n 0, 1) := dq_42 (by decide +kernel)
theorem dX1_solve_71 : decode cX1_solve 71 = .ok (.getfield 25, 3) := dq_180 (by decide +kernel)
theorem dX1_solve_74 : decode cX1_solve 74 = .ok (.aload_n 0, 1) := dq_42 (by decide +kernel)
theorem dX1_solve_75 : decode cX1_solve 75 = .ok (.getfield 22, 3) := dq_180 (by decide +kernel)
theorem dX1_solve_78 : decode cX1_solve 78 = .ok (.lmul, 1) := dq_105 (by decide +kernel)
theorem dX1_solve_79 : decode cX1_solve 79 = .ok (.lsub, 1) := dq_101 (by decide +kernel)
theorem dX1_solve_80 : decode cX1_solve 80 = .ok (.lstore 7, 2) := dq_55 (by decide +kernel)
theorem dX1_solve_82 : decode cX1_solve 82 = .ok (.aload_n 0, 1) := dq_42 (by decide +kernel)
theorem dX1_solve_83 : decode cX1_solve 83 = .ok (.getfield 19, 3) := dq_180 (by decide +kernel)
theorem dX1_solve_86 : decode cX1_solve 86 = .ok (.aload_n 0, 1) := dq_42 (by decide +kernel)
theorem dX1_solve_87 : decode cX1_solve 87 = .ok (.getfield 43, 3) := dq_180 (by decide +kernel)
theorem dX1_solve_90 : decode cX1_solve 90 = .ok (.lmul, 1) := dq_105 (by decide +kernel)
theorem dX1_solve_91 : decode cX1_solve 91 = .ok (.aload_n 0, 1) := dq_42 (by decide +kernel)
theorem dX1_solve_92 : decode cX1_solve 92 = .ok (.getfield 28, 3) := dq_180 (by decide +kernel)
theorem dX1_solve_95 : decode cX1_solve 95 = .ok (.aload_n 0, 1) := dq_42 (by decide +kernel)
theorem dX1_solve_96 : decode cX1_solve 96 = .ok (.getfield 22, 3) := dq_180 (by decide +kernel)
theorem dX1_solve_99 : decode cX1_solve 99 = .ok (.lmul, 1) := dq_105 (by decide +kernel)
theorem dX1_solve_100 : decode cX1_solve 100 = .ok (.lsub, 1) := dq_101 (by decide +kernel)
theorem dX1_solve_101 : decode cX1_solve 101 = .ok (.lstore 9, 2) := dq_55 (by decide +kernel)
theorem dX1_solve_103 : decode cX1_solve 103 = .ok (.lload_n 1, 1) := dq_31 (by decide +kernel)
theorem dX1_solve_104 : decode cX1_solve 104 = .ok (.lload_n 3, 1) := dq_33 (by decide +kernel)
theorem dX1_solve_105 : decode cX1_solve 105 = .ok (.lmul, 1) := dq_105 (by decide +kernel)
theorem dX1_solve_106 : decode cX1_solve 106 = .ok (.lload 5, 2) := dq_22 (by decide +kernel)
theorem dX1_solve_108 : decode cX1_solve 108 = .ok (.lload 5, 2) := dq_22 (by decide +kernel)
theorem dX1_solve_110 : decode cX1_solve 110 = .ok (.lmul, 1) := dq_105 (by decide +kernel)
theorem dX1_solve_111 : decode cX1_solve 111 = .ok (.lsub, 1) := dq_101 (by decide +kernel)
theorem dX1_solve_112 : decode cX1_solve 112 = .ok (.lstore 11, 2) := dq_55 (by decide +kernel)
theorem dX1_solve_114 : decode cX1_solve 114 = .ok (.lload 11, 2) := dq_22 (by decide +kernel)
theorem dX1_solve_116 : decode cX1_solve 116 = .ok (.lconst 0, 1) := dq_9 (by decide +kernel)
theorem dX1_solve_117 : decode cX1_solve 117 = .ok (.lcmp, 1) := dq_148 (by decide +kernel)
theorem dX1_solve_118 : decode cX1_solve 118 = .ok (.ifCond .le 33, 3) := dq_158 (by decide +kernel)
theorem dX1_solve_121 : decode cX1_solve 121 = .ok (.aload_n 0, 1) := dq_42 (by decide +kernel)
theorem dX1_solve_122 : decode cX1_solve 122 = .ok (.iconst 3, 1) := dq_6 (by decide +kernel)
theorem dX1_solve_123 : decode cX1_solve 123 = .ok (.lload 11, 2) := dq_22 (by decide +kernel)
theorem dX1_solve_125 : decode cX1_solve 125 = .ok (.lload 7, 2) := dq_22 (by decide +kernel)
theorem dX1_solve_127 : decode cX1_solve 127 = .ok (.lload_n 3, 1) := dq_33 (by decide +kernel)
theorem dX1_solve_128 : decode cX1_solve 128 = .ok (.lmul, 1) := dq_105 (by decide +kernel)
theorem dX1_solve_129 : decode cX1_solve 129 = .ok (.lload 9, 2) := dq_22 (by decide +kernel)
theorem dX1_solve_131 : decode cX1_solve 131 = .ok (.lload 5, 2) := dq_22 (by decide +kernel)
theorem dX1_solve_133 : decode cX1_solve 133 = .ok (.lmul, 1) := dq_105 (by decide +kernel)
theorem dX1_solve_134 : decode cX1_solve 134 = .ok (.lsub, 1) := dq_101 (by decide +kernel)
theorem dX1_solve_135 : decode cX1_solve 135 = .ok (.lload 9, 2) := dq_22 (by decide +kernel)
theorem dX1_solve_137 : decode cX1_solve 137 = .ok (.lload_n 1, 1) := dq_31 (by decide +kernel)
theorem dX1_solve_138 : decode cX1_solve 138 = .ok (.lmul, 1) := dq_105 (by decide +kernel)
theorem dX1_solve_139 : decode cX1_solve 139 = .ok (.lload 7, 2) := dq_22 (by decide +kernel)
theorem dX1_solve_141 : decode cX1_solve 141 = .ok (.lload 5, 2) := dq_22 (by decide +kernel)
theorem dX1_solve_143 : decode cX1_solve 143 = .ok (.lmul, 1) := dq_105 (by decide +kernel)
theorem dX1_solve_144 : decode cX1_solve 144 = .ok (.lsub, 1) := dq_101 (by decide +kernel)
theorem dX1_solve_145 : decode cX1_solve 145 = .ok (.invokevirtual 46, 3) := dq_182 (by decide +kernel)
theorem dX1_solve_148 : decode cX1_solve 148 = .ok (.goto 47, 3) := dq_167 (by decide +kernel)
theorem dX1_solve_151 : decode cX1_solve 151 = .ok (.lload_n 1, 1) := dq_31 (by decide +kernel)
theorem dX1_solve_152 : decode cX1_solve 152 = .ok (.lconst 0, 1) := dq_9 (by decide +kernel)
theorem dX1_solve_153 : decode cX1_solve 153 = .ok (.lcmp, 1) := dq_148 (by decide +kernel)
theorem dX1_solve_154 : decode cX1_solve 154 = .ok (.ifCond .le 15, 3) := dq_158 (by decide +kernel)
theorem dX1_solve_157 : decode cX1_solve 157 = .ok (.aload_n 0, 1) := dq_42 (by decide +kernel)
theorem dX1_solve_158 : decode cX1_solve 158 = .ok (.iconst 2, 1) := dq_5 (by decide +kernel)
theorem dX1_solve_159 : decode cX1_solve 159 = .ok (.lload_n 1, 1) := dq_31 (by decide +kernel)
theorem dX1_solve_160 : decode cX1_solve 160 = .ok (.lload 7, 2) := dq_22 (by decide +kernel)
theorem dX1_solve_162 : decode cX1_solve 162 = .ok (.lconst 0, 1) := dq_9 (by decide +kernel)
theorem dX1_solve_163 : decode cX1_solve 163 = .ok (.invokevirtual 46, 3) := dq_182 (by decide +kernel)
theorem dX1_solve_166 : decode cX1_solve 166 = .ok (.goto 29, 3) := dq_167 (by decide +kernel)
theorem dX1_solve_169 : decode cX1_solve 169 = .ok (.lload_n 3, 1) := dq_33 (by decide +kernel)
theorem dX1_solve_170 : decode cX1_solve 170 = .ok (.lconst 0, 1) := dq_9 (by decide +kernel)
theorem dX1_solve_171 : decode cX1_solve 171 = .ok (.lcmp, 1) := dq_148 (by decide +kernel)
theorem dX1_solve_172 : decode cX1_solve 172 = .ok (.ifCond .le 15, 3) := dq_158 (by decide +kernel)
theorem dX1_solve_175 : decode cX1_solve 175 = .ok (.aload_n 0, 1) := dq_42 (by decide +kernel)
theorem dX1_solve_176 : decode cX1_solve 176 = .ok (.iconst 4, 1) := dq_7 (by decide +kernel)
theorem dX1_solve_177 : decode cX1_solve 177 = .ok (.lload_n 3, 1) := dq_33 (by decide +kernel)
theorem dX1_solve_178 : decode cX1_solve 178 = .ok (.lconst 0, 1) := dq_9 (by decide +kernel)
theorem dX1_solve_179 : decode cX1_solve 179 = .ok (.lload 9, 2) := dq_22 (by decide +kernel)
theorem dX1_solve_181 : decode cX1_solve 181 = .ok (.invokevirtual 46, 3) := dq_182 (by decide +kernel)
theorem dX1_solve_184 : decode cX1_solve 184 = .ok (.goto 11, 3) := dq_167 (by decide +kernel)
theorem dX1_solve_187 : decode cX1_solve 187 = .ok (.aload_n 0, 1) := dq_42 (by decide +kernel)
theorem dX1_solve_188 : decode cX1_solve 188 = .ok (.iconst 1, 1) := dq_4 (by decide +kernel)
theorem dX1_solve_189 : decode cX1_solve 189 = .ok (.lconst 1, 1) := dq_10 (by decide +kernel)
theorem dX1_solve_190 : decode cX1_solve 190 = .ok (.lconst 0, 1) := dq_9 (by decide +kernel)
theorem dX1_solve_191 : decode cX1_solve 191 = .ok (.lconst 0, 1) := dq_9 (by decide +kernel)
theorem dX1_solve_192 : decode cX1_solve 192 = .ok (.invokevirtual 46, 3) := dq_182 (by decide +kernel)
theorem dX1_solve_195 : decode cX1_solve 195 = .ok (.return_, 1) := dq_177 (by decide +kernel)
theorem dX1_thousandfold_0 : decode cX1_thousandfold 0 = .ok (.aload_n 0, 1) := dq_42 (by decide +kernel)
theorem dX1_thousandfold_1 : decode cX1_thousandfold 1 = .ok (.lconst 0, 1) := dq_9 (by decide +kernel)
theorem dX1_thousandfold_2 : decode cX1_thousandfold 2 = .ok (.putfield 56, 3) := dq_181 (by decide +kernel)
theorem dX1_thousandfold_5 : decode cX1_thousandfold 5 = .ok (.aload_n 0, 1) := dq_42 (by decide +kernel)
theorem dX1_thousandfold_6 : decode cX1_thousandfold 6 = .ok (.lconst 0, 1) := dq_9 (by decide +kernel)
theorem dX1_thousandfold_7 : decode cX1_thousandfold 7 = .ok (.putfield 59, 3) := dq_181 (by decide +kernel)
theorem dX1_thousandfold_10 : decode cX1_thousandfold 10 = .ok (.aload_n 0, 1) := dq_42 (by decide +kernel)
theorem dX1_thousandfold_11 : decode cX1_thousandfold 11 = .ok (.aload_n 0, 1) := dq_42 (by decide +kernel)
theorem dX1_thousandfold_12 : decode cX1_thousandfold 12 = .ok (.getfield 9, 3) := dq_180 (by decide +kernel)
theorem dX1_thousandfold_15 : decode cX1_thousandfold 15 = .ok (.ldc2_w 62, 3) := dq_20 (by decide +kernel)
theorem dX1_thousandfold_18 : decode cX1_thousandfold 18 = .ok (.aload_n 0, 1) := dq_42 (by decide +kernel)
theorem dX1_thousandfold_19 : decode cX1_thousandfold 19 = .ok (.getfield 22, 3) := dq_180 (by decide +kernel)
theorem dX1_thousandfold_22 : decode cX1_thousandfold 22 = .ok (.lmul, 1) := dq_105 (by decide +kernel)
theorem dX1_thousandfold_23 : decode cX1_thousandfold 23 = .ok (.invokevirtual 64, 3) := dq_182 (by decide +kernel)
theorem dX1_thousandfold_26 : decode cX1_thousandfold 26 = .ok (.aload_n 0, 1) := dq_42 (by decide +kernel)
theorem dX1_thousandfold_27 : decode cX1_thousandfold 27 = .ok (.aload_n 0, 1) := dq_42 (by decide +kernel)
theorem dX1_thousandfold_28 : decode cX1_thousandfold 28 = .ok (.getfield 50, 3) := dq_180 (by decide +kernel)
theorem dX1_thousandfold_31 : decode cX1_thousandfold 31 = .ok (.ldc2_w 62, 3) := dq_20 (by decide +kernel)
theorem dX1_thousandfold_34 : decode cX1_thousandfold 34 = .ok (.aload_n 0, 1) := dq_42 (by decide +kernel)
theorem dX1_thousandfold_35 : decode cX1_thousandfold 35 = .ok (.getfield 19, 3) := dq_180 (by decide +kernel)
theorem dX1_thousandfold_38 : decode cX1_thousandfold 38 = .ok (.iload_n 1, 1) := dq_27 (by decide +kernel)
theorem dX1_thousandfold_39 : decode cX1_thousandfold 39 = .ok (.i2l, 1) := dq_133 (by decide +kernel)
theorem dX1_thousandfold_40 : decode cX1_thousandfold 40 = .ok (.lmul, 1) := dq_105 (by decide +kernel)
theorem dX1_thousandfold_41 : decode cX1_thousandfold 41 = .ok (.aload_n 0, 1) := dq_42 (by decide +kernel)
theorem dX1_thousandfold_42 : decode cX1_thousandfold 42 = .ok (.getfield 25, 3) := dq_180 (by decide +kernel)
theorem dX1_thousandfold_45 : decode cX1_thousandfold 45 = .ok (.lsub, 1) := dq_101 (by decide +kernel)
theorem dX1_thousandfold_46 : decode cX1_thousandfold 46 = .ok (.lmul, 1) := dq_105 (by decide +kernel)
theorem dX1_thousandfold_47 : decode cX1_thousandfold 47 = .ok (.invokevirtual 64, 3) := dq_182 (by decide +kernel)
theorem dX1_thousandfold_50 : decode cX1_thousandfold 50 = .ok (.aload_n 0, 1) := dq_42 (by decide +kernel)
theorem dX1_thousandfold_51 : decode cX1_thousandfold 51 = .ok (.aload_n 0, 1) := dq_42 (by decide +kernel)
theorem dX1_thousandfold_52 : decode cX1_thousandfold 52 = .ok (.getfield 53, 3) := dq_180 (by decide +kernel)
theorem dX1_thousandfold_55 : decode cX1_thousandfold 55 = .ok (.ldc2_w 62, 3) := dq_20 (by decide +kernel)
theorem dX1_thousandfold_58 : decode cX1_thousandfold 58 = .ok (.aload_n 0, 1) := dq_42 (by decide +kernel)
theorem dX1_thousandfold_59 : decode cX1_thousandfold 59 = .ok (.getfield 19, 3) := dq_180 (by decide +kernel)
theorem dX1_thousandfold_62 : decode cX1_thousandfold 62 = .ok (.iload_n 2, 1) := dq_28 (by decide +kernel)
theorem dX1_thousandfold_63 : decode cX1_thousandfold 63 = .ok (.i2l, 1) := dq_133 (by decide +kernel)
theorem dX1_thousandfold_64 : decode cX1_thousandfold 64 = .ok (.lmul, 1) := dq_105 (by decide +kernel)
theorem dX1_thousandfold_65 : decode cX1_thousandfold 65 = .ok (.aload_n 0, 1) := dq_42 (by decide +kernel)
theorem dX1_thousandfold_66 : decode cX1_thousandfold 66 = .ok (.getfield 28, 3) := dq_180 (by decide +kernel)
theorem dX1_thousandfold_69 : decode cX1_thousandfold 69 = .ok (.lsub, 1) := dq_101 (by decide +kernel)
theorem dX1_thousandfold_70 : decode cX1_thousandfold 70 = .ok (.lmul, 1) := dq_105 (by decide +kernel)
theorem dX1_thousandfold_71 : decode cX1_thousandfold 71 = .ok (.invokevirtual 64, 3) := dq_182 (by decide +kernel)
theorem dX1_thousandfold_74 : decode cX1_thousandfold 74 = .ok (.aload_n 0, 1) := dq_42 (by decide +kernel)
theorem dX1_thousandfold_75 : decode cX1_thousandfold 75 = .ok (.getfield 56, 3) := dq_180 (by decide +kernel)
theorem dX1_thousandfold_78 : decode cX1_thousandfold 78 = .ok (.lreturn, 1) := dq_173 (by decide +kernel)
end
section
theorem dX4_add_0 : decode cX4_add 0 = .ok (.aload_n 0, 1) := dq_42 (by decide +kernel)
theorem dX4_add_1 : decode cX4_add 1 = .ok (.getfield 21, 3) := dq_180 (by decide +kernel)
theorem dX4_add_4 : decode cX4_add 4 = .ok (.bipush 120, 2) := dq_16 (by decide +kernel)
theorem dX4_add_6 : decode cX4_add 6 = .ok (.if_icmp .ge 33, 3) := dq_162 (by decide +kernel)
theorem dX4_add_9 : decode cX4_add 9 = .ok (.aload_n 0, 1) := dq_42 (by decide +kernel)
theorem dX4_add_10 : decode cX4_add 10 = .ok (.getfield 9, 3) := dq_180 (by decide +kernel)
theorem dX4_add_13 : decode cX4_add 13 = .ok (.aload_n 0, 1) := dq_42 (by decide +kernel)
theorem dX4_add_14 : decode cX4_add 14 = .ok (.getfield 21, 3) := dq_180 (by decide +kernel)
theorem dX4_add_17 : decode cX4_add 17 = .ok (.iload_n 1, 1) := dq_27 (by decide +kernel)
theorem dX4_add_18 : decode cX4_add 18 = .ok (.iastore, 1) := dq_79 (by decide +kernel)
theorem dX4_add_19 : decode cX4_add 19 = .ok (.aload_n 0, 1) := dq_42 (by decide +kernel)
theorem dX4_add_20 : decode cX4_add 20 = .ok (.getfield 15, 3) := dq_180 (by decide +kernel)
theorem dX4_add_23 : decode cX4_add 23 = .ok (.aload_n 0, 1) := dq_42 (by decide +kernel)
theorem dX4_add_24 : decode cX4_add 24 = .ok (.getfield 21, 3) := dq_180 (by decide +kernel)
theorem dX4_add_27 : decode cX4_add 27 = .ok (.iload_n 2, 1) := dq_28 (by decide +kernel)
theorem dX4_add_28 : decode cX4_add 28 = .ok (.iastore, 1) := dq_79 (by decide +kernel)
theorem dX4_add_29 : decode cX4_add 29 = .ok (.aload_n 0, 1) := dq_42 (by decide +kernel)
theorem dX4_add_30 : decode cX4_add 30 = .ok (.dup, 1) := dq_89 (by decide +kernel)
theorem dX4_add_31 : decode cX4_add 31 = .ok (.getfield 21, 3) := dq_180 (by decide +kernel)
theorem dX4_add_34 : decode cX4_add 34 = .ok (.iconst 1, 1) := dq_4 (by decide +kernel)
theorem dX4_add_35 : decode cX4_add 35 = .ok (.iadd, 1) := dq_96 (by decide +kernel)
theorem dX4_add_36 : decode cX4_add 36 = .ok (.putfield 21, 3) := dq_181 (by decide +kernel)
theorem dX4_add_39 : decode cX4_add 39 = .ok (.return_, 1) := dq_177 (by decide +kernel)
theorem dX4_isAhead_0 : decode cX4_isAhead 0 = .ok (.iload_n 0, 1) := dq_26 (by decide +kernel)
theorem dX4_isAhead_1 : decode cX4_isAhead 1 = .ok (.bipush 6, 2) := dq_16 (by decide +kernel)
theorem dX4_isAhead_3 : decode cX4_isAhead 3 = .ok (.if_icmp .eq 15, 3) := dq_159 (by decide +kernel)
theorem dX4_isAhead_6 : decode cX4_isAhead 6 = .ok (.iload_n 0, 1) := dq_26 (by decide +kernel)
theorem dX4_isAhead_7 : decode cX4_isAhead 7 = .ok (.bipush 7, 2) := dq_16 (by decide +kernel)
theorem dX4_isAhead_9 : decode cX4_isAhead 9 = .ok (.if_icmp .eq 9, 3) := dq_159 (by decide +kernel)
theorem dX4_isAhead_12 : decode cX4_isAhead 12 = .ok (.iload_n 0, 1) := dq_26 (by decide +kernel)
theorem dX4_isAhead_13 : decode cX4_isAhead 13 = .ok (.bipush 8, 2) := dq_16 (by decide +kernel)
theorem dX4_isAhead_15 : decode cX4_isAhead 15 = .ok (.if_icmp .ne 7, 3) := dq_160 (by decide +kernel)
theorem dX4_isAhead_18 : decode cX4_isAhead 18 = .ok (.iconst 1, 1) := dq_4 (by decide +kernel)
theorem dX4_isAhead_19 : decode cX4_isAhead 19 = .ok (.goto 4, 3) := dq_167 (by decide +kernel)
theorem dX4_isAhead_22 : decode cX4_isAhead 22 = .ok (.iconst 0, 1) := dq_3 (by decide +kernel)
theorem dX4_isAhead_23 : decode cX4_isAhead 23 = .ok (.ireturn, 1) := dq_172 (by decide +kernel)
theorem dX4_workOut_0 : decode cX4_workOut 0 = .ok (.iconst 0, 1) := dq_3 (by decide +kernel)
theorem dX4_workOut_1 : decode cX4_workOut 1 = .ok (.istore_n 2, 1) := dq_61 (by decide +kernel)
theorem dX4_workOut_2 : decode cX4_workOut 2 = .ok (.iconst 0, 1) := dq_3 (by decide +kernel)
theorem dX4_workOut_3 : decode cX4_workOut 3 = .ok (.istore_n 3, 1) := dq_62 (by decide +kernel)
theorem dX4_workOut_4 : decode cX4_workOut 4 = .ok (.iload_n 3, 1) := dq_29 (by decide +kernel)
theorem dX4_workOut_5 : decode cX4_workOut 5 = .ok (.aload_n 0, 1) := dq_42 (by decide +kernel)
theorem dX4_workOut_6 : decode cX4_workOut 6 = .ok (.getfield 21, 3) := dq_180 (by decide +kernel)
theorem dX4_workOut_9 : decode cX4_workOut 9 = .ok (.if_icmp .ge 163, 3) := dq_162 (by decide +kernel)
theorem dX4_workOut_12 : decode cX4_workOut 12 = .ok (.aload_n 0, 1) := dq_42 (by decide +kernel)
theorem dX4_workOut_13 : decode cX4_workOut 13 = .ok (.getfield 9, 3) := dq_180 (by decide +kernel)
theorem dX4_workOut_16 : decode cX4_workOut 16 = .ok (.iload_n 3, 1) := dq_29 (by decide +kernel)
theorem dX4_workOut_17 : decode cX4_workOut 17 = .ok (.iaload, 1) := dq_46 (by decide +kernel)
theorem dX4_workOut_18 : decode cX4_workOut 18 = .ok (.istore 4, 2) := dq_54 (by decide +kernel)
theorem dX4_workOut_20 : decode cX4_workOut 20 = .ok (.aload_n 0, 1) := dq_42 (by decide +kernel)
theorem dX4_workOut_21 : decode cX4_workOut 21 = .ok (.getfield 15, 3) := dq_180 (by decide +kernel)
theorem dX4_workOut_24 : decode cX4_workOut 24 = .ok (.iload_n 3, 1) := dq_29 (by decide +kernel)
theorem dX4_workOut_25 : decode cX4_workOut 25 = .ok (.iaload, 1) := dq_46 (by decide +kernel)
theorem dX4_workOut_26 : decode cX4_workOut 26 = .ok (.istore 5, 2) := dq_54 (by decide +kernel)
theorem dX4_workOut_28 : decode cX4_workOut 28 = .ok (.iload 4, 2) := dq_21 (by decide +kernel)
theorem dX4_workOut_30 : decode cX4_workOut 30 = .ok (.iconst 2, 1) := dq_5 (by decide +kernel)
theorem dX4_workOut_31 : decode cX4_workOut 31 = .ok (.if_icmp .ne 23, 3) := dq_160 (by decide +kernel)
theorem dX4_workOut_34 : decode cX4_workOut 34 = .ok (.iload_n 2, 1) := dq_28 (by decide +kernel)
theorem dX4_workOut_35 : decode cX4_workOut 35 = .ok (.bipush 120, 2) := dq_16 (by decide +kernel)
theorem dX4_workOut_37 : decode cX4_workOut 37 = .ok (.if_icmp .ge 17, 3) := dq_162 (by decide +kernel)
theorem dX4_workOut_40 : decode cX4_workOut 40 = .ok (.aload_n 0, 1) := dq_42 (by decide +kernel)
theorem dX4_workOut_41 : decode cX4_workOut 41 = .ok (.getfield 18, 3) := dq_180 (by decide +kernel)
theorem dX4_workOut_44 : decode cX4_workOut 44 = .ok (.iload_n 2, 1) := dq_28 (by decide +kernel)
theorem dX4_workOut_45 : decode cX4_workOut 45 = .ok (.iload 5, 2) := dq_21 (by decide +kernel)
theorem dX4_workOut_47 : decode cX4_workOut 47 = .ok (.iastore, 1) := dq_79 (by decide +kernel)
theorem dX4_workOut_48 : decode cX4_workOut 48 = .ok (.iinc 2 1, 3) := dq_132 (by decide +kernel)
theorem dX4_workOut_51 : decode cX4_workOut 51 = .ok (.goto 115, 3) := dq_167 (by decide +kernel)
theorem dX4_workOut_54 : decode cX4_workOut 54 = .ok (.iload 4, 2) := dq_21 (by decide +kernel)
theorem dX4_workOut_56 : decode cX4_workOut 56 = .ok (.iconst 3, 1) := dq_6 (by decide +kernel)
theorem dX4_workOut_57 : decode cX4_workOut 57 = .ok (.if_icmp .ne 37, 3) := dq_160 (by decide +kernel)
theorem dX4_workOut_60 : decode cX4_workOut 60 = .ok (.iload_n 2, 1) := dq_28 (by decide +kernel)
theorem dX4_workOut_61 : decode cX4_workOut 61 = .ok (.bipush 120, 2) := dq_16 (by decide +kernel)
theorem dX4_workOut_63 : decode cX4_workOut 63 = .ok (.if_icmp .ge 31, 3) := dq_162 (by decide +kernel)
theorem dX4_workOut_66 : decode cX4_workOut 66 = .ok (.iload 5, 2) := dq_21 (by decide +kernel)
theorem dX4_workOut_68 : decode cX4_workOut 68 = .ok (.ifCond .lt 26, 3) := dq_155 (by decide +kernel)
theorem dX4_workOut_71 : decode cX4_workOut 71 = .ok (.iload 5, 2) := dq_21 (by decide +kernel)
theorem dX4_workOut_73 : decode cX4_workOut 73 = .ok (.aload_n 1, 1) := dq_43 (by decide +kernel)
theorem dX4_workOut_74 : decode cX4_workOut 74 = .ok (.arraylength, 1) := dq_190 (by decide +kernel)
theorem dX4_workOut_75 : decode cX4_workOut 75 = .ok (.if_icmp .ge 19, 3) := dq_162 (by decide +kernel)
theorem dX4_workOut_78 : decode cX4_workOut 78 = .ok (.aload_n 0, 1) := dq_42 (by decide +kernel)
theorem dX4_workOut_79 : decode cX4_workOut 79 = .ok (.getfield 18, 3) := dq_180 (by decide +kernel)
theorem dX4_workOut_82 : decode cX4_workOut 82 = .ok (.iload_n 2, 1) := dq_28 (by decide +kernel)
theorem dX4_workOut_83 : decode cX4_workOut 83 = .ok (.aload_n 1, 1) := dq_43 (by decide +kernel)
theorem dX4_workOut_84 : decode cX4_workOut 84 = .ok (.iload 5, 2) := dq_21 (by decide +kernel)
theorem dX4_workOut_86 : decode cX4_workOut 86 = .ok (.iaload, 1) := dq_46 (by decide +kernel)
theorem dX4_workOut_87 : decode cX4_workOut 87 = .ok (.iastore, 1) := dq_79 (by decide +kernel)
theorem dX4_workOut_88 : decode cX4_workOut 88 = .ok (.iinc 2 1, 3) := dq_132 (by decide +kernel)
theorem dX4_workOut_91 : decode cX4_workOut 91 = .ok (.goto 75, 3) := dq_167 (by decide +kernel)
theorem dX4_workOut_94 : decode cX4_workOut 94 = .ok (.iload 4, 2) := dq_21 (by decide +kernel)
theorem dX4_workOut_96 : decode cX4_workOut 96 = .ok (.invokestatic 25, 3) := dq_184 (by decide +kernel)
theorem dX4_workOut_99 : decode cX4_workOut 99 = .ok (.ifCond .eq 32, 3) := dq_153 (by decide +kernel)
theorem dX4_workOut_102 : decode cX4_workOut 102 = .ok (.iload_n 2, 1) := dq_28 (by decide +kernel)
theorem dX4_workOut_103 : decode cX4_workOut 103 = .ok (.iconst 1, 1) := dq_4 (by decide +kernel)
theorem dX4_workOut_104 : decode cX4_workOut 104 = .ok (.if_icmp .lt 27, 3) := dq_161 (by decide +kernel)
theorem dX4_workOut_107 : decode cX4_workOut 107 = .ok (.aload_n 0, 1) := dq_42 (by decide +kernel)
theorem dX4_workOut_108 : decode cX4_workOut 108 = .ok (.getfield 18, 3) := dq_180 (by decide +kernel)
theorem dX4_workOut_111 : decode cX4_workOut 111 = .ok (.iload_n 2, 1) := dq_28 (by decide +kernel)
theorem dX4_workOut_112 : decode cX4_workOut 112 = .ok (.iconst 1, 1) := dq_4 (by decide +kernel)
theorem dX4_workOut_113 : decode cX4_workOut 113 = .ok (.isub, 1) := dq_100 (by decide +kernel)
theorem dX4_workOut_114 : decode cX4_workOut 114 = .ok (.iload 4, 2) := dq_21 (by decide +kernel)
theorem dX4_workOut_116 : decode cX4_workOut 116 = .ok (.aload_n 0, 1) := dq_42 (by decide +kernel)
theorem dX4_workOut_117 : decode cX4_workOut 117 = .ok (.getfield 18, 3) := dq_180 (by decide +kernel)
theorem dX4_workOut_120 : decode cX4_workOut 120 = .ok (.iload_n 2, 1) := dq_28 (by decide +kernel)
theorem dX4_workOut_121 : decode cX4_workOut 121 = .ok (.iconst 1, 1) := dq_4 (by decide +kernel)
theorem dX4_workOut_122 : decode cX4_workOut 122 = .ok (.isub, 1) := dq_100 (by decide +kernel)
theorem dX4_workOut_123 : decode cX4_workOut 123 = .ok (.iaload, 1) := dq_46 (by decide +kernel)
theorem dX4_workOut_124 : decode cX4_workOut 124 = .ok (.invokestatic 29, 3) := dq_184 (by decide +kernel)
theorem dX4_workOut_127 : decode cX4_workOut 127 = .ok (.iastore, 1) := dq_79 (by decide +kernel)
theorem dX4_workOut_128 : decode cX4_workOut 128 = .ok (.goto 38, 3) := dq_167 (by decide +kernel)
theorem dX4_workOut_131 : decode cX4_workOut 131 = .ok (.iload_n 2, 1) := dq_28 (by decide +kernel)
theorem dX4_workOut_132 : decode cX4_workOut 132 = .ok (.iconst 2, 1) := dq_5 (by decide +kernel)
theorem dX4_workOut_133 : decode cX4_workOut 133 = .ok (.if_icmp .lt 33, 3) := dq_161 (by decide +kernel)
theorem dX4_workOut_136 : decode cX4_workOut 136 = .ok (.iinc 2 (-1), 3) := dq_132 (by decide +kernel)
theorem dX4_workOut_139 : decode cX4_workOut 139 = .ok (.aload_n 0, 1) := dq_42 (by decide +kernel)
theorem dX4_workOut_140 : decode cX4_workOut 140 = .ok (.getfield 18, 3) := dq_180 (by decide +kernel)
theorem dX4_workOut_143 : decode cX4_workOut 143 = .ok (.iload_n 2, 1) := dq_28 (by decide +kernel)
theorem dX4_workOut_144 : decode cX4_workOut 144 = .ok (.iconst 1, 1) := dq_4 (by decide +kernel)
theorem dX4_workOut_145 : decode cX4_workOut 145 = .ok (.isub, 1) := dq_100 (by decide +kernel)
theorem dX4_workOut_146 : decode cX4_workOut 146 = .ok (.iload 4, 2) := dq_21 (by decide +kernel)
theorem dX4_workOut_148 : decode cX4_workOut 148 = .ok (.aload_n 0, 1) := dq_42 (by decide +kernel)
theorem dX4_workOut_149 : decode cX4_workOut 149 = .ok (.getfield 18, 3) := dq_180 (by decide +kernel)
theorem dX4_workOut_152 : decode cX4_workOut 152 = .ok (.iload_n 2, 1) := dq_28 (by decide +kernel)
theorem dX4_workOut_153 : decode cX4_workOut 153 = .ok (.iconst 1, 1) := dq_4 (by decide +kernel)
theorem dX4_workOut_154 : decode cX4_workOut 154 = .ok (.isub, 1) := dq_100 (by decide +kernel)
theorem dX4_workOut_155 : decode cX4_workOut 155 = .ok (.iaload, 1) := dq_46 (by decide +kernel)
theorem dX4_workOut_156 : decode cX4_workOut 156 = .ok (.aload_n 0, 1) := dq_42 (by decide +kernel)
theorem dX4_workOut_157 : decode cX4_workOut 157 = .ok (.getfield 18, 3) := dq_180 (by decide +kernel)
theorem dX4_workOut_160 : decode cX4_workOut 160 = .ok (.iload_n 2, 1) := dq_28 (by decide +kernel)
theorem dX4_workOut_161 : decode cX4_workOut 161 = .ok (.iaload, 1) := dq_46 (by decide +kernel)
theorem dX4_workOut_162 : decode cX4_workOut 162 = .ok (.invokestatic 33, 3) := dq_184 (by decide +kernel)
theorem dX4_workOut_165 : decode cX4_workOut 165 = .ok (.iastore, 1) := dq_79 (by decide +kernel)
theorem dX4_workOut_166 : decode cX4_workOut 166 = .ok (.iinc 3 1, 3) := dq_132 (by decide +kernel)
theorem dX4_workOut_169 : decode cX4_workOut 169 = .ok (.goto (-165), 3) := dq_167 (by decide +kernel)
theorem dX4_workOut_172 : decode cX4_workOut 172 = .ok (.iload_n 2, 1) := dq_28 (by decide +kernel)
theorem dX4_workOut_173 : decode cX4_workOut 173 = .ok (.ifCond .le 14, 3) := dq_158 (by decide +kernel)
theorem dX4_workOut_176 : decode cX4_workOut 176 = .ok (.aload_n 0, 1) := dq_42 (by decide +kernel)
theorem dX4_workOut_177 : decode cX4_workOut 177 = .ok (.getfield 18, 3) := dq_180 (by decide +kernel)
theorem dX4_workOut_180 : decode cX4_workOut 180 = .ok (.iload_n 2, 1) := dq_28 (by decide +kernel)
theorem dX4_workOut_181 : decode cX4_workOut 181 = .ok (.iconst 1, 1) := dq_4 (by decide +kernel)
theorem dX4_workOut_182 : decode cX4_workOut 182 = .ok (.isub, 1) := dq_100 (by decide +kernel)
theorem dX4_workOut_183 : decode cX4_workOut 183 = .ok (.iaload, 1) := dq_46 (by decide +kernel)
theorem dX4_workOut_184 : decode cX4_workOut 184 = .ok (.goto 4, 3) := dq_167 (by decide +kernel)
theorem dX4_workOut_187 : decode cX4_workOut 187 = .ok (.iconst 0, 1) := dq_3 (by decide +kernel)
theorem dX4_workOut_188 : decode cX4_workOut 188 = .ok (.ireturn, 1) := dq_172 (by decide +kernel)
theorem dX4_workOutOne_0 : decode cX4_workOutOne 0 = .ok (.iload_n 0, 1) := dq_26 (by decide +kernel)
theorem dX4_workOutOne_1 : decode cX4_workOutOne 1 = .ok (.lookupswitch 48 #[(6, 27), (7, 37)], 27) := by decide +kernel
theorem dX4_workOutOne_28 : decode cX4_workOutOne 28 = .ok (.iload_n 1, 1) := dq_27 (by decide +kernel)
theorem dX4_workOutOne_29 : decode cX4_workOutOne 29 = .ok (.ifCond .ne 7, 3) := dq_154 (by decide +kernel)
theorem dX4_workOutOne_32 : decode cX4_workOutOne 32 = .ok (.iconst 1, 1) := dq_4 (by decide +kernel)
theorem dX4_workOutOne_33 : decode cX4_workOutOne 33 = .ok (.goto 4, 3) := dq_167 (by decide +kernel)
theorem dX4_workOutOne_36 : decode cX4_workOutOne 36 = .ok (.iconst 0, 1) := dq_3 (by decide +kernel)
theorem dX4_workOutOne_37 : decode cX4_workOutOne 37 = .ok (.ireturn, 1) := dq_172 (by decide +kernel)
theorem dX4_workOutOne_38 : decode cX4_workOutOne 38 = .ok (.iload_n 1, 1) := dq_27 (by decide +kernel)
theorem dX4_workOutOne_39 : decode cX4_workOutOne 39 = .ok (.ifCond .ge 8, 3) := dq_156 (by decide +kernel)
theorem dX4_workOutOne_42 : decode cX4_workOutOne 42 = .ok (.iload_n 1, 1) := dq_27 (by decide +kernel)
theorem dX4_workOutOne_43 : decode cX4_workOutOne 43 = .ok (.ineg, 1) := dq_116 (by decide +kernel)
theorem dX4_workOutOne_44 : decode cX4_workOutOne 44 = .ok (.goto 4, 3) := dq_167 (by decide +kernel)
theorem dX4_workOutOne_47 : decode cX4_workOutOne 47 = .ok (.iload_n 1, 1) := dq_27 (by decide +kernel)
theorem dX4_workOutOne_48 : decode cX4_workOutOne 48 = .ok (.ireturn, 1) := dq_172 (by decide +kernel)
theorem dX4_workOutOne_49 : decode cX4_workOutOne 49 = .ok (.iload_n 1, 1) := dq_27 (by decide +kernel)
theorem dX4_workOutOne_50 : decode cX4_workOutOne 50 = .ok (.ineg, 1) := dq_116 (by decide +kernel)
theorem dX4_workOutOne_51 : decode cX4_workOutOne 51 = .ok (.ireturn, 1) := dq_172 (by decide +kernel)
theorem dX4_workOutTwo_0 : decode cX4_workOutTwo 0 = .ok (.iload_n 0, 1) := dq_26 (by decide +kernel)
theorem dX4_workOutTwo_1 : decode cX4_workOutTwo 1 = .ok (.lookupswitch 148 #[(4, 75), (5, 89), (42, 144), (43, 136), (45, 140), (60, 103), (61, 114), (62, 125)], 75) := by decide +kernel
theorem dX4_workOutTwo_76 : decode cX4_workOutTwo 76 = .ok (.iload_n 1, 1) := dq_27 (by decide +kernel)
theorem dX4_workOutTwo_77 : decode cX4_workOutTwo 77 = .ok (.ifCond .ne 7, 3) := dq_154 (by decide +kernel)
theorem dX4_workOutTwo_80 : decode cX4_workOutTwo 80 = .ok (.iload_n 2, 1) := dq_28 (by decide +kernel)
theorem dX4_workOutTwo_81 : decode cX4_workOutTwo 81 = .ok (.ifCond .eq 7, 3) := dq_153 (by decide +kernel)
theorem dX4_workOutTwo_84 : decode cX4_workOutTwo 84 = .ok (.iconst 1, 1) := dq_4 (by decide +kernel)
theorem dX4_workOutTwo_85 : decode cX4_workOutTwo 85 = .ok (.goto 4, 3) := dq_167 (by decide +kernel)
theorem dX4_workOutTwo_88 : decode cX4_workOutTwo 88 = .ok (.iconst 0, 1) := dq_3 (by decide +kernel)
theorem dX4_workOutTwo_89 : decode cX4_workOutTwo 89 = .ok (.ireturn, 1) := dq_172 (by decide +kernel)
theorem dX4_workOutTwo_90 : decode cX4_workOutTwo 90 = .ok (.iload_n 1, 1) := dq_27 (by decide +kernel)
theorem dX4_workOutTwo_91 : decode cX4_workOutTwo 91 = .ok (.ifCond .eq 11, 3) := dq_153 (by decide +kernel)
theorem dX4_workOutTwo_94 : decode cX4_workOutTwo 94 = .ok (.iload_n 2, 1) := dq_28 (by decide +kernel)
theorem dX4_workOutTwo_95 : decode cX4_workOutTwo 95 = .ok (.ifCond .eq 7, 3) := dq_153 (by decide +kernel)
theorem dX4_workOutTwo_98 : decode cX4_workOutTwo 98 = .ok (.iconst 1, 1) := dq_4 (by decide +kernel)
theorem dX4_workOutTwo_99 : decode cX4_workOutTwo 99 = .ok (.goto 4, 3) := dq_167 (by decide +kernel)
theorem dX4_workOutTwo_102 : decode cX4_workOutTwo 102 = .ok (.iconst 0, 1) := dq_3 (by decide +kernel)
theorem dX4_workOutTwo_103 : decode cX4_workOutTwo 103 = .ok (.ireturn, 1) := dq_172 (by decide +kernel)
theorem dX4_workOutTwo_104 : decode cX4_workOutTwo 104 = .ok (.iload_n 1, 1) := dq_27 (by decide +kernel)
theorem dX4_workOutTwo_105 : decode cX4_workOutTwo 105 = .ok (.iload_n 2, 1) := dq_28 (by decide +kernel)
theorem dX4_workOutTwo_106 : decode cX4_workOutTwo 106 = .ok (.if_icmp .ge 7, 3) := dq_162 (by decide +kernel)
theorem dX4_workOutTwo_109 : decode cX4_workOutTwo 109 = .ok (.iconst 1, 1) := dq_4 (by decide +kernel)
theorem dX4_workOutTwo_110 : decode cX4_workOutTwo 110 = .ok (.goto 4, 3) := dq_167 (by decide +kernel)
theorem dX4_workOutTwo_113 : decode cX4_workOutTwo 113 = .ok (.iconst 0, 1) := dq_3 (by decide +kernel)
theorem dX4_workOutTwo_114 : decode cX4_workOutTwo 114 = .ok (.ireturn, 1) := dq_172 (by decide +kernel)
theorem dX4_workOutTwo_115 : decode cX4_workOutTwo 115 = .ok (.iload_n 1, 1) := dq_27 (by decide +kernel)
theorem dX4_workOutTwo_116 : decode cX4_workOutTwo 116 = .ok (.iload_n 2, 1) := dq_28 (by decide +kernel)
theorem dX4_workOutTwo_117 : decode cX4_workOutTwo 117 = .ok (.if_icmp .ne 7, 3) := dq_160 (by decide +kernel)
theorem dX4_workOutTwo_120 : decode cX4_workOutTwo 120 = .ok (.iconst 1, 1) := dq_4 (by decide +kernel)
theorem dX4_workOutTwo_121 : decode cX4_workOutTwo 121 = .ok (.goto 4, 3) := dq_167 (by decide +kernel)
theorem dX4_workOutTwo_124 : decode cX4_workOutTwo 124 = .ok (.iconst 0, 1) := dq_3 (by decide +kernel)
theorem dX4_workOutTwo_125 : decode cX4_workOutTwo 125 = .ok (.ireturn, 1) := dq_172 (by decide +kernel)
theorem dX4_workOutTwo_126 : decode cX4_workOutTwo 126 = .ok (.iload_n 1, 1) := dq_27 (by decide +kernel)
theorem dX4_workOutTwo_127 : decode cX4_workOutTwo 127 = .ok (.iload_n 2, 1) := dq_28 (by decide +kernel)
theorem dX4_workOutTwo_128 : decode cX4_workOutTwo 128 = .ok (.if_icmp .le 7, 3) := dq_164 (by decide +kernel)
theorem dX4_workOutTwo_131 : decode cX4_workOutTwo 131 = .ok (.iconst 1, 1) := dq_4 (by decide +kernel)
theorem dX4_workOutTwo_132 : decode cX4_workOutTwo 132 = .ok (.goto 4, 3) := dq_167 (by decide +kernel)
theorem dX4_workOutTwo_135 : decode cX4_workOutTwo 135 = .ok (.iconst 0, 1) := dq_3 (by decide +kernel)
theorem dX4_workOutTwo_136 : decode cX4_workOutTwo 136 = .ok (.ireturn, 1) := dq_172 (by decide +kernel)
theorem dX4_workOutTwo_137 : decode cX4_workOutTwo 137 = .ok (.iload_n 1, 1) := dq_27 (by decide +kernel)
theorem dX4_workOutTwo_138 : decode cX4_workOutTwo 138 = .ok (.iload_n 2, 1) := dq_28 (by decide +kernel)
theorem dX4_workOutTwo_139 : decode cX4_workOutTwo 139 = .ok (.iadd, 1) := dq_96 (by decide +kernel)
theorem dX4_workOutTwo_140 : decode cX4_workOutTwo 140 = .ok (.ireturn, 1) := dq_172 (by decide +kernel)
theorem dX4_workOutTwo_141 : decode cX4_workOutTwo 141 = .ok (.iload_n 1, 1) := dq_27 (by decide +kernel)
theorem dX4_workOutTwo_142 : decode cX4_workOutTwo 142 = .ok (.iload_n 2, 1) := dq_28 (by decide +kernel)
theorem dX4_workOutTwo_143 : decode cX4_workOutTwo 143 = .ok (.isub, 1) := dq_100 (by decide +kernel)
theorem dX4_workOutTwo_144 : decode cX4_workOutTwo 144 = .ok (.ireturn, 1) := dq_172 (by decide +kernel)
theorem dX4_workOutTwo_145 : decode cX4_workOutTwo 145 = .ok (.iload_n 1, 1) := dq_27 (by decide +kernel)
theorem dX4_workOutTwo_146 : decode cX4_workOutTwo 146 = .ok (.iload_n 2, 1) := dq_28 (by decide +kernel)
theorem dX4_workOutTwo_147 : decode cX4_workOutTwo 147 = .ok (.imul, 1) := dq_104 (by decide +kernel)
theorem dX4_workOutTwo_148 : decode cX4_workOutTwo 148 = .ok (.ireturn, 1) := dq_172 (by decide +kernel)
theorem dX4_workOutTwo_149 : decode cX4_workOutTwo 149 = .ok (.iload_n 2, 1) := dq_28 (by decide +kernel)
theorem dX4_workOutTwo_150 : decode cX4_workOutTwo 150 = .ok (.ifCond .ne 7, 3) := dq_154 (by decide +kernel)
theorem dX4_workOutTwo_153 : decode cX4_workOutTwo 153 = .ok (.iconst 0, 1) := dq_3 (by decide +kernel)
theorem dX4_workOutTwo_154 : decode cX4_workOutTwo 154 = .ok (.goto 6, 3) := dq_167 (by decide +kernel)
theorem dX4_workOutTwo_157 : decode cX4_workOutTwo 157 = .ok (.iload_n 1, 1) := dq_27 (by decide +kernel)
theorem dX4_workOutTwo_158 : decode cX4_workOutTwo 158 = .ok (.iload_n 2, 1) := dq_28 (by decide +kernel)
theorem dX4_workOutTwo_159 : decode cX4_workOutTwo 159 = .ok (.idiv, 1) := dq_108 (by decide +kernel)
theorem dX4_workOutTwo_160 : decode cX4_workOutTwo 160 = .ok (.ireturn, 1) := dq_172 (by decide +kernel)
end
section
theorem dX5_addSight_0 : decode cX5_addSight 0 = .ok (.aload_n 0, 1) := dq_42 (by decide +kernel)
theorem dX5_addSight_1 : decode cX5_addSight 1 = .ok (.getfield 33, 3) := dq_180 (by decide +kernel)
theorem dX5_addSight_4 : decode cX5_addSight 4 = .ok (.bipush 40, 2) := dq_16 (by decide +kernel)
theorem dX5_addSight_6 : decode cX5_addSight 6 = .ok (.if_icmp .lt 6, 3) := dq_161 (by decide +kernel)
theorem dX5_addSight_9 : decode cX5_addSight 9 = .ok (.bipush (-5), 2) := dq_16 (by decide +kernel)
theorem dX5_addSight_11 : decode cX5_addSight 11 = .ok (.ireturn, 1) := dq_172 (by decide +kernel)
theorem dX5_addSight_12 : decode cX5_addSight 12 = .ok (.aload_n 0, 1) := dq_42 (by decide +kernel)
theorem dX5_addSight_13 : decode cX5_addSight 13 = .ok (.getfield 27, 3) := dq_180 (by decide +kernel)
theorem dX5_addSight_16 : decode cX5_addSight 16 = .ok (.aload_n 0, 1) := dq_42 (by decide +kernel)
theorem dX5_addSight_17 : decode cX5_addSight 17 = .ok (.getfield 33, 3) := dq_180 (by decide +kernel)
theorem dX5_addSight_20 : decode cX5_addSight 20 = .ok (.iload_n 1, 1) := dq_27 (by decide +kernel)
theorem dX5_addSight_21 : decode cX5_addSight 21 = .ok (.iastore, 1) := dq_79 (by decide +kernel)
theorem dX5_addSight_22 : decode cX5_addSight 22 = .ok (.aload_n 0, 1) := dq_42 (by decide +kernel)
theorem dX5_addSight_23 : decode cX5_addSight 23 = .ok (.getfield 30, 3) := dq_180 (by decide +kernel)
theorem dX5_addSight_26 : decode cX5_addSight 26 = .ok (.iconst 3, 1) := dq_6 (by decide +kernel)
theorem dX5_addSight_27 : decode cX5_addSight 27 = .ok (.aload_n 0, 1) := dq_42 (by decide +kernel)
theorem dX5_addSight_28 : decode cX5_addSight 28 = .ok (.getfield 33, 3) := dq_180 (by decide +kernel)
theorem dX5_addSight_31 : decode cX5_addSight 31 = .ok (.imul, 1) := dq_104 (by decide +kernel)
theorem dX5_addSight_32 : decode cX5_addSight 32 = .ok (.iload_n 2, 1) := dq_28 (by decide +kernel)
theorem dX5_addSight_33 : decode cX5_addSight 33 = .ok (.iastore, 1) := dq_79 (by decide +kernel)
theorem dX5_addSight_34 : decode cX5_addSight 34 = .ok (.aload_n 0, 1) := dq_42 (by decide +kernel)
theorem dX5_addSight_35 : decode cX5_addSight 35 = .ok (.getfield 30, 3) := dq_180 (by decide +kernel)
theorem dX5_addSight_38 : decode cX5_addSight 38 = .ok (.iconst 3, 1) := dq_6 (by decide +kernel)
theorem dX5_addSight_39 : decode cX5_addSight 39 = .ok (.aload_n 0, 1) := dq_42 (by decide +kernel)
theorem dX5_addSight_40 : decode cX5_addSight 40 = .ok (.getfield 33, 3) := dq_180 (by decide +kernel)
theorem dX5_addSight_43 : decode cX5_addSight 43 = .ok (.imul, 1) := dq_104 (by decide +kernel)
theorem dX5_addSight_44 : decode cX5_addSight 44 = .ok (.iconst 1, 1) := dq_4 (by decide +kernel)
theorem dX5_addSight_45 : decode cX5_addSight 45 = .ok (.iadd, 1) := dq_96 (by decide +kernel)
theorem dX5_addSight_46 : decode cX5_addSight 46 = .ok (.iload_n 3, 1) := dq_29 (by decide +kernel)
theorem dX5_addSight_47 : decode cX5_addSight 47 = .ok (.iastore, 1) := dq_79 (by decide +kernel)
theorem dX5_addSight_48 : decode cX5_addSight 48 = .ok (.aload_n 0, 1) := dq_42 (by decide +kernel)
theorem dX5_addSight_49 : decode cX5_addSight 49 = .ok (.getfield 30, 3) := dq_180 (by decide +kernel)
theorem dX5_addSight_52 : decode cX5_addSight 52 = .ok (.iconst 3, 1) := dq_6 (by decide +kernel)
theorem dX5_addSight_53 : decode cX5_addSight 53 = .ok (.aload_n 0, 1) := dq_42 (by decide +kernel)
theorem dX5_addSight_54 : decode cX5_addSight 54 = .ok (.getfield 33, 3) := dq_180 (by decide +kernel)
theorem dX5_addSight_57 : decode cX5_addSight 57 = .ok (.imul, 1) := dq_104 (by decide +kernel)
theorem dX5_addSight_58 : decode cX5_addSight 58 = .ok (.iconst 2, 1) := dq_5 (by decide +kernel)
theorem dX5_addSight_59 : decode cX5_addSight 59 = .ok (.iadd, 1) := dq_96 (by decide +kernel)
theorem dX5_addSight_60 : decode cX5_addSight 60 = .ok (.iload 4, 2) := dq_21 (by decide +kernel)
theorem dX5_addSight_62 : decode cX5_addSight 62 = .ok (.iastore, 1) := dq_79 (by decide +kernel)
theorem dX5_addSight_63 : decode cX5_addSight 63 = .ok (.aload_n 0, 1) := dq_42 (by decide +kernel)
theorem dX5_addSight_64 : decode cX5_addSight 64 = .ok (.dup, 1) := dq_89 (by decide +kernel)
theorem dX5_addSight_65 : decode cX5_addSight 65 = .ok (.getfield 33, 3) := dq_180 (by decide +kernel)
theorem dX5_addSight_68 : decode cX5_addSight 68 = .ok (.iconst 1, 1) := dq_4 (by decide +kernel)
theorem dX5_addSight_69 : decode cX5_addSight 69 = .ok (.iadd, 1) := dq_96 (by decide +kernel)
theorem dX5_addSight_70 : decode cX5_addSight 70 = .ok (.putfield 33, 3) := dq_181 (by decide +kernel)
theorem dX5_addSight_73 : decode cX5_addSight 73 = .ok (.aload_n 0, 1) := dq_42 (by decide +kernel)
theorem dX5_addSight_74 : decode cX5_addSight 74 = .ok (.getfield 33, 3) := dq_180 (by decide +kernel)
theorem dX5_addSight_77 : decode cX5_addSight 77 = .ok (.iconst 1, 1) := dq_4 (by decide +kernel)
theorem dX5_addSight_78 : decode cX5_addSight 78 = .ok (.isub, 1) := dq_100 (by decide +kernel)
theorem dX5_addSight_79 : decode cX5_addSight 79 = .ok (.ireturn, 1) := dq_172 (by decide +kernel)
theorem dX5_beginOf_0 : decode cX5_beginOf 0 = .ok (.ldc 69, 2) := dq_18 (by decide +kernel)
theorem dX5_beginOf_2 : decode cX5_beginOf 2 = .ok (.istore_n 3, 1) := dq_62 (by decide +kernel)
theorem dX5_beginOf_3 : decode cX5_beginOf 3 = .ok (.iconst 0, 1) := dq_3 (by decide +kernel)
theorem dX5_beginOf_4 : decode cX5_beginOf 4 = .ok (.istore 4, 2) := dq_54 (by decide +kernel)
theorem dX5_beginOf_6 : decode cX5_beginOf 6 = .ok (.iload 4, 2) := dq_21 (by decide +kernel)
theorem dX5_beginOf_8 : decode cX5_beginOf 8 = .ok (.iconst 3, 1) := dq_6 (by decide +kernel)
theorem dX5_beginOf_9 : decode cX5_beginOf 9 = .ok (.if_icmp .ge 35, 3) := dq_162 (by decide +kernel)
theorem dX5_beginOf_12 : decode cX5_beginOf 12 = .ok (.iload 4, 2) := dq_21 (by decide +kernel)
theorem dX5_beginOf_14 : decode cX5_beginOf 14 = .ok (.iload_n 2, 1) := dq_28 (by decide +kernel)
theorem dX5_beginOf_15 : decode cX5_beginOf 15 = .ok (.if_icmp .eq 23, 3) := dq_159 (by decide +kernel)
theorem dX5_beginOf_18 : decode cX5_beginOf 18 = .ok (.iload_n 3, 1) := dq_29 (by decide +kernel)
theorem dX5_beginOf_19 : decode cX5_beginOf 19 = .ok (.aload_n 0, 1) := dq_42 (by decide +kernel)
theorem dX5_beginOf_20 : decode cX5_beginOf 20 = .ok (.iload_n 1, 1) := dq_27 (by decide +kernel)
theorem dX5_beginOf_21 : decode cX5_beginOf 21 = .ok (.iload 4, 2) := dq_21 (by decide +kernel)
theorem dX5_beginOf_23 : decode cX5_beginOf 23 = .ok (.invokevirtual 63, 3) := dq_182 (by decide +kernel)
theorem dX5_beginOf_26 : decode cX5_beginOf 26 = .ok (.aload_n 0, 1) := dq_42 (by decide +kernel)
theorem dX5_beginOf_27 : decode cX5_beginOf 27 = .ok (.iload_n 1, 1) := dq_27 (by decide +kernel)
theorem dX5_beginOf_28 : decode cX5_beginOf 28 = .ok (.iload 4, 2) := dq_21 (by decide +kernel)
theorem dX5_beginOf_30 : decode cX5_beginOf 30 = .ok (.invokevirtual 70, 3) := dq_182 (by decide +kernel)
theorem dX5_beginOf_33 : decode cX5_beginOf 33 = .ok (.isub, 1) := dq_100 (by decide +kernel)
theorem dX5_beginOf_34 : decode cX5_beginOf 34 = .ok (.invokestatic 73, 3) := dq_184 (by decide +kernel)
theorem dX5_beginOf_37 : decode cX5_beginOf 37 = .ok (.istore_n 3, 1) := dq_62 (by decide +kernel)
theorem dX5_beginOf_38 : decode cX5_beginOf 38 = .ok (.iinc 4 1, 3) := dq_132 (by decide +kernel)
theorem dX5_beginOf_41 : decode cX5_beginOf 41 = .ok (.goto (-35), 3) := dq_167 (by decide +kernel)
theorem dX5_beginOf_44 : decode cX5_beginOf 44 = .ok (.iload_n 3, 1) := dq_29 (by decide +kernel)
theorem dX5_beginOf_45 : decode cX5_beginOf 45 = .ok (.ireturn, 1) := dq_172 (by decide +kernel)
theorem dX5_carry_0 : decode cX5_carry 0 = .ok (.iload_n 1, 1) := dq_27 (by decide +kernel)
theorem dX5_carry_1 : decode cX5_carry 1 = .ok (.ifCond .lt 8, 3) := dq_155 (by decide +kernel)
theorem dX5_carry_4 : decode cX5_carry 4 = .ok (.iload_n 1, 1) := dq_27 (by decide +kernel)
theorem dX5_carry_5 : decode cX5_carry 5 = .ok (.iconst 3, 1) := dq_6 (by decide +kernel)
theorem dX5_carry_6 : decode cX5_carry 6 = .ok (.if_icmp .lt 4, 3) := dq_161 (by decide +kernel)
theorem dX5_carry_9 : decode cX5_carry 9 = .ok (.return_, 1) := dq_177 (by decide +kernel)
theorem dX5_carry_10 : decode cX5_carry 10 = .ok (.aload_n 0, 1) := dq_42 (by decide +kernel)
theorem dX5_carry_11 : decode cX5_carry 11 = .ok (.getfield 9, 3) := dq_180 (by decide +kernel)
theorem dX5_carry_14 : decode cX5_carry 14 = .ok (.iload_n 1, 1) := dq_27 (by decide +kernel)
theorem dX5_carry_15 : decode cX5_carry 15 = .ok (.iload_n 2, 1) := dq_28 (by decide +kernel)
theorem dX5_carry_16 : decode cX5_carry 16 = .ok (.iastore, 1) := dq_79 (by decide +kernel)
theorem dX5_carry_17 : decode cX5_carry 17 = .ok (.aload_n 0, 1) := dq_42 (by decide +kernel)
theorem dX5_carry_18 : decode cX5_carry 18 = .ok (.getfield 15, 3) := dq_180 (by decide +kernel)
theorem dX5_carry_21 : decode cX5_carry 21 = .ok (.iload_n 1, 1) := dq_27 (by decide +kernel)
theorem dX5_carry_22 : decode cX5_carry 22 = .ok (.iload_n 3, 1) := dq_29 (by decide +kernel)
theorem dX5_carry_23 : decode cX5_carry 23 = .ok (.iastore, 1) := dq_79 (by decide +kernel)
theorem dX5_carry_24 : decode cX5_carry 24 = .ok (.aload_n 0, 1) := dq_42 (by decide +kernel)
theorem dX5_carry_25 : decode cX5_carry 25 = .ok (.getfield 18, 3) := dq_180 (by decide +kernel)
theorem dX5_carry_28 : decode cX5_carry 28 = .ok (.iload_n 1, 1) := dq_27 (by decide +kernel)
theorem dX5_carry_29 : decode cX5_carry 29 = .ok (.iload 4, 2) := dq_21 (by decide +kernel)
theorem dX5_carry_31 : decode cX5_carry 31 = .ok (.iastore, 1) := dq_79 (by decide +kernel)
theorem dX5_carry_32 : decode cX5_carry 32 = .ok (.aload_n 0, 1) := dq_42 (by decide +kernel)
theorem dX5_carry_33 : decode cX5_carry 33 = .ok (.getfield 21, 3) := dq_180 (by decide +kernel)
theorem dX5_carry_36 : decode cX5_carry 36 = .ok (.iload_n 1, 1) := dq_27 (by decide +kernel)
theorem dX5_carry_37 : decode cX5_carry 37 = .ok (.iload 5, 2) := dq_21 (by decide +kernel)
theorem dX5_carry_39 : decode cX5_carry 39 = .ok (.iastore, 1) := dq_79 (by decide +kernel)
theorem dX5_carry_40 : decode cX5_carry 40 = .ok (.return_, 1) := dq_177 (by decide +kernel)
theorem dX5_comeBack_0 : decode cX5_comeBack 0 = .ok (.aload_n 0, 1) := dq_42 (by decide +kernel)
theorem dX5_comeBack_1 : decode cX5_comeBack 1 = .ok (.iconst 2, 1) := dq_5 (by decide +kernel)
theorem dX5_comeBack_2 : decode cX5_comeBack 2 = .ok (.putfield 37, 3) := dq_181 (by decide +kernel)
theorem dX5_comeBack_5 : decode cX5_comeBack 5 = .ok (.aload_n 0, 1) := dq_42 (by decide +kernel)
theorem dX5_comeBack_6 : decode cX5_comeBack 6 = .ok (.iload_n 1, 1) := dq_27 (by decide +kernel)
theorem dX5_comeBack_7 : decode cX5_comeBack 7 = .ok (.aload_n 0, 1) := dq_42 (by decide +kernel)
theorem dX5_comeBack_8 : decode cX5_comeBack 8 = .ok (.getfield 40, 3) := dq_180 (by decide +kernel)
theorem dX5_comeBack_11 : decode cX5_comeBack 11 = .ok (.isub, 1) := dq_100 (by decide +kernel)
theorem dX5_comeBack_12 : decode cX5_comeBack 12 = .ok (.putfield 43, 3) := dq_181 (by decide +kernel)
theorem dX5_comeBack_15 : decode cX5_comeBack 15 = .ok (.return_, 1) := dq_177 (by decide +kernel)
theorem dX5_daysSince_0 : decode cX5_daysSince 0 = .ok (.aload_n 0, 1) := dq_42 (by decide +kernel)
theorem dX5_daysSince_1 : decode cX5_daysSince 1 = .ok (.iload_n 1, 1) := dq_27 (by decide +kernel)
theorem dX5_daysSince_2 : decode cX5_daysSince 2 = .ok (.iconst 0, 1) := dq_3 (by decide +kernel)
theorem dX5_daysSince_3 : decode cX5_daysSince 3 = .ok (.invokevirtual 46, 3) := dq_182 (by decide +kernel)
theorem dX5_daysSince_6 : decode cX5_daysSince 6 = .ok (.ifCond .eq 17, 3) := dq_153 (by decide +kernel)
theorem dX5_daysSince_9 : decode cX5_daysSince 9 = .ok (.aload_n 0, 1) := dq_42 (by decide +kernel)
theorem dX5_daysSince_10 : decode cX5_daysSince 10 = .ok (.getfield 27, 3) := dq_180 (by decide +kernel)
theorem dX5_daysSince_13 : decode cX5_daysSince 13 = .ok (.iload_n 1, 1) := dq_27 (by decide +kernel)
theorem dX5_daysSince_14 : decode cX5_daysSince 14 = .ok (.iaload, 1) := dq_46 (by decide +kernel)
theorem dX5_daysSince_15 : decode cX5_daysSince 15 = .ok (.aload_n 0, 1) := dq_42 (by decide +kernel)
theorem dX5_daysSince_16 : decode cX5_daysSince 16 = .ok (.getfield 40, 3) := dq_180 (by decide +kernel)
theorem dX5_daysSince_19 : decode cX5_daysSince 19 = .ok (.isub, 1) := dq_100 (by decide +kernel)
theorem dX5_daysSince_20 : decode cX5_daysSince 20 = .ok (.goto 4, 3) := dq_167 (by decide +kernel)
theorem dX5_daysSince_23 : decode cX5_daysSince 23 = .ok (.iconst 0, 1) := dq_3 (by decide +kernel)
theorem dX5_daysSince_24 : decode cX5_daysSince 24 = .ok (.ireturn, 1) := dq_172 (by decide +kernel)
theorem dX5_endOf_0 : decode cX5_endOf 0 = .ok (.ldc 76, 2) := dq_18 (by decide +kernel)
theorem dX5_endOf_2 : decode cX5_endOf 2 = .ok (.istore_n 3, 1) := dq_62 (by decide +kernel)
theorem dX5_endOf_3 : decode cX5_endOf 3 = .ok (.iconst 0, 1) := dq_3 (by decide +kernel)
theorem dX5_endOf_4 : decode cX5_endOf 4 = .ok (.istore 4, 2) := dq_54 (by decide +kernel)
theorem dX5_endOf_6 : decode cX5_endOf 6 = .ok (.iload 4, 2) := dq_21 (by decide +kernel)
theorem dX5_endOf_8 : decode cX5_endOf 8 = .ok (.iconst 3, 1) := dq_6 (by decide +kernel)
theorem dX5_endOf_9 : decode cX5_endOf 9 = .ok (.if_icmp .ge 35, 3) := dq_162 (by decide +kernel)
theorem dX5_endOf_12 : decode cX5_endOf 12 = .ok (.iload 4, 2) := dq_21 (by decide +kernel)
theorem dX5_endOf_14 : decode cX5_endOf 14 = .ok (.iload_n 2, 1) := dq_28 (by decide +kernel)
theorem dX5_endOf_15 : decode cX5_endOf 15 = .ok (.if_icmp .eq 23, 3) := dq_159 (by decide +kernel)
theorem dX5_endOf_18 : decode cX5_endOf 18 = .ok (.iload_n 3, 1) := dq_29 (by decide +kernel)
theorem dX5_endOf_19 : decode cX5_endOf 19 = .ok (.aload_n 0, 1) := dq_42 (by decide +kernel)
theorem dX5_endOf_20 : decode cX5_endOf 20 = .ok (.iload_n 1, 1) := dq_27 (by decide +kernel)
theorem dX5_endOf_21 : decode cX5_endOf 21 = .ok (.iload 4, 2) := dq_21 (by decide +kernel)
theorem dX5_endOf_23 : decode cX5_endOf 23 = .ok (.invokevirtual 63, 3) := dq_182 (by decide +kernel)
theorem dX5_endOf_26 : decode cX5_endOf 26 = .ok (.aload_n 0, 1) := dq_42 (by decide +kernel)
theorem dX5_endOf_27 : decode cX5_endOf 27 = .ok (.iload_n 1, 1) := dq_27 (by decide +kernel)
theorem dX5_endOf_28 : decode cX5_endOf 28 = .ok (.iload 4, 2) := dq_21 (by decide +kernel)
theorem dX5_endOf_30 : decode cX5_endOf 30 = .ok (.invokevirtual 70, 3) := dq_182 (by decide +kernel)
theorem dX5_endOf_33 : decode cX5_endOf 33 = .ok (.iadd, 1) := dq_96 (by decide +kernel)
theorem dX5_endOf_34 : decode cX5_endOf 34 = .ok (.invokestatic 60, 3) := dq_184 (by decide +kernel)
theorem dX5_endOf_37 : decode cX5_endOf 37 = .ok (.istore_n 3, 1) := dq_62 (by decide +kernel)
theorem dX5_endOf_38 : decode cX5_endOf 38 = .ok (.iinc 4 1, 3) := dq_132 (by decide +kernel)
theorem dX5_endOf_41 : decode cX5_endOf 41 = .ok (.goto (-35), 3) := dq_167 (by decide +kernel)
theorem dX5_endOf_44 : decode cX5_endOf 44 = .ok (.iload_n 3, 1) := dq_29 (by decide +kernel)
theorem dX5_endOf_45 : decode cX5_endOf 45 = .ok (.ireturn, 1) := dq_172 (by decide +kernel)
theorem dX5_isOf_0 : decode cX5_isOf 0 = .ok (.iload_n 1, 1) := dq_27 (by decide +kernel)
theorem dX5_isOf_1 : decode cX5_isOf 1 = .ok (.ifCond .lt 24, 3) := dq_155 (by decide +kernel)
theorem dX5_isOf_4 : decode cX5_isOf 4 = .ok (.iload_n 1, 1) := dq_27 (by decide +kernel)
theorem dX5_isOf_5 : decode cX5_isOf 5 = .ok (.aload_n 0, 1) := dq_42 (by decide +kernel)
theorem dX5_isOf_6 : decode cX5_isOf 6 = .ok (.getfield 33, 3) := dq_180 (by decide +kernel)
theorem dX5_isOf_9 : decode cX5_isOf 9 = .ok (.if_icmp .ge 16, 3) := dq_162 (by decide +kernel)
theorem dX5_isOf_12 : decode cX5_isOf 12 = .ok (.iload_n 2, 1) := dq_28 (by decide +kernel)
theorem dX5_isOf_13 : decode cX5_isOf 13 = .ok (.ifCond .lt 12, 3) := dq_155 (by decide +kernel)
theorem dX5_isOf_16 : decode cX5_isOf 16 = .ok (.iload_n 2, 1) := dq_28 (by decide +kernel)
theorem dX5_isOf_17 : decode cX5_isOf 17 = .ok (.iconst 3, 1) := dq_6 (by decide +kernel)
theorem dX5_isOf_18 : decode cX5_isOf 18 = .ok (.if_icmp .ge 7, 3) := dq_162 (by decide +kernel)
theorem dX5_isOf_21 : decode cX5_isOf 21 = .ok (.iconst 1, 1) := dq_4 (by decide +kernel)
theorem dX5_isOf_22 : decode cX5_isOf 22 = .ok (.goto 4, 3) := dq_167 (by decide +kernel)
theorem dX5_isOf_25 : decode cX5_isOf 25 = .ok (.iconst 0, 1) := dq_3 (by decide +kernel)
theorem dX5_isOf_26 : decode cX5_isOf 26 = .ok (.ireturn, 1) := dq_172 (by decide +kernel)
theorem dX5_leave_0 : decode cX5_leave 0 = .ok (.aload_n 0, 1) := dq_42 (by decide +kernel)
theorem dX5_leave_1 : decode cX5_leave 1 = .ok (.iconst 1, 1) := dq_4 (by decide +kernel)
theorem dX5_leave_2 : decode cX5_leave 2 = .ok (.putfield 37, 3) := dq_181 (by decide +kernel)
theorem dX5_leave_5 : decode cX5_leave 5 = .ok (.aload_n 0, 1) := dq_42 (by decide +kernel)
theorem dX5_leave_6 : decode cX5_leave 6 = .ok (.iload_n 1, 1) := dq_27 (by decide +kernel)
theorem dX5_leave_7 : decode cX5_leave 7 = .ok (.putfield 40, 3) := dq_181 (by decide +kernel)
theorem dX5_leave_10 : decode cX5_leave 10 = .ok (.aload_n 0, 1) := dq_42 (by decide +kernel)
theorem dX5_leave_11 : decode cX5_leave 11 = .ok (.iconst 0, 1) := dq_3 (by decide +kernel)
theorem dX5_leave_12 : decode cX5_leave 12 = .ok (.putfield 33, 3) := dq_181 (by decide +kernel)
theorem dX5_leave_15 : decode cX5_leave 15 = .ok (.return_, 1) := dq_177 (by decide +kernel)
theorem dX5_mayBeSighted_0 : decode cX5_mayBeSighted 0 = .ok (.aload_n 0, 1) := dq_42 (by decide +kernel)
theorem dX5_mayBeSighted_1 : decode cX5_mayBeSighted 1 = .ok (.getfield 37, 3) := dq_180 (by decide +kernel)
theorem dX5_mayBeSighted_4 : decode cX5_mayBeSighted 4 = .ok (.ifCond .ne 5, 3) := dq_154 (by decide +kernel)
theorem dX5_mayBeSighted_7 : decode cX5_mayBeSighted 7 = .ok (.iconst 1, 1) := dq_4 (by decide +kernel)
theorem dX5_mayBeSighted_8 : decode cX5_mayBeSighted 8 = .ok (.ireturn, 1) := dq_172 (by decide +kernel)
theorem dX5_mayBeSighted_9 : decode cX5_mayBeSighted 9 = .ok (.iload_n 1, 1) := dq_27 (by decide +kernel)
theorem dX5_mayBeSighted_10 : decode cX5_mayBeSighted 10 = .ok (.aload_n 0, 1) := dq_42 (by decide +kernel)
theorem dX5_mayBeSighted_11 : decode cX5_mayBeSighted 11 = .ok (.getfield 40, 3) := dq_180 (by decide +kernel)
theorem dX5_mayBeSighted_14 : decode cX5_mayBeSighted 14 = .ok (.if_icmp .le 29, 3) := dq_164 (by decide +kernel)
theorem dX5_mayBeSighted_17 : decode cX5_mayBeSighted 17 = .ok (.aload_n 0, 1) := dq_42 (by decide +kernel)
theorem dX5_mayBeSighted_18 : decode cX5_mayBeSighted 18 = .ok (.getfield 33, 3) := dq_180 (by decide +kernel)
theorem dX5_mayBeSighted_21 : decode cX5_mayBeSighted 21 = .ok (.ifCond .eq 18, 3) := dq_153 (by decide +kernel)
theorem dX5_mayBeSighted_24 : decode cX5_mayBeSighted 24 = .ok (.iload_n 1, 1) := dq_27 (by decide +kernel)
theorem dX5_mayBeSighted_25 : decode cX5_mayBeSighted 25 = .ok (.aload_n 0, 1) := dq_42 (by decide +kernel)
theorem dX5_mayBeSighted_26 : decode cX5_mayBeSighted 26 = .ok (.getfield 27, 3) := dq_180 (by decide +kernel)
theorem dX5_mayBeSighted_29 : decode cX5_mayBeSighted 29 = .ok (.aload_n 0, 1) := dq_42 (by decide +kernel)
theorem dX5_mayBeSighted_30 : decode cX5_mayBeSighted 30 = .ok (.getfield 33, 3) := dq_180 (by decide +kernel)
theorem dX5_mayBeSighted_33 : decode cX5_mayBeSighted 33 = .ok (.iconst 1, 1) := dq_4 (by decide +kernel)
theorem dX5_mayBeSighted_34 : decode cX5_mayBeSighted 34 = .ok (.isub, 1) := dq_100 (by decide +kernel)
theorem dX5_mayBeSighted_35 : decode cX5_mayBeSighted 35 = .ok (.iaload, 1) := dq_46 (by decide +kernel)
theorem dX5_mayBeSighted_36 : decode cX5_mayBeSighted 36 = .ok (.if_icmp .lt 7, 3) := dq_161 (by decide +kernel)
theorem dX5_mayBeSighted_39 : decode cX5_mayBeSighted 39 = .ok (.iconst 1, 1) := dq_4 (by decide +kernel)
theorem dX5_mayBeSighted_40 : decode cX5_mayBeSighted 40 = .ok (.goto 4, 3) := dq_167 (by decide +kernel)
theorem dX5_mayBeSighted_43 : decode cX5_mayBeSighted 43 = .ok (.iconst 0, 1) := dq_3 (by decide +kernel)
theorem dX5_mayBeSighted_44 : decode cX5_mayBeSighted 44 = .ok (.ireturn, 1) := dq_172 (by decide +kernel)
theorem dX5_offFromOthers_0 : decode cX5_offFromOthers 0 = .ok (.aload_n 0, 1) := dq_42 (by decide +kernel)
theorem dX5_offFromOthers_1 : decode cX5_offFromOthers 1 = .ok (.iload_n 1, 1) := dq_27 (by decide +kernel)
theorem dX5_offFromOthers_2 : decode cX5_offFromOthers 2 = .ok (.iload_n 2, 1) := dq_28 (by decide +kernel)
theorem dX5_offFromOthers_3 : decode cX5_offFromOthers 3 = .ok (.iconst 1, 1) := dq_4 (by decide +kernel)
theorem dX5_offFromOthers_4 : decode cX5_offFromOthers 4 = .ok (.iadd, 1) := dq_96 (by decide +kernel)
theorem dX5_offFromOthers_5 : decode cX5_offFromOthers 5 = .ok (.iconst 3, 1) := dq_6 (by decide +kernel)
theorem dX5_offFromOthers_6 : decode cX5_offFromOthers 6 = .ok (.irem, 1) := dq_112 (by decide +kernel)
theorem dX5_offFromOthers_7 : decode cX5_offFromOthers 7 = .ok (.invokevirtual 63, 3) := dq_182 (by decide +kernel)
theorem dX5_offFromOthers_10 : decode cX5_offFromOthers 10 = .ok (.aload_n 0, 1) := dq_42 (by decide +kernel)
theorem dX5_offFromOthers_11 : decode cX5_offFromOthers 11 = .ok (.iload_n 1, 1) := dq_27 (by decide +kernel)
theorem dX5_offFromOthers_12 : decode cX5_offFromOthers 12 = .ok (.iload_n 2, 1) := dq_28 (by decide +kernel)
theorem dX5_offFromOthers_13 : decode cX5_offFromOthers 13 = .ok (.iconst 2, 1) := dq_5 (by decide +kernel)
theorem dX5_offFromOthers_14 : decode cX5_offFromOthers 14 = .ok (.iadd, 1) := dq_96 (by decide +kernel)
theorem dX5_offFromOthers_15 : decode cX5_offFromOthers 15 = .ok (.iconst 3, 1) := dq_6 (by decide +kernel)
theorem dX5_offFromOthers_16 : decode cX5_offFromOthers 16 = .ok (.irem, 1) := dq_112 (by decide +kernel)
theorem dX5_offFromOthers_17 : decode cX5_offFromOthers 17 = .ok (.invokevirtual 63, 3) := dq_182 (by decide +kernel)
theorem dX5_offFromOthers_20 : decode cX5_offFromOthers 20 = .ok (.iadd, 1) := dq_96 (by decide +kernel)
theorem dX5_offFromOthers_21 : decode cX5_offFromOthers 21 = .ok (.istore_n 3, 1) := dq_62 (by decide +kernel)
theorem dX5_offFromOthers_22 : decode cX5_offFromOthers 22 = .ok (.aload_n 0, 1) := dq_42 (by decide +kernel)
theorem dX5_offFromOthers_23 : decode cX5_offFromOthers 23 = .ok (.iload_n 1, 1) := dq_27 (by decide +kernel)
theorem dX5_offFromOthers_24 : decode cX5_offFromOthers 24 = .ok (.iload_n 2, 1) := dq_28 (by decide +kernel)
theorem dX5_offFromOthers_25 : decode cX5_offFromOthers 25 = .ok (.invokevirtual 63, 3) := dq_182 (by decide +kernel)
theorem dX5_offFromOthers_28 : decode cX5_offFromOthers 28 = .ok (.iload_n 3, 1) := dq_29 (by decide +kernel)
theorem dX5_offFromOthers_29 : decode cX5_offFromOthers 29 = .ok (.iconst 2, 1) := dq_5 (by decide +kernel)
theorem dX5_offFromOthers_30 : decode cX5_offFromOthers 30 = .ok (.invokestatic 54, 3) := dq_184 (by decide +kernel)
theorem dX5_offFromOthers_33 : decode cX5_offFromOthers 33 = .ok (.isub, 1) := dq_100 (by decide +kernel)
theorem dX5_offFromOthers_34 : decode cX5_offFromOthers 34 = .ok (.invokestatic 66, 3) := dq_184 (by decide +kernel)
theorem dX5_offFromOthers_37 : decode cX5_offFromOthers 37 = .ok (.ireturn, 1) := dq_172 (by decide +kernel)
theorem dX5_timeOf_0 : decode cX5_timeOf 0 = .ok (.aload_n 0, 1) := dq_42 (by decide +kernel)
theorem dX5_timeOf_1 : decode cX5_timeOf 1 = .ok (.iload_n 1, 1) := dq_27 (by decide +kernel)
theorem dX5_timeOf_2 : decode cX5_timeOf 2 = .ok (.iload_n 2, 1) := dq_28 (by decide +kernel)
theorem dX5_timeOf_3 : decode cX5_timeOf 3 = .ok (.invokevirtual 46, 3) := dq_182 (by decide +kernel)
theorem dX5_timeOf_6 : decode cX5_timeOf 6 = .ok (.ifCond .ne 5, 3) := dq_154 (by decide +kernel)
theorem dX5_timeOf_9 : decode cX5_timeOf 9 = .ok (.iconst 0, 1) := dq_3 (by decide +kernel)
theorem dX5_timeOf_10 : decode cX5_timeOf 10 = .ok (.ireturn, 1) := dq_172 (by decide +kernel)
theorem dX5_timeOf_11 : decode cX5_timeOf 11 = .ok (.aload_n 0, 1) := dq_42 (by decide +kernel)
theorem dX5_timeOf_12 : decode cX5_timeOf 12 = .ok (.iload_n 1, 1) := dq_27 (by decide +kernel)
theorem dX5_timeOf_13 : decode cX5_timeOf 13 = .ok (.invokevirtual 50, 3) := dq_182 (by decide +kernel)
theorem dX5_timeOf_16 : decode cX5_timeOf 16 = .ok (.istore_n 3, 1) := dq_62 (by decide +kernel)
theorem dX5_timeOf_17 : decode cX5_timeOf 17 = .ok (.aload_n 0, 1) := dq_42 (by decide +kernel)
theorem dX5_timeOf_18 : decode cX5_timeOf 18 = .ok (.getfield 18, 3) := dq_180 (by decide +kernel)
theorem dX5_timeOf_21 : decode cX5_timeOf 21 = .ok (.iload_n 2, 1) := dq_28 (by decide +kernel)
theorem dX5_timeOf_22 : decode cX5_timeOf 22 = .ok (.iaload, 1) := dq_46 (by decide +kernel)
theorem dX5_timeOf_23 : decode cX5_timeOf 23 = .ok (.iload_n 3, 1) := dq_29 (by decide +kernel)
theorem dX5_timeOf_24 : decode cX5_timeOf 24 = .ok (.imul, 1) := dq_104 (by decide +kernel)
theorem dX5_timeOf_25 : decode cX5_timeOf 25 = .ok (.istore 4, 2) := dq_54 (by decide +kernel)
theorem dX5_timeOf_27 : decode cX5_timeOf 27 = .ok (.aload_n 0, 1) := dq_42 (by decide +kernel)
theorem dX5_timeOf_28 : decode cX5_timeOf 28 = .ok (.getfield 37, 3) := dq_180 (by decide +kernel)
theorem dX5_timeOf_31 : decode cX5_timeOf 31 = .ok (.iconst 2, 1) := dq_5 (by decide +kernel)
theorem dX5_timeOf_32 : decode cX5_timeOf 32 = .ok (.if_icmp .ne 34, 3) := dq_160 (by decide +kernel)
theorem dX5_timeOf_35 : decode cX5_timeOf 35 = .ok (.aload_n 0, 1) := dq_42 (by decide +kernel)
theorem dX5_timeOf_36 : decode cX5_timeOf 36 = .ok (.getfield 43, 3) := dq_180 (by decide +kernel)
theorem dX5_timeOf_39 : decode cX5_timeOf 39 = .ok (.ifCond .le 27, 3) := dq_158 (by decide +kernel)
theorem dX5_timeOf_42 : decode cX5_timeOf 42 = .ok (.iload_n 3, 1) := dq_29 (by decide +kernel)
theorem dX5_timeOf_43 : decode cX5_timeOf 43 = .ok (.aload_n 0, 1) := dq_42 (by decide +kernel)
theorem dX5_timeOf_44 : decode cX5_timeOf 44 = .ok (.getfield 24, 3) := dq_180 (by decide +kernel)
theorem dX5_timeOf_47 : decode cX5_timeOf 47 = .ok (.iload_n 2, 1) := dq_28 (by decide +kernel)
theorem dX5_timeOf_48 : decode cX5_timeOf 48 = .ok (.iaload, 1) := dq_46 (by decide +kernel)
theorem dX5_timeOf_49 : decode cX5_timeOf 49 = .ok (.aload_n 0, 1) := dq_42 (by decide +kernel)
theorem dX5_timeOf_50 : decode cX5_timeOf 50 = .ok (.getfield 15, 3) := dq_180 (by decide +kernel)
theorem dX5_timeOf_53 : decode cX5_timeOf 53 = .ok (.iload_n 2, 1) := dq_28 (by decide +kernel)
theorem dX5_timeOf_54 : decode cX5_timeOf 54 = .ok (.iaload, 1) := dq_46 (by decide +kernel)
theorem dX5_timeOf_55 : decode cX5_timeOf 55 = .ok (.isub, 1) := dq_100 (by decide +kernel)
theorem dX5_timeOf_56 : decode cX5_timeOf 56 = .ok (.imul, 1) := dq_104 (by decide +kernel)
theorem dX5_timeOf_57 : decode cX5_timeOf 57 = .ok (.aload_n 0, 1) := dq_42 (by decide +kernel)
theorem dX5_timeOf_58 : decode cX5_timeOf 58 = .ok (.getfield 43, 3) := dq_180 (by decide +kernel)
theorem dX5_timeOf_61 : decode cX5_timeOf 61 = .ok (.invokestatic 54, 3) := dq_184 (by decide +kernel)
theorem dX5_timeOf_64 : decode cX5_timeOf 64 = .ok (.istore 4, 2) := dq_54 (by decide +kernel)
theorem dX5_timeOf_66 : decode cX5_timeOf 66 = .ok (.aload_n 0, 1) := dq_42 (by decide +kernel)
theorem dX5_timeOf_67 : decode cX5_timeOf 67 = .ok (.getfield 30, 3) := dq_180 (by decide +kernel)
theorem dX5_timeOf_70 : decode cX5_timeOf 70 = .ok (.iconst 3, 1) := dq_6 (by decide +kernel)
theorem dX5_timeOf_71 : decode cX5_timeOf 71 = .ok (.iload_n 1, 1) := dq_27 (by decide +kernel)
theorem dX5_timeOf_72 : decode cX5_timeOf 72 = .ok (.imul, 1) := dq_104 (by decide +kernel)
theorem dX5_timeOf_73 : decode cX5_timeOf 73 = .ok (.iload_n 2, 1) := dq_28 (by decide +kernel)
theorem dX5_timeOf_74 : decode cX5_timeOf 74 = .ok (.iadd, 1) := dq_96 (by decide +kernel)
theorem dX5_timeOf_75 : decode cX5_timeOf 75 = .ok (.iaload, 1) := dq_46 (by decide +kernel)
theorem dX5_timeOf_76 : decode cX5_timeOf 76 = .ok (.aload_n 0, 1) := dq_42 (by decide +kernel)
theorem dX5_timeOf_77 : decode cX5_timeOf 77 = .ok (.getfield 15, 3) := dq_180 (by decide +kernel)
theorem dX5_timeOf_80 : decode cX5_timeOf 80 = .ok (.iload_n 2, 1) := dq_28 (by decide +kernel)
theorem dX5_timeOf_81 : decode cX5_timeOf 81 = .ok (.iaload, 1) := dq_46 (by decide +kernel)
theorem dX5_timeOf_82 : decode cX5_timeOf 82 = .ok (.isub, 1) := dq_100 (by decide +kernel)
theorem dX5_timeOf_83 : decode cX5_timeOf 83 = .ok (.iload 4, 2) := dq_21 (by decide +kernel)
theorem dX5_timeOf_85 : decode cX5_timeOf 85 = .ok (.isub, 1) := dq_100 (by decide +kernel)
theorem dX5_timeOf_86 : decode cX5_timeOf 86 = .ok (.ireturn, 1) := dq_172 (by decide +kernel)
theorem dX5_widthOf_0 : decode cX5_widthOf 0 = .ok (.aload_n 0, 1) := dq_42 (by decide +kernel)
theorem dX5_widthOf_1 : decode cX5_widthOf 1 = .ok (.iload_n 1, 1) := dq_27 (by decide +kernel)
theorem dX5_widthOf_2 : decode cX5_widthOf 2 = .ok (.iload_n 2, 1) := dq_28 (by decide +kernel)
theorem dX5_widthOf_3 : decode cX5_widthOf 3 = .ok (.invokevirtual 46, 3) := dq_182 (by decide +kernel)
theorem dX5_widthOf_6 : decode cX5_widthOf 6 = .ok (.ifCond .ne 5, 3) := dq_154 (by decide +kernel)
theorem dX5_widthOf_9 : decode cX5_widthOf 9 = .ok (.iconst 0, 1) := dq_3 (by decide +kernel)
theorem dX5_widthOf_10 : decode cX5_widthOf 10 = .ok (.ireturn, 1) := dq_172 (by decide +kernel)
theorem dX5_widthOf_11 : decode cX5_widthOf 11 = .ok (.aload_n 0, 1) := dq_42 (by decide +kernel)
theorem dX5_widthOf_12 : decode cX5_widthOf 12 = .ok (.iload_n 1, 1) := dq_27 (by decide +kernel)
theorem dX5_widthOf_13 : decode cX5_widthOf 13 = .ok (.invokevirtual 50, 3) := dq_182 (by decide +kernel)
theorem dX5_widthOf_16 : decode cX5_widthOf 16 = .ok (.istore_n 3, 1) := dq_62 (by decide +kernel)
theorem dX5_widthOf_17 : decode cX5_widthOf 17 = .ok (.aload_n 0, 1) := dq_42 (by decide +kernel)
theorem dX5_widthOf_18 : decode cX5_widthOf 18 = .ok (.getfield 21, 3) := dq_180 (by decide +kernel)
theorem dX5_widthOf_21 : decode cX5_widthOf 21 = .ok (.iload_n 2, 1) := dq_28 (by decide +kernel)
theorem dX5_widthOf_22 : decode cX5_widthOf 22 = .ok (.iaload, 1) := dq_46 (by decide +kernel)
theorem dX5_widthOf_23 : decode cX5_widthOf 23 = .ok (.aload_n 0, 1) := dq_42 (by decide +kernel)
theorem dX5_widthOf_24 : decode cX5_widthOf 24 = .ok (.getfield 37, 3) := dq_180 (by decide +kernel)
theorem dX5_widthOf_27 : decode cX5_widthOf 27 = .ok (.iconst 2, 1) := dq_5 (by decide +kernel)
theorem dX5_widthOf_28 : decode cX5_widthOf 28 = .ok (.if_icmp .ne 16, 3) := dq_160 (by decide +kernel)
theorem dX5_widthOf_31 : decode cX5_widthOf 31 = .ok (.iload_n 3, 1) := dq_29 (by decide +kernel)
theorem dX5_widthOf_32 : decode cX5_widthOf 32 = .ok (.aload_n 0, 1) := dq_42 (by decide +kernel)
theorem dX5_widthOf_33 : decode cX5_widthOf 33 = .ok (.getfield 43, 3) := dq_180 (by decide +kernel)
theorem dX5_widthOf_36 : decode cX5_widthOf 36 = .ok (.iload_n 3, 1) := dq_29 (by decide +kernel)
theorem dX5_widthOf_37 : decode cX5_widthOf 37 = .ok (.isub, 1) := dq_100 (by decide +kernel)
theorem dX5_widthOf_38 : decode cX5_widthOf 38 = .ok (.invokestatic 60, 3) := dq_184 (by decide +kernel)
theorem dX5_widthOf_41 : decode cX5_widthOf 41 = .ok (.goto 4, 3) := dq_167 (by decide +kernel)
theorem dX5_widthOf_44 : decode cX5_widthOf 44 = .ok (.iload_n 3, 1) := dq_29 (by decide +kernel)
theorem dX5_widthOf_45 : decode cX5_widthOf 45 = .ok (.imul, 1) := dq_104 (by decide +kernel)
theorem dX5_widthOf_46 : decode cX5_widthOf 46 = .ok (.iconst 5, 1) := dq_8 (by decide +kernel)
theorem dX5_widthOf_47 : decode cX5_widthOf 47 = .ok (.iadd, 1) := dq_96 (by decide +kernel)
theorem dX5_widthOf_48 : decode cX5_widthOf 48 = .ok (.ireturn, 1) := dq_172 (by decide +kernel)
end
section
theorem dX6_add_0 : decode cX6_add 0 = .ok (.aload_n 0, 1) := dq_42 (by decide +kernel)
theorem dX6_add_1 : decode cX6_add 1 = .ok (.getfield 15, 3) := dq_180 (by decide +kernel)
theorem dX6_add_4 : decode cX6_add 4 = .ok (.bipush 120, 2) := dq_16 (by decide +kernel)
theorem dX6_add_6 : decode cX6_add 6 = .ok (.if_icmp .ge 23, 3) := dq_162 (by decide +kernel)
theorem dX6_add_9 : decode cX6_add 9 = .ok (.aload_n 0, 1) := dq_42 (by decide +kernel)
theorem dX6_add_10 : decode cX6_add 10 = .ok (.getfield 9, 3) := dq_180 (by decide +kernel)
theorem dX6_add_13 : decode cX6_add 13 = .ok (.aload_n 0, 1) := dq_42 (by decide +kernel)
theorem dX6_add_14 : decode cX6_add 14 = .ok (.getfield 15, 3) := dq_180 (by decide +kernel)
theorem dX6_add_17 : decode cX6_add 17 = .ok (.iload_n 1, 1) := dq_27 (by decide +kernel)
theorem dX6_add_18 : decode cX6_add 18 = .ok (.iastore, 1) := dq_79 (by decide +kernel)
theorem dX6_add_19 : decode cX6_add 19 = .ok (.aload_n 0, 1) := dq_42 (by decide +kernel)
theorem dX6_add_20 : decode cX6_add 20 = .ok (.dup, 1) := dq_89 (by decide +kernel)
theorem dX6_add_21 : decode cX6_add 21 = .ok (.getfield 15, 3) := dq_180 (by decide +kernel)
theorem dX6_add_24 : decode cX6_add 24 = .ok (.iconst 1, 1) := dq_4 (by decide +kernel)
theorem dX6_add_25 : decode cX6_add 25 = .ok (.iadd, 1) := dq_96 (by decide +kernel)
theorem dX6_add_26 : decode cX6_add 26 = .ok (.putfield 15, 3) := dq_181 (by decide +kernel)
theorem dX6_add_29 : decode cX6_add 29 = .ok (.return_, 1) := dq_177 (by decide +kernel)
theorem dX6_isDigit_0 : decode cX6_isDigit 0 = .ok (.iload_n 0, 1) := dq_26 (by decide +kernel)
theorem dX6_isDigit_1 : decode cX6_isDigit 1 = .ok (.bipush 48, 2) := dq_16 (by decide +kernel)
theorem dX6_isDigit_3 : decode cX6_isDigit 3 = .ok (.if_icmp .lt 13, 3) := dq_161 (by decide +kernel)
theorem dX6_isDigit_6 : decode cX6_isDigit 6 = .ok (.iload_n 0, 1) := dq_26 (by decide +kernel)
theorem dX6_isDigit_7 : decode cX6_isDigit 7 = .ok (.bipush 57, 2) := dq_16 (by decide +kernel)
theorem dX6_isDigit_9 : decode cX6_isDigit 9 = .ok (.if_icmp .gt 7, 3) := dq_163 (by decide +kernel)
theorem dX6_isDigit_12 : decode cX6_isDigit 12 = .ok (.iconst 1, 1) := dq_4 (by decide +kernel)
theorem dX6_isDigit_13 : decode cX6_isDigit 13 = .ok (.goto 4, 3) := dq_167 (by decide +kernel)
theorem dX6_isDigit_16 : decode cX6_isDigit 16 = .ok (.iconst 0, 1) := dq_3 (by decide +kernel)
theorem dX6_isDigit_17 : decode cX6_isDigit 17 = .ok (.ireturn, 1) := dq_172 (by decide +kernel)
theorem dX6_isLetter_0 : decode cX6_isLetter 0 = .ok (.iload_n 0, 1) := dq_26 (by decide +kernel)
theorem dX6_isLetter_1 : decode cX6_isLetter 1 = .ok (.bipush 97, 2) := dq_16 (by decide +kernel)
theorem dX6_isLetter_3 : decode cX6_isLetter 3 = .ok (.if_icmp .lt 13, 3) := dq_161 (by decide +kernel)
theorem dX6_isLetter_6 : decode cX6_isLetter 6 = .ok (.iload_n 0, 1) := dq_26 (by decide +kernel)
theorem dX6_isLetter_7 : decode cX6_isLetter 7 = .ok (.bipush 122, 2) := dq_16 (by decide +kernel)
theorem dX6_isLetter_9 : decode cX6_isLetter 9 = .ok (.if_icmp .gt 7, 3) := dq_163 (by decide +kernel)
theorem dX6_isLetter_12 : decode cX6_isLetter 12 = .ok (.iconst 1, 1) := dq_4 (by decide +kernel)
theorem dX6_isLetter_13 : decode cX6_isLetter 13 = .ok (.goto 4, 3) := dq_167 (by decide +kernel)
theorem dX6_isLetter_16 : decode cX6_isLetter 16 = .ok (.iconst 0, 1) := dq_3 (by decide +kernel)
theorem dX6_isLetter_17 : decode cX6_isLetter 17 = .ok (.ireturn, 1) := dq_172 (by decide +kernel)
theorem dX6_isSign_0 : decode cX6_isSign 0 = .ok (.iload_n 0, 1) := dq_26 (by decide +kernel)
theorem dX6_isSign_1 : decode cX6_isSign 1 = .ok (.tableswitch 109 40 62 #[107, 107, 107, 107, 109, 107, 109, 107, 109, 109, 109, 109, 109, 109, 109, 109, 109, 109, 109, 109, 107, 107, 107], 107) := by decide +kernel
theorem dX6_isSign_108 : decode cX6_isSign 108 = .ok (.iconst 1, 1) := dq_4 (by decide +kernel)
theorem dX6_isSign_109 : decode cX6_isSign 109 = .ok (.ireturn, 1) := dq_172 (by decide +kernel)
theorem dX6_isSign_110 : decode cX6_isSign 110 = .ok (.iconst 0, 1) := dq_3 (by decide +kernel)
theorem dX6_isSign_111 : decode cX6_isSign 111 = .ok (.ireturn, 1) := dq_172 (by decide +kernel)
theorem dX6_takeDigits_0 : decode cX6_takeDigits 0 = .ok (.aload_n 0, 1) := dq_42 (by decide +kernel)
theorem dX6_takeDigits_1 : decode cX6_takeDigits 1 = .ok (.iconst 0, 1) := dq_3 (by decide +kernel)
theorem dX6_takeDigits_2 : decode cX6_takeDigits 2 = .ok (.putfield 41, 3) := dq_181 (by decide +kernel)
theorem dX6_takeDigits_5 : decode cX6_takeDigits 5 = .ok (.aload_n 0, 1) := dq_42 (by decide +kernel)
theorem dX6_takeDigits_6 : decode cX6_takeDigits 6 = .ok (.getfield 32, 3) := dq_180 (by decide +kernel)
theorem dX6_takeDigits_9 : decode cX6_takeDigits 9 = .ok (.aload_n 0, 1) := dq_42 (by decide +kernel)
theorem dX6_takeDigits_10 : decode cX6_takeDigits 10 = .ok (.getfield 15, 3) := dq_180 (by decide +kernel)
theorem dX6_takeDigits_13 : decode cX6_takeDigits 13 = .ok (.if_icmp .ge 55, 3) := dq_162 (by decide +kernel)
theorem dX6_takeDigits_16 : decode cX6_takeDigits 16 = .ok (.aload_n 0, 1) := dq_42 (by decide +kernel)
theorem dX6_takeDigits_17 : decode cX6_takeDigits 17 = .ok (.getfield 9, 3) := dq_180 (by decide +kernel)
theorem dX6_takeDigits_20 : decode cX6_takeDigits 20 = .ok (.aload_n 0, 1) := dq_42 (by decide +kernel)
theorem dX6_takeDigits_21 : decode cX6_takeDigits 21 = .ok (.getfield 32, 3) := dq_180 (by decide +kernel)
theorem dX6_takeDigits_24 : decode cX6_takeDigits 24 = .ok (.iaload, 1) := dq_46 (by decide +kernel)
theorem dX6_takeDigits_25 : decode cX6_takeDigits 25 = .ok (.invokestatic 83, 3) := dq_184 (by decide +kernel)
theorem dX6_takeDigits_28 : decode cX6_takeDigits 28 = .ok (.ifCond .eq 40, 3) := dq_153 (by decide +kernel)
theorem dX6_takeDigits_31 : decode cX6_takeDigits 31 = .ok (.aload_n 0, 1) := dq_42 (by decide +kernel)
theorem dX6_takeDigits_32 : decode cX6_takeDigits 32 = .ok (.bipush 10, 2) := dq_16 (by decide +kernel)
theorem dX6_takeDigits_34 : decode cX6_takeDigits 34 = .ok (.aload_n 0, 1) := dq_42 (by decide +kernel)
theorem dX6_takeDigits_35 : decode cX6_takeDigits 35 = .ok (.getfield 41, 3) := dq_180 (by decide +kernel)
theorem dX6_takeDigits_38 : decode cX6_takeDigits 38 = .ok (.imul, 1) := dq_104 (by decide +kernel)
theorem dX6_takeDigits_39 : decode cX6_takeDigits 39 = .ok (.aload_n 0, 1) := dq_42 (by decide +kernel)
theorem dX6_takeDigits_40 : decode cX6_takeDigits 40 = .ok (.getfield 9, 3) := dq_180 (by decide +kernel)
theorem dX6_takeDigits_43 : decode cX6_takeDigits 43 = .ok (.aload_n 0, 1) := dq_42 (by decide +kernel)
theorem dX6_takeDigits_44 : decode cX6_takeDigits 44 = .ok (.getfield 32, 3) := dq_180 (by decide +kernel)
theorem dX6_takeDigits_47 : decode cX6_takeDigits 47 = .ok (.iaload, 1) := dq_46 (by decide +kernel)
theorem dX6_takeDigits_48 : decode cX6_takeDigits 48 = .ok (.iadd, 1) := dq_96 (by decide +kernel)
theorem dX6_takeDigits_49 : decode cX6_takeDigits 49 = .ok (.bipush 48, 2) := dq_16 (by decide +kernel)
theorem dX6_takeDigits_51 : decode cX6_takeDigits 51 = .ok (.isub, 1) := dq_100 (by decide +kernel)
theorem dX6_takeDigits_52 : decode cX6_takeDigits 52 = .ok (.putfield 41, 3) := dq_181 (by decide +kernel)
theorem dX6_takeDigits_55 : decode cX6_takeDigits 55 = .ok (.aload_n 0, 1) := dq_42 (by decide +kernel)
theorem dX6_takeDigits_56 : decode cX6_takeDigits 56 = .ok (.dup, 1) := dq_89 (by decide +kernel)
theorem dX6_takeDigits_57 : decode cX6_takeDigits 57 = .ok (.getfield 32, 3) := dq_180 (by decide +kernel)
theorem dX6_takeDigits_60 : decode cX6_takeDigits 60 = .ok (.iconst 1, 1) := dq_4 (by decide +kernel)
theorem dX6_takeDigits_61 : decode cX6_takeDigits 61 = .ok (.iadd, 1) := dq_96 (by decide +kernel)
theorem dX6_takeDigits_62 : decode cX6_takeDigits 62 = .ok (.putfield 32, 3) := dq_181 (by decide +kernel)
theorem dX6_takeDigits_65 : decode cX6_takeDigits 65 = .ok (.goto (-60), 3) := dq_167 (by decide +kernel)
theorem dX6_takeDigits_68 : decode cX6_takeDigits 68 = .ok (.aload_n 0, 1) := dq_42 (by decide +kernel)
theorem dX6_takeDigits_69 : decode cX6_takeDigits 69 = .ok (.aload_n 0, 1) := dq_42 (by decide +kernel)
theorem dX6_takeDigits_70 : decode cX6_takeDigits 70 = .ok (.getfield 32, 3) := dq_180 (by decide +kernel)
theorem dX6_takeDigits_73 : decode cX6_takeDigits 73 = .ok (.aload_n 0, 1) := dq_42 (by decide +kernel)
theorem dX6_takeDigits_74 : decode cX6_takeDigits 74 = .ok (.getfield 38, 3) := dq_180 (by decide +kernel)
theorem dX6_takeDigits_77 : decode cX6_takeDigits 77 = .ok (.isub, 1) := dq_100 (by decide +kernel)
theorem dX6_takeDigits_78 : decode cX6_takeDigits 78 = .ok (.iconst 5, 1) := dq_8 (by decide +kernel)
theorem dX6_takeDigits_79 : decode cX6_takeDigits 79 = .ok (.if_icmp .gt 7, 3) := dq_163 (by decide +kernel)
theorem dX6_takeDigits_82 : decode cX6_takeDigits 82 = .ok (.iconst 2, 1) := dq_5 (by decide +kernel)
theorem dX6_takeDigits_83 : decode cX6_takeDigits 83 = .ok (.goto 4, 3) := dq_167 (by decide +kernel)
theorem dX6_takeDigits_86 : decode cX6_takeDigits 86 = .ok (.iconst 1, 1) := dq_4 (by decide +kernel)
theorem dX6_takeDigits_87 : decode cX6_takeDigits 87 = .ok (.putfield 35, 3) := dq_181 (by decide +kernel)
theorem dX6_takeDigits_90 : decode cX6_takeDigits 90 = .ok (.return_, 1) := dq_177 (by decide +kernel)
end
section
set_option maxHeartbeats 4000000 in
set_option maxRecDepth 100000 in
theorem g_X8_isDay (l : Launch) (D : va_G) (E : Nat → Nat) (p0 : Int32)  : Met l yX8_isDay (wl yX8_isDay cX8_isDay 1 (some .boolean)) (RM 0 0 0) (rd_P D E [.int p0] ([] : va_W)) (rd_Q (fun r => ((r = 1 ∧ (0 ≤ p0.toInt ∧ p0.toInt ≤ 399)) ∨ (r = 0 ∧ ¬ (0 ≤ p0.toInt ∧ p0.toInt ≤ 399))))) 0 0 (fun _ => False) := by
  refine Met.ofW (cc := cX8_isDay) (maxL := 1) (ret := (some .boolean)) (by decide) rfl ?_
  intro p e s m args below meth c s₁ B hml hv
  obtain ⟨rfl, hP, hK⟩ := hv
  have hx := B.exec; have hb := B.bytes; have hr := B.returns
  have hts := atoms_spec (ws := wl yX8_isDay cX8_isDay 1 (some .boolean)) B.pre
  have htb : ∀ w ∈ tb, w.before _ s = true := fun w h => hts w (List.mem_cons_of_mem _ h)
  have hown : s.vm.findClass RX8 = some m.cls := findClass_of_methodNamed B.named
  have hlocks := B.notSynchronized
  have hP : va_P D vwCl ([] : va_W) s.heap := hP
  have hl := lv_entry ([.int p0]) (n := 1) (Nat.le_of_ble_eq_true rfl)
  rw [lg_entry_eq]
  generalize (lg_sl ([.int p0]) ++ List.replicate (1 - (lg_sl ([.int p0])).length) Slot.unset).toArray = ls at hl ⊢
  have hl : lv_has ls 1 [(0, .int p0)] := hl
  have lo_p0 := i_lo p0; have hi_p0 := i_hi p0
  refine lv_iload_n hx hb dX8_isDay_0 rfl (lv_at hl 0 rfl) ?_
  refine lv_if_lt (tgt := 15) hx hb dX8_isDay_1 (by decide) (fun c_1 => ?_) (fun c_1 => ?_)
  ·
    have ic_1 : p0.toInt < 0 := by first | exact (g_lt rfl t_0).mp c_1 | (have h := mt (g_le t_0 rfl).mpr c_1; omega)
    clear c_1
    refine lv_iconst (v := 0) hx hb dX8_isDay_15 (by decide) ?_
    exact W.zret (v := 0) hx hb hr rfl (fun t ht hW => ⟨0, rfl, by first | exact Or.inr ⟨rfl, by omega⟩ | (exfalso; omega), ht⟩) (fun q h => by cases h) dX8_isDay_16
  ·
    have ic_1 : 0 ≤ p0.toInt := by first | exact (g_le t_0 rfl).mp c_1 | (have h := mt (g_lt rfl t_0).mpr c_1; omega)
    clear c_1
    refine lv_iload_n hx hb dX8_isDay_4 rfl (lv_at hl 0 rfl) ?_
    refine lv_sipush (v := 400) hx hb dX8_isDay_5 (by decide) ?_
    refine lv_icmp_ge (tgt := 15) hx hb dX8_isDay_8 (by decide) (fun c_2 => ?_) (fun c_2 => ?_)
    ·
      have ic_2 : 400 ≤ p0.toInt := by first | exact (g_le t_400 rfl).mp c_2 | (have h := mt (g_lt rfl t_400).mpr c_2; omega)
      clear c_2
      refine lv_iconst (v := 0) hx hb dX8_isDay_15 (by decide) ?_
      exact W.zret (v := 0) hx hb hr rfl (fun t ht hW => ⟨0, rfl, by first | exact Or.inr ⟨rfl, by omega⟩ | (exfalso; omega), ht⟩) (fun q h => by cases h) dX8_isDay_16
    ·
      have ic_2 : p0.toInt < 400 := by first | exact (g_lt rfl t_400).mp c_2 | (have h := mt (g_le t_400 rfl).mpr c_2; omega)
      clear c_2
      refine lv_iconst (v := 1) hx hb dX8_isDay_11 (by decide) ?_
      refine lv_goto (tgt := 16) hx hb dX8_isDay_12 (by decide) ?_
      exact W.zret (v := 1) hx hb hr rfl (fun t ht hW => ⟨1, rfl, by first | exact Or.inl ⟨rfl, by omega⟩ | (exfalso; omega), ht⟩) (fun q h => by cases h) dX8_isDay_16
set_option maxHeartbeats 4000000 in
set_option maxRecDepth 100000 in
theorem g_X8_isPlace (l : Launch) (D : va_G) (E : Nat → Nat) (p0 : Int32)  : Met l yX8_isPlace (wl yX8_isPlace cX8_isPlace 1 (some .boolean)) (RM 0 0 0) (rd_P D E [.int p0] ([] : va_W)) (rd_Q (fun r => ((r = 1 ∧ (0 ≤ p0.toInt ∧ p0.toInt ≤ 15)) ∨ (r = 0 ∧ ¬ (0 ≤ p0.toInt ∧ p0.toInt ≤ 15))))) 0 0 (fun _ => False) := by
  refine Met.ofW (cc := cX8_isPlace) (maxL := 1) (ret := (some .boolean)) (by decide) rfl ?_
  intro p e s m args below meth c s₁ B hml hv
  obtain ⟨rfl, hP, hK⟩ := hv
  have hx := B.exec; have hb := B.bytes; have hr := B.returns
  have hts := atoms_spec (ws := wl yX8_isPlace cX8_isPlace 1 (some .boolean)) B.pre
  have htb : ∀ w ∈ tb, w.before _ s = true := fun w h => hts w (List.mem_cons_of_mem _ h)
  have hown : s.vm.findClass RX8 = some m.cls := findClass_of_methodNamed B.named
  have hlocks := B.notSynchronized
  have hP : va_P D vwCl ([] : va_W) s.heap := hP
  have hl := lv_entry ([.int p0]) (n := 1) (Nat.le_of_ble_eq_true rfl)
  rw [lg_entry_eq]
  generalize (lg_sl ([.int p0]) ++ List.replicate (1 - (lg_sl ([.int p0])).length) Slot.unset).toArray = ls at hl ⊢
  have hl : lv_has ls 1 [(0, .int p0)] := hl
  have lo_p0 := i_lo p0; have hi_p0 := i_hi p0
  refine lv_iload_n hx hb dX8_isPlace_0 rfl (lv_at hl 0 rfl) ?_
  refine lv_if_lt (tgt := 14) hx hb dX8_isPlace_1 (by decide) (fun c_1 => ?_) (fun c_1 => ?_)
  ·
    have ic_1 : p0.toInt < 0 := by first | exact (g_lt rfl t_0).mp c_1 | (have h := mt (g_le t_0 rfl).mpr c_1; omega)
    clear c_1
    refine lv_iconst (v := 0) hx hb dX8_isPlace_14 (by decide) ?_
    exact W.zret (v := 0) hx hb hr rfl (fun t ht hW => ⟨0, rfl, by first | exact Or.inr ⟨rfl, by omega⟩ | (exfalso; omega), ht⟩) (fun q h => by cases h) dX8_isPlace_15
  ·
    have ic_1 : 0 ≤ p0.toInt := by first | exact (g_le t_0 rfl).mp c_1 | (have h := mt (g_lt rfl t_0).mpr c_1; omega)
    clear c_1
    refine lv_iload_n hx hb dX8_isPlace_4 rfl (lv_at hl 0 rfl) ?_
    refine lv_bipush (v := 16) hx hb dX8_isPlace_5 (by decide) ?_
    refine lv_icmp_ge (tgt := 14) hx hb dX8_isPlace_7 (by decide) (fun c_2 => ?_) (fun c_2 => ?_)
    ·
      have ic_2 : 16 ≤ p0.toInt := by first | exact (g_le t_16 rfl).mp c_2 | (have h := mt (g_lt rfl t_16).mpr c_2; omega)
      clear c_2
      refine lv_iconst (v := 0) hx hb dX8_isPlace_14 (by decide) ?_
      exact W.zret (v := 0) hx hb hr rfl (fun t ht hW => ⟨0, rfl, by first | exact Or.inr ⟨rfl, by omega⟩ | (exfalso; omega), ht⟩) (fun q h => by cases h) dX8_isPlace_15
    ·
      have ic_2 : p0.toInt < 16 := by first | exact (g_lt rfl t_16).mp c_2 | (have h := mt (g_le t_16 rfl).mpr c_2; omega)
      clear c_2
      refine lv_iconst (v := 1) hx hb dX8_isPlace_10 (by decide) ?_
      refine lv_goto (tgt := 15) hx hb dX8_isPlace_11 (by decide) ?_
      exact W.zret (v := 1) hx hb hr rfl (fun t ht hW => ⟨1, rfl, by first | exact Or.inl ⟨rfl, by omega⟩ | (exfalso; omega), ht⟩) (fun q h => by cases h) dX8_isPlace_15
set_option maxHeartbeats 4000000 in
set_option maxRecDepth 100000 in
theorem g_X8_isShip (l : Launch) (D : va_G) (E : Nat → Nat) (p0 : Int32)  : Met l yX8_isShip (wl yX8_isShip cX8_isShip 1 (some .boolean)) (RM 0 0 0) (rd_P D E [.int p0] ([] : va_W)) (rd_Q (fun r => ((r = 1 ∧ (0 ≤ p0.toInt ∧ p0.toInt ≤ 4)) ∨ (r = 0 ∧ ¬ (0 ≤ p0.toInt ∧ p0.toInt ≤ 4))))) 0 0 (fun _ => False) := by
  refine Met.ofW (cc := cX8_isShip) (maxL := 1) (ret := (some .boolean)) (by decide) rfl ?_
  intro p e s m args below meth c s₁ B hml hv
  obtain ⟨rfl, hP, hK⟩ := hv
  have hx := B.exec; have hb := B.bytes; have hr := B.returns
  have hts := atoms_spec (ws := wl yX8_isShip cX8_isShip 1 (some .boolean)) B.pre
  have htb : ∀ w ∈ tb, w.before _ s = true := fun w h => hts w (List.mem_cons_of_mem _ h)
  have hown : s.vm.findClass RX8 = some m.cls := findClass_of_methodNamed B.named
  have hlocks := B.notSynchronized
  have hP : va_P D vwCl ([] : va_W) s.heap := hP
  have hl := lv_entry ([.int p0]) (n := 1) (Nat.le_of_ble_eq_true rfl)
  rw [lg_entry_eq]
  generalize (lg_sl ([.int p0]) ++ List.replicate (1 - (lg_sl ([.int p0])).length) Slot.unset).toArray = ls at hl ⊢
  have hl : lv_has ls 1 [(0, .int p0)] := hl
  have lo_p0 := i_lo p0; have hi_p0 := i_hi p0
  refine lv_iload_n hx hb dX8_isShip_0 rfl (lv_at hl 0 rfl) ?_
  refine lv_if_lt (tgt := 13) hx hb dX8_isShip_1 (by decide) (fun c_1 => ?_) (fun c_1 => ?_)
  ·
    have ic_1 : p0.toInt < 0 := by first | exact (g_lt rfl t_0).mp c_1 | (have h := mt (g_le t_0 rfl).mpr c_1; omega)
    clear c_1
    refine lv_iconst (v := 0) hx hb dX8_isShip_13 (by decide) ?_
    exact W.zret (v := 0) hx hb hr rfl (fun t ht hW => ⟨0, rfl, by first | exact Or.inr ⟨rfl, by omega⟩ | (exfalso; omega), ht⟩) (fun q h => by cases h) dX8_isShip_14
  ·
    have ic_1 : 0 ≤ p0.toInt := by first | exact (g_le t_0 rfl).mp c_1 | (have h := mt (g_lt rfl t_0).mpr c_1; omega)
    clear c_1
    refine lv_iload_n hx hb dX8_isShip_4 rfl (lv_at hl 0 rfl) ?_
    refine lv_iconst (v := 5) hx hb dX8_isShip_5 (by decide) ?_
    refine lv_icmp_ge (tgt := 13) hx hb dX8_isShip_6 (by decide) (fun c_2 => ?_) (fun c_2 => ?_)
    ·
      have ic_2 : 5 ≤ p0.toInt := by first | exact (g_le t_5 rfl).mp c_2 | (have h := mt (g_lt rfl t_5).mpr c_2; omega)
      clear c_2
      refine lv_iconst (v := 0) hx hb dX8_isShip_13 (by decide) ?_
      exact W.zret (v := 0) hx hb hr rfl (fun t ht hW => ⟨0, rfl, by first | exact Or.inr ⟨rfl, by omega⟩ | (exfalso; omega), ht⟩) (fun q h => by cases h) dX8_isShip_14
    ·
      have ic_2 : p0.toInt < 5 := by first | exact (g_lt rfl t_5).mp c_2 | (have h := mt (g_le t_5 rfl).mpr c_2; omega)
      clear c_2
      refine lv_iconst (v := 1) hx hb dX8_isShip_9 (by decide) ?_
      refine lv_goto (tgt := 14) hx hb dX8_isShip_10 (by decide) ?_
      exact W.zret (v := 1) hx hb hr rfl (fun t ht hW => ⟨1, rfl, by first | exact Or.inl ⟨rfl, by omega⟩ | (exfalso; omega), ht⟩) (fun q h => by cases h) dX8_isShip_14
set_option maxHeartbeats 4000000 in
set_option maxRecDepth 100000 in
theorem g_X8_isKnowledge (l : Launch) (D : va_G) (E : Nat → Nat) (p0 : Int32)  : Met l yX8_isKnowledge (wl yX8_isKnowledge cX8_isKnowledge 1 (some .boolean)) (RM 1 0 0) (rd_P D E [.int p0] ([] : va_W)) (rd_Q (fun r => ((r = 1 ∧ (-1 ≤ p0.toInt ∧ p0.toInt ≤ 399)) ∨ (r = 0 ∧ ¬ (-1 ≤ p0.toInt ∧ p0.toInt ≤ 399))))) 0 0 (fun _ => False) := by
  refine Met.ofW (cc := cX8_isKnowledge) (maxL := 1) (ret := (some .boolean)) (by decide) rfl ?_
  intro p e s m args below meth c s₁ B hml hv
  obtain ⟨rfl, hP, hK⟩ := hv
  have hx := B.exec; have hb := B.bytes; have hr := B.returns
  have hts := atoms_spec (ws := wl yX8_isKnowledge cX8_isKnowledge 1 (some .boolean)) B.pre
  have htb : ∀ w ∈ tb, w.before _ s = true := fun w h => hts w (List.mem_cons_of_mem _ h)
  have hown : s.vm.findClass RX8 = some m.cls := findClass_of_methodNamed B.named
  have hlocks := B.notSynchronized
  have hP : va_P D vwCl ([] : va_W) s.heap := hP
  have hl := lv_entry ([.int p0]) (n := 1) (Nat.le_of_ble_eq_true rfl)
  rw [lg_entry_eq]
  generalize (lg_sl ([.int p0]) ++ List.replicate (1 - (lg_sl ([.int p0])).length) Slot.unset).toArray = ls at hl ⊢
  have hl : lv_has ls 1 [(0, .int p0)] := hl
  have lo_p0 := i_lo p0; have hi_p0 := i_hi p0
  refine lv_iload_n hx hb dX8_isKnowledge_0 rfl (lv_at hl 0 rfl) ?_
  refine lv_iconst (v := (-1)) hx hb dX8_isKnowledge_1 (by decide) ?_
  refine lv_icmp_eq (tgt := 12) hx hb dX8_isKnowledge_2 (by decide) (fun c_1 => ?_) (fun c_1 => ?_)
  ·
    have ic_1 : p0.toInt = -1 := (g_eq rfl t_m1).mp c_1
    clear c_1
    refine lv_iconst (v := 1) hx hb dX8_isKnowledge_12 (by decide) ?_
    refine lv_goto (tgt := 17) hx hb dX8_isKnowledge_13 (by decide) ?_
    exact W.zret (v := 1) hx hb hr rfl (fun t ht hW => ⟨1, rfl, by first | exact Or.inl ⟨rfl, by omega⟩ | (exfalso; omega), ht⟩) (fun q h => by cases h) dX8_isKnowledge_17
  ·
    have ic_1 : p0.toInt ≠ -1 := mt (g_eq rfl t_m1).mpr c_1
    clear c_1
    refine lv_iload_n hx hb dX8_isKnowledge_5 rfl (lv_at hl 0 rfl) ?_
    refine callRS (rest := []) (As := [.int p0]) hx hb hml hown htb hK (g_X8_isDay l D E p0 ) ok_X8_isDay k_323 k_324 k_1 k_325 ⟨(Nat.le_of_ble_eq_true rfl), (Nat.le_of_ble_eq_true rfl)⟩ ⟨(Nat.le_of_ble_eq_true rfl), (Nat.le_of_ble_eq_true rfl)⟩ hl.1 (Nat.le_of_ble_eq_true rfl) rfl rfl dX8_isKnowledge_6 (hP.sub (ws' := ([] : va_W)) [] rfl) (fun r_2 hw_3 => ?_)
    rcases hw_3 with ⟨hr_2, hw_3⟩ | ⟨hr_2, hw_3⟩
    ·
      refine W_top (y := .int 1) (by rw [hr_2]) ?_
      refine lv_if_eq (tgt := 16) hx hb dX8_isKnowledge_9 (by decide) (fun c_5 => absurd c_5 (by decide)) (fun c_5 => ?_)
      refine lv_iconst (v := 1) hx hb dX8_isKnowledge_12 (by decide) ?_
      refine lv_goto (tgt := 17) hx hb dX8_isKnowledge_13 (by decide) ?_
      exact W.zret (v := 1) hx hb hr rfl (fun t ht hW => ⟨1, rfl, by first | exact Or.inl ⟨rfl, by omega⟩ | (exfalso; omega), ht⟩) (fun q h => by cases h) dX8_isKnowledge_17
    ·
      refine W_top (y := .int 0) (by rw [hr_2]) ?_
      refine lv_if_eq (tgt := 16) hx hb dX8_isKnowledge_9 (by decide) (fun c_6 => ?_) (fun c_6 => absurd (by decide) c_6)
      refine lv_iconst (v := 0) hx hb dX8_isKnowledge_16 (by decide) ?_
      exact W.zret (v := 0) hx hb hr rfl (fun t ht hW => ⟨0, rfl, by first | exact Or.inr ⟨rfl, by omega⟩ | (exfalso; omega), ht⟩) (fun q h => by cases h) dX8_isKnowledge_17
set_option maxHeartbeats 4000000 in
set_option maxRecDepth 100000 in
theorem g_X8_isWithin (l : Launch) (D : va_G) (E : Nat → Nat) (p0 : Int32) (p1 : Int32) (g0 : 0 ≤ p1.toInt) : Met l yX8_isWithin (wl yX8_isWithin cX8_isWithin 2 (some .boolean)) (RM 0 0 0) (rd_P D E [.int p0, .int p1] ([] : va_W)) (rd_Q (fun r => ((r = 1 ∧ (-p1.toInt ≤ p0.toInt ∧ p0.toInt ≤ p1.toInt)) ∨ (r = 0 ∧ ¬ (-p1.toInt ≤ p0.toInt ∧ p0.toInt ≤ p1.toInt))))) 0 0 (fun _ => False) := by
  refine Met.ofW (cc := cX8_isWithin) (maxL := 2) (ret := (some .boolean)) (by decide) rfl ?_
  intro p e s m args below meth c s₁ B hml hv
  obtain ⟨rfl, hP, hK⟩ := hv
  have hx := B.exec; have hb := B.bytes; have hr := B.returns
  have hts := atoms_spec (ws := wl yX8_isWithin cX8_isWithin 2 (some .boolean)) B.pre
  have htb : ∀ w ∈ tb, w.before _ s = true := fun w h => hts w (List.mem_cons_of_mem _ h)
  have hown : s.vm.findClass RX8 = some m.cls := findClass_of_methodNamed B.named
  have hlocks := B.notSynchronized
  have hP : va_P D vwCl ([] : va_W) s.heap := hP
  have hl := lv_entry ([.int p0, .int p1]) (n := 2) (Nat.le_of_ble_eq_true rfl)
  rw [lg_entry_eq]
  generalize (lg_sl ([.int p0, .int p1]) ++ List.replicate (2 - (lg_sl ([.int p0, .int p1])).length) Slot.unset).toArray = ls at hl ⊢
  have hl : lv_has ls 2 [(0, .int p0), (1, .int p1)] := hl
  have lo_p0 := i_lo p0; have hi_p0 := i_hi p0
  have lo_p1 := i_lo p1; have hi_p1 := i_hi p1
  refine lv_iload_n hx hb dX8_isWithin_0 rfl (lv_at hl 0 rfl) ?_
  refine lv_iload_n hx hb dX8_isWithin_1 rfl (lv_at hl 1 rfl) ?_
  refine lv_ineg hx hb dX8_isWithin_2 ?_
  refine lv_topi (fun z_1 ez_1 => ?_)
  have jz_1 : z_1.toInt = -p1.toInt := by rw [ez_1]; exact i_neg (by omega)
  refine lv_icmp_lt (tgt := 15) hx hb dX8_isWithin_3 (by decide) (fun c_2 => ?_) (fun c_2 => ?_)
  ·
    have ic_2 : p0.toInt < z_1.toInt := by first | exact (g_lt rfl rfl).mp c_2 | (have h := mt (g_le rfl rfl).mpr c_2; omega)
    clear c_2
    refine lv_iconst (v := 0) hx hb dX8_isWithin_15 (by decide) ?_
    exact W.zret (v := 0) hx hb hr rfl (fun t ht hW => ⟨0, rfl, by first | exact Or.inr ⟨rfl, by omega⟩ | (exfalso; omega), ht⟩) (fun q h => by cases h) dX8_isWithin_16
  ·
    have ic_2 : z_1.toInt ≤ p0.toInt := by first | exact (g_le rfl rfl).mp c_2 | (have h := mt (g_lt rfl rfl).mpr c_2; omega)
    clear c_2
    refine lv_iload_n hx hb dX8_isWithin_6 rfl (lv_at hl 0 rfl) ?_
    refine lv_iload_n hx hb dX8_isWithin_7 rfl (lv_at hl 1 rfl) ?_
    refine lv_icmp_gt (tgt := 15) hx hb dX8_isWithin_8 (by decide) (fun c_3 => ?_) (fun c_3 => ?_)
    ·
      have ic_3 : p1.toInt < p0.toInt := by first | exact (g_lt rfl rfl).mp c_3 | (have h := mt (g_le rfl rfl).mpr c_3; omega)
      clear c_3
      refine lv_iconst (v := 0) hx hb dX8_isWithin_15 (by decide) ?_
      exact W.zret (v := 0) hx hb hr rfl (fun t ht hW => ⟨0, rfl, by first | exact Or.inr ⟨rfl, by omega⟩ | (exfalso; omega), ht⟩) (fun q h => by cases h) dX8_isWithin_16
    ·
      have ic_3 : p0.toInt ≤ p1.toInt := by first | exact (g_le rfl rfl).mp c_3 | (have h := mt (g_lt rfl rfl).mpr c_3; omega)
      clear c_3
      refine lv_iconst (v := 1) hx hb dX8_isWithin_11 (by decide) ?_
      refine lv_goto (tgt := 16) hx hb dX8_isWithin_12 (by decide) ?_
      exact W.zret (v := 1) hx hb hr rfl (fun t ht hW => ⟨1, rfl, by first | exact Or.inl ⟨rfl, by omega⟩ | (exfalso; omega), ht⟩) (fun q h => by cases h) dX8_isWithin_16
set_option maxHeartbeats 4000000 in
set_option maxRecDepth 100000 in
theorem g_X8_isStretch (l : Launch) (D : va_G) (E : Nat → Nat) (p0 : Int32) (p1 : Int32)  : Met l yX8_isStretch (wl yX8_isStretch cX8_isStretch 2 (some .boolean)) (RM 1 0 0) (rd_P D E [.int p0, .int p1] ([] : va_W)) (rd_Q (fun r => ((r = 1 ∧ (0 ≤ p0.toInt ∧ p1.toInt ≤ 399 ∧ p0.toInt < p1.toInt ∧ p1.toInt - p0.toInt ≤ 60)) ∨ (r = 0 ∧ ¬ (0 ≤ p0.toInt ∧ p1.toInt ≤ 399 ∧ p0.toInt < p1.toInt ∧ p1.toInt - p0.toInt ≤ 60))))) 0 0 (fun _ => False) := by
  refine Met.ofW (cc := cX8_isStretch) (maxL := 2) (ret := (some .boolean)) (by decide) rfl ?_
  intro p e s m args below meth c s₁ B hml hv
  obtain ⟨rfl, hP, hK⟩ := hv
  have hx := B.exec; have hb := B.bytes; have hr := B.returns
  have hts := atoms_spec (ws := wl yX8_isStretch cX8_isStretch 2 (some .boolean)) B.pre
  have htb : ∀ w ∈ tb, w.before _ s = true := fun w h => hts w (List.mem_cons_of_mem _ h)
  have hown : s.vm.findClass RX8 = some m.cls := findClass_of_methodNamed B.named
  have hlocks := B.notSynchronized
  have hP : va_P D vwCl ([] : va_W) s.heap := hP
  have hl := lv_entry ([.int p0, .int p1]) (n := 2) (Nat.le_of_ble_eq_true rfl)
  rw [lg_entry_eq]
  generalize (lg_sl ([.int p0, .int p1]) ++ List.replicate (2 - (lg_sl ([.int p0, .int p1])).length) Slot.unset).toArray = ls at hl ⊢
  have hl : lv_has ls 2 [(0, .int p0), (1, .int p1)] := hl
  have lo_p0 := i_lo p0; have hi_p0 := i_hi p0
  have lo_p1 := i_lo p1; have hi_p1 := i_hi p1
  refine lv_iload_n hx hb dX8_isStretch_0 rfl (lv_at hl 0 rfl) ?_
  refine callRS (rest := []) (As := [.int p0]) hx hb hml hown htb hK (g_X8_isDay l D E p0 ) ok_X8_isDay k_323 k_324 k_1 k_325 ⟨(Nat.le_of_ble_eq_true rfl), (Nat.le_of_ble_eq_true rfl)⟩ ⟨(Nat.le_of_ble_eq_true rfl), (Nat.le_of_ble_eq_true rfl)⟩ hl.1 (Nat.le_of_ble_eq_true rfl) rfl rfl dX8_isStretch_1 (hP.sub (ws' := ([] : va_W)) [] rfl) (fun r_1 hw_2 => ?_)
  rcases hw_2 with ⟨hr_1, hw_2⟩ | ⟨hr_1, hw_2⟩
  ·
    refine W_top (y := .int 1) (by rw [hr_1]) ?_
    refine lv_if_eq (tgt := 31) hx hb dX8_isStretch_4 (by decide) (fun c_4 => absurd c_4 (by decide)) (fun c_4 => ?_)
    refine lv_iload_n hx hb dX8_isStretch_7 rfl (lv_at hl 1 rfl) ?_
    refine callRS (rest := []) (As := [.int p1]) hx hb hml hown htb hK (g_X8_isDay l D E p1 ) ok_X8_isDay k_323 k_324 k_1 k_325 ⟨(Nat.le_of_ble_eq_true rfl), (Nat.le_of_ble_eq_true rfl)⟩ ⟨(Nat.le_of_ble_eq_true rfl), (Nat.le_of_ble_eq_true rfl)⟩ hl.1 (Nat.le_of_ble_eq_true rfl) rfl rfl dX8_isStretch_8 (hP.sub (ws' := ([] : va_W)) [] rfl) (fun r_5 hw_6 => ?_)
    rcases hw_6 with ⟨hr_5, hw_6⟩ | ⟨hr_5, hw_6⟩
    ·
      refine W_top (y := .int 1) (by rw [hr_5]) ?_
      refine lv_if_eq (tgt := 31) hx hb dX8_isStretch_11 (by decide) (fun c_8 => absurd c_8 (by decide)) (fun c_8 => ?_)
      refine lv_iload_n hx hb dX8_isStretch_14 rfl (lv_at hl 0 rfl) ?_
      refine lv_iload_n hx hb dX8_isStretch_15 rfl (lv_at hl 1 rfl) ?_
      refine lv_icmp_ge (tgt := 31) hx hb dX8_isStretch_16 (by decide) (fun c_9 => ?_) (fun c_9 => ?_)
      ·
        have ic_9 : p1.toInt ≤ p0.toInt := by first | exact (g_le rfl rfl).mp c_9 | (have h := mt (g_lt rfl rfl).mpr c_9; omega)
        clear c_9
        refine lv_iconst (v := 0) hx hb dX8_isStretch_31 (by decide) ?_
        exact W.zret (v := 0) hx hb hr rfl (fun t ht hW => ⟨0, rfl, by first | exact Or.inr ⟨rfl, by omega⟩ | (exfalso; omega), ht⟩) (fun q h => by cases h) dX8_isStretch_32
      ·
        have ic_9 : p0.toInt < p1.toInt := by first | exact (g_lt rfl rfl).mp c_9 | (have h := mt (g_le rfl rfl).mpr c_9; omega)
        clear c_9
        refine lv_iload_n hx hb dX8_isStretch_19 rfl (lv_at hl 1 rfl) ?_
        refine lv_iload_n hx hb dX8_isStretch_20 rfl (lv_at hl 0 rfl) ?_
        refine lv_isub hx hb dX8_isStretch_21 ?_
        refine lv_topi (fun z_10 ez_10 => ?_)
        have jz_10 : z_10.toInt = p1.toInt - p0.toInt := by rw [ez_10]; exact g_sub rfl rfl (by omega) (by omega)
        refine lv_bipush (v := 60) hx hb dX8_isStretch_22 (by decide) ?_
        refine lv_icmp_gt (tgt := 31) hx hb dX8_isStretch_24 (by decide) (fun c_11 => ?_) (fun c_11 => ?_)
        ·
          have ic_11 : 60 < z_10.toInt := by first | exact (g_lt t_60 rfl).mp c_11 | (have h := mt (g_le rfl t_60).mpr c_11; omega)
          clear c_11
          refine lv_iconst (v := 0) hx hb dX8_isStretch_31 (by decide) ?_
          exact W.zret (v := 0) hx hb hr rfl (fun t ht hW => ⟨0, rfl, by first | exact Or.inr ⟨rfl, by omega⟩ | (exfalso; omega), ht⟩) (fun q h => by cases h) dX8_isStretch_32
        ·
          have ic_11 : z_10.toInt ≤ 60 := by first | exact (g_le rfl t_60).mp c_11 | (have h := mt (g_lt t_60 rfl).mpr c_11; omega)
          clear c_11
          refine lv_iconst (v := 1) hx hb dX8_isStretch_27 (by decide) ?_
          refine lv_goto (tgt := 32) hx hb dX8_isStretch_28 (by decide) ?_
          exact W.zret (v := 1) hx hb hr rfl (fun t ht hW => ⟨1, rfl, by first | exact Or.inl ⟨rfl, by omega⟩ | (exfalso; omega), ht⟩) (fun q h => by cases h) dX8_isStretch_32
    ·
      refine W_top (y := .int 0) (by rw [hr_5]) ?_
      refine lv_if_eq (tgt := 31) hx hb dX8_isStretch_11 (by decide) (fun c_12 => ?_) (fun c_12 => absurd (by decide) c_12)
      refine lv_iconst (v := 0) hx hb dX8_isStretch_31 (by decide) ?_
      exact W.zret (v := 0) hx hb hr rfl (fun t ht hW => ⟨0, rfl, by first | exact Or.inr ⟨rfl, by omega⟩ | (exfalso; omega), ht⟩) (fun q h => by cases h) dX8_isStretch_32
  ·
    refine W_top (y := .int 0) (by rw [hr_1]) ?_
    refine lv_if_eq (tgt := 31) hx hb dX8_isStretch_4 (by decide) (fun c_13 => ?_) (fun c_13 => absurd (by decide) c_13)
    refine lv_iconst (v := 0) hx hb dX8_isStretch_31 (by decide) ?_
    exact W.zret (v := 0) hx hb hr rfl (fun t ht hW => ⟨0, rfl, by first | exact Or.inr ⟨rfl, by omega⟩ | (exfalso; omega), ht⟩) (fun q h => by cases h) dX8_isStretch_32
set_option maxHeartbeats 4000000 in
set_option maxRecDepth 100000 in
theorem g_X8_fitsKind (l : Launch) (D : va_G) (E : Nat → Nat) (p0 : Int32) (p1 : Int32)  : Met l yX8_fitsKind (wl yX8_fitsKind cX8_fitsKind 2 (some .boolean)) (RM 1 0 0) (rd_P D E [.int p0, .int p1] ([] : va_W)) (rd_Q (fun r => ((r = 1 ∧ ((p0.toInt = 0 ∧ p1.toInt = 0) ∨ (p0.toInt = 1 ∧ -50 ≤ p1.toInt ∧ p1.toInt ≤ 50) ∨ p0.toInt = 2)) ∨ (r = 0 ∧ ¬ ((p0.toInt = 0 ∧ p1.toInt = 0) ∨ (p0.toInt = 1 ∧ -50 ≤ p1.toInt ∧ p1.toInt ≤ 50) ∨ p0.toInt = 2))))) 0 0 (fun _ => False) := by
  refine Met.ofW (cc := cX8_fitsKind) (maxL := 2) (ret := (some .boolean)) (by decide) rfl ?_
  intro p e s m args below meth c s₁ B hml hv
  obtain ⟨rfl, hP, hK⟩ := hv
  have hx := B.exec; have hb := B.bytes; have hr := B.returns
  have hts := atoms_spec (ws := wl yX8_fitsKind cX8_fitsKind 2 (some .boolean)) B.pre
  have htb : ∀ w ∈ tb, w.before _ s = true := fun w h => hts w (List.mem_cons_of_mem _ h)
  have hown : s.vm.findClass RX8 = some m.cls := findClass_of_methodNamed B.named
  have hlocks := B.notSynchronized
  have hP : va_P D vwCl ([] : va_W) s.heap := hP
  have hl := lv_entry ([.int p0, .int p1]) (n := 2) (Nat.le_of_ble_eq_true rfl)
  rw [lg_entry_eq]
  generalize (lg_sl ([.int p0, .int p1]) ++ List.replicate (2 - (lg_sl ([.int p0, .int p1])).length) Slot.unset).toArray = ls at hl ⊢
  have hl : lv_has ls 2 [(0, .int p0), (1, .int p1)] := hl
  have lo_p0 := i_lo p0; have hi_p0 := i_hi p0
  have lo_p1 := i_lo p1; have hi_p1 := i_hi p1
  refine lv_iload_n hx hb dX8_fitsKind_0 rfl (lv_at hl 0 rfl) ?_
  refine lv_if_ne (tgt := 8) hx hb dX8_fitsKind_1 (by decide) (fun c_1 => ?_) (fun c_1 => ?_)
  ·
    have ic_1 : p0.toInt ≠ 0 := mt (g_eq rfl t_0).mpr c_1
    clear c_1
    refine lv_iload_n hx hb dX8_fitsKind_8 rfl (lv_at hl 0 rfl) ?_
    refine lv_iconst (v := 1) hx hb dX8_fitsKind_9 (by decide) ?_
    refine lv_icmp_ne (tgt := 22) hx hb dX8_fitsKind_10 (by decide) (fun c_2 => ?_) (fun c_2 => ?_)
    ·
      have ic_2 : p0.toInt ≠ 1 := mt (g_eq rfl t_1).mpr c_2
      clear c_2
      refine lv_iload_n hx hb dX8_fitsKind_22 rfl (lv_at hl 0 rfl) ?_
      refine lv_iconst (v := 2) hx hb dX8_fitsKind_23 (by decide) ?_
      refine lv_icmp_ne (tgt := 31) hx hb dX8_fitsKind_24 (by decide) (fun c_3 => ?_) (fun c_3 => ?_)
      ·
        have ic_3 : p0.toInt ≠ 2 := mt (g_eq rfl t_2).mpr c_3
        clear c_3
        refine lv_iconst (v := 0) hx hb dX8_fitsKind_31 (by decide) ?_
        exact W.zret (v := 0) hx hb hr rfl (fun t ht hW => ⟨0, rfl, by first | exact Or.inr ⟨rfl, by omega⟩ | (exfalso; omega), ht⟩) (fun q h => by cases h) dX8_fitsKind_32
      ·
        have ic_3 : p0.toInt = 2 := (g_eq rfl t_2).mp c_3
        clear c_3
        refine lv_iconst (v := 1) hx hb dX8_fitsKind_27 (by decide) ?_
        refine lv_goto (tgt := 32) hx hb dX8_fitsKind_28 (by decide) ?_
        exact W.zret (v := 1) hx hb hr rfl (fun t ht hW => ⟨1, rfl, by first | exact Or.inl ⟨rfl, by omega⟩ | (exfalso; omega), ht⟩) (fun q h => by cases h) dX8_fitsKind_32
    ·
      have ic_2 : p0.toInt = 1 := (g_eq rfl t_1).mp c_2
      clear c_2
      refine lv_iload_n hx hb dX8_fitsKind_13 rfl (lv_at hl 1 rfl) ?_
      refine lv_bipush (v := 50) hx hb dX8_fitsKind_14 (by decide) ?_
      refine callRS (rest := []) (As := [.int p1, .int 50]) hx hb hml hown htb hK (g_X8_isWithin l D E p1 50 (by decide)) ok_X8_isWithin k_326 k_327 k_1 k_328 ⟨(Nat.le_of_ble_eq_true rfl), (Nat.le_of_ble_eq_true rfl)⟩ ⟨(Nat.le_of_ble_eq_true rfl), (Nat.le_of_ble_eq_true rfl)⟩ hl.1 (Nat.le_of_ble_eq_true rfl) rfl rfl dX8_fitsKind_16 (hP.sub (ws' := ([] : va_W)) [] rfl) (fun r_4 hw_5 => ?_)
      try simp only [t_50] at hw_5
      rcases hw_5 with ⟨hr_4, hw_5⟩ | ⟨hr_4, hw_5⟩
      ·
        try simp only [t_50] at hw_5
        refine W_top (y := .int 1) (by rw [hr_4]) ?_
        refine lv_if_ne (tgt := 27) hx hb dX8_fitsKind_19 (by decide) (fun c_7 => ?_) (fun c_7 => absurd c_7 (by decide))
        refine lv_iconst (v := 1) hx hb dX8_fitsKind_27 (by decide) ?_
        refine lv_goto (tgt := 32) hx hb dX8_fitsKind_28 (by decide) ?_
        exact W.zret (v := 1) hx hb hr rfl (fun t ht hW => ⟨1, rfl, by first | exact Or.inl ⟨rfl, by omega⟩ | (exfalso; omega), ht⟩) (fun q h => by cases h) dX8_fitsKind_32
      ·
        try simp only [t_50] at hw_5
        refine W_top (y := .int 0) (by rw [hr_4]) ?_
        refine lv_if_ne (tgt := 27) hx hb dX8_fitsKind_19 (by decide) (fun c_8 => absurd (by decide) c_8) (fun c_8 => ?_)
        refine lv_iload_n hx hb dX8_fitsKind_22 rfl (lv_at hl 0 rfl) ?_
        refine lv_iconst (v := 2) hx hb dX8_fitsKind_23 (by decide) ?_
        refine lv_icmp_ne (tgt := 31) hx hb dX8_fitsKind_24 (by decide) (fun c_9 => ?_) (fun c_9 => absurd c_9 (by rw [g_eq rfl t_2]; omega))
        refine lv_iconst (v := 0) hx hb dX8_fitsKind_31 (by decide) ?_
        exact W.zret (v := 0) hx hb hr rfl (fun t ht hW => ⟨0, rfl, by first | exact Or.inr ⟨rfl, by omega⟩ | (exfalso; omega), ht⟩) (fun q h => by cases h) dX8_fitsKind_32
  ·
    have ic_1 : p0.toInt = 0 := (g_eq rfl t_0).mp c_1
    clear c_1
    refine lv_iload_n hx hb dX8_fitsKind_4 rfl (lv_at hl 1 rfl) ?_
    refine lv_if_eq (tgt := 27) hx hb dX8_fitsKind_5 (by decide) (fun c_10 => ?_) (fun c_10 => ?_)
    ·
      have ic_10 : p1.toInt = 0 := (g_eq rfl t_0).mp c_10
      clear c_10
      refine lv_iconst (v := 1) hx hb dX8_fitsKind_27 (by decide) ?_
      refine lv_goto (tgt := 32) hx hb dX8_fitsKind_28 (by decide) ?_
      exact W.zret (v := 1) hx hb hr rfl (fun t ht hW => ⟨1, rfl, by first | exact Or.inl ⟨rfl, by omega⟩ | (exfalso; omega), ht⟩) (fun q h => by cases h) dX8_fitsKind_32
    ·
      have ic_10 : p1.toInt ≠ 0 := mt (g_eq rfl t_0).mpr c_10
      clear c_10
      refine lv_iload_n hx hb dX8_fitsKind_8 rfl (lv_at hl 0 rfl) ?_
      refine lv_iconst (v := 1) hx hb dX8_fitsKind_9 (by decide) ?_
      refine lv_icmp_ne (tgt := 22) hx hb dX8_fitsKind_10 (by decide) (fun c_11 => ?_) (fun c_11 => absurd c_11 (by rw [g_eq rfl t_1]; omega))
      refine lv_iload_n hx hb dX8_fitsKind_22 rfl (lv_at hl 0 rfl) ?_
      refine lv_iconst (v := 2) hx hb dX8_fitsKind_23 (by decide) ?_
      refine lv_icmp_ne (tgt := 31) hx hb dX8_fitsKind_24 (by decide) (fun c_12 => ?_) (fun c_12 => absurd c_12 (by rw [g_eq rfl t_2]; omega))
      refine lv_iconst (v := 0) hx hb dX8_fitsKind_31 (by decide) ?_
      exact W.zret (v := 0) hx hb hr rfl (fun t ht hW => ⟨0, rfl, by first | exact Or.inr ⟨rfl, by omega⟩ | (exfalso; omega), ht⟩) (fun q h => by cases h) dX8_fitsKind_32
end
section
set_option maxHeartbeats 4000000 in
set_option maxRecDepth 100000 in
theorem g_X2_add (l : Launch) (D : va_G) (E : Nat → Nat) (oh : Nat) (oa : Nat → Nat) (osize : Int32) (of0 : Nat → Int32) (of1 : Nat → Int32) (of2 : Nat → Int32) (of3 : Nat → Int32) (of4 : Nat → Int32) (p0 : Int32) (p1 : Int32) (p2 : Int32) (p3 : Int32) (p4 : Int32) (sz : Nat) (hi_o : (0 ≤ osize.toInt ∧ osize.toInt ≤ 60)) : Met l yX2_add (wl yX2_add cX2_add 6 none) (RM 0 0 0) (mu_P D E [.ref oh, .int p0, .int p1, .int p2, .int p3, .int p4] [(oh, .inr (2, G2 oa osize)), ((oa 0), .inl (E 0, 60, .inl of0)), ((oa 1), .inl (E 0, 60, .inl of1)), ((oa 2), .inl (E 0, 60, .inl of2)), ((oa 3), .inl (E 0, 60, .inl of3)), ((oa 4), .inl (E 0, 60, .inl of4))] sz) (va_Qv (fun (u : (Nat → Int32) × (Nat → Int32) × (Nat → Int32) × (Nat → Int32) × (Nat → Int32) × (Int32)) => (0 ≤ u.2.2.2.2.2.toInt ∧ u.2.2.2.2.2.toInt ≤ 60) ∧ ((osize.toInt < 60 ∧ u.2.2.2.2.2.toInt = osize.toInt + 1 ∧ u.1 = upd of0 (osize).toNatClampNeg p0 ∧ u.2.1 = upd of1 (osize).toNatClampNeg p1 ∧ u.2.2.1 = upd of2 (osize).toNatClampNeg p2 ∧ u.2.2.2.1 = upd of3 (osize).toNatClampNeg p3 ∧ u.2.2.2.2.1 = upd of4 (osize).toNatClampNeg p4) ∨ (osize.toInt = 60 ∧ u.2.2.2.2.2.toInt = osize.toInt ∧ u.1 = of0 ∧ u.2.1 = of1 ∧ u.2.2.1 = of2 ∧ u.2.2.2.1 = of3 ∧ u.2.2.2.2.1 = of4))) (mu_B D (va_A [(oh, .inr (2, G2 oa osize)), ((oa 0), .inl (E 0, 60, .inl of0)), ((oa 1), .inl (E 0, 60, .inl of1)), ((oa 2), .inl (E 0, 60, .inl of2)), ((oa 3), .inl (E 0, 60, .inl of3)), ((oa 4), .inl (E 0, 60, .inl of4))] sz) (fun (u : (Nat → Int32) × (Nat → Int32) × (Nat → Int32) × (Nat → Int32) × (Nat → Int32) × (Int32)) => [(oh, .inr (2, G2 oa u.2.2.2.2.2)), ((oa 0), .inl (E 0, 60, .inl u.1)), ((oa 1), .inl (E 0, 60, .inl u.2.1)), ((oa 2), .inl (E 0, 60, .inl u.2.2.1)), ((oa 3), .inl (E 0, 60, .inl u.2.2.2.1)), ((oa 4), .inl (E 0, 60, .inl u.2.2.2.2.1))])) (va_A [(oh, .inr (2, G2 oa osize)), ((oa 0), .inl (E 0, 60, .inl of0)), ((oa 1), .inl (E 0, 60, .inl of1)), ((oa 2), .inl (E 0, 60, .inl of2)), ((oa 3), .inl (E 0, 60, .inl of3)), ((oa 4), .inl (E 0, 60, .inl of4))] sz)) 0 0 (va_A [(oh, .inr (2, G2 oa osize)), ((oa 0), .inl (E 0, 60, .inl of0)), ((oa 1), .inl (E 0, 60, .inl of1)), ((oa 2), .inl (E 0, 60, .inl of2)), ((oa 3), .inl (E 0, 60, .inl of3)), ((oa 4), .inl (E 0, 60, .inl of4))] sz) := by
  refine Met.ofW (cc := cX2_add) (maxL := 6) (ret := none) (by decide) rfl ?_
  intro p e s m args below meth c s₁ B hml hv
  obtain ⟨rfl, hsz, hP, hK, hD0⟩ := hv
  have hx := B.exec; have hb := B.bytes; have hr := B.returns
  have hts := atoms_spec (ws := wl yX2_add cX2_add 6 none) B.pre
  have htb : ∀ w ∈ tb, w.before _ s = true := fun w h => hts w (List.mem_cons_of_mem _ h)
  have hown : s.vm.findClass RX2 = some m.cls := findClass_of_methodNamed B.named
  have hlocks := B.notSynchronized
  subst hsz
  have hD := hD0.self (sz := s.heap.size)
  generalize hAe : va_A [(oh, .inr (2, G2 oa osize)), ((oa 0), .inl (E 0, 60, .inl of0)), ((oa 1), .inl (E 0, 60, .inl of1)), ((oa 2), .inl (E 0, 60, .inl of2)), ((oa 3), .inl (E 0, 60, .inl of3)), ((oa 4), .inl (E 0, 60, .inl of4))] s.heap.size = A at hD ⊢
  have hA : ∀ q : Nat, s.heap.size ≤ q → A q := fun q h => by rw [← hAe]; exact Or.inr h
  have hS : va_S A s.heap s.heap [] := va_S.rf
  have hP : va_P D vwCl [(oh, .inr (2, G2 oa osize)), ((oa 0), .inl (E 0, 60, .inl of0)), ((oa 1), .inl (E 0, 60, .inl of1)), ((oa 2), .inl (E 0, 60, .inl of2)), ((oa 3), .inl (E 0, 60, .inl of3)), ((oa 4), .inl (E 0, 60, .inl of4))] s.heap := hP
  have hl := lv_entry ([.ref oh, .int p0, .int p1, .int p2, .int p3, .int p4]) (n := 6) (Nat.le_of_ble_eq_true rfl)
  rw [lg_entry_eq]
  generalize (lg_sl ([.ref oh, .int p0, .int p1, .int p2, .int p3, .int p4]) ++ List.replicate (6 - (lg_sl ([.ref oh, .int p0, .int p1, .int p2, .int p3, .int p4])).length) Slot.unset).toArray = ls at hl ⊢
  have hl : lv_has ls 6 [(0, .ref oh), (1, .int p0), (2, .int p1), (3, .int p2), (4, .int p3), (5, .int p4)] := hl
  have lo_p0 := i_lo p0; have hi_p0 := i_hi p0
  have lo_p1 := i_lo p1; have hi_p1 := i_hi p1
  have lo_p2 := i_lo p2; have hi_p2 := i_hi p2
  have lo_p3 := i_lo p3; have hi_p3 := i_hi p3
  have lo_p4 := i_lo p4; have hi_p4 := i_hi p4
  refine lv_aload_n hx hb dX2_add_0 rfl (lv_at hl 0 rfl) ?_
  refine va_get (D := D) (ci := 2) (v := .int osize) (C := RX2) (T := TX2) (N := 6) hx hb htb iX2 hown hK.1 hP 0 rfl rfl 5 (by decide) (htb _ k_39) (fun _ h9 => h9) rfl dX2_add_1 ?_
  refine lv_bipush (v := 60) hx hb dX2_add_4 (by decide) ?_
  refine lv_icmp_lt (tgt := 10) hx hb dX2_add_6 (by decide) (fun c_1 => ?_) (fun c_1 => ?_)
  ·
    have ic_1 : osize.toInt < 60 := by first | exact (g_lt rfl t_60).mp c_1 | (have h := mt (g_le t_60 rfl).mpr c_1; omega)
    clear c_1
    refine lv_aload_n hx hb dX2_add_10 rfl (lv_at hl 0 rfl) ?_
    refine va_get (D := D) (ci := 2) (v := .ref (oa 0)) (C := RX2) (T := TX2) (N := 6) hx hb htb iX2 hown hK.1 hP 0 rfl rfl 0 (by decide) (htb _ k_34) (fun _ h9 => h9) rfl dX2_add_11 ?_
    refine lv_aload_n hx hb dX2_add_14 rfl (lv_at hl 0 rfl) ?_
    refine va_get (D := D) (ci := 2) (v := .int osize) (C := RX2) (T := TX2) (N := 6) hx hb htb iX2 hown hK.1 hP 0 rfl rfl 5 (by decide) (htb _ k_39) (fun _ h9 => h9) rfl dX2_add_15 ?_
    refine lv_iload_n hx hb dX2_add_18 rfl (lv_at hl 1 rfl) ?_
    refine va_iast hx hb hK.1 hP hD hS 1 0 rfl rfl (g_in rfl (by omega) (by omega)) dX2_add_19 (fun H locs hP hD hS => ?_)
    have hP : va_P D vwCl [(oh, .inr (2, G2 oa osize)), ((oa 0), .inl (E 0, 60, .inl (upd of0 (osize : Int32).toNatClampNeg p0))), ((oa 1), .inl (E 0, 60, .inl of1)), ((oa 2), .inl (E 0, 60, .inl of2)), ((oa 3), .inl (E 0, 60, .inl of3)), ((oa 4), .inl (E 0, 60, .inl of4))] H := hP
    have hD := toW hP hD rfl
    refine lv_aload_n hx hb dX2_add_20 rfl (lv_at hl 0 rfl) ?_
    refine va_get (D := D) (ci := 2) (v := .ref (oa 1)) (C := RX2) (T := TX2) (N := 6) hx hb htb iX2 hown hK.1 hP 0 rfl rfl 1 (by decide) (htb _ k_35) (fun _ h9 => h9) rfl dX2_add_21 ?_
    refine lv_aload_n hx hb dX2_add_24 rfl (lv_at hl 0 rfl) ?_
    refine va_get (D := D) (ci := 2) (v := .int osize) (C := RX2) (T := TX2) (N := 6) hx hb htb iX2 hown hK.1 hP 0 rfl rfl 5 (by decide) (htb _ k_39) (fun _ h9 => h9) rfl dX2_add_25 ?_
    refine lv_iload_n hx hb dX2_add_28 rfl (lv_at hl 2 rfl) ?_
    refine va_iast hx hb hK.1 hP hD hS 2 0 rfl rfl (g_in rfl (by omega) (by omega)) dX2_add_29 (fun H locs hP hD hS => ?_)
    have hP : va_P D vwCl [(oh, .inr (2, G2 oa osize)), ((oa 0), .inl (E 0, 60, .inl (upd of0 (osize : Int32).toNatClampNeg p0))), ((oa 1), .inl (E 0, 60, .inl (upd of1 (osize : Int32).toNatClampNeg p1))), ((oa 2), .inl (E 0, 60, .inl of2)), ((oa 3), .inl (E 0, 60, .inl of3)), ((oa 4), .inl (E 0, 60, .inl of4))] H := hP
    have hD := toW hP hD rfl
    refine lv_aload_n hx hb dX2_add_30 rfl (lv_at hl 0 rfl) ?_
    refine va_get (D := D) (ci := 2) (v := .ref (oa 2)) (C := RX2) (T := TX2) (N := 6) hx hb htb iX2 hown hK.1 hP 0 rfl rfl 2 (by decide) (htb _ k_36) (fun _ h9 => h9) rfl dX2_add_31 ?_
    refine lv_aload_n hx hb dX2_add_34 rfl (lv_at hl 0 rfl) ?_
    refine va_get (D := D) (ci := 2) (v := .int osize) (C := RX2) (T := TX2) (N := 6) hx hb htb iX2 hown hK.1 hP 0 rfl rfl 5 (by decide) (htb _ k_39) (fun _ h9 => h9) rfl dX2_add_35 ?_
    refine lv_iload_n hx hb dX2_add_38 rfl (lv_at hl 3 rfl) ?_
    refine va_iast hx hb hK.1 hP hD hS 3 0 rfl rfl (g_in rfl (by omega) (by omega)) dX2_add_39 (fun H locs hP hD hS => ?_)
    have hP : va_P D vwCl [(oh, .inr (2, G2 oa osize)), ((oa 0), .inl (E 0, 60, .inl (upd of0 (osize : Int32).toNatClampNeg p0))), ((oa 1), .inl (E 0, 60, .inl (upd of1 (osize : Int32).toNatClampNeg p1))), ((oa 2), .inl (E 0, 60, .inl (upd of2 (osize : Int32).toNatClampNeg p2))), ((oa 3), .inl (E 0, 60, .inl of3)), ((oa 4), .inl (E 0, 60, .inl of4))] H := hP
    have hD := toW hP hD rfl
    refine lv_aload_n hx hb dX2_add_40 rfl (lv_at hl 0 rfl) ?_
    refine va_get (D := D) (ci := 2) (v := .ref (oa 3)) (C := RX2) (T := TX2) (N := 6) hx hb htb iX2 hown hK.1 hP 0 rfl rfl 3 (by decide) (htb _ k_37) (fun _ h9 => h9) rfl dX2_add_41 ?_
    refine lv_aload_n hx hb dX2_add_44 rfl (lv_at hl 0 rfl) ?_
    refine va_get (D := D) (ci := 2) (v := .int osize) (C := RX2) (T := TX2) (N := 6) hx hb htb iX2 hown hK.1 hP 0 rfl rfl 5 (by decide) (htb _ k_39) (fun _ h9 => h9) rfl dX2_add_45 ?_
    refine lv_iload hx hb dX2_add_48 (lv_at hl 4 rfl) ?_
    refine va_iast hx hb hK.1 hP hD hS 4 0 rfl rfl (g_in rfl (by omega) (by omega)) dX2_add_50 (fun H locs hP hD hS => ?_)
    have hP : va_P D vwCl [(oh, .inr (2, G2 oa osize)), ((oa 0), .inl (E 0, 60, .inl (upd of0 (osize : Int32).toNatClampNeg p0))), ((oa 1), .inl (E 0, 60, .inl (upd of1 (osize : Int32).toNatClampNeg p1))), ((oa 2), .inl (E 0, 60, .inl (upd of2 (osize : Int32).toNatClampNeg p2))), ((oa 3), .inl (E 0, 60, .inl (upd of3 (osize : Int32).toNatClampNeg p3))), ((oa 4), .inl (E 0, 60, .inl of4))] H := hP
    have hD := toW hP hD rfl
    refine lv_aload_n hx hb dX2_add_51 rfl (lv_at hl 0 rfl) ?_
    refine va_get (D := D) (ci := 2) (v := .ref (oa 4)) (C := RX2) (T := TX2) (N := 6) hx hb htb iX2 hown hK.1 hP 0 rfl rfl 4 (by decide) (htb _ k_38) (fun _ h9 => h9) rfl dX2_add_52 ?_
    refine lv_aload_n hx hb dX2_add_55 rfl (lv_at hl 0 rfl) ?_
    refine va_get (D := D) (ci := 2) (v := .int osize) (C := RX2) (T := TX2) (N := 6) hx hb htb iX2 hown hK.1 hP 0 rfl rfl 5 (by decide) (htb _ k_39) (fun _ h9 => h9) rfl dX2_add_56 ?_
    refine lv_iload hx hb dX2_add_59 (lv_at hl 5 rfl) ?_
    refine va_iast hx hb hK.1 hP hD hS 5 0 rfl rfl (g_in rfl (by omega) (by omega)) dX2_add_61 (fun H locs hP hD hS => ?_)
    have hP : va_P D vwCl [(oh, .inr (2, G2 oa osize)), ((oa 0), .inl (E 0, 60, .inl (upd of0 (osize : Int32).toNatClampNeg p0))), ((oa 1), .inl (E 0, 60, .inl (upd of1 (osize : Int32).toNatClampNeg p1))), ((oa 2), .inl (E 0, 60, .inl (upd of2 (osize : Int32).toNatClampNeg p2))), ((oa 3), .inl (E 0, 60, .inl (upd of3 (osize : Int32).toNatClampNeg p3))), ((oa 4), .inl (E 0, 60, .inl (upd of4 (osize : Int32).toNatClampNeg p4)))] H := hP
    have hD := toW hP hD rfl
    refine lv_aload_n hx hb dX2_add_62 rfl (lv_at hl 0 rfl) ?_
    refine lv_dup hx hb dX2_add_63 rfl ?_
    refine va_get (D := D) (ci := 2) (v := .int osize) (C := RX2) (T := TX2) (N := 6) hx hb htb iX2 hown hK.1 hP 0 rfl rfl 5 (by decide) (htb _ k_39) (fun _ h9 => h9) rfl dX2_add_64 ?_
    refine lv_iconst (v := 1) hx hb dX2_add_67 (by decide) ?_
    refine lv_iadd hx hb dX2_add_68 ?_
    refine lv_topi (fun z_2 ez_2 => ?_)
    have jz_2 : z_2.toInt = osize.toInt + 1 := by rw [ez_2]; exact g_add rfl t_1 (by omega) (by omega)
    refine va_put (D := D) (ci := 2) (v := .int z_2) (ty := .int) (C := RX2) (T := TX2) (N := 6) hx hb htb iX2 tyX2 tyX2_ok nmX2 hown hK.1 hP hD hS 0 rfl rfl 5 (by decide) (htb _ k_39) (fun _ h9 => h9) rfl (by decide +kernel) rfl rfl (Nat.le_of_ble_eq_true rfl) dX2_add_69 (fun H locs hP hD hS => ?_)
    have hP : va_P D vwCl [(oh, .inr (2, G2 oa z_2)), ((oa 0), .inl (E 0, 60, .inl (upd of0 (osize : Int32).toNatClampNeg p0))), ((oa 1), .inl (E 0, 60, .inl (upd of1 (osize : Int32).toNatClampNeg p1))), ((oa 2), .inl (E 0, 60, .inl (upd of2 (osize : Int32).toNatClampNeg p2))), ((oa 3), .inl (E 0, 60, .inl (upd of3 (osize : Int32).toNatClampNeg p3))), ((oa 4), .inl (E 0, 60, .inl (upd of4 (osize : Int32).toNatClampNeg p4)))] H := hP
    have hD := toW hP hD rfl
    have hP9 := hP.sub (ws' := [(oh, .inr (2, G2 oa z_2)), ((oa 0), .inl (E 0, 60, .inl (upd of0 (osize : Int32).toNatClampNeg p0))), ((oa 1), .inl (E 0, 60, .inl (upd of1 (osize : Int32).toNatClampNeg p1))), ((oa 2), .inl (E 0, 60, .inl (upd of2 (osize : Int32).toNatClampNeg p2))), ((oa 3), .inl (E 0, 60, .inl (upd of3 (osize : Int32).toNatClampNeg p3))), ((oa 4), .inl (E 0, 60, .inl (upd of4 (osize : Int32).toNatClampNeg p4)))]) [0, 1, 2, 3, 4, 5] rfl
    have hD9 := hD.sub (ws' := [(oh, .inr (2, G2 oa z_2)), ((oa 0), .inl (E 0, 60, .inl (upd of0 (osize : Int32).toNatClampNeg p0))), ((oa 1), .inl (E 0, 60, .inl (upd of1 (osize : Int32).toNatClampNeg p1))), ((oa 2), .inl (E 0, 60, .inl (upd of2 (osize : Int32).toNatClampNeg p2))), ((oa 3), .inl (E 0, 60, .inl (upd of3 (osize : Int32).toNatClampNeg p3))), ((oa 4), .inl (E 0, 60, .inl (upd of4 (osize : Int32).toNatClampNeg p4)))]) [0, 1, 2, 3, 4, 5] (by decide) rfl
    exact W.vret hx hb hr (fun t ht hW => ⟨⟨((upd of0 (osize : Int32).toNatClampNeg p0), (upd of1 (osize : Int32).toNatClampNeg p1), (upd of2 (osize : Int32).toNatClampNeg p2), (upd of3 (osize : Int32).toNatClampNeg p3), (upd of4 (osize : Int32).toNatClampNeg p4), z_2), rfl, ⟨(by (try dsimp only); omega), (by (try dsimp only); first | exact Or.inl ⟨by omega, by omega, rfl, rfl, rfl, rfl, rfl⟩ | exact Or.inr ⟨by omega, by omega, rfl, rfl, rfl, rfl, rfl⟩)⟩, by rw [ht]; exact hP9, hD9⟩, hS.F ht⟩) hS.2.2 dX2_add_72
  ·
    have ic_1 : 60 ≤ osize.toInt := by first | exact (g_le t_60 rfl).mp c_1 | (have h := mt (g_lt rfl t_60).mpr c_1; omega)
    clear c_1
    have hP9 := hP.sub (ws' := [(oh, .inr (2, G2 oa osize)), ((oa 0), .inl (E 0, 60, .inl of0)), ((oa 1), .inl (E 0, 60, .inl of1)), ((oa 2), .inl (E 0, 60, .inl of2)), ((oa 3), .inl (E 0, 60, .inl of3)), ((oa 4), .inl (E 0, 60, .inl of4))]) [0, 1, 2, 3, 4, 5] rfl
    have hD9 := hD.sub (ws' := [(oh, .inr (2, G2 oa osize)), ((oa 0), .inl (E 0, 60, .inl of0)), ((oa 1), .inl (E 0, 60, .inl of1)), ((oa 2), .inl (E 0, 60, .inl of2)), ((oa 3), .inl (E 0, 60, .inl of3)), ((oa 4), .inl (E 0, 60, .inl of4))]) [0, 1, 2, 3, 4, 5] (by decide) rfl
    exact W.vret hx hb hr (fun t ht hW => ⟨⟨(of0, of1, of2, of3, of4, osize), rfl, ⟨(by (try dsimp only); omega), (by (try dsimp only); first | exact Or.inl ⟨by omega, by omega, rfl, rfl, rfl, rfl, rfl⟩ | exact Or.inr ⟨by omega, by omega, rfl, rfl, rfl, rfl, rfl⟩)⟩, by rw [ht]; exact hP9, hD9⟩, hS.F ht⟩) hS.2.2 dX2_add_9
set_option maxHeartbeats 4000000 in
set_option maxRecDepth 100000 in
theorem g_X2_sumFor (l : Launch) (D : va_G) (E : Nat → Nat) (oh : Nat) (oa : Nat → Nat) (osize : Int32) (of0 : Nat → Int32) (of1 : Nat → Int32) (of2 : Nat → Int32) (of3 : Nat → Int32) (of4 : Nat → Int32) (p0 : Int32) (p1 : Int32) (p2 : Int32) (hi_o : (0 ≤ osize.toInt ∧ osize.toInt ≤ 60)) : Met l yX2_sumFor (wl yX2_sumFor cX2_sumFor 6 (some .int)) (RM 0 0 0) (rd_P D E [.ref oh, .int p0, .int p1, .int p2] [(oh, .inr (2, G2 oa osize)), ((oa 0), .inl (E 0, 60, .inl of0)), ((oa 1), .inl (E 0, 60, .inl of1)), ((oa 2), .inl (E 0, 60, .inl of2)), ((oa 3), .inl (E 0, 60, .inl of3)), ((oa 4), .inl (E 0, 60, .inl of4))]) (rd_Q (fun r => (r = sumF of0 of1 of2 of3 of4 osize p0 p1 p2))) 0 0 (fun _ => False) := by
  refine Met.ofW (cc := cX2_sumFor) (maxL := 6) (ret := (some .int)) (by decide) rfl ?_
  intro p e s m args below meth c s₁ B hml hv
  obtain ⟨rfl, hP, hK⟩ := hv
  have hx := B.exec; have hb := B.bytes; have hr := B.returns
  have hts := atoms_spec (ws := wl yX2_sumFor cX2_sumFor 6 (some .int)) B.pre
  have htb : ∀ w ∈ tb, w.before _ s = true := fun w h => hts w (List.mem_cons_of_mem _ h)
  have hown : s.vm.findClass RX2 = some m.cls := findClass_of_methodNamed B.named
  have hlocks := B.notSynchronized
  have hP : va_P D vwCl [(oh, .inr (2, G2 oa osize)), ((oa 0), .inl (E 0, 60, .inl of0)), ((oa 1), .inl (E 0, 60, .inl of1)), ((oa 2), .inl (E 0, 60, .inl of2)), ((oa 3), .inl (E 0, 60, .inl of3)), ((oa 4), .inl (E 0, 60, .inl of4))] s.heap := hP
  have hl := lv_entry ([.ref oh, .int p0, .int p1, .int p2]) (n := 6) (Nat.le_of_ble_eq_true rfl)
  rw [lg_entry_eq]
  generalize (lg_sl ([.ref oh, .int p0, .int p1, .int p2]) ++ List.replicate (6 - (lg_sl ([.ref oh, .int p0, .int p1, .int p2])).length) Slot.unset).toArray = ls at hl ⊢
  have hl : lv_has ls 6 [(0, .ref oh), (1, .int p0), (2, .int p1), (3, .int p2)] := hl
  have lo_p0 := i_lo p0; have hi_p0 := i_hi p0
  have lo_p1 := i_lo p1; have hi_p1 := i_hi p1
  have lo_p2 := i_lo p2; have hi_p2 := i_hi p2
  refine lv_iconst (v := 0) hx hb dX2_sumFor_0 (by decide) ?_
  refine lv_istore (lv' := [(4, .int 0), (0, .ref oh), (1, .int p0), (2, .int p1), (3, .int p2)]) hx hb dX2_sumFor_1 hl (by decide) rfl (fun ls hl => ?_)
  refine lv_iload_n hx hb dX2_sumFor_3 rfl (lv_at hl 2 rfl) ?_
  refine lv_if_ne (tgt := 10) hx hb dX2_sumFor_4 (by decide) (fun c_1 => ?_) (fun c_1 => ?_)
  ·
    have ic_1 : p0.toInt ≠ 0 := mt (g_eq rfl t_0).mpr c_1
    clear c_1
    refine lv_iconst (v := 0) hx hb dX2_sumFor_10 (by decide) ?_
    refine lv_istore (lv' := [(5, .int 0), (4, .int 0), (0, .ref oh), (1, .int p0), (2, .int p1), (3, .int p2)]) hx hb dX2_sumFor_11 hl (by decide) rfl (fun ls hl => ?_)
    have loop_2 : ∀ (N_4 : Nat) (L5_13 : Int32) (L4_13 : Int32)  (ls : Array Slot), osize.toInt - L5_13.toInt < (N_4 : Int) → (0 ≤ L5_13.toInt ∧ L5_13.toInt ≤ osize.toInt) → (L4_13 = offS of0 of1 of2 of3 of4 p0 p1 p2 (L5_13).toNatClampNeg) → lv_has ls 6 [(5, .int L5_13), (4, .int L4_13), (0, .ref oh), (1, .int p0), (2, .int p1), (3, .int p2)] → W p l e (headSpec (wl yX2_sumFor cX2_sumFor 6 (some .int)) (RM 0 0 0)).room s m [Value.ref oh, .int p0, .int p1, .int p2].toArray below meth c s.heap [] 0 0 (MQ below (rd_Q (fun r => (r = sumF of0 of1 of2 of3 of4 osize p0 p1 p2))) [Value.ref oh, .int p0, .int p1, .int p2].toArray s 0 0 (fun _ => False)) (F0 m 13 ls []) := by
      intro N_4
      induction N_4 with
      | zero => intro L5_13 L4_13  ls hm v0_13 v1_13 _; exfalso; omega
      | succ N_4 ih_3 =>
        intro L5_13 L4_13 ls hm v0_13 v1_13 hl
        have lo_L5_13 := i_lo L5_13; have hi_L5_13 := i_hi L5_13
        have lo_L4_13 := i_lo L4_13; have hi_L4_13 := i_hi L4_13
        refine lv_iload hx hb dX2_sumFor_13 (lv_at hl 0 rfl) ?_
        refine lv_aload_n hx hb dX2_sumFor_15 rfl (lv_at hl 2 rfl) ?_
        refine va_get (D := D) (ci := 2) (v := .int osize) (C := RX2) (T := TX2) (N := 6) hx hb htb iX2 hown hK.1 hP 0 rfl rfl 5 (by decide) (htb _ k_39) (fun _ h9 => h9) rfl dX2_sumFor_16 ?_
        refine lv_icmp_ge (tgt := 89) hx hb dX2_sumFor_19 (by decide) (fun c_5 => ?_) (fun c_5 => ?_)
        ·
          have ic_5 : osize.toInt ≤ L5_13.toInt := by first | exact (g_le rfl rfl).mp c_5 | (have h := mt (g_lt rfl rfl).mpr c_5; omega)
          clear c_5
          refine lv_iload hx hb dX2_sumFor_89 (lv_at hl 1 rfl) ?_
          exact W.iret (v := L4_13) hx hb hr (fun t ht hW => ⟨L4_13, rfl, (by unfold sumF; have hcl := clampE (i := L5_13) (j := osize) (by omega) (by omega); subst_vars; rw [if_neg (by omega), hcl]), ht⟩) (fun q h => by cases h) dX2_sumFor_91
        ·
          have ic_5 : L5_13.toInt < osize.toInt := by first | exact (g_lt rfl rfl).mp c_5 | (have h := mt (g_le rfl rfl).mpr c_5; omega)
          clear c_5
          refine lv_aload_n hx hb dX2_sumFor_22 rfl (lv_at hl 2 rfl) ?_
          refine va_get (D := D) (ci := 2) (v := .ref (oa 0)) (C := RX2) (T := TX2) (N := 6) hx hb htb iX2 hown hK.1 hP 0 rfl rfl 0 (by decide) (htb _ k_34) (fun _ h9 => h9) rfl dX2_sumFor_23 ?_
          refine lv_iload hx hb dX2_sumFor_26 (lv_at hl 0 rfl) ?_
          refine va_iald hx hb hK.1 hP 1 0 rfl rfl (g_in rfl (by omega) (by omega)) dX2_sumFor_28 ?_
          refine lv_topi (fun z_6 ez_6 => ?_)
          have kz_6 := congrArg Int32.toInt ez_6
          refine lv_iload_n hx hb dX2_sumFor_29 rfl (lv_at hl 3 rfl) ?_
          refine lv_icmp_ne (tgt := 83) hx hb dX2_sumFor_30 (by decide) (fun c_7 => ?_) (fun c_7 => ?_)
          ·
            have ic_7 : z_6.toInt ≠ p0.toInt := mt (g_eq rfl rfl).mpr c_7
            clear c_7
            obtain ⟨z_8, ez_8⟩ : ∃ y : Int32, y = L5_13 + 1 := ⟨_, rfl⟩
            have jz_8 : z_8.toInt = L5_13.toInt + 1 := by rw [ez_8]; exact g_add rfl t_1 (by omega) (by omega)
            refine lv_iinc (v := z_8) (lv' := [(5, .int z_8), (4, .int L4_13), (0, .ref oh), (1, .int p0), (2, .int p1), (3, .int p2)]) hx hb dX2_sumFor_83 hl (k := 0) rfl (by rw [ez_8]; rfl) (by decide) rfl (fun ls hl => ?_)
            refine lv_goto (tgt := 13) hx hb dX2_sumFor_86 (by decide) ?_
            exact ih_3 z_8 L4_13 _ (by (try dsimp only); omega) (by (try dsimp only); omega) (by have hcl := clampS (by omega) jz_8; subst_vars; rw [hcl, offS_succ]; split <;> first | rfl | (exfalso; omega)) (lv_sub hl [0, 1, 2, 3, 4, 5] rfl)
          ·
            have ic_7 : z_6.toInt = p0.toInt := (g_eq rfl rfl).mp c_7
            clear c_7
            refine lv_aload_n hx hb dX2_sumFor_33 rfl (lv_at hl 2 rfl) ?_
            refine va_get (D := D) (ci := 2) (v := .ref (oa 1)) (C := RX2) (T := TX2) (N := 6) hx hb htb iX2 hown hK.1 hP 0 rfl rfl 1 (by decide) (htb _ k_35) (fun _ h9 => h9) rfl dX2_sumFor_34 ?_
            refine lv_iload hx hb dX2_sumFor_37 (lv_at hl 0 rfl) ?_
            refine va_iald hx hb hK.1 hP 2 0 rfl rfl (g_in rfl (by omega) (by omega)) dX2_sumFor_39 ?_
            refine lv_topi (fun z_9 ez_9 => ?_)
            have kz_9 := congrArg Int32.toInt ez_9
            refine lv_iload_n hx hb dX2_sumFor_40 rfl (lv_at hl 4 rfl) ?_
            refine lv_icmp_gt (tgt := 83) hx hb dX2_sumFor_41 (by decide) (fun c_10 => ?_) (fun c_10 => ?_)
            ·
              have ic_10 : p1.toInt < z_9.toInt := by first | exact (g_lt rfl rfl).mp c_10 | (have h := mt (g_le rfl rfl).mpr c_10; omega)
              clear c_10
              obtain ⟨z_11, ez_11⟩ : ∃ y : Int32, y = L5_13 + 1 := ⟨_, rfl⟩
              have jz_11 : z_11.toInt = L5_13.toInt + 1 := by rw [ez_11]; exact g_add rfl t_1 (by omega) (by omega)
              refine lv_iinc (v := z_11) (lv' := [(5, .int z_11), (4, .int L4_13), (0, .ref oh), (1, .int p0), (2, .int p1), (3, .int p2)]) hx hb dX2_sumFor_83 hl (k := 0) rfl (by rw [ez_11]; rfl) (by decide) rfl (fun ls hl => ?_)
              refine lv_goto (tgt := 13) hx hb dX2_sumFor_86 (by decide) ?_
              exact ih_3 z_11 L4_13 _ (by (try dsimp only); omega) (by (try dsimp only); omega) (by have hcl := clampS (by omega) jz_11; subst_vars; rw [hcl, offS_succ]; split <;> first | rfl | (exfalso; omega)) (lv_sub hl [0, 1, 2, 3, 4, 5] rfl)
            ·
              have ic_10 : z_9.toInt ≤ p1.toInt := by first | exact (g_le rfl rfl).mp c_10 | (have h := mt (g_lt rfl rfl).mpr c_10; omega)
              clear c_10
              refine lv_iload_n hx hb dX2_sumFor_44 rfl (lv_at hl 4 rfl) ?_
              refine lv_aload_n hx hb dX2_sumFor_45 rfl (lv_at hl 2 rfl) ?_
              refine va_get (D := D) (ci := 2) (v := .ref (oa 2)) (C := RX2) (T := TX2) (N := 6) hx hb htb iX2 hown hK.1 hP 0 rfl rfl 2 (by decide) (htb _ k_36) (fun _ h9 => h9) rfl dX2_sumFor_46 ?_
              refine lv_iload hx hb dX2_sumFor_49 (lv_at hl 0 rfl) ?_
              refine va_iald hx hb hK.1 hP 3 0 rfl rfl (g_in rfl (by omega) (by omega)) dX2_sumFor_51 ?_
              refine lv_topi (fun z_12 ez_12 => ?_)
              have kz_12 := congrArg Int32.toInt ez_12
              refine lv_icmp_gt (tgt := 83) hx hb dX2_sumFor_52 (by decide) (fun c_13 => ?_) (fun c_13 => ?_)
              ·
                have ic_13 : z_12.toInt < p1.toInt := by first | exact (g_lt rfl rfl).mp c_13 | (have h := mt (g_le rfl rfl).mpr c_13; omega)
                clear c_13
                obtain ⟨z_14, ez_14⟩ : ∃ y : Int32, y = L5_13 + 1 := ⟨_, rfl⟩
                have jz_14 : z_14.toInt = L5_13.toInt + 1 := by rw [ez_14]; exact g_add rfl t_1 (by omega) (by omega)
                refine lv_iinc (v := z_14) (lv' := [(5, .int z_14), (4, .int L4_13), (0, .ref oh), (1, .int p0), (2, .int p1), (3, .int p2)]) hx hb dX2_sumFor_83 hl (k := 0) rfl (by rw [ez_14]; rfl) (by decide) rfl (fun ls hl => ?_)
                refine lv_goto (tgt := 13) hx hb dX2_sumFor_86 (by decide) ?_
                exact ih_3 z_14 L4_13 _ (by (try dsimp only); omega) (by (try dsimp only); omega) (by have hcl := clampS (by omega) jz_14; subst_vars; rw [hcl, offS_succ]; split <;> first | rfl | (exfalso; omega)) (lv_sub hl [0, 1, 2, 3, 4, 5] rfl)
              ·
                have ic_13 : p1.toInt ≤ z_12.toInt := by first | exact (g_le rfl rfl).mp c_13 | (have h := mt (g_lt rfl rfl).mpr c_13; omega)
                clear c_13
                refine lv_iload_n hx hb dX2_sumFor_55 rfl (lv_at hl 5 rfl) ?_
                refine lv_iconst (v := (-1)) hx hb dX2_sumFor_56 (by decide) ?_
                refine lv_icmp_eq (tgt := 71) hx hb dX2_sumFor_57 (by decide) (fun c_15 => ?_) (fun c_15 => ?_)
                ·
                  have ic_15 : p2.toInt = -1 := (g_eq rfl t_m1).mp c_15
                  clear c_15
                  refine lv_iload hx hb dX2_sumFor_71 (lv_at hl 1 rfl) ?_
                  refine lv_aload_n hx hb dX2_sumFor_73 rfl (lv_at hl 2 rfl) ?_
                  refine va_get (D := D) (ci := 2) (v := .ref (oa 3)) (C := RX2) (T := TX2) (N := 6) hx hb htb iX2 hown hK.1 hP 0 rfl rfl 3 (by decide) (htb _ k_37) (fun _ h9 => h9) rfl dX2_sumFor_74 ?_
                  refine lv_iload hx hb dX2_sumFor_77 (lv_at hl 0 rfl) ?_
                  refine va_iald hx hb hK.1 hP 4 0 rfl rfl (g_in rfl (by omega) (by omega)) dX2_sumFor_79 ?_
                  refine lv_topi (fun z_16 ez_16 => ?_)
                  have kz_16 := congrArg Int32.toInt ez_16
                  refine lv_iadd hx hb dX2_sumFor_80 ?_
                  refine lv_topi (fun z_17 ez_17 => ?_)
                  refine lv_istore (lv' := [(4, .int z_17), (5, .int L5_13), (0, .ref oh), (1, .int p0), (2, .int p1), (3, .int p2)]) hx hb dX2_sumFor_81 hl (by decide) rfl (fun ls hl => ?_)
                  obtain ⟨z_18, ez_18⟩ : ∃ y : Int32, y = L5_13 + 1 := ⟨_, rfl⟩
                  have jz_18 : z_18.toInt = L5_13.toInt + 1 := by rw [ez_18]; exact g_add rfl t_1 (by omega) (by omega)
                  refine lv_iinc (v := z_18) (lv' := [(5, .int z_18), (4, .int z_17), (0, .ref oh), (1, .int p0), (2, .int p1), (3, .int p2)]) hx hb dX2_sumFor_83 hl (k := 1) rfl (by rw [ez_18]; rfl) (by decide) rfl (fun ls hl => ?_)
                  refine lv_goto (tgt := 13) hx hb dX2_sumFor_86 (by decide) ?_
                  exact ih_3 z_18 z_17 _ (by (try dsimp only); omega) (by (try dsimp only); omega) (by have hcl := clampS (by omega) jz_18; subst_vars; rw [hcl, offS_succ]; split <;> first | rfl | (exfalso; omega)) (lv_sub hl [0, 1, 2, 3, 4, 5] rfl)
                ·
                  have ic_15 : p2.toInt ≠ -1 := mt (g_eq rfl t_m1).mpr c_15
                  clear c_15
                  refine lv_aload_n hx hb dX2_sumFor_60 rfl (lv_at hl 2 rfl) ?_
                  refine va_get (D := D) (ci := 2) (v := .ref (oa 4)) (C := RX2) (T := TX2) (N := 6) hx hb htb iX2 hown hK.1 hP 0 rfl rfl 4 (by decide) (htb _ k_38) (fun _ h9 => h9) rfl dX2_sumFor_61 ?_
                  refine lv_iload hx hb dX2_sumFor_64 (lv_at hl 0 rfl) ?_
                  refine va_iald hx hb hK.1 hP 5 0 rfl rfl (g_in rfl (by omega) (by omega)) dX2_sumFor_66 ?_
                  refine lv_topi (fun z_19 ez_19 => ?_)
                  have kz_19 := congrArg Int32.toInt ez_19
                  refine lv_iload_n hx hb dX2_sumFor_67 rfl (lv_at hl 5 rfl) ?_
                  refine lv_icmp_gt (tgt := 83) hx hb dX2_sumFor_68 (by decide) (fun c_20 => ?_) (fun c_20 => ?_)
                  ·
                    have ic_20 : p2.toInt < z_19.toInt := by first | exact (g_lt rfl rfl).mp c_20 | (have h := mt (g_le rfl rfl).mpr c_20; omega)
                    clear c_20
                    obtain ⟨z_21, ez_21⟩ : ∃ y : Int32, y = L5_13 + 1 := ⟨_, rfl⟩
                    have jz_21 : z_21.toInt = L5_13.toInt + 1 := by rw [ez_21]; exact g_add rfl t_1 (by omega) (by omega)
                    refine lv_iinc (v := z_21) (lv' := [(5, .int z_21), (4, .int L4_13), (0, .ref oh), (1, .int p0), (2, .int p1), (3, .int p2)]) hx hb dX2_sumFor_83 hl (k := 0) rfl (by rw [ez_21]; rfl) (by decide) rfl (fun ls hl => ?_)
                    refine lv_goto (tgt := 13) hx hb dX2_sumFor_86 (by decide) ?_
                    exact ih_3 z_21 L4_13 _ (by (try dsimp only); omega) (by (try dsimp only); omega) (by have hcl := clampS (by omega) jz_21; subst_vars; rw [hcl, offS_succ]; split <;> first | rfl | (exfalso; omega)) (lv_sub hl [0, 1, 2, 3, 4, 5] rfl)
                  ·
                    have ic_20 : z_19.toInt ≤ p2.toInt := by first | exact (g_le rfl rfl).mp c_20 | (have h := mt (g_lt rfl rfl).mpr c_20; omega)
                    clear c_20
                    refine lv_iload hx hb dX2_sumFor_71 (lv_at hl 1 rfl) ?_
                    refine lv_aload_n hx hb dX2_sumFor_73 rfl (lv_at hl 2 rfl) ?_
                    refine va_get (D := D) (ci := 2) (v := .ref (oa 3)) (C := RX2) (T := TX2) (N := 6) hx hb htb iX2 hown hK.1 hP 0 rfl rfl 3 (by decide) (htb _ k_37) (fun _ h9 => h9) rfl dX2_sumFor_74 ?_
                    refine lv_iload hx hb dX2_sumFor_77 (lv_at hl 0 rfl) ?_
                    refine va_iald hx hb hK.1 hP 4 0 rfl rfl (g_in rfl (by omega) (by omega)) dX2_sumFor_79 ?_
                    refine lv_topi (fun z_22 ez_22 => ?_)
                    have kz_22 := congrArg Int32.toInt ez_22
                    refine lv_iadd hx hb dX2_sumFor_80 ?_
                    refine lv_topi (fun z_23 ez_23 => ?_)
                    refine lv_istore (lv' := [(4, .int z_23), (5, .int L5_13), (0, .ref oh), (1, .int p0), (2, .int p1), (3, .int p2)]) hx hb dX2_sumFor_81 hl (by decide) rfl (fun ls hl => ?_)
                    obtain ⟨z_24, ez_24⟩ : ∃ y : Int32, y = L5_13 + 1 := ⟨_, rfl⟩
                    have jz_24 : z_24.toInt = L5_13.toInt + 1 := by rw [ez_24]; exact g_add rfl t_1 (by omega) (by omega)
                    refine lv_iinc (v := z_24) (lv' := [(5, .int z_24), (4, .int z_23), (0, .ref oh), (1, .int p0), (2, .int p1), (3, .int p2)]) hx hb dX2_sumFor_83 hl (k := 1) rfl (by rw [ez_24]; rfl) (by decide) rfl (fun ls hl => ?_)
                    refine lv_goto (tgt := 13) hx hb dX2_sumFor_86 (by decide) ?_
                    exact ih_3 z_24 z_23 _ (by (try dsimp only); omega) (by (try dsimp only); omega) (by have hcl := clampS (by omega) jz_24; subst_vars; rw [hcl, offS_succ]; split <;> first | rfl | (exfalso; omega)) (lv_sub hl [0, 1, 2, 3, 4, 5] rfl)
    exact loop_2 61 0 0 _ (by have h0 := t_0; (try dsimp only); omega) (by have h0 := t_0; (try dsimp only); omega) (by rfl)  (lv_sub hl [0, 1, 2, 3, 4, 5] rfl)
  ·
    have ic_1 : p0.toInt = 0 := (g_eq rfl t_0).mp c_1
    clear c_1
    refine lv_iload hx hb dX2_sumFor_7 (lv_at hl 0 rfl) ?_
    exact W.iret (v := 0) hx hb hr (fun t ht hW => ⟨0, rfl, (by unfold sumF; rw [if_pos (by omega)]), ht⟩) (fun q h => by cases h) dX2_sumFor_9
set_option maxHeartbeats 4000000 in
set_option maxRecDepth 100000 in
theorem g_X7_becomeNew (l : Launch) (D : va_G) (E : Nat → Nat) (wh : Nat) (wa : Nat → Nat) (wf0 : Nat → Int32) (wf1 : Nat → Int32) (wf2 : Nat → Int32) (wf3 : Nat → Int32) (sz : Nat)  : Met l yX7_becomeNew (wl yX7_becomeNew cX7_becomeNew 2 none) (RM 0 0 0) (mu_P D E [.ref wh] [(wh, .inr (7, G7 wa)), ((wa 0), .inl (E 0, 400, .inl wf0)), ((wa 1), .inl (E 0, 400, .inl wf1)), ((wa 2), .inl (E 0, 400, .inl wf2)), ((wa 3), .inl (E 0, 400, .inl wf3))] sz) (va_Qv (fun (u : (Nat → Int32) × (Nat → Int32) × (Nat → Int32) × (Nat → Int32)) => (NEW4 u.1 u.2.1 u.2.2.1 u.2.2.2 400)) (mu_B D (va_A [(wh, .inr (7, G7 wa)), ((wa 0), .inl (E 0, 400, .inl wf0)), ((wa 1), .inl (E 0, 400, .inl wf1)), ((wa 2), .inl (E 0, 400, .inl wf2)), ((wa 3), .inl (E 0, 400, .inl wf3))] sz) (fun (u : (Nat → Int32) × (Nat → Int32) × (Nat → Int32) × (Nat → Int32)) => [(wh, .inr (7, G7 wa)), ((wa 0), .inl (E 0, 400, .inl u.1)), ((wa 1), .inl (E 0, 400, .inl u.2.1)), ((wa 2), .inl (E 0, 400, .inl u.2.2.1)), ((wa 3), .inl (E 0, 400, .inl u.2.2.2))])) (va_A [(wh, .inr (7, G7 wa)), ((wa 0), .inl (E 0, 400, .inl wf0)), ((wa 1), .inl (E 0, 400, .inl wf1)), ((wa 2), .inl (E 0, 400, .inl wf2)), ((wa 3), .inl (E 0, 400, .inl wf3))] sz)) 0 0 (va_A [(wh, .inr (7, G7 wa)), ((wa 0), .inl (E 0, 400, .inl wf0)), ((wa 1), .inl (E 0, 400, .inl wf1)), ((wa 2), .inl (E 0, 400, .inl wf2)), ((wa 3), .inl (E 0, 400, .inl wf3))] sz) := by
  refine Met.ofW (cc := cX7_becomeNew) (maxL := 2) (ret := none) (by decide) rfl ?_
  intro p e s m args below meth c s₁ B hml hv
  obtain ⟨rfl, hsz, hP, hK, hD0⟩ := hv
  have hx := B.exec; have hb := B.bytes; have hr := B.returns
  have hts := atoms_spec (ws := wl yX7_becomeNew cX7_becomeNew 2 none) B.pre
  have htb : ∀ w ∈ tb, w.before _ s = true := fun w h => hts w (List.mem_cons_of_mem _ h)
  have hown : s.vm.findClass RX7 = some m.cls := findClass_of_methodNamed B.named
  have hlocks := B.notSynchronized
  subst hsz
  have hD := hD0.self (sz := s.heap.size)
  generalize hAe : va_A [(wh, .inr (7, G7 wa)), ((wa 0), .inl (E 0, 400, .inl wf0)), ((wa 1), .inl (E 0, 400, .inl wf1)), ((wa 2), .inl (E 0, 400, .inl wf2)), ((wa 3), .inl (E 0, 400, .inl wf3))] s.heap.size = A at hD ⊢
  have hA : ∀ q : Nat, s.heap.size ≤ q → A q := fun q h => by rw [← hAe]; exact Or.inr h
  have hS : va_S A s.heap s.heap [] := va_S.rf
  have hP : va_P D vwCl [(wh, .inr (7, G7 wa)), ((wa 0), .inl (E 0, 400, .inl wf0)), ((wa 1), .inl (E 0, 400, .inl wf1)), ((wa 2), .inl (E 0, 400, .inl wf2)), ((wa 3), .inl (E 0, 400, .inl wf3))] s.heap := hP
  have hl := lv_entry ([.ref wh]) (n := 2) (Nat.le_of_ble_eq_true rfl)
  rw [lg_entry_eq]
  generalize (lg_sl ([.ref wh]) ++ List.replicate (2 - (lg_sl ([.ref wh])).length) Slot.unset).toArray = ls at hl ⊢
  have hl : lv_has ls 2 [(0, .ref wh)] := hl
  refine lv_iconst (v := 0) hx hb dX7_becomeNew_0 (by decide) ?_
  refine lv_istore_n (lv' := [(1, .int 0), (0, .ref wh)]) hx hb dX7_becomeNew_1 rfl hl (by decide) rfl (fun ls hl => ?_)
  have loop_1 : ∀ (N_3 : Nat) (L1_2 : Int32) (wf0_2 : Nat → Int32) (wf1_2 : Nat → Int32) (wf2_2 : Nat → Int32) (wf3_2 : Nat → Int32) (H : Heap) (locs : List Loc) (ls : Array Slot), 400 - L1_2.toInt < (N_3 : Int) → (0 ≤ L1_2.toInt ∧ L1_2.toInt ≤ 400) → (NEW4 wf0_2 wf1_2 wf2_2 wf3_2 L1_2.toInt) → va_P D vwCl [(wh, .inr (7, G7 wa)), ((wa 0), .inl (E 0, 400, .inl wf0_2)), ((wa 1), .inl (E 0, 400, .inl wf1_2)), ((wa 2), .inl (E 0, 400, .inl wf2_2)), ((wa 3), .inl (E 0, 400, .inl wf3_2))] H → va_D A [(wh, .inr (7, G7 wa)), ((wa 0), .inl (E 0, 400, .inl wf0_2)), ((wa 1), .inl (E 0, 400, .inl wf1_2)), ((wa 2), .inl (E 0, 400, .inl wf2_2)), ((wa 3), .inl (E 0, 400, .inl wf3_2))] → va_S A s.heap H locs → lv_has ls 2 [(1, .int L1_2), (0, .ref wh)] → W p l e (headSpec (wl yX7_becomeNew cX7_becomeNew 2 none) (RM 0 0 0)).room s m [Value.ref wh].toArray below meth c H locs 0 0 (MQ below (va_Qv (fun (u : (Nat → Int32) × (Nat → Int32) × (Nat → Int32) × (Nat → Int32)) => (NEW4 u.1 u.2.1 u.2.2.1 u.2.2.2 400)) (mu_B D A (fun (u : (Nat → Int32) × (Nat → Int32) × (Nat → Int32) × (Nat → Int32)) => [(wh, .inr (7, G7 wa)), ((wa 0), .inl (E 0, 400, .inl u.1)), ((wa 1), .inl (E 0, 400, .inl u.2.1)), ((wa 2), .inl (E 0, 400, .inl u.2.2.1)), ((wa 3), .inl (E 0, 400, .inl u.2.2.2))])) A) [Value.ref wh].toArray s 0 0 A) (F0 m 2 ls []) := by
    intro N_3
    induction N_3 with
    | zero => intro L1_2 wf0_2 wf1_2 wf2_2 wf3_2 H locs ls hm v0_2 v1_2 _ _ _ _; exfalso; omega
    | succ N_3 ih_2 =>
      intro L1_2 wf0_2 wf1_2 wf2_2 wf3_2 H locs ls hm v0_2 v1_2 hP hD hS hl
      have lo_L1_2 := i_lo L1_2; have hi_L1_2 := i_hi L1_2
      refine lv_iload_n hx hb dX7_becomeNew_2 rfl (lv_at hl 0 rfl) ?_
      refine lv_sipush (v := 400) hx hb dX7_becomeNew_3 (by decide) ?_
      refine lv_icmp_ge (tgt := 43) hx hb dX7_becomeNew_6 (by decide) (fun c_4 => ?_) (fun c_4 => ?_)
      ·
        have ic_4 : 400 ≤ L1_2.toInt := by first | exact (g_le t_400 rfl).mp c_4 | (have h := mt (g_lt rfl t_400).mpr c_4; omega)
        clear c_4
        have hP9 := hP.sub (ws' := [(wh, .inr (7, G7 wa)), ((wa 0), .inl (E 0, 400, .inl wf0_2)), ((wa 1), .inl (E 0, 400, .inl wf1_2)), ((wa 2), .inl (E 0, 400, .inl wf2_2)), ((wa 3), .inl (E 0, 400, .inl wf3_2))]) [0, 1, 2, 3, 4] rfl
        have hD9 := hD.sub (ws' := [(wh, .inr (7, G7 wa)), ((wa 0), .inl (E 0, 400, .inl wf0_2)), ((wa 1), .inl (E 0, 400, .inl wf1_2)), ((wa 2), .inl (E 0, 400, .inl wf2_2)), ((wa 3), .inl (E 0, 400, .inl wf3_2))]) [0, 1, 2, 3, 4] (by decide) rfl
        exact W.vret hx hb hr (fun t ht hW => ⟨⟨(wf0_2, wf1_2, wf2_2, wf3_2), rfl, (by have h9 := v1_2; rw [show L1_2.toInt = 400 by omega] at h9; exact h9), by rw [ht]; exact hP9, hD9⟩, hS.F ht⟩) hS.2.2 dX7_becomeNew_43
      ·
        have ic_4 : L1_2.toInt < 400 := by first | exact (g_lt rfl t_400).mp c_4 | (have h := mt (g_le t_400 rfl).mpr c_4; omega)
        clear c_4
        refine lv_aload_n hx hb dX7_becomeNew_9 rfl (lv_at hl 1 rfl) ?_
        refine va_get (D := D) (ci := 7) (v := .ref (wa 0)) (C := RX7) (T := TX7) (N := 4) hx hb htb iX7 hown hK.1 hP 0 rfl rfl 0 (by decide) (htb _ k_348) (fun _ h9 => h9) rfl dX7_becomeNew_10 ?_
        refine lv_iload_n hx hb dX7_becomeNew_13 rfl (lv_at hl 0 rfl) ?_
        refine lv_iconst (v := 0) hx hb dX7_becomeNew_14 (by decide) ?_
        refine va_iast hx hb hK.1 hP hD hS 1 0 rfl rfl (g_in rfl (by omega) (by omega)) dX7_becomeNew_15 (fun H locs hP hD hS => ?_)
        have hP : va_P D vwCl [(wh, .inr (7, G7 wa)), ((wa 0), .inl (E 0, 400, .inl (upd wf0_2 (L1_2 : Int32).toNatClampNeg 0))), ((wa 1), .inl (E 0, 400, .inl wf1_2)), ((wa 2), .inl (E 0, 400, .inl wf2_2)), ((wa 3), .inl (E 0, 400, .inl wf3_2))] H := hP
        have hD := toW hP hD rfl
        refine lv_aload_n hx hb dX7_becomeNew_16 rfl (lv_at hl 1 rfl) ?_
        refine va_get (D := D) (ci := 7) (v := .ref (wa 1)) (C := RX7) (T := TX7) (N := 4) hx hb htb iX7 hown hK.1 hP 0 rfl rfl 1 (by decide) (htb _ k_349) (fun _ h9 => h9) rfl dX7_becomeNew_17 ?_
        refine lv_iload_n hx hb dX7_becomeNew_20 rfl (lv_at hl 0 rfl) ?_
        refine lv_iconst (v := (-1)) hx hb dX7_becomeNew_21 (by decide) ?_
        refine va_iast hx hb hK.1 hP hD hS 2 0 rfl rfl (g_in rfl (by omega) (by omega)) dX7_becomeNew_22 (fun H locs hP hD hS => ?_)
        have hP : va_P D vwCl [(wh, .inr (7, G7 wa)), ((wa 0), .inl (E 0, 400, .inl (upd wf0_2 (L1_2 : Int32).toNatClampNeg 0))), ((wa 1), .inl (E 0, 400, .inl (upd wf1_2 (L1_2 : Int32).toNatClampNeg (-1)))), ((wa 2), .inl (E 0, 400, .inl wf2_2)), ((wa 3), .inl (E 0, 400, .inl wf3_2))] H := hP
        have hD := toW hP hD rfl
        refine lv_aload_n hx hb dX7_becomeNew_23 rfl (lv_at hl 1 rfl) ?_
        refine va_get (D := D) (ci := 7) (v := .ref (wa 2)) (C := RX7) (T := TX7) (N := 4) hx hb htb iX7 hown hK.1 hP 0 rfl rfl 2 (by decide) (htb _ k_350) (fun _ h9 => h9) rfl dX7_becomeNew_24 ?_
        refine lv_iload_n hx hb dX7_becomeNew_27 rfl (lv_at hl 0 rfl) ?_
        refine lv_iconst (v := 0) hx hb dX7_becomeNew_28 (by decide) ?_
        refine va_iast hx hb hK.1 hP hD hS 3 0 rfl rfl (g_in rfl (by omega) (by omega)) dX7_becomeNew_29 (fun H locs hP hD hS => ?_)
        have hP : va_P D vwCl [(wh, .inr (7, G7 wa)), ((wa 0), .inl (E 0, 400, .inl (upd wf0_2 (L1_2 : Int32).toNatClampNeg 0))), ((wa 1), .inl (E 0, 400, .inl (upd wf1_2 (L1_2 : Int32).toNatClampNeg (-1)))), ((wa 2), .inl (E 0, 400, .inl (upd wf2_2 (L1_2 : Int32).toNatClampNeg 0))), ((wa 3), .inl (E 0, 400, .inl wf3_2))] H := hP
        have hD := toW hP hD rfl
        refine lv_aload_n hx hb dX7_becomeNew_30 rfl (lv_at hl 1 rfl) ?_
        refine va_get (D := D) (ci := 7) (v := .ref (wa 3)) (C := RX7) (T := TX7) (N := 4) hx hb htb iX7 hown hK.1 hP 0 rfl rfl 3 (by decide) (htb _ k_351) (fun _ h9 => h9) rfl dX7_becomeNew_31 ?_
        refine lv_iload_n hx hb dX7_becomeNew_34 rfl (lv_at hl 0 rfl) ?_
        refine lv_iconst (v := (-1)) hx hb dX7_becomeNew_35 (by decide) ?_
        refine va_iast hx hb hK.1 hP hD hS 4 0 rfl rfl (g_in rfl (by omega) (by omega)) dX7_becomeNew_36 (fun H locs hP hD hS => ?_)
        have hP : va_P D vwCl [(wh, .inr (7, G7 wa)), ((wa 0), .inl (E 0, 400, .inl (upd wf0_2 (L1_2 : Int32).toNatClampNeg 0))), ((wa 1), .inl (E 0, 400, .inl (upd wf1_2 (L1_2 : Int32).toNatClampNeg (-1)))), ((wa 2), .inl (E 0, 400, .inl (upd wf2_2 (L1_2 : Int32).toNatClampNeg 0))), ((wa 3), .inl (E 0, 400, .inl (upd wf3_2 (L1_2 : Int32).toNatClampNeg (-1))))] H := hP
        have hD := toW hP hD rfl
        obtain ⟨z_5, ez_5⟩ : ∃ y : Int32, y = L1_2 + 1 := ⟨_, rfl⟩
        have jz_5 : z_5.toInt = L1_2.toInt + 1 := by rw [ez_5]; exact g_add rfl t_1 (by omega) (by omega)
        refine lv_iinc (v := z_5) (lv' := [(1, .int z_5), (0, .ref wh)]) hx hb dX7_becomeNew_37 hl (k := 0) rfl (by rw [ez_5]; rfl) (by decide) rfl (fun ls hl => ?_)
        refine lv_goto (tgt := 2) hx hb dX7_becomeNew_40 (by decide) ?_
        exact ih_2 z_5 (upd wf0_2 (L1_2 : Int32).toNatClampNeg 0) (upd wf1_2 (L1_2 : Int32).toNatClampNeg (-1)) (upd wf2_2 (L1_2 : Int32).toNatClampNeg 0) (upd wf3_2 (L1_2 : Int32).toNatClampNeg (-1)) _ _ _ (by (try dsimp only); omega) (by (try dsimp only); omega) (NEW4_s v1_2 (by omega) rfl (by omega)) hP hD hS (lv_sub hl [0, 1] rfl)
  exact loop_1 401 0 wf0 wf1 wf2 wf3 _ _ _ (by have h0 := t_0; (try dsimp only); omega) (by have h0 := t_0; (try dsimp only); omega) (NEW4_0 (by decide)) hP hD hS (lv_sub hl [0, 1] rfl)
set_option maxHeartbeats 4000000 in
set_option maxRecDepth 100000 in
theorem g_X7_isCompared (l : Launch) (D : va_G) (E : Nat → Nat) (wh : Nat) (wa : Nat → Nat) (wf1 : Nat → Int32) (p0 : Int32)  : Met l yX7_isCompared (wl yX7_isCompared cX7_isCompared 2 (some .boolean)) (RM 1 0 0) (rd_P D E [.ref wh, .int p0] [(wh, .inr (7, G7 wa)), ((wa 1), .inl (E 0, 400, .inl wf1))]) (rd_Q (fun r => ((r.toInt = 1 ∧ ((0 ≤ p0.toInt ∧ p0.toInt ≤ 399) ∧ (wf1 (p0).toNatClampNeg).toInt ≠ -1)) ∨ (r.toInt = 0 ∧ ¬ ((0 ≤ p0.toInt ∧ p0.toInt ≤ 399) ∧ (wf1 (p0).toNatClampNeg).toInt ≠ -1))))) 0 0 (fun _ => False) := by
  refine Met.ofW (cc := cX7_isCompared) (maxL := 2) (ret := (some .boolean)) (by decide) rfl ?_
  intro p e s m args below meth c s₁ B hml hv
  obtain ⟨rfl, hP, hK⟩ := hv
  have hx := B.exec; have hb := B.bytes; have hr := B.returns
  have hts := atoms_spec (ws := wl yX7_isCompared cX7_isCompared 2 (some .boolean)) B.pre
  have htb : ∀ w ∈ tb, w.before _ s = true := fun w h => hts w (List.mem_cons_of_mem _ h)
  have hown : s.vm.findClass RX7 = some m.cls := findClass_of_methodNamed B.named
  have hlocks := B.notSynchronized
  have hP : va_P D vwCl [(wh, .inr (7, G7 wa)), ((wa 1), .inl (E 0, 400, .inl wf1))] s.heap := hP
  have hl := lv_entry ([.ref wh, .int p0]) (n := 2) (Nat.le_of_ble_eq_true rfl)
  rw [lg_entry_eq]
  generalize (lg_sl ([.ref wh, .int p0]) ++ List.replicate (2 - (lg_sl ([.ref wh, .int p0])).length) Slot.unset).toArray = ls at hl ⊢
  have hl : lv_has ls 2 [(0, .ref wh), (1, .int p0)] := hl
  have lo_p0 := i_lo p0; have hi_p0 := i_hi p0
  refine lv_iload_n hx hb dX7_isCompared_0 rfl (lv_at hl 1 rfl) ?_
  refine callRSN (rest := []) (As := [.int p0]) hx hb hml hown htb hK (g_X8_isDay l D E p0 ) ok_X8_isDay (show Cond.methodLinkNest RX7 24 yX8_isDay RX8 ∈ nestW by decide +kernel) k_324 k_1 k_325 ⟨(Nat.le_of_ble_eq_true rfl), (Nat.le_of_ble_eq_true rfl)⟩ ⟨(Nat.le_of_ble_eq_true rfl), (Nat.le_of_ble_eq_true rfl)⟩ hl.1 (Nat.le_of_ble_eq_true rfl) rfl rfl dX7_isCompared_1 (hP.sub (ws' := ([] : va_W)) [] rfl) (fun r_1 hw_2 => ?_)
  rcases hw_2 with ⟨hr_1, hw_2⟩ | ⟨hr_1, hw_2⟩
  ·
    refine W_top (y := .int 1) (by rw [hr_1]) ?_
    refine lv_if_eq (tgt := 21) hx hb dX7_isCompared_4 (by decide) (fun c_4 => absurd c_4 (by decide)) (fun c_4 => ?_)
    refine lv_aload_n hx hb dX7_isCompared_7 rfl (lv_at hl 0 rfl) ?_
    refine va_get (D := D) (ci := 7) (v := .ref (wa 1)) (C := RX7) (T := TX7) (N := 4) hx hb htb iX7 hown hK.1 hP 0 rfl rfl 1 (by decide) (htb _ k_349) (fun _ h9 => h9) rfl dX7_isCompared_8 ?_
    refine lv_iload_n hx hb dX7_isCompared_11 rfl (lv_at hl 1 rfl) ?_
    refine va_iald hx hb hK.1 hP 1 0 rfl rfl (g_in rfl (by omega) (by omega)) dX7_isCompared_12 ?_
    refine lv_topi (fun z_5 ez_5 => ?_)
    have kz_5 := congrArg Int32.toInt ez_5
    refine lv_iconst (v := (-1)) hx hb dX7_isCompared_13 (by decide) ?_
    refine lv_icmp_eq (tgt := 21) hx hb dX7_isCompared_14 (by decide) (fun c_6 => ?_) (fun c_6 => ?_)
    ·
      have ic_6 : z_5.toInt = -1 := (g_eq rfl t_m1).mp c_6
      clear c_6
      refine lv_iconst (v := 0) hx hb dX7_isCompared_21 (by decide) ?_
      exact W.zret (v := 0) hx hb hr rfl (fun t ht hW => ⟨0, rfl, (by have h0 := t_0; (try dsimp only); omega), ht⟩) (fun q h => by cases h) dX7_isCompared_22
    ·
      have ic_6 : z_5.toInt ≠ -1 := mt (g_eq rfl t_m1).mpr c_6
      clear c_6
      refine lv_iconst (v := 1) hx hb dX7_isCompared_17 (by decide) ?_
      refine lv_goto (tgt := 22) hx hb dX7_isCompared_18 (by decide) ?_
      exact W.zret (v := 1) hx hb hr rfl (fun t ht hW => ⟨1, rfl, (by have h0 := t_1; (try dsimp only); omega), ht⟩) (fun q h => by cases h) dX7_isCompared_22
  ·
    refine W_top (y := .int 0) (by rw [hr_1]) ?_
    refine lv_if_eq (tgt := 21) hx hb dX7_isCompared_4 (by decide) (fun c_7 => ?_) (fun c_7 => absurd (by decide) c_7)
    refine lv_iconst (v := 0) hx hb dX7_isCompared_21 (by decide) ?_
    exact W.zret (v := 0) hx hb hr rfl (fun t ht hW => ⟨0, rfl, (by have h0 := t_0; (try dsimp only); omega), ht⟩) (fun q h => by cases h) dX7_isCompared_22
set_option maxHeartbeats 4000000 in
set_option maxRecDepth 100000 in
theorem g_X7_tell (l : Launch) (D : va_G) (E : Nat → Nat) (wh : Nat) (wa : Nat → Nat) (wf0 : Nat → Int32) (wf1 : Nat → Int32) (p0 : Int32) (p1 : Int32) (p2 : Int32) (sz : Nat)  : Met l yX7_tell (wl yX7_tell cX7_tell 4 none) (RM 1 0 0) (mu_P D E [.ref wh, .int p0, .int p1, .int p2] [(wh, .inr (7, G7 wa)), ((wa 0), .inl (E 0, 400, .inl wf0)), ((wa 1), .inl (E 0, 400, .inl wf1))] sz) (va_Qv (fun (u : (Nat → Int32) × (Nat → Int32)) => (((0 ≤ p0.toInt ∧ p0.toInt ≤ 399) ∧ u.1 = upd wf0 (p0).toNatClampNeg p1 ∧ u.2 = upd wf1 (p0).toNatClampNeg p2) ∨ (¬ (0 ≤ p0.toInt ∧ p0.toInt ≤ 399) ∧ u.1 = wf0 ∧ u.2 = wf1))) (mu_B D (va_A [(wh, .inr (7, G7 wa)), ((wa 0), .inl (E 0, 400, .inl wf0)), ((wa 1), .inl (E 0, 400, .inl wf1))] sz) (fun (u : (Nat → Int32) × (Nat → Int32)) => [(wh, .inr (7, G7 wa)), ((wa 0), .inl (E 0, 400, .inl u.1)), ((wa 1), .inl (E 0, 400, .inl u.2))])) (va_A [(wh, .inr (7, G7 wa)), ((wa 0), .inl (E 0, 400, .inl wf0)), ((wa 1), .inl (E 0, 400, .inl wf1))] sz)) 0 0 (va_A [(wh, .inr (7, G7 wa)), ((wa 0), .inl (E 0, 400, .inl wf0)), ((wa 1), .inl (E 0, 400, .inl wf1))] sz) := by
  refine Met.ofW (cc := cX7_tell) (maxL := 4) (ret := none) (by decide) rfl ?_
  intro p e s m args below meth c s₁ B hml hv
  obtain ⟨rfl, hsz, hP, hK, hD0⟩ := hv
  have hx := B.exec; have hb := B.bytes; have hr := B.returns
  have hts := atoms_spec (ws := wl yX7_tell cX7_tell 4 none) B.pre
  have htb : ∀ w ∈ tb, w.before _ s = true := fun w h => hts w (List.mem_cons_of_mem _ h)
  have hown : s.vm.findClass RX7 = some m.cls := findClass_of_methodNamed B.named
  have hlocks := B.notSynchronized
  subst hsz
  have hD := hD0.self (sz := s.heap.size)
  generalize hAe : va_A [(wh, .inr (7, G7 wa)), ((wa 0), .inl (E 0, 400, .inl wf0)), ((wa 1), .inl (E 0, 400, .inl wf1))] s.heap.size = A at hD ⊢
  have hA : ∀ q : Nat, s.heap.size ≤ q → A q := fun q h => by rw [← hAe]; exact Or.inr h
  have hS : va_S A s.heap s.heap [] := va_S.rf
  have hP : va_P D vwCl [(wh, .inr (7, G7 wa)), ((wa 0), .inl (E 0, 400, .inl wf0)), ((wa 1), .inl (E 0, 400, .inl wf1))] s.heap := hP
  have hl := lv_entry ([.ref wh, .int p0, .int p1, .int p2]) (n := 4) (Nat.le_of_ble_eq_true rfl)
  rw [lg_entry_eq]
  generalize (lg_sl ([.ref wh, .int p0, .int p1, .int p2]) ++ List.replicate (4 - (lg_sl ([.ref wh, .int p0, .int p1, .int p2])).length) Slot.unset).toArray = ls at hl ⊢
  have hl : lv_has ls 4 [(0, .ref wh), (1, .int p0), (2, .int p1), (3, .int p2)] := hl
  have lo_p0 := i_lo p0; have hi_p0 := i_hi p0
  have lo_p1 := i_lo p1; have hi_p1 := i_hi p1
  have lo_p2 := i_lo p2; have hi_p2 := i_hi p2
  refine lv_iload_n hx hb dX7_tell_0 rfl (lv_at hl 1 rfl) ?_
  refine callRSN (rest := []) (As := [.int p0]) hx hb hml hown htb hK (g_X8_isDay l D E p0 ) ok_X8_isDay (show Cond.methodLinkNest RX7 24 yX8_isDay RX8 ∈ nestW by decide +kernel) k_324 k_1 k_325 ⟨(Nat.le_of_ble_eq_true rfl), (Nat.le_of_ble_eq_true rfl)⟩ ⟨(Nat.le_of_ble_eq_true rfl), (Nat.le_of_ble_eq_true rfl)⟩ hl.1 (Nat.le_of_ble_eq_true rfl) rfl rfl dX7_tell_1 (hP.sub (ws' := ([] : va_W)) [] rfl) (fun r_1 hw_2 => ?_)
  rcases hw_2 with ⟨hr_1, hw_2⟩ | ⟨hr_1, hw_2⟩
  ·
    refine W_top (y := .int 1) (by rw [hr_1]) ?_
    refine lv_if_eq (tgt := 21) hx hb dX7_tell_4 (by decide) (fun c_4 => absurd c_4 (by decide)) (fun c_4 => ?_)
    refine lv_aload_n hx hb dX7_tell_7 rfl (lv_at hl 0 rfl) ?_
    refine va_get (D := D) (ci := 7) (v := .ref (wa 0)) (C := RX7) (T := TX7) (N := 4) hx hb htb iX7 hown hK.1 hP 0 rfl rfl 0 (by decide) (htb _ k_348) (fun _ h9 => h9) rfl dX7_tell_8 ?_
    refine lv_iload_n hx hb dX7_tell_11 rfl (lv_at hl 1 rfl) ?_
    refine lv_iload_n hx hb dX7_tell_12 rfl (lv_at hl 2 rfl) ?_
    refine va_iast hx hb hK.1 hP hD hS 1 0 rfl rfl (g_in rfl (by omega) (by omega)) dX7_tell_13 (fun H locs hP hD hS => ?_)
    have hP : va_P D vwCl [(wh, .inr (7, G7 wa)), ((wa 0), .inl (E 0, 400, .inl (upd wf0 (p0 : Int32).toNatClampNeg p1))), ((wa 1), .inl (E 0, 400, .inl wf1))] H := hP
    have hD := toW hP hD rfl
    refine lv_aload_n hx hb dX7_tell_14 rfl (lv_at hl 0 rfl) ?_
    refine va_get (D := D) (ci := 7) (v := .ref (wa 1)) (C := RX7) (T := TX7) (N := 4) hx hb htb iX7 hown hK.1 hP 0 rfl rfl 1 (by decide) (htb _ k_349) (fun _ h9 => h9) rfl dX7_tell_15 ?_
    refine lv_iload_n hx hb dX7_tell_18 rfl (lv_at hl 1 rfl) ?_
    refine lv_iload_n hx hb dX7_tell_19 rfl (lv_at hl 3 rfl) ?_
    refine va_iast hx hb hK.1 hP hD hS 2 0 rfl rfl (g_in rfl (by omega) (by omega)) dX7_tell_20 (fun H locs hP hD hS => ?_)
    have hP : va_P D vwCl [(wh, .inr (7, G7 wa)), ((wa 0), .inl (E 0, 400, .inl (upd wf0 (p0 : Int32).toNatClampNeg p1))), ((wa 1), .inl (E 0, 400, .inl (upd wf1 (p0 : Int32).toNatClampNeg p2)))] H := hP
    have hD := toW hP hD rfl
    have hP9 := hP.sub (ws' := [(wh, .inr (7, G7 wa)), ((wa 0), .inl (E 0, 400, .inl (upd wf0 (p0 : Int32).toNatClampNeg p1))), ((wa 1), .inl (E 0, 400, .inl (upd wf1 (p0 : Int32).toNatClampNeg p2)))]) [0, 1, 2] rfl
    have hD9 := hD.sub (ws' := [(wh, .inr (7, G7 wa)), ((wa 0), .inl (E 0, 400, .inl (upd wf0 (p0 : Int32).toNatClampNeg p1))), ((wa 1), .inl (E 0, 400, .inl (upd wf1 (p0 : Int32).toNatClampNeg p2)))]) [0, 1, 2] (by decide) rfl
    exact W.vret hx hb hr (fun t ht hW => ⟨⟨((upd wf0 (p0 : Int32).toNatClampNeg p1), (upd wf1 (p0 : Int32).toNatClampNeg p2)), rfl, (by (try dsimp only); first | exact Or.inl ⟨by omega, rfl, rfl⟩ | exact Or.inr ⟨by omega, rfl, rfl⟩), by rw [ht]; exact hP9, hD9⟩, hS.F ht⟩) hS.2.2 dX7_tell_21
  ·
    refine W_top (y := .int 0) (by rw [hr_1]) ?_
    refine lv_if_eq (tgt := 21) hx hb dX7_tell_4 (by decide) (fun c_5 => ?_) (fun c_5 => absurd (by decide) c_5)
    have hP9 := hP.sub (ws' := [(wh, .inr (7, G7 wa)), ((wa 0), .inl (E 0, 400, .inl wf0)), ((wa 1), .inl (E 0, 400, .inl wf1))]) [0, 1, 2] rfl
    have hD9 := hD.sub (ws' := [(wh, .inr (7, G7 wa)), ((wa 0), .inl (E 0, 400, .inl wf0)), ((wa 1), .inl (E 0, 400, .inl wf1))]) [0, 1, 2] (by decide) rfl
    exact W.vret hx hb hr (fun t ht hW => ⟨⟨(wf0, wf1), rfl, (by (try dsimp only); first | exact Or.inl ⟨by omega, rfl, rfl⟩ | exact Or.inr ⟨by omega, rfl, rfl⟩), by rw [ht]; exact hP9, hD9⟩, hS.F ht⟩) hS.2.2 dX7_tell_21
set_option maxHeartbeats 4000000 in
set_option maxRecDepth 100000 in
theorem g_X7_isMarked (l : Launch) (D : va_G) (E : Nat → Nat) (wh : Nat) (wa : Nat → Nat) (wf2 : Nat → Int32) (p0 : Int32) (p1 : Int32)  : Met l yX7_isMarked (wl yX7_isMarked cX7_isMarked 3 (some .boolean)) (RM 1 0 0) (rd_P D E [.ref wh, .int p0, .int p1] [(wh, .inr (7, G7 wa)), ((wa 2), .inl (E 0, 400, .inl wf2))]) (rd_Q (fun r => ((r.toInt = 1 ∧ ((0 ≤ p0.toInt ∧ p0.toInt ≤ 399) ∧ ((wf2 (p0).toNatClampNeg) &&& p1).toInt ≠ 0)) ∨ (r.toInt = 0 ∧ ¬ ((0 ≤ p0.toInt ∧ p0.toInt ≤ 399) ∧ ((wf2 (p0).toNatClampNeg) &&& p1).toInt ≠ 0))))) 0 0 (fun _ => False) := by
  refine Met.ofW (cc := cX7_isMarked) (maxL := 3) (ret := (some .boolean)) (by decide) rfl ?_
  intro p e s m args below meth c s₁ B hml hv
  obtain ⟨rfl, hP, hK⟩ := hv
  have hx := B.exec; have hb := B.bytes; have hr := B.returns
  have hts := atoms_spec (ws := wl yX7_isMarked cX7_isMarked 3 (some .boolean)) B.pre
  have htb : ∀ w ∈ tb, w.before _ s = true := fun w h => hts w (List.mem_cons_of_mem _ h)
  have hown : s.vm.findClass RX7 = some m.cls := findClass_of_methodNamed B.named
  have hlocks := B.notSynchronized
  have hP : va_P D vwCl [(wh, .inr (7, G7 wa)), ((wa 2), .inl (E 0, 400, .inl wf2))] s.heap := hP
  have hl := lv_entry ([.ref wh, .int p0, .int p1]) (n := 3) (Nat.le_of_ble_eq_true rfl)
  rw [lg_entry_eq]
  generalize (lg_sl ([.ref wh, .int p0, .int p1]) ++ List.replicate (3 - (lg_sl ([.ref wh, .int p0, .int p1])).length) Slot.unset).toArray = ls at hl ⊢
  have hl : lv_has ls 3 [(0, .ref wh), (1, .int p0), (2, .int p1)] := hl
  have lo_p0 := i_lo p0; have hi_p0 := i_hi p0
  have lo_p1 := i_lo p1; have hi_p1 := i_hi p1
  refine lv_iload_n hx hb dX7_isMarked_0 rfl (lv_at hl 1 rfl) ?_
  refine callRSN (rest := []) (As := [.int p0]) hx hb hml hown htb hK (g_X8_isDay l D E p0 ) ok_X8_isDay (show Cond.methodLinkNest RX7 24 yX8_isDay RX8 ∈ nestW by decide +kernel) k_324 k_1 k_325 ⟨(Nat.le_of_ble_eq_true rfl), (Nat.le_of_ble_eq_true rfl)⟩ ⟨(Nat.le_of_ble_eq_true rfl), (Nat.le_of_ble_eq_true rfl)⟩ hl.1 (Nat.le_of_ble_eq_true rfl) rfl rfl dX7_isMarked_1 (hP.sub (ws' := ([] : va_W)) [] rfl) (fun r_1 hw_2 => ?_)
  rcases hw_2 with ⟨hr_1, hw_2⟩ | ⟨hr_1, hw_2⟩
  ·
    refine W_top (y := .int 1) (by rw [hr_1]) ?_
    refine lv_if_eq (tgt := 22) hx hb dX7_isMarked_4 (by decide) (fun c_4 => absurd c_4 (by decide)) (fun c_4 => ?_)
    refine lv_aload_n hx hb dX7_isMarked_7 rfl (lv_at hl 0 rfl) ?_
    refine va_get (D := D) (ci := 7) (v := .ref (wa 2)) (C := RX7) (T := TX7) (N := 4) hx hb htb iX7 hown hK.1 hP 0 rfl rfl 2 (by decide) (htb _ k_350) (fun _ h9 => h9) rfl dX7_isMarked_8 ?_
    refine lv_iload_n hx hb dX7_isMarked_11 rfl (lv_at hl 1 rfl) ?_
    refine va_iald hx hb hK.1 hP 1 0 rfl rfl (g_in rfl (by omega) (by omega)) dX7_isMarked_12 ?_
    refine lv_topi (fun z_5 ez_5 => ?_)
    have kz_5 := congrArg Int32.toInt ez_5
    refine lv_iload_n hx hb dX7_isMarked_13 rfl (lv_at hl 2 rfl) ?_
    refine lv_iand hx hb dX7_isMarked_14 ?_
    refine lv_topi (fun z_6 ez_6 => ?_)
    refine lv_if_eq (tgt := 22) hx hb dX7_isMarked_15 (by decide) (fun c_7 => ?_) (fun c_7 => ?_)
    ·
      have ic_7 : z_6.toInt = 0 := (g_eq rfl t_0).mp c_7
      clear c_7
      refine lv_iconst (v := 0) hx hb dX7_isMarked_22 (by decide) ?_
      exact W.zret (v := 0) hx hb hr rfl (fun t ht hW => ⟨0, rfl, (by have hl0 := t_0; subst_vars; omega), ht⟩) (fun q h => by cases h) dX7_isMarked_23
    ·
      have ic_7 : z_6.toInt ≠ 0 := mt (g_eq rfl t_0).mpr c_7
      clear c_7
      refine lv_iconst (v := 1) hx hb dX7_isMarked_18 (by decide) ?_
      refine lv_goto (tgt := 23) hx hb dX7_isMarked_19 (by decide) ?_
      exact W.zret (v := 1) hx hb hr rfl (fun t ht hW => ⟨1, rfl, (by have hl0 := t_1; subst_vars; omega), ht⟩) (fun q h => by cases h) dX7_isMarked_23
  ·
    refine W_top (y := .int 0) (by rw [hr_1]) ?_
    refine lv_if_eq (tgt := 22) hx hb dX7_isMarked_4 (by decide) (fun c_8 => ?_) (fun c_8 => absurd (by decide) c_8)
    refine lv_iconst (v := 0) hx hb dX7_isMarked_22 (by decide) ?_
    exact W.zret (v := 0) hx hb hr rfl (fun t ht hW => ⟨0, rfl, (by have hl0 := t_0; subst_vars; omega), ht⟩) (fun q h => by cases h) dX7_isMarked_23
set_option maxHeartbeats 4000000 in
set_option maxRecDepth 100000 in
theorem g_X7_addMark (l : Launch) (D : va_G) (E : Nat → Nat) (wh : Nat) (wa : Nat → Nat) (wf2 : Nat → Int32) (p0 : Int32) (p1 : Int32) (sz : Nat)  : Met l yX7_addMark (wl yX7_addMark cX7_addMark 3 (some .boolean)) (RM 2 0 0) (mu_P D E [.ref wh, .int p0, .int p1] [(wh, .inr (7, G7 wa)), ((wa 2), .inl (E 0, 400, .inl wf2))] sz) (va_Qi (fun (r : Int32) (u : (Nat → Int32)) => ((r.toInt = 1 ∧ (0 ≤ p0.toInt ∧ p0.toInt ≤ 399) ∧ ¬ ((0 ≤ p0.toInt ∧ p0.toInt ≤ 399) ∧ ((wf2 (p0).toNatClampNeg) &&& p1).toInt ≠ 0) ∧ u = upd wf2 (p0).toNatClampNeg ((wf2 (p0).toNatClampNeg) ||| p1)) ∨ (r.toInt = 0 ∧ ((0 ≤ p0.toInt ∧ p0.toInt ≤ 399) → ((0 ≤ p0.toInt ∧ p0.toInt ≤ 399) ∧ ((wf2 (p0).toNatClampNeg) &&& p1).toInt ≠ 0)) ∧ u = wf2))) (mu_B D (va_A [(wh, .inr (7, G7 wa)), ((wa 2), .inl (E 0, 400, .inl wf2))] sz) (fun (u : (Nat → Int32)) => [(wh, .inr (7, G7 wa)), ((wa 2), .inl (E 0, 400, .inl u))])) (va_A [(wh, .inr (7, G7 wa)), ((wa 2), .inl (E 0, 400, .inl wf2))] sz)) 0 0 (va_A [(wh, .inr (7, G7 wa)), ((wa 2), .inl (E 0, 400, .inl wf2))] sz) := by
  refine Met.ofW (cc := cX7_addMark) (maxL := 3) (ret := (some .boolean)) (by decide) rfl ?_
  intro p e s m args below meth c s₁ B hml hv
  obtain ⟨rfl, hsz, hP, hK, hD0⟩ := hv
  have hx := B.exec; have hb := B.bytes; have hr := B.returns
  have hts := atoms_spec (ws := wl yX7_addMark cX7_addMark 3 (some .boolean)) B.pre
  have htb : ∀ w ∈ tb, w.before _ s = true := fun w h => hts w (List.mem_cons_of_mem _ h)
  have hown : s.vm.findClass RX7 = some m.cls := findClass_of_methodNamed B.named
  have hlocks := B.notSynchronized
  subst hsz
  have hD := hD0.self (sz := s.heap.size)
  generalize hAe : va_A [(wh, .inr (7, G7 wa)), ((wa 2), .inl (E 0, 400, .inl wf2))] s.heap.size = A at hD ⊢
  have hA : ∀ q : Nat, s.heap.size ≤ q → A q := fun q h => by rw [← hAe]; exact Or.inr h
  have hS : va_S A s.heap s.heap [] := va_S.rf
  have hP : va_P D vwCl [(wh, .inr (7, G7 wa)), ((wa 2), .inl (E 0, 400, .inl wf2))] s.heap := hP
  have hl := lv_entry ([.ref wh, .int p0, .int p1]) (n := 3) (Nat.le_of_ble_eq_true rfl)
  rw [lg_entry_eq]
  generalize (lg_sl ([.ref wh, .int p0, .int p1]) ++ List.replicate (3 - (lg_sl ([.ref wh, .int p0, .int p1])).length) Slot.unset).toArray = ls at hl ⊢
  have hl : lv_has ls 3 [(0, .ref wh), (1, .int p0), (2, .int p1)] := hl
  have lo_p0 := i_lo p0; have hi_p0 := i_hi p0
  have lo_p1 := i_lo p1; have hi_p1 := i_hi p1
  refine lv_iload_n hx hb dX7_addMark_0 rfl (lv_at hl 1 rfl) ?_
  refine callRSN (rest := []) (As := [.int p0]) hx hb hml hown htb hK (g_X8_isDay l D E p0 ) ok_X8_isDay (show Cond.methodLinkNest RX7 24 yX8_isDay RX8 ∈ nestW by decide +kernel) k_324 k_1 k_325 ⟨(Nat.le_of_ble_eq_true rfl), (Nat.le_of_ble_eq_true rfl)⟩ ⟨(Nat.le_of_ble_eq_true rfl), (Nat.le_of_ble_eq_true rfl)⟩ hl.1 (Nat.le_of_ble_eq_true rfl) rfl rfl dX7_addMark_1 (hP.sub (ws' := ([] : va_W)) [] rfl) (fun r_1 hw_2 => ?_)
  rcases hw_2 with ⟨hr_1, hw_2⟩ | ⟨hr_1, hw_2⟩
  ·
    refine W_top (y := .int 1) (by rw [hr_1]) ?_
    refine lv_if_eq (tgt := 16) hx hb dX7_addMark_4 (by decide) (fun c_4 => absurd c_4 (by decide)) (fun c_4 => ?_)
    refine lv_aload_n hx hb dX7_addMark_7 rfl (lv_at hl 0 rfl) ?_
    refine lv_iload_n hx hb dX7_addMark_8 rfl (lv_at hl 1 rfl) ?_
    refine lv_iload_n hx hb dX7_addMark_9 rfl (lv_at hl 2 rfl) ?_
    refine callRV (rest := []) (As := [.int p0, .int p1]) hx hb hml hown htb hK (g_X7_isMarked l D E wh wa wf2 p0 p1 ) ok_X7_isMarked k_439 k_440 k_441 k_10 k_442 ⟨(Nat.le_of_ble_eq_true rfl), (Nat.le_of_ble_eq_true rfl)⟩ ⟨(Nat.le_of_ble_eq_true rfl), (Nat.le_of_ble_eq_true rfl)⟩ hl.1 (Nat.le_of_ble_eq_true rfl) rfl rfl dX7_addMark_10 (hP.sub (ws' := [(wh, .inr (7, G7 wa)), ((wa 2), .inl (E 0, 400, .inl wf2))]) [0, 1] rfl) rfl rfl 0 rfl (fun r_5 hw_6 => ?_)
    refine lv_if_eq (tgt := 18) hx hb dX7_addMark_13 (by decide) (fun c_8 => ?_) (fun c_8 => ?_)
    ·
      have ic_8 : r_5.toInt = 0 := (g_eq rfl t_0).mp c_8
      clear c_8
      refine lv_aload_n hx hb dX7_addMark_18 rfl (lv_at hl 0 rfl) ?_
      refine va_get (D := D) (ci := 7) (v := .ref (wa 2)) (C := RX7) (T := TX7) (N := 4) hx hb htb iX7 hown hK.1 hP 0 rfl rfl 2 (by decide) (htb _ k_350) (fun _ h9 => h9) rfl dX7_addMark_19 ?_
      refine lv_iload_n hx hb dX7_addMark_22 rfl (lv_at hl 1 rfl) ?_
      refine lv_dup2_11 hx hb dX7_addMark_23 rfl rfl ?_
      refine va_iald hx hb hK.1 hP 1 0 rfl rfl (g_in rfl (by omega) (by omega)) dX7_addMark_24 ?_
      refine lv_topi (fun z_9 ez_9 => ?_)
      have kz_9 := congrArg Int32.toInt ez_9
      refine lv_iload_n hx hb dX7_addMark_25 rfl (lv_at hl 2 rfl) ?_
      refine lv_ior hx hb dX7_addMark_26 ?_
      refine lv_topi (fun z_10 ez_10 => ?_)
      refine va_iast hx hb hK.1 hP hD hS 1 0 rfl rfl (g_in rfl (by omega) (by omega)) dX7_addMark_27 (fun H locs hP hD hS => ?_)
      have hP : va_P D vwCl [(wh, .inr (7, G7 wa)), ((wa 2), .inl (E 0, 400, .inl (upd wf2 (p0 : Int32).toNatClampNeg z_10)))] H := hP
      have hD := toW hP hD rfl
      refine lv_iconst (v := 1) hx hb dX7_addMark_28 (by decide) ?_
      have hP9 := hP.sub (ws' := [(wh, .inr (7, G7 wa)), ((wa 2), .inl (E 0, 400, .inl (upd wf2 (p0 : Int32).toNatClampNeg z_10)))]) [0, 1] rfl
      have hD9 := hD.sub (ws' := [(wh, .inr (7, G7 wa)), ((wa 2), .inl (E 0, 400, .inl (upd wf2 (p0 : Int32).toNatClampNeg z_10)))]) [0, 1] (by decide) rfl
      exact W.zret (v := 1) hx hb hr rfl (fun t ht hW => ⟨⟨1, (upd wf2 (p0 : Int32).toNatClampNeg z_10), rfl, (by have hl0 := t_1; (try dsimp only); first | exact Or.inl ⟨by omega, by omega, by omega, by subst_vars; rfl⟩ | exact Or.inr ⟨by omega, by omega, rfl⟩), by rw [ht]; exact hP9, hD9⟩, hS.F ht⟩) hS.2.2 dX7_addMark_29
    ·
      have ic_8 : r_5.toInt ≠ 0 := mt (g_eq rfl t_0).mpr c_8
      clear c_8
      refine lv_iconst (v := 0) hx hb dX7_addMark_16 (by decide) ?_
      have hP9 := hP.sub (ws' := [(wh, .inr (7, G7 wa)), ((wa 2), .inl (E 0, 400, .inl wf2))]) [0, 1] rfl
      have hD9 := hD.sub (ws' := [(wh, .inr (7, G7 wa)), ((wa 2), .inl (E 0, 400, .inl wf2))]) [0, 1] (by decide) rfl
      exact W.zret (v := 0) hx hb hr rfl (fun t ht hW => ⟨⟨0, wf2, rfl, (by have hl0 := t_0; (try dsimp only); first | exact Or.inl ⟨by omega, by omega, by omega, by subst_vars; rfl⟩ | exact Or.inr ⟨by omega, by omega, rfl⟩), by rw [ht]; exact hP9, hD9⟩, hS.F ht⟩) hS.2.2 dX7_addMark_17
  ·
    refine W_top (y := .int 0) (by rw [hr_1]) ?_
    refine lv_if_eq (tgt := 16) hx hb dX7_addMark_4 (by decide) (fun c_11 => ?_) (fun c_11 => absurd (by decide) c_11)
    refine lv_iconst (v := 0) hx hb dX7_addMark_16 (by decide) ?_
    have hP9 := hP.sub (ws' := [(wh, .inr (7, G7 wa)), ((wa 2), .inl (E 0, 400, .inl wf2))]) [0, 1] rfl
    have hD9 := hD.sub (ws' := [(wh, .inr (7, G7 wa)), ((wa 2), .inl (E 0, 400, .inl wf2))]) [0, 1] (by decide) rfl
    exact W.zret (v := 0) hx hb hr rfl (fun t ht hW => ⟨⟨0, wf2, rfl, (by have hl0 := t_0; (try dsimp only); first | exact Or.inl ⟨by omega, by omega, by omega, by subst_vars; rfl⟩ | exact Or.inr ⟨by omega, by omega, rfl⟩), by rw [ht]; exact hP9, hD9⟩, hS.F ht⟩) hS.2.2 dX7_addMark_17
set_option maxHeartbeats 4000000 in
set_option maxRecDepth 100000 in
theorem g_X7_holderOn (l : Launch) (D : va_G) (E : Nat → Nat) (wh : Nat) (wa : Nat → Nat) (wf3 : Nat → Int32) (p0 : Int32)  : Met l yX7_holderOn (wl yX7_holderOn cX7_holderOn 2 (some .int)) (RM 1 0 0) (rd_P D E [.ref wh, .int p0] [(wh, .inr (7, G7 wa)), ((wa 3), .inl (E 0, 400, .inl wf3))]) (rd_Q (fun r => (((0 ≤ p0.toInt ∧ p0.toInt ≤ 399) ∧ r = (wf3 (p0).toNatClampNeg)) ∨ (¬ (0 ≤ p0.toInt ∧ p0.toInt ≤ 399) ∧ r.toInt = -1)))) 0 0 (fun _ => False) := by
  refine Met.ofW (cc := cX7_holderOn) (maxL := 2) (ret := (some .int)) (by decide) rfl ?_
  intro p e s m args below meth c s₁ B hml hv
  obtain ⟨rfl, hP, hK⟩ := hv
  have hx := B.exec; have hb := B.bytes; have hr := B.returns
  have hts := atoms_spec (ws := wl yX7_holderOn cX7_holderOn 2 (some .int)) B.pre
  have htb : ∀ w ∈ tb, w.before _ s = true := fun w h => hts w (List.mem_cons_of_mem _ h)
  have hown : s.vm.findClass RX7 = some m.cls := findClass_of_methodNamed B.named
  have hlocks := B.notSynchronized
  have hP : va_P D vwCl [(wh, .inr (7, G7 wa)), ((wa 3), .inl (E 0, 400, .inl wf3))] s.heap := hP
  have hl := lv_entry ([.ref wh, .int p0]) (n := 2) (Nat.le_of_ble_eq_true rfl)
  rw [lg_entry_eq]
  generalize (lg_sl ([.ref wh, .int p0]) ++ List.replicate (2 - (lg_sl ([.ref wh, .int p0])).length) Slot.unset).toArray = ls at hl ⊢
  have hl : lv_has ls 2 [(0, .ref wh), (1, .int p0)] := hl
  have lo_p0 := i_lo p0; have hi_p0 := i_hi p0
  refine lv_iload_n hx hb dX7_holderOn_0 rfl (lv_at hl 1 rfl) ?_
  refine callRSN (rest := []) (As := [.int p0]) hx hb hml hown htb hK (g_X8_isDay l D E p0 ) ok_X8_isDay (show Cond.methodLinkNest RX7 24 yX8_isDay RX8 ∈ nestW by decide +kernel) k_324 k_1 k_325 ⟨(Nat.le_of_ble_eq_true rfl), (Nat.le_of_ble_eq_true rfl)⟩ ⟨(Nat.le_of_ble_eq_true rfl), (Nat.le_of_ble_eq_true rfl)⟩ hl.1 (Nat.le_of_ble_eq_true rfl) rfl rfl dX7_holderOn_1 (hP.sub (ws' := ([] : va_W)) [] rfl) (fun r_1 hw_2 => ?_)
  rcases hw_2 with ⟨hr_1, hw_2⟩ | ⟨hr_1, hw_2⟩
  ·
    refine W_top (y := .int 1) (by rw [hr_1]) ?_
    refine lv_if_eq (tgt := 16) hx hb dX7_holderOn_4 (by decide) (fun c_4 => absurd c_4 (by decide)) (fun c_4 => ?_)
    refine lv_aload_n hx hb dX7_holderOn_7 rfl (lv_at hl 0 rfl) ?_
    refine va_get (D := D) (ci := 7) (v := .ref (wa 3)) (C := RX7) (T := TX7) (N := 4) hx hb htb iX7 hown hK.1 hP 0 rfl rfl 3 (by decide) (htb _ k_351) (fun _ h9 => h9) rfl dX7_holderOn_8 ?_
    refine lv_iload_n hx hb dX7_holderOn_11 rfl (lv_at hl 1 rfl) ?_
    refine va_iald hx hb hK.1 hP 1 0 rfl rfl (g_in rfl (by omega) (by omega)) dX7_holderOn_12 ?_
    refine lv_topi (fun z_5 ez_5 => ?_)
    have kz_5 := congrArg Int32.toInt ez_5
    refine lv_goto (tgt := 17) hx hb dX7_holderOn_13 (by decide) ?_
    exact W.iret (v := z_5) hx hb hr (fun t ht hW => ⟨z_5, rfl, (by (try dsimp only); first | exact Or.inl ⟨by omega, by subst_vars; rfl⟩ | exact Or.inr ⟨by omega, by omega⟩), ht⟩) (fun q h => by cases h) dX7_holderOn_17
  ·
    refine W_top (y := .int 0) (by rw [hr_1]) ?_
    refine lv_if_eq (tgt := 16) hx hb dX7_holderOn_4 (by decide) (fun c_6 => ?_) (fun c_6 => absurd (by decide) c_6)
    refine lv_iconst (v := (-1)) hx hb dX7_holderOn_16 (by decide) ?_
    exact W.iret (v := (-1)) hx hb hr (fun t ht hW => ⟨(-1), rfl, (by have hl0 := t_m1; (try dsimp only); first | exact Or.inl ⟨by omega, by subst_vars; rfl⟩ | exact Or.inr ⟨by omega, by omega⟩), ht⟩) (fun q h => by cases h) dX7_holderOn_17
set_option maxHeartbeats 4000000 in
set_option maxRecDepth 100000 in
theorem g_X7_giveTo (l : Launch) (D : va_G) (E : Nat → Nat) (wh : Nat) (wa : Nat → Nat) (wf3 : Nat → Int32) (p0 : Int32) (p1 : Int32) (sz : Nat) (g0 : 0 ≤ p1.toInt ∧ p1.toInt ≤ 399) : Met l yX7_giveTo (wl yX7_giveTo cX7_giveTo 4 none) (RM 1 0 0) (mu_P D E [.ref wh, .int p0, .int p1] [(wh, .inr (7, G7 wa)), ((wa 3), .inl (E 0, 400, .inl wf3))] sz) (va_Qv (fun (u : (Nat → Int32)) => (GIV wf3 u p1.toInt p0)) (mu_B D (va_A [(wh, .inr (7, G7 wa)), ((wa 3), .inl (E 0, 400, .inl wf3))] sz) (fun (u : (Nat → Int32)) => [(wh, .inr (7, G7 wa)), ((wa 3), .inl (E 0, 400, .inl u))])) (va_A [(wh, .inr (7, G7 wa)), ((wa 3), .inl (E 0, 400, .inl wf3))] sz)) 0 0 (va_A [(wh, .inr (7, G7 wa)), ((wa 3), .inl (E 0, 400, .inl wf3))] sz) := by
  refine Met.ofW (cc := cX7_giveTo) (maxL := 4) (ret := none) (by decide) rfl ?_
  intro p e s m args below meth c s₁ B hml hv
  obtain ⟨rfl, hsz, hP, hK, hD0⟩ := hv
  have hx := B.exec; have hb := B.bytes; have hr := B.returns
  have hts := atoms_spec (ws := wl yX7_giveTo cX7_giveTo 4 none) B.pre
  have htb : ∀ w ∈ tb, w.before _ s = true := fun w h => hts w (List.mem_cons_of_mem _ h)
  have hown : s.vm.findClass RX7 = some m.cls := findClass_of_methodNamed B.named
  have hlocks := B.notSynchronized
  subst hsz
  have hD := hD0.self (sz := s.heap.size)
  generalize hAe : va_A [(wh, .inr (7, G7 wa)), ((wa 3), .inl (E 0, 400, .inl wf3))] s.heap.size = A at hD ⊢
  have hA : ∀ q : Nat, s.heap.size ≤ q → A q := fun q h => by rw [← hAe]; exact Or.inr h
  have hS : va_S A s.heap s.heap [] := va_S.rf
  have hP : va_P D vwCl [(wh, .inr (7, G7 wa)), ((wa 3), .inl (E 0, 400, .inl wf3))] s.heap := hP
  have hl := lv_entry ([.ref wh, .int p0, .int p1]) (n := 4) (Nat.le_of_ble_eq_true rfl)
  rw [lg_entry_eq]
  generalize (lg_sl ([.ref wh, .int p0, .int p1]) ++ List.replicate (4 - (lg_sl ([.ref wh, .int p0, .int p1])).length) Slot.unset).toArray = ls at hl ⊢
  have hl : lv_has ls 4 [(0, .ref wh), (1, .int p0), (2, .int p1)] := hl
  have lo_p0 := i_lo p0; have hi_p0 := i_hi p0
  have lo_p1 := i_lo p1; have hi_p1 := i_hi p1
  refine lv_iconst (v := 0) hx hb dX7_giveTo_0 (by decide) ?_
  refine lv_iload_n hx hb dX7_giveTo_1 rfl (lv_at hl 2 rfl) ?_
  refine va_mmax hx hb (by rw [hml, hl.1]) hown (htb _ k_807) (htb _ k_732) (htb _ k_11) (htb _ k_733) (Nat.le_of_ble_eq_true rfl) (Nat.le_of_ble_eq_true rfl) (Nat.le_of_ble_eq_true rfl) (Nat.le_of_ble_eq_true rfl) dX7_giveTo_2 ?_
  refine lv_topi (fun z_1 ez_1 => ?_)
  have jz_1 := g_max t_0 rfl ez_1
  refine lv_istore_n (lv' := [(3, .int z_1), (0, .ref wh), (1, .int p0), (2, .int p1)]) hx hb dX7_giveTo_5 rfl hl (by decide) rfl (fun ls hl => ?_)
  have loop_2 : ∀ (N_4 : Nat) (L3_6 : Int32) (wf3_6 : Nat → Int32) (H : Heap) (locs : List Loc) (ls : Array Slot), 400 - L3_6.toInt < (N_4 : Int) → (p1.toInt ≤ L3_6.toInt ∧ L3_6.toInt ≤ 400) → (GIVl wf3 wf3_6 p1.toInt L3_6.toInt p0) → va_P D vwCl [(wh, .inr (7, G7 wa)), ((wa 3), .inl (E 0, 400, .inl wf3_6))] H → va_D A [(wh, .inr (7, G7 wa)), ((wa 3), .inl (E 0, 400, .inl wf3_6))] → va_S A s.heap H locs → lv_has ls 4 [(3, .int L3_6), (0, .ref wh), (1, .int p0), (2, .int p1)] → W p l e (headSpec (wl yX7_giveTo cX7_giveTo 4 none) (RM 1 0 0)).room s m [Value.ref wh, .int p0, .int p1].toArray below meth c H locs 0 0 (MQ below (va_Qv (fun (u : (Nat → Int32)) => (GIV wf3 u p1.toInt p0)) (mu_B D A (fun (u : (Nat → Int32)) => [(wh, .inr (7, G7 wa)), ((wa 3), .inl (E 0, 400, .inl u))])) A) [Value.ref wh, .int p0, .int p1].toArray s 0 0 A) (F0 m 6 ls []) := by
    intro N_4
    induction N_4 with
    | zero => intro L3_6 wf3_6 H locs ls hm v0_6 v1_6 _ _ _ _; exfalso; omega
    | succ N_4 ih_3 =>
      intro L3_6 wf3_6 H locs ls hm v0_6 v1_6 hP hD hS hl
      have lo_L3_6 := i_lo L3_6; have hi_L3_6 := i_hi L3_6
      refine lv_iload_n hx hb dX7_giveTo_6 rfl (lv_at hl 0 rfl) ?_
      refine lv_sipush (v := 400) hx hb dX7_giveTo_7 (by decide) ?_
      refine lv_icmp_ge (tgt := 26) hx hb dX7_giveTo_10 (by decide) (fun c_5 => ?_) (fun c_5 => ?_)
      ·
        have ic_5 : 400 ≤ L3_6.toInt := by first | exact (g_le t_400 rfl).mp c_5 | (have h := mt (g_lt rfl t_400).mpr c_5; omega)
        clear c_5
        have hP9 := hP.sub (ws' := [(wh, .inr (7, G7 wa)), ((wa 3), .inl (E 0, 400, .inl wf3_6))]) [0, 1] rfl
        have hD9 := hD.sub (ws' := [(wh, .inr (7, G7 wa)), ((wa 3), .inl (E 0, 400, .inl wf3_6))]) [0, 1] (by decide) rfl
        exact W.vret hx hb hr (fun t ht hW => ⟨⟨wf3_6, rfl, (GIVl_e v1_6 (by omega)), by rw [ht]; exact hP9, hD9⟩, hS.F ht⟩) hS.2.2 dX7_giveTo_26
      ·
        have ic_5 : L3_6.toInt < 400 := by first | exact (g_lt rfl t_400).mp c_5 | (have h := mt (g_le t_400 rfl).mpr c_5; omega)
        clear c_5
        refine lv_aload_n hx hb dX7_giveTo_13 rfl (lv_at hl 1 rfl) ?_
        refine va_get (D := D) (ci := 7) (v := .ref (wa 3)) (C := RX7) (T := TX7) (N := 4) hx hb htb iX7 hown hK.1 hP 0 rfl rfl 3 (by decide) (htb _ k_351) (fun _ h9 => h9) rfl dX7_giveTo_14 ?_
        refine lv_iload_n hx hb dX7_giveTo_17 rfl (lv_at hl 0 rfl) ?_
        refine lv_iload_n hx hb dX7_giveTo_18 rfl (lv_at hl 2 rfl) ?_
        refine va_iast hx hb hK.1 hP hD hS 1 0 rfl rfl (g_in rfl (by omega) (by omega)) dX7_giveTo_19 (fun H locs hP hD hS => ?_)
        have hP : va_P D vwCl [(wh, .inr (7, G7 wa)), ((wa 3), .inl (E 0, 400, .inl (upd wf3_6 (L3_6 : Int32).toNatClampNeg p0)))] H := hP
        have hD := toW hP hD rfl
        obtain ⟨z_6, ez_6⟩ : ∃ y : Int32, y = L3_6 + 1 := ⟨_, rfl⟩
        have jz_6 : z_6.toInt = L3_6.toInt + 1 := by rw [ez_6]; exact g_add rfl t_1 (by omega) (by omega)
        refine lv_iinc (v := z_6) (lv' := [(3, .int z_6), (0, .ref wh), (1, .int p0), (2, .int p1)]) hx hb dX7_giveTo_20 hl (k := 0) rfl (by rw [ez_6]; rfl) (by decide) rfl (fun ls hl => ?_)
        refine lv_goto (tgt := 6) hx hb dX7_giveTo_23 (by decide) ?_
        exact ih_3 z_6 (upd wf3_6 (L3_6 : Int32).toNatClampNeg p0) _ _ _ (by (try dsimp only); omega) (by (try dsimp only); omega) (GIVl_s v1_6 (by omega) (by omega) rfl (by omega)) hP hD hS (lv_sub hl [0, 1, 2, 3] rfl)
  exact loop_2 401 z_1 wf3 _ _ _ (by (try dsimp only); omega) (by (try dsimp only); omega) (GIVl_0 (by omega)) hP hD hS (lv_sub hl [0, 1, 2, 3] rfl)
end
section
set_option maxHeartbeats 4000000 in
set_option maxRecDepth 100000 in
theorem g_X7_errorAsKnown (l : Launch) (D : va_G) (E : Nat → Nat) (wh : Nat) (wa : Nat → Nat) (wf0 : Nat → Int32) (wf1 : Nat → Int32) (oh : Nat) (oa : Nat → Nat) (osize : Int32) (of0 : Nat → Int32) (of1 : Nat → Int32) (of2 : Nat → Int32) (of3 : Nat → Int32) (of4 : Nat → Int32) (p0 : Int32) (p2 : Int32) (hi_o : (0 ≤ osize.toInt ∧ osize.toInt ≤ 60)) : Met l yX7_errorAsKnown (wl yX7_errorAsKnown cX7_errorAsKnown 4 (some .int)) (RM 2 0 0) (rd_P D E [.ref wh, .int p0, .ref oh, .int p2] [(wh, .inr (7, G7 wa)), ((wa 0), .inl (E 0, 400, .inl wf0)), ((wa 1), .inl (E 0, 400, .inl wf1)), (oh, .inr (2, G2 oa osize)), ((oa 0), .inl (E 0, 60, .inl of0)), ((oa 1), .inl (E 0, 60, .inl of1)), ((oa 2), .inl (E 0, 60, .inl of2)), ((oa 3), .inl (E 0, 60, .inl of3)), ((oa 4), .inl (E 0, 60, .inl of4))]) (rd_Q (fun r => (r = eX wf0 wf1 of0 of1 of2 of3 of4 osize p0 p2))) 0 0 (fun _ => False) := by
  refine Met.ofW (cc := cX7_errorAsKnown) (maxL := 4) (ret := (some .int)) (by decide) rfl ?_
  intro p e s m args below meth c s₁ B hml hv
  obtain ⟨rfl, hP, hK⟩ := hv
  have hx := B.exec; have hb := B.bytes; have hr := B.returns
  have hts := atoms_spec (ws := wl yX7_errorAsKnown cX7_errorAsKnown 4 (some .int)) B.pre
  have htb : ∀ w ∈ tb, w.before _ s = true := fun w h => hts w (List.mem_cons_of_mem _ h)
  have hown : s.vm.findClass RX7 = some m.cls := findClass_of_methodNamed B.named
  have hlocks := B.notSynchronized
  have hP : va_P D vwCl [(wh, .inr (7, G7 wa)), ((wa 0), .inl (E 0, 400, .inl wf0)), ((wa 1), .inl (E 0, 400, .inl wf1)), (oh, .inr (2, G2 oa osize)), ((oa 0), .inl (E 0, 60, .inl of0)), ((oa 1), .inl (E 0, 60, .inl of1)), ((oa 2), .inl (E 0, 60, .inl of2)), ((oa 3), .inl (E 0, 60, .inl of3)), ((oa 4), .inl (E 0, 60, .inl of4))] s.heap := hP
  have hl := lv_entry ([.ref wh, .int p0, .ref oh, .int p2]) (n := 4) (Nat.le_of_ble_eq_true rfl)
  rw [lg_entry_eq]
  generalize (lg_sl ([.ref wh, .int p0, .ref oh, .int p2]) ++ List.replicate (4 - (lg_sl ([.ref wh, .int p0, .ref oh, .int p2])).length) Slot.unset).toArray = ls at hl ⊢
  have hl : lv_has ls 4 [(0, .ref wh), (1, .int p0), (2, .ref oh), (3, .int p2)] := hl
  have lo_p0 := i_lo p0; have hi_p0 := i_hi p0
  have lo_p2 := i_lo p2; have hi_p2 := i_hi p2
  refine lv_aload_n hx hb dX7_errorAsKnown_0 rfl (lv_at hl 0 rfl) ?_
  refine lv_iload_n hx hb dX7_errorAsKnown_1 rfl (lv_at hl 1 rfl) ?_
  refine callRV (rest := []) (As := [.int p0]) hx hb hml hown htb hK (g_X7_isCompared l D E wh wa wf1 p0 ) ok_X7_isCompared k_419 k_401 k_402 k_10 k_403 ⟨(Nat.le_of_ble_eq_true rfl), (Nat.le_of_ble_eq_true rfl)⟩ ⟨(Nat.le_of_ble_eq_true rfl), (Nat.le_of_ble_eq_true rfl)⟩ hl.1 (Nat.le_of_ble_eq_true rfl) rfl rfl dX7_errorAsKnown_2 (hP.sub (ws' := [(wh, .inr (7, G7 wa)), ((wa 1), .inl (E 0, 400, .inl wf1))]) [0, 2] rfl) rfl rfl 0 rfl (fun r_1 hw_2 => ?_)
  refine lv_if_eq (tgt := 30) hx hb dX7_errorAsKnown_5 (by decide) (fun c_4 => ?_) (fun c_4 => ?_)
  ·
    have ic_4 : r_1.toInt = 0 := (g_eq rfl t_0).mp c_4
    clear c_4
    refine lv_ldc hx hb hown (htb _ k_424) dX7_errorAsKnown_30 ?_
    exact W.iret (v := (-2000000000)) hx hb hr (fun t ht hW => ⟨(-2000000000), rfl, (by unfold eX; rw [if_neg (by omega)]), ht⟩) (fun q h => by cases h) dX7_errorAsKnown_32
  ·
    have ic_4 : r_1.toInt ≠ 0 := mt (g_eq rfl t_0).mpr c_4
    clear c_4
    refine lv_aload_n hx hb dX7_errorAsKnown_8 rfl (lv_at hl 0 rfl) ?_
    refine va_get (D := D) (ci := 7) (v := .ref (wa 0)) (C := RX7) (T := TX7) (N := 4) hx hb htb iX7 hown hK.1 hP 0 rfl rfl 0 (by decide) (htb _ k_348) (fun _ h9 => h9) rfl dX7_errorAsKnown_9 ?_
    refine lv_iload_n hx hb dX7_errorAsKnown_12 rfl (lv_at hl 1 rfl) ?_
    refine va_iald hx hb hK.1 hP 1 0 rfl rfl (g_in rfl (by omega) (by omega)) dX7_errorAsKnown_13 ?_
    refine lv_topi (fun z_5 ez_5 => ?_)
    have kz_5 := congrArg Int32.toInt ez_5
    refine lv_aload_n hx hb dX7_errorAsKnown_14 rfl (lv_at hl 2 rfl) ?_
    refine lv_aload_n hx hb dX7_errorAsKnown_15 rfl (lv_at hl 0 rfl) ?_
    refine va_get (D := D) (ci := 7) (v := .ref (wa 1)) (C := RX7) (T := TX7) (N := 4) hx hb htb iX7 hown hK.1 hP 0 rfl rfl 1 (by decide) (htb _ k_349) (fun _ h9 => h9) rfl dX7_errorAsKnown_16 ?_
    refine lv_iload_n hx hb dX7_errorAsKnown_19 rfl (lv_at hl 1 rfl) ?_
    refine va_iald hx hb hK.1 hP 2 0 rfl rfl (g_in rfl (by omega) (by omega)) dX7_errorAsKnown_20 ?_
    refine lv_topi (fun z_6 ez_6 => ?_)
    have kz_6 := congrArg Int32.toInt ez_6
    refine lv_iload_n hx hb dX7_errorAsKnown_21 rfl (lv_at hl 1 rfl) ?_
    refine lv_iload_n hx hb dX7_errorAsKnown_22 rfl (lv_at hl 3 rfl) ?_
    refine callRV (rest := [.int z_5]) (As := [.int z_6, .int p0, .int p2]) hx hb hml hown htb hK (g_X2_sumFor l D E oh oa osize of0 of1 of2 of3 of4 z_6 p0 p2 (by (try dsimp only); omega)) ok_X2_sumFor k_420 k_421 k_422 k_2 k_423 ⟨(Nat.le_of_ble_eq_true rfl), (Nat.le_of_ble_eq_true rfl)⟩ ⟨(Nat.le_of_ble_eq_true rfl), (Nat.le_of_ble_eq_true rfl)⟩ hl.1 (Nat.le_of_ble_eq_true rfl) rfl rfl dX7_errorAsKnown_23 (hP.sub (ws' := [(oh, .inr (2, G2 oa osize)), ((oa 0), .inl (E 0, 60, .inl of0)), ((oa 1), .inl (E 0, 60, .inl of1)), ((oa 2), .inl (E 0, 60, .inl of2)), ((oa 3), .inl (E 0, 60, .inl of3)), ((oa 4), .inl (E 0, 60, .inl of4))]) [3, 4, 5, 6, 7, 8] rfl) rfl rfl 0 rfl (fun r_7 hw_8 => ?_)
    refine lv_isub hx hb dX7_errorAsKnown_26 ?_
    refine lv_topi (fun z_10 ez_10 => ?_)
    refine lv_goto (tgt := 32) hx hb dX7_errorAsKnown_27 (by decide) ?_
    exact W.iret (v := z_10) hx hb hr (fun t ht hW => ⟨z_10, rfl, (by unfold eX; rw [if_pos (by omega)]; subst_vars; rfl), ht⟩) (fun q h => by cases h) dX7_errorAsKnown_32
set_option maxHeartbeats 4000000 in
set_option maxRecDepth 100000 in
theorem g_X7_rateBetween (l : Launch) (D : va_G) (E : Nat → Nat) (wh : Nat) (wa : Nat → Nat) (wf2 : Nat → Int32) (p0 : Int32) (p1 : Int32) (p2 : Int32) (g0 : 0 ≤ p0.toInt ∧ p0.toInt ≤ 2000000000) : Met l yX7_rateBetween (wl yX7_rateBetween cX7_rateBetween 4 (some .int)) (RM 2 0 0) (rd_P D E [.ref wh, .int p0, .int p1, .int p2] [(wh, .inr (7, G7 wa)), ((wa 2), .inl (E 0, 400, .inl wf2))]) (rd_Q (fun r => (r = rbX wf2 p0 p1 p2))) 0 0 (fun _ => False) := by
  refine Met.ofW (cc := cX7_rateBetween) (maxL := 4) (ret := (some .int)) (by decide) rfl ?_
  intro p e s m args below meth c s₁ B hml hv
  obtain ⟨rfl, hP, hK⟩ := hv
  have hx := B.exec; have hb := B.bytes; have hr := B.returns
  have hts := atoms_spec (ws := wl yX7_rateBetween cX7_rateBetween 4 (some .int)) B.pre
  have htb : ∀ w ∈ tb, w.before _ s = true := fun w h => hts w (List.mem_cons_of_mem _ h)
  have hown : s.vm.findClass RX7 = some m.cls := findClass_of_methodNamed B.named
  have hlocks := B.notSynchronized
  have hP : va_P D vwCl [(wh, .inr (7, G7 wa)), ((wa 2), .inl (E 0, 400, .inl wf2))] s.heap := hP
  have hl := lv_entry ([.ref wh, .int p0, .int p1, .int p2]) (n := 4) (Nat.le_of_ble_eq_true rfl)
  rw [lg_entry_eq]
  generalize (lg_sl ([.ref wh, .int p0, .int p1, .int p2]) ++ List.replicate (4 - (lg_sl ([.ref wh, .int p0, .int p1, .int p2])).length) Slot.unset).toArray = ls at hl ⊢
  have hl : lv_has ls 4 [(0, .ref wh), (1, .int p0), (2, .int p1), (3, .int p2)] := hl
  have lo_p0 := i_lo p0; have hi_p0 := i_hi p0
  have lo_p1 := i_lo p1; have hi_p1 := i_hi p1
  have lo_p2 := i_lo p2; have hi_p2 := i_hi p2
  refine lv_iload_n hx hb dX7_rateBetween_0 rfl (lv_at hl 2 rfl) ?_
  refine lv_ldc hx hb hown (htb _ k_424) dX7_rateBetween_1 ?_
  refine lv_icmp_eq (tgt := 24) hx hb dX7_rateBetween_3 (by decide) (fun c_1 => ?_) (fun c_1 => ?_)
  ·
    have ic_1 : p1.toInt = -2000000000 := (g_eq rfl t_m2000000000).mp c_1
    clear c_1
    refine lv_ldc hx hb hown (htb _ k_424) dX7_rateBetween_24 ?_
    exact W.iret (v := (-2000000000)) hx hb hr (fun t ht hW => ⟨(-2000000000), rfl, (by unfold rbX; subst_vars; first | (rw [if_pos (by omega)]; done) | (rw [if_neg (by omega), if_pos (by omega)]; done) | (rw [if_neg (by omega), if_neg (by omega)]; done)), ht⟩) (fun q h => by cases h) dX7_rateBetween_26
  ·
    have ic_1 : p1.toInt ≠ -2000000000 := mt (g_eq rfl t_m2000000000).mpr c_1
    clear c_1
    refine lv_iload_n hx hb dX7_rateBetween_6 rfl (lv_at hl 3 rfl) ?_
    refine lv_ldc hx hb hown (htb _ k_424) dX7_rateBetween_7 ?_
    refine lv_icmp_eq (tgt := 24) hx hb dX7_rateBetween_9 (by decide) (fun c_2 => ?_) (fun c_2 => ?_)
    ·
      have ic_2 : p2.toInt = -2000000000 := (g_eq rfl t_m2000000000).mp c_2
      clear c_2
      refine lv_ldc hx hb hown (htb _ k_424) dX7_rateBetween_24 ?_
      exact W.iret (v := (-2000000000)) hx hb hr (fun t ht hW => ⟨(-2000000000), rfl, (by unfold rbX; subst_vars; first | (rw [if_pos (by omega)]; done) | (rw [if_neg (by omega), if_pos (by omega)]; done) | (rw [if_neg (by omega), if_neg (by omega)]; done)), ht⟩) (fun q h => by cases h) dX7_rateBetween_26
    ·
      have ic_2 : p2.toInt ≠ -2000000000 := mt (g_eq rfl t_m2000000000).mpr c_2
      clear c_2
      refine lv_iload_n hx hb dX7_rateBetween_12 rfl (lv_at hl 3 rfl) ?_
      refine lv_iload_n hx hb dX7_rateBetween_13 rfl (lv_at hl 2 rfl) ?_
      refine lv_isub hx hb dX7_rateBetween_14 ?_
      refine lv_topi (fun z_3 ez_3 => ?_)
      refine lv_sipush (v := 999) hx hb dX7_rateBetween_15 (by decide) ?_
      refine callRSN (rest := []) (As := [.int z_3, .int 999]) hx hb hml hown htb hK (g_X8_isWithin l D E z_3 999 (by decide)) ok_X8_isWithin (show Cond.methodLinkNest RX7 45 yX8_isWithin RX8 ∈ nestW by decide +kernel) k_327 k_1 k_328 ⟨(Nat.le_of_ble_eq_true rfl), (Nat.le_of_ble_eq_true rfl)⟩ ⟨(Nat.le_of_ble_eq_true rfl), (Nat.le_of_ble_eq_true rfl)⟩ hl.1 (Nat.le_of_ble_eq_true rfl) rfl rfl dX7_rateBetween_18 (hP.sub (ws' := ([] : va_W)) [] rfl) (fun r_4 hw_5 => ?_)
      try simp only [t_999] at hw_5
      rcases hw_5 with ⟨hr_4, hw_5⟩ | ⟨hr_4, hw_5⟩
      ·
        try simp only [t_999] at hw_5
        refine W_top (y := .int 1) (by rw [hr_4]) ?_
        refine lv_if_ne (tgt := 27) hx hb dX7_rateBetween_21 (by decide) (fun c_7 => ?_) (fun c_7 => absurd c_7 (by decide))
        refine lv_aload_n hx hb dX7_rateBetween_27 rfl (lv_at hl 0 rfl) ?_
        refine lv_iload_n hx hb dX7_rateBetween_28 rfl (lv_at hl 1 rfl) ?_
        refine lv_iconst (v := 2) hx hb dX7_rateBetween_29 (by decide) ?_
        refine callRV (rest := []) (As := [.int p0, .int 2]) hx hb hml hown htb hK (g_X7_isMarked l D E wh wa wf2 p0 2 ) ok_X7_isMarked k_439 k_440 k_441 k_10 k_442 ⟨(Nat.le_of_ble_eq_true rfl), (Nat.le_of_ble_eq_true rfl)⟩ ⟨(Nat.le_of_ble_eq_true rfl), (Nat.le_of_ble_eq_true rfl)⟩ hl.1 (Nat.le_of_ble_eq_true rfl) rfl rfl dX7_rateBetween_30 (hP.sub (ws' := [(wh, .inr (7, G7 wa)), ((wa 2), .inl (E 0, 400, .inl wf2))]) [0, 1] rfl) rfl rfl 0 rfl (fun r_8 hw_9 => ?_)
        try simp only [t_2] at hw_9
        refine lv_if_ne (tgt := 47) hx hb dX7_rateBetween_33 (by decide) (fun c_11 => ?_) (fun c_11 => ?_)
        ·
          have ic_11 : r_8.toInt ≠ 0 := mt (g_eq rfl t_0).mpr c_11
          clear c_11
          refine lv_ldc hx hb hown (htb _ k_424) dX7_rateBetween_47 ?_
          exact W.iret (v := (-2000000000)) hx hb hr (fun t ht hW => ⟨(-2000000000), rfl, (by unfold rbX; subst_vars; first | (rw [if_pos (by omega)]; done) | (rw [if_neg (by omega), if_pos (by omega)]; done) | (rw [if_neg (by omega), if_neg (by omega)]; done)), ht⟩) (fun q h => by cases h) dX7_rateBetween_49
        ·
          have ic_11 : r_8.toInt = 0 := (g_eq rfl t_0).mp c_11
          clear c_11
          refine lv_aload_n hx hb dX7_rateBetween_36 rfl (lv_at hl 0 rfl) ?_
          refine lv_iload_n hx hb dX7_rateBetween_37 rfl (lv_at hl 1 rfl) ?_
          refine lv_iconst (v := 1) hx hb dX7_rateBetween_38 (by decide) ?_
          refine lv_iadd hx hb dX7_rateBetween_39 ?_
          refine lv_topi (fun z_12 ez_12 => ?_)
          have jz_12 : z_12.toInt = p0.toInt + 1 := by rw [ez_12]; exact g_add rfl t_1 (by omega) (by omega)
          refine lv_iconst (v := 3) hx hb dX7_rateBetween_40 (by decide) ?_
          refine callRV (rest := []) (As := [.int z_12, .int 3]) hx hb hml hown htb hK (g_X7_isMarked l D E wh wa wf2 z_12 3 ) ok_X7_isMarked k_439 k_440 k_441 k_10 k_442 ⟨(Nat.le_of_ble_eq_true rfl), (Nat.le_of_ble_eq_true rfl)⟩ ⟨(Nat.le_of_ble_eq_true rfl), (Nat.le_of_ble_eq_true rfl)⟩ hl.1 (Nat.le_of_ble_eq_true rfl) rfl rfl dX7_rateBetween_41 (hP.sub (ws' := [(wh, .inr (7, G7 wa)), ((wa 2), .inl (E 0, 400, .inl wf2))]) [0, 1] rfl) rfl rfl 0 rfl (fun r_13 hw_14 => ?_)
          try simp only [t_3] at hw_14
          refine lv_if_eq (tgt := 50) hx hb dX7_rateBetween_44 (by decide) (fun c_16 => ?_) (fun c_16 => ?_)
          ·
            have ic_16 : r_13.toInt = 0 := (g_eq rfl t_0).mp c_16
            clear c_16
            refine lv_iload_n hx hb dX7_rateBetween_50 rfl (lv_at hl 3 rfl) ?_
            refine lv_iload_n hx hb dX7_rateBetween_51 rfl (lv_at hl 2 rfl) ?_
            refine lv_isub hx hb dX7_rateBetween_52 ?_
            refine lv_topi (fun z_17 ez_17 => ?_)
            exact W.iret (v := z_17) hx hb hr (fun t ht hW => ⟨z_17, rfl, (by unfold rbX; subst_vars; first | (rw [if_pos (by omega)]; done) | (rw [if_neg (by omega), if_pos (by omega)]; done) | (rw [if_neg (by omega), if_neg (by omega)]; done)), ht⟩) (fun q h => by cases h) dX7_rateBetween_53
          ·
            have ic_16 : r_13.toInt ≠ 0 := mt (g_eq rfl t_0).mpr c_16
            clear c_16
            refine lv_ldc hx hb hown (htb _ k_424) dX7_rateBetween_47 ?_
            exact W.iret (v := (-2000000000)) hx hb hr (fun t ht hW => ⟨(-2000000000), rfl, (by unfold rbX; subst_vars; first | (rw [if_pos (by omega)]; done) | (rw [if_neg (by omega), if_pos (by omega)]; done) | (rw [if_neg (by omega), if_neg (by omega)]; done)), ht⟩) (fun q h => by cases h) dX7_rateBetween_49
      ·
        try simp only [t_999] at hw_5
        refine W_top (y := .int 0) (by rw [hr_4]) ?_
        refine lv_if_ne (tgt := 27) hx hb dX7_rateBetween_21 (by decide) (fun c_18 => absurd (by decide) c_18) (fun c_18 => ?_)
        refine lv_ldc hx hb hown (htb _ k_424) dX7_rateBetween_24 ?_
        exact W.iret (v := (-2000000000)) hx hb hr (fun t ht hW => ⟨(-2000000000), rfl, (by unfold rbX; subst_vars; first | (rw [if_pos (by omega)]; done) | (rw [if_neg (by omega), if_pos (by omega)]; done) | (rw [if_neg (by omega), if_neg (by omega)]; done)), ht⟩) (fun q h => by cases h) dX7_rateBetween_26
set_option maxHeartbeats 4000000 in
set_option maxRecDepth 100000 in
theorem g_X7_rateAsKnown (l : Launch) (D : va_G) (E : Nat → Nat) (wh : Nat) (wa : Nat → Nat) (wf0 : Nat → Int32) (wf1 : Nat → Int32) (wf2 : Nat → Int32) (oh : Nat) (oa : Nat → Nat) (osize : Int32) (of0 : Nat → Int32) (of1 : Nat → Int32) (of2 : Nat → Int32) (of3 : Nat → Int32) (of4 : Nat → Int32) (p0 : Int32) (p2 : Int32) (hi_o : (0 ≤ osize.toInt ∧ osize.toInt ≤ 60)) (g0 : 0 ≤ p0.toInt ∧ p0.toInt ≤ 399) : Met l yX7_rateAsKnown (wl yX7_rateAsKnown cX7_rateAsKnown 4 (some .int)) (RM 3 0 0) (rd_P D E [.ref wh, .int p0, .ref oh, .int p2] [(wh, .inr (7, G7 wa)), ((wa 0), .inl (E 0, 400, .inl wf0)), ((wa 1), .inl (E 0, 400, .inl wf1)), ((wa 2), .inl (E 0, 400, .inl wf2)), (oh, .inr (2, G2 oa osize)), ((oa 0), .inl (E 0, 60, .inl of0)), ((oa 1), .inl (E 0, 60, .inl of1)), ((oa 2), .inl (E 0, 60, .inl of2)), ((oa 3), .inl (E 0, 60, .inl of3)), ((oa 4), .inl (E 0, 60, .inl of4))]) (rd_Q (fun r => (r = rX wf0 wf1 wf2 of0 of1 of2 of3 of4 osize p0 p2))) 0 0 (fun _ => False) := by
  refine Met.ofW (cc := cX7_rateAsKnown) (maxL := 4) (ret := (some .int)) (by decide) rfl ?_
  intro p e s m args below meth c s₁ B hml hv
  obtain ⟨rfl, hP, hK⟩ := hv
  have hx := B.exec; have hb := B.bytes; have hr := B.returns
  have hts := atoms_spec (ws := wl yX7_rateAsKnown cX7_rateAsKnown 4 (some .int)) B.pre
  have htb : ∀ w ∈ tb, w.before _ s = true := fun w h => hts w (List.mem_cons_of_mem _ h)
  have hown : s.vm.findClass RX7 = some m.cls := findClass_of_methodNamed B.named
  have hlocks := B.notSynchronized
  have hP : va_P D vwCl [(wh, .inr (7, G7 wa)), ((wa 0), .inl (E 0, 400, .inl wf0)), ((wa 1), .inl (E 0, 400, .inl wf1)), ((wa 2), .inl (E 0, 400, .inl wf2)), (oh, .inr (2, G2 oa osize)), ((oa 0), .inl (E 0, 60, .inl of0)), ((oa 1), .inl (E 0, 60, .inl of1)), ((oa 2), .inl (E 0, 60, .inl of2)), ((oa 3), .inl (E 0, 60, .inl of3)), ((oa 4), .inl (E 0, 60, .inl of4))] s.heap := hP
  have hl := lv_entry ([.ref wh, .int p0, .ref oh, .int p2]) (n := 4) (Nat.le_of_ble_eq_true rfl)
  rw [lg_entry_eq]
  generalize (lg_sl ([.ref wh, .int p0, .ref oh, .int p2]) ++ List.replicate (4 - (lg_sl ([.ref wh, .int p0, .ref oh, .int p2])).length) Slot.unset).toArray = ls at hl ⊢
  have hl : lv_has ls 4 [(0, .ref wh), (1, .int p0), (2, .ref oh), (3, .int p2)] := hl
  have lo_p0 := i_lo p0; have hi_p0 := i_hi p0
  have lo_p2 := i_lo p2; have hi_p2 := i_hi p2
  refine lv_aload_n hx hb dX7_rateAsKnown_0 rfl (lv_at hl 0 rfl) ?_
  refine lv_iload_n hx hb dX7_rateAsKnown_1 rfl (lv_at hl 1 rfl) ?_
  refine lv_aload_n hx hb dX7_rateAsKnown_2 rfl (lv_at hl 0 rfl) ?_
  refine lv_iload_n hx hb dX7_rateAsKnown_3 rfl (lv_at hl 1 rfl) ?_
  refine lv_aload_n hx hb dX7_rateAsKnown_4 rfl (lv_at hl 2 rfl) ?_
  refine lv_iload_n hx hb dX7_rateAsKnown_5 rfl (lv_at hl 3 rfl) ?_
  refine callRV (rest := [.int p0, .ref wh]) (As := [.int p0, .ref oh, .int p2]) hx hb hml hown htb hK (g_X7_errorAsKnown l D E wh wa wf0 wf1 oh oa osize of0 of1 of2 of3 of4 p0 p2 (by (try dsimp only); omega)) ok_X7_errorAsKnown k_433 k_416 k_417 k_10 k_418 ⟨(Nat.le_of_ble_eq_true rfl), (Nat.le_of_ble_eq_true rfl)⟩ ⟨(Nat.le_of_ble_eq_true rfl), (Nat.le_of_ble_eq_true rfl)⟩ hl.1 (Nat.le_of_ble_eq_true rfl) rfl rfl dX7_rateAsKnown_6 (hP.sub (ws' := [(wh, .inr (7, G7 wa)), ((wa 0), .inl (E 0, 400, .inl wf0)), ((wa 1), .inl (E 0, 400, .inl wf1)), (oh, .inr (2, G2 oa osize)), ((oa 0), .inl (E 0, 60, .inl of0)), ((oa 1), .inl (E 0, 60, .inl of1)), ((oa 2), .inl (E 0, 60, .inl of2)), ((oa 3), .inl (E 0, 60, .inl of3)), ((oa 4), .inl (E 0, 60, .inl of4))]) [0, 1, 2, 4, 5, 6, 7, 8, 9] rfl) rfl rfl 0 rfl (fun r_1 hw_2 => ?_)
  refine lv_aload_n hx hb dX7_rateAsKnown_9 rfl (lv_at hl 0 rfl) ?_
  refine lv_iload_n hx hb dX7_rateAsKnown_10 rfl (lv_at hl 1 rfl) ?_
  refine lv_iconst (v := 1) hx hb dX7_rateAsKnown_11 (by decide) ?_
  refine lv_iadd hx hb dX7_rateAsKnown_12 ?_
  refine lv_topi (fun z_4 ez_4 => ?_)
  have jz_4 : z_4.toInt = p0.toInt + 1 := by rw [ez_4]; exact g_add rfl t_1 (by omega) (by omega)
  refine lv_aload_n hx hb dX7_rateAsKnown_13 rfl (lv_at hl 2 rfl) ?_
  refine lv_iload_n hx hb dX7_rateAsKnown_14 rfl (lv_at hl 3 rfl) ?_
  refine callRV (rest := [.int r_1, .int p0, .ref wh]) (As := [.int z_4, .ref oh, .int p2]) hx hb hml hown htb hK (g_X7_errorAsKnown l D E wh wa wf0 wf1 oh oa osize of0 of1 of2 of3 of4 z_4 p2 (by (try dsimp only); omega)) ok_X7_errorAsKnown k_433 k_416 k_417 k_10 k_418 ⟨(Nat.le_of_ble_eq_true rfl), (Nat.le_of_ble_eq_true rfl)⟩ ⟨(Nat.le_of_ble_eq_true rfl), (Nat.le_of_ble_eq_true rfl)⟩ hl.1 (Nat.le_of_ble_eq_true rfl) rfl rfl dX7_rateAsKnown_15 (hP.sub (ws' := [(wh, .inr (7, G7 wa)), ((wa 0), .inl (E 0, 400, .inl wf0)), ((wa 1), .inl (E 0, 400, .inl wf1)), (oh, .inr (2, G2 oa osize)), ((oa 0), .inl (E 0, 60, .inl of0)), ((oa 1), .inl (E 0, 60, .inl of1)), ((oa 2), .inl (E 0, 60, .inl of2)), ((oa 3), .inl (E 0, 60, .inl of3)), ((oa 4), .inl (E 0, 60, .inl of4))]) [0, 1, 2, 4, 5, 6, 7, 8, 9] rfl) rfl rfl 0 rfl (fun r_5 hw_6 => ?_)
  refine callRV (rest := []) (As := [.int p0, .int r_1, .int r_5]) hx hb hml hown htb hK (g_X7_rateBetween l D E wh wa wf2 p0 r_1 r_5 (by (try dsimp only); omega)) ok_X7_rateBetween k_434 k_435 k_436 k_10 k_437 ⟨(Nat.le_of_ble_eq_true rfl), (Nat.le_of_ble_eq_true rfl)⟩ ⟨(Nat.le_of_ble_eq_true rfl), (Nat.le_of_ble_eq_true rfl)⟩ hl.1 (Nat.le_of_ble_eq_true rfl) rfl rfl dX7_rateAsKnown_18 (hP.sub (ws' := [(wh, .inr (7, G7 wa)), ((wa 2), .inl (E 0, 400, .inl wf2))]) [0, 3] rfl) rfl rfl 0 rfl (fun r_8 hw_9 => ?_)
  exact W.iret (v := r_8) hx hb hr (fun t ht hW => ⟨r_8, rfl, (by unfold rX; subst_vars; rfl), ht⟩) (fun q h => by cases h) dX7_rateAsKnown_21
set_option maxHeartbeats 4000000 in
set_option maxRecDepth 100000 in
theorem g_X7_ageOn (l : Launch) (D : va_G) (E : Nat → Nat) (wh : Nat) (wa : Nat → Nat) (wf2 : Nat → Int32) (p0 : Int32) (g0 : 0 ≤ p0.toInt ∧ p0.toInt ≤ 399) : Met l yX7_ageOn (wl yX7_ageOn cX7_ageOn 3 (some .int)) (RM 2 0 0) (rd_P D E [.ref wh, .int p0] [(wh, .inr (7, G7 wa)), ((wa 2), .inl (E 0, 400, .inl wf2))]) (rd_Q (fun r => (r.toInt = ageN wf2 (p0.toInt).toNat))) 0 0 (fun _ => False) := by
  refine Met.ofW (cc := cX7_ageOn) (maxL := 3) (ret := (some .int)) (by decide) rfl ?_
  intro p e s m args below meth c s₁ B hml hv
  obtain ⟨rfl, hP, hK⟩ := hv
  have hx := B.exec; have hb := B.bytes; have hr := B.returns
  have hts := atoms_spec (ws := wl yX7_ageOn cX7_ageOn 3 (some .int)) B.pre
  have htb : ∀ w ∈ tb, w.before _ s = true := fun w h => hts w (List.mem_cons_of_mem _ h)
  have hown : s.vm.findClass RX7 = some m.cls := findClass_of_methodNamed B.named
  have hlocks := B.notSynchronized
  have hP : va_P D vwCl [(wh, .inr (7, G7 wa)), ((wa 2), .inl (E 0, 400, .inl wf2))] s.heap := hP
  have hl := lv_entry ([.ref wh, .int p0]) (n := 3) (Nat.le_of_ble_eq_true rfl)
  rw [lg_entry_eq]
  generalize (lg_sl ([.ref wh, .int p0]) ++ List.replicate (3 - (lg_sl ([.ref wh, .int p0])).length) Slot.unset).toArray = ls at hl ⊢
  have hl : lv_has ls 3 [(0, .ref wh), (1, .int p0)] := hl
  have lo_p0 := i_lo p0; have hi_p0 := i_hi p0
  refine lv_iconst (v := 0) hx hb dX7_ageOn_0 (by decide) ?_
  refine lv_istore_n (lv' := [(2, .int 0), (0, .ref wh), (1, .int p0)]) hx hb dX7_ageOn_1 rfl hl (by decide) rfl (fun ls hl => ?_)
  have loop_1 : ∀ (N_3 : Nat) (L2_2 : Int32)  (ls : Array Slot), p0.toInt - L2_2.toInt < (N_3 : Int) → (0 ≤ L2_2.toInt ∧ L2_2.toInt ≤ p0.toInt) → (ageN wf2 (p0.toInt).toNat - L2_2.toInt = ageN wf2 (p0.toInt - L2_2.toInt).toNat) → lv_has ls 3 [(2, .int L2_2), (0, .ref wh), (1, .int p0)] → W p l e (headSpec (wl yX7_ageOn cX7_ageOn 3 (some .int)) (RM 2 0 0)).room s m [Value.ref wh, .int p0].toArray below meth c s.heap [] 0 0 (MQ below (rd_Q (fun r => (r.toInt = ageN wf2 (p0.toInt).toNat))) [Value.ref wh, .int p0].toArray s 0 0 (fun _ => False)) (F0 m 2 ls []) := by
    intro N_3
    induction N_3 with
    | zero => intro L2_2  ls hm v0_2 v1_2 _; exfalso; omega
    | succ N_3 ih_2 =>
      intro L2_2 ls hm v0_2 v1_2 hl
      have lo_L2_2 := i_lo L2_2; have hi_L2_2 := i_hi L2_2
      refine lv_iload_n hx hb dX7_ageOn_2 rfl (lv_at hl 0 rfl) ?_
      refine lv_iload_n hx hb dX7_ageOn_3 rfl (lv_at hl 2 rfl) ?_
      refine lv_icmp_ge (tgt := 26) hx hb dX7_ageOn_4 (by decide) (fun c_4 => ?_) (fun c_4 => ?_)
      ·
        have ic_4 : p0.toInt ≤ L2_2.toInt := by first | exact (g_le rfl rfl).mp c_4 | (have h := mt (g_lt rfl rfl).mpr c_4; omega)
        clear c_4
        refine lv_iload_n hx hb dX7_ageOn_26 rfl (lv_at hl 2 rfl) ?_
        exact W.iret (v := p0) hx hb hr (fun t ht hW => ⟨p0, rfl, (by have h9 := v1_2; rw [show (p0.toInt - L2_2.toInt).toNat = 0 by omega] at h9; have h8 : ageN wf2 0 = 0 := rfl; omega), ht⟩) (fun q h => by cases h) dX7_ageOn_27
      ·
        have ic_4 : L2_2.toInt < p0.toInt := by first | exact (g_lt rfl rfl).mp c_4 | (have h := mt (g_le rfl rfl).mpr c_4; omega)
        clear c_4
        refine lv_aload_n hx hb dX7_ageOn_7 rfl (lv_at hl 1 rfl) ?_
        refine lv_iload_n hx hb dX7_ageOn_8 rfl (lv_at hl 2 rfl) ?_
        refine lv_iload_n hx hb dX7_ageOn_9 rfl (lv_at hl 0 rfl) ?_
        refine lv_isub hx hb dX7_ageOn_10 ?_
        refine lv_topi (fun z_5 ez_5 => ?_)
        have jz_5 : z_5.toInt = p0.toInt - L2_2.toInt := by rw [ez_5]; exact g_sub rfl rfl (by omega) (by omega)
        refine lv_iconst (v := 1) hx hb dX7_ageOn_11 (by decide) ?_
        refine callRV (rest := []) (As := [.int z_5, .int 1]) hx hb hml hown htb hK (g_X7_isMarked l D E wh wa wf2 z_5 1 ) ok_X7_isMarked k_439 k_440 k_441 k_10 k_442 ⟨(Nat.le_of_ble_eq_true rfl), (Nat.le_of_ble_eq_true rfl)⟩ ⟨(Nat.le_of_ble_eq_true rfl), (Nat.le_of_ble_eq_true rfl)⟩ hl.1 (Nat.le_of_ble_eq_true rfl) rfl rfl dX7_ageOn_12 (hP.sub (ws' := [(wh, .inr (7, G7 wa)), ((wa 2), .inl (E 0, 400, .inl wf2))]) [0, 1] rfl) rfl rfl 0 rfl (fun r_6 hw_7 => ?_)
        try simp only [t_1] at hw_7
        refine lv_if_eq (tgt := 20) hx hb dX7_ageOn_15 (by decide) (fun c_9 => ?_) (fun c_9 => ?_)
        ·
          have ic_9 : r_6.toInt = 0 := (g_eq rfl t_0).mp c_9
          clear c_9
          obtain ⟨z_10, ez_10⟩ : ∃ y : Int32, y = L2_2 + 1 := ⟨_, rfl⟩
          have jz_10 : z_10.toInt = L2_2.toInt + 1 := by rw [ez_10]; exact g_add rfl t_1 (by omega) (by omega)
          refine lv_iinc (v := z_10) (lv' := [(2, .int z_10), (0, .ref wh), (1, .int p0)]) hx hb dX7_ageOn_20 hl (k := 0) rfl (by rw [ez_10]; rfl) (by decide) rfl (fun ls hl => ?_)
          refine lv_goto (tgt := 2) hx hb dX7_ageOn_23 (by decide) ?_
          exact ih_2 z_10 _ (by (try dsimp only); omega) (by (try dsimp only); omega) (by have h9 := age_back (f := wf2) (m := z_5) (n := (p0.toInt - L2_2.toInt).toNat) (by omega) (by omega) v1_2 (by omega); rw [show (p0.toInt - z_10.toInt).toNat = (p0.toInt - L2_2.toInt).toNat - 1 by omega, ← h9]; omega) (lv_sub hl [0, 1, 2] rfl)
        ·
          have ic_9 : r_6.toInt ≠ 0 := mt (g_eq rfl t_0).mpr c_9
          clear c_9
          refine lv_iload_n hx hb dX7_ageOn_18 rfl (lv_at hl 0 rfl) ?_
          exact W.iret (v := L2_2) hx hb hr (fun t ht hW => ⟨L2_2, rfl, (by have h9 := age_here (f := wf2) (m := z_5) (n := (p0.toInt - L2_2.toInt).toNat) (by omega) (by omega) (by omega); omega), ht⟩) (fun q h => by cases h) dX7_ageOn_19
  exact loop_1 400 0 _ (by have h0 := t_0; (try dsimp only); omega) (by have h0 := t_0; (try dsimp only); omega) (by have h0 := t_0; rw [h0, show p0.toInt - 0 = p0.toInt by omega]; omega)  (lv_sub hl [0, 1, 2] rfl)
set_option maxHeartbeats 4000000 in
set_option maxRecDepth 100000 in
theorem g_X7_daysAway (l : Launch) (D : va_G) (E : Nat → Nat) (wh : Nat) (wa : Nat → Nat) (wf3 : Nat → Int32) (p0 : Int32) (g0 : 0 ≤ p0.toInt ∧ p0.toInt ≤ 399) : Met l yX7_daysAway (wl yX7_daysAway cX7_daysAway 4 (some .int)) (RM 0 0 0) (rd_P D E [.ref wh, .int p0] [(wh, .inr (7, G7 wa)), ((wa 3), .inl (E 0, 400, .inl wf3))]) (rd_Q (fun r => (r.toInt = awN wf3 (p0.toInt + 1).toNat))) 0 0 (fun _ => False) := by
  refine Met.ofW (cc := cX7_daysAway) (maxL := 4) (ret := (some .int)) (by decide) rfl ?_
  intro p e s m args below meth c s₁ B hml hv
  obtain ⟨rfl, hP, hK⟩ := hv
  have hx := B.exec; have hb := B.bytes; have hr := B.returns
  have hts := atoms_spec (ws := wl yX7_daysAway cX7_daysAway 4 (some .int)) B.pre
  have htb : ∀ w ∈ tb, w.before _ s = true := fun w h => hts w (List.mem_cons_of_mem _ h)
  have hown : s.vm.findClass RX7 = some m.cls := findClass_of_methodNamed B.named
  have hlocks := B.notSynchronized
  have hP : va_P D vwCl [(wh, .inr (7, G7 wa)), ((wa 3), .inl (E 0, 400, .inl wf3))] s.heap := hP
  have hl := lv_entry ([.ref wh, .int p0]) (n := 4) (Nat.le_of_ble_eq_true rfl)
  rw [lg_entry_eq]
  generalize (lg_sl ([.ref wh, .int p0]) ++ List.replicate (4 - (lg_sl ([.ref wh, .int p0])).length) Slot.unset).toArray = ls at hl ⊢
  have hl : lv_has ls 4 [(0, .ref wh), (1, .int p0)] := hl
  have lo_p0 := i_lo p0; have hi_p0 := i_hi p0
  refine lv_iconst (v := 0) hx hb dX7_daysAway_0 (by decide) ?_
  refine lv_istore_n (lv' := [(2, .int 0), (0, .ref wh), (1, .int p0)]) hx hb dX7_daysAway_1 rfl hl (by decide) rfl (fun ls hl => ?_)
  refine lv_iconst (v := 0) hx hb dX7_daysAway_2 (by decide) ?_
  refine lv_istore_n (lv' := [(3, .int 0), (2, .int 0), (0, .ref wh), (1, .int p0)]) hx hb dX7_daysAway_3 rfl hl (by decide) rfl (fun ls hl => ?_)
  have loop_1 : ∀ (N_3 : Nat) (L3_4 : Int32) (L2_4 : Int32)  (ls : Array Slot), p0.toInt + 1 - L3_4.toInt < (N_3 : Int) → (0 ≤ L3_4.toInt ∧ L3_4.toInt ≤ p0.toInt + 1 ∧ 0 ≤ L2_4.toInt ∧ L2_4.toInt ≤ L3_4.toInt) → (L2_4.toInt = awN wf3 (L3_4).toNatClampNeg) → lv_has ls 4 [(3, .int L3_4), (2, .int L2_4), (0, .ref wh), (1, .int p0)] → W p l e (headSpec (wl yX7_daysAway cX7_daysAway 4 (some .int)) (RM 0 0 0)).room s m [Value.ref wh, .int p0].toArray below meth c s.heap [] 0 0 (MQ below (rd_Q (fun r => (r.toInt = awN wf3 (p0.toInt + 1).toNat))) [Value.ref wh, .int p0].toArray s 0 0 (fun _ => False)) (F0 m 4 ls []) := by
    intro N_3
    induction N_3 with
    | zero => intro L3_4 L2_4  ls hm v0_4 v1_4 _; exfalso; omega
    | succ N_3 ih_2 =>
      intro L3_4 L2_4 ls hm v0_4 v1_4 hl
      have lo_L3_4 := i_lo L3_4; have hi_L3_4 := i_hi L3_4
      have lo_L2_4 := i_lo L2_4; have hi_L2_4 := i_hi L2_4
      refine lv_iload_n hx hb dX7_daysAway_4 rfl (lv_at hl 0 rfl) ?_
      refine lv_iload_n hx hb dX7_daysAway_5 rfl (lv_at hl 3 rfl) ?_
      refine lv_icmp_gt (tgt := 35) hx hb dX7_daysAway_6 (by decide) (fun c_4 => ?_) (fun c_4 => ?_)
      ·
        have ic_4 : p0.toInt < L3_4.toInt := by first | exact (g_lt rfl rfl).mp c_4 | (have h := mt (g_le rfl rfl).mpr c_4; omega)
        clear c_4
        refine lv_iload_n hx hb dX7_daysAway_35 rfl (lv_at hl 1 rfl) ?_
        exact W.iret (v := L2_4) hx hb hr (fun t ht hW => ⟨L2_4, rfl, (by have h9 := v1_4; have hc := i_clamp0 (x := L3_4) (by omega); rw [show (p0.toInt + 1).toNat = (L3_4).toNatClampNeg by omega]; exact h9), ht⟩) (fun q h => by cases h) dX7_daysAway_36
      ·
        have ic_4 : L3_4.toInt ≤ p0.toInt := by first | exact (g_le rfl rfl).mp c_4 | (have h := mt (g_lt rfl rfl).mpr c_4; omega)
        clear c_4
        refine lv_iload_n hx hb dX7_daysAway_9 rfl (lv_at hl 0 rfl) ?_
        refine lv_sipush (v := 400) hx hb dX7_daysAway_10 (by decide) ?_
        refine lv_icmp_ge (tgt := 35) hx hb dX7_daysAway_13 (by decide) (fun c_5 => absurd c_5 (by rw [g_le t_400 rfl]; omega)) (fun c_5 => ?_)
        refine lv_aload_n hx hb dX7_daysAway_16 rfl (lv_at hl 2 rfl) ?_
        refine va_get (D := D) (ci := 7) (v := .ref (wa 3)) (C := RX7) (T := TX7) (N := 4) hx hb htb iX7 hown hK.1 hP 0 rfl rfl 3 (by decide) (htb _ k_351) (fun _ h9 => h9) rfl dX7_daysAway_17 ?_
        refine lv_iload_n hx hb dX7_daysAway_20 rfl (lv_at hl 0 rfl) ?_
        refine va_iald hx hb hK.1 hP 1 0 rfl rfl (g_in rfl (by omega) (by omega)) dX7_daysAway_21 ?_
        refine lv_topi (fun z_6 ez_6 => ?_)
        have kz_6 := congrArg Int32.toInt ez_6
        refine lv_iconst (v := (-1)) hx hb dX7_daysAway_22 (by decide) ?_
        refine lv_icmp_eq (tgt := 29) hx hb dX7_daysAway_23 (by decide) (fun c_7 => ?_) (fun c_7 => ?_)
        ·
          have ic_7 : z_6.toInt = -1 := (g_eq rfl t_m1).mp c_7
          clear c_7
          obtain ⟨z_8, ez_8⟩ : ∃ y : Int32, y = L3_4 + 1 := ⟨_, rfl⟩
          have jz_8 : z_8.toInt = L3_4.toInt + 1 := by rw [ez_8]; exact g_add rfl t_1 (by omega) (by omega)
          refine lv_iinc (v := z_8) (lv' := [(3, .int z_8), (2, .int L2_4), (0, .ref wh), (1, .int p0)]) hx hb dX7_daysAway_29 hl (k := 0) rfl (by rw [ez_8]; rfl) (by decide) rfl (fun ls hl => ?_)
          refine lv_goto (tgt := 4) hx hb dX7_daysAway_32 (by decide) ?_
          exact ih_2 z_8 L2_4 _ (by (try dsimp only); omega) (by (try dsimp only); omega) (by have hcl := clampS (by omega) jz_8; rw [hcl, awN_succ]; split <;> omega) (lv_sub hl [0, 1, 2, 3] rfl)
        ·
          have ic_7 : z_6.toInt ≠ -1 := mt (g_eq rfl t_m1).mpr c_7
          clear c_7
          obtain ⟨z_9, ez_9⟩ : ∃ y : Int32, y = L2_4 + 1 := ⟨_, rfl⟩
          have jz_9 : z_9.toInt = L2_4.toInt + 1 := by rw [ez_9]; exact g_add rfl t_1 (by omega) (by omega)
          refine lv_iinc (v := z_9) (lv' := [(2, .int z_9), (3, .int L3_4), (0, .ref wh), (1, .int p0)]) hx hb dX7_daysAway_26 hl (k := 1) rfl (by rw [ez_9]; rfl) (by decide) rfl (fun ls hl => ?_)
          obtain ⟨z_10, ez_10⟩ : ∃ y : Int32, y = L3_4 + 1 := ⟨_, rfl⟩
          have jz_10 : z_10.toInt = L3_4.toInt + 1 := by rw [ez_10]; exact g_add rfl t_1 (by omega) (by omega)
          refine lv_iinc (v := z_10) (lv' := [(3, .int z_10), (2, .int z_9), (0, .ref wh), (1, .int p0)]) hx hb dX7_daysAway_29 hl (k := 1) rfl (by rw [ez_10]; rfl) (by decide) rfl (fun ls hl => ?_)
          refine lv_goto (tgt := 4) hx hb dX7_daysAway_32 (by decide) ?_
          exact ih_2 z_10 z_9 _ (by (try dsimp only); omega) (by (try dsimp only); omega) (by have hcl := clampS (by omega) jz_10; rw [hcl, awN_succ]; split <;> omega) (lv_sub hl [0, 1, 2, 3] rfl)
  exact loop_1 401 0 0 _ (by have h0 := t_0; (try dsimp only); omega) (by have h0 := t_0; (try dsimp only); omega) (by rfl)  (lv_sub hl [0, 1, 2, 3] rfl)
set_option maxHeartbeats 4000000 in
set_option maxRecDepth 100000 in
theorem g_X3_least (l : Launch) (D : va_G) (E : Nat → Nat) (rh : Nat) (ra : Nat → Nat) (rsize : Int32) (rf1 : Nat → Int32) (hi_r : (0 ≤ rsize.toInt ∧ rsize.toInt ≤ 60)) : Met l yX3_least (wl yX3_least cX3_least 3 (some .int)) (RM 1 0 0) (rd_P D E [.ref rh] [(rh, .inr (3, G3 ra rsize)), ((ra 1), .inl (E 0, 60, .inl rf1))]) (rd_Q (fun r => (r.toInt = minF rf1 (rsize).toNatClampNeg))) 0 0 (fun _ => False) := by
  refine Met.ofW (cc := cX3_least) (maxL := 3) (ret := (some .int)) (by decide) rfl ?_
  intro p e s m args below meth c s₁ B hml hv
  obtain ⟨rfl, hP, hK⟩ := hv
  have hx := B.exec; have hb := B.bytes; have hr := B.returns
  have hts := atoms_spec (ws := wl yX3_least cX3_least 3 (some .int)) B.pre
  have htb : ∀ w ∈ tb, w.before _ s = true := fun w h => hts w (List.mem_cons_of_mem _ h)
  have hown : s.vm.findClass RX3 = some m.cls := findClass_of_methodNamed B.named
  have hlocks := B.notSynchronized
  have hP : va_P D vwCl [(rh, .inr (3, G3 ra rsize)), ((ra 1), .inl (E 0, 60, .inl rf1))] s.heap := hP
  have hl := lv_entry ([.ref rh]) (n := 3) (Nat.le_of_ble_eq_true rfl)
  rw [lg_entry_eq]
  generalize (lg_sl ([.ref rh]) ++ List.replicate (3 - (lg_sl ([.ref rh])).length) Slot.unset).toArray = ls at hl ⊢
  have hl : lv_has ls 3 [(0, .ref rh)] := hl
  refine lv_sipush (v := 999) hx hb dX3_least_0 (by decide) ?_
  refine lv_istore_n (lv' := [(1, .int 999), (0, .ref rh)]) hx hb dX3_least_3 rfl hl (by decide) rfl (fun ls hl => ?_)
  refine lv_iconst (v := 0) hx hb dX3_least_4 (by decide) ?_
  refine lv_istore_n (lv' := [(2, .int 0), (1, .int 999), (0, .ref rh)]) hx hb dX3_least_5 rfl hl (by decide) rfl (fun ls hl => ?_)
  have loop_1 : ∀ (N_3 : Nat) (L2_6 : Int32) (L1_6 : Int32)  (ls : Array Slot), rsize.toInt - L2_6.toInt < (N_3 : Int) → (0 ≤ L2_6.toInt ∧ L2_6.toInt ≤ rsize.toInt) → (L1_6.toInt = minF rf1 (L2_6).toNatClampNeg) → lv_has ls 3 [(2, .int L2_6), (1, .int L1_6), (0, .ref rh)] → W p l e (headSpec (wl yX3_least cX3_least 3 (some .int)) (RM 1 0 0)).room s m [Value.ref rh].toArray below meth c s.heap [] 0 0 (MQ below (rd_Q (fun r => (r.toInt = minF rf1 (rsize).toNatClampNeg))) [Value.ref rh].toArray s 0 0 (fun _ => False)) (F0 m 6 ls []) := by
    intro N_3
    induction N_3 with
    | zero => intro L2_6 L1_6  ls hm v0_6 v1_6 _; exfalso; omega
    | succ N_3 ih_2 =>
      intro L2_6 L1_6 ls hm v0_6 v1_6 hl
      have lo_L2_6 := i_lo L2_6; have hi_L2_6 := i_hi L2_6
      have lo_L1_6 := i_lo L1_6; have hi_L1_6 := i_hi L1_6
      refine lv_iload_n hx hb dX3_least_6 rfl (lv_at hl 0 rfl) ?_
      refine lv_aload_n hx hb dX3_least_7 rfl (lv_at hl 2 rfl) ?_
      refine va_get (D := D) (ci := 3) (v := .int rsize) (C := RX3) (T := TX3) (N := 4) hx hb htb iX3 hown hK.1 hP 0 rfl rfl 3 (by decide) (htb _ k_66) (fun _ h9 => h9) rfl dX3_least_8 ?_
      refine lv_icmp_ge (tgt := 31) hx hb dX3_least_11 (by decide) (fun c_4 => ?_) (fun c_4 => ?_)
      ·
        have ic_4 : rsize.toInt ≤ L2_6.toInt := by first | exact (g_le rfl rfl).mp c_4 | (have h := mt (g_lt rfl rfl).mpr c_4; omega)
        clear c_4
        refine lv_iload_n hx hb dX3_least_31 rfl (lv_at hl 1 rfl) ?_
        exact W.iret (v := L1_6) hx hb hr (fun t ht hW => ⟨L1_6, rfl, (by have hcl := clampE (i := L2_6) (j := rsize) (by omega) (by omega); rw [hcl]; exact v1_6), ht⟩) (fun q h => by cases h) dX3_least_32
      ·
        have ic_4 : L2_6.toInt < rsize.toInt := by first | exact (g_lt rfl rfl).mp c_4 | (have h := mt (g_le rfl rfl).mpr c_4; omega)
        clear c_4
        refine lv_iload_n hx hb dX3_least_14 rfl (lv_at hl 1 rfl) ?_
        refine lv_aload_n hx hb dX3_least_15 rfl (lv_at hl 2 rfl) ?_
        refine va_get (D := D) (ci := 3) (v := .ref (ra 1)) (C := RX3) (T := TX3) (N := 4) hx hb htb iX3 hown hK.1 hP 0 rfl rfl 1 (by decide) (htb _ k_63) (fun _ h9 => h9) rfl dX3_least_16 ?_
        refine lv_iload_n hx hb dX3_least_19 rfl (lv_at hl 0 rfl) ?_
        refine va_iald hx hb hK.1 hP 1 0 rfl rfl (g_in rfl (by omega) (by omega)) dX3_least_20 ?_
        refine lv_topi (fun z_5 ez_5 => ?_)
        have kz_5 := congrArg Int32.toInt ez_5
        refine va_mmin hx hb (by rw [hml, hl.1]) hown (htb _ k_724) (htb _ k_725) (htb _ k_11) (htb _ k_726) (Nat.le_of_ble_eq_true rfl) (Nat.le_of_ble_eq_true rfl) (Nat.le_of_ble_eq_true rfl) (Nat.le_of_ble_eq_true rfl) dX3_least_21 ?_
        refine lv_topi (fun z_6 ez_6 => ?_)
        have jz_6 := g_min rfl rfl ez_6
        refine lv_istore_n (lv' := [(1, .int z_6), (2, .int L2_6), (0, .ref rh)]) hx hb dX3_least_24 rfl hl (by decide) rfl (fun ls hl => ?_)
        obtain ⟨z_7, ez_7⟩ : ∃ y : Int32, y = L2_6 + 1 := ⟨_, rfl⟩
        have jz_7 : z_7.toInt = L2_6.toInt + 1 := by rw [ez_7]; exact g_add rfl t_1 (by omega) (by omega)
        refine lv_iinc (v := z_7) (lv' := [(2, .int z_7), (1, .int z_6), (0, .ref rh)]) hx hb dX3_least_25 hl (k := 1) rfl (by rw [ez_7]; rfl) (by decide) rfl (fun ls hl => ?_)
        refine lv_goto (tgt := 6) hx hb dX3_least_28 (by decide) ?_
        exact ih_2 z_7 z_6 _ (by (try dsimp only); omega) (by (try dsimp only); omega) (by have hcl := clampS (by omega) jz_7; rw [hcl, minF_succ]; split <;> omega) (lv_sub hl [0, 1, 2] rfl)
  exact loop_1 61 0 999 _ (by have h0 := t_0; have h1 := t_999; (try dsimp only); omega) (by have h0 := t_0; have h1 := t_999; (try dsimp only); omega) (by rw [clamp_0]; exact t_999)  (lv_sub hl [0, 1, 2] rfl)
set_option maxHeartbeats 4000000 in
set_option maxRecDepth 100000 in
theorem g_X3_most (l : Launch) (D : va_G) (E : Nat → Nat) (rh : Nat) (ra : Nat → Nat) (rsize : Int32) (rf1 : Nat → Int32) (hi_r : (0 ≤ rsize.toInt ∧ rsize.toInt ≤ 60)) : Met l yX3_most (wl yX3_most cX3_most 3 (some .int)) (RM 1 0 0) (rd_P D E [.ref rh] [(rh, .inr (3, G3 ra rsize)), ((ra 1), .inl (E 0, 60, .inl rf1))]) (rd_Q (fun r => (r.toInt = maxF rf1 (rsize).toNatClampNeg))) 0 0 (fun _ => False) := by
  refine Met.ofW (cc := cX3_most) (maxL := 3) (ret := (some .int)) (by decide) rfl ?_
  intro p e s m args below meth c s₁ B hml hv
  obtain ⟨rfl, hP, hK⟩ := hv
  have hx := B.exec; have hb := B.bytes; have hr := B.returns
  have hts := atoms_spec (ws := wl yX3_most cX3_most 3 (some .int)) B.pre
  have htb : ∀ w ∈ tb, w.before _ s = true := fun w h => hts w (List.mem_cons_of_mem _ h)
  have hown : s.vm.findClass RX3 = some m.cls := findClass_of_methodNamed B.named
  have hlocks := B.notSynchronized
  have hP : va_P D vwCl [(rh, .inr (3, G3 ra rsize)), ((ra 1), .inl (E 0, 60, .inl rf1))] s.heap := hP
  have hl := lv_entry ([.ref rh]) (n := 3) (Nat.le_of_ble_eq_true rfl)
  rw [lg_entry_eq]
  generalize (lg_sl ([.ref rh]) ++ List.replicate (3 - (lg_sl ([.ref rh])).length) Slot.unset).toArray = ls at hl ⊢
  have hl : lv_has ls 3 [(0, .ref rh)] := hl
  refine lv_sipush (v := (-999)) hx hb dX3_most_0 (by decide) ?_
  refine lv_istore_n (lv' := [(1, .int (-999)), (0, .ref rh)]) hx hb dX3_most_3 rfl hl (by decide) rfl (fun ls hl => ?_)
  refine lv_iconst (v := 0) hx hb dX3_most_4 (by decide) ?_
  refine lv_istore_n (lv' := [(2, .int 0), (1, .int (-999)), (0, .ref rh)]) hx hb dX3_most_5 rfl hl (by decide) rfl (fun ls hl => ?_)
  have loop_1 : ∀ (N_3 : Nat) (L2_6 : Int32) (L1_6 : Int32)  (ls : Array Slot), rsize.toInt - L2_6.toInt < (N_3 : Int) → (0 ≤ L2_6.toInt ∧ L2_6.toInt ≤ rsize.toInt) → (L1_6.toInt = maxF rf1 (L2_6).toNatClampNeg) → lv_has ls 3 [(2, .int L2_6), (1, .int L1_6), (0, .ref rh)] → W p l e (headSpec (wl yX3_most cX3_most 3 (some .int)) (RM 1 0 0)).room s m [Value.ref rh].toArray below meth c s.heap [] 0 0 (MQ below (rd_Q (fun r => (r.toInt = maxF rf1 (rsize).toNatClampNeg))) [Value.ref rh].toArray s 0 0 (fun _ => False)) (F0 m 6 ls []) := by
    intro N_3
    induction N_3 with
    | zero => intro L2_6 L1_6  ls hm v0_6 v1_6 _; exfalso; omega
    | succ N_3 ih_2 =>
      intro L2_6 L1_6 ls hm v0_6 v1_6 hl
      have lo_L2_6 := i_lo L2_6; have hi_L2_6 := i_hi L2_6
      have lo_L1_6 := i_lo L1_6; have hi_L1_6 := i_hi L1_6
      refine lv_iload_n hx hb dX3_most_6 rfl (lv_at hl 0 rfl) ?_
      refine lv_aload_n hx hb dX3_most_7 rfl (lv_at hl 2 rfl) ?_
      refine va_get (D := D) (ci := 3) (v := .int rsize) (C := RX3) (T := TX3) (N := 4) hx hb htb iX3 hown hK.1 hP 0 rfl rfl 3 (by decide) (htb _ k_66) (fun _ h9 => h9) rfl dX3_most_8 ?_
      refine lv_icmp_ge (tgt := 31) hx hb dX3_most_11 (by decide) (fun c_4 => ?_) (fun c_4 => ?_)
      ·
        have ic_4 : rsize.toInt ≤ L2_6.toInt := by first | exact (g_le rfl rfl).mp c_4 | (have h := mt (g_lt rfl rfl).mpr c_4; omega)
        clear c_4
        refine lv_iload_n hx hb dX3_most_31 rfl (lv_at hl 1 rfl) ?_
        exact W.iret (v := L1_6) hx hb hr (fun t ht hW => ⟨L1_6, rfl, (by have hcl := clampE (i := L2_6) (j := rsize) (by omega) (by omega); rw [hcl]; exact v1_6), ht⟩) (fun q h => by cases h) dX3_most_32
      ·
        have ic_4 : L2_6.toInt < rsize.toInt := by first | exact (g_lt rfl rfl).mp c_4 | (have h := mt (g_le rfl rfl).mpr c_4; omega)
        clear c_4
        refine lv_iload_n hx hb dX3_most_14 rfl (lv_at hl 1 rfl) ?_
        refine lv_aload_n hx hb dX3_most_15 rfl (lv_at hl 2 rfl) ?_
        refine va_get (D := D) (ci := 3) (v := .ref (ra 1)) (C := RX3) (T := TX3) (N := 4) hx hb htb iX3 hown hK.1 hP 0 rfl rfl 1 (by decide) (htb _ k_63) (fun _ h9 => h9) rfl dX3_most_16 ?_
        refine lv_iload_n hx hb dX3_most_19 rfl (lv_at hl 0 rfl) ?_
        refine va_iald hx hb hK.1 hP 1 0 rfl rfl (g_in rfl (by omega) (by omega)) dX3_most_20 ?_
        refine lv_topi (fun z_5 ez_5 => ?_)
        have kz_5 := congrArg Int32.toInt ez_5
        refine va_mmax hx hb (by rw [hml, hl.1]) hown (htb _ k_731) (htb _ k_732) (htb _ k_11) (htb _ k_733) (Nat.le_of_ble_eq_true rfl) (Nat.le_of_ble_eq_true rfl) (Nat.le_of_ble_eq_true rfl) (Nat.le_of_ble_eq_true rfl) dX3_most_21 ?_
        refine lv_topi (fun z_6 ez_6 => ?_)
        have jz_6 := g_max rfl rfl ez_6
        refine lv_istore_n (lv' := [(1, .int z_6), (2, .int L2_6), (0, .ref rh)]) hx hb dX3_most_24 rfl hl (by decide) rfl (fun ls hl => ?_)
        obtain ⟨z_7, ez_7⟩ : ∃ y : Int32, y = L2_6 + 1 := ⟨_, rfl⟩
        have jz_7 : z_7.toInt = L2_6.toInt + 1 := by rw [ez_7]; exact g_add rfl t_1 (by omega) (by omega)
        refine lv_iinc (v := z_7) (lv' := [(2, .int z_7), (1, .int z_6), (0, .ref rh)]) hx hb dX3_most_25 hl (k := 1) rfl (by rw [ez_7]; rfl) (by decide) rfl (fun ls hl => ?_)
        refine lv_goto (tgt := 6) hx hb dX3_most_28 (by decide) ?_
        exact ih_2 z_7 z_6 _ (by (try dsimp only); omega) (by (try dsimp only); omega) (by have hcl := clampS (by omega) jz_7; rw [hcl, maxF_succ]; split <;> omega) (lv_sub hl [0, 1, 2] rfl)
  exact loop_1 61 0 ((-999)) _ (by have h0 := t_m999; have h1 := t_0; (try dsimp only); omega) (by have h0 := t_m999; have h1 := t_0; (try dsimp only); omega) (by rw [clamp_0]; exact t_m999)  (lv_sub hl [0, 1, 2] rfl)
set_option maxHeartbeats 4000000 in
set_option maxRecDepth 100000 in
theorem g_X3_sum (l : Launch) (D : va_G) (E : Nat → Nat) (rh : Nat) (ra : Nat → Nat) (rsize : Int32) (rf1 : Nat → Int32) (hi_r : (0 ≤ rsize.toInt ∧ rsize.toInt ≤ 60)) : Met l yX3_sum (wl yX3_sum cX3_sum 3 (some .int)) (RM 0 0 0) (rd_P D E [.ref rh] [(rh, .inr (3, G3 ra rsize)), ((ra 1), .inl (E 0, 60, .inl rf1))]) (rd_Q (fun r => (r = sumI rf1 (rsize).toNatClampNeg))) 0 0 (fun _ => False) := by
  refine Met.ofW (cc := cX3_sum) (maxL := 3) (ret := (some .int)) (by decide) rfl ?_
  intro p e s m args below meth c s₁ B hml hv
  obtain ⟨rfl, hP, hK⟩ := hv
  have hx := B.exec; have hb := B.bytes; have hr := B.returns
  have hts := atoms_spec (ws := wl yX3_sum cX3_sum 3 (some .int)) B.pre
  have htb : ∀ w ∈ tb, w.before _ s = true := fun w h => hts w (List.mem_cons_of_mem _ h)
  have hown : s.vm.findClass RX3 = some m.cls := findClass_of_methodNamed B.named
  have hlocks := B.notSynchronized
  have hP : va_P D vwCl [(rh, .inr (3, G3 ra rsize)), ((ra 1), .inl (E 0, 60, .inl rf1))] s.heap := hP
  have hl := lv_entry ([.ref rh]) (n := 3) (Nat.le_of_ble_eq_true rfl)
  rw [lg_entry_eq]
  generalize (lg_sl ([.ref rh]) ++ List.replicate (3 - (lg_sl ([.ref rh])).length) Slot.unset).toArray = ls at hl ⊢
  have hl : lv_has ls 3 [(0, .ref rh)] := hl
  refine lv_iconst (v := 0) hx hb dX3_sum_0 (by decide) ?_
  refine lv_istore_n (lv' := [(1, .int 0), (0, .ref rh)]) hx hb dX3_sum_1 rfl hl (by decide) rfl (fun ls hl => ?_)
  refine lv_iconst (v := 0) hx hb dX3_sum_2 (by decide) ?_
  refine lv_istore_n (lv' := [(2, .int 0), (1, .int 0), (0, .ref rh)]) hx hb dX3_sum_3 rfl hl (by decide) rfl (fun ls hl => ?_)
  have loop_1 : ∀ (N_3 : Nat) (L2_4 : Int32) (L1_4 : Int32)  (ls : Array Slot), rsize.toInt - L2_4.toInt < (N_3 : Int) → (0 ≤ L2_4.toInt ∧ L2_4.toInt ≤ rsize.toInt) → (L1_4 = sumI rf1 (L2_4).toNatClampNeg) → lv_has ls 3 [(2, .int L2_4), (1, .int L1_4), (0, .ref rh)] → W p l e (headSpec (wl yX3_sum cX3_sum 3 (some .int)) (RM 0 0 0)).room s m [Value.ref rh].toArray below meth c s.heap [] 0 0 (MQ below (rd_Q (fun r => (r = sumI rf1 (rsize).toNatClampNeg))) [Value.ref rh].toArray s 0 0 (fun _ => False)) (F0 m 4 ls []) := by
    intro N_3
    induction N_3 with
    | zero => intro L2_4 L1_4  ls hm v0_4 v1_4 _; exfalso; omega
    | succ N_3 ih_2 =>
      intro L2_4 L1_4 ls hm v0_4 v1_4 hl
      have lo_L2_4 := i_lo L2_4; have hi_L2_4 := i_hi L2_4
      have lo_L1_4 := i_lo L1_4; have hi_L1_4 := i_hi L1_4
      refine lv_iload_n hx hb dX3_sum_4 rfl (lv_at hl 0 rfl) ?_
      refine lv_aload_n hx hb dX3_sum_5 rfl (lv_at hl 2 rfl) ?_
      refine va_get (D := D) (ci := 3) (v := .int rsize) (C := RX3) (T := TX3) (N := 4) hx hb htb iX3 hown hK.1 hP 0 rfl rfl 3 (by decide) (htb _ k_66) (fun _ h9 => h9) rfl dX3_sum_6 ?_
      refine lv_icmp_ge (tgt := 27) hx hb dX3_sum_9 (by decide) (fun c_4 => ?_) (fun c_4 => ?_)
      ·
        have ic_4 : rsize.toInt ≤ L2_4.toInt := by first | exact (g_le rfl rfl).mp c_4 | (have h := mt (g_lt rfl rfl).mpr c_4; omega)
        clear c_4
        refine lv_iload_n hx hb dX3_sum_27 rfl (lv_at hl 1 rfl) ?_
        exact W.iret (v := L1_4) hx hb hr (fun t ht hW => ⟨L1_4, rfl, (by have hcl := clampE (i := L2_4) (j := rsize) (by omega) (by omega); rw [hcl]; exact v1_4), ht⟩) (fun q h => by cases h) dX3_sum_28
      ·
        have ic_4 : L2_4.toInt < rsize.toInt := by first | exact (g_lt rfl rfl).mp c_4 | (have h := mt (g_le rfl rfl).mpr c_4; omega)
        clear c_4
        refine lv_iload_n hx hb dX3_sum_12 rfl (lv_at hl 1 rfl) ?_
        refine lv_aload_n hx hb dX3_sum_13 rfl (lv_at hl 2 rfl) ?_
        refine va_get (D := D) (ci := 3) (v := .ref (ra 1)) (C := RX3) (T := TX3) (N := 4) hx hb htb iX3 hown hK.1 hP 0 rfl rfl 1 (by decide) (htb _ k_63) (fun _ h9 => h9) rfl dX3_sum_14 ?_
        refine lv_iload_n hx hb dX3_sum_17 rfl (lv_at hl 0 rfl) ?_
        refine va_iald hx hb hK.1 hP 1 0 rfl rfl (g_in rfl (by omega) (by omega)) dX3_sum_18 ?_
        refine lv_topi (fun z_5 ez_5 => ?_)
        have kz_5 := congrArg Int32.toInt ez_5
        refine lv_iadd hx hb dX3_sum_19 ?_
        refine lv_topi (fun z_6 ez_6 => ?_)
        refine lv_istore_n (lv' := [(1, .int z_6), (2, .int L2_4), (0, .ref rh)]) hx hb dX3_sum_20 rfl hl (by decide) rfl (fun ls hl => ?_)
        obtain ⟨z_7, ez_7⟩ : ∃ y : Int32, y = L2_4 + 1 := ⟨_, rfl⟩
        have jz_7 : z_7.toInt = L2_4.toInt + 1 := by rw [ez_7]; exact g_add rfl t_1 (by omega) (by omega)
        refine lv_iinc (v := z_7) (lv' := [(2, .int z_7), (1, .int z_6), (0, .ref rh)]) hx hb dX3_sum_21 hl (k := 1) rfl (by rw [ez_7]; rfl) (by decide) rfl (fun ls hl => ?_)
        refine lv_goto (tgt := 4) hx hb dX3_sum_24 (by decide) ?_
        exact ih_2 z_7 z_6 _ (by (try dsimp only); omega) (by (try dsimp only); omega) (by have hcl := clampS (by omega) jz_7; subst_vars; rw [hcl, sumI_succ]; (try rfl)) (lv_sub hl [0, 1, 2] rfl)
  exact loop_1 61 0 0 _ (by have h0 := t_0; (try dsimp only); omega) (by have h0 := t_0; (try dsimp only); omega) (by rfl)  (lv_sub hl [0, 1, 2] rfl)
set_option maxHeartbeats 4000000 in
set_option maxRecDepth 100000 in
theorem g_X3_drift (l : Launch) (D : va_G) (E : Nat → Nat) (rh : Nat) (ra : Nat → Nat) (rsize : Int32) (rf1 : Nat → Int32) (hi_r : (0 ≤ rsize.toInt ∧ rsize.toInt ≤ 60)) : Met l yX3_drift (wl yX3_drift cX3_drift 1 (some .int)) (RM 0 0 0) (rd_P D E [.ref rh] [(rh, .inr (3, G3 ra rsize)), ((ra 1), .inl (E 0, 60, .inl rf1))]) (rd_Q (fun r => True)) 0 0 (fun _ => False) := by
  refine Met.ofW (cc := cX3_drift) (maxL := 1) (ret := (some .int)) (by decide) rfl ?_
  intro p e s m args below meth c s₁ B hml hv
  obtain ⟨rfl, hP, hK⟩ := hv
  have hx := B.exec; have hb := B.bytes; have hr := B.returns
  have hts := atoms_spec (ws := wl yX3_drift cX3_drift 1 (some .int)) B.pre
  have htb : ∀ w ∈ tb, w.before _ s = true := fun w h => hts w (List.mem_cons_of_mem _ h)
  have hown : s.vm.findClass RX3 = some m.cls := findClass_of_methodNamed B.named
  have hlocks := B.notSynchronized
  have hP : va_P D vwCl [(rh, .inr (3, G3 ra rsize)), ((ra 1), .inl (E 0, 60, .inl rf1))] s.heap := hP
  have hl := lv_entry ([.ref rh]) (n := 1) (Nat.le_of_ble_eq_true rfl)
  rw [lg_entry_eq]
  generalize (lg_sl ([.ref rh]) ++ List.replicate (1 - (lg_sl ([.ref rh])).length) Slot.unset).toArray = ls at hl ⊢
  have hl : lv_has ls 1 [(0, .ref rh)] := hl
  refine lv_aload_n hx hb dX3_drift_0 rfl (lv_at hl 0 rfl) ?_
  refine va_get (D := D) (ci := 3) (v := .int rsize) (C := RX3) (T := TX3) (N := 4) hx hb htb iX3 hown hK.1 hP 0 rfl rfl 3 (by decide) (htb _ k_66) (fun _ h9 => h9) rfl dX3_drift_1 ?_
  refine lv_if_ne (tgt := 11) hx hb dX3_drift_4 (by decide) (fun c_1 => ?_) (fun c_1 => ?_)
  ·
    have ic_1 : rsize.toInt ≠ 0 := mt (g_eq rfl t_0).mpr c_1
    clear c_1
    refine lv_aload_n hx hb dX3_drift_11 rfl (lv_at hl 0 rfl) ?_
    refine va_get (D := D) (ci := 3) (v := .ref (ra 1)) (C := RX3) (T := TX3) (N := 4) hx hb htb iX3 hown hK.1 hP 0 rfl rfl 1 (by decide) (htb _ k_63) (fun _ h9 => h9) rfl dX3_drift_12 ?_
    refine lv_aload_n hx hb dX3_drift_15 rfl (lv_at hl 0 rfl) ?_
    refine va_get (D := D) (ci := 3) (v := .int rsize) (C := RX3) (T := TX3) (N := 4) hx hb htb iX3 hown hK.1 hP 0 rfl rfl 3 (by decide) (htb _ k_66) (fun _ h9 => h9) rfl dX3_drift_16 ?_
    refine lv_iconst (v := 1) hx hb dX3_drift_19 (by decide) ?_
    refine lv_isub hx hb dX3_drift_20 ?_
    refine lv_topi (fun z_2 ez_2 => ?_)
    have jz_2 : z_2.toInt = rsize.toInt - 1 := by rw [ez_2]; exact g_sub rfl t_1 (by omega) (by omega)
    refine va_iald hx hb hK.1 hP 1 0 rfl rfl (g_in rfl (by omega) (by omega)) dX3_drift_21 ?_
    refine lv_topi (fun z_3 ez_3 => ?_)
    have kz_3 := congrArg Int32.toInt ez_3
    refine lv_aload_n hx hb dX3_drift_22 rfl (lv_at hl 0 rfl) ?_
    refine va_get (D := D) (ci := 3) (v := .ref (ra 1)) (C := RX3) (T := TX3) (N := 4) hx hb htb iX3 hown hK.1 hP 0 rfl rfl 1 (by decide) (htb _ k_63) (fun _ h9 => h9) rfl dX3_drift_23 ?_
    refine lv_iconst (v := 0) hx hb dX3_drift_26 (by decide) ?_
    refine va_iald hx hb hK.1 hP 1 0 rfl rfl (g_in t_0 (by decide) (by decide)) dX3_drift_27 ?_
    refine lv_topi (fun z_4 ez_4 => ?_)
    have kz_4 := congrArg Int32.toInt ez_4
    refine lv_isub hx hb dX3_drift_28 ?_
    refine lv_topi (fun z_5 ez_5 => ?_)
    exact W.iret (v := z_5) hx hb hr (fun t ht hW => ⟨z_5, rfl, trivial, ht⟩) (fun q h => by cases h) dX3_drift_29
  ·
    have ic_1 : rsize.toInt = 0 := (g_eq rfl t_0).mp c_1
    clear c_1
    refine lv_iconst (v := 0) hx hb dX3_drift_7 (by decide) ?_
    refine lv_goto (tgt := 29) hx hb dX3_drift_8 (by decide) ?_
    exact W.iret (v := 0) hx hb hr (fun t ht hW => ⟨0, rfl, trivial, ht⟩) (fun q h => by cases h) dX3_drift_29
set_option maxHeartbeats 4000000 in
set_option maxRecDepth 100000 in
theorem g_X3_greatestStep (l : Launch) (D : va_G) (E : Nat → Nat) (rh : Nat) (ra : Nat → Nat) (rsize : Int32) (rf1 : Nat → Int32) (hi_r : (0 ≤ rsize.toInt ∧ rsize.toInt ≤ 60)) : Met l yX3_greatestStep (wl yX3_greatestStep cX3_greatestStep 3 (some .int)) (RM 1 0 0) (rd_P D E [.ref rh] [(rh, .inr (3, G3 ra rsize)), ((ra 1), .inl (E 0, 60, .inl rf1))]) (rd_Q (fun r => True)) 0 0 (fun _ => False) := by
  refine Met.ofW (cc := cX3_greatestStep) (maxL := 3) (ret := (some .int)) (by decide) rfl ?_
  intro p e s m args below meth c s₁ B hml hv
  obtain ⟨rfl, hP, hK⟩ := hv
  have hx := B.exec; have hb := B.bytes; have hr := B.returns
  have hts := atoms_spec (ws := wl yX3_greatestStep cX3_greatestStep 3 (some .int)) B.pre
  have htb : ∀ w ∈ tb, w.before _ s = true := fun w h => hts w (List.mem_cons_of_mem _ h)
  have hown : s.vm.findClass RX3 = some m.cls := findClass_of_methodNamed B.named
  have hlocks := B.notSynchronized
  have hP : va_P D vwCl [(rh, .inr (3, G3 ra rsize)), ((ra 1), .inl (E 0, 60, .inl rf1))] s.heap := hP
  have hl := lv_entry ([.ref rh]) (n := 3) (Nat.le_of_ble_eq_true rfl)
  rw [lg_entry_eq]
  generalize (lg_sl ([.ref rh]) ++ List.replicate (3 - (lg_sl ([.ref rh])).length) Slot.unset).toArray = ls at hl ⊢
  have hl : lv_has ls 3 [(0, .ref rh)] := hl
  refine lv_iconst (v := 0) hx hb dX3_greatestStep_0 (by decide) ?_
  refine lv_istore_n (lv' := [(1, .int 0), (0, .ref rh)]) hx hb dX3_greatestStep_1 rfl hl (by decide) rfl (fun ls hl => ?_)
  refine lv_iconst (v := 1) hx hb dX3_greatestStep_2 (by decide) ?_
  refine lv_istore_n (lv' := [(2, .int 1), (1, .int 0), (0, .ref rh)]) hx hb dX3_greatestStep_3 rfl hl (by decide) rfl (fun ls hl => ?_)
  have loop_1 : ∀ (N_3 : Nat) (L2_4 : Int32) (L1_4 : Int32)  (ls : Array Slot), 61 - L2_4.toInt < (N_3 : Int) → (1 ≤ L2_4.toInt ∧ L2_4.toInt ≤ 61 ∧ (L2_4.toInt ≤ rsize.toInt ∨ L2_4.toInt = 1)) → lv_has ls 3 [(2, .int L2_4), (1, .int L1_4), (0, .ref rh)] → W p l e (headSpec (wl yX3_greatestStep cX3_greatestStep 3 (some .int)) (RM 1 0 0)).room s m [Value.ref rh].toArray below meth c s.heap [] 0 0 (MQ below (rd_Q (fun r => True)) [Value.ref rh].toArray s 0 0 (fun _ => False)) (F0 m 4 ls []) := by
    intro N_3
    induction N_3 with
    | zero => intro L2_4 L1_4  ls hm v0_4 _; exfalso; omega
    | succ N_3 ih_2 =>
      intro L2_4 L1_4 ls hm v0_4 hl
      have lo_L2_4 := i_lo L2_4; have hi_L2_4 := i_hi L2_4
      have lo_L1_4 := i_lo L1_4; have hi_L1_4 := i_hi L1_4
      refine lv_iload_n hx hb dX3_greatestStep_4 rfl (lv_at hl 0 rfl) ?_
      refine lv_aload_n hx hb dX3_greatestStep_5 rfl (lv_at hl 2 rfl) ?_
      refine va_get (D := D) (ci := 3) (v := .int rsize) (C := RX3) (T := TX3) (N := 4) hx hb htb iX3 hown hK.1 hP 0 rfl rfl 3 (by decide) (htb _ k_66) (fun _ h9 => h9) rfl dX3_greatestStep_6 ?_
      refine lv_icmp_ge (tgt := 41) hx hb dX3_greatestStep_9 (by decide) (fun c_4 => ?_) (fun c_4 => ?_)
      ·
        have ic_4 : rsize.toInt ≤ L2_4.toInt := by first | exact (g_le rfl rfl).mp c_4 | (have h := mt (g_lt rfl rfl).mpr c_4; omega)
        clear c_4
        refine lv_iload_n hx hb dX3_greatestStep_41 rfl (lv_at hl 1 rfl) ?_
        exact W.iret (v := L1_4) hx hb hr (fun t ht hW => ⟨L1_4, rfl, trivial, ht⟩) (fun q h => by cases h) dX3_greatestStep_42
      ·
        have ic_4 : L2_4.toInt < rsize.toInt := by first | exact (g_lt rfl rfl).mp c_4 | (have h := mt (g_le rfl rfl).mpr c_4; omega)
        clear c_4
        refine lv_iload_n hx hb dX3_greatestStep_12 rfl (lv_at hl 1 rfl) ?_
        refine lv_aload_n hx hb dX3_greatestStep_13 rfl (lv_at hl 2 rfl) ?_
        refine va_get (D := D) (ci := 3) (v := .ref (ra 1)) (C := RX3) (T := TX3) (N := 4) hx hb htb iX3 hown hK.1 hP 0 rfl rfl 1 (by decide) (htb _ k_63) (fun _ h9 => h9) rfl dX3_greatestStep_14 ?_
        refine lv_iload_n hx hb dX3_greatestStep_17 rfl (lv_at hl 0 rfl) ?_
        refine va_iald hx hb hK.1 hP 1 0 rfl rfl (g_in rfl (by omega) (by omega)) dX3_greatestStep_18 ?_
        refine lv_topi (fun z_5 ez_5 => ?_)
        have kz_5 := congrArg Int32.toInt ez_5
        refine lv_aload_n hx hb dX3_greatestStep_19 rfl (lv_at hl 2 rfl) ?_
        refine va_get (D := D) (ci := 3) (v := .ref (ra 1)) (C := RX3) (T := TX3) (N := 4) hx hb htb iX3 hown hK.1 hP 0 rfl rfl 1 (by decide) (htb _ k_63) (fun _ h9 => h9) rfl dX3_greatestStep_20 ?_
        refine lv_iload_n hx hb dX3_greatestStep_23 rfl (lv_at hl 0 rfl) ?_
        refine lv_iconst (v := 1) hx hb dX3_greatestStep_24 (by decide) ?_
        refine lv_isub hx hb dX3_greatestStep_25 ?_
        refine lv_topi (fun z_6 ez_6 => ?_)
        have jz_6 : z_6.toInt = L2_4.toInt - 1 := by rw [ez_6]; exact g_sub rfl t_1 (by omega) (by omega)
        refine va_iald hx hb hK.1 hP 1 0 rfl rfl (g_in rfl (by omega) (by omega)) dX3_greatestStep_26 ?_
        refine lv_topi (fun z_7 ez_7 => ?_)
        have kz_7 := congrArg Int32.toInt ez_7
        refine lv_isub hx hb dX3_greatestStep_27 ?_
        refine lv_topi (fun z_8 ez_8 => ?_)
        refine va_mabs hx hb (by rw [hml, hl.1]) hown (htb _ k_570) (htb _ k_571) (htb _ k_11) (htb _ k_572) (Nat.le_of_ble_eq_true rfl) (Nat.le_of_ble_eq_true rfl) (Nat.le_of_ble_eq_true rfl) (Nat.le_of_ble_eq_true rfl) dX3_greatestStep_28 ?_
        refine lv_topi (fun z_9 ez_9 => ?_)
        have sz_9 := abs_sz ez_9
        refine va_mmax hx hb (by rw [hml, hl.1]) hown (htb _ k_731) (htb _ k_732) (htb _ k_11) (htb _ k_733) (Nat.le_of_ble_eq_true rfl) (Nat.le_of_ble_eq_true rfl) (Nat.le_of_ble_eq_true rfl) (Nat.le_of_ble_eq_true rfl) dX3_greatestStep_31 ?_
        refine lv_topi (fun z_10 ez_10 => ?_)
        have jz_10 := g_max rfl rfl ez_10
        refine lv_istore_n (lv' := [(1, .int z_10), (2, .int L2_4), (0, .ref rh)]) hx hb dX3_greatestStep_34 rfl hl (by decide) rfl (fun ls hl => ?_)
        obtain ⟨z_11, ez_11⟩ : ∃ y : Int32, y = L2_4 + 1 := ⟨_, rfl⟩
        have jz_11 : z_11.toInt = L2_4.toInt + 1 := by rw [ez_11]; exact g_add rfl t_1 (by omega) (by omega)
        refine lv_iinc (v := z_11) (lv' := [(2, .int z_11), (1, .int z_10), (0, .ref rh)]) hx hb dX3_greatestStep_35 hl (k := 1) rfl (by rw [ez_11]; rfl) (by decide) rfl (fun ls hl => ?_)
        refine lv_goto (tgt := 4) hx hb dX3_greatestStep_38 (by decide) ?_
        exact ih_2 z_11 z_10 _ (by (try dsimp only); omega) (by (try dsimp only); omega) (lv_sub hl [0, 1, 2] rfl)
  exact loop_1 62 1 0 _ (by have h0 := t_0; have h1 := t_1; (try dsimp only); omega) (by have h0 := t_0; have h1 := t_1; (try dsimp only); omega)  (lv_sub hl [0, 1, 2] rfl)
set_option maxHeartbeats 4000000 in
set_option maxRecDepth 100000 in
theorem g_X3_middleOne (l : Launch) (D : va_G) (E : Nat → Nat) (rh : Nat) (ra : Nat → Nat) (rsize : Int32) (rf1 : Nat → Int32) (rf2 : Nat → Int32) (sz : Nat) (hi_r : (0 ≤ rsize.toInt ∧ rsize.toInt ≤ 60)) : Met l yX3_middleOne (wl yX3_middleOne cX3_middleOne 3 (some .int)) (RM 0 0 0) (mu_P D E [.ref rh] [(rh, .inr (3, G3 ra rsize)), ((ra 1), .inl (E 0, 60, .inl rf1)), ((ra 2), .inl (E 0, 60, .inl rf2))] sz) (va_Qi (fun (r : Int32) (u : (Nat → Int32)) => (rsize.toInt = 0 ∨ (1 ≤ rsize.toInt ∧ r = srtA rf1 rf2 (rsize).toNatClampNeg ((rsize - 1) / 2).toNatClampNeg))) (mu_B D (va_A [(rh, .inr (3, G3 ra rsize)), ((ra 1), .inl (E 0, 60, .inl rf1)), ((ra 2), .inl (E 0, 60, .inl rf2))] sz) (fun (u : (Nat → Int32)) => [(rh, .inr (3, G3 ra rsize)), ((ra 1), .inl (E 0, 60, .inl rf1)), ((ra 2), .inl (E 0, 60, .inl u))])) (va_A [(rh, .inr (3, G3 ra rsize)), ((ra 1), .inl (E 0, 60, .inl rf1)), ((ra 2), .inl (E 0, 60, .inl rf2))] sz)) 0 0 (va_A [(rh, .inr (3, G3 ra rsize)), ((ra 1), .inl (E 0, 60, .inl rf1)), ((ra 2), .inl (E 0, 60, .inl rf2))] sz) := by
  refine Met.ofW (cc := cX3_middleOne) (maxL := 3) (ret := (some .int)) (by decide) rfl ?_
  intro p e s m args below meth c s₁ B hml hv
  obtain ⟨rfl, hsz, hP, hK, hD0⟩ := hv
  have hx := B.exec; have hb := B.bytes; have hr := B.returns
  have hts := atoms_spec (ws := wl yX3_middleOne cX3_middleOne 3 (some .int)) B.pre
  have htb : ∀ w ∈ tb, w.before _ s = true := fun w h => hts w (List.mem_cons_of_mem _ h)
  have hown : s.vm.findClass RX3 = some m.cls := findClass_of_methodNamed B.named
  have hlocks := B.notSynchronized
  subst hsz
  have hD := hD0.self (sz := s.heap.size)
  generalize hAe : va_A [(rh, .inr (3, G3 ra rsize)), ((ra 1), .inl (E 0, 60, .inl rf1)), ((ra 2), .inl (E 0, 60, .inl rf2))] s.heap.size = A at hD ⊢
  have hA : ∀ q : Nat, s.heap.size ≤ q → A q := fun q h => by rw [← hAe]; exact Or.inr h
  have hS : va_S A s.heap s.heap [] := va_S.rf
  have hP : va_P D vwCl [(rh, .inr (3, G3 ra rsize)), ((ra 1), .inl (E 0, 60, .inl rf1)), ((ra 2), .inl (E 0, 60, .inl rf2))] s.heap := hP
  have hl := lv_entry ([.ref rh]) (n := 3) (Nat.le_of_ble_eq_true rfl)
  rw [lg_entry_eq]
  generalize (lg_sl ([.ref rh]) ++ List.replicate (3 - (lg_sl ([.ref rh])).length) Slot.unset).toArray = ls at hl ⊢
  have hl : lv_has ls 3 [(0, .ref rh)] := hl
  refine lv_iconst (v := 0) hx hb dX3_middleOne_0 (by decide) ?_
  refine lv_istore_n (lv' := [(1, .int 0), (0, .ref rh)]) hx hb dX3_middleOne_1 rfl hl (by decide) rfl (fun ls hl => ?_)
  have loop_1 : ∀ (N_3 : Nat) (L1_2 : Int32) (rf2_2 : Nat → Int32) (H : Heap) (locs : List Loc) (ls : Array Slot), rsize.toInt - L1_2.toInt < (N_3 : Int) → (0 ≤ L1_2.toInt ∧ L1_2.toInt ≤ rsize.toInt) → (rf2_2 = srtA rf1 rf2 (L1_2).toNatClampNeg) → va_P D vwCl [(rh, .inr (3, G3 ra rsize)), ((ra 1), .inl (E 0, 60, .inl rf1)), ((ra 2), .inl (E 0, 60, .inl rf2_2))] H → va_D A [(rh, .inr (3, G3 ra rsize)), ((ra 1), .inl (E 0, 60, .inl rf1)), ((ra 2), .inl (E 0, 60, .inl rf2_2))] → va_S A s.heap H locs → lv_has ls 3 [(1, .int L1_2), (0, .ref rh)] → W p l e (headSpec (wl yX3_middleOne cX3_middleOne 3 (some .int)) (RM 0 0 0)).room s m [Value.ref rh].toArray below meth c H locs 0 0 (MQ below (va_Qi (fun (r : Int32) (u : (Nat → Int32)) => (rsize.toInt = 0 ∨ (1 ≤ rsize.toInt ∧ r = srtA rf1 rf2 (rsize).toNatClampNeg ((rsize - 1) / 2).toNatClampNeg))) (mu_B D A (fun (u : (Nat → Int32)) => [(rh, .inr (3, G3 ra rsize)), ((ra 1), .inl (E 0, 60, .inl rf1)), ((ra 2), .inl (E 0, 60, .inl u))])) A) [Value.ref rh].toArray s 0 0 A) (F0 m 2 ls []) := by
    intro N_3
    induction N_3 with
    | zero => intro L1_2 rf2_2 H locs ls hm v0_2 v1_2 _ _ _ _; exfalso; omega
    | succ N_3 ih_2 =>
      intro L1_2 rf2_2 H locs ls hm v0_2 v1_2 hP hD hS hl
      have lo_L1_2 := i_lo L1_2; have hi_L1_2 := i_hi L1_2
      refine lv_iload_n hx hb dX3_middleOne_2 rfl (lv_at hl 0 rfl) ?_
      refine lv_aload_n hx hb dX3_middleOne_3 rfl (lv_at hl 1 rfl) ?_
      refine va_get (D := D) (ci := 3) (v := .int rsize) (C := RX3) (T := TX3) (N := 4) hx hb htb iX3 hown hK.1 hP 0 rfl rfl 3 (by decide) (htb _ k_66) (fun _ h9 => h9) rfl dX3_middleOne_4 ?_
      refine lv_icmp_ge (tgt := 71) hx hb dX3_middleOne_7 (by decide) (fun c_4 => ?_) (fun c_4 => ?_)
      ·
        have ic_4 : rsize.toInt ≤ L1_2.toInt := by first | exact (g_le rfl rfl).mp c_4 | (have h := mt (g_lt rfl rfl).mpr c_4; omega)
        clear c_4
        refine lv_aload_n hx hb dX3_middleOne_71 rfl (lv_at hl 1 rfl) ?_
        refine va_get (D := D) (ci := 3) (v := .int rsize) (C := RX3) (T := TX3) (N := 4) hx hb htb iX3 hown hK.1 hP 0 rfl rfl 3 (by decide) (htb _ k_66) (fun _ h9 => h9) rfl dX3_middleOne_72 ?_
        refine lv_if_ne (tgt := 82) hx hb dX3_middleOne_75 (by decide) (fun c_5 => ?_) (fun c_5 => ?_)
        ·
          have ic_5 : rsize.toInt ≠ 0 := mt (g_eq rfl t_0).mpr c_5
          clear c_5
          refine lv_aload_n hx hb dX3_middleOne_82 rfl (lv_at hl 1 rfl) ?_
          refine va_get (D := D) (ci := 3) (v := .ref (ra 2)) (C := RX3) (T := TX3) (N := 4) hx hb htb iX3 hown hK.1 hP 0 rfl rfl 2 (by decide) (htb _ k_65) (fun _ h9 => h9) rfl dX3_middleOne_83 ?_
          refine lv_aload_n hx hb dX3_middleOne_86 rfl (lv_at hl 1 rfl) ?_
          refine va_get (D := D) (ci := 3) (v := .int rsize) (C := RX3) (T := TX3) (N := 4) hx hb htb iX3 hown hK.1 hP 0 rfl rfl 3 (by decide) (htb _ k_66) (fun _ h9 => h9) rfl dX3_middleOne_87 ?_
          refine lv_iconst (v := 1) hx hb dX3_middleOne_90 (by decide) ?_
          refine lv_isub hx hb dX3_middleOne_91 ?_
          refine lv_topi (fun z_6 ez_6 => ?_)
          have jz_6 : z_6.toInt = rsize.toInt - 1 := by rw [ez_6]; exact g_sub rfl t_1 (by omega) (by omega)
          refine lv_iconst (v := 2) hx hb dX3_middleOne_92 (by decide) ?_
          refine lv_idiv hx hb dX3_middleOne_93 (by decide) ?_
          refine lv_topi (fun z_7 ez_7 => ?_)
          have jz_7 : z_7.toInt = z_6.toInt / 2 := by rw [ez_7]; exact g_div rfl t_2 (by omega) (by decide)
          refine va_iald hx hb hK.1 hP 2 0 rfl rfl (g_in rfl (by omega) (by omega)) dX3_middleOne_94 ?_
          refine lv_topi (fun z_8 ez_8 => ?_)
          have kz_8 := congrArg Int32.toInt ez_8
          have hP9 := hP.sub (ws' := [(rh, .inr (3, G3 ra rsize)), ((ra 1), .inl (E 0, 60, .inl rf1)), ((ra 2), .inl (E 0, 60, .inl rf2_2))]) [0, 1, 2] rfl
          have hD9 := hD.sub (ws' := [(rh, .inr (3, G3 ra rsize)), ((ra 1), .inl (E 0, 60, .inl rf1)), ((ra 2), .inl (E 0, 60, .inl rf2_2))]) [0, 1, 2] (by decide) rfl
          exact W.iret (v := z_8) hx hb hr (fun t ht hW => ⟨⟨z_8, rf2_2, rfl, (by first | exact Or.inl (by omega) | exact Or.inr ⟨by omega, by rw [show (rsize).toNatClampNeg = (L1_2).toNatClampNeg from clampE (by omega) (by omega), ← v1_2]; subst_vars; rfl⟩), by rw [ht]; exact hP9, hD9⟩, hS.F ht⟩) hS.2.2 dX3_middleOne_95
        ·
          have ic_5 : rsize.toInt = 0 := (g_eq rfl t_0).mp c_5
          clear c_5
          refine lv_iconst (v := 0) hx hb dX3_middleOne_78 (by decide) ?_
          refine lv_goto (tgt := 95) hx hb dX3_middleOne_79 (by decide) ?_
          have hP9 := hP.sub (ws' := [(rh, .inr (3, G3 ra rsize)), ((ra 1), .inl (E 0, 60, .inl rf1)), ((ra 2), .inl (E 0, 60, .inl rf2_2))]) [0, 1, 2] rfl
          have hD9 := hD.sub (ws' := [(rh, .inr (3, G3 ra rsize)), ((ra 1), .inl (E 0, 60, .inl rf1)), ((ra 2), .inl (E 0, 60, .inl rf2_2))]) [0, 1, 2] (by decide) rfl
          exact W.iret (v := 0) hx hb hr (fun t ht hW => ⟨⟨0, rf2_2, rfl, (by first | exact Or.inl (by omega) | exact Or.inr ⟨by omega, by rw [show (rsize).toNatClampNeg = (L1_2).toNatClampNeg from clampE (by omega) (by omega), ← v1_2]; subst_vars; rfl⟩), by rw [ht]; exact hP9, hD9⟩, hS.F ht⟩) hS.2.2 dX3_middleOne_95
      ·
        have ic_4 : L1_2.toInt < rsize.toInt := by first | exact (g_lt rfl rfl).mp c_4 | (have h := mt (g_le rfl rfl).mpr c_4; omega)
        clear c_4
        refine lv_iload_n hx hb dX3_middleOne_10 rfl (lv_at hl 0 rfl) ?_
        refine lv_istore_n (lv' := [(2, .int L1_2), (1, .int L1_2), (0, .ref rh)]) hx hb dX3_middleOne_11 rfl hl (by decide) rfl (fun ls hl => ?_)
        have loop_9 : ∀ (N_11 : Nat) (L2_12 : Int32) (rf2_12 : Nat → Int32) (H : Heap) (locs : List Loc) (ls : Array Slot), L2_12.toInt < (N_11 : Int) → (0 ≤ L2_12.toInt ∧ L2_12.toInt ≤ L1_2.toInt) → (insA (rf1 (L1_2).toNatClampNeg) (L2_12).toNatClampNeg rf2_12 = insA (rf1 (L1_2).toNatClampNeg) (L1_2).toNatClampNeg rf2_2) → va_P D vwCl [(rh, .inr (3, G3 ra rsize)), ((ra 1), .inl (E 0, 60, .inl rf1)), ((ra 2), .inl (E 0, 60, .inl rf2_12))] H → va_D A [(rh, .inr (3, G3 ra rsize)), ((ra 1), .inl (E 0, 60, .inl rf1)), ((ra 2), .inl (E 0, 60, .inl rf2_12))] → va_S A s.heap H locs → lv_has ls 3 [(2, .int L2_12), (1, .int L1_2), (0, .ref rh)] → W p l e (headSpec (wl yX3_middleOne cX3_middleOne 3 (some .int)) (RM 0 0 0)).room s m [Value.ref rh].toArray below meth c H locs 0 0 (MQ below (va_Qi (fun (r : Int32) (u : (Nat → Int32)) => (rsize.toInt = 0 ∨ (1 ≤ rsize.toInt ∧ r = srtA rf1 rf2 (rsize).toNatClampNeg ((rsize - 1) / 2).toNatClampNeg))) (mu_B D A (fun (u : (Nat → Int32)) => [(rh, .inr (3, G3 ra rsize)), ((ra 1), .inl (E 0, 60, .inl rf1)), ((ra 2), .inl (E 0, 60, .inl u))])) A) [Value.ref rh].toArray s 0 0 A) (F0 m 12 ls []) := by
          intro N_11
          induction N_11 with
          | zero => intro L2_12 rf2_12 H locs ls hm v0_12 v1_12 _ _ _ _; exfalso; omega
          | succ N_11 ih_10 =>
            intro L2_12 rf2_12 H locs ls hm v0_12 v1_12 hP hD hS hl
            have lo_L2_12 := i_lo L2_12; have hi_L2_12 := i_hi L2_12
            refine lv_iload_n hx hb dX3_middleOne_12 rfl (lv_at hl 0 rfl) ?_
            refine lv_if_le (tgt := 53) hx hb dX3_middleOne_13 (by decide) (fun c_12 => ?_) (fun c_12 => ?_)
            ·
              have ic_12 : L2_12.toInt ≤ 0 := by first | exact (g_le rfl t_0).mp c_12 | (have h := mt (g_lt t_0 rfl).mpr c_12; omega)
              clear c_12
              refine lv_aload_n hx hb dX3_middleOne_53 rfl (lv_at hl 2 rfl) ?_
              refine va_get (D := D) (ci := 3) (v := .ref (ra 2)) (C := RX3) (T := TX3) (N := 4) hx hb htb iX3 hown hK.1 hP 0 rfl rfl 2 (by decide) (htb _ k_65) (fun _ h9 => h9) rfl dX3_middleOne_54 ?_
              refine lv_iload_n hx hb dX3_middleOne_57 rfl (lv_at hl 0 rfl) ?_
              refine lv_aload_n hx hb dX3_middleOne_58 rfl (lv_at hl 2 rfl) ?_
              refine va_get (D := D) (ci := 3) (v := .ref (ra 1)) (C := RX3) (T := TX3) (N := 4) hx hb htb iX3 hown hK.1 hP 0 rfl rfl 1 (by decide) (htb _ k_63) (fun _ h9 => h9) rfl dX3_middleOne_59 ?_
              refine lv_iload_n hx hb dX3_middleOne_62 rfl (lv_at hl 1 rfl) ?_
              refine va_iald hx hb hK.1 hP 1 0 rfl rfl (g_in rfl (by omega) (by omega)) dX3_middleOne_63 ?_
              refine lv_topi (fun z_13 ez_13 => ?_)
              have kz_13 := congrArg Int32.toInt ez_13
              refine va_iast hx hb hK.1 hP hD hS 2 0 rfl rfl (g_in rfl (by omega) (by omega)) dX3_middleOne_64 (fun H locs hP hD hS => ?_)
              have hP : va_P D vwCl [(rh, .inr (3, G3 ra rsize)), ((ra 1), .inl (E 0, 60, .inl rf1)), ((ra 2), .inl (E 0, 60, .inl (upd rf2_12 (L2_12 : Int32).toNatClampNeg z_13)))] H := hP
              have hD := toW hP hD rfl
              obtain ⟨z_14, ez_14⟩ : ∃ y : Int32, y = L1_2 + 1 := ⟨_, rfl⟩
              have jz_14 : z_14.toInt = L1_2.toInt + 1 := by rw [ez_14]; exact g_add rfl t_1 (by omega) (by omega)
              refine lv_iinc (v := z_14) (lv' := [(1, .int z_14), (2, .int L2_12), (0, .ref rh)]) hx hb dX3_middleOne_65 hl (k := 1) rfl (by rw [ez_14]; rfl) (by decide) rfl (fun ls hl => ?_)
              refine lv_goto (tgt := 2) hx hb dX3_middleOne_68 (by decide) ?_
              exact ih_2 z_14 (upd rf2_12 (L2_12 : Int32).toNatClampNeg z_13) _ _ _ (by (try dsimp only); omega) (by (try dsimp only); omega) (by rw [clampS (by omega) jz_14, srtA_s, ← v1_2, ← v1_12, ← ez_13]; exact insA_end (by first | exact Or.inl (by have c1 := i_clamp0 (x := L2_12) (by omega); omega) | exact Or.inr ⟨(x).toNatClampNeg, by { have c1 := i_clamp0 (x := L2_12) (by omega); have c2 := i_clamp0 (x := x) (by omega); omega }, by { rw [← ex]; omega }⟩)) hP hD hS (lv_sub hl [0, 2] rfl)
            ·
              have ic_12 : 0 < L2_12.toInt := by first | exact (g_lt t_0 rfl).mp c_12 | (have h := mt (g_le rfl t_0).mpr c_12; omega)
              clear c_12
              refine lv_aload_n hx hb dX3_middleOne_16 rfl (lv_at hl 2 rfl) ?_
              refine va_get (D := D) (ci := 3) (v := .ref (ra 2)) (C := RX3) (T := TX3) (N := 4) hx hb htb iX3 hown hK.1 hP 0 rfl rfl 2 (by decide) (htb _ k_65) (fun _ h9 => h9) rfl dX3_middleOne_17 ?_
              refine lv_iload_n hx hb dX3_middleOne_20 rfl (lv_at hl 0 rfl) ?_
              refine lv_iconst (v := 1) hx hb dX3_middleOne_21 (by decide) ?_
              refine lv_isub hx hb dX3_middleOne_22 ?_
              refine lv_topi (fun z_15 ez_15 => ?_)
              have jz_15 : z_15.toInt = L2_12.toInt - 1 := by rw [ez_15]; exact g_sub rfl t_1 (by omega) (by omega)
              refine va_iald hx hb hK.1 hP 2 0 rfl rfl (g_in rfl (by omega) (by omega)) dX3_middleOne_23 ?_
              refine lv_topi (fun z_16 ez_16 => ?_)
              have kz_16 := congrArg Int32.toInt ez_16
              refine lv_aload_n hx hb dX3_middleOne_24 rfl (lv_at hl 2 rfl) ?_
              refine va_get (D := D) (ci := 3) (v := .ref (ra 1)) (C := RX3) (T := TX3) (N := 4) hx hb htb iX3 hown hK.1 hP 0 rfl rfl 1 (by decide) (htb _ k_63) (fun _ h9 => h9) rfl dX3_middleOne_25 ?_
              refine lv_iload_n hx hb dX3_middleOne_28 rfl (lv_at hl 1 rfl) ?_
              refine va_iald hx hb hK.1 hP 1 0 rfl rfl (g_in rfl (by omega) (by omega)) dX3_middleOne_29 ?_
              refine lv_topi (fun z_17 ez_17 => ?_)
              have kz_17 := congrArg Int32.toInt ez_17
              refine lv_icmp_le (tgt := 53) hx hb dX3_middleOne_30 (by decide) (fun c_18 => ?_) (fun c_18 => ?_)
              ·
                have ic_18 : z_16.toInt ≤ z_17.toInt := by first | exact (g_le rfl rfl).mp c_18 | (have h := mt (g_lt rfl rfl).mpr c_18; omega)
                clear c_18
                refine lv_aload_n hx hb dX3_middleOne_53 rfl (lv_at hl 2 rfl) ?_
                refine va_get (D := D) (ci := 3) (v := .ref (ra 2)) (C := RX3) (T := TX3) (N := 4) hx hb htb iX3 hown hK.1 hP 0 rfl rfl 2 (by decide) (htb _ k_65) (fun _ h9 => h9) rfl dX3_middleOne_54 ?_
                refine lv_iload_n hx hb dX3_middleOne_57 rfl (lv_at hl 0 rfl) ?_
                refine lv_aload_n hx hb dX3_middleOne_58 rfl (lv_at hl 2 rfl) ?_
                refine va_get (D := D) (ci := 3) (v := .ref (ra 1)) (C := RX3) (T := TX3) (N := 4) hx hb htb iX3 hown hK.1 hP 0 rfl rfl 1 (by decide) (htb _ k_63) (fun _ h9 => h9) rfl dX3_middleOne_59 ?_
                refine lv_iload_n hx hb dX3_middleOne_62 rfl (lv_at hl 1 rfl) ?_
                refine va_iald hx hb hK.1 hP 1 0 rfl rfl (g_in rfl (by omega) (by omega)) dX3_middleOne_63 ?_
                refine lv_topi (fun z_19 ez_19 => ?_)
                have kz_19 := congrArg Int32.toInt ez_19
                refine va_iast hx hb hK.1 hP hD hS 2 0 rfl rfl (g_in rfl (by omega) (by omega)) dX3_middleOne_64 (fun H locs hP hD hS => ?_)
                have hP : va_P D vwCl [(rh, .inr (3, G3 ra rsize)), ((ra 1), .inl (E 0, 60, .inl rf1)), ((ra 2), .inl (E 0, 60, .inl (upd rf2_12 (L2_12 : Int32).toNatClampNeg z_19)))] H := hP
                have hD := toW hP hD rfl
                obtain ⟨z_20, ez_20⟩ : ∃ y : Int32, y = L1_2 + 1 := ⟨_, rfl⟩
                have jz_20 : z_20.toInt = L1_2.toInt + 1 := by rw [ez_20]; exact g_add rfl t_1 (by omega) (by omega)
                refine lv_iinc (v := z_20) (lv' := [(1, .int z_20), (2, .int L2_12), (0, .ref rh)]) hx hb dX3_middleOne_65 hl (k := 1) rfl (by rw [ez_20]; rfl) (by decide) rfl (fun ls hl => ?_)
                refine lv_goto (tgt := 2) hx hb dX3_middleOne_68 (by decide) ?_
                exact ih_2 z_20 (upd rf2_12 (L2_12 : Int32).toNatClampNeg z_19) _ _ _ (by (try dsimp only); omega) (by (try dsimp only); omega) (by rw [clampS (by omega) jz_20, srtA_s, ← v1_2, ← v1_12, ← ez_19]; exact insA_end (by first | exact Or.inl (by have c1 := i_clamp0 (x := L2_12) (by omega); omega) | exact Or.inr ⟨(z_15).toNatClampNeg, by { have c1 := i_clamp0 (x := L2_12) (by omega); have c2 := i_clamp0 (x := z_15) (by omega); omega }, by { rw [← ez_16]; omega }⟩)) hP hD hS (lv_sub hl [0, 2] rfl)
              ·
                have ic_18 : z_17.toInt < z_16.toInt := by first | exact (g_lt rfl rfl).mp c_18 | (have h := mt (g_le rfl rfl).mpr c_18; omega)
                clear c_18
                refine lv_aload_n hx hb dX3_middleOne_33 rfl (lv_at hl 2 rfl) ?_
                refine va_get (D := D) (ci := 3) (v := .ref (ra 2)) (C := RX3) (T := TX3) (N := 4) hx hb htb iX3 hown hK.1 hP 0 rfl rfl 2 (by decide) (htb _ k_65) (fun _ h9 => h9) rfl dX3_middleOne_34 ?_
                refine lv_iload_n hx hb dX3_middleOne_37 rfl (lv_at hl 0 rfl) ?_
                refine lv_aload_n hx hb dX3_middleOne_38 rfl (lv_at hl 2 rfl) ?_
                refine va_get (D := D) (ci := 3) (v := .ref (ra 2)) (C := RX3) (T := TX3) (N := 4) hx hb htb iX3 hown hK.1 hP 0 rfl rfl 2 (by decide) (htb _ k_65) (fun _ h9 => h9) rfl dX3_middleOne_39 ?_
                refine lv_iload_n hx hb dX3_middleOne_42 rfl (lv_at hl 0 rfl) ?_
                refine lv_iconst (v := 1) hx hb dX3_middleOne_43 (by decide) ?_
                refine lv_isub hx hb dX3_middleOne_44 ?_
                refine lv_topi (fun z_21 ez_21 => ?_)
                have jz_21 : z_21.toInt = L2_12.toInt - 1 := by rw [ez_21]; exact g_sub rfl t_1 (by omega) (by omega)
                refine va_iald hx hb hK.1 hP 2 0 rfl rfl (g_in rfl (by omega) (by omega)) dX3_middleOne_45 ?_
                refine lv_topi (fun z_22 ez_22 => ?_)
                have kz_22 := congrArg Int32.toInt ez_22
                refine va_iast hx hb hK.1 hP hD hS 2 0 rfl rfl (g_in rfl (by omega) (by omega)) dX3_middleOne_46 (fun H locs hP hD hS => ?_)
                have hP : va_P D vwCl [(rh, .inr (3, G3 ra rsize)), ((ra 1), .inl (E 0, 60, .inl rf1)), ((ra 2), .inl (E 0, 60, .inl (upd rf2_12 (L2_12 : Int32).toNatClampNeg z_22)))] H := hP
                have hD := toW hP hD rfl
                obtain ⟨z_23, ez_23⟩ : ∃ y : Int32, y = L2_12 + (-1) := ⟨_, rfl⟩
                have jz_23 : z_23.toInt = L2_12.toInt + -1 := by rw [ez_23]; exact g_add rfl t_m1 (by omega) (by omega)
                refine lv_iinc (v := z_23) (lv' := [(2, .int z_23), (1, .int L1_2), (0, .ref rh)]) hx hb dX3_middleOne_47 hl (k := 0) rfl (by rw [ez_23]; rfl) (by decide) rfl (fun ls hl => ?_)
                refine lv_goto (tgt := 12) hx hb dX3_middleOne_50 (by decide) ?_
                exact ih_10 z_23 (upd rf2_12 (L2_12 : Int32).toNatClampNeg z_22) _ _ _ (by (try dsimp only); omega) (by (try dsimp only); omega) (by rw [← v1_12]; exact insA_go (by have c1 := i_clamp0 (x := L2_12) (by omega); have c2 := i_clamp0 (x := z_23) (by omega); omega) (by rw [ez_22]; congr 1; have c1 := i_clamp0 (x := z_23) (by omega); have c2 := i_clamp0 (x := z_21) (by omega); omega) (by rw [show (z_23).toNatClampNeg = (z_15).toNatClampNeg from by { have c1 := i_clamp0 (x := z_23) (by omega); have c2 := i_clamp0 (x := z_15) (by omega); omega }, ← ez_16, ← ez_17]; omega)) hP hD hS (lv_sub hl [0, 1, 2] rfl)
        exact loop_9 61 L1_2 rf2_2 _ _ _ (by (try dsimp only); omega) (by (try dsimp only); omega) (by rfl) hP hD hS (lv_sub hl [0, 1, 2] rfl)
  exact loop_1 61 0 rf2 _ _ _ (by have h0 := t_0; (try dsimp only); omega) (by have h0 := t_0; (try dsimp only); omega) (by rw [clamp_0]; rfl) hP hD hS (lv_sub hl [0, 1] rfl)
set_option maxHeartbeats 4000000 in
set_option maxRecDepth 100000 in
theorem g_X3_dayFarthestOff (l : Launch) (D : va_G) (E : Nat → Nat) (rh : Nat) (ra : Nat → Nat) (rsize : Int32) (rf0 : Nat → Int32) (rf1 : Nat → Int32) (rf2 : Nat → Int32) (p0 : Int32) (sz : Nat) (hi_r : (0 ≤ rsize.toInt ∧ rsize.toInt ≤ 60)) (hr_r0 : ∀ k : Nat, k < 60 → 0 ≤ (rf0 k).toInt ∧ (rf0 k).toInt ≤ 399) : Met l yX3_dayFarthestOff (wl yX3_dayFarthestOff cX3_dayFarthestOff 7 (some .int)) (RM 1 0 0) (mu_P D E [.ref rh, .int p0] [(rh, .inr (3, G3 ra rsize)), ((ra 0), .inl (E 0, 60, .inl rf0)), ((ra 1), .inl (E 0, 60, .inl rf1)), ((ra 2), .inl (E 0, 60, .inl rf2))] sz) (va_Qi (fun (r : Int32) (u : (Nat → Int32)) => ((rsize.toInt = 0 ∧ r.toInt = -4) ∨ (1 ≤ rsize.toInt ∧ ∃ m : Int32, m = srtA rf1 rf2 (rsize).toNatClampNeg ((rsize - 1) / 2).toNatClampNeg ∧ r = (farF rf0 rf1 m p0 (-4) (rsize).toNatClampNeg).2))) (mu_B D (va_A [(rh, .inr (3, G3 ra rsize)), ((ra 0), .inl (E 0, 60, .inl rf0)), ((ra 1), .inl (E 0, 60, .inl rf1)), ((ra 2), .inl (E 0, 60, .inl rf2))] sz) (fun (u : (Nat → Int32)) => [(rh, .inr (3, G3 ra rsize)), ((ra 0), .inl (E 0, 60, .inl rf0)), ((ra 1), .inl (E 0, 60, .inl rf1)), ((ra 2), .inl (E 0, 60, .inl u))])) (va_A [(rh, .inr (3, G3 ra rsize)), ((ra 0), .inl (E 0, 60, .inl rf0)), ((ra 1), .inl (E 0, 60, .inl rf1)), ((ra 2), .inl (E 0, 60, .inl rf2))] sz)) 0 0 (va_A [(rh, .inr (3, G3 ra rsize)), ((ra 0), .inl (E 0, 60, .inl rf0)), ((ra 1), .inl (E 0, 60, .inl rf1)), ((ra 2), .inl (E 0, 60, .inl rf2))] sz) := by
  refine Met.ofW (cc := cX3_dayFarthestOff) (maxL := 7) (ret := (some .int)) (by decide) rfl ?_
  intro p e s m args below meth c s₁ B hml hv
  obtain ⟨rfl, hsz, hP, hK, hD0⟩ := hv
  have hx := B.exec; have hb := B.bytes; have hr := B.returns
  have hts := atoms_spec (ws := wl yX3_dayFarthestOff cX3_dayFarthestOff 7 (some .int)) B.pre
  have htb : ∀ w ∈ tb, w.before _ s = true := fun w h => hts w (List.mem_cons_of_mem _ h)
  have hown : s.vm.findClass RX3 = some m.cls := findClass_of_methodNamed B.named
  have hlocks := B.notSynchronized
  subst hsz
  have hD := hD0.self (sz := s.heap.size)
  generalize hAe : va_A [(rh, .inr (3, G3 ra rsize)), ((ra 0), .inl (E 0, 60, .inl rf0)), ((ra 1), .inl (E 0, 60, .inl rf1)), ((ra 2), .inl (E 0, 60, .inl rf2))] s.heap.size = A at hD ⊢
  have hA : ∀ q : Nat, s.heap.size ≤ q → A q := fun q h => by rw [← hAe]; exact Or.inr h
  have hS : va_S A s.heap s.heap [] := va_S.rf
  have hP : va_P D vwCl [(rh, .inr (3, G3 ra rsize)), ((ra 0), .inl (E 0, 60, .inl rf0)), ((ra 1), .inl (E 0, 60, .inl rf1)), ((ra 2), .inl (E 0, 60, .inl rf2))] s.heap := hP
  have hl := lv_entry ([.ref rh, .int p0]) (n := 7) (Nat.le_of_ble_eq_true rfl)
  rw [lg_entry_eq]
  generalize (lg_sl ([.ref rh, .int p0]) ++ List.replicate (7 - (lg_sl ([.ref rh, .int p0])).length) Slot.unset).toArray = ls at hl ⊢
  have hl : lv_has ls 7 [(0, .ref rh), (1, .int p0)] := hl
  have lo_p0 := i_lo p0; have hi_p0 := i_hi p0
  refine lv_aload_n hx hb dX3_dayFarthestOff_0 rfl (lv_at hl 0 rfl) ?_
  refine va_get (D := D) (ci := 3) (v := .int rsize) (C := RX3) (T := TX3) (N := 4) hx hb htb iX3 hown hK.1 hP 0 rfl rfl 3 (by decide) (htb _ k_66) (fun _ h9 => h9) rfl dX3_dayFarthestOff_1 ?_
  refine lv_if_ne (tgt := 10) hx hb dX3_dayFarthestOff_4 (by decide) (fun c_1 => ?_) (fun c_1 => ?_)
  ·
    have ic_1 : rsize.toInt ≠ 0 := mt (g_eq rfl t_0).mpr c_1
    clear c_1
    refine lv_aload_n hx hb dX3_dayFarthestOff_10 rfl (lv_at hl 0 rfl) ?_
    have hPc := hP.sub (ws' := [(rh, .inr (3, G3 ra rsize)), ((ra 1), .inl (E 0, 60, .inl rf1)), ((ra 2), .inl (E 0, 60, .inl rf2))]) [0, 2, 3] rfl
    have hDc := hD.sub (ws' := [(rh, .inr (3, G3 ra rsize)), ((ra 1), .inl (E 0, 60, .inl rf1)), ((ra 2), .inl (E 0, 60, .inl rf2))]) [0, 2, 3] (by decide) rfl
    refine aft_i (runMV (rest := []) (As := []) hx hb hml hown htb hK (g_X3_middleOne l D E rh ra rsize rf1 rf2 _ (by (try dsimp only); omega)) ok_X3_middleOne k_566 k_568 ks_10 k_3 k_569 ⟨(Nat.le_of_ble_eq_true rfl), (Nat.le_of_ble_eq_true rfl)⟩ ⟨(Nat.le_of_ble_eq_true rfl), (Nat.le_of_ble_eq_true rfl)⟩ hl.1 (Nat.le_of_ble_eq_true rfl) rfl rfl dX3_dayFarthestOff_11 hPc hDc rfl rfl 0 rfl) hP hD hS hA [0, 2, 3] [1] (wr := [((ra 0), .inl (E 0, 60, .inl rf0))]) rfl rfl (by decide) (by decide) (fun r_2 u_4 H locs hw_3 hP hD hS => ?_)
    clear hPc hDc
    have hP : va_P D vwCl [((ra 0), .inl (E 0, 60, .inl rf0)), (rh, .inr (3, G3 ra rsize)), ((ra 1), .inl (E 0, 60, .inl rf1)), ((ra 2), .inl (E 0, 60, .inl u_4))] H := hP
    have hD := toW hP hD rfl
    refine lv_istore_n (lv' := [(2, .int r_2), (0, .ref rh), (1, .int p0)]) hx hb dX3_dayFarthestOff_14 rfl hl (by decide) rfl (fun ls hl => ?_)
    refine lv_iload_n hx hb dX3_dayFarthestOff_15 rfl (lv_at hl 2 rfl) ?_
    refine lv_istore_n (lv' := [(3, .int p0), (2, .int r_2), (0, .ref rh), (1, .int p0)]) hx hb dX3_dayFarthestOff_16 rfl hl (by decide) rfl (fun ls hl => ?_)
    refine lv_bipush (v := (-4)) hx hb dX3_dayFarthestOff_17 (by decide) ?_
    refine lv_istore (lv' := [(4, .int (-4)), (3, .int p0), (2, .int r_2), (0, .ref rh), (1, .int p0)]) hx hb dX3_dayFarthestOff_19 hl (by decide) rfl (fun ls hl => ?_)
    refine lv_iconst (v := 0) hx hb dX3_dayFarthestOff_21 (by decide) ?_
    refine lv_istore (lv' := [(5, .int 0), (4, .int (-4)), (3, .int p0), (2, .int r_2), (0, .ref rh), (1, .int p0)]) hx hb dX3_dayFarthestOff_22 hl (by decide) rfl (fun ls hl => ?_)
    have loop_5 : ∀ (N_7 : Nat) (L5_24 : Int32) (L4_24 : Int32) (L3_24 : Int32) (H : Heap) (locs : List Loc) (ls : Array Slot), rsize.toInt - L5_24.toInt < (N_7 : Int) → (0 ≤ L5_24.toInt ∧ L5_24.toInt ≤ rsize.toInt) → (L3_24 = (farF rf0 rf1 r_2 p0 (-4) (L5_24).toNatClampNeg).1) → (L4_24 = (farF rf0 rf1 r_2 p0 (-4) (L5_24).toNatClampNeg).2) → va_P D vwCl [((ra 0), .inl (E 0, 60, .inl rf0)), (rh, .inr (3, G3 ra rsize)), ((ra 1), .inl (E 0, 60, .inl rf1)), ((ra 2), .inl (E 0, 60, .inl u_4))] H → va_D A [((ra 0), .inl (E 0, 60, .inl rf0)), (rh, .inr (3, G3 ra rsize)), ((ra 1), .inl (E 0, 60, .inl rf1)), ((ra 2), .inl (E 0, 60, .inl u_4))] → va_S A s.heap H locs → lv_has ls 7 [(5, .int L5_24), (4, .int L4_24), (3, .int L3_24), (2, .int r_2), (0, .ref rh), (1, .int p0)] → W p l e (headSpec (wl yX3_dayFarthestOff cX3_dayFarthestOff 7 (some .int)) (RM 1 0 0)).room s m [Value.ref rh, .int p0].toArray below meth c H locs 0 0 (MQ below (va_Qi (fun (r : Int32) (u : (Nat → Int32)) => ((rsize.toInt = 0 ∧ r.toInt = -4) ∨ (1 ≤ rsize.toInt ∧ ∃ m : Int32, m = srtA rf1 rf2 (rsize).toNatClampNeg ((rsize - 1) / 2).toNatClampNeg ∧ r = (farF rf0 rf1 m p0 (-4) (rsize).toNatClampNeg).2))) (mu_B D A (fun (u : (Nat → Int32)) => [(rh, .inr (3, G3 ra rsize)), ((ra 0), .inl (E 0, 60, .inl rf0)), ((ra 1), .inl (E 0, 60, .inl rf1)), ((ra 2), .inl (E 0, 60, .inl u))])) A) [Value.ref rh, .int p0].toArray s 0 0 A) (F0 m 24 ls []) := by
      intro N_7
      induction N_7 with
      | zero => intro L5_24 L4_24 L3_24 H locs ls hm v0_24 v1_24 v2_24 _ _ _ _; exfalso; omega
      | succ N_7 ih_6 =>
        intro L5_24 L4_24 L3_24 H locs ls hm v0_24 v1_24 v2_24 hP hD hS hl
        have lo_L5_24 := i_lo L5_24; have hi_L5_24 := i_hi L5_24
        have lo_L4_24 := i_lo L4_24; have hi_L4_24 := i_hi L4_24
        have lo_L3_24 := i_lo L3_24; have hi_L3_24 := i_hi L3_24
        refine lv_iload hx hb dX3_dayFarthestOff_24 (lv_at hl 0 rfl) ?_
        refine lv_aload_n hx hb dX3_dayFarthestOff_26 rfl (lv_at hl 4 rfl) ?_
        refine va_get (D := D) (ci := 3) (v := .int rsize) (C := RX3) (T := TX3) (N := 4) hx hb htb iX3 hown hK.1 hP 1 rfl rfl 3 (by decide) (htb _ k_66) (fun _ h9 => h9) rfl dX3_dayFarthestOff_27 ?_
        refine lv_icmp_ge (tgt := 71) hx hb dX3_dayFarthestOff_30 (by decide) (fun c_8 => ?_) (fun c_8 => ?_)
        ·
          have ic_8 : rsize.toInt ≤ L5_24.toInt := by first | exact (g_le rfl rfl).mp c_8 | (have h := mt (g_lt rfl rfl).mpr c_8; omega)
          clear c_8
          refine lv_iload hx hb dX3_dayFarthestOff_71 (lv_at hl 1 rfl) ?_
          have hP9 := hP.sub (ws' := [(rh, .inr (3, G3 ra rsize)), ((ra 0), .inl (E 0, 60, .inl rf0)), ((ra 1), .inl (E 0, 60, .inl rf1)), ((ra 2), .inl (E 0, 60, .inl u_4))]) [1, 0, 2, 3] rfl
          have hD9 := hD.sub (ws' := [(rh, .inr (3, G3 ra rsize)), ((ra 0), .inl (E 0, 60, .inl rf0)), ((ra 1), .inl (E 0, 60, .inl rf1)), ((ra 2), .inl (E 0, 60, .inl u_4))]) [1, 0, 2, 3] (by decide) rfl
          exact W.iret (v := L4_24) hx hb hr (fun t ht hW => ⟨⟨L4_24, u_4, rfl, (Or.inr ⟨by omega, r_2, (hw_3.resolve_left (by omega)).2, by rw [show (rsize).toNatClampNeg = (L5_24).toNatClampNeg from clampE (by omega) (by omega)]; exact v2_24⟩), by rw [ht]; exact hP9, hD9⟩, hS.F ht⟩) hS.2.2 dX3_dayFarthestOff_73
        ·
          have ic_8 : L5_24.toInt < rsize.toInt := by first | exact (g_lt rfl rfl).mp c_8 | (have h := mt (g_le rfl rfl).mpr c_8; omega)
          clear c_8
          refine lv_aload_n hx hb dX3_dayFarthestOff_33 rfl (lv_at hl 4 rfl) ?_
          refine va_get (D := D) (ci := 3) (v := .ref (ra 1)) (C := RX3) (T := TX3) (N := 4) hx hb htb iX3 hown hK.1 hP 1 rfl rfl 1 (by decide) (htb _ k_63) (fun _ h9 => h9) rfl dX3_dayFarthestOff_34 ?_
          refine lv_iload hx hb dX3_dayFarthestOff_37 (lv_at hl 0 rfl) ?_
          refine va_iald hx hb hK.1 hP 2 0 rfl rfl (g_in rfl (by omega) (by omega)) dX3_dayFarthestOff_39 ?_
          refine lv_topi (fun z_9 ez_9 => ?_)
          have kz_9 := congrArg Int32.toInt ez_9
          refine lv_iload_n hx hb dX3_dayFarthestOff_40 rfl (lv_at hl 3 rfl) ?_
          refine lv_isub hx hb dX3_dayFarthestOff_41 ?_
          refine lv_topi (fun z_10 ez_10 => ?_)
          refine va_mabs hx hb (by rw [hml, hl.1]) hown (htb _ k_570) (htb _ k_571) (htb _ k_11) (htb _ k_572) (Nat.le_of_ble_eq_true rfl) (Nat.le_of_ble_eq_true rfl) (Nat.le_of_ble_eq_true rfl) (Nat.le_of_ble_eq_true rfl) dX3_dayFarthestOff_42 ?_
          refine lv_topi (fun z_11 ez_11 => ?_)
          have sz_11 := abs_sz ez_11
          refine lv_istore (lv' := [(6, .int z_11), (5, .int L5_24), (4, .int L4_24), (3, .int L3_24), (2, .int r_2), (0, .ref rh), (1, .int p0)]) hx hb dX3_dayFarthestOff_45 hl (by decide) rfl (fun ls hl => ?_)
          refine lv_iload hx hb dX3_dayFarthestOff_47 (lv_at hl 0 rfl) ?_
          refine lv_iload_n hx hb dX3_dayFarthestOff_49 rfl (lv_at hl 3 rfl) ?_
          refine lv_icmp_le (tgt := 65) hx hb dX3_dayFarthestOff_50 (by decide) (fun c_12 => ?_) (fun c_12 => ?_)
          ·
            have ic_12 : z_11.toInt ≤ L3_24.toInt := by first | exact (g_le rfl rfl).mp c_12 | (have h := mt (g_lt rfl rfl).mpr c_12; omega)
            clear c_12
            obtain ⟨z_13, ez_13⟩ : ∃ y : Int32, y = L5_24 + 1 := ⟨_, rfl⟩
            have jz_13 : z_13.toInt = L5_24.toInt + 1 := by rw [ez_13]; exact g_add rfl t_1 (by omega) (by omega)
            refine lv_iinc (v := z_13) (lv' := [(5, .int z_13), (6, .int z_11), (4, .int L4_24), (3, .int L3_24), (2, .int r_2), (0, .ref rh), (1, .int p0)]) hx hb dX3_dayFarthestOff_65 hl (k := 1) rfl (by rw [ez_13]; rfl) (by decide) rfl (fun ls hl => ?_)
            refine lv_goto (tgt := 24) hx hb dX3_dayFarthestOff_68 (by decide) ?_
            exact ih_6 z_13 L4_24 L3_24 _ _ _ (by (try dsimp only); omega) (by (try dsimp only); omega) (by have hq : z_11 = szF (rf1 (L5_24).toNatClampNeg - r_2) := (by rw [sz_11, ez_10, ez_9]); rw [clampS (by omega) jz_13, farF_s, ← v1_24, ← hq, if_neg (by omega)]; exact v1_24) (by have hq : z_11 = szF (rf1 (L5_24).toNatClampNeg - r_2) := (by rw [sz_11, ez_10, ez_9]); rw [clampS (by omega) jz_13, farF_s, ← v1_24, ← hq, if_neg (by omega)]; exact v2_24) hP hD hS (lv_sub hl [0, 2, 3, 4, 5, 6] rfl)
          ·
            have ic_12 : L3_24.toInt < z_11.toInt := by first | exact (g_lt rfl rfl).mp c_12 | (have h := mt (g_le rfl rfl).mpr c_12; omega)
            clear c_12
            refine lv_iload hx hb dX3_dayFarthestOff_53 (lv_at hl 0 rfl) ?_
            refine lv_istore_n (lv' := [(3, .int z_11), (6, .int z_11), (5, .int L5_24), (4, .int L4_24), (2, .int r_2), (0, .ref rh), (1, .int p0)]) hx hb dX3_dayFarthestOff_55 rfl hl (by decide) rfl (fun ls hl => ?_)
            refine lv_aload_n hx hb dX3_dayFarthestOff_56 rfl (lv_at hl 5 rfl) ?_
            refine va_get (D := D) (ci := 3) (v := .ref (ra 0)) (C := RX3) (T := TX3) (N := 4) hx hb htb iX3 hown hK.1 hP 1 rfl rfl 0 (by decide) (htb _ k_61) (fun _ h9 => h9) rfl dX3_dayFarthestOff_57 ?_
            refine lv_iload hx hb dX3_dayFarthestOff_60 (lv_at hl 2 rfl) ?_
            refine va_iald hx hb hK.1 hP 0 0 rfl rfl (g_in rfl (by omega) (by omega)) dX3_dayFarthestOff_62 ?_
            refine lv_topi (fun z_14 ez_14 => ?_)
            have kz_14 := congrArg Int32.toInt ez_14
            have jz_14 : 0 ≤ z_14.toInt ∧ z_14.toInt ≤ 399 := by rw [ez_14]; exact hr_r0 _ (g_ix rfl (by omega) (by omega))
            refine lv_istore (lv' := [(4, .int z_14), (3, .int z_11), (6, .int z_11), (5, .int L5_24), (2, .int r_2), (0, .ref rh), (1, .int p0)]) hx hb dX3_dayFarthestOff_63 hl (by decide) rfl (fun ls hl => ?_)
            obtain ⟨z_15, ez_15⟩ : ∃ y : Int32, y = L5_24 + 1 := ⟨_, rfl⟩
            have jz_15 : z_15.toInt = L5_24.toInt + 1 := by rw [ez_15]; exact g_add rfl t_1 (by omega) (by omega)
            refine lv_iinc (v := z_15) (lv' := [(5, .int z_15), (4, .int z_14), (3, .int z_11), (6, .int z_11), (2, .int r_2), (0, .ref rh), (1, .int p0)]) hx hb dX3_dayFarthestOff_65 hl (k := 3) rfl (by rw [ez_15]; rfl) (by decide) rfl (fun ls hl => ?_)
            refine lv_goto (tgt := 24) hx hb dX3_dayFarthestOff_68 (by decide) ?_
            exact ih_6 z_15 z_14 z_11 _ _ _ (by (try dsimp only); omega) (by (try dsimp only); omega) (by have hq : z_11 = szF (rf1 (L5_24).toNatClampNeg - r_2) := (by rw [sz_11, ez_10, ez_9]); rw [clampS (by omega) jz_15, farF_s, ← v1_24, ← hq, if_pos (by omega)]) (by have hq : z_11 = szF (rf1 (L5_24).toNatClampNeg - r_2) := (by rw [sz_11, ez_10, ez_9]); rw [clampS (by omega) jz_15, farF_s, ← v1_24, ← hq, if_pos (by omega)]; exact ez_14) hP hD hS (lv_sub hl [0, 1, 2, 4, 5, 6] rfl)
    exact loop_5 61 0 ((-4)) p0 _ _ _ (by have h0 := t_m4; have h1 := t_0; (try dsimp only); omega) (by have h0 := t_m4; have h1 := t_0; (try dsimp only); omega) (by rw [clamp_0]; rfl) (by rw [clamp_0]; rfl) hP hD hS (lv_sub hl [0, 1, 2, 3, 4, 5] rfl)
  ·
    have ic_1 : rsize.toInt = 0 := (g_eq rfl t_0).mp c_1
    clear c_1
    refine lv_bipush (v := (-4)) hx hb dX3_dayFarthestOff_7 (by decide) ?_
    have hP9 := hP.sub (ws' := [(rh, .inr (3, G3 ra rsize)), ((ra 0), .inl (E 0, 60, .inl rf0)), ((ra 1), .inl (E 0, 60, .inl rf1)), ((ra 2), .inl (E 0, 60, .inl rf2))]) [0, 1, 2, 3] rfl
    have hD9 := hD.sub (ws' := [(rh, .inr (3, G3 ra rsize)), ((ra 0), .inl (E 0, 60, .inl rf0)), ((ra 1), .inl (E 0, 60, .inl rf1)), ((ra 2), .inl (E 0, 60, .inl rf2))]) [0, 1, 2, 3] (by decide) rfl
    exact W.iret (v := (-4)) hx hb hr (fun t ht hW => ⟨⟨(-4), rf2, rfl, (Or.inl ⟨by omega, by have hl0 := t_m4; omega⟩), by rw [ht]; exact hP9, hD9⟩, hS.F ht⟩) hS.2.2 dX3_dayFarthestOff_9
set_option maxHeartbeats 4000000 in
set_option maxRecDepth 100000 in
theorem g_X3_gather (l : Launch) (D : va_G) (E : Nat → Nat) (rh : Nat) (ra : Nat → Nat) (rsize : Int32) (rf0 : Nat → Int32) (rf1 : Nat → Int32) (wh : Nat) (wa : Nat → Nat) (wf0 : Nat → Int32) (wf1 : Nat → Int32) (wf2 : Nat → Int32) (oh : Nat) (oa : Nat → Nat) (osize : Int32) (of0 : Nat → Int32) (of1 : Nat → Int32) (of2 : Nat → Int32) (of3 : Nat → Int32) (of4 : Nat → Int32) (p2 : Int32) (p3 : Int32) (sz : Nat) (hi_r : (0 ≤ rsize.toInt ∧ rsize.toInt ≤ 60)) (hr_r0 : ∀ k : Nat, k < 60 → 0 ≤ (rf0 k).toInt ∧ (rf0 k).toInt ≤ 399) (hi_o : (0 ≤ osize.toInt ∧ osize.toInt ≤ 60)) (g0 : 0 ≤ p2.toInt ∧ p2.toInt ≤ 399 ∧ p3.toInt ≤ 399 ∧ p3.toInt - p2.toInt ≤ 60) : Met l yX3_gather (wl yX3_gather cX3_gather 9 none) (RM 3 0 0) (mu_P D E [.ref rh, .ref wh, .ref oh, .int p2, .int p3] [(rh, .inr (3, G3 ra rsize)), ((ra 0), .inl (E 0, 60, .inl rf0)), ((ra 1), .inl (E 0, 60, .inl rf1)), (wh, .inr (7, G7 wa)), ((wa 0), .inl (E 0, 400, .inl wf0)), ((wa 1), .inl (E 0, 400, .inl wf1)), ((wa 2), .inl (E 0, 400, .inl wf2)), (oh, .inr (2, G2 oa osize)), ((oa 0), .inl (E 0, 60, .inl of0)), ((oa 1), .inl (E 0, 60, .inl of1)), ((oa 2), .inl (E 0, 60, .inl of2)), ((oa 3), .inl (E 0, 60, .inl of3)), ((oa 4), .inl (E 0, 60, .inl of4))] sz) (va_Qv (fun (u : (Nat → Int32) × (Nat → Int32) × (Int32)) => (∀ k : Nat, k < 60 → 0 ≤ (u.1 k).toInt ∧ (u.1 k).toInt ≤ 399) ∧ (0 ≤ u.2.2.toInt ∧ u.2.2.toInt ≤ 60) ∧ (HOLDS u.1 u.2.1 u.2.2 (rateL (rXn wf0 wf1 wf2 of0 of1 of2 of3 of4 osize) p2 (p3.toInt - p2.toInt).toNat))) (mu_B D (va_A [(rh, .inr (3, G3 ra rsize)), ((ra 0), .inl (E 0, 60, .inl rf0)), ((ra 1), .inl (E 0, 60, .inl rf1)), (wh, .inr (7, G7 wa)), ((wa 0), .inl (E 0, 400, .inl wf0)), ((wa 1), .inl (E 0, 400, .inl wf1)), ((wa 2), .inl (E 0, 400, .inl wf2)), (oh, .inr (2, G2 oa osize)), ((oa 0), .inl (E 0, 60, .inl of0)), ((oa 1), .inl (E 0, 60, .inl of1)), ((oa 2), .inl (E 0, 60, .inl of2)), ((oa 3), .inl (E 0, 60, .inl of3)), ((oa 4), .inl (E 0, 60, .inl of4))] sz) (fun (u : (Nat → Int32) × (Nat → Int32) × (Int32)) => [(rh, .inr (3, G3 ra u.2.2)), ((ra 0), .inl (E 0, 60, .inl u.1)), ((ra 1), .inl (E 0, 60, .inl u.2.1)), (wh, .inr (7, G7 wa)), ((wa 0), .inl (E 0, 400, .inl wf0)), ((wa 1), .inl (E 0, 400, .inl wf1)), ((wa 2), .inl (E 0, 400, .inl wf2)), (oh, .inr (2, G2 oa osize)), ((oa 0), .inl (E 0, 60, .inl of0)), ((oa 1), .inl (E 0, 60, .inl of1)), ((oa 2), .inl (E 0, 60, .inl of2)), ((oa 3), .inl (E 0, 60, .inl of3)), ((oa 4), .inl (E 0, 60, .inl of4))])) (va_A [(rh, .inr (3, G3 ra rsize)), ((ra 0), .inl (E 0, 60, .inl rf0)), ((ra 1), .inl (E 0, 60, .inl rf1)), (wh, .inr (7, G7 wa)), ((wa 0), .inl (E 0, 400, .inl wf0)), ((wa 1), .inl (E 0, 400, .inl wf1)), ((wa 2), .inl (E 0, 400, .inl wf2)), (oh, .inr (2, G2 oa osize)), ((oa 0), .inl (E 0, 60, .inl of0)), ((oa 1), .inl (E 0, 60, .inl of1)), ((oa 2), .inl (E 0, 60, .inl of2)), ((oa 3), .inl (E 0, 60, .inl of3)), ((oa 4), .inl (E 0, 60, .inl of4))] sz)) 0 0 (va_A [(rh, .inr (3, G3 ra rsize)), ((ra 0), .inl (E 0, 60, .inl rf0)), ((ra 1), .inl (E 0, 60, .inl rf1)), (wh, .inr (7, G7 wa)), ((wa 0), .inl (E 0, 400, .inl wf0)), ((wa 1), .inl (E 0, 400, .inl wf1)), ((wa 2), .inl (E 0, 400, .inl wf2)), (oh, .inr (2, G2 oa osize)), ((oa 0), .inl (E 0, 60, .inl of0)), ((oa 1), .inl (E 0, 60, .inl of1)), ((oa 2), .inl (E 0, 60, .inl of2)), ((oa 3), .inl (E 0, 60, .inl of3)), ((oa 4), .inl (E 0, 60, .inl of4))] sz) := by
  refine Met.ofW (cc := cX3_gather) (maxL := 9) (ret := none) (by decide) rfl ?_
  intro p e s m args below meth c s₁ B hml hv
  obtain ⟨rfl, hsz, hP, hK, hD0⟩ := hv
  have hx := B.exec; have hb := B.bytes; have hr := B.returns
  have hts := atoms_spec (ws := wl yX3_gather cX3_gather 9 none) B.pre
  have htb : ∀ w ∈ tb, w.before _ s = true := fun w h => hts w (List.mem_cons_of_mem _ h)
  have hown : s.vm.findClass RX3 = some m.cls := findClass_of_methodNamed B.named
  have hlocks := B.notSynchronized
  subst hsz
  have hD := hD0.self (sz := s.heap.size)
  generalize hAe : va_A [(rh, .inr (3, G3 ra rsize)), ((ra 0), .inl (E 0, 60, .inl rf0)), ((ra 1), .inl (E 0, 60, .inl rf1)), (wh, .inr (7, G7 wa)), ((wa 0), .inl (E 0, 400, .inl wf0)), ((wa 1), .inl (E 0, 400, .inl wf1)), ((wa 2), .inl (E 0, 400, .inl wf2)), (oh, .inr (2, G2 oa osize)), ((oa 0), .inl (E 0, 60, .inl of0)), ((oa 1), .inl (E 0, 60, .inl of1)), ((oa 2), .inl (E 0, 60, .inl of2)), ((oa 3), .inl (E 0, 60, .inl of3)), ((oa 4), .inl (E 0, 60, .inl of4))] s.heap.size = A at hD ⊢
  have hA : ∀ q : Nat, s.heap.size ≤ q → A q := fun q h => by rw [← hAe]; exact Or.inr h
  have hS : va_S A s.heap s.heap [] := va_S.rf
  have hP : va_P D vwCl [(rh, .inr (3, G3 ra rsize)), ((ra 0), .inl (E 0, 60, .inl rf0)), ((ra 1), .inl (E 0, 60, .inl rf1)), (wh, .inr (7, G7 wa)), ((wa 0), .inl (E 0, 400, .inl wf0)), ((wa 1), .inl (E 0, 400, .inl wf1)), ((wa 2), .inl (E 0, 400, .inl wf2)), (oh, .inr (2, G2 oa osize)), ((oa 0), .inl (E 0, 60, .inl of0)), ((oa 1), .inl (E 0, 60, .inl of1)), ((oa 2), .inl (E 0, 60, .inl of2)), ((oa 3), .inl (E 0, 60, .inl of3)), ((oa 4), .inl (E 0, 60, .inl of4))] s.heap := hP
  have hl := lv_entry ([.ref rh, .ref wh, .ref oh, .int p2, .int p3]) (n := 9) (Nat.le_of_ble_eq_true rfl)
  rw [lg_entry_eq]
  generalize (lg_sl ([.ref rh, .ref wh, .ref oh, .int p2, .int p3]) ++ List.replicate (9 - (lg_sl ([.ref rh, .ref wh, .ref oh, .int p2, .int p3])).length) Slot.unset).toArray = ls at hl ⊢
  have hl : lv_has ls 9 [(0, .ref rh), (1, .ref wh), (2, .ref oh), (3, .int p2), (4, .int p3)] := hl
  have lo_p2 := i_lo p2; have hi_p2 := i_hi p2
  have lo_p3 := i_lo p3; have hi_p3 := i_hi p3
  refine lv_aload_n hx hb dX3_gather_0 rfl (lv_at hl 0 rfl) ?_
  refine lv_iconst (v := 0) hx hb dX3_gather_1 (by decide) ?_
  refine va_put (D := D) (ci := 3) (v := .int 0) (ty := .int) (C := RX3) (T := TX3) (N := 4) hx hb htb iX3 tyX3 tyX3_ok nmX3 hown hK.1 hP hD hS 0 rfl rfl 3 (by decide) (htb _ k_66) (fun _ h9 => h9) rfl (by decide +kernel) rfl rfl (Nat.le_of_ble_eq_true rfl) dX3_gather_2 (fun H locs hP hD hS => ?_)
  have hP : va_P D vwCl [(rh, .inr (3, G3 ra 0)), ((ra 0), .inl (E 0, 60, .inl rf0)), ((ra 1), .inl (E 0, 60, .inl rf1)), (wh, .inr (7, G7 wa)), ((wa 0), .inl (E 0, 400, .inl wf0)), ((wa 1), .inl (E 0, 400, .inl wf1)), ((wa 2), .inl (E 0, 400, .inl wf2)), (oh, .inr (2, G2 oa osize)), ((oa 0), .inl (E 0, 60, .inl of0)), ((oa 1), .inl (E 0, 60, .inl of1)), ((oa 2), .inl (E 0, 60, .inl of2)), ((oa 3), .inl (E 0, 60, .inl of3)), ((oa 4), .inl (E 0, 60, .inl of4))] H := hP
  have hD := toW hP hD rfl
  refine lv_aload_n hx hb dX3_gather_5 rfl (lv_at hl 1 rfl) ?_
  refine lv_ifnonnull (tgt := 10) hx hb dX3_gather_6 (by decide) ?_
  refine lv_aload_n hx hb dX3_gather_10 rfl (lv_at hl 1 rfl) ?_
  refine lv_iload_n hx hb dX3_gather_11 rfl (lv_at hl 3 rfl) ?_
  refine lv_aload_n hx hb dX3_gather_12 rfl (lv_at hl 2 rfl) ?_
  refine lv_iconst (v := (-1)) hx hb dX3_gather_13 (by decide) ?_
  refine callRV (rest := []) (As := [.int p2, .ref oh, .int (-1)]) hx hb hml hown htb hK (g_X7_errorAsKnown l D E wh wa wf0 wf1 oh oa osize of0 of1 of2 of3 of4 p2 (-1) (by (try dsimp only); omega)) ok_X7_errorAsKnown k_502 k_416 k_417 k_10 k_418 ⟨(Nat.le_of_ble_eq_true rfl), (Nat.le_of_ble_eq_true rfl)⟩ ⟨(Nat.le_of_ble_eq_true rfl), (Nat.le_of_ble_eq_true rfl)⟩ hl.1 (Nat.le_of_ble_eq_true rfl) rfl rfl dX3_gather_14 (hP.sub (ws' := [(wh, .inr (7, G7 wa)), ((wa 0), .inl (E 0, 400, .inl wf0)), ((wa 1), .inl (E 0, 400, .inl wf1)), (oh, .inr (2, G2 oa osize)), ((oa 0), .inl (E 0, 60, .inl of0)), ((oa 1), .inl (E 0, 60, .inl of1)), ((oa 2), .inl (E 0, 60, .inl of2)), ((oa 3), .inl (E 0, 60, .inl of3)), ((oa 4), .inl (E 0, 60, .inl of4))]) [3, 4, 5, 7, 8, 9, 10, 11, 12] rfl) rfl rfl 0 rfl (fun r_1 hw_2 => ?_)
  try simp only [t_m1] at hw_2
  refine lv_istore (lv' := [(5, .int r_1), (0, .ref rh), (1, .ref wh), (2, .ref oh), (3, .int p2), (4, .int p3)]) hx hb dX3_gather_17 hl (by decide) rfl (fun ls hl => ?_)
  refine lv_iload_n hx hb dX3_gather_19 rfl (lv_at hl 4 rfl) ?_
  refine lv_istore (lv' := [(6, .int p2), (5, .int r_1), (0, .ref rh), (1, .ref wh), (2, .ref oh), (3, .int p2), (4, .int p3)]) hx hb dX3_gather_20 hl (by decide) rfl (fun ls hl => ?_)
  have loop_4 : ∀ (N_6 : Nat) (L6_22 : Int32) (L5_22 : Int32) (rsize_22 : Int32) (rf0_22 : Nat → Int32) (rf1_22 : Nat → Int32) (H : Heap) (locs : List Loc) (ls : Array Slot), 400 - L6_22.toInt < (N_6 : Int) → (0 ≤ rsize_22.toInt ∧ rsize_22.toInt ≤ 60) → (∀ k : Nat, k < 60 → 0 ≤ (rf0_22 k).toInt ∧ (rf0_22 k).toInt ≤ 399) → (p2.toInt ≤ L6_22.toInt ∧ L6_22.toInt ≤ 400 ∧ (L6_22.toInt ≤ p3.toInt ∨ L6_22.toInt = p2.toInt) ∧ rsize_22.toInt ≤ L6_22.toInt - p2.toInt) → (HOLDS rf0_22 rf1_22 rsize_22 (rateL (rXn wf0 wf1 wf2 of0 of1 of2 of3 of4 osize) p2 (L6_22.toInt - p2.toInt).toNat)) → (L5_22 = eX wf0 wf1 of0 of1 of2 of3 of4 osize L6_22 (-1)) → va_P D vwCl [(rh, .inr (3, G3 ra rsize_22)), ((ra 0), .inl (E 0, 60, .inl rf0_22)), ((ra 1), .inl (E 0, 60, .inl rf1_22)), (wh, .inr (7, G7 wa)), ((wa 0), .inl (E 0, 400, .inl wf0)), ((wa 1), .inl (E 0, 400, .inl wf1)), ((wa 2), .inl (E 0, 400, .inl wf2)), (oh, .inr (2, G2 oa osize)), ((oa 0), .inl (E 0, 60, .inl of0)), ((oa 1), .inl (E 0, 60, .inl of1)), ((oa 2), .inl (E 0, 60, .inl of2)), ((oa 3), .inl (E 0, 60, .inl of3)), ((oa 4), .inl (E 0, 60, .inl of4))] H → va_D A [(rh, .inr (3, G3 ra rsize_22)), ((ra 0), .inl (E 0, 60, .inl rf0_22)), ((ra 1), .inl (E 0, 60, .inl rf1_22)), (wh, .inr (7, G7 wa)), ((wa 0), .inl (E 0, 400, .inl wf0)), ((wa 1), .inl (E 0, 400, .inl wf1)), ((wa 2), .inl (E 0, 400, .inl wf2)), (oh, .inr (2, G2 oa osize)), ((oa 0), .inl (E 0, 60, .inl of0)), ((oa 1), .inl (E 0, 60, .inl of1)), ((oa 2), .inl (E 0, 60, .inl of2)), ((oa 3), .inl (E 0, 60, .inl of3)), ((oa 4), .inl (E 0, 60, .inl of4))] → va_S A s.heap H locs → lv_has ls 9 [(6, .int L6_22), (5, .int L5_22), (0, .ref rh), (1, .ref wh), (2, .ref oh), (3, .int p2), (4, .int p3)] → W p l e (headSpec (wl yX3_gather cX3_gather 9 none) (RM 3 0 0)).room s m [Value.ref rh, .ref wh, .ref oh, .int p2, .int p3].toArray below meth c H locs 0 0 (MQ below (va_Qv (fun (u : (Nat → Int32) × (Nat → Int32) × (Int32)) => (∀ k : Nat, k < 60 → 0 ≤ (u.1 k).toInt ∧ (u.1 k).toInt ≤ 399) ∧ (0 ≤ u.2.2.toInt ∧ u.2.2.toInt ≤ 60) ∧ (HOLDS u.1 u.2.1 u.2.2 (rateL (rXn wf0 wf1 wf2 of0 of1 of2 of3 of4 osize) p2 (p3.toInt - p2.toInt).toNat))) (mu_B D A (fun (u : (Nat → Int32) × (Nat → Int32) × (Int32)) => [(rh, .inr (3, G3 ra u.2.2)), ((ra 0), .inl (E 0, 60, .inl u.1)), ((ra 1), .inl (E 0, 60, .inl u.2.1)), (wh, .inr (7, G7 wa)), ((wa 0), .inl (E 0, 400, .inl wf0)), ((wa 1), .inl (E 0, 400, .inl wf1)), ((wa 2), .inl (E 0, 400, .inl wf2)), (oh, .inr (2, G2 oa osize)), ((oa 0), .inl (E 0, 60, .inl of0)), ((oa 1), .inl (E 0, 60, .inl of1)), ((oa 2), .inl (E 0, 60, .inl of2)), ((oa 3), .inl (E 0, 60, .inl of3)), ((oa 4), .inl (E 0, 60, .inl of4))])) A) [Value.ref rh, .ref wh, .ref oh, .int p2, .int p3].toArray s 0 0 A) (F0 m 22 ls []) := by
    intro N_6
    induction N_6 with
    | zero => intro L6_22 L5_22 rsize_22 rf0_22 rf1_22 H locs ls hm v_rsize_22 v_rf0_22 v0_22 v1_22 v2_22 _ _ _ _; exfalso; omega
    | succ N_6 ih_5 =>
      intro L6_22 L5_22 rsize_22 rf0_22 rf1_22 H locs ls hm v_rsize_22 v_rf0_22 v0_22 v1_22 v2_22 hP hD hS hl
      have lo_L6_22 := i_lo L6_22; have hi_L6_22 := i_hi L6_22
      have lo_L5_22 := i_lo L5_22; have hi_L5_22 := i_hi L5_22
      have lo_rsize_22 := i_lo rsize_22; have hi_rsize_22 := i_hi rsize_22
      refine lv_iload hx hb dX3_gather_22 (lv_at hl 0 rfl) ?_
      refine lv_iload hx hb dX3_gather_24 (lv_at hl 6 rfl) ?_
      refine lv_icmp_ge (tgt := 111) hx hb dX3_gather_26 (by decide) (fun c_7 => ?_) (fun c_7 => ?_)
      ·
        have ic_7 : p3.toInt ≤ L6_22.toInt := by first | exact (g_le rfl rfl).mp c_7 | (have h := mt (g_lt rfl rfl).mpr c_7; omega)
        clear c_7
        have hP9 := hP.sub (ws' := [(rh, .inr (3, G3 ra rsize_22)), ((ra 0), .inl (E 0, 60, .inl rf0_22)), ((ra 1), .inl (E 0, 60, .inl rf1_22)), (wh, .inr (7, G7 wa)), ((wa 0), .inl (E 0, 400, .inl wf0)), ((wa 1), .inl (E 0, 400, .inl wf1)), ((wa 2), .inl (E 0, 400, .inl wf2)), (oh, .inr (2, G2 oa osize)), ((oa 0), .inl (E 0, 60, .inl of0)), ((oa 1), .inl (E 0, 60, .inl of1)), ((oa 2), .inl (E 0, 60, .inl of2)), ((oa 3), .inl (E 0, 60, .inl of3)), ((oa 4), .inl (E 0, 60, .inl of4))]) [0, 1, 2, 3, 4, 5, 6, 7, 8, 9, 10, 11, 12] rfl
        have hD9 := hD.sub (ws' := [(rh, .inr (3, G3 ra rsize_22)), ((ra 0), .inl (E 0, 60, .inl rf0_22)), ((ra 1), .inl (E 0, 60, .inl rf1_22)), (wh, .inr (7, G7 wa)), ((wa 0), .inl (E 0, 400, .inl wf0)), ((wa 1), .inl (E 0, 400, .inl wf1)), ((wa 2), .inl (E 0, 400, .inl wf2)), (oh, .inr (2, G2 oa osize)), ((oa 0), .inl (E 0, 60, .inl of0)), ((oa 1), .inl (E 0, 60, .inl of1)), ((oa 2), .inl (E 0, 60, .inl of2)), ((oa 3), .inl (E 0, 60, .inl of3)), ((oa 4), .inl (E 0, 60, .inl of4))]) [0, 1, 2, 3, 4, 5, 6, 7, 8, 9, 10, 11, 12] (by decide) rfl
        exact W.vret hx hb hr (fun t ht hW => ⟨⟨(rf0_22, rf1_22, rsize_22), rfl, ⟨v_rf0_22, (by (try dsimp only); omega), (by have h9 := v1_22; rw [show (L6_22.toInt - p2.toInt).toNat = (p3.toInt - p2.toInt).toNat by omega] at h9; exact h9)⟩, by rw [ht]; exact hP9, hD9⟩, hS.F ht⟩) hS.2.2 dX3_gather_111
      ·
        have ic_7 : L6_22.toInt < p3.toInt := by first | exact (g_lt rfl rfl).mp c_7 | (have h := mt (g_le rfl rfl).mpr c_7; omega)
        clear c_7
        refine lv_aload_n hx hb dX3_gather_29 rfl (lv_at hl 2 rfl) ?_
        refine va_get (D := D) (ci := 3) (v := .int rsize_22) (C := RX3) (T := TX3) (N := 4) hx hb htb iX3 hown hK.1 hP 0 rfl rfl 3 (by decide) (htb _ k_66) (fun _ h9 => h9) rfl dX3_gather_30 ?_
        refine lv_bipush (v := 60) hx hb dX3_gather_33 (by decide) ?_
        refine lv_icmp_ge (tgt := 111) hx hb dX3_gather_35 (by decide) (fun c_8 => ?_) (fun c_8 => ?_)
        ·
          have ic_8 : 60 ≤ rsize_22.toInt := by first | exact (g_le t_60 rfl).mp c_8 | (have h := mt (g_lt rfl t_60).mpr c_8; omega)
          clear c_8
          have hP9 := hP.sub (ws' := [(rh, .inr (3, G3 ra rsize_22)), ((ra 0), .inl (E 0, 60, .inl rf0_22)), ((ra 1), .inl (E 0, 60, .inl rf1_22)), (wh, .inr (7, G7 wa)), ((wa 0), .inl (E 0, 400, .inl wf0)), ((wa 1), .inl (E 0, 400, .inl wf1)), ((wa 2), .inl (E 0, 400, .inl wf2)), (oh, .inr (2, G2 oa osize)), ((oa 0), .inl (E 0, 60, .inl of0)), ((oa 1), .inl (E 0, 60, .inl of1)), ((oa 2), .inl (E 0, 60, .inl of2)), ((oa 3), .inl (E 0, 60, .inl of3)), ((oa 4), .inl (E 0, 60, .inl of4))]) [0, 1, 2, 3, 4, 5, 6, 7, 8, 9, 10, 11, 12] rfl
          have hD9 := hD.sub (ws' := [(rh, .inr (3, G3 ra rsize_22)), ((ra 0), .inl (E 0, 60, .inl rf0_22)), ((ra 1), .inl (E 0, 60, .inl rf1_22)), (wh, .inr (7, G7 wa)), ((wa 0), .inl (E 0, 400, .inl wf0)), ((wa 1), .inl (E 0, 400, .inl wf1)), ((wa 2), .inl (E 0, 400, .inl wf2)), (oh, .inr (2, G2 oa osize)), ((oa 0), .inl (E 0, 60, .inl of0)), ((oa 1), .inl (E 0, 60, .inl of1)), ((oa 2), .inl (E 0, 60, .inl of2)), ((oa 3), .inl (E 0, 60, .inl of3)), ((oa 4), .inl (E 0, 60, .inl of4))]) [0, 1, 2, 3, 4, 5, 6, 7, 8, 9, 10, 11, 12] (by decide) rfl
          exact W.vret hx hb hr (fun t ht hW => ⟨⟨(rf0_22, rf1_22, rsize_22), rfl, ⟨v_rf0_22, (by (try dsimp only); omega), (by have h9 := v1_22; rw [show (L6_22.toInt - p2.toInt).toNat = (p3.toInt - p2.toInt).toNat by omega] at h9; exact h9)⟩, by rw [ht]; exact hP9, hD9⟩, hS.F ht⟩) hS.2.2 dX3_gather_111
        ·
          have ic_8 : rsize_22.toInt < 60 := by first | exact (g_lt rfl t_60).mp c_8 | (have h := mt (g_le t_60 rfl).mpr c_8; omega)
          clear c_8
          refine lv_aload_n hx hb dX3_gather_38 rfl (lv_at hl 3 rfl) ?_
          refine lv_iload hx hb dX3_gather_39 (lv_at hl 0 rfl) ?_
          refine lv_iconst (v := 1) hx hb dX3_gather_41 (by decide) ?_
          refine lv_iadd hx hb dX3_gather_42 ?_
          refine lv_topi (fun z_9 ez_9 => ?_)
          have jz_9 : z_9.toInt = L6_22.toInt + 1 := by rw [ez_9]; exact g_add rfl t_1 (by omega) (by omega)
          refine lv_aload_n hx hb dX3_gather_43 rfl (lv_at hl 4 rfl) ?_
          refine lv_iconst (v := (-1)) hx hb dX3_gather_44 (by decide) ?_
          refine callRV (rest := []) (As := [.int z_9, .ref oh, .int (-1)]) hx hb hml hown htb hK (g_X7_errorAsKnown l D E wh wa wf0 wf1 oh oa osize of0 of1 of2 of3 of4 z_9 (-1) (by (try dsimp only); omega)) ok_X7_errorAsKnown k_502 k_416 k_417 k_10 k_418 ⟨(Nat.le_of_ble_eq_true rfl), (Nat.le_of_ble_eq_true rfl)⟩ ⟨(Nat.le_of_ble_eq_true rfl), (Nat.le_of_ble_eq_true rfl)⟩ hl.1 (Nat.le_of_ble_eq_true rfl) rfl rfl dX3_gather_45 (hP.sub (ws' := [(wh, .inr (7, G7 wa)), ((wa 0), .inl (E 0, 400, .inl wf0)), ((wa 1), .inl (E 0, 400, .inl wf1)), (oh, .inr (2, G2 oa osize)), ((oa 0), .inl (E 0, 60, .inl of0)), ((oa 1), .inl (E 0, 60, .inl of1)), ((oa 2), .inl (E 0, 60, .inl of2)), ((oa 3), .inl (E 0, 60, .inl of3)), ((oa 4), .inl (E 0, 60, .inl of4))]) [3, 4, 5, 7, 8, 9, 10, 11, 12] rfl) rfl rfl 0 rfl (fun r_10 hw_11 => ?_)
          try simp only [t_m1] at hw_11
          refine lv_istore (lv' := [(7, .int r_10), (6, .int L6_22), (5, .int L5_22), (0, .ref rh), (1, .ref wh), (2, .ref oh), (3, .int p2), (4, .int p3)]) hx hb dX3_gather_48 hl (by decide) rfl (fun ls hl => ?_)
          refine lv_aload_n hx hb dX3_gather_50 rfl (lv_at hl 4 rfl) ?_
          refine lv_iload hx hb dX3_gather_51 (lv_at hl 1 rfl) ?_
          refine lv_iload hx hb dX3_gather_53 (lv_at hl 2 rfl) ?_
          refine lv_iload hx hb dX3_gather_55 (lv_at hl 0 rfl) ?_
          refine callRV (rest := []) (As := [.int L6_22, .int L5_22, .int r_10]) hx hb hml hown htb hK (g_X7_rateBetween l D E wh wa wf2 L6_22 L5_22 r_10 (by (try dsimp only); omega)) ok_X7_rateBetween k_503 k_435 k_436 k_10 k_437 ⟨(Nat.le_of_ble_eq_true rfl), (Nat.le_of_ble_eq_true rfl)⟩ ⟨(Nat.le_of_ble_eq_true rfl), (Nat.le_of_ble_eq_true rfl)⟩ hl.1 (Nat.le_of_ble_eq_true rfl) rfl rfl dX3_gather_57 (hP.sub (ws' := [(wh, .inr (7, G7 wa)), ((wa 2), .inl (E 0, 400, .inl wf2))]) [3, 6] rfl) rfl rfl 0 rfl (fun r_13 hw_14 => ?_)
          refine lv_istore (lv' := [(8, .int r_13), (7, .int r_10), (6, .int L6_22), (5, .int L5_22), (0, .ref rh), (1, .ref wh), (2, .ref oh), (3, .int p2), (4, .int p3)]) hx hb dX3_gather_60 hl (by decide) rfl (fun ls hl => ?_)
          refine lv_iload hx hb dX3_gather_62 (lv_at hl 0 rfl) ?_
          refine lv_ldc hx hb hown (htb _ k_504) dX3_gather_64 ?_
          refine lv_icmp_eq (tgt := 101) hx hb dX3_gather_66 (by decide) (fun c_16 => ?_) (fun c_16 => ?_)
          ·
            have ic_16 : r_13.toInt = -2000000000 := (g_eq rfl t_m2000000000).mp c_16
            clear c_16
            refine lv_iload hx hb dX3_gather_101 (lv_at hl 1 rfl) ?_
            refine lv_istore (lv' := [(5, .int r_10), (8, .int r_13), (7, .int r_10), (6, .int L6_22), (0, .ref rh), (1, .ref wh), (2, .ref oh), (3, .int p2), (4, .int p3)]) hx hb dX3_gather_103 hl (by decide) rfl (fun ls hl => ?_)
            obtain ⟨z_17, ez_17⟩ : ∃ y : Int32, y = L6_22 + 1 := ⟨_, rfl⟩
            have jz_17 : z_17.toInt = L6_22.toInt + 1 := by rw [ez_17]; exact g_add rfl t_1 (by omega) (by omega)
            refine lv_iinc (v := z_17) (lv' := [(6, .int z_17), (5, .int r_10), (8, .int r_13), (7, .int r_10), (0, .ref rh), (1, .ref wh), (2, .ref oh), (3, .int p2), (4, .int p3)]) hx hb dX3_gather_105 hl (k := 3) rfl (by rw [ez_17]; rfl) (by decide) rfl (fun ls hl => ?_)
            refine lv_goto (tgt := 22) hx hb dX3_gather_108 (by decide) ?_
            exact ih_5 z_17 r_10 rsize_22 rf0_22 rf1_22 _ _ _ (by (try dsimp only); omega) (by (try dsimp only); omega) v_rf0_22 (by (try dsimp only); omega) (by subst ez_9; have hs := rate_step (R := (rXn wf0 wf1 wf2 of0 of1 of2 of3 of4 osize)) (p := p2) (L := L6_22) (z := z_17) (by omega) (by omega) jz_17; have hR : (rXn wf0 wf1 wf2 of0 of1 of2 of3 of4 osize) L6_22 = r_13 := (by unfold rXn rX; rw [← v2_22, ← hw_11, ← hw_14]); rw [hs, hR, if_pos (by omega)]; exact v1_22) (by rw [hw_11]; congr 1; subst_vars; rfl) hP hD hS (lv_sub hl [0, 1, 4, 5, 6, 7, 8] rfl)
          ·
            have ic_16 : r_13.toInt ≠ -2000000000 := mt (g_eq rfl t_m2000000000).mpr c_16
            clear c_16
            refine lv_aload_n hx hb dX3_gather_69 rfl (lv_at hl 4 rfl) ?_
            refine va_get (D := D) (ci := 3) (v := .ref (ra 0)) (C := RX3) (T := TX3) (N := 4) hx hb htb iX3 hown hK.1 hP 0 rfl rfl 0 (by decide) (htb _ k_61) (fun _ h9 => h9) rfl dX3_gather_70 ?_
            refine lv_aload_n hx hb dX3_gather_73 rfl (lv_at hl 4 rfl) ?_
            refine va_get (D := D) (ci := 3) (v := .int rsize_22) (C := RX3) (T := TX3) (N := 4) hx hb htb iX3 hown hK.1 hP 0 rfl rfl 3 (by decide) (htb _ k_66) (fun _ h9 => h9) rfl dX3_gather_74 ?_
            refine lv_iload hx hb dX3_gather_77 (lv_at hl 2 rfl) ?_
            refine va_iast hx hb hK.1 hP hD hS 1 0 rfl rfl (g_in rfl (by omega) (by omega)) dX3_gather_79 (fun H locs hP hD hS => ?_)
            have hP : va_P D vwCl [(rh, .inr (3, G3 ra rsize_22)), ((ra 0), .inl (E 0, 60, .inl (upd rf0_22 (rsize_22 : Int32).toNatClampNeg L6_22))), ((ra 1), .inl (E 0, 60, .inl rf1_22)), (wh, .inr (7, G7 wa)), ((wa 0), .inl (E 0, 400, .inl wf0)), ((wa 1), .inl (E 0, 400, .inl wf1)), ((wa 2), .inl (E 0, 400, .inl wf2)), (oh, .inr (2, G2 oa osize)), ((oa 0), .inl (E 0, 60, .inl of0)), ((oa 1), .inl (E 0, 60, .inl of1)), ((oa 2), .inl (E 0, 60, .inl of2)), ((oa 3), .inl (E 0, 60, .inl of3)), ((oa 4), .inl (E 0, 60, .inl of4))] H := hP
            have hD := toW hP hD rfl
            have hv_18 : ∀ k : Nat, k < 60 → 0 ≤ ((upd rf0_22 (rsize_22 : Int32).toNatClampNeg L6_22) k).toInt ∧ ((upd rf0_22 (rsize_22 : Int32).toNatClampNeg L6_22) k).toInt ≤ 399 := upd_r v_rf0_22 (by (try dsimp only); omega)
            refine lv_aload_n hx hb dX3_gather_80 rfl (lv_at hl 4 rfl) ?_
            refine va_get (D := D) (ci := 3) (v := .ref (ra 1)) (C := RX3) (T := TX3) (N := 4) hx hb htb iX3 hown hK.1 hP 0 rfl rfl 1 (by decide) (htb _ k_63) (fun _ h9 => h9) rfl dX3_gather_81 ?_
            refine lv_aload_n hx hb dX3_gather_84 rfl (lv_at hl 4 rfl) ?_
            refine va_get (D := D) (ci := 3) (v := .int rsize_22) (C := RX3) (T := TX3) (N := 4) hx hb htb iX3 hown hK.1 hP 0 rfl rfl 3 (by decide) (htb _ k_66) (fun _ h9 => h9) rfl dX3_gather_85 ?_
            refine lv_iload hx hb dX3_gather_88 (lv_at hl 0 rfl) ?_
            refine va_iast hx hb hK.1 hP hD hS 2 0 rfl rfl (g_in rfl (by omega) (by omega)) dX3_gather_90 (fun H locs hP hD hS => ?_)
            have hP : va_P D vwCl [(rh, .inr (3, G3 ra rsize_22)), ((ra 0), .inl (E 0, 60, .inl (upd rf0_22 (rsize_22 : Int32).toNatClampNeg L6_22))), ((ra 1), .inl (E 0, 60, .inl (upd rf1_22 (rsize_22 : Int32).toNatClampNeg r_13))), (wh, .inr (7, G7 wa)), ((wa 0), .inl (E 0, 400, .inl wf0)), ((wa 1), .inl (E 0, 400, .inl wf1)), ((wa 2), .inl (E 0, 400, .inl wf2)), (oh, .inr (2, G2 oa osize)), ((oa 0), .inl (E 0, 60, .inl of0)), ((oa 1), .inl (E 0, 60, .inl of1)), ((oa 2), .inl (E 0, 60, .inl of2)), ((oa 3), .inl (E 0, 60, .inl of3)), ((oa 4), .inl (E 0, 60, .inl of4))] H := hP
            have hD := toW hP hD rfl
            refine lv_aload_n hx hb dX3_gather_91 rfl (lv_at hl 4 rfl) ?_
            refine lv_dup hx hb dX3_gather_92 rfl ?_
            refine va_get (D := D) (ci := 3) (v := .int rsize_22) (C := RX3) (T := TX3) (N := 4) hx hb htb iX3 hown hK.1 hP 0 rfl rfl 3 (by decide) (htb _ k_66) (fun _ h9 => h9) rfl dX3_gather_93 ?_
            refine lv_iconst (v := 1) hx hb dX3_gather_96 (by decide) ?_
            refine lv_iadd hx hb dX3_gather_97 ?_
            refine lv_topi (fun z_19 ez_19 => ?_)
            have jz_19 : z_19.toInt = rsize_22.toInt + 1 := by rw [ez_19]; exact g_add rfl t_1 (by omega) (by omega)
            refine va_put (D := D) (ci := 3) (v := .int z_19) (ty := .int) (C := RX3) (T := TX3) (N := 4) hx hb htb iX3 tyX3 tyX3_ok nmX3 hown hK.1 hP hD hS 0 rfl rfl 3 (by decide) (htb _ k_66) (fun _ h9 => h9) rfl (by decide +kernel) rfl rfl (Nat.le_of_ble_eq_true rfl) dX3_gather_98 (fun H locs hP hD hS => ?_)
            have hP : va_P D vwCl [(rh, .inr (3, G3 ra z_19)), ((ra 0), .inl (E 0, 60, .inl (upd rf0_22 (rsize_22 : Int32).toNatClampNeg L6_22))), ((ra 1), .inl (E 0, 60, .inl (upd rf1_22 (rsize_22 : Int32).toNatClampNeg r_13))), (wh, .inr (7, G7 wa)), ((wa 0), .inl (E 0, 400, .inl wf0)), ((wa 1), .inl (E 0, 400, .inl wf1)), ((wa 2), .inl (E 0, 400, .inl wf2)), (oh, .inr (2, G2 oa osize)), ((oa 0), .inl (E 0, 60, .inl of0)), ((oa 1), .inl (E 0, 60, .inl of1)), ((oa 2), .inl (E 0, 60, .inl of2)), ((oa 3), .inl (E 0, 60, .inl of3)), ((oa 4), .inl (E 0, 60, .inl of4))] H := hP
            have hD := toW hP hD rfl
            refine lv_iload hx hb dX3_gather_101 (lv_at hl 1 rfl) ?_
            refine lv_istore (lv' := [(5, .int r_10), (8, .int r_13), (7, .int r_10), (6, .int L6_22), (0, .ref rh), (1, .ref wh), (2, .ref oh), (3, .int p2), (4, .int p3)]) hx hb dX3_gather_103 hl (by decide) rfl (fun ls hl => ?_)
            obtain ⟨z_20, ez_20⟩ : ∃ y : Int32, y = L6_22 + 1 := ⟨_, rfl⟩
            have jz_20 : z_20.toInt = L6_22.toInt + 1 := by rw [ez_20]; exact g_add rfl t_1 (by omega) (by omega)
            refine lv_iinc (v := z_20) (lv' := [(6, .int z_20), (5, .int r_10), (8, .int r_13), (7, .int r_10), (0, .ref rh), (1, .ref wh), (2, .ref oh), (3, .int p2), (4, .int p3)]) hx hb dX3_gather_105 hl (k := 3) rfl (by rw [ez_20]; rfl) (by decide) rfl (fun ls hl => ?_)
            refine lv_goto (tgt := 22) hx hb dX3_gather_108 (by decide) ?_
            exact ih_5 z_20 r_10 z_19 (upd rf0_22 (rsize_22 : Int32).toNatClampNeg L6_22) (upd rf1_22 (rsize_22 : Int32).toNatClampNeg r_13) _ _ _ (by (try dsimp only); omega) (by (try dsimp only); omega) hv_18 (by (try dsimp only); omega) (by subst ez_9; have hs := rate_step (R := (rXn wf0 wf1 wf2 of0 of1 of2 of3 of4 osize)) (p := p2) (L := L6_22) (z := z_20) (by omega) (by omega) jz_20; have hR : (rXn wf0 wf1 wf2 of0 of1 of2 of3 of4 osize) L6_22 = r_13 := (by unfold rXn rX; rw [← v2_22, ← hw_11, ← hw_14]); rw [hs, hR, if_neg (by omega)]; exact HOLDS_s v1_22 (by omega) (by omega)) (by rw [hw_11]; congr 1; subst_vars; rfl) hP hD hS (lv_sub hl [0, 1, 4, 5, 6, 7, 8] rfl)
  exact loop_4 401 p2 r_1 0 rf0 rf1 _ _ _ (by have h0 := t_0; (try dsimp only); omega) (by have h0 := t_0; (try dsimp only); omega) hr_r0 (by have h0 := t_0; (try dsimp only); omega) (by rw [show (p2.toInt - p2.toInt).toNat = 0 by omega]; exact HOLDS_0 (by decide)) hw_2 hP hD hS (lv_sub hl [0, 1, 2, 3, 4, 5, 6] rfl)
end
section
set_option maxHeartbeats 4000000 in
set_option maxRecDepth 100000 in
theorem g_X5_leave (l : Launch) (D : va_G) (E : Nat → Nat) (yh : Nat) (ya : Nat → Nat) (ysights : Int32) (ystage : Int32) (ysailed : Int32) (yvoyage : Int32) (p0 : Int32) (sz : Nat) (hi_y : (0 ≤ ysights.toInt ∧ ysights.toInt ≤ 40)) : Met l yX5_leave (wl yX5_leave cX5_leave 2 none) (RM 0 0 0) (mu_P D E [.ref yh, .int p0] [(yh, .inr (5, G5 ya ysights ystage ysailed yvoyage))] sz) (va_Qv (fun (u : (Int32) × (Int32) × (Int32)) => (0 ≤ u.2.1.toInt ∧ u.2.1.toInt ≤ 40) ∧ (u.2.2.toInt = 1 ∧ u.1 = p0 ∧ u.2.1.toInt = 0)) (mu_B D (va_A [(yh, .inr (5, G5 ya ysights ystage ysailed yvoyage))] sz) (fun (u : (Int32) × (Int32) × (Int32)) => [(yh, .inr (5, G5 ya u.2.1 u.2.2 u.1 yvoyage))])) (va_A [(yh, .inr (5, G5 ya ysights ystage ysailed yvoyage))] sz)) 0 0 (va_A [(yh, .inr (5, G5 ya ysights ystage ysailed yvoyage))] sz) := by
  refine Met.ofW (cc := cX5_leave) (maxL := 2) (ret := none) (by decide) rfl ?_
  intro p e s m args below meth c s₁ B hml hv
  obtain ⟨rfl, hsz, hP, hK, hD0⟩ := hv
  have hx := B.exec; have hb := B.bytes; have hr := B.returns
  have hts := atoms_spec (ws := wl yX5_leave cX5_leave 2 none) B.pre
  have htb : ∀ w ∈ tb, w.before _ s = true := fun w h => hts w (List.mem_cons_of_mem _ h)
  have hown : s.vm.findClass RX5 = some m.cls := findClass_of_methodNamed B.named
  have hlocks := B.notSynchronized
  subst hsz
  have hD := hD0.self (sz := s.heap.size)
  generalize hAe : va_A [(yh, .inr (5, G5 ya ysights ystage ysailed yvoyage))] s.heap.size = A at hD ⊢
  have hA : ∀ q : Nat, s.heap.size ≤ q → A q := fun q h => by rw [← hAe]; exact Or.inr h
  have hS : va_S A s.heap s.heap [] := va_S.rf
  have hP : va_P D vwCl [(yh, .inr (5, G5 ya ysights ystage ysailed yvoyage))] s.heap := hP
  have hl := lv_entry ([.ref yh, .int p0]) (n := 2) (Nat.le_of_ble_eq_true rfl)
  rw [lg_entry_eq]
  generalize (lg_sl ([.ref yh, .int p0]) ++ List.replicate (2 - (lg_sl ([.ref yh, .int p0])).length) Slot.unset).toArray = ls at hl ⊢
  have hl : lv_has ls 2 [(0, .ref yh), (1, .int p0)] := hl
  have lo_p0 := i_lo p0; have hi_p0 := i_hi p0
  refine lv_aload_n hx hb dX5_leave_0 rfl (lv_at hl 0 rfl) ?_
  refine lv_iconst (v := 1) hx hb dX5_leave_1 (by decide) ?_
  refine va_put (D := D) (ci := 5) (v := .int 1) (ty := .int) (C := RX5) (T := TX5) (N := 11) hx hb htb iX5 tyX5 tyX5_ok nmX5 hown hK.1 hP hD hS 0 rfl rfl 8 (by decide) (htb _ k_243) (fun _ h9 => h9) rfl (by decide +kernel) rfl rfl (Nat.le_of_ble_eq_true rfl) dX5_leave_2 (fun H locs hP hD hS => ?_)
  have hP : va_P D vwCl [(yh, .inr (5, G5 ya ysights 1 ysailed yvoyage))] H := hP
  have hD := toW hP hD rfl
  refine lv_aload_n hx hb dX5_leave_5 rfl (lv_at hl 0 rfl) ?_
  refine lv_iload_n hx hb dX5_leave_6 rfl (lv_at hl 1 rfl) ?_
  refine va_put (D := D) (ci := 5) (v := .int p0) (ty := .int) (C := RX5) (T := TX5) (N := 11) hx hb htb iX5 tyX5 tyX5_ok nmX5 hown hK.1 hP hD hS 0 rfl rfl 9 (by decide) (htb _ k_245) (fun _ h9 => h9) rfl (by decide +kernel) rfl rfl (Nat.le_of_ble_eq_true rfl) dX5_leave_7 (fun H locs hP hD hS => ?_)
  have hP : va_P D vwCl [(yh, .inr (5, G5 ya ysights 1 p0 yvoyage))] H := hP
  have hD := toW hP hD rfl
  refine lv_aload_n hx hb dX5_leave_10 rfl (lv_at hl 0 rfl) ?_
  refine lv_iconst (v := 0) hx hb dX5_leave_11 (by decide) ?_
  refine va_put (D := D) (ci := 5) (v := .int 0) (ty := .int) (C := RX5) (T := TX5) (N := 11) hx hb htb iX5 tyX5 tyX5_ok nmX5 hown hK.1 hP hD hS 0 rfl rfl 7 (by decide) (htb _ k_241) (fun _ h9 => h9) rfl (by decide +kernel) rfl rfl (Nat.le_of_ble_eq_true rfl) dX5_leave_12 (fun H locs hP hD hS => ?_)
  have hP : va_P D vwCl [(yh, .inr (5, G5 ya 0 1 p0 yvoyage))] H := hP
  have hD := toW hP hD rfl
  have hP9 := hP.sub (ws' := [(yh, .inr (5, G5 ya 0 1 p0 yvoyage))]) [0] rfl
  have hD9 := hD.sub (ws' := [(yh, .inr (5, G5 ya 0 1 p0 yvoyage))]) [0] (by decide) rfl
  exact W.vret hx hb hr (fun t ht hW => ⟨⟨(p0, (0 : Int32), (1 : Int32)), rfl, ⟨(by have h0 := t_0; (try dsimp only); omega), (by have h0 := t_0; have h1 := t_1; (try dsimp only); exact ⟨by omega, rfl, by omega⟩)⟩, by rw [ht]; exact hP9, hD9⟩, hS.F ht⟩) hS.2.2 dX5_leave_15
set_option maxHeartbeats 4000000 in
set_option maxRecDepth 100000 in
theorem g_X5_carry (l : Launch) (D : va_G) (E : Nat → Nat) (yh : Nat) (ya : Nat → Nat) (ysights : Int32) (ystage : Int32) (ysailed : Int32) (yvoyage : Int32) (yf0 : Nat → Int32) (yf1 : Nat → Int32) (yf2 : Nat → Int32) (yf3 : Nat → Int32) (p0 : Int32) (p1 : Int32) (p2 : Int32) (p3 : Int32) (p4 : Int32) (sz : Nat) (hi_y : (0 ≤ ysights.toInt ∧ ysights.toInt ≤ 40)) : Met l yX5_carry (wl yX5_carry cX5_carry 6 none) (RM 0 0 0) (mu_P D E [.ref yh, .int p0, .int p1, .int p2, .int p3, .int p4] [(yh, .inr (5, G5 ya ysights ystage ysailed yvoyage)), ((ya 0), .inl (E 0, 3, .inl yf0)), ((ya 1), .inl (E 0, 3, .inl yf1)), ((ya 2), .inl (E 0, 3, .inl yf2)), ((ya 3), .inl (E 0, 3, .inl yf3))] sz) (va_Qv (fun (u : (Nat → Int32) × (Nat → Int32) × (Nat → Int32) × (Nat → Int32)) => (((0 ≤ p0.toInt ∧ p0.toInt ≤ 2) ∧ u.1 = upd yf0 (p0).toNatClampNeg p1 ∧ u.2.1 = upd yf1 (p0).toNatClampNeg p2 ∧ u.2.2.1 = upd yf2 (p0).toNatClampNeg p3 ∧ u.2.2.2 = upd yf3 (p0).toNatClampNeg p4) ∨ (¬ (0 ≤ p0.toInt ∧ p0.toInt ≤ 2) ∧ u.1 = yf0 ∧ u.2.1 = yf1 ∧ u.2.2.1 = yf2 ∧ u.2.2.2 = yf3))) (mu_B D (va_A [(yh, .inr (5, G5 ya ysights ystage ysailed yvoyage)), ((ya 0), .inl (E 0, 3, .inl yf0)), ((ya 1), .inl (E 0, 3, .inl yf1)), ((ya 2), .inl (E 0, 3, .inl yf2)), ((ya 3), .inl (E 0, 3, .inl yf3))] sz) (fun (u : (Nat → Int32) × (Nat → Int32) × (Nat → Int32) × (Nat → Int32)) => [(yh, .inr (5, G5 ya ysights ystage ysailed yvoyage)), ((ya 0), .inl (E 0, 3, .inl u.1)), ((ya 1), .inl (E 0, 3, .inl u.2.1)), ((ya 2), .inl (E 0, 3, .inl u.2.2.1)), ((ya 3), .inl (E 0, 3, .inl u.2.2.2))])) (va_A [(yh, .inr (5, G5 ya ysights ystage ysailed yvoyage)), ((ya 0), .inl (E 0, 3, .inl yf0)), ((ya 1), .inl (E 0, 3, .inl yf1)), ((ya 2), .inl (E 0, 3, .inl yf2)), ((ya 3), .inl (E 0, 3, .inl yf3))] sz)) 0 0 (va_A [(yh, .inr (5, G5 ya ysights ystage ysailed yvoyage)), ((ya 0), .inl (E 0, 3, .inl yf0)), ((ya 1), .inl (E 0, 3, .inl yf1)), ((ya 2), .inl (E 0, 3, .inl yf2)), ((ya 3), .inl (E 0, 3, .inl yf3))] sz) := by
  refine Met.ofW (cc := cX5_carry) (maxL := 6) (ret := none) (by decide) rfl ?_
  intro p e s m args below meth c s₁ B hml hv
  obtain ⟨rfl, hsz, hP, hK, hD0⟩ := hv
  have hx := B.exec; have hb := B.bytes; have hr := B.returns
  have hts := atoms_spec (ws := wl yX5_carry cX5_carry 6 none) B.pre
  have htb : ∀ w ∈ tb, w.before _ s = true := fun w h => hts w (List.mem_cons_of_mem _ h)
  have hown : s.vm.findClass RX5 = some m.cls := findClass_of_methodNamed B.named
  have hlocks := B.notSynchronized
  subst hsz
  have hD := hD0.self (sz := s.heap.size)
  generalize hAe : va_A [(yh, .inr (5, G5 ya ysights ystage ysailed yvoyage)), ((ya 0), .inl (E 0, 3, .inl yf0)), ((ya 1), .inl (E 0, 3, .inl yf1)), ((ya 2), .inl (E 0, 3, .inl yf2)), ((ya 3), .inl (E 0, 3, .inl yf3))] s.heap.size = A at hD ⊢
  have hA : ∀ q : Nat, s.heap.size ≤ q → A q := fun q h => by rw [← hAe]; exact Or.inr h
  have hS : va_S A s.heap s.heap [] := va_S.rf
  have hP : va_P D vwCl [(yh, .inr (5, G5 ya ysights ystage ysailed yvoyage)), ((ya 0), .inl (E 0, 3, .inl yf0)), ((ya 1), .inl (E 0, 3, .inl yf1)), ((ya 2), .inl (E 0, 3, .inl yf2)), ((ya 3), .inl (E 0, 3, .inl yf3))] s.heap := hP
  have hl := lv_entry ([.ref yh, .int p0, .int p1, .int p2, .int p3, .int p4]) (n := 6) (Nat.le_of_ble_eq_true rfl)
  rw [lg_entry_eq]
  generalize (lg_sl ([.ref yh, .int p0, .int p1, .int p2, .int p3, .int p4]) ++ List.replicate (6 - (lg_sl ([.ref yh, .int p0, .int p1, .int p2, .int p3, .int p4])).length) Slot.unset).toArray = ls at hl ⊢
  have hl : lv_has ls 6 [(0, .ref yh), (1, .int p0), (2, .int p1), (3, .int p2), (4, .int p3), (5, .int p4)] := hl
  have lo_p0 := i_lo p0; have hi_p0 := i_hi p0
  have lo_p1 := i_lo p1; have hi_p1 := i_hi p1
  have lo_p2 := i_lo p2; have hi_p2 := i_hi p2
  have lo_p3 := i_lo p3; have hi_p3 := i_hi p3
  have lo_p4 := i_lo p4; have hi_p4 := i_hi p4
  refine lv_iload_n hx hb dX5_carry_0 rfl (lv_at hl 1 rfl) ?_
  refine lv_if_lt (tgt := 9) hx hb dX5_carry_1 (by decide) (fun c_1 => ?_) (fun c_1 => ?_)
  ·
    have ic_1 : p0.toInt < 0 := by first | exact (g_lt rfl t_0).mp c_1 | (have h := mt (g_le t_0 rfl).mpr c_1; omega)
    clear c_1
    have hP9 := hP.sub (ws' := [(yh, .inr (5, G5 ya ysights ystage ysailed yvoyage)), ((ya 0), .inl (E 0, 3, .inl yf0)), ((ya 1), .inl (E 0, 3, .inl yf1)), ((ya 2), .inl (E 0, 3, .inl yf2)), ((ya 3), .inl (E 0, 3, .inl yf3))]) [0, 1, 2, 3, 4] rfl
    have hD9 := hD.sub (ws' := [(yh, .inr (5, G5 ya ysights ystage ysailed yvoyage)), ((ya 0), .inl (E 0, 3, .inl yf0)), ((ya 1), .inl (E 0, 3, .inl yf1)), ((ya 2), .inl (E 0, 3, .inl yf2)), ((ya 3), .inl (E 0, 3, .inl yf3))]) [0, 1, 2, 3, 4] (by decide) rfl
    exact W.vret hx hb hr (fun t ht hW => ⟨⟨(yf0, yf1, yf2, yf3), rfl, (by (try dsimp only); first | exact Or.inl ⟨by omega, rfl, rfl, rfl, rfl⟩ | exact Or.inr ⟨by omega, rfl, rfl, rfl, rfl⟩), by rw [ht]; exact hP9, hD9⟩, hS.F ht⟩) hS.2.2 dX5_carry_9
  ·
    have ic_1 : 0 ≤ p0.toInt := by first | exact (g_le t_0 rfl).mp c_1 | (have h := mt (g_lt rfl t_0).mpr c_1; omega)
    clear c_1
    refine lv_iload_n hx hb dX5_carry_4 rfl (lv_at hl 1 rfl) ?_
    refine lv_iconst (v := 3) hx hb dX5_carry_5 (by decide) ?_
    refine lv_icmp_lt (tgt := 10) hx hb dX5_carry_6 (by decide) (fun c_2 => ?_) (fun c_2 => ?_)
    ·
      have ic_2 : p0.toInt < 3 := by first | exact (g_lt rfl t_3).mp c_2 | (have h := mt (g_le t_3 rfl).mpr c_2; omega)
      clear c_2
      refine lv_aload_n hx hb dX5_carry_10 rfl (lv_at hl 0 rfl) ?_
      refine va_get (D := D) (ci := 5) (v := .ref (ya 0)) (C := RX5) (T := TX5) (N := 11) hx hb htb iX5 hown hK.1 hP 0 rfl rfl 0 (by decide) (htb _ k_228) (fun _ h9 => h9) rfl dX5_carry_11 ?_
      refine lv_iload_n hx hb dX5_carry_14 rfl (lv_at hl 1 rfl) ?_
      refine lv_iload_n hx hb dX5_carry_15 rfl (lv_at hl 2 rfl) ?_
      refine va_iast hx hb hK.1 hP hD hS 1 0 rfl rfl (g_in rfl (by omega) (by omega)) dX5_carry_16 (fun H locs hP hD hS => ?_)
      have hP : va_P D vwCl [(yh, .inr (5, G5 ya ysights ystage ysailed yvoyage)), ((ya 0), .inl (E 0, 3, .inl (upd yf0 (p0 : Int32).toNatClampNeg p1))), ((ya 1), .inl (E 0, 3, .inl yf1)), ((ya 2), .inl (E 0, 3, .inl yf2)), ((ya 3), .inl (E 0, 3, .inl yf3))] H := hP
      have hD := toW hP hD rfl
      refine lv_aload_n hx hb dX5_carry_17 rfl (lv_at hl 0 rfl) ?_
      refine va_get (D := D) (ci := 5) (v := .ref (ya 1)) (C := RX5) (T := TX5) (N := 11) hx hb htb iX5 hown hK.1 hP 0 rfl rfl 1 (by decide) (htb _ k_230) (fun _ h9 => h9) rfl dX5_carry_18 ?_
      refine lv_iload_n hx hb dX5_carry_21 rfl (lv_at hl 1 rfl) ?_
      refine lv_iload_n hx hb dX5_carry_22 rfl (lv_at hl 3 rfl) ?_
      refine va_iast hx hb hK.1 hP hD hS 2 0 rfl rfl (g_in rfl (by omega) (by omega)) dX5_carry_23 (fun H locs hP hD hS => ?_)
      have hP : va_P D vwCl [(yh, .inr (5, G5 ya ysights ystage ysailed yvoyage)), ((ya 0), .inl (E 0, 3, .inl (upd yf0 (p0 : Int32).toNatClampNeg p1))), ((ya 1), .inl (E 0, 3, .inl (upd yf1 (p0 : Int32).toNatClampNeg p2))), ((ya 2), .inl (E 0, 3, .inl yf2)), ((ya 3), .inl (E 0, 3, .inl yf3))] H := hP
      have hD := toW hP hD rfl
      refine lv_aload_n hx hb dX5_carry_24 rfl (lv_at hl 0 rfl) ?_
      refine va_get (D := D) (ci := 5) (v := .ref (ya 2)) (C := RX5) (T := TX5) (N := 11) hx hb htb iX5 hown hK.1 hP 0 rfl rfl 2 (by decide) (htb _ k_232) (fun _ h9 => h9) rfl dX5_carry_25 ?_
      refine lv_iload_n hx hb dX5_carry_28 rfl (lv_at hl 1 rfl) ?_
      refine lv_iload hx hb dX5_carry_29 (lv_at hl 4 rfl) ?_
      refine va_iast hx hb hK.1 hP hD hS 3 0 rfl rfl (g_in rfl (by omega) (by omega)) dX5_carry_31 (fun H locs hP hD hS => ?_)
      have hP : va_P D vwCl [(yh, .inr (5, G5 ya ysights ystage ysailed yvoyage)), ((ya 0), .inl (E 0, 3, .inl (upd yf0 (p0 : Int32).toNatClampNeg p1))), ((ya 1), .inl (E 0, 3, .inl (upd yf1 (p0 : Int32).toNatClampNeg p2))), ((ya 2), .inl (E 0, 3, .inl (upd yf2 (p0 : Int32).toNatClampNeg p3))), ((ya 3), .inl (E 0, 3, .inl yf3))] H := hP
      have hD := toW hP hD rfl
      refine lv_aload_n hx hb dX5_carry_32 rfl (lv_at hl 0 rfl) ?_
      refine va_get (D := D) (ci := 5) (v := .ref (ya 3)) (C := RX5) (T := TX5) (N := 11) hx hb htb iX5 hown hK.1 hP 0 rfl rfl 3 (by decide) (htb _ k_234) (fun _ h9 => h9) rfl dX5_carry_33 ?_
      refine lv_iload_n hx hb dX5_carry_36 rfl (lv_at hl 1 rfl) ?_
      refine lv_iload hx hb dX5_carry_37 (lv_at hl 5 rfl) ?_
      refine va_iast hx hb hK.1 hP hD hS 4 0 rfl rfl (g_in rfl (by omega) (by omega)) dX5_carry_39 (fun H locs hP hD hS => ?_)
      have hP : va_P D vwCl [(yh, .inr (5, G5 ya ysights ystage ysailed yvoyage)), ((ya 0), .inl (E 0, 3, .inl (upd yf0 (p0 : Int32).toNatClampNeg p1))), ((ya 1), .inl (E 0, 3, .inl (upd yf1 (p0 : Int32).toNatClampNeg p2))), ((ya 2), .inl (E 0, 3, .inl (upd yf2 (p0 : Int32).toNatClampNeg p3))), ((ya 3), .inl (E 0, 3, .inl (upd yf3 (p0 : Int32).toNatClampNeg p4)))] H := hP
      have hD := toW hP hD rfl
      have hP9 := hP.sub (ws' := [(yh, .inr (5, G5 ya ysights ystage ysailed yvoyage)), ((ya 0), .inl (E 0, 3, .inl (upd yf0 (p0 : Int32).toNatClampNeg p1))), ((ya 1), .inl (E 0, 3, .inl (upd yf1 (p0 : Int32).toNatClampNeg p2))), ((ya 2), .inl (E 0, 3, .inl (upd yf2 (p0 : Int32).toNatClampNeg p3))), ((ya 3), .inl (E 0, 3, .inl (upd yf3 (p0 : Int32).toNatClampNeg p4)))]) [0, 1, 2, 3, 4] rfl
      have hD9 := hD.sub (ws' := [(yh, .inr (5, G5 ya ysights ystage ysailed yvoyage)), ((ya 0), .inl (E 0, 3, .inl (upd yf0 (p0 : Int32).toNatClampNeg p1))), ((ya 1), .inl (E 0, 3, .inl (upd yf1 (p0 : Int32).toNatClampNeg p2))), ((ya 2), .inl (E 0, 3, .inl (upd yf2 (p0 : Int32).toNatClampNeg p3))), ((ya 3), .inl (E 0, 3, .inl (upd yf3 (p0 : Int32).toNatClampNeg p4)))]) [0, 1, 2, 3, 4] (by decide) rfl
      exact W.vret hx hb hr (fun t ht hW => ⟨⟨((upd yf0 (p0 : Int32).toNatClampNeg p1), (upd yf1 (p0 : Int32).toNatClampNeg p2), (upd yf2 (p0 : Int32).toNatClampNeg p3), (upd yf3 (p0 : Int32).toNatClampNeg p4)), rfl, (by (try dsimp only); first | exact Or.inl ⟨by omega, rfl, rfl, rfl, rfl⟩ | exact Or.inr ⟨by omega, rfl, rfl, rfl, rfl⟩), by rw [ht]; exact hP9, hD9⟩, hS.F ht⟩) hS.2.2 dX5_carry_40
    ·
      have ic_2 : 3 ≤ p0.toInt := by first | exact (g_le t_3 rfl).mp c_2 | (have h := mt (g_lt rfl t_3).mpr c_2; omega)
      clear c_2
      have hP9 := hP.sub (ws' := [(yh, .inr (5, G5 ya ysights ystage ysailed yvoyage)), ((ya 0), .inl (E 0, 3, .inl yf0)), ((ya 1), .inl (E 0, 3, .inl yf1)), ((ya 2), .inl (E 0, 3, .inl yf2)), ((ya 3), .inl (E 0, 3, .inl yf3))]) [0, 1, 2, 3, 4] rfl
      have hD9 := hD.sub (ws' := [(yh, .inr (5, G5 ya ysights ystage ysailed yvoyage)), ((ya 0), .inl (E 0, 3, .inl yf0)), ((ya 1), .inl (E 0, 3, .inl yf1)), ((ya 2), .inl (E 0, 3, .inl yf2)), ((ya 3), .inl (E 0, 3, .inl yf3))]) [0, 1, 2, 3, 4] (by decide) rfl
      exact W.vret hx hb hr (fun t ht hW => ⟨⟨(yf0, yf1, yf2, yf3), rfl, (by (try dsimp only); first | exact Or.inl ⟨by omega, rfl, rfl, rfl, rfl⟩ | exact Or.inr ⟨by omega, rfl, rfl, rfl, rfl⟩), by rw [ht]; exact hP9, hD9⟩, hS.F ht⟩) hS.2.2 dX5_carry_9
set_option maxHeartbeats 4000000 in
set_option maxRecDepth 100000 in
theorem g_X5_comeBack (l : Launch) (D : va_G) (E : Nat → Nat) (yh : Nat) (ya : Nat → Nat) (ysights : Int32) (ystage : Int32) (ysailed : Int32) (yvoyage : Int32) (p0 : Int32) (sz : Nat) (hi_y : (0 ≤ ysights.toInt ∧ ysights.toInt ≤ 40)) : Met l yX5_comeBack (wl yX5_comeBack cX5_comeBack 2 none) (RM 0 0 0) (mu_P D E [.ref yh, .int p0] [(yh, .inr (5, G5 ya ysights ystage ysailed yvoyage))] sz) (va_Qv (fun (u : (Int32) × (Int32)) => (u.1.toInt = 2 ∧ u.2 = p0 - ysailed)) (mu_B D (va_A [(yh, .inr (5, G5 ya ysights ystage ysailed yvoyage))] sz) (fun (u : (Int32) × (Int32)) => [(yh, .inr (5, G5 ya ysights u.1 ysailed u.2))])) (va_A [(yh, .inr (5, G5 ya ysights ystage ysailed yvoyage))] sz)) 0 0 (va_A [(yh, .inr (5, G5 ya ysights ystage ysailed yvoyage))] sz) := by
  refine Met.ofW (cc := cX5_comeBack) (maxL := 2) (ret := none) (by decide) rfl ?_
  intro p e s m args below meth c s₁ B hml hv
  obtain ⟨rfl, hsz, hP, hK, hD0⟩ := hv
  have hx := B.exec; have hb := B.bytes; have hr := B.returns
  have hts := atoms_spec (ws := wl yX5_comeBack cX5_comeBack 2 none) B.pre
  have htb : ∀ w ∈ tb, w.before _ s = true := fun w h => hts w (List.mem_cons_of_mem _ h)
  have hown : s.vm.findClass RX5 = some m.cls := findClass_of_methodNamed B.named
  have hlocks := B.notSynchronized
  subst hsz
  have hD := hD0.self (sz := s.heap.size)
  generalize hAe : va_A [(yh, .inr (5, G5 ya ysights ystage ysailed yvoyage))] s.heap.size = A at hD ⊢
  have hA : ∀ q : Nat, s.heap.size ≤ q → A q := fun q h => by rw [← hAe]; exact Or.inr h
  have hS : va_S A s.heap s.heap [] := va_S.rf
  have hP : va_P D vwCl [(yh, .inr (5, G5 ya ysights ystage ysailed yvoyage))] s.heap := hP
  have hl := lv_entry ([.ref yh, .int p0]) (n := 2) (Nat.le_of_ble_eq_true rfl)
  rw [lg_entry_eq]
  generalize (lg_sl ([.ref yh, .int p0]) ++ List.replicate (2 - (lg_sl ([.ref yh, .int p0])).length) Slot.unset).toArray = ls at hl ⊢
  have hl : lv_has ls 2 [(0, .ref yh), (1, .int p0)] := hl
  have lo_p0 := i_lo p0; have hi_p0 := i_hi p0
  refine lv_aload_n hx hb dX5_comeBack_0 rfl (lv_at hl 0 rfl) ?_
  refine lv_iconst (v := 2) hx hb dX5_comeBack_1 (by decide) ?_
  refine va_put (D := D) (ci := 5) (v := .int 2) (ty := .int) (C := RX5) (T := TX5) (N := 11) hx hb htb iX5 tyX5 tyX5_ok nmX5 hown hK.1 hP hD hS 0 rfl rfl 8 (by decide) (htb _ k_243) (fun _ h9 => h9) rfl (by decide +kernel) rfl rfl (Nat.le_of_ble_eq_true rfl) dX5_comeBack_2 (fun H locs hP hD hS => ?_)
  have hP : va_P D vwCl [(yh, .inr (5, G5 ya ysights 2 ysailed yvoyage))] H := hP
  have hD := toW hP hD rfl
  refine lv_aload_n hx hb dX5_comeBack_5 rfl (lv_at hl 0 rfl) ?_
  refine lv_iload_n hx hb dX5_comeBack_6 rfl (lv_at hl 1 rfl) ?_
  refine lv_aload_n hx hb dX5_comeBack_7 rfl (lv_at hl 0 rfl) ?_
  refine va_get (D := D) (ci := 5) (v := .int ysailed) (C := RX5) (T := TX5) (N := 11) hx hb htb iX5 hown hK.1 hP 0 rfl rfl 9 (by decide) (htb _ k_245) (fun _ h9 => h9) rfl dX5_comeBack_8 ?_
  refine lv_isub hx hb dX5_comeBack_11 ?_
  refine lv_topi (fun z_1 ez_1 => ?_)
  refine va_put (D := D) (ci := 5) (v := .int z_1) (ty := .int) (C := RX5) (T := TX5) (N := 11) hx hb htb iX5 tyX5 tyX5_ok nmX5 hown hK.1 hP hD hS 0 rfl rfl 10 (by decide) (htb _ k_247) (fun _ h9 => h9) rfl (by decide +kernel) rfl rfl (Nat.le_of_ble_eq_true rfl) dX5_comeBack_12 (fun H locs hP hD hS => ?_)
  have hP : va_P D vwCl [(yh, .inr (5, G5 ya ysights 2 ysailed z_1))] H := hP
  have hD := toW hP hD rfl
  have hP9 := hP.sub (ws' := [(yh, .inr (5, G5 ya ysights 2 ysailed z_1))]) [0] rfl
  have hD9 := hD.sub (ws' := [(yh, .inr (5, G5 ya ysights 2 ysailed z_1))]) [0] (by decide) rfl
  exact W.vret hx hb hr (fun t ht hW => ⟨⟨((2 : Int32), z_1), rfl, (by have h2 := t_2; (try dsimp only); exact ⟨by omega, by subst_vars; rfl⟩), by rw [ht]; exact hP9, hD9⟩, hS.F ht⟩) hS.2.2 dX5_comeBack_15
set_option maxHeartbeats 4000000 in
set_option maxRecDepth 100000 in
theorem g_X5_mayBeSighted (l : Launch) (D : va_G) (E : Nat → Nat) (yh : Nat) (ya : Nat → Nat) (ysights : Int32) (ystage : Int32) (ysailed : Int32) (yvoyage : Int32) (yf5 : Nat → Int32) (p0 : Int32) (hi_y : (0 ≤ ysights.toInt ∧ ysights.toInt ≤ 40)) : Met l yX5_mayBeSighted (wl yX5_mayBeSighted cX5_mayBeSighted 2 (some .boolean)) (RM 0 0 0) (rd_P D E [.ref yh, .int p0] [(yh, .inr (5, G5 ya ysights ystage ysailed yvoyage)), ((ya 5), .inl (E 0, 40, .inl yf5))]) (rd_Q (fun r => (0 ≤ r.toInt ∧ r.toInt ≤ 1))) 0 0 (fun _ => False) := by
  refine Met.ofW (cc := cX5_mayBeSighted) (maxL := 2) (ret := (some .boolean)) (by decide) rfl ?_
  intro p e s m args below meth c s₁ B hml hv
  obtain ⟨rfl, hP, hK⟩ := hv
  have hx := B.exec; have hb := B.bytes; have hr := B.returns
  have hts := atoms_spec (ws := wl yX5_mayBeSighted cX5_mayBeSighted 2 (some .boolean)) B.pre
  have htb : ∀ w ∈ tb, w.before _ s = true := fun w h => hts w (List.mem_cons_of_mem _ h)
  have hown : s.vm.findClass RX5 = some m.cls := findClass_of_methodNamed B.named
  have hlocks := B.notSynchronized
  have hP : va_P D vwCl [(yh, .inr (5, G5 ya ysights ystage ysailed yvoyage)), ((ya 5), .inl (E 0, 40, .inl yf5))] s.heap := hP
  have hl := lv_entry ([.ref yh, .int p0]) (n := 2) (Nat.le_of_ble_eq_true rfl)
  rw [lg_entry_eq]
  generalize (lg_sl ([.ref yh, .int p0]) ++ List.replicate (2 - (lg_sl ([.ref yh, .int p0])).length) Slot.unset).toArray = ls at hl ⊢
  have hl : lv_has ls 2 [(0, .ref yh), (1, .int p0)] := hl
  have lo_p0 := i_lo p0; have hi_p0 := i_hi p0
  refine lv_aload_n hx hb dX5_mayBeSighted_0 rfl (lv_at hl 0 rfl) ?_
  refine va_get (D := D) (ci := 5) (v := .int ystage) (C := RX5) (T := TX5) (N := 11) hx hb htb iX5 hown hK.1 hP 0 rfl rfl 8 (by decide) (htb _ k_243) (fun _ h9 => h9) rfl dX5_mayBeSighted_1 ?_
  refine lv_if_ne (tgt := 9) hx hb dX5_mayBeSighted_4 (by decide) (fun c_1 => ?_) (fun c_1 => ?_)
  ·
    have ic_1 : ystage.toInt ≠ 0 := mt (g_eq rfl t_0).mpr c_1
    clear c_1
    refine lv_iload_n hx hb dX5_mayBeSighted_9 rfl (lv_at hl 1 rfl) ?_
    refine lv_aload_n hx hb dX5_mayBeSighted_10 rfl (lv_at hl 0 rfl) ?_
    refine va_get (D := D) (ci := 5) (v := .int ysailed) (C := RX5) (T := TX5) (N := 11) hx hb htb iX5 hown hK.1 hP 0 rfl rfl 9 (by decide) (htb _ k_245) (fun _ h9 => h9) rfl dX5_mayBeSighted_11 ?_
    refine lv_icmp_le (tgt := 43) hx hb dX5_mayBeSighted_14 (by decide) (fun c_2 => ?_) (fun c_2 => ?_)
    ·
      have ic_2 : p0.toInt ≤ ysailed.toInt := by first | exact (g_le rfl rfl).mp c_2 | (have h := mt (g_lt rfl rfl).mpr c_2; omega)
      clear c_2
      refine lv_iconst (v := 0) hx hb dX5_mayBeSighted_43 (by decide) ?_
      exact W.zret (v := 0) hx hb hr rfl (fun t ht hW => ⟨0, rfl, (by have h0 := t_0; (try dsimp only); omega), ht⟩) (fun q h => by cases h) dX5_mayBeSighted_44
    ·
      have ic_2 : ysailed.toInt < p0.toInt := by first | exact (g_lt rfl rfl).mp c_2 | (have h := mt (g_le rfl rfl).mpr c_2; omega)
      clear c_2
      refine lv_aload_n hx hb dX5_mayBeSighted_17 rfl (lv_at hl 0 rfl) ?_
      refine va_get (D := D) (ci := 5) (v := .int ysights) (C := RX5) (T := TX5) (N := 11) hx hb htb iX5 hown hK.1 hP 0 rfl rfl 7 (by decide) (htb _ k_241) (fun _ h9 => h9) rfl dX5_mayBeSighted_18 ?_
      refine lv_if_eq (tgt := 39) hx hb dX5_mayBeSighted_21 (by decide) (fun c_3 => ?_) (fun c_3 => ?_)
      ·
        have ic_3 : ysights.toInt = 0 := (g_eq rfl t_0).mp c_3
        clear c_3
        refine lv_iconst (v := 1) hx hb dX5_mayBeSighted_39 (by decide) ?_
        refine lv_goto (tgt := 44) hx hb dX5_mayBeSighted_40 (by decide) ?_
        exact W.zret (v := 1) hx hb hr rfl (fun t ht hW => ⟨1, rfl, (by have h0 := t_1; (try dsimp only); omega), ht⟩) (fun q h => by cases h) dX5_mayBeSighted_44
      ·
        have ic_3 : ysights.toInt ≠ 0 := mt (g_eq rfl t_0).mpr c_3
        clear c_3
        refine lv_iload_n hx hb dX5_mayBeSighted_24 rfl (lv_at hl 1 rfl) ?_
        refine lv_aload_n hx hb dX5_mayBeSighted_25 rfl (lv_at hl 0 rfl) ?_
        refine va_get (D := D) (ci := 5) (v := .ref (ya 5)) (C := RX5) (T := TX5) (N := 11) hx hb htb iX5 hown hK.1 hP 0 rfl rfl 5 (by decide) (htb _ k_238) (fun _ h9 => h9) rfl dX5_mayBeSighted_26 ?_
        refine lv_aload_n hx hb dX5_mayBeSighted_29 rfl (lv_at hl 0 rfl) ?_
        refine va_get (D := D) (ci := 5) (v := .int ysights) (C := RX5) (T := TX5) (N := 11) hx hb htb iX5 hown hK.1 hP 0 rfl rfl 7 (by decide) (htb _ k_241) (fun _ h9 => h9) rfl dX5_mayBeSighted_30 ?_
        refine lv_iconst (v := 1) hx hb dX5_mayBeSighted_33 (by decide) ?_
        refine lv_isub hx hb dX5_mayBeSighted_34 ?_
        refine lv_topi (fun z_4 ez_4 => ?_)
        have jz_4 : z_4.toInt = ysights.toInt - 1 := by rw [ez_4]; exact g_sub rfl t_1 (by omega) (by omega)
        refine va_iald hx hb hK.1 hP 1 0 rfl rfl (g_in rfl (by omega) (by omega)) dX5_mayBeSighted_35 ?_
        refine lv_topi (fun z_5 ez_5 => ?_)
        have kz_5 := congrArg Int32.toInt ez_5
        refine lv_icmp_lt (tgt := 43) hx hb dX5_mayBeSighted_36 (by decide) (fun c_6 => ?_) (fun c_6 => ?_)
        ·
          have ic_6 : p0.toInt < z_5.toInt := by first | exact (g_lt rfl rfl).mp c_6 | (have h := mt (g_le rfl rfl).mpr c_6; omega)
          clear c_6
          refine lv_iconst (v := 0) hx hb dX5_mayBeSighted_43 (by decide) ?_
          exact W.zret (v := 0) hx hb hr rfl (fun t ht hW => ⟨0, rfl, (by have h0 := t_0; (try dsimp only); omega), ht⟩) (fun q h => by cases h) dX5_mayBeSighted_44
        ·
          have ic_6 : z_5.toInt ≤ p0.toInt := by first | exact (g_le rfl rfl).mp c_6 | (have h := mt (g_lt rfl rfl).mpr c_6; omega)
          clear c_6
          refine lv_iconst (v := 1) hx hb dX5_mayBeSighted_39 (by decide) ?_
          refine lv_goto (tgt := 44) hx hb dX5_mayBeSighted_40 (by decide) ?_
          exact W.zret (v := 1) hx hb hr rfl (fun t ht hW => ⟨1, rfl, (by have h0 := t_1; (try dsimp only); omega), ht⟩) (fun q h => by cases h) dX5_mayBeSighted_44
  ·
    have ic_1 : ystage.toInt = 0 := (g_eq rfl t_0).mp c_1
    clear c_1
    refine lv_iconst (v := 1) hx hb dX5_mayBeSighted_7 (by decide) ?_
    exact W.zret (v := 1) hx hb hr rfl (fun t ht hW => ⟨1, rfl, (by have h0 := t_1; (try dsimp only); omega), ht⟩) (fun q h => by cases h) dX5_mayBeSighted_8
set_option maxHeartbeats 4000000 in
set_option maxRecDepth 100000 in
theorem g_X5_addSight (l : Launch) (D : va_G) (E : Nat → Nat) (yh : Nat) (ya : Nat → Nat) (ysights : Int32) (ystage : Int32) (ysailed : Int32) (yvoyage : Int32) (yf5 : Nat → Int32) (yf6 : Nat → Int32) (p0 : Int32) (p1 : Int32) (p2 : Int32) (p3 : Int32) (sz : Nat) (hi_y : (0 ≤ ysights.toInt ∧ ysights.toInt ≤ 40)) : Met l yX5_addSight (wl yX5_addSight cX5_addSight 5 (some .int)) (RM 0 0 0) (mu_P D E [.ref yh, .int p0, .int p1, .int p2, .int p3] [(yh, .inr (5, G5 ya ysights ystage ysailed yvoyage)), ((ya 5), .inl (E 0, 40, .inl yf5)), ((ya 6), .inl (E 0, 120, .inl yf6))] sz) (va_Qi (fun (r : Int32) (u : (Nat → Int32) × (Nat → Int32) × (Int32)) => (0 ≤ u.2.2.toInt ∧ u.2.2.toInt ≤ 40)) (mu_B D (va_A [(yh, .inr (5, G5 ya ysights ystage ysailed yvoyage)), ((ya 5), .inl (E 0, 40, .inl yf5)), ((ya 6), .inl (E 0, 120, .inl yf6))] sz) (fun (u : (Nat → Int32) × (Nat → Int32) × (Int32)) => [(yh, .inr (5, G5 ya u.2.2 ystage ysailed yvoyage)), ((ya 5), .inl (E 0, 40, .inl u.1)), ((ya 6), .inl (E 0, 120, .inl u.2.1))])) (va_A [(yh, .inr (5, G5 ya ysights ystage ysailed yvoyage)), ((ya 5), .inl (E 0, 40, .inl yf5)), ((ya 6), .inl (E 0, 120, .inl yf6))] sz)) 0 0 (va_A [(yh, .inr (5, G5 ya ysights ystage ysailed yvoyage)), ((ya 5), .inl (E 0, 40, .inl yf5)), ((ya 6), .inl (E 0, 120, .inl yf6))] sz) := by
  refine Met.ofW (cc := cX5_addSight) (maxL := 5) (ret := (some .int)) (by decide) rfl ?_
  intro p e s m args below meth c s₁ B hml hv
  obtain ⟨rfl, hsz, hP, hK, hD0⟩ := hv
  have hx := B.exec; have hb := B.bytes; have hr := B.returns
  have hts := atoms_spec (ws := wl yX5_addSight cX5_addSight 5 (some .int)) B.pre
  have htb : ∀ w ∈ tb, w.before _ s = true := fun w h => hts w (List.mem_cons_of_mem _ h)
  have hown : s.vm.findClass RX5 = some m.cls := findClass_of_methodNamed B.named
  have hlocks := B.notSynchronized
  subst hsz
  have hD := hD0.self (sz := s.heap.size)
  generalize hAe : va_A [(yh, .inr (5, G5 ya ysights ystage ysailed yvoyage)), ((ya 5), .inl (E 0, 40, .inl yf5)), ((ya 6), .inl (E 0, 120, .inl yf6))] s.heap.size = A at hD ⊢
  have hA : ∀ q : Nat, s.heap.size ≤ q → A q := fun q h => by rw [← hAe]; exact Or.inr h
  have hS : va_S A s.heap s.heap [] := va_S.rf
  have hP : va_P D vwCl [(yh, .inr (5, G5 ya ysights ystage ysailed yvoyage)), ((ya 5), .inl (E 0, 40, .inl yf5)), ((ya 6), .inl (E 0, 120, .inl yf6))] s.heap := hP
  have hl := lv_entry ([.ref yh, .int p0, .int p1, .int p2, .int p3]) (n := 5) (Nat.le_of_ble_eq_true rfl)
  rw [lg_entry_eq]
  generalize (lg_sl ([.ref yh, .int p0, .int p1, .int p2, .int p3]) ++ List.replicate (5 - (lg_sl ([.ref yh, .int p0, .int p1, .int p2, .int p3])).length) Slot.unset).toArray = ls at hl ⊢
  have hl : lv_has ls 5 [(0, .ref yh), (1, .int p0), (2, .int p1), (3, .int p2), (4, .int p3)] := hl
  have lo_p0 := i_lo p0; have hi_p0 := i_hi p0
  have lo_p1 := i_lo p1; have hi_p1 := i_hi p1
  have lo_p2 := i_lo p2; have hi_p2 := i_hi p2
  have lo_p3 := i_lo p3; have hi_p3 := i_hi p3
  refine lv_aload_n hx hb dX5_addSight_0 rfl (lv_at hl 0 rfl) ?_
  refine va_get (D := D) (ci := 5) (v := .int ysights) (C := RX5) (T := TX5) (N := 11) hx hb htb iX5 hown hK.1 hP 0 rfl rfl 7 (by decide) (htb _ k_241) (fun _ h9 => h9) rfl dX5_addSight_1 ?_
  refine lv_bipush (v := 40) hx hb dX5_addSight_4 (by decide) ?_
  refine lv_icmp_lt (tgt := 12) hx hb dX5_addSight_6 (by decide) (fun c_1 => ?_) (fun c_1 => ?_)
  ·
    have ic_1 : ysights.toInt < 40 := by first | exact (g_lt rfl t_40).mp c_1 | (have h := mt (g_le t_40 rfl).mpr c_1; omega)
    clear c_1
    refine lv_aload_n hx hb dX5_addSight_12 rfl (lv_at hl 0 rfl) ?_
    refine va_get (D := D) (ci := 5) (v := .ref (ya 5)) (C := RX5) (T := TX5) (N := 11) hx hb htb iX5 hown hK.1 hP 0 rfl rfl 5 (by decide) (htb _ k_238) (fun _ h9 => h9) rfl dX5_addSight_13 ?_
    refine lv_aload_n hx hb dX5_addSight_16 rfl (lv_at hl 0 rfl) ?_
    refine va_get (D := D) (ci := 5) (v := .int ysights) (C := RX5) (T := TX5) (N := 11) hx hb htb iX5 hown hK.1 hP 0 rfl rfl 7 (by decide) (htb _ k_241) (fun _ h9 => h9) rfl dX5_addSight_17 ?_
    refine lv_iload_n hx hb dX5_addSight_20 rfl (lv_at hl 1 rfl) ?_
    refine va_iast hx hb hK.1 hP hD hS 1 0 rfl rfl (g_in rfl (by omega) (by omega)) dX5_addSight_21 (fun H locs hP hD hS => ?_)
    have hP : va_P D vwCl [(yh, .inr (5, G5 ya ysights ystage ysailed yvoyage)), ((ya 5), .inl (E 0, 40, .inl (upd yf5 (ysights : Int32).toNatClampNeg p0))), ((ya 6), .inl (E 0, 120, .inl yf6))] H := hP
    have hD := toW hP hD rfl
    refine lv_aload_n hx hb dX5_addSight_22 rfl (lv_at hl 0 rfl) ?_
    refine va_get (D := D) (ci := 5) (v := .ref (ya 6)) (C := RX5) (T := TX5) (N := 11) hx hb htb iX5 hown hK.1 hP 0 rfl rfl 6 (by decide) (htb _ k_240) (fun _ h9 => h9) rfl dX5_addSight_23 ?_
    refine lv_iconst (v := 3) hx hb dX5_addSight_26 (by decide) ?_
    refine lv_aload_n hx hb dX5_addSight_27 rfl (lv_at hl 0 rfl) ?_
    refine va_get (D := D) (ci := 5) (v := .int ysights) (C := RX5) (T := TX5) (N := 11) hx hb htb iX5 hown hK.1 hP 0 rfl rfl 7 (by decide) (htb _ k_241) (fun _ h9 => h9) rfl dX5_addSight_28 ?_
    refine lv_imul hx hb dX5_addSight_31 ?_
    refine lv_topi (fun z_2 ez_2 => ?_)
    have jz_2 : z_2.toInt = 3 * ysights.toInt := by rw [ez_2]; exact g_mul t_3 rfl (by omega) (by omega)
    refine lv_iload_n hx hb dX5_addSight_32 rfl (lv_at hl 2 rfl) ?_
    refine va_iast hx hb hK.1 hP hD hS 2 0 rfl rfl (g_in rfl (by omega) (by omega)) dX5_addSight_33 (fun H locs hP hD hS => ?_)
    have hP : va_P D vwCl [(yh, .inr (5, G5 ya ysights ystage ysailed yvoyage)), ((ya 5), .inl (E 0, 40, .inl (upd yf5 (ysights : Int32).toNatClampNeg p0))), ((ya 6), .inl (E 0, 120, .inl (upd yf6 (z_2 : Int32).toNatClampNeg p1)))] H := hP
    have hD := toW hP hD rfl
    refine lv_aload_n hx hb dX5_addSight_34 rfl (lv_at hl 0 rfl) ?_
    refine va_get (D := D) (ci := 5) (v := .ref (ya 6)) (C := RX5) (T := TX5) (N := 11) hx hb htb iX5 hown hK.1 hP 0 rfl rfl 6 (by decide) (htb _ k_240) (fun _ h9 => h9) rfl dX5_addSight_35 ?_
    refine lv_iconst (v := 3) hx hb dX5_addSight_38 (by decide) ?_
    refine lv_aload_n hx hb dX5_addSight_39 rfl (lv_at hl 0 rfl) ?_
    refine va_get (D := D) (ci := 5) (v := .int ysights) (C := RX5) (T := TX5) (N := 11) hx hb htb iX5 hown hK.1 hP 0 rfl rfl 7 (by decide) (htb _ k_241) (fun _ h9 => h9) rfl dX5_addSight_40 ?_
    refine lv_imul hx hb dX5_addSight_43 ?_
    refine lv_topi (fun z_3 ez_3 => ?_)
    have jz_3 : z_3.toInt = 3 * ysights.toInt := by rw [ez_3]; exact g_mul t_3 rfl (by omega) (by omega)
    refine lv_iconst (v := 1) hx hb dX5_addSight_44 (by decide) ?_
    refine lv_iadd hx hb dX5_addSight_45 ?_
    refine lv_topi (fun z_4 ez_4 => ?_)
    have jz_4 : z_4.toInt = z_3.toInt + 1 := by rw [ez_4]; exact g_add rfl t_1 (by omega) (by omega)
    refine lv_iload_n hx hb dX5_addSight_46 rfl (lv_at hl 3 rfl) ?_
    refine va_iast hx hb hK.1 hP hD hS 2 0 rfl rfl (g_in rfl (by omega) (by omega)) dX5_addSight_47 (fun H locs hP hD hS => ?_)
    have hP : va_P D vwCl [(yh, .inr (5, G5 ya ysights ystage ysailed yvoyage)), ((ya 5), .inl (E 0, 40, .inl (upd yf5 (ysights : Int32).toNatClampNeg p0))), ((ya 6), .inl (E 0, 120, .inl (upd (upd yf6 (z_2 : Int32).toNatClampNeg p1) (z_4 : Int32).toNatClampNeg p2)))] H := hP
    have hD := toW hP hD rfl
    generalize (upd (upd yf6 (z_2 : Int32).toNatClampNeg p1) (z_4 : Int32).toNatClampNeg p2) = g_5 at hP hD
    refine lv_aload_n hx hb dX5_addSight_48 rfl (lv_at hl 0 rfl) ?_
    refine va_get (D := D) (ci := 5) (v := .ref (ya 6)) (C := RX5) (T := TX5) (N := 11) hx hb htb iX5 hown hK.1 hP 0 rfl rfl 6 (by decide) (htb _ k_240) (fun _ h9 => h9) rfl dX5_addSight_49 ?_
    refine lv_iconst (v := 3) hx hb dX5_addSight_52 (by decide) ?_
    refine lv_aload_n hx hb dX5_addSight_53 rfl (lv_at hl 0 rfl) ?_
    refine va_get (D := D) (ci := 5) (v := .int ysights) (C := RX5) (T := TX5) (N := 11) hx hb htb iX5 hown hK.1 hP 0 rfl rfl 7 (by decide) (htb _ k_241) (fun _ h9 => h9) rfl dX5_addSight_54 ?_
    refine lv_imul hx hb dX5_addSight_57 ?_
    refine lv_topi (fun z_6 ez_6 => ?_)
    have jz_6 : z_6.toInt = 3 * ysights.toInt := by rw [ez_6]; exact g_mul t_3 rfl (by omega) (by omega)
    refine lv_iconst (v := 2) hx hb dX5_addSight_58 (by decide) ?_
    refine lv_iadd hx hb dX5_addSight_59 ?_
    refine lv_topi (fun z_7 ez_7 => ?_)
    have jz_7 : z_7.toInt = z_6.toInt + 2 := by rw [ez_7]; exact g_add rfl t_2 (by omega) (by omega)
    refine lv_iload hx hb dX5_addSight_60 (lv_at hl 4 rfl) ?_
    refine va_iast hx hb hK.1 hP hD hS 2 0 rfl rfl (g_in rfl (by omega) (by omega)) dX5_addSight_62 (fun H locs hP hD hS => ?_)
    have hP : va_P D vwCl [(yh, .inr (5, G5 ya ysights ystage ysailed yvoyage)), ((ya 5), .inl (E 0, 40, .inl (upd yf5 (ysights : Int32).toNatClampNeg p0))), ((ya 6), .inl (E 0, 120, .inl (upd g_5 (z_7 : Int32).toNatClampNeg p3)))] H := hP
    have hD := toW hP hD rfl
    refine lv_aload_n hx hb dX5_addSight_63 rfl (lv_at hl 0 rfl) ?_
    refine lv_dup hx hb dX5_addSight_64 rfl ?_
    refine va_get (D := D) (ci := 5) (v := .int ysights) (C := RX5) (T := TX5) (N := 11) hx hb htb iX5 hown hK.1 hP 0 rfl rfl 7 (by decide) (htb _ k_241) (fun _ h9 => h9) rfl dX5_addSight_65 ?_
    refine lv_iconst (v := 1) hx hb dX5_addSight_68 (by decide) ?_
    refine lv_iadd hx hb dX5_addSight_69 ?_
    refine lv_topi (fun z_8 ez_8 => ?_)
    have jz_8 : z_8.toInt = ysights.toInt + 1 := by rw [ez_8]; exact g_add rfl t_1 (by omega) (by omega)
    refine va_put (D := D) (ci := 5) (v := .int z_8) (ty := .int) (C := RX5) (T := TX5) (N := 11) hx hb htb iX5 tyX5 tyX5_ok nmX5 hown hK.1 hP hD hS 0 rfl rfl 7 (by decide) (htb _ k_241) (fun _ h9 => h9) rfl (by decide +kernel) rfl rfl (Nat.le_of_ble_eq_true rfl) dX5_addSight_70 (fun H locs hP hD hS => ?_)
    have hP : va_P D vwCl [(yh, .inr (5, G5 ya z_8 ystage ysailed yvoyage)), ((ya 5), .inl (E 0, 40, .inl (upd yf5 (ysights : Int32).toNatClampNeg p0))), ((ya 6), .inl (E 0, 120, .inl (upd g_5 (z_7 : Int32).toNatClampNeg p3)))] H := hP
    have hD := toW hP hD rfl
    refine lv_aload_n hx hb dX5_addSight_73 rfl (lv_at hl 0 rfl) ?_
    refine va_get (D := D) (ci := 5) (v := .int z_8) (C := RX5) (T := TX5) (N := 11) hx hb htb iX5 hown hK.1 hP 0 rfl rfl 7 (by decide) (htb _ k_241) (fun _ h9 => h9) rfl dX5_addSight_74 ?_
    refine lv_iconst (v := 1) hx hb dX5_addSight_77 (by decide) ?_
    refine lv_isub hx hb dX5_addSight_78 ?_
    refine lv_topi (fun z_9 ez_9 => ?_)
    have jz_9 : z_9.toInt = z_8.toInt - 1 := by rw [ez_9]; exact g_sub rfl t_1 (by omega) (by omega)
    have hP9 := hP.sub (ws' := [(yh, .inr (5, G5 ya z_8 ystage ysailed yvoyage)), ((ya 5), .inl (E 0, 40, .inl (upd yf5 (ysights : Int32).toNatClampNeg p0))), ((ya 6), .inl (E 0, 120, .inl (upd g_5 (z_7 : Int32).toNatClampNeg p3)))]) [0, 1, 2] rfl
    have hD9 := hD.sub (ws' := [(yh, .inr (5, G5 ya z_8 ystage ysailed yvoyage)), ((ya 5), .inl (E 0, 40, .inl (upd yf5 (ysights : Int32).toNatClampNeg p0))), ((ya 6), .inl (E 0, 120, .inl (upd g_5 (z_7 : Int32).toNatClampNeg p3)))]) [0, 1, 2] (by decide) rfl
    exact W.iret (v := z_9) hx hb hr (fun t ht hW => ⟨⟨z_9, ((upd yf5 (ysights : Int32).toNatClampNeg p0), (upd g_5 (z_7 : Int32).toNatClampNeg p3), z_8), rfl, (by (try dsimp only); omega), by rw [ht]; exact hP9, hD9⟩, hS.F ht⟩) hS.2.2 dX5_addSight_79
  ·
    have ic_1 : 40 ≤ ysights.toInt := by first | exact (g_le t_40 rfl).mp c_1 | (have h := mt (g_lt rfl t_40).mpr c_1; omega)
    clear c_1
    refine lv_bipush (v := (-5)) hx hb dX5_addSight_9 (by decide) ?_
    have hP9 := hP.sub (ws' := [(yh, .inr (5, G5 ya ysights ystage ysailed yvoyage)), ((ya 5), .inl (E 0, 40, .inl yf5)), ((ya 6), .inl (E 0, 120, .inl yf6))]) [0, 1, 2] rfl
    have hD9 := hD.sub (ws' := [(yh, .inr (5, G5 ya ysights ystage ysailed yvoyage)), ((ya 5), .inl (E 0, 40, .inl yf5)), ((ya 6), .inl (E 0, 120, .inl yf6))]) [0, 1, 2] (by decide) rfl
    exact W.iret (v := (-5)) hx hb hr (fun t ht hW => ⟨⟨(-5), (yf5, yf6, ysights), rfl, (by (try dsimp only); omega), by rw [ht]; exact hP9, hD9⟩, hS.F ht⟩) hS.2.2 dX5_addSight_11
set_option maxHeartbeats 4000000 in
set_option maxRecDepth 100000 in
theorem g_X5_isOf (l : Launch) (D : va_G) (E : Nat → Nat) (yh : Nat) (ya : Nat → Nat) (ysights : Int32) (ystage : Int32) (ysailed : Int32) (yvoyage : Int32) (p0 : Int32) (p1 : Int32) (hi_y : (0 ≤ ysights.toInt ∧ ysights.toInt ≤ 40)) : Met l yX5_isOf (wl yX5_isOf cX5_isOf 3 (some .boolean)) (RM 0 0 0) (rd_P D E [.ref yh, .int p0, .int p1] [(yh, .inr (5, G5 ya ysights ystage ysailed yvoyage))]) (rd_Q (fun r => ((r = 1 ∧ (0 ≤ p0.toInt ∧ p0.toInt < ysights.toInt ∧ 0 ≤ p1.toInt ∧ p1.toInt ≤ 2)) ∨ (r = 0 ∧ ¬ (0 ≤ p0.toInt ∧ p0.toInt < ysights.toInt ∧ 0 ≤ p1.toInt ∧ p1.toInt ≤ 2))))) 0 0 (fun _ => False) := by
  refine Met.ofW (cc := cX5_isOf) (maxL := 3) (ret := (some .boolean)) (by decide) rfl ?_
  intro p e s m args below meth c s₁ B hml hv
  obtain ⟨rfl, hP, hK⟩ := hv
  have hx := B.exec; have hb := B.bytes; have hr := B.returns
  have hts := atoms_spec (ws := wl yX5_isOf cX5_isOf 3 (some .boolean)) B.pre
  have htb : ∀ w ∈ tb, w.before _ s = true := fun w h => hts w (List.mem_cons_of_mem _ h)
  have hown : s.vm.findClass RX5 = some m.cls := findClass_of_methodNamed B.named
  have hlocks := B.notSynchronized
  have hP : va_P D vwCl [(yh, .inr (5, G5 ya ysights ystage ysailed yvoyage))] s.heap := hP
  have hl := lv_entry ([.ref yh, .int p0, .int p1]) (n := 3) (Nat.le_of_ble_eq_true rfl)
  rw [lg_entry_eq]
  generalize (lg_sl ([.ref yh, .int p0, .int p1]) ++ List.replicate (3 - (lg_sl ([.ref yh, .int p0, .int p1])).length) Slot.unset).toArray = ls at hl ⊢
  have hl : lv_has ls 3 [(0, .ref yh), (1, .int p0), (2, .int p1)] := hl
  have lo_p0 := i_lo p0; have hi_p0 := i_hi p0
  have lo_p1 := i_lo p1; have hi_p1 := i_hi p1
  refine lv_iload_n hx hb dX5_isOf_0 rfl (lv_at hl 1 rfl) ?_
  refine lv_if_lt (tgt := 25) hx hb dX5_isOf_1 (by decide) (fun c_1 => ?_) (fun c_1 => ?_)
  ·
    have ic_1 : p0.toInt < 0 := by first | exact (g_lt rfl t_0).mp c_1 | (have h := mt (g_le t_0 rfl).mpr c_1; omega)
    clear c_1
    refine lv_iconst (v := 0) hx hb dX5_isOf_25 (by decide) ?_
    exact W.zret (v := 0) hx hb hr rfl (fun t ht hW => ⟨0, rfl, by first | exact Or.inr ⟨rfl, by omega⟩ | (exfalso; omega), ht⟩) (fun q h => by cases h) dX5_isOf_26
  ·
    have ic_1 : 0 ≤ p0.toInt := by first | exact (g_le t_0 rfl).mp c_1 | (have h := mt (g_lt rfl t_0).mpr c_1; omega)
    clear c_1
    refine lv_iload_n hx hb dX5_isOf_4 rfl (lv_at hl 1 rfl) ?_
    refine lv_aload_n hx hb dX5_isOf_5 rfl (lv_at hl 0 rfl) ?_
    refine va_get (D := D) (ci := 5) (v := .int ysights) (C := RX5) (T := TX5) (N := 11) hx hb htb iX5 hown hK.1 hP 0 rfl rfl 7 (by decide) (htb _ k_241) (fun _ h9 => h9) rfl dX5_isOf_6 ?_
    refine lv_icmp_ge (tgt := 25) hx hb dX5_isOf_9 (by decide) (fun c_2 => ?_) (fun c_2 => ?_)
    ·
      have ic_2 : ysights.toInt ≤ p0.toInt := by first | exact (g_le rfl rfl).mp c_2 | (have h := mt (g_lt rfl rfl).mpr c_2; omega)
      clear c_2
      refine lv_iconst (v := 0) hx hb dX5_isOf_25 (by decide) ?_
      exact W.zret (v := 0) hx hb hr rfl (fun t ht hW => ⟨0, rfl, by first | exact Or.inr ⟨rfl, by omega⟩ | (exfalso; omega), ht⟩) (fun q h => by cases h) dX5_isOf_26
    ·
      have ic_2 : p0.toInt < ysights.toInt := by first | exact (g_lt rfl rfl).mp c_2 | (have h := mt (g_le rfl rfl).mpr c_2; omega)
      clear c_2
      refine lv_iload_n hx hb dX5_isOf_12 rfl (lv_at hl 2 rfl) ?_
      refine lv_if_lt (tgt := 25) hx hb dX5_isOf_13 (by decide) (fun c_3 => ?_) (fun c_3 => ?_)
      ·
        have ic_3 : p1.toInt < 0 := by first | exact (g_lt rfl t_0).mp c_3 | (have h := mt (g_le t_0 rfl).mpr c_3; omega)
        clear c_3
        refine lv_iconst (v := 0) hx hb dX5_isOf_25 (by decide) ?_
        exact W.zret (v := 0) hx hb hr rfl (fun t ht hW => ⟨0, rfl, by first | exact Or.inr ⟨rfl, by omega⟩ | (exfalso; omega), ht⟩) (fun q h => by cases h) dX5_isOf_26
      ·
        have ic_3 : 0 ≤ p1.toInt := by first | exact (g_le t_0 rfl).mp c_3 | (have h := mt (g_lt rfl t_0).mpr c_3; omega)
        clear c_3
        refine lv_iload_n hx hb dX5_isOf_16 rfl (lv_at hl 2 rfl) ?_
        refine lv_iconst (v := 3) hx hb dX5_isOf_17 (by decide) ?_
        refine lv_icmp_ge (tgt := 25) hx hb dX5_isOf_18 (by decide) (fun c_4 => ?_) (fun c_4 => ?_)
        ·
          have ic_4 : 3 ≤ p1.toInt := by first | exact (g_le t_3 rfl).mp c_4 | (have h := mt (g_lt rfl t_3).mpr c_4; omega)
          clear c_4
          refine lv_iconst (v := 0) hx hb dX5_isOf_25 (by decide) ?_
          exact W.zret (v := 0) hx hb hr rfl (fun t ht hW => ⟨0, rfl, by first | exact Or.inr ⟨rfl, by omega⟩ | (exfalso; omega), ht⟩) (fun q h => by cases h) dX5_isOf_26
        ·
          have ic_4 : p1.toInt < 3 := by first | exact (g_lt rfl t_3).mp c_4 | (have h := mt (g_le t_3 rfl).mpr c_4; omega)
          clear c_4
          refine lv_iconst (v := 1) hx hb dX5_isOf_21 (by decide) ?_
          refine lv_goto (tgt := 26) hx hb dX5_isOf_22 (by decide) ?_
          exact W.zret (v := 1) hx hb hr rfl (fun t ht hW => ⟨1, rfl, by first | exact Or.inl ⟨rfl, by omega⟩ | (exfalso; omega), ht⟩) (fun q h => by cases h) dX5_isOf_26
set_option maxHeartbeats 4000000 in
set_option maxRecDepth 100000 in
theorem g_X5_daysSince (l : Launch) (D : va_G) (E : Nat → Nat) (yh : Nat) (ya : Nat → Nat) (ysights : Int32) (ystage : Int32) (ysailed : Int32) (yvoyage : Int32) (yf5 : Nat → Int32) (p0 : Int32) (hi_y : (0 ≤ ysights.toInt ∧ ysights.toInt ≤ 40)) : Met l yX5_daysSince (wl yX5_daysSince cX5_daysSince 2 (some .int)) (RM 1 0 0) (rd_P D E [.ref yh, .int p0] [(yh, .inr (5, G5 ya ysights ystage ysailed yvoyage)), ((ya 5), .inl (E 0, 40, .inl yf5))]) (rd_Q (fun r => True)) 0 0 (fun _ => False) := by
  refine Met.ofW (cc := cX5_daysSince) (maxL := 2) (ret := (some .int)) (by decide) rfl ?_
  intro p e s m args below meth c s₁ B hml hv
  obtain ⟨rfl, hP, hK⟩ := hv
  have hx := B.exec; have hb := B.bytes; have hr := B.returns
  have hts := atoms_spec (ws := wl yX5_daysSince cX5_daysSince 2 (some .int)) B.pre
  have htb : ∀ w ∈ tb, w.before _ s = true := fun w h => hts w (List.mem_cons_of_mem _ h)
  have hown : s.vm.findClass RX5 = some m.cls := findClass_of_methodNamed B.named
  have hlocks := B.notSynchronized
  have hP : va_P D vwCl [(yh, .inr (5, G5 ya ysights ystage ysailed yvoyage)), ((ya 5), .inl (E 0, 40, .inl yf5))] s.heap := hP
  have hl := lv_entry ([.ref yh, .int p0]) (n := 2) (Nat.le_of_ble_eq_true rfl)
  rw [lg_entry_eq]
  generalize (lg_sl ([.ref yh, .int p0]) ++ List.replicate (2 - (lg_sl ([.ref yh, .int p0])).length) Slot.unset).toArray = ls at hl ⊢
  have hl : lv_has ls 2 [(0, .ref yh), (1, .int p0)] := hl
  have lo_p0 := i_lo p0; have hi_p0 := i_hi p0
  refine lv_aload_n hx hb dX5_daysSince_0 rfl (lv_at hl 0 rfl) ?_
  refine lv_iload_n hx hb dX5_daysSince_1 rfl (lv_at hl 1 rfl) ?_
  refine lv_iconst (v := 0) hx hb dX5_daysSince_2 (by decide) ?_
  refine callRV (rest := []) (As := [.int p0, .int 0]) hx hb hml hown htb hK (g_X5_isOf l D E yh ya ysights ystage ysailed yvoyage p0 0 (by (try dsimp only); omega)) ok_X5_isOf k_833 k_835 ks_31 k_8 k_836 ⟨(Nat.le_of_ble_eq_true rfl), (Nat.le_of_ble_eq_true rfl)⟩ ⟨(Nat.le_of_ble_eq_true rfl), (Nat.le_of_ble_eq_true rfl)⟩ hl.1 (Nat.le_of_ble_eq_true rfl) rfl rfl dX5_daysSince_3 (hP.sub (ws' := [(yh, .inr (5, G5 ya ysights ystage ysailed yvoyage))]) [0] rfl) rfl rfl 0 rfl (fun r_1 hw_2 => ?_)
  try simp only [t_0] at hw_2
  rcases hw_2 with ⟨hr_1, hw_2⟩ | ⟨hr_1, hw_2⟩
  ·
    try simp only [t_0] at hw_2
    refine W_top (y := .int 1) (by rw [hr_1]) ?_
    refine lv_if_eq (tgt := 23) hx hb dX5_daysSince_6 (by decide) (fun c_4 => absurd c_4 (by decide)) (fun c_4 => ?_)
    refine lv_aload_n hx hb dX5_daysSince_9 rfl (lv_at hl 0 rfl) ?_
    refine va_get (D := D) (ci := 5) (v := .ref (ya 5)) (C := RX5) (T := TX5) (N := 11) hx hb htb iX5 hown hK.1 hP 0 rfl rfl 5 (by decide) (htb _ k_238) (fun _ h9 => h9) rfl dX5_daysSince_10 ?_
    refine lv_iload_n hx hb dX5_daysSince_13 rfl (lv_at hl 1 rfl) ?_
    refine va_iald hx hb hK.1 hP 1 0 rfl rfl (g_in rfl (by omega) (by omega)) dX5_daysSince_14 ?_
    refine lv_topi (fun z_5 ez_5 => ?_)
    have kz_5 := congrArg Int32.toInt ez_5
    refine lv_aload_n hx hb dX5_daysSince_15 rfl (lv_at hl 0 rfl) ?_
    refine va_get (D := D) (ci := 5) (v := .int ysailed) (C := RX5) (T := TX5) (N := 11) hx hb htb iX5 hown hK.1 hP 0 rfl rfl 9 (by decide) (htb _ k_245) (fun _ h9 => h9) rfl dX5_daysSince_16 ?_
    refine lv_isub hx hb dX5_daysSince_19 ?_
    refine lv_topi (fun z_6 ez_6 => ?_)
    refine lv_goto (tgt := 24) hx hb dX5_daysSince_20 (by decide) ?_
    exact W.iret (v := z_6) hx hb hr (fun t ht hW => ⟨z_6, rfl, trivial, ht⟩) (fun q h => by cases h) dX5_daysSince_24
  ·
    try simp only [t_0] at hw_2
    refine W_top (y := .int 0) (by rw [hr_1]) ?_
    refine lv_if_eq (tgt := 23) hx hb dX5_daysSince_6 (by decide) (fun c_7 => ?_) (fun c_7 => absurd (by decide) c_7)
    refine lv_iconst (v := 0) hx hb dX5_daysSince_23 (by decide) ?_
    exact W.iret (v := 0) hx hb hr (fun t ht hW => ⟨0, rfl, trivial, ht⟩) (fun q h => by cases h) dX5_daysSince_24
set_option maxHeartbeats 4000000 in
set_option maxRecDepth 100000 in
theorem g_X5_widthOf (l : Launch) (D : va_G) (E : Nat → Nat) (yh : Nat) (ya : Nat → Nat) (ysights : Int32) (ystage : Int32) (ysailed : Int32) (yvoyage : Int32) (yf3 : Nat → Int32) (yf5 : Nat → Int32) (p0 : Int32) (p1 : Int32) (hi_y : (0 ≤ ysights.toInt ∧ ysights.toInt ≤ 40)) : Met l yX5_widthOf (wl yX5_widthOf cX5_widthOf 4 (some .int)) (RM 2 0 0) (rd_P D E [.ref yh, .int p0, .int p1] [(yh, .inr (5, G5 ya ysights ystage ysailed yvoyage)), ((ya 3), .inl (E 0, 3, .inl yf3)), ((ya 5), .inl (E 0, 40, .inl yf5))]) (rd_Q (fun r => True)) 0 0 (fun _ => False) := by
  refine Met.ofW (cc := cX5_widthOf) (maxL := 4) (ret := (some .int)) (by decide) rfl ?_
  intro p e s m args below meth c s₁ B hml hv
  obtain ⟨rfl, hP, hK⟩ := hv
  have hx := B.exec; have hb := B.bytes; have hr := B.returns
  have hts := atoms_spec (ws := wl yX5_widthOf cX5_widthOf 4 (some .int)) B.pre
  have htb : ∀ w ∈ tb, w.before _ s = true := fun w h => hts w (List.mem_cons_of_mem _ h)
  have hown : s.vm.findClass RX5 = some m.cls := findClass_of_methodNamed B.named
  have hlocks := B.notSynchronized
  have hP : va_P D vwCl [(yh, .inr (5, G5 ya ysights ystage ysailed yvoyage)), ((ya 3), .inl (E 0, 3, .inl yf3)), ((ya 5), .inl (E 0, 40, .inl yf5))] s.heap := hP
  have hl := lv_entry ([.ref yh, .int p0, .int p1]) (n := 4) (Nat.le_of_ble_eq_true rfl)
  rw [lg_entry_eq]
  generalize (lg_sl ([.ref yh, .int p0, .int p1]) ++ List.replicate (4 - (lg_sl ([.ref yh, .int p0, .int p1])).length) Slot.unset).toArray = ls at hl ⊢
  have hl : lv_has ls 4 [(0, .ref yh), (1, .int p0), (2, .int p1)] := hl
  have lo_p0 := i_lo p0; have hi_p0 := i_hi p0
  have lo_p1 := i_lo p1; have hi_p1 := i_hi p1
  refine lv_aload_n hx hb dX5_widthOf_0 rfl (lv_at hl 0 rfl) ?_
  refine lv_iload_n hx hb dX5_widthOf_1 rfl (lv_at hl 1 rfl) ?_
  refine lv_iload_n hx hb dX5_widthOf_2 rfl (lv_at hl 2 rfl) ?_
  refine callRV (rest := []) (As := [.int p0, .int p1]) hx hb hml hown htb hK (g_X5_isOf l D E yh ya ysights ystage ysailed yvoyage p0 p1 (by (try dsimp only); omega)) ok_X5_isOf k_833 k_835 ks_31 k_8 k_836 ⟨(Nat.le_of_ble_eq_true rfl), (Nat.le_of_ble_eq_true rfl)⟩ ⟨(Nat.le_of_ble_eq_true rfl), (Nat.le_of_ble_eq_true rfl)⟩ hl.1 (Nat.le_of_ble_eq_true rfl) rfl rfl dX5_widthOf_3 (hP.sub (ws' := [(yh, .inr (5, G5 ya ysights ystage ysailed yvoyage))]) [0] rfl) rfl rfl 0 rfl (fun r_1 hw_2 => ?_)
  rcases hw_2 with ⟨hr_1, hw_2⟩ | ⟨hr_1, hw_2⟩
  ·
    refine W_top (y := .int 1) (by rw [hr_1]) ?_
    refine lv_if_ne (tgt := 11) hx hb dX5_widthOf_6 (by decide) (fun c_4 => ?_) (fun c_4 => absurd c_4 (by decide))
    refine lv_aload_n hx hb dX5_widthOf_11 rfl (lv_at hl 0 rfl) ?_
    refine lv_iload_n hx hb dX5_widthOf_12 rfl (lv_at hl 1 rfl) ?_
    refine callRV (rest := []) (As := [.int p0]) hx hb hml hown htb hK (g_X5_daysSince l D E yh ya ysights ystage ysailed yvoyage yf5 p0 (by (try dsimp only); omega)) ok_X5_daysSince k_837 k_838 k_839 k_8 k_840 ⟨(Nat.le_of_ble_eq_true rfl), (Nat.le_of_ble_eq_true rfl)⟩ ⟨(Nat.le_of_ble_eq_true rfl), (Nat.le_of_ble_eq_true rfl)⟩ hl.1 (Nat.le_of_ble_eq_true rfl) rfl rfl dX5_widthOf_13 (hP.sub (ws' := [(yh, .inr (5, G5 ya ysights ystage ysailed yvoyage)), ((ya 5), .inl (E 0, 40, .inl yf5))]) [0, 2] rfl) rfl rfl 0 rfl (fun r_5 hw_6 => ?_)
    refine lv_istore_n (lv' := [(3, .int r_5), (0, .ref yh), (1, .int p0), (2, .int p1)]) hx hb dX5_widthOf_16 rfl hl (by decide) rfl (fun ls hl => ?_)
    refine lv_aload_n hx hb dX5_widthOf_17 rfl (lv_at hl 1 rfl) ?_
    refine va_get (D := D) (ci := 5) (v := .ref (ya 3)) (C := RX5) (T := TX5) (N := 11) hx hb htb iX5 hown hK.1 hP 0 rfl rfl 3 (by decide) (htb _ k_234) (fun _ h9 => h9) rfl dX5_widthOf_18 ?_
    refine lv_iload_n hx hb dX5_widthOf_21 rfl (lv_at hl 3 rfl) ?_
    refine va_iald hx hb hK.1 hP 1 0 rfl rfl (g_in rfl (by omega) (by omega)) dX5_widthOf_22 ?_
    refine lv_topi (fun z_8 ez_8 => ?_)
    have kz_8 := congrArg Int32.toInt ez_8
    refine lv_aload_n hx hb dX5_widthOf_23 rfl (lv_at hl 1 rfl) ?_
    refine va_get (D := D) (ci := 5) (v := .int ystage) (C := RX5) (T := TX5) (N := 11) hx hb htb iX5 hown hK.1 hP 0 rfl rfl 8 (by decide) (htb _ k_243) (fun _ h9 => h9) rfl dX5_widthOf_24 ?_
    refine lv_iconst (v := 2) hx hb dX5_widthOf_27 (by decide) ?_
    refine lv_icmp_ne (tgt := 44) hx hb dX5_widthOf_28 (by decide) (fun c_9 => ?_) (fun c_9 => ?_)
    ·
      have ic_9 : ystage.toInt ≠ 2 := mt (g_eq rfl t_2).mpr c_9
      clear c_9
      refine lv_iload_n hx hb dX5_widthOf_44 rfl (lv_at hl 0 rfl) ?_
      refine lv_imul hx hb dX5_widthOf_45 ?_
      refine lv_topi (fun z_10 ez_10 => ?_)
      refine lv_iconst (v := 5) hx hb dX5_widthOf_46 (by decide) ?_
      refine lv_iadd hx hb dX5_widthOf_47 ?_
      refine lv_topi (fun z_11 ez_11 => ?_)
      exact W.iret (v := z_11) hx hb hr (fun t ht hW => ⟨z_11, rfl, trivial, ht⟩) (fun q h => by cases h) dX5_widthOf_48
    ·
      have ic_9 : ystage.toInt = 2 := (g_eq rfl t_2).mp c_9
      clear c_9
      refine lv_iload_n hx hb dX5_widthOf_31 rfl (lv_at hl 0 rfl) ?_
      refine lv_aload_n hx hb dX5_widthOf_32 rfl (lv_at hl 1 rfl) ?_
      refine va_get (D := D) (ci := 5) (v := .int yvoyage) (C := RX5) (T := TX5) (N := 11) hx hb htb iX5 hown hK.1 hP 0 rfl rfl 10 (by decide) (htb _ k_247) (fun _ h9 => h9) rfl dX5_widthOf_33 ?_
      refine lv_iload_n hx hb dX5_widthOf_36 rfl (lv_at hl 0 rfl) ?_
      refine lv_isub hx hb dX5_widthOf_37 ?_
      refine lv_topi (fun z_12 ez_12 => ?_)
      refine va_mmin hx hb (by rw [hml, hl.1]) hown (htb _ k_841) (htb _ k_725) (htb _ k_11) (htb _ k_726) (Nat.le_of_ble_eq_true rfl) (Nat.le_of_ble_eq_true rfl) (Nat.le_of_ble_eq_true rfl) (Nat.le_of_ble_eq_true rfl) dX5_widthOf_38 ?_
      refine lv_topi (fun z_13 ez_13 => ?_)
      have jz_13 := g_min rfl rfl ez_13
      refine lv_goto (tgt := 45) hx hb dX5_widthOf_41 (by decide) ?_
      refine lv_imul hx hb dX5_widthOf_45 ?_
      refine lv_topi (fun z_14 ez_14 => ?_)
      refine lv_iconst (v := 5) hx hb dX5_widthOf_46 (by decide) ?_
      refine lv_iadd hx hb dX5_widthOf_47 ?_
      refine lv_topi (fun z_15 ez_15 => ?_)
      exact W.iret (v := z_15) hx hb hr (fun t ht hW => ⟨z_15, rfl, trivial, ht⟩) (fun q h => by cases h) dX5_widthOf_48
  ·
    refine W_top (y := .int 0) (by rw [hr_1]) ?_
    refine lv_if_ne (tgt := 11) hx hb dX5_widthOf_6 (by decide) (fun c_16 => absurd (by decide) c_16) (fun c_16 => ?_)
    refine lv_iconst (v := 0) hx hb dX5_widthOf_9 (by decide) ?_
    exact W.iret (v := 0) hx hb hr (fun t ht hW => ⟨0, rfl, trivial, ht⟩) (fun q h => by cases h) dX5_widthOf_10
end
