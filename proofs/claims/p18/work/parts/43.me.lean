set_option maxHeartbeats 4000000 in
set_option maxRecDepth 100000 in
theorem g_X9_work (l : Launch) (D : va_G) (E : Nat → Nat) (mh : Nat) (ma : Nat → Nat) (mcode : Int32) (mtoday : Int32) (moffs : Int32) (mmany : Int64) (msumW : Int64) (msumA : Int64) (msumR : Int64) (msumWW : Int64) (msumWA : Int64) (msumAA : Int64) (msumWR : Int64) (msumAR : Int64) (mupper : Int64) (mlower : Int64) (mrates : Int32) (mtaped : Int32) (mlaid : Int32) (mat : Int32) (mtk : Int32) (mtkAt : Int32) (mtkNumber : Int32) (mwaits : Int32) (mlisted : Int32) (mdealtMany : Int32) (mf34 : Nat → Int32) (mf35 : Nat → Int32) (mf36 : Nat → Int32) (mf37 : Nat → Int32) (mf45 : Nat → Int32) (mf46 : Nat → Int32) (mf47 : Nat → Int32) (mf48 : Nat → Int32) (mf49 : Nat → Int32) (mf51 : Nat → Int32) (mf52 : Nat → Int32) (mf53 : Nat → Int32) (mf54 : Nat → Int32) (mf56 : Nat → Int32) (mf57 : Nat → Int32) (mf59 : Nat → Int32) (mf60 : Nat → Int32) (p0 : Int32) (p1 : Int32) (sz : Nat) (hi_m : (0 ≤ mtoday.toInt ∧ mtoday.toInt ≤ 399) ∧ (0 ≤ moffs.toInt ∧ moffs.toInt ≤ 60) ∧ (0 ≤ mrates.toInt ∧ mrates.toInt ≤ 60) ∧ (0 ≤ mtaped.toInt ∧ mtaped.toInt ≤ 120) ∧ (0 ≤ mlisted.toInt ∧ mlisted.toInt ≤ 9) ∧ (0 ≤ mdealtMany.toInt ∧ mdealtMany.toInt ≤ 9)) (hr_m35 : ∀ k : Nat, k < 2 → 0 ≤ (mf35 k).toInt ∧ (mf35 k).toInt ≤ 127) (g0 : 0 ≤ p0.toInt ∧ p0.toInt ≤ 4 ∧ 0 ≤ p1.toInt ∧ p1.toInt ≤ 39) (j49 : J49 mf47 mf49) (hjw : JW mf36 mf35) : Met l yX9_work (wl yX9_work cX9_work 11 (some .int)) (RM 2 0 0) (mu_P D E [.ref mh, .int p0, .int p1] [(mh, .inr (9, G9 ma mcode mtoday moffs mmany msumW msumA msumR msumWW msumWA msumAA msumWR msumAR mupper mlower mrates mtaped mlaid mat mtk mtkAt mtkNumber mwaits mlisted mdealtMany)), ((ma 34), .inl (E 1, 2, .inl mf34)), ((ma 35), .inl (E 0, 2, .inl mf35)), ((ma 36), .inl (E 0, 384, .inl mf36)), ((ma 37), .inl (E 0, 384, .inl mf37)), ((ma 45), .inl (E 0, 130, .inl mf45)), ((ma 46), .inl (E 0, 24, .inl mf46)), ((ma 47), .inl (E 0, 5, .inl mf47)), ((ma 48), .inl (E 0, 5, .inl mf48)), ((ma 49), .inl (E 0, 5, .inl mf49)), ((ma 51), .inl (E 0, 15, .inl mf51)), ((ma 52), .inl (E 0, 15, .inl mf52)), ((ma 53), .inl (E 0, 15, .inl mf53)), ((ma 54), .inl (E 0, 15, .inl mf54)), ((ma 56), .inl (E 0, 200, .inl mf56)), ((ma 57), .inl (E 0, 600, .inl mf57)), ((ma 59), .inl (E 0, 3, .inl mf59)), ((ma 60), .inl (E 0, 3, .inl mf60))] sz) (va_Qi (fun (r : Int32) (u : (Nat → Int32) × (Nat → Int32) × (Nat → Int32) × (Nat → Int32)) => True) (mu_B D (va_A [(mh, .inr (9, G9 ma mcode mtoday moffs mmany msumW msumA msumR msumWW msumWA msumAA msumWR msumAR mupper mlower mrates mtaped mlaid mat mtk mtkAt mtkNumber mwaits mlisted mdealtMany)), ((ma 34), .inl (E 1, 2, .inl mf34)), ((ma 35), .inl (E 0, 2, .inl mf35)), ((ma 36), .inl (E 0, 384, .inl mf36)), ((ma 37), .inl (E 0, 384, .inl mf37)), ((ma 45), .inl (E 0, 130, .inl mf45)), ((ma 46), .inl (E 0, 24, .inl mf46)), ((ma 47), .inl (E 0, 5, .inl mf47)), ((ma 48), .inl (E 0, 5, .inl mf48)), ((ma 49), .inl (E 0, 5, .inl mf49)), ((ma 51), .inl (E 0, 15, .inl mf51)), ((ma 52), .inl (E 0, 15, .inl mf52)), ((ma 53), .inl (E 0, 15, .inl mf53)), ((ma 54), .inl (E 0, 15, .inl mf54)), ((ma 56), .inl (E 0, 200, .inl mf56)), ((ma 57), .inl (E 0, 600, .inl mf57)), ((ma 59), .inl (E 0, 3, .inl mf59)), ((ma 60), .inl (E 0, 3, .inl mf60))] sz) (fun (u : (Nat → Int32) × (Nat → Int32) × (Nat → Int32) × (Nat → Int32)) => [(mh, .inr (9, G9 ma mcode mtoday moffs mmany msumW msumA msumR msumWW msumWA msumAA msumWR msumAR mupper mlower mrates mtaped mlaid mat mtk mtkAt mtkNumber mwaits mlisted mdealtMany)), ((ma 34), .inl (E 1, 2, .inl mf34)), ((ma 35), .inl (E 0, 2, .inl mf35)), ((ma 36), .inl (E 0, 384, .inl mf36)), ((ma 37), .inl (E 0, 384, .inl mf37)), ((ma 45), .inl (E 0, 130, .inl u.1)), ((ma 46), .inl (E 0, 24, .inl u.2.1)), ((ma 47), .inl (E 0, 5, .inl mf47)), ((ma 48), .inl (E 0, 5, .inl mf48)), ((ma 49), .inl (E 0, 5, .inl mf49)), ((ma 51), .inl (E 0, 15, .inl mf51)), ((ma 52), .inl (E 0, 15, .inl mf52)), ((ma 53), .inl (E 0, 15, .inl mf53)), ((ma 54), .inl (E 0, 15, .inl mf54)), ((ma 56), .inl (E 0, 200, .inl mf56)), ((ma 57), .inl (E 0, 600, .inl mf57)), ((ma 59), .inl (E 0, 3, .inl u.2.2.1)), ((ma 60), .inl (E 0, 3, .inl u.2.2.2))])) (va_A [(mh, .inr (9, G9 ma mcode mtoday moffs mmany msumW msumA msumR msumWW msumWA msumAA msumWR msumAR mupper mlower mrates mtaped mlaid mat mtk mtkAt mtkNumber mwaits mlisted mdealtMany)), ((ma 34), .inl (E 1, 2, .inl mf34)), ((ma 35), .inl (E 0, 2, .inl mf35)), ((ma 36), .inl (E 0, 384, .inl mf36)), ((ma 37), .inl (E 0, 384, .inl mf37)), ((ma 45), .inl (E 0, 130, .inl mf45)), ((ma 46), .inl (E 0, 24, .inl mf46)), ((ma 47), .inl (E 0, 5, .inl mf47)), ((ma 48), .inl (E 0, 5, .inl mf48)), ((ma 49), .inl (E 0, 5, .inl mf49)), ((ma 51), .inl (E 0, 15, .inl mf51)), ((ma 52), .inl (E 0, 15, .inl mf52)), ((ma 53), .inl (E 0, 15, .inl mf53)), ((ma 54), .inl (E 0, 15, .inl mf54)), ((ma 56), .inl (E 0, 200, .inl mf56)), ((ma 57), .inl (E 0, 600, .inl mf57)), ((ma 59), .inl (E 0, 3, .inl mf59)), ((ma 60), .inl (E 0, 3, .inl mf60))] sz)) 0 0 (va_A [(mh, .inr (9, G9 ma mcode mtoday moffs mmany msumW msumA msumR msumWW msumWA msumAA msumWR msumAR mupper mlower mrates mtaped mlaid mat mtk mtkAt mtkNumber mwaits mlisted mdealtMany)), ((ma 34), .inl (E 1, 2, .inl mf34)), ((ma 35), .inl (E 0, 2, .inl mf35)), ((ma 36), .inl (E 0, 384, .inl mf36)), ((ma 37), .inl (E 0, 384, .inl mf37)), ((ma 45), .inl (E 0, 130, .inl mf45)), ((ma 46), .inl (E 0, 24, .inl mf46)), ((ma 47), .inl (E 0, 5, .inl mf47)), ((ma 48), .inl (E 0, 5, .inl mf48)), ((ma 49), .inl (E 0, 5, .inl mf49)), ((ma 51), .inl (E 0, 15, .inl mf51)), ((ma 52), .inl (E 0, 15, .inl mf52)), ((ma 53), .inl (E 0, 15, .inl mf53)), ((ma 54), .inl (E 0, 15, .inl mf54)), ((ma 56), .inl (E 0, 200, .inl mf56)), ((ma 57), .inl (E 0, 600, .inl mf57)), ((ma 59), .inl (E 0, 3, .inl mf59)), ((ma 60), .inl (E 0, 3, .inl mf60))] sz) := by
  refine Met.ofW (cc := cX9_work) (maxL := 11) (ret := (some .int)) (by decide) rfl ?_
  intro p e s m args below meth c s₁ B hml hv
  obtain ⟨rfl, hsz, hP, hK, hD0⟩ := hv
  have hx := B.exec; have hb := B.bytes; have hr := B.returns
  have hts := atoms_spec (ws := wl yX9_work cX9_work 11 (some .int)) B.pre
  have htb : ∀ w ∈ tb, w.before _ s = true := fun w h => hts w (List.mem_cons_of_mem _ h)
  have hown : s.vm.findClass RX9 = some m.cls := findClass_of_methodNamed B.named
  have hlocks := B.notSynchronized
  subst hsz
  have hD := hD0.self (sz := s.heap.size)
  generalize hAe : va_A [(mh, .inr (9, G9 ma mcode mtoday moffs mmany msumW msumA msumR msumWW msumWA msumAA msumWR msumAR mupper mlower mrates mtaped mlaid mat mtk mtkAt mtkNumber mwaits mlisted mdealtMany)), ((ma 34), .inl (E 1, 2, .inl mf34)), ((ma 35), .inl (E 0, 2, .inl mf35)), ((ma 36), .inl (E 0, 384, .inl mf36)), ((ma 37), .inl (E 0, 384, .inl mf37)), ((ma 45), .inl (E 0, 130, .inl mf45)), ((ma 46), .inl (E 0, 24, .inl mf46)), ((ma 47), .inl (E 0, 5, .inl mf47)), ((ma 48), .inl (E 0, 5, .inl mf48)), ((ma 49), .inl (E 0, 5, .inl mf49)), ((ma 51), .inl (E 0, 15, .inl mf51)), ((ma 52), .inl (E 0, 15, .inl mf52)), ((ma 53), .inl (E 0, 15, .inl mf53)), ((ma 54), .inl (E 0, 15, .inl mf54)), ((ma 56), .inl (E 0, 200, .inl mf56)), ((ma 57), .inl (E 0, 600, .inl mf57)), ((ma 59), .inl (E 0, 3, .inl mf59)), ((ma 60), .inl (E 0, 3, .inl mf60))] s.heap.size = A at hD ⊢
  have hA : ∀ q : Nat, s.heap.size ≤ q → A q := fun q h => by rw [← hAe]; exact Or.inr h
  have hS : va_S A s.heap s.heap [] := va_S.rf
  have hP : va_P D vwCl [(mh, .inr (9, G9 ma mcode mtoday moffs mmany msumW msumA msumR msumWW msumWA msumAA msumWR msumAR mupper mlower mrates mtaped mlaid mat mtk mtkAt mtkNumber mwaits mlisted mdealtMany)), ((ma 34), .inl (E 1, 2, .inl mf34)), ((ma 35), .inl (E 0, 2, .inl mf35)), ((ma 36), .inl (E 0, 384, .inl mf36)), ((ma 37), .inl (E 0, 384, .inl mf37)), ((ma 45), .inl (E 0, 130, .inl mf45)), ((ma 46), .inl (E 0, 24, .inl mf46)), ((ma 47), .inl (E 0, 5, .inl mf47)), ((ma 48), .inl (E 0, 5, .inl mf48)), ((ma 49), .inl (E 0, 5, .inl mf49)), ((ma 51), .inl (E 0, 15, .inl mf51)), ((ma 52), .inl (E 0, 15, .inl mf52)), ((ma 53), .inl (E 0, 15, .inl mf53)), ((ma 54), .inl (E 0, 15, .inl mf54)), ((ma 56), .inl (E 0, 200, .inl mf56)), ((ma 57), .inl (E 0, 600, .inl mf57)), ((ma 59), .inl (E 0, 3, .inl mf59)), ((ma 60), .inl (E 0, 3, .inl mf60))] s.heap := hP
  have hl := lv_entry ([.ref mh, .int p0, .int p1]) (n := 11) (Nat.le_of_ble_eq_true rfl)
  rw [lg_entry_eq]
  generalize (lg_sl ([.ref mh, .int p0, .int p1]) ++ List.replicate (11 - (lg_sl ([.ref mh, .int p0, .int p1])).length) Slot.unset).toArray = ls at hl ⊢
  have hl : lv_has ls 11 [(0, .ref mh), (1, .int p0), (2, .int p1)] := hl
  have lo_p0 := i_lo p0; have hi_p0 := i_hi p0
  have lo_p1 := i_lo p1; have hi_p1 := i_hi p1
  refine lv_aload_n hx hb dX9_work_0 rfl (lv_at hl 0 rfl) ?_
  refine va_get (D := D) (ci := 9) (v := .ref (ma 56)) (C := RX9) (T := TX9) (N := 68) hx hb htb iX9 hown hK.1 hP 0 rfl rfl 56 (by decide) (htb _ k_1014) (fun _ h9 => h9) rfl dX9_work_1 ?_
  refine lv_bipush (v := 40) hx hb dX9_work_4 (by decide) ?_
  refine lv_iload_n hx hb dX9_work_6 rfl (lv_at hl 1 rfl) ?_
  refine lv_imul hx hb dX9_work_7 ?_
  refine lv_topi (fun z_1 ez_1 => ?_)
  have jz_1 : z_1.toInt = 40 * p0.toInt := by rw [ez_1]; exact g_mul t_40 rfl (by omega) (by omega)
  refine lv_iload_n hx hb dX9_work_8 rfl (lv_at hl 2 rfl) ?_
  refine lv_iadd hx hb dX9_work_9 ?_
  refine lv_topi (fun z_2 ez_2 => ?_)
  have jz_2 : z_2.toInt = z_1.toInt + p1.toInt := by rw [ez_2]; exact g_add rfl rfl (by omega) (by omega)
  refine va_iald hx hb hK.1 hP 14 0 rfl rfl (g_in rfl (by omega) (by omega)) dX9_work_10 ?_
  refine lv_topi (fun z_3 ez_3 => ?_)
  have kz_3 := congrArg Int32.toInt ez_3
  refine lv_aload_n hx hb dX9_work_11 rfl (lv_at hl 0 rfl) ?_
  refine va_get (D := D) (ci := 9) (v := .ref (ma 48)) (C := RX9) (T := TX9) (N := 68) hx hb htb iX9 hown hK.1 hP 0 rfl rfl 48 (by decide) (htb _ k_1006) (fun _ h9 => h9) rfl dX9_work_12 ?_
  refine lv_iload_n hx hb dX9_work_15 rfl (lv_at hl 1 rfl) ?_
  refine va_iald hx hb hK.1 hP 8 0 rfl rfl (g_in rfl (by omega) (by omega)) dX9_work_16 ?_
  refine lv_topi (fun z_4 ez_4 => ?_)
  have kz_4 := congrArg Int32.toInt ez_4
  refine lv_isub hx hb dX9_work_17 ?_
  refine lv_topi (fun z_5 ez_5 => ?_)
  refine lv_istore_n (lv' := [(3, .int z_5), (0, .ref mh), (1, .int p0), (2, .int p1)]) hx hb dX9_work_18 rfl hl (by decide) rfl (fun ls hl => ?_)
  refine lv_aload_n hx hb dX9_work_19 rfl (lv_at hl 1 rfl) ?_
  refine va_get (D := D) (ci := 9) (v := .ref (ma 47)) (C := RX9) (T := TX9) (N := 68) hx hb htb iX9 hown hK.1 hP 0 rfl rfl 47 (by decide) (htb _ k_1005) (fun _ h9 => h9) rfl dX9_work_20 ?_
  refine lv_iload_n hx hb dX9_work_23 rfl (lv_at hl 2 rfl) ?_
  refine va_iald hx hb hK.1 hP 7 0 rfl rfl (g_in rfl (by omega) (by omega)) dX9_work_24 ?_
  refine lv_topi (fun z_6 ez_6 => ?_)
  have kz_6 := congrArg Int32.toInt ez_6
  refine lv_iconst (v := 2) hx hb dX9_work_25 (by decide) ?_
  refine lv_icmp_ne (tgt := 33) hx hb dX9_work_26 (by decide) (fun c_7 => ?_) (fun c_7 => ?_)
  ·
    have ic_7 : z_6.toInt ≠ 2 := mt (g_eq rfl t_2).mpr c_7
    clear c_7
    refine lv_iconst (v := 0) hx hb dX9_work_33 (by decide) ?_
    refine lv_istore (lv' := [(4, .int 0), (3, .int z_5), (0, .ref mh), (1, .int p0), (2, .int p1)]) hx hb dX9_work_34 hl (by decide) rfl (fun ls hl => ?_)
    refine lv_iconst (v := 0) hx hb dX9_work_36 (by decide) ?_
    refine lv_istore (lv' := [(5, .int 0), (4, .int 0), (3, .int z_5), (0, .ref mh), (1, .int p0), (2, .int p1)]) hx hb dX9_work_37 hl (by decide) rfl (fun ls hl => ?_)
    have loop_8 : ∀ (N_10 : Nat) (L5_39 : Int32) (mf59_39 : Nat → Int32) (mf60_39 : Nat → Int32) (H : Heap) (locs : List Loc) (ls : Array Slot), 3 - L5_39.toInt < (N_10 : Int) → (0 ≤ L5_39.toInt ∧ L5_39.toInt ≤ 3) → va_P D vwCl [(mh, .inr (9, G9 ma mcode mtoday moffs mmany msumW msumA msumR msumWW msumWA msumAA msumWR msumAR mupper mlower mrates mtaped mlaid mat mtk mtkAt mtkNumber mwaits mlisted mdealtMany)), ((ma 34), .inl (E 1, 2, .inl mf34)), ((ma 35), .inl (E 0, 2, .inl mf35)), ((ma 36), .inl (E 0, 384, .inl mf36)), ((ma 37), .inl (E 0, 384, .inl mf37)), ((ma 45), .inl (E 0, 130, .inl mf45)), ((ma 46), .inl (E 0, 24, .inl mf46)), ((ma 47), .inl (E 0, 5, .inl mf47)), ((ma 48), .inl (E 0, 5, .inl mf48)), ((ma 49), .inl (E 0, 5, .inl mf49)), ((ma 51), .inl (E 0, 15, .inl mf51)), ((ma 52), .inl (E 0, 15, .inl mf52)), ((ma 53), .inl (E 0, 15, .inl mf53)), ((ma 54), .inl (E 0, 15, .inl mf54)), ((ma 56), .inl (E 0, 200, .inl mf56)), ((ma 57), .inl (E 0, 600, .inl mf57)), ((ma 59), .inl (E 0, 3, .inl mf59_39)), ((ma 60), .inl (E 0, 3, .inl mf60_39))] H → va_D A [(mh, .inr (9, G9 ma mcode mtoday moffs mmany msumW msumA msumR msumWW msumWA msumAA msumWR msumAR mupper mlower mrates mtaped mlaid mat mtk mtkAt mtkNumber mwaits mlisted mdealtMany)), ((ma 34), .inl (E 1, 2, .inl mf34)), ((ma 35), .inl (E 0, 2, .inl mf35)), ((ma 36), .inl (E 0, 384, .inl mf36)), ((ma 37), .inl (E 0, 384, .inl mf37)), ((ma 45), .inl (E 0, 130, .inl mf45)), ((ma 46), .inl (E 0, 24, .inl mf46)), ((ma 47), .inl (E 0, 5, .inl mf47)), ((ma 48), .inl (E 0, 5, .inl mf48)), ((ma 49), .inl (E 0, 5, .inl mf49)), ((ma 51), .inl (E 0, 15, .inl mf51)), ((ma 52), .inl (E 0, 15, .inl mf52)), ((ma 53), .inl (E 0, 15, .inl mf53)), ((ma 54), .inl (E 0, 15, .inl mf54)), ((ma 56), .inl (E 0, 200, .inl mf56)), ((ma 57), .inl (E 0, 600, .inl mf57)), ((ma 59), .inl (E 0, 3, .inl mf59_39)), ((ma 60), .inl (E 0, 3, .inl mf60_39))] → va_S A s.heap H locs → lv_has ls 11 [(5, .int L5_39), (4, .int 0), (3, .int z_5), (0, .ref mh), (1, .int p0), (2, .int p1)] → W p l e (headSpec (wl yX9_work cX9_work 11 (some .int)) (RM 2 0 0)).room s m [Value.ref mh, .int p0, .int p1].toArray below meth c H locs 0 0 (MQ below (va_Qi (fun (r : Int32) (u : (Nat → Int32) × (Nat → Int32) × (Nat → Int32) × (Nat → Int32)) => True) (mu_B D A (fun (u : (Nat → Int32) × (Nat → Int32) × (Nat → Int32) × (Nat → Int32)) => [(mh, .inr (9, G9 ma mcode mtoday moffs mmany msumW msumA msumR msumWW msumWA msumAA msumWR msumAR mupper mlower mrates mtaped mlaid mat mtk mtkAt mtkNumber mwaits mlisted mdealtMany)), ((ma 34), .inl (E 1, 2, .inl mf34)), ((ma 35), .inl (E 0, 2, .inl mf35)), ((ma 36), .inl (E 0, 384, .inl mf36)), ((ma 37), .inl (E 0, 384, .inl mf37)), ((ma 45), .inl (E 0, 130, .inl u.1)), ((ma 46), .inl (E 0, 24, .inl u.2.1)), ((ma 47), .inl (E 0, 5, .inl mf47)), ((ma 48), .inl (E 0, 5, .inl mf48)), ((ma 49), .inl (E 0, 5, .inl mf49)), ((ma 51), .inl (E 0, 15, .inl mf51)), ((ma 52), .inl (E 0, 15, .inl mf52)), ((ma 53), .inl (E 0, 15, .inl mf53)), ((ma 54), .inl (E 0, 15, .inl mf54)), ((ma 56), .inl (E 0, 200, .inl mf56)), ((ma 57), .inl (E 0, 600, .inl mf57)), ((ma 59), .inl (E 0, 3, .inl u.2.2.1)), ((ma 60), .inl (E 0, 3, .inl u.2.2.2))])) A) [Value.ref mh, .int p0, .int p1].toArray s 0 0 A) (F0 m 39 ls []) := by
      intro N_10
      induction N_10 with
      | zero => intro L5_39 mf59_39 mf60_39 H locs ls hm v0_39 _ _ _ _; exfalso; omega
      | succ N_10 ih_9 =>
        intro L5_39 mf59_39 mf60_39 H locs ls hm v0_39 hP hD hS hl
        have lo_L5_39 := i_lo L5_39; have hi_L5_39 := i_hi L5_39
        refine lv_iload hx hb dX9_work_39 (lv_at hl 0 rfl) ?_
        refine lv_iconst (v := 3) hx hb dX9_work_41 (by decide) ?_
        refine lv_icmp_ge (tgt := 192) hx hb dX9_work_42 (by decide) (fun c_11 => ?_) (fun c_11 => ?_)
        ·
          have ic_11 : 3 ≤ L5_39.toInt := by first | exact (g_le t_3 rfl).mp c_11 | (have h := mt (g_lt rfl t_3).mpr c_11; omega)
          clear c_11
          refine lv_aload_n hx hb dX9_work_192 rfl (lv_at hl 3 rfl) ?_
          refine va_get (D := D) (ci := 9) (v := .ref (ma 34)) (C := RX9) (T := TX9) (N := 68) hx hb htb iX9 hown hK.1 hP 0 rfl rfl 34 (by decide) (htb _ k_992) (fun _ h9 => h9) rfl dX9_work_193 ?_
          refine lv_iconst (v := 1) hx hb dX9_work_196 (by decide) ?_
          refine va_zald hx hb hK.1 hP 1 1 rfl rfl (g_in t_1 (by decide) (by decide)) dX9_work_197 ?_
          refine lv_topi (fun z_12 ez_12 => ?_)
          have kz_12 := congrArg Int32.toInt ez_12
          refine lv_if_ne (tgt := 203) hx hb dX9_work_198 (by decide) (fun c_13 => ?_) (fun c_13 => ?_)
          ·
            have ic_13 : z_12.toInt ≠ 0 := mt (g_eq rfl t_0).mpr c_13
            clear c_13
            refine lv_iconst (v := (-1)) hx hb dX9_work_203 (by decide) ?_
            refine lv_istore (lv' := [(5, .int (-1)), (4, .int 0), (3, .int z_5), (0, .ref mh), (1, .int p0), (2, .int p1)]) hx hb dX9_work_204 hl (by decide) rfl (fun ls hl => ?_)
            refine lv_iconst (v := 0) hx hb dX9_work_206 (by decide) ?_
            refine lv_istore (lv' := [(6, .int 0), (5, .int (-1)), (4, .int 0), (3, .int z_5), (0, .ref mh), (1, .int p0), (2, .int p1)]) hx hb dX9_work_207 hl (by decide) rfl (fun ls hl => ?_)
            refine lv_iconst (v := 0) hx hb dX9_work_209 (by decide) ?_
            refine lv_istore (lv' := [(7, .int 0), (6, .int 0), (5, .int (-1)), (4, .int 0), (3, .int z_5), (0, .ref mh), (1, .int p0), (2, .int p1)]) hx hb dX9_work_210 hl (by decide) rfl (fun ls hl => ?_)
            have loop_14 : ∀ (N_16 : Nat) (L7_212 : Int32) (L6_212 : Int32) (L5_212 : Int32) (mf45_212 : Nat → Int32) (mf46_212 : Nat → Int32) (H : Heap) (locs : List Loc) (ls : Array Slot), 3 - L7_212.toInt < (N_16 : Int) → (0 ≤ L7_212.toInt ∧ L7_212.toInt ≤ 3) → va_P D vwCl [(mh, .inr (9, G9 ma mcode mtoday moffs mmany msumW msumA msumR msumWW msumWA msumAA msumWR msumAR mupper mlower mrates mtaped mlaid mat mtk mtkAt mtkNumber mwaits mlisted mdealtMany)), ((ma 34), .inl (E 1, 2, .inl mf34)), ((ma 35), .inl (E 0, 2, .inl mf35)), ((ma 36), .inl (E 0, 384, .inl mf36)), ((ma 37), .inl (E 0, 384, .inl mf37)), ((ma 45), .inl (E 0, 130, .inl mf45_212)), ((ma 46), .inl (E 0, 24, .inl mf46_212)), ((ma 47), .inl (E 0, 5, .inl mf47)), ((ma 48), .inl (E 0, 5, .inl mf48)), ((ma 49), .inl (E 0, 5, .inl mf49)), ((ma 51), .inl (E 0, 15, .inl mf51)), ((ma 52), .inl (E 0, 15, .inl mf52)), ((ma 53), .inl (E 0, 15, .inl mf53)), ((ma 54), .inl (E 0, 15, .inl mf54)), ((ma 56), .inl (E 0, 200, .inl mf56)), ((ma 57), .inl (E 0, 600, .inl mf57)), ((ma 59), .inl (E 0, 3, .inl mf59_39)), ((ma 60), .inl (E 0, 3, .inl mf60_39))] H → va_D A [(mh, .inr (9, G9 ma mcode mtoday moffs mmany msumW msumA msumR msumWW msumWA msumAA msumWR msumAR mupper mlower mrates mtaped mlaid mat mtk mtkAt mtkNumber mwaits mlisted mdealtMany)), ((ma 34), .inl (E 1, 2, .inl mf34)), ((ma 35), .inl (E 0, 2, .inl mf35)), ((ma 36), .inl (E 0, 384, .inl mf36)), ((ma 37), .inl (E 0, 384, .inl mf37)), ((ma 45), .inl (E 0, 130, .inl mf45_212)), ((ma 46), .inl (E 0, 24, .inl mf46_212)), ((ma 47), .inl (E 0, 5, .inl mf47)), ((ma 48), .inl (E 0, 5, .inl mf48)), ((ma 49), .inl (E 0, 5, .inl mf49)), ((ma 51), .inl (E 0, 15, .inl mf51)), ((ma 52), .inl (E 0, 15, .inl mf52)), ((ma 53), .inl (E 0, 15, .inl mf53)), ((ma 54), .inl (E 0, 15, .inl mf54)), ((ma 56), .inl (E 0, 200, .inl mf56)), ((ma 57), .inl (E 0, 600, .inl mf57)), ((ma 59), .inl (E 0, 3, .inl mf59_39)), ((ma 60), .inl (E 0, 3, .inl mf60_39))] → va_S A s.heap H locs → lv_has ls 11 [(7, .int L7_212), (6, .int L6_212), (5, .int L5_212), (4, .int 0), (3, .int z_5), (0, .ref mh), (1, .int p0), (2, .int p1)] → W p l e (headSpec (wl yX9_work cX9_work 11 (some .int)) (RM 2 0 0)).room s m [Value.ref mh, .int p0, .int p1].toArray below meth c H locs 0 0 (MQ below (va_Qi (fun (r : Int32) (u : (Nat → Int32) × (Nat → Int32) × (Nat → Int32) × (Nat → Int32)) => True) (mu_B D A (fun (u : (Nat → Int32) × (Nat → Int32) × (Nat → Int32) × (Nat → Int32)) => [(mh, .inr (9, G9 ma mcode mtoday moffs mmany msumW msumA msumR msumWW msumWA msumAA msumWR msumAR mupper mlower mrates mtaped mlaid mat mtk mtkAt mtkNumber mwaits mlisted mdealtMany)), ((ma 34), .inl (E 1, 2, .inl mf34)), ((ma 35), .inl (E 0, 2, .inl mf35)), ((ma 36), .inl (E 0, 384, .inl mf36)), ((ma 37), .inl (E 0, 384, .inl mf37)), ((ma 45), .inl (E 0, 130, .inl u.1)), ((ma 46), .inl (E 0, 24, .inl u.2.1)), ((ma 47), .inl (E 0, 5, .inl mf47)), ((ma 48), .inl (E 0, 5, .inl mf48)), ((ma 49), .inl (E 0, 5, .inl mf49)), ((ma 51), .inl (E 0, 15, .inl mf51)), ((ma 52), .inl (E 0, 15, .inl mf52)), ((ma 53), .inl (E 0, 15, .inl mf53)), ((ma 54), .inl (E 0, 15, .inl mf54)), ((ma 56), .inl (E 0, 200, .inl mf56)), ((ma 57), .inl (E 0, 600, .inl mf57)), ((ma 59), .inl (E 0, 3, .inl u.2.2.1)), ((ma 60), .inl (E 0, 3, .inl u.2.2.2))])) A) [Value.ref mh, .int p0, .int p1].toArray s 0 0 A) (F0 m 212 ls []) := by
              intro N_16
              induction N_16 with
              | zero => intro L7_212 L6_212 L5_212 mf45_212 mf46_212 H locs ls hm v0_212 _ _ _ _; exfalso; omega
              | succ N_16 ih_15 =>
                intro L7_212 L6_212 L5_212 mf45_212 mf46_212 H locs ls hm v0_212 hP hD hS hl
                have lo_L7_212 := i_lo L7_212; have hi_L7_212 := i_hi L7_212
                have lo_L6_212 := i_lo L6_212; have hi_L6_212 := i_hi L6_212
                have lo_L5_212 := i_lo L5_212; have hi_L5_212 := i_hi L5_212
                refine lv_iload hx hb dX9_work_212 (lv_at hl 0 rfl) ?_
                refine lv_iconst (v := 3) hx hb dX9_work_214 (by decide) ?_
                refine lv_icmp_ge (tgt := 339) hx hb dX9_work_215 (by decide) (fun c_17 => ?_) (fun c_17 => ?_)
                ·
                  have ic_17 : 3 ≤ L7_212.toInt := by first | exact (g_le t_3 rfl).mp c_17 | (have h := mt (g_lt rfl t_3).mpr c_17; omega)
                  clear c_17
                  refine lv_iload hx hb dX9_work_339 (lv_at hl 2 rfl) ?_
                  have hP9 := hP.sub (ws' := [(mh, .inr (9, G9 ma mcode mtoday moffs mmany msumW msumA msumR msumWW msumWA msumAA msumWR msumAR mupper mlower mrates mtaped mlaid mat mtk mtkAt mtkNumber mwaits mlisted mdealtMany)), ((ma 34), .inl (E 1, 2, .inl mf34)), ((ma 35), .inl (E 0, 2, .inl mf35)), ((ma 36), .inl (E 0, 384, .inl mf36)), ((ma 37), .inl (E 0, 384, .inl mf37)), ((ma 45), .inl (E 0, 130, .inl mf45_212)), ((ma 46), .inl (E 0, 24, .inl mf46_212)), ((ma 47), .inl (E 0, 5, .inl mf47)), ((ma 48), .inl (E 0, 5, .inl mf48)), ((ma 49), .inl (E 0, 5, .inl mf49)), ((ma 51), .inl (E 0, 15, .inl mf51)), ((ma 52), .inl (E 0, 15, .inl mf52)), ((ma 53), .inl (E 0, 15, .inl mf53)), ((ma 54), .inl (E 0, 15, .inl mf54)), ((ma 56), .inl (E 0, 200, .inl mf56)), ((ma 57), .inl (E 0, 600, .inl mf57)), ((ma 59), .inl (E 0, 3, .inl mf59_39)), ((ma 60), .inl (E 0, 3, .inl mf60_39))]) [0, 1, 2, 3, 4, 5, 6, 7, 8, 9, 10, 11, 12, 13, 14, 15, 16, 17] rfl
                  have hD9 := hD.sub (ws' := [(mh, .inr (9, G9 ma mcode mtoday moffs mmany msumW msumA msumR msumWW msumWA msumAA msumWR msumAR mupper mlower mrates mtaped mlaid mat mtk mtkAt mtkNumber mwaits mlisted mdealtMany)), ((ma 34), .inl (E 1, 2, .inl mf34)), ((ma 35), .inl (E 0, 2, .inl mf35)), ((ma 36), .inl (E 0, 384, .inl mf36)), ((ma 37), .inl (E 0, 384, .inl mf37)), ((ma 45), .inl (E 0, 130, .inl mf45_212)), ((ma 46), .inl (E 0, 24, .inl mf46_212)), ((ma 47), .inl (E 0, 5, .inl mf47)), ((ma 48), .inl (E 0, 5, .inl mf48)), ((ma 49), .inl (E 0, 5, .inl mf49)), ((ma 51), .inl (E 0, 15, .inl mf51)), ((ma 52), .inl (E 0, 15, .inl mf52)), ((ma 53), .inl (E 0, 15, .inl mf53)), ((ma 54), .inl (E 0, 15, .inl mf54)), ((ma 56), .inl (E 0, 200, .inl mf56)), ((ma 57), .inl (E 0, 600, .inl mf57)), ((ma 59), .inl (E 0, 3, .inl mf59_39)), ((ma 60), .inl (E 0, 3, .inl mf60_39))]) [0, 1, 2, 3, 4, 5, 6, 7, 8, 9, 10, 11, 12, 13, 14, 15, 16, 17] (by decide) rfl
                  exact W.iret (v := L5_212) hx hb hr (fun t ht hW => ⟨⟨L5_212, (mf45_212, mf46_212, mf59_39, mf60_39), rfl, trivial, by rw [ht]; exact hP9, hD9⟩, hS.F ht⟩) hS.2.2 dX9_work_341
                ·
                  have ic_17 : L7_212.toInt < 3 := by first | exact (g_lt rfl t_3).mp c_17 | (have h := mt (g_le t_3 rfl).mpr c_17; omega)
                  clear c_17
                  refine lv_aload_n hx hb dX9_work_218 rfl (lv_at hl 5 rfl) ?_
                  refine va_get (D := D) (ci := 9) (v := .ref (ma 59)) (C := RX9) (T := TX9) (N := 68) hx hb htb iX9 hown hK.1 hP 0 rfl rfl 59 (by decide) (htb _ k_1017) (fun _ h9 => h9) rfl dX9_work_219 ?_
                  refine lv_iload hx hb dX9_work_222 (lv_at hl 0 rfl) ?_
                  refine lv_iconst (v := 1) hx hb dX9_work_224 (by decide) ?_
                  refine lv_iadd hx hb dX9_work_225 ?_
                  refine lv_topi (fun z_18 ez_18 => ?_)
                  have jz_18 : z_18.toInt = L7_212.toInt + 1 := by rw [ez_18]; exact g_add rfl t_1 (by omega) (by omega)
                  refine lv_iconst (v := 3) hx hb dX9_work_226 (by decide) ?_
                  refine lv_irem hx hb dX9_work_227 (by decide) ?_
                  refine lv_topi (fun z_19 ez_19 => ?_)
                  have jz_19 : z_19.toInt = z_18.toInt % 3 := by rw [ez_19]; exact g_rem rfl t_3 (by omega) (by decide)
                  refine va_iald hx hb hK.1 hP 16 0 rfl rfl (g_in rfl (by omega) (by omega)) dX9_work_228 ?_
                  refine lv_topi (fun z_20 ez_20 => ?_)
                  have kz_20 := congrArg Int32.toInt ez_20
                  obtain ⟨z_21, ez_21⟩ : ∃ y : Int64, (z_20 : Int32).toInt64 = y := ⟨_, rfl⟩
                  refine lv_i2l hx hb dX9_work_229 ez_21 ?_
                  refine lv_aload_n hx hb dX9_work_230 rfl (lv_at hl 5 rfl) ?_
                  refine va_get (D := D) (ci := 9) (v := .ref (ma 59)) (C := RX9) (T := TX9) (N := 68) hx hb htb iX9 hown hK.1 hP 0 rfl rfl 59 (by decide) (htb _ k_1017) (fun _ h9 => h9) rfl dX9_work_231 ?_
                  refine lv_iload hx hb dX9_work_234 (lv_at hl 0 rfl) ?_
                  refine lv_iconst (v := 2) hx hb dX9_work_236 (by decide) ?_
                  refine lv_iadd hx hb dX9_work_237 ?_
                  refine lv_topi (fun z_22 ez_22 => ?_)
                  have jz_22 : z_22.toInt = L7_212.toInt + 2 := by rw [ez_22]; exact g_add rfl t_2 (by omega) (by omega)
                  refine lv_iconst (v := 3) hx hb dX9_work_238 (by decide) ?_
                  refine lv_irem hx hb dX9_work_239 (by decide) ?_
                  refine lv_topi (fun z_23 ez_23 => ?_)
                  have jz_23 : z_23.toInt = z_22.toInt % 3 := by rw [ez_23]; exact g_rem rfl t_3 (by omega) (by decide)
                  refine va_iald hx hb hK.1 hP 16 0 rfl rfl (g_in rfl (by omega) (by omega)) dX9_work_240 ?_
                  refine lv_topi (fun z_24 ez_24 => ?_)
                  have kz_24 := congrArg Int32.toInt ez_24
                  obtain ⟨z_25, ez_25⟩ : ∃ y : Int64, (z_24 : Int32).toInt64 = y := ⟨_, rfl⟩
                  refine lv_i2l hx hb dX9_work_241 ez_25 ?_
                  refine lv_ladd hx hb dX9_work_242 ?_
                  refine lv_topl (fun z_26 ez_26 => ?_)
                  refine lv_lstore (lv' := [(8, .long z_26), (7, .int L7_212), (6, .int L6_212), (5, .int L5_212), (4, .int 0), (3, .int z_5), (0, .ref mh), (1, .int p0), (2, .int p1)]) hx hb dX9_work_243 hl (by decide) rfl (fun ls hl => ?_)
                  refine lv_aload_n hx hb dX9_work_245 rfl (lv_at hl 6 rfl) ?_
                  refine va_get (D := D) (ci := 9) (v := .ref (ma 46)) (C := RX9) (T := TX9) (N := 68) hx hb htb iX9 hown hK.1 hP 0 rfl rfl 46 (by decide) (htb _ k_1004) (fun _ h9 => h9) rfl dX9_work_246 ?_
                  refine lv_bipush (v := 20) hx hb dX9_work_249 (by decide) ?_
                  refine lv_aload_n hx hb dX9_work_251 rfl (lv_at hl 6 rfl) ?_
                  refine va_get (D := D) (ci := 9) (v := .ref (ma 59)) (C := RX9) (T := TX9) (N := 68) hx hb htb iX9 hown hK.1 hP 0 rfl rfl 59 (by decide) (htb _ k_1017) (fun _ h9 => h9) rfl dX9_work_252 ?_
                  refine lv_iload hx hb dX9_work_255 (lv_at hl 1 rfl) ?_
                  refine va_iald hx hb hK.1 hP 16 0 rfl rfl (g_in rfl (by omega) (by omega)) dX9_work_257 ?_
                  refine lv_topi (fun z_27 ez_27 => ?_)
                  have kz_27 := congrArg Int32.toInt ez_27
                  obtain ⟨z_28, ez_28⟩ : ∃ y : Int64, (z_27 : Int32).toInt64 = y := ⟨_, rfl⟩
                  refine lv_i2l hx hb dX9_work_258 ez_28 ?_
                  refine lv_lload hx hb dX9_work_259 (lv_at hl 0 rfl) ?_
                  refine lv_ldc2 hx hb hown (htb _ k_1446) dX9_work_261 ?_
                  refine callLS (rest := [.long z_28, .int 20, .ref (ma 46)]) (As := [.long z_26, .long (2)]) hx hb hml hown htb hK (g_X9_floor l D E z_26 (2) (by decide)) ok_X9_floor k_1311 k_1312 k_9 k_1313 ⟨(Nat.le_of_ble_eq_true rfl), (Nat.le_of_ble_eq_true rfl)⟩ ⟨(Nat.le_of_ble_eq_true rfl), (Nat.le_of_ble_eq_true rfl)⟩ hl.1 (Nat.le_of_ble_eq_true rfl) rfl rfl dX9_work_264 (hP.sub (ws' := ([] : va_W)) [] rfl) (fun r_29 hw_30 => ?_)
                  try simp only [t_2] at hw_30
                  refine lv_lsub hx hb dX9_work_267 ?_
                  refine lv_topl (fun z_32 ez_32 => ?_)
                  obtain ⟨z_33, ez_33⟩ : ∃ y : Int32, (z_32 : Int64).toInt32 = y := ⟨_, rfl⟩
                  refine lv_l2i hx hb dX9_work_268 ez_33 ?_
                  refine callRS (rest := [.int 20, .ref (ma 46)]) (As := [.int z_33]) hx hb hml hown htb hK (g_X9_size l D E z_33 ) ok_X9_size k_1235 k_1236 k_9 k_1237 ⟨(Nat.le_of_ble_eq_true rfl), (Nat.le_of_ble_eq_true rfl)⟩ ⟨(Nat.le_of_ble_eq_true rfl), (Nat.le_of_ble_eq_true rfl)⟩ hl.1 (Nat.le_of_ble_eq_true rfl) rfl rfl dX9_work_269 (hP.sub (ws' := ([] : va_W)) [] rfl) (fun r_34 hw_35 => ?_)
                  refine va_iast hx hb hK.1 hP hD hS 6 0 rfl rfl (g_in t_20 (by decide) (by decide)) dX9_work_272 (fun H locs hP hD hS => ?_)
                  have hP : va_P D vwCl [(mh, .inr (9, G9 ma mcode mtoday moffs mmany msumW msumA msumR msumWW msumWA msumAA msumWR msumAR mupper mlower mrates mtaped mlaid mat mtk mtkAt mtkNumber mwaits mlisted mdealtMany)), ((ma 34), .inl (E 1, 2, .inl mf34)), ((ma 35), .inl (E 0, 2, .inl mf35)), ((ma 36), .inl (E 0, 384, .inl mf36)), ((ma 37), .inl (E 0, 384, .inl mf37)), ((ma 45), .inl (E 0, 130, .inl mf45_212)), ((ma 46), .inl (E 0, 24, .inl (upd mf46_212 (20 : Int32).toNatClampNeg r_34))), ((ma 47), .inl (E 0, 5, .inl mf47)), ((ma 48), .inl (E 0, 5, .inl mf48)), ((ma 49), .inl (E 0, 5, .inl mf49)), ((ma 51), .inl (E 0, 15, .inl mf51)), ((ma 52), .inl (E 0, 15, .inl mf52)), ((ma 53), .inl (E 0, 15, .inl mf53)), ((ma 54), .inl (E 0, 15, .inl mf54)), ((ma 56), .inl (E 0, 200, .inl mf56)), ((ma 57), .inl (E 0, 600, .inl mf57)), ((ma 59), .inl (E 0, 3, .inl mf59_39)), ((ma 60), .inl (E 0, 3, .inl mf60_39))] H := hP
                  have hD := toW hP hD rfl
                  refine lv_aload_n hx hb dX9_work_273 rfl (lv_at hl 6 rfl) ?_
                  refine va_get (D := D) (ci := 9) (v := .ref (ma 46)) (C := RX9) (T := TX9) (N := 68) hx hb htb iX9 hown hK.1 hP 0 rfl rfl 46 (by decide) (htb _ k_1004) (fun _ h9 => h9) rfl dX9_work_274 ?_
                  refine lv_bipush (v := 21) hx hb dX9_work_277 (by decide) ?_
                  refine lv_aload_n hx hb dX9_work_279 rfl (lv_at hl 6 rfl) ?_
                  refine va_get (D := D) (ci := 9) (v := .ref (ma 53)) (C := RX9) (T := TX9) (N := 68) hx hb htb iX9 hown hK.1 hP 0 rfl rfl 53 (by decide) (htb _ k_1011) (fun _ h9 => h9) rfl dX9_work_280 ?_
                  refine lv_iconst (v := 3) hx hb dX9_work_283 (by decide) ?_
                  refine lv_iload_n hx hb dX9_work_284 rfl (lv_at hl 7 rfl) ?_
                  refine lv_imul hx hb dX9_work_285 ?_
                  refine lv_topi (fun z_37 ez_37 => ?_)
                  have jz_37 : z_37.toInt = 3 * p0.toInt := by rw [ez_37]; exact g_mul t_3 rfl (by omega) (by omega)
                  refine lv_iload hx hb dX9_work_286 (lv_at hl 1 rfl) ?_
                  refine lv_iadd hx hb dX9_work_288 ?_
                  refine lv_topi (fun z_38 ez_38 => ?_)
                  have jz_38 : z_38.toInt = z_37.toInt + L7_212.toInt := by rw [ez_38]; exact g_add rfl rfl (by omega) (by omega)
                  refine va_iald hx hb hK.1 hP 12 0 rfl rfl (g_in rfl (by omega) (by omega)) dX9_work_289 ?_
                  refine lv_topi (fun z_39 ez_39 => ?_)
                  have kz_39 := congrArg Int32.toInt ez_39
                  refine va_iast hx hb hK.1 hP hD hS 6 0 rfl rfl (g_in t_21 (by decide) (by decide)) dX9_work_290 (fun H locs hP hD hS => ?_)
                  have hP : va_P D vwCl [(mh, .inr (9, G9 ma mcode mtoday moffs mmany msumW msumA msumR msumWW msumWA msumAA msumWR msumAR mupper mlower mrates mtaped mlaid mat mtk mtkAt mtkNumber mwaits mlisted mdealtMany)), ((ma 34), .inl (E 1, 2, .inl mf34)), ((ma 35), .inl (E 0, 2, .inl mf35)), ((ma 36), .inl (E 0, 384, .inl mf36)), ((ma 37), .inl (E 0, 384, .inl mf37)), ((ma 45), .inl (E 0, 130, .inl mf45_212)), ((ma 46), .inl (E 0, 24, .inl (upd (upd mf46_212 (20 : Int32).toNatClampNeg r_34) (21 : Int32).toNatClampNeg z_39))), ((ma 47), .inl (E 0, 5, .inl mf47)), ((ma 48), .inl (E 0, 5, .inl mf48)), ((ma 49), .inl (E 0, 5, .inl mf49)), ((ma 51), .inl (E 0, 15, .inl mf51)), ((ma 52), .inl (E 0, 15, .inl mf52)), ((ma 53), .inl (E 0, 15, .inl mf53)), ((ma 54), .inl (E 0, 15, .inl mf54)), ((ma 56), .inl (E 0, 200, .inl mf56)), ((ma 57), .inl (E 0, 600, .inl mf57)), ((ma 59), .inl (E 0, 3, .inl mf59_39)), ((ma 60), .inl (E 0, 3, .inl mf60_39))] H := hP
                  have hD := toW hP hD rfl
                  generalize (upd (upd mf46_212 (20 : Int32).toNatClampNeg r_34) (21 : Int32).toNatClampNeg z_39) = g_40 at hP hD
                  refine lv_aload_n hx hb dX9_work_291 rfl (lv_at hl 6 rfl) ?_
                  refine va_get (D := D) (ci := 9) (v := .ref (ma 46)) (C := RX9) (T := TX9) (N := 68) hx hb htb iX9 hown hK.1 hP 0 rfl rfl 46 (by decide) (htb _ k_1004) (fun _ h9 => h9) rfl dX9_work_292 ?_
                  refine lv_bipush (v := 22) hx hb dX9_work_295 (by decide) ?_
                  refine lv_iload_n hx hb dX9_work_297 rfl (lv_at hl 5 rfl) ?_
                  refine va_iast hx hb hK.1 hP hD hS 6 0 rfl rfl (g_in t_22 (by decide) (by decide)) dX9_work_298 (fun H locs hP hD hS => ?_)
                  have hP : va_P D vwCl [(mh, .inr (9, G9 ma mcode mtoday moffs mmany msumW msumA msumR msumWW msumWA msumAA msumWR msumAR mupper mlower mrates mtaped mlaid mat mtk mtkAt mtkNumber mwaits mlisted mdealtMany)), ((ma 34), .inl (E 1, 2, .inl mf34)), ((ma 35), .inl (E 0, 2, .inl mf35)), ((ma 36), .inl (E 0, 384, .inl mf36)), ((ma 37), .inl (E 0, 384, .inl mf37)), ((ma 45), .inl (E 0, 130, .inl mf45_212)), ((ma 46), .inl (E 0, 24, .inl (upd g_40 (22 : Int32).toNatClampNeg z_5))), ((ma 47), .inl (E 0, 5, .inl mf47)), ((ma 48), .inl (E 0, 5, .inl mf48)), ((ma 49), .inl (E 0, 5, .inl mf49)), ((ma 51), .inl (E 0, 15, .inl mf51)), ((ma 52), .inl (E 0, 15, .inl mf52)), ((ma 53), .inl (E 0, 15, .inl mf53)), ((ma 54), .inl (E 0, 15, .inl mf54)), ((ma 56), .inl (E 0, 200, .inl mf56)), ((ma 57), .inl (E 0, 600, .inl mf57)), ((ma 59), .inl (E 0, 3, .inl mf59_39)), ((ma 60), .inl (E 0, 3, .inl mf60_39))] H := hP
                  have hD := toW hP hD rfl
                  refine lv_aload_n hx hb dX9_work_299 rfl (lv_at hl 6 rfl) ?_
                  refine va_get (D := D) (ci := 9) (v := .ref (ma 46)) (C := RX9) (T := TX9) (N := 68) hx hb htb iX9 hown hK.1 hP 0 rfl rfl 46 (by decide) (htb _ k_1004) (fun _ h9 => h9) rfl dX9_work_300 ?_
                  refine lv_bipush (v := 23) hx hb dX9_work_303 (by decide) ?_
                  refine lv_iload hx hb dX9_work_305 (lv_at hl 1 rfl) ?_
                  refine va_iast hx hb hK.1 hP hD hS 6 0 rfl rfl (g_in t_23 (by decide) (by decide)) dX9_work_307 (fun H locs hP hD hS => ?_)
                  have hP : va_P D vwCl [(mh, .inr (9, G9 ma mcode mtoday moffs mmany msumW msumA msumR msumWW msumWA msumAA msumWR msumAR mupper mlower mrates mtaped mlaid mat mtk mtkAt mtkNumber mwaits mlisted mdealtMany)), ((ma 34), .inl (E 1, 2, .inl mf34)), ((ma 35), .inl (E 0, 2, .inl mf35)), ((ma 36), .inl (E 0, 384, .inl mf36)), ((ma 37), .inl (E 0, 384, .inl mf37)), ((ma 45), .inl (E 0, 130, .inl mf45_212)), ((ma 46), .inl (E 0, 24, .inl (upd (upd g_40 (22 : Int32).toNatClampNeg z_5) (23 : Int32).toNatClampNeg L7_212))), ((ma 47), .inl (E 0, 5, .inl mf47)), ((ma 48), .inl (E 0, 5, .inl mf48)), ((ma 49), .inl (E 0, 5, .inl mf49)), ((ma 51), .inl (E 0, 15, .inl mf51)), ((ma 52), .inl (E 0, 15, .inl mf52)), ((ma 53), .inl (E 0, 15, .inl mf53)), ((ma 54), .inl (E 0, 15, .inl mf54)), ((ma 56), .inl (E 0, 200, .inl mf56)), ((ma 57), .inl (E 0, 600, .inl mf57)), ((ma 59), .inl (E 0, 3, .inl mf59_39)), ((ma 60), .inl (E 0, 3, .inl mf60_39))] H := hP
                  have hD := toW hP hD rfl
                  generalize (upd (upd g_40 (22 : Int32).toNatClampNeg z_5) (23 : Int32).toNatClampNeg L7_212) = g_41 at hP hD
                  refine lv_aload_n hx hb dX9_work_308 rfl (lv_at hl 6 rfl) ?_
                  refine lv_iconst (v := 1) hx hb dX9_work_309 (by decide) ?_
                  have hPc := hP.sub (ws' := [(mh, .inr (9, G9 ma mcode mtoday moffs mmany msumW msumA msumR msumWW msumWA msumAA msumWR msumAR mupper mlower mrates mtaped mlaid mat mtk mtkAt mtkNumber mwaits mlisted mdealtMany)), ((ma 35), .inl (E 0, 2, .inl mf35)), ((ma 36), .inl (E 0, 384, .inl mf36)), ((ma 37), .inl (E 0, 384, .inl mf37)), ((ma 45), .inl (E 0, 130, .inl mf45_212)), ((ma 46), .inl (E 0, 24, .inl g_41))]) [0, 2, 3, 4, 5, 6] rfl
                  have hDc := hD.sub (ws' := [(mh, .inr (9, G9 ma mcode mtoday moffs mmany msumW msumA msumR msumWW msumWA msumAA msumWR msumAR mupper mlower mrates mtaped mlaid mat mtk mtkAt mtkNumber mwaits mlisted mdealtMany)), ((ma 35), .inl (E 0, 2, .inl mf35)), ((ma 36), .inl (E 0, 384, .inl mf36)), ((ma 37), .inl (E 0, 384, .inl mf37)), ((ma 45), .inl (E 0, 130, .inl mf45_212)), ((ma 46), .inl (E 0, 24, .inl g_41))]) [0, 2, 3, 4, 5, 6] (by decide) rfl
                  refine aft_i (runMV (rest := []) (As := [.int 1]) hx hb hml hown htb hK (g_X9_says1 l D E mh ma mcode mtoday moffs mmany msumW msumA msumR msumWW msumWA msumAA msumWR msumAR mupper mlower mrates mtaped mlaid mat mtk mtkAt mtkNumber mwaits mlisted mdealtMany mf35 mf36 mf37 mf45_212 g_41 _ (by (try dsimp only); omega) hr_m35 hjw) ok_X9_says k_1395 k_1397 ks_60 k_9 k_1398 ⟨(Nat.le_of_ble_eq_true rfl), (Nat.le_of_ble_eq_true rfl)⟩ ⟨(Nat.le_of_ble_eq_true rfl), (Nat.le_of_ble_eq_true rfl)⟩ hl.1 (Nat.le_of_ble_eq_true rfl) rfl rfl dX9_work_310 hPc hDc rfl rfl 0 rfl) hP hD hS hA [0, 2, 3, 4, 5, 6] [1, 7, 8, 9, 10, 11, 12, 13, 14, 15, 16, 17] (wr := [((ma 34), .inl (E 1, 2, .inl mf34)), ((ma 47), .inl (E 0, 5, .inl mf47)), ((ma 48), .inl (E 0, 5, .inl mf48)), ((ma 49), .inl (E 0, 5, .inl mf49)), ((ma 51), .inl (E 0, 15, .inl mf51)), ((ma 52), .inl (E 0, 15, .inl mf52)), ((ma 53), .inl (E 0, 15, .inl mf53)), ((ma 54), .inl (E 0, 15, .inl mf54)), ((ma 56), .inl (E 0, 200, .inl mf56)), ((ma 57), .inl (E 0, 600, .inl mf57)), ((ma 59), .inl (E 0, 3, .inl mf59_39)), ((ma 60), .inl (E 0, 3, .inl mf60_39))]) rfl rfl (by decide) (by decide) (fun r_42 u_44 H locs hw_43 hP hD hS => ?_)
                  clear hPc hDc
                  have hP : va_P D vwCl [((ma 34), .inl (E 1, 2, .inl mf34)), ((ma 47), .inl (E 0, 5, .inl mf47)), ((ma 48), .inl (E 0, 5, .inl mf48)), ((ma 49), .inl (E 0, 5, .inl mf49)), ((ma 51), .inl (E 0, 15, .inl mf51)), ((ma 52), .inl (E 0, 15, .inl mf52)), ((ma 53), .inl (E 0, 15, .inl mf53)), ((ma 54), .inl (E 0, 15, .inl mf54)), ((ma 56), .inl (E 0, 200, .inl mf56)), ((ma 57), .inl (E 0, 600, .inl mf57)), ((ma 59), .inl (E 0, 3, .inl mf59_39)), ((ma 60), .inl (E 0, 3, .inl mf60_39)), (mh, .inr (9, G9 ma mcode mtoday moffs mmany msumW msumA msumR msumWW msumWA msumAA msumWR msumAR mupper mlower mrates mtaped mlaid mat mtk mtkAt mtkNumber mwaits mlisted mdealtMany)), ((ma 35), .inl (E 0, 2, .inl mf35)), ((ma 36), .inl (E 0, 384, .inl mf36)), ((ma 37), .inl (E 0, 384, .inl mf37)), ((ma 45), .inl (E 0, 130, .inl u_44)), ((ma 46), .inl (E 0, 24, .inl g_41))] H := hP
                  have hD := toW hP hD rfl
                  try simp only [t_1] at hw_43
                  refine lv_istore (lv' := [(10, .int r_42), (8, .long z_26), (7, .int L7_212), (6, .int L6_212), (5, .int L5_212), (4, .int 0), (3, .int z_5), (0, .ref mh), (1, .int p0), (2, .int p1)]) hx hb dX9_work_313 hl (by decide) rfl (fun ls hl => ?_)
                  refine lv_iload hx hb dX9_work_315 (lv_at hl 0 rfl) ?_
                  refine lv_iload hx hb dX9_work_317 (lv_at hl 3 rfl) ?_
                  refine lv_icmp_gt (tgt := 325) hx hb dX9_work_319 (by decide) (fun c_45 => ?_) (fun c_45 => ?_)
                  ·
                    have ic_45 : L6_212.toInt < r_42.toInt := by first | exact (g_lt rfl rfl).mp c_45 | (have h := mt (g_le rfl rfl).mpr c_45; omega)
                    clear c_45
                    refine lv_iload hx hb dX9_work_325 (lv_at hl 0 rfl) ?_
                    refine lv_istore (lv' := [(6, .int r_42), (10, .int r_42), (8, .long z_26), (7, .int L7_212), (5, .int L5_212), (4, .int 0), (3, .int z_5), (0, .ref mh), (1, .int p0), (2, .int p1)]) hx hb dX9_work_327 hl (by decide) rfl (fun ls hl => ?_)
                    refine lv_iload hx hb dX9_work_329 (lv_at hl 3 rfl) ?_
                    refine lv_istore (lv' := [(5, .int L7_212), (6, .int r_42), (10, .int r_42), (8, .long z_26), (7, .int L7_212), (4, .int 0), (3, .int z_5), (0, .ref mh), (1, .int p0), (2, .int p1)]) hx hb dX9_work_331 hl (by decide) rfl (fun ls hl => ?_)
                    obtain ⟨z_46, ez_46⟩ : ∃ y : Int32, y = L7_212 + 1 := ⟨_, rfl⟩
                    have jz_46 : z_46.toInt = L7_212.toInt + 1 := by rw [ez_46]; exact g_add rfl t_1 (by omega) (by omega)
                    refine lv_iinc (v := z_46) (lv' := [(7, .int z_46), (5, .int L7_212), (6, .int r_42), (10, .int r_42), (8, .long z_26), (4, .int 0), (3, .int z_5), (0, .ref mh), (1, .int p0), (2, .int p1)]) hx hb dX9_work_333 hl (k := 4) rfl (by rw [ez_46]; rfl) (by decide) rfl (fun ls hl => ?_)
                    refine lv_goto (tgt := 212) hx hb dX9_work_336 (by decide) ?_
                    have hP := hP.sub (ws' := [(mh, .inr (9, G9 ma mcode mtoday moffs mmany msumW msumA msumR msumWW msumWA msumAA msumWR msumAR mupper mlower mrates mtaped mlaid mat mtk mtkAt mtkNumber mwaits mlisted mdealtMany)), ((ma 34), .inl (E 1, 2, .inl mf34)), ((ma 35), .inl (E 0, 2, .inl mf35)), ((ma 36), .inl (E 0, 384, .inl mf36)), ((ma 37), .inl (E 0, 384, .inl mf37)), ((ma 45), .inl (E 0, 130, .inl u_44)), ((ma 46), .inl (E 0, 24, .inl g_41)), ((ma 47), .inl (E 0, 5, .inl mf47)), ((ma 48), .inl (E 0, 5, .inl mf48)), ((ma 49), .inl (E 0, 5, .inl mf49)), ((ma 51), .inl (E 0, 15, .inl mf51)), ((ma 52), .inl (E 0, 15, .inl mf52)), ((ma 53), .inl (E 0, 15, .inl mf53)), ((ma 54), .inl (E 0, 15, .inl mf54)), ((ma 56), .inl (E 0, 200, .inl mf56)), ((ma 57), .inl (E 0, 600, .inl mf57)), ((ma 59), .inl (E 0, 3, .inl mf59_39)), ((ma 60), .inl (E 0, 3, .inl mf60_39))]) [12, 0, 13, 14, 15, 16, 17, 1, 2, 3, 4, 5, 6, 7, 8, 9, 10, 11] rfl
                    have hD := hD.sub (ws' := [(mh, .inr (9, G9 ma mcode mtoday moffs mmany msumW msumA msumR msumWW msumWA msumAA msumWR msumAR mupper mlower mrates mtaped mlaid mat mtk mtkAt mtkNumber mwaits mlisted mdealtMany)), ((ma 34), .inl (E 1, 2, .inl mf34)), ((ma 35), .inl (E 0, 2, .inl mf35)), ((ma 36), .inl (E 0, 384, .inl mf36)), ((ma 37), .inl (E 0, 384, .inl mf37)), ((ma 45), .inl (E 0, 130, .inl u_44)), ((ma 46), .inl (E 0, 24, .inl g_41)), ((ma 47), .inl (E 0, 5, .inl mf47)), ((ma 48), .inl (E 0, 5, .inl mf48)), ((ma 49), .inl (E 0, 5, .inl mf49)), ((ma 51), .inl (E 0, 15, .inl mf51)), ((ma 52), .inl (E 0, 15, .inl mf52)), ((ma 53), .inl (E 0, 15, .inl mf53)), ((ma 54), .inl (E 0, 15, .inl mf54)), ((ma 56), .inl (E 0, 200, .inl mf56)), ((ma 57), .inl (E 0, 600, .inl mf57)), ((ma 59), .inl (E 0, 3, .inl mf59_39)), ((ma 60), .inl (E 0, 3, .inl mf60_39))]) [12, 0, 13, 14, 15, 16, 17, 1, 2, 3, 4, 5, 6, 7, 8, 9, 10, 11] (by decide) rfl
                    exact ih_15 z_46 r_42 L7_212 u_44 g_41 _ _ _ (by have h0 := t_0; (try dsimp only); omega) (by have h0 := t_0; (try dsimp only); omega) hP hD hS (lv_sub hl [0, 2, 1, 5, 6, 7, 8, 9] rfl)
                  ·
                    have ic_45 : r_42.toInt ≤ L6_212.toInt := by first | exact (g_le rfl rfl).mp c_45 | (have h := mt (g_lt rfl rfl).mpr c_45; omega)
                    clear c_45
                    refine lv_goto (tgt := 333) hx hb dX9_work_322 (by decide) ?_
                    obtain ⟨z_47, ez_47⟩ : ∃ y : Int32, y = L7_212 + 1 := ⟨_, rfl⟩
                    have jz_47 : z_47.toInt = L7_212.toInt + 1 := by rw [ez_47]; exact g_add rfl t_1 (by omega) (by omega)
                    refine lv_iinc (v := z_47) (lv' := [(7, .int z_47), (10, .int r_42), (8, .long z_26), (6, .int L6_212), (5, .int L5_212), (4, .int 0), (3, .int z_5), (0, .ref mh), (1, .int p0), (2, .int p1)]) hx hb dX9_work_333 hl (k := 2) rfl (by rw [ez_47]; rfl) (by decide) rfl (fun ls hl => ?_)
                    refine lv_goto (tgt := 212) hx hb dX9_work_336 (by decide) ?_
                    have hP := hP.sub (ws' := [(mh, .inr (9, G9 ma mcode mtoday moffs mmany msumW msumA msumR msumWW msumWA msumAA msumWR msumAR mupper mlower mrates mtaped mlaid mat mtk mtkAt mtkNumber mwaits mlisted mdealtMany)), ((ma 34), .inl (E 1, 2, .inl mf34)), ((ma 35), .inl (E 0, 2, .inl mf35)), ((ma 36), .inl (E 0, 384, .inl mf36)), ((ma 37), .inl (E 0, 384, .inl mf37)), ((ma 45), .inl (E 0, 130, .inl u_44)), ((ma 46), .inl (E 0, 24, .inl g_41)), ((ma 47), .inl (E 0, 5, .inl mf47)), ((ma 48), .inl (E 0, 5, .inl mf48)), ((ma 49), .inl (E 0, 5, .inl mf49)), ((ma 51), .inl (E 0, 15, .inl mf51)), ((ma 52), .inl (E 0, 15, .inl mf52)), ((ma 53), .inl (E 0, 15, .inl mf53)), ((ma 54), .inl (E 0, 15, .inl mf54)), ((ma 56), .inl (E 0, 200, .inl mf56)), ((ma 57), .inl (E 0, 600, .inl mf57)), ((ma 59), .inl (E 0, 3, .inl mf59_39)), ((ma 60), .inl (E 0, 3, .inl mf60_39))]) [12, 0, 13, 14, 15, 16, 17, 1, 2, 3, 4, 5, 6, 7, 8, 9, 10, 11] rfl
                    have hD := hD.sub (ws' := [(mh, .inr (9, G9 ma mcode mtoday moffs mmany msumW msumA msumR msumWW msumWA msumAA msumWR msumAR mupper mlower mrates mtaped mlaid mat mtk mtkAt mtkNumber mwaits mlisted mdealtMany)), ((ma 34), .inl (E 1, 2, .inl mf34)), ((ma 35), .inl (E 0, 2, .inl mf35)), ((ma 36), .inl (E 0, 384, .inl mf36)), ((ma 37), .inl (E 0, 384, .inl mf37)), ((ma 45), .inl (E 0, 130, .inl u_44)), ((ma 46), .inl (E 0, 24, .inl g_41)), ((ma 47), .inl (E 0, 5, .inl mf47)), ((ma 48), .inl (E 0, 5, .inl mf48)), ((ma 49), .inl (E 0, 5, .inl mf49)), ((ma 51), .inl (E 0, 15, .inl mf51)), ((ma 52), .inl (E 0, 15, .inl mf52)), ((ma 53), .inl (E 0, 15, .inl mf53)), ((ma 54), .inl (E 0, 15, .inl mf54)), ((ma 56), .inl (E 0, 200, .inl mf56)), ((ma 57), .inl (E 0, 600, .inl mf57)), ((ma 59), .inl (E 0, 3, .inl mf59_39)), ((ma 60), .inl (E 0, 3, .inl mf60_39))]) [12, 0, 13, 14, 15, 16, 17, 1, 2, 3, 4, 5, 6, 7, 8, 9, 10, 11] (by decide) rfl
                    exact ih_15 z_47 L6_212 L5_212 u_44 g_41 _ _ _ (by have h0 := t_0; (try dsimp only); omega) (by have h0 := t_0; (try dsimp only); omega) hP hD hS (lv_sub hl [0, 3, 4, 5, 6, 7, 8, 9] rfl)
            exact loop_14 4 0 0 ((-1)) mf45 mf46 _ _ _ (by have h0 := t_m1; have h1 := t_0; (try dsimp only); omega) (by have h0 := t_m1; have h1 := t_0; (try dsimp only); omega) hP hD hS (lv_sub hl [0, 1, 2, 3, 4, 5, 6, 7] rfl)
          ·
            have ic_13 : z_12.toInt = 0 := (g_eq rfl t_0).mp c_13
            clear c_13
            refine lv_iconst (v := (-1)) hx hb dX9_work_201 (by decide) ?_
            have hP9 := hP.sub (ws' := [(mh, .inr (9, G9 ma mcode mtoday moffs mmany msumW msumA msumR msumWW msumWA msumAA msumWR msumAR mupper mlower mrates mtaped mlaid mat mtk mtkAt mtkNumber mwaits mlisted mdealtMany)), ((ma 34), .inl (E 1, 2, .inl mf34)), ((ma 35), .inl (E 0, 2, .inl mf35)), ((ma 36), .inl (E 0, 384, .inl mf36)), ((ma 37), .inl (E 0, 384, .inl mf37)), ((ma 45), .inl (E 0, 130, .inl mf45)), ((ma 46), .inl (E 0, 24, .inl mf46)), ((ma 47), .inl (E 0, 5, .inl mf47)), ((ma 48), .inl (E 0, 5, .inl mf48)), ((ma 49), .inl (E 0, 5, .inl mf49)), ((ma 51), .inl (E 0, 15, .inl mf51)), ((ma 52), .inl (E 0, 15, .inl mf52)), ((ma 53), .inl (E 0, 15, .inl mf53)), ((ma 54), .inl (E 0, 15, .inl mf54)), ((ma 56), .inl (E 0, 200, .inl mf56)), ((ma 57), .inl (E 0, 600, .inl mf57)), ((ma 59), .inl (E 0, 3, .inl mf59_39)), ((ma 60), .inl (E 0, 3, .inl mf60_39))]) [0, 1, 2, 3, 4, 5, 6, 7, 8, 9, 10, 11, 12, 13, 14, 15, 16, 17] rfl
            have hD9 := hD.sub (ws' := [(mh, .inr (9, G9 ma mcode mtoday moffs mmany msumW msumA msumR msumWW msumWA msumAA msumWR msumAR mupper mlower mrates mtaped mlaid mat mtk mtkAt mtkNumber mwaits mlisted mdealtMany)), ((ma 34), .inl (E 1, 2, .inl mf34)), ((ma 35), .inl (E 0, 2, .inl mf35)), ((ma 36), .inl (E 0, 384, .inl mf36)), ((ma 37), .inl (E 0, 384, .inl mf37)), ((ma 45), .inl (E 0, 130, .inl mf45)), ((ma 46), .inl (E 0, 24, .inl mf46)), ((ma 47), .inl (E 0, 5, .inl mf47)), ((ma 48), .inl (E 0, 5, .inl mf48)), ((ma 49), .inl (E 0, 5, .inl mf49)), ((ma 51), .inl (E 0, 15, .inl mf51)), ((ma 52), .inl (E 0, 15, .inl mf52)), ((ma 53), .inl (E 0, 15, .inl mf53)), ((ma 54), .inl (E 0, 15, .inl mf54)), ((ma 56), .inl (E 0, 200, .inl mf56)), ((ma 57), .inl (E 0, 600, .inl mf57)), ((ma 59), .inl (E 0, 3, .inl mf59_39)), ((ma 60), .inl (E 0, 3, .inl mf60_39))]) [0, 1, 2, 3, 4, 5, 6, 7, 8, 9, 10, 11, 12, 13, 14, 15, 16, 17] (by decide) rfl
            exact W.iret (v := (-1)) hx hb hr (fun t ht hW => ⟨⟨(-1), (mf45, mf46, mf59_39, mf60_39), rfl, trivial, by rw [ht]; exact hP9, hD9⟩, hS.F ht⟩) hS.2.2 dX9_work_202
        ·
          have ic_11 : L5_39.toInt < 3 := by first | exact (g_lt rfl t_3).mp c_11 | (have h := mt (g_le t_3 rfl).mpr c_11; omega)
          clear c_11
          refine lv_iconst (v := 3) hx hb dX9_work_45 (by decide) ?_
          refine lv_iload_n hx hb dX9_work_46 rfl (lv_at hl 4 rfl) ?_
          refine lv_imul hx hb dX9_work_47 ?_
          refine lv_topi (fun z_48 ez_48 => ?_)
          have jz_48 : z_48.toInt = 3 * p0.toInt := by rw [ez_48]; exact g_mul t_3 rfl (by omega) (by omega)
          refine lv_iload hx hb dX9_work_48 (lv_at hl 0 rfl) ?_
          refine lv_iadd hx hb dX9_work_50 ?_
          refine lv_topi (fun z_49 ez_49 => ?_)
          have jz_49 : z_49.toInt = z_48.toInt + L5_39.toInt := by rw [ez_49]; exact g_add rfl rfl (by omega) (by omega)
          refine lv_istore (lv' := [(6, .int z_49), (5, .int L5_39), (4, .int 0), (3, .int z_5), (0, .ref mh), (1, .int p0), (2, .int p1)]) hx hb dX9_work_51 hl (by decide) rfl (fun ls hl => ?_)
          refine lv_iload hx hb dX9_work_53 (lv_at hl 2 rfl) ?_
          refine lv_if_eq (tgt := 91) hx hb dX9_work_55 (by decide) (fun c_50 => ?_) (fun c_50 => absurd (by decide) c_50)
          refine lv_aload_n hx hb dX9_work_91 rfl (lv_at hl 4 rfl) ?_
          refine va_get (D := D) (ci := 9) (v := .ref (ma 52)) (C := RX9) (T := TX9) (N := 68) hx hb htb iX9 hown hK.1 hP 0 rfl rfl 52 (by decide) (htb _ k_1010) (fun _ h9 => h9) rfl dX9_work_92 ?_
          refine lv_iload hx hb dX9_work_95 (lv_at hl 0 rfl) ?_
          refine va_iald hx hb hK.1 hP 11 0 rfl rfl (g_in rfl (by omega) (by omega)) dX9_work_97 ?_
          refine lv_topi (fun z_51 ez_51 => ?_)
          have kz_51 := congrArg Int32.toInt ez_51
          refine lv_iload_n hx hb dX9_work_98 rfl (lv_at hl 3 rfl) ?_
          refine lv_imul hx hb dX9_work_99 ?_
          refine lv_topi (fun z_52 ez_52 => ?_)
          refine lv_istore (lv' := [(7, .int z_52), (6, .int z_49), (5, .int L5_39), (4, .int 0), (3, .int z_5), (0, .ref mh), (1, .int p0), (2, .int p1)]) hx hb dX9_work_100 hl (by decide) rfl (fun ls hl => ?_)
          refine lv_aload_n hx hb dX9_work_102 rfl (lv_at hl 5 rfl) ?_
          refine va_get (D := D) (ci := 9) (v := .ref (ma 59)) (C := RX9) (T := TX9) (N := 68) hx hb htb iX9 hown hK.1 hP 0 rfl rfl 59 (by decide) (htb _ k_1017) (fun _ h9 => h9) rfl dX9_work_103 ?_
          refine lv_iload hx hb dX9_work_106 (lv_at hl 2 rfl) ?_
          refine lv_aload_n hx hb dX9_work_108 rfl (lv_at hl 5 rfl) ?_
          refine va_get (D := D) (ci := 9) (v := .ref (ma 57)) (C := RX9) (T := TX9) (N := 68) hx hb htb iX9 hown hK.1 hP 0 rfl rfl 57 (by decide) (htb _ k_1015) (fun _ h9 => h9) rfl dX9_work_109 ?_
          refine lv_iconst (v := 3) hx hb dX9_work_112 (by decide) ?_
          refine lv_bipush (v := 40) hx hb dX9_work_113 (by decide) ?_
          refine lv_iload_n hx hb dX9_work_115 rfl (lv_at hl 6 rfl) ?_
          refine lv_imul hx hb dX9_work_116 ?_
          refine lv_topi (fun z_53 ez_53 => ?_)
          have jz_53 : z_53.toInt = 40 * p0.toInt := by rw [ez_53]; exact g_mul t_40 rfl (by omega) (by omega)
          refine lv_iload_n hx hb dX9_work_117 rfl (lv_at hl 7 rfl) ?_
          refine lv_iadd hx hb dX9_work_118 ?_
          refine lv_topi (fun z_54 ez_54 => ?_)
          have jz_54 : z_54.toInt = z_53.toInt + p1.toInt := by rw [ez_54]; exact g_add rfl rfl (by omega) (by omega)
          refine lv_imul hx hb dX9_work_119 ?_
          refine lv_topi (fun z_55 ez_55 => ?_)
          have jz_55 : z_55.toInt = 3 * z_54.toInt := by rw [ez_55]; exact g_mul t_3 rfl (by omega) (by omega)
          refine lv_iload hx hb dX9_work_120 (lv_at hl 2 rfl) ?_
          refine lv_iadd hx hb dX9_work_122 ?_
          refine lv_topi (fun z_56 ez_56 => ?_)
          have jz_56 : z_56.toInt = z_55.toInt + L5_39.toInt := by rw [ez_56]; exact g_add rfl rfl (by omega) (by omega)
          refine va_iald hx hb hK.1 hP 15 0 rfl rfl (g_in rfl (by omega) (by omega)) dX9_work_123 ?_
          refine lv_topi (fun z_57 ez_57 => ?_)
          have kz_57 := congrArg Int32.toInt ez_57
          refine lv_aload_n hx hb dX9_work_124 rfl (lv_at hl 5 rfl) ?_
          refine va_get (D := D) (ci := 9) (v := .ref (ma 51)) (C := RX9) (T := TX9) (N := 68) hx hb htb iX9 hown hK.1 hP 0 rfl rfl 51 (by decide) (htb _ k_1009) (fun _ h9 => h9) rfl dX9_work_125 ?_
          refine lv_iload hx hb dX9_work_128 (lv_at hl 1 rfl) ?_
          refine va_iald hx hb hK.1 hP 10 0 rfl rfl (g_in rfl (by omega) (by omega)) dX9_work_130 ?_
          refine lv_topi (fun z_58 ez_58 => ?_)
          have kz_58 := congrArg Int32.toInt ez_58
          refine lv_isub hx hb dX9_work_131 ?_
          refine lv_topi (fun z_59 ez_59 => ?_)
          refine lv_iload hx hb dX9_work_132 (lv_at hl 0 rfl) ?_
          refine lv_isub hx hb dX9_work_134 ?_
          refine lv_topi (fun z_60 ez_60 => ?_)
          refine va_iast hx hb hK.1 hP hD hS 16 0 rfl rfl (g_in rfl (by omega) (by omega)) dX9_work_135 (fun H locs hP hD hS => ?_)
          have hP : va_P D vwCl [(mh, .inr (9, G9 ma mcode mtoday moffs mmany msumW msumA msumR msumWW msumWA msumAA msumWR msumAR mupper mlower mrates mtaped mlaid mat mtk mtkAt mtkNumber mwaits mlisted mdealtMany)), ((ma 34), .inl (E 1, 2, .inl mf34)), ((ma 35), .inl (E 0, 2, .inl mf35)), ((ma 36), .inl (E 0, 384, .inl mf36)), ((ma 37), .inl (E 0, 384, .inl mf37)), ((ma 45), .inl (E 0, 130, .inl mf45)), ((ma 46), .inl (E 0, 24, .inl mf46)), ((ma 47), .inl (E 0, 5, .inl mf47)), ((ma 48), .inl (E 0, 5, .inl mf48)), ((ma 49), .inl (E 0, 5, .inl mf49)), ((ma 51), .inl (E 0, 15, .inl mf51)), ((ma 52), .inl (E 0, 15, .inl mf52)), ((ma 53), .inl (E 0, 15, .inl mf53)), ((ma 54), .inl (E 0, 15, .inl mf54)), ((ma 56), .inl (E 0, 200, .inl mf56)), ((ma 57), .inl (E 0, 600, .inl mf57)), ((ma 59), .inl (E 0, 3, .inl (upd mf59_39 (L5_39 : Int32).toNatClampNeg z_60))), ((ma 60), .inl (E 0, 3, .inl mf60_39))] H := hP
          have hD := toW hP hD rfl
          refine lv_iload hx hb dX9_work_136 (lv_at hl 3 rfl) ?_
          refine lv_if_eq (tgt := 164) hx hb dX9_work_138 (by decide) (fun c_61 => ?_) (fun c_61 => absurd (by decide) c_61)
          refine lv_iload_n hx hb dX9_work_164 rfl (lv_at hl 4 rfl) ?_
          refine lv_istore (lv' := [(8, .int z_5), (7, .int z_52), (6, .int z_49), (5, .int L5_39), (4, .int 0), (3, .int z_5), (0, .ref mh), (1, .int p0), (2, .int p1)]) hx hb dX9_work_165 hl (by decide) rfl (fun ls hl => ?_)
          refine lv_aload_n hx hb dX9_work_167 rfl (lv_at hl 6 rfl) ?_
          refine va_get (D := D) (ci := 9) (v := .ref (ma 60)) (C := RX9) (T := TX9) (N := 68) hx hb htb iX9 hown hK.1 hP 0 rfl rfl 60 (by decide) (htb _ k_1018) (fun _ h9 => h9) rfl dX9_work_168 ?_
          refine lv_iload hx hb dX9_work_171 (lv_at hl 3 rfl) ?_
          refine lv_aload_n hx hb dX9_work_173 rfl (lv_at hl 6 rfl) ?_
          refine va_get (D := D) (ci := 9) (v := .ref (ma 53)) (C := RX9) (T := TX9) (N := 68) hx hb htb iX9 hown hK.1 hP 0 rfl rfl 53 (by decide) (htb _ k_1011) (fun _ h9 => h9) rfl dX9_work_174 ?_
          refine lv_iload hx hb dX9_work_177 (lv_at hl 2 rfl) ?_
          refine va_iald hx hb hK.1 hP 12 0 rfl rfl (g_in rfl (by omega) (by omega)) dX9_work_179 ?_
          refine lv_topi (fun z_62 ez_62 => ?_)
          have kz_62 := congrArg Int32.toInt ez_62
          refine lv_iload hx hb dX9_work_180 (lv_at hl 0 rfl) ?_
          refine lv_imul hx hb dX9_work_182 ?_
          refine lv_topi (fun z_63 ez_63 => ?_)
          refine lv_iconst (v := 5) hx hb dX9_work_183 (by decide) ?_
          refine lv_iadd hx hb dX9_work_184 ?_
          refine lv_topi (fun z_64 ez_64 => ?_)
          refine va_iast hx hb hK.1 hP hD hS 17 0 rfl rfl (g_in rfl (by omega) (by omega)) dX9_work_185 (fun H locs hP hD hS => ?_)
          have hP : va_P D vwCl [(mh, .inr (9, G9 ma mcode mtoday moffs mmany msumW msumA msumR msumWW msumWA msumAA msumWR msumAR mupper mlower mrates mtaped mlaid mat mtk mtkAt mtkNumber mwaits mlisted mdealtMany)), ((ma 34), .inl (E 1, 2, .inl mf34)), ((ma 35), .inl (E 0, 2, .inl mf35)), ((ma 36), .inl (E 0, 384, .inl mf36)), ((ma 37), .inl (E 0, 384, .inl mf37)), ((ma 45), .inl (E 0, 130, .inl mf45)), ((ma 46), .inl (E 0, 24, .inl mf46)), ((ma 47), .inl (E 0, 5, .inl mf47)), ((ma 48), .inl (E 0, 5, .inl mf48)), ((ma 49), .inl (E 0, 5, .inl mf49)), ((ma 51), .inl (E 0, 15, .inl mf51)), ((ma 52), .inl (E 0, 15, .inl mf52)), ((ma 53), .inl (E 0, 15, .inl mf53)), ((ma 54), .inl (E 0, 15, .inl mf54)), ((ma 56), .inl (E 0, 200, .inl mf56)), ((ma 57), .inl (E 0, 600, .inl mf57)), ((ma 59), .inl (E 0, 3, .inl (upd mf59_39 (L5_39 : Int32).toNatClampNeg z_60))), ((ma 60), .inl (E 0, 3, .inl (upd mf60_39 (L5_39 : Int32).toNatClampNeg z_64)))] H := hP
          have hD := toW hP hD rfl
          obtain ⟨z_65, ez_65⟩ : ∃ y : Int32, y = L5_39 + 1 := ⟨_, rfl⟩
          have jz_65 : z_65.toInt = L5_39.toInt + 1 := by rw [ez_65]; exact g_add rfl t_1 (by omega) (by omega)
          refine lv_iinc (v := z_65) (lv' := [(5, .int z_65), (8, .int z_5), (7, .int z_52), (6, .int z_49), (4, .int 0), (3, .int z_5), (0, .ref mh), (1, .int p0), (2, .int p1)]) hx hb dX9_work_186 hl (k := 3) rfl (by rw [ez_65]; rfl) (by decide) rfl (fun ls hl => ?_)
          refine lv_goto (tgt := 39) hx hb dX9_work_189 (by decide) ?_
          exact ih_9 z_65 (upd mf59_39 (L5_39 : Int32).toNatClampNeg z_60) (upd mf60_39 (L5_39 : Int32).toNatClampNeg z_64) _ _ _ (by have h0 := t_0; (try dsimp only); omega) (by have h0 := t_0; (try dsimp only); omega) hP hD hS (lv_sub hl [0, 4, 5, 6, 7, 8] rfl)
    exact loop_8 4 0 mf59 mf60 _ _ _ (by have h0 := t_0; (try dsimp only); omega) (by have h0 := t_0; (try dsimp only); omega) hP hD hS (lv_sub hl [0, 1, 2, 3, 4, 5] rfl)
  ·
    have ic_7 : z_6.toInt = 2 := (g_eq rfl t_2).mp c_7
    clear c_7
    refine lv_iconst (v := 1) hx hb dX9_work_29 (by decide) ?_
    refine lv_goto (tgt := 34) hx hb dX9_work_30 (by decide) ?_
    refine lv_istore (lv' := [(4, .int 1), (3, .int z_5), (0, .ref mh), (1, .int p0), (2, .int p1)]) hx hb dX9_work_34 hl (by decide) rfl (fun ls hl => ?_)
    refine lv_iconst (v := 0) hx hb dX9_work_36 (by decide) ?_
    refine lv_istore (lv' := [(5, .int 0), (4, .int 1), (3, .int z_5), (0, .ref mh), (1, .int p0), (2, .int p1)]) hx hb dX9_work_37 hl (by decide) rfl (fun ls hl => ?_)
    have loop_66 : ∀ (N_68 : Nat) (L5_39 : Int32) (mf59_39 : Nat → Int32) (mf60_39 : Nat → Int32) (H : Heap) (locs : List Loc) (ls : Array Slot), 3 - L5_39.toInt < (N_68 : Int) → (0 ≤ L5_39.toInt ∧ L5_39.toInt ≤ 3) → va_P D vwCl [(mh, .inr (9, G9 ma mcode mtoday moffs mmany msumW msumA msumR msumWW msumWA msumAA msumWR msumAR mupper mlower mrates mtaped mlaid mat mtk mtkAt mtkNumber mwaits mlisted mdealtMany)), ((ma 34), .inl (E 1, 2, .inl mf34)), ((ma 35), .inl (E 0, 2, .inl mf35)), ((ma 36), .inl (E 0, 384, .inl mf36)), ((ma 37), .inl (E 0, 384, .inl mf37)), ((ma 45), .inl (E 0, 130, .inl mf45)), ((ma 46), .inl (E 0, 24, .inl mf46)), ((ma 47), .inl (E 0, 5, .inl mf47)), ((ma 48), .inl (E 0, 5, .inl mf48)), ((ma 49), .inl (E 0, 5, .inl mf49)), ((ma 51), .inl (E 0, 15, .inl mf51)), ((ma 52), .inl (E 0, 15, .inl mf52)), ((ma 53), .inl (E 0, 15, .inl mf53)), ((ma 54), .inl (E 0, 15, .inl mf54)), ((ma 56), .inl (E 0, 200, .inl mf56)), ((ma 57), .inl (E 0, 600, .inl mf57)), ((ma 59), .inl (E 0, 3, .inl mf59_39)), ((ma 60), .inl (E 0, 3, .inl mf60_39))] H → va_D A [(mh, .inr (9, G9 ma mcode mtoday moffs mmany msumW msumA msumR msumWW msumWA msumAA msumWR msumAR mupper mlower mrates mtaped mlaid mat mtk mtkAt mtkNumber mwaits mlisted mdealtMany)), ((ma 34), .inl (E 1, 2, .inl mf34)), ((ma 35), .inl (E 0, 2, .inl mf35)), ((ma 36), .inl (E 0, 384, .inl mf36)), ((ma 37), .inl (E 0, 384, .inl mf37)), ((ma 45), .inl (E 0, 130, .inl mf45)), ((ma 46), .inl (E 0, 24, .inl mf46)), ((ma 47), .inl (E 0, 5, .inl mf47)), ((ma 48), .inl (E 0, 5, .inl mf48)), ((ma 49), .inl (E 0, 5, .inl mf49)), ((ma 51), .inl (E 0, 15, .inl mf51)), ((ma 52), .inl (E 0, 15, .inl mf52)), ((ma 53), .inl (E 0, 15, .inl mf53)), ((ma 54), .inl (E 0, 15, .inl mf54)), ((ma 56), .inl (E 0, 200, .inl mf56)), ((ma 57), .inl (E 0, 600, .inl mf57)), ((ma 59), .inl (E 0, 3, .inl mf59_39)), ((ma 60), .inl (E 0, 3, .inl mf60_39))] → va_S A s.heap H locs → lv_has ls 11 [(5, .int L5_39), (4, .int 1), (3, .int z_5), (0, .ref mh), (1, .int p0), (2, .int p1)] → W p l e (headSpec (wl yX9_work cX9_work 11 (some .int)) (RM 2 0 0)).room s m [Value.ref mh, .int p0, .int p1].toArray below meth c H locs 0 0 (MQ below (va_Qi (fun (r : Int32) (u : (Nat → Int32) × (Nat → Int32) × (Nat → Int32) × (Nat → Int32)) => True) (mu_B D A (fun (u : (Nat → Int32) × (Nat → Int32) × (Nat → Int32) × (Nat → Int32)) => [(mh, .inr (9, G9 ma mcode mtoday moffs mmany msumW msumA msumR msumWW msumWA msumAA msumWR msumAR mupper mlower mrates mtaped mlaid mat mtk mtkAt mtkNumber mwaits mlisted mdealtMany)), ((ma 34), .inl (E 1, 2, .inl mf34)), ((ma 35), .inl (E 0, 2, .inl mf35)), ((ma 36), .inl (E 0, 384, .inl mf36)), ((ma 37), .inl (E 0, 384, .inl mf37)), ((ma 45), .inl (E 0, 130, .inl u.1)), ((ma 46), .inl (E 0, 24, .inl u.2.1)), ((ma 47), .inl (E 0, 5, .inl mf47)), ((ma 48), .inl (E 0, 5, .inl mf48)), ((ma 49), .inl (E 0, 5, .inl mf49)), ((ma 51), .inl (E 0, 15, .inl mf51)), ((ma 52), .inl (E 0, 15, .inl mf52)), ((ma 53), .inl (E 0, 15, .inl mf53)), ((ma 54), .inl (E 0, 15, .inl mf54)), ((ma 56), .inl (E 0, 200, .inl mf56)), ((ma 57), .inl (E 0, 600, .inl mf57)), ((ma 59), .inl (E 0, 3, .inl u.2.2.1)), ((ma 60), .inl (E 0, 3, .inl u.2.2.2))])) A) [Value.ref mh, .int p0, .int p1].toArray s 0 0 A) (F0 m 39 ls []) := by
      intro N_68
      induction N_68 with
      | zero => intro L5_39 mf59_39 mf60_39 H locs ls hm v0_39 _ _ _ _; exfalso; omega
      | succ N_68 ih_67 =>
        intro L5_39 mf59_39 mf60_39 H locs ls hm v0_39 hP hD hS hl
        have lo_L5_39 := i_lo L5_39; have hi_L5_39 := i_hi L5_39
        refine lv_iload hx hb dX9_work_39 (lv_at hl 0 rfl) ?_
        refine lv_iconst (v := 3) hx hb dX9_work_41 (by decide) ?_
        refine lv_icmp_ge (tgt := 192) hx hb dX9_work_42 (by decide) (fun c_69 => ?_) (fun c_69 => ?_)
        ·
          have ic_69 : 3 ≤ L5_39.toInt := by first | exact (g_le t_3 rfl).mp c_69 | (have h := mt (g_lt rfl t_3).mpr c_69; omega)
          clear c_69
          refine lv_aload_n hx hb dX9_work_192 rfl (lv_at hl 3 rfl) ?_
          refine va_get (D := D) (ci := 9) (v := .ref (ma 34)) (C := RX9) (T := TX9) (N := 68) hx hb htb iX9 hown hK.1 hP 0 rfl rfl 34 (by decide) (htb _ k_992) (fun _ h9 => h9) rfl dX9_work_193 ?_
          refine lv_iconst (v := 1) hx hb dX9_work_196 (by decide) ?_
          refine va_zald hx hb hK.1 hP 1 1 rfl rfl (g_in t_1 (by decide) (by decide)) dX9_work_197 ?_
          refine lv_topi (fun z_70 ez_70 => ?_)
          have kz_70 := congrArg Int32.toInt ez_70
          refine lv_if_ne (tgt := 203) hx hb dX9_work_198 (by decide) (fun c_71 => ?_) (fun c_71 => ?_)
          ·
            have ic_71 : z_70.toInt ≠ 0 := mt (g_eq rfl t_0).mpr c_71
            clear c_71
            refine lv_iconst (v := (-1)) hx hb dX9_work_203 (by decide) ?_
            refine lv_istore (lv' := [(5, .int (-1)), (4, .int 1), (3, .int z_5), (0, .ref mh), (1, .int p0), (2, .int p1)]) hx hb dX9_work_204 hl (by decide) rfl (fun ls hl => ?_)
            refine lv_iconst (v := 0) hx hb dX9_work_206 (by decide) ?_
            refine lv_istore (lv' := [(6, .int 0), (5, .int (-1)), (4, .int 1), (3, .int z_5), (0, .ref mh), (1, .int p0), (2, .int p1)]) hx hb dX9_work_207 hl (by decide) rfl (fun ls hl => ?_)
            refine lv_iconst (v := 0) hx hb dX9_work_209 (by decide) ?_
            refine lv_istore (lv' := [(7, .int 0), (6, .int 0), (5, .int (-1)), (4, .int 1), (3, .int z_5), (0, .ref mh), (1, .int p0), (2, .int p1)]) hx hb dX9_work_210 hl (by decide) rfl (fun ls hl => ?_)
            have loop_72 : ∀ (N_74 : Nat) (L7_212 : Int32) (L6_212 : Int32) (L5_212 : Int32) (mf45_212 : Nat → Int32) (mf46_212 : Nat → Int32) (H : Heap) (locs : List Loc) (ls : Array Slot), 3 - L7_212.toInt < (N_74 : Int) → (0 ≤ L7_212.toInt ∧ L7_212.toInt ≤ 3) → va_P D vwCl [(mh, .inr (9, G9 ma mcode mtoday moffs mmany msumW msumA msumR msumWW msumWA msumAA msumWR msumAR mupper mlower mrates mtaped mlaid mat mtk mtkAt mtkNumber mwaits mlisted mdealtMany)), ((ma 34), .inl (E 1, 2, .inl mf34)), ((ma 35), .inl (E 0, 2, .inl mf35)), ((ma 36), .inl (E 0, 384, .inl mf36)), ((ma 37), .inl (E 0, 384, .inl mf37)), ((ma 45), .inl (E 0, 130, .inl mf45_212)), ((ma 46), .inl (E 0, 24, .inl mf46_212)), ((ma 47), .inl (E 0, 5, .inl mf47)), ((ma 48), .inl (E 0, 5, .inl mf48)), ((ma 49), .inl (E 0, 5, .inl mf49)), ((ma 51), .inl (E 0, 15, .inl mf51)), ((ma 52), .inl (E 0, 15, .inl mf52)), ((ma 53), .inl (E 0, 15, .inl mf53)), ((ma 54), .inl (E 0, 15, .inl mf54)), ((ma 56), .inl (E 0, 200, .inl mf56)), ((ma 57), .inl (E 0, 600, .inl mf57)), ((ma 59), .inl (E 0, 3, .inl mf59_39)), ((ma 60), .inl (E 0, 3, .inl mf60_39))] H → va_D A [(mh, .inr (9, G9 ma mcode mtoday moffs mmany msumW msumA msumR msumWW msumWA msumAA msumWR msumAR mupper mlower mrates mtaped mlaid mat mtk mtkAt mtkNumber mwaits mlisted mdealtMany)), ((ma 34), .inl (E 1, 2, .inl mf34)), ((ma 35), .inl (E 0, 2, .inl mf35)), ((ma 36), .inl (E 0, 384, .inl mf36)), ((ma 37), .inl (E 0, 384, .inl mf37)), ((ma 45), .inl (E 0, 130, .inl mf45_212)), ((ma 46), .inl (E 0, 24, .inl mf46_212)), ((ma 47), .inl (E 0, 5, .inl mf47)), ((ma 48), .inl (E 0, 5, .inl mf48)), ((ma 49), .inl (E 0, 5, .inl mf49)), ((ma 51), .inl (E 0, 15, .inl mf51)), ((ma 52), .inl (E 0, 15, .inl mf52)), ((ma 53), .inl (E 0, 15, .inl mf53)), ((ma 54), .inl (E 0, 15, .inl mf54)), ((ma 56), .inl (E 0, 200, .inl mf56)), ((ma 57), .inl (E 0, 600, .inl mf57)), ((ma 59), .inl (E 0, 3, .inl mf59_39)), ((ma 60), .inl (E 0, 3, .inl mf60_39))] → va_S A s.heap H locs → lv_has ls 11 [(7, .int L7_212), (6, .int L6_212), (5, .int L5_212), (4, .int 1), (3, .int z_5), (0, .ref mh), (1, .int p0), (2, .int p1)] → W p l e (headSpec (wl yX9_work cX9_work 11 (some .int)) (RM 2 0 0)).room s m [Value.ref mh, .int p0, .int p1].toArray below meth c H locs 0 0 (MQ below (va_Qi (fun (r : Int32) (u : (Nat → Int32) × (Nat → Int32) × (Nat → Int32) × (Nat → Int32)) => True) (mu_B D A (fun (u : (Nat → Int32) × (Nat → Int32) × (Nat → Int32) × (Nat → Int32)) => [(mh, .inr (9, G9 ma mcode mtoday moffs mmany msumW msumA msumR msumWW msumWA msumAA msumWR msumAR mupper mlower mrates mtaped mlaid mat mtk mtkAt mtkNumber mwaits mlisted mdealtMany)), ((ma 34), .inl (E 1, 2, .inl mf34)), ((ma 35), .inl (E 0, 2, .inl mf35)), ((ma 36), .inl (E 0, 384, .inl mf36)), ((ma 37), .inl (E 0, 384, .inl mf37)), ((ma 45), .inl (E 0, 130, .inl u.1)), ((ma 46), .inl (E 0, 24, .inl u.2.1)), ((ma 47), .inl (E 0, 5, .inl mf47)), ((ma 48), .inl (E 0, 5, .inl mf48)), ((ma 49), .inl (E 0, 5, .inl mf49)), ((ma 51), .inl (E 0, 15, .inl mf51)), ((ma 52), .inl (E 0, 15, .inl mf52)), ((ma 53), .inl (E 0, 15, .inl mf53)), ((ma 54), .inl (E 0, 15, .inl mf54)), ((ma 56), .inl (E 0, 200, .inl mf56)), ((ma 57), .inl (E 0, 600, .inl mf57)), ((ma 59), .inl (E 0, 3, .inl u.2.2.1)), ((ma 60), .inl (E 0, 3, .inl u.2.2.2))])) A) [Value.ref mh, .int p0, .int p1].toArray s 0 0 A) (F0 m 212 ls []) := by
              intro N_74
              induction N_74 with
              | zero => intro L7_212 L6_212 L5_212 mf45_212 mf46_212 H locs ls hm v0_212 _ _ _ _; exfalso; omega
              | succ N_74 ih_73 =>
                intro L7_212 L6_212 L5_212 mf45_212 mf46_212 H locs ls hm v0_212 hP hD hS hl
                have lo_L7_212 := i_lo L7_212; have hi_L7_212 := i_hi L7_212
                have lo_L6_212 := i_lo L6_212; have hi_L6_212 := i_hi L6_212
                have lo_L5_212 := i_lo L5_212; have hi_L5_212 := i_hi L5_212
                refine lv_iload hx hb dX9_work_212 (lv_at hl 0 rfl) ?_
                refine lv_iconst (v := 3) hx hb dX9_work_214 (by decide) ?_
                refine lv_icmp_ge (tgt := 339) hx hb dX9_work_215 (by decide) (fun c_75 => ?_) (fun c_75 => ?_)
                ·
                  have ic_75 : 3 ≤ L7_212.toInt := by first | exact (g_le t_3 rfl).mp c_75 | (have h := mt (g_lt rfl t_3).mpr c_75; omega)
                  clear c_75
                  refine lv_iload hx hb dX9_work_339 (lv_at hl 2 rfl) ?_
                  have hP9 := hP.sub (ws' := [(mh, .inr (9, G9 ma mcode mtoday moffs mmany msumW msumA msumR msumWW msumWA msumAA msumWR msumAR mupper mlower mrates mtaped mlaid mat mtk mtkAt mtkNumber mwaits mlisted mdealtMany)), ((ma 34), .inl (E 1, 2, .inl mf34)), ((ma 35), .inl (E 0, 2, .inl mf35)), ((ma 36), .inl (E 0, 384, .inl mf36)), ((ma 37), .inl (E 0, 384, .inl mf37)), ((ma 45), .inl (E 0, 130, .inl mf45_212)), ((ma 46), .inl (E 0, 24, .inl mf46_212)), ((ma 47), .inl (E 0, 5, .inl mf47)), ((ma 48), .inl (E 0, 5, .inl mf48)), ((ma 49), .inl (E 0, 5, .inl mf49)), ((ma 51), .inl (E 0, 15, .inl mf51)), ((ma 52), .inl (E 0, 15, .inl mf52)), ((ma 53), .inl (E 0, 15, .inl mf53)), ((ma 54), .inl (E 0, 15, .inl mf54)), ((ma 56), .inl (E 0, 200, .inl mf56)), ((ma 57), .inl (E 0, 600, .inl mf57)), ((ma 59), .inl (E 0, 3, .inl mf59_39)), ((ma 60), .inl (E 0, 3, .inl mf60_39))]) [0, 1, 2, 3, 4, 5, 6, 7, 8, 9, 10, 11, 12, 13, 14, 15, 16, 17] rfl
                  have hD9 := hD.sub (ws' := [(mh, .inr (9, G9 ma mcode mtoday moffs mmany msumW msumA msumR msumWW msumWA msumAA msumWR msumAR mupper mlower mrates mtaped mlaid mat mtk mtkAt mtkNumber mwaits mlisted mdealtMany)), ((ma 34), .inl (E 1, 2, .inl mf34)), ((ma 35), .inl (E 0, 2, .inl mf35)), ((ma 36), .inl (E 0, 384, .inl mf36)), ((ma 37), .inl (E 0, 384, .inl mf37)), ((ma 45), .inl (E 0, 130, .inl mf45_212)), ((ma 46), .inl (E 0, 24, .inl mf46_212)), ((ma 47), .inl (E 0, 5, .inl mf47)), ((ma 48), .inl (E 0, 5, .inl mf48)), ((ma 49), .inl (E 0, 5, .inl mf49)), ((ma 51), .inl (E 0, 15, .inl mf51)), ((ma 52), .inl (E 0, 15, .inl mf52)), ((ma 53), .inl (E 0, 15, .inl mf53)), ((ma 54), .inl (E 0, 15, .inl mf54)), ((ma 56), .inl (E 0, 200, .inl mf56)), ((ma 57), .inl (E 0, 600, .inl mf57)), ((ma 59), .inl (E 0, 3, .inl mf59_39)), ((ma 60), .inl (E 0, 3, .inl mf60_39))]) [0, 1, 2, 3, 4, 5, 6, 7, 8, 9, 10, 11, 12, 13, 14, 15, 16, 17] (by decide) rfl
                  exact W.iret (v := L5_212) hx hb hr (fun t ht hW => ⟨⟨L5_212, (mf45_212, mf46_212, mf59_39, mf60_39), rfl, trivial, by rw [ht]; exact hP9, hD9⟩, hS.F ht⟩) hS.2.2 dX9_work_341
                ·
                  have ic_75 : L7_212.toInt < 3 := by first | exact (g_lt rfl t_3).mp c_75 | (have h := mt (g_le t_3 rfl).mpr c_75; omega)
                  clear c_75
                  refine lv_aload_n hx hb dX9_work_218 rfl (lv_at hl 5 rfl) ?_
                  refine va_get (D := D) (ci := 9) (v := .ref (ma 59)) (C := RX9) (T := TX9) (N := 68) hx hb htb iX9 hown hK.1 hP 0 rfl rfl 59 (by decide) (htb _ k_1017) (fun _ h9 => h9) rfl dX9_work_219 ?_
                  refine lv_iload hx hb dX9_work_222 (lv_at hl 0 rfl) ?_
                  refine lv_iconst (v := 1) hx hb dX9_work_224 (by decide) ?_
                  refine lv_iadd hx hb dX9_work_225 ?_
                  refine lv_topi (fun z_76 ez_76 => ?_)
                  have jz_76 : z_76.toInt = L7_212.toInt + 1 := by rw [ez_76]; exact g_add rfl t_1 (by omega) (by omega)
                  refine lv_iconst (v := 3) hx hb dX9_work_226 (by decide) ?_
                  refine lv_irem hx hb dX9_work_227 (by decide) ?_
                  refine lv_topi (fun z_77 ez_77 => ?_)
                  have jz_77 : z_77.toInt = z_76.toInt % 3 := by rw [ez_77]; exact g_rem rfl t_3 (by omega) (by decide)
                  refine va_iald hx hb hK.1 hP 16 0 rfl rfl (g_in rfl (by omega) (by omega)) dX9_work_228 ?_
                  refine lv_topi (fun z_78 ez_78 => ?_)
                  have kz_78 := congrArg Int32.toInt ez_78
                  obtain ⟨z_79, ez_79⟩ : ∃ y : Int64, (z_78 : Int32).toInt64 = y := ⟨_, rfl⟩
                  refine lv_i2l hx hb dX9_work_229 ez_79 ?_
                  refine lv_aload_n hx hb dX9_work_230 rfl (lv_at hl 5 rfl) ?_
                  refine va_get (D := D) (ci := 9) (v := .ref (ma 59)) (C := RX9) (T := TX9) (N := 68) hx hb htb iX9 hown hK.1 hP 0 rfl rfl 59 (by decide) (htb _ k_1017) (fun _ h9 => h9) rfl dX9_work_231 ?_
                  refine lv_iload hx hb dX9_work_234 (lv_at hl 0 rfl) ?_
                  refine lv_iconst (v := 2) hx hb dX9_work_236 (by decide) ?_
                  refine lv_iadd hx hb dX9_work_237 ?_
                  refine lv_topi (fun z_80 ez_80 => ?_)
                  have jz_80 : z_80.toInt = L7_212.toInt + 2 := by rw [ez_80]; exact g_add rfl t_2 (by omega) (by omega)
                  refine lv_iconst (v := 3) hx hb dX9_work_238 (by decide) ?_
                  refine lv_irem hx hb dX9_work_239 (by decide) ?_
                  refine lv_topi (fun z_81 ez_81 => ?_)
                  have jz_81 : z_81.toInt = z_80.toInt % 3 := by rw [ez_81]; exact g_rem rfl t_3 (by omega) (by decide)
                  refine va_iald hx hb hK.1 hP 16 0 rfl rfl (g_in rfl (by omega) (by omega)) dX9_work_240 ?_
                  refine lv_topi (fun z_82 ez_82 => ?_)
                  have kz_82 := congrArg Int32.toInt ez_82
                  obtain ⟨z_83, ez_83⟩ : ∃ y : Int64, (z_82 : Int32).toInt64 = y := ⟨_, rfl⟩
                  refine lv_i2l hx hb dX9_work_241 ez_83 ?_
                  refine lv_ladd hx hb dX9_work_242 ?_
                  refine lv_topl (fun z_84 ez_84 => ?_)
                  refine lv_lstore (lv' := [(8, .long z_84), (7, .int L7_212), (6, .int L6_212), (5, .int L5_212), (4, .int 1), (3, .int z_5), (0, .ref mh), (1, .int p0), (2, .int p1)]) hx hb dX9_work_243 hl (by decide) rfl (fun ls hl => ?_)
                  refine lv_aload_n hx hb dX9_work_245 rfl (lv_at hl 6 rfl) ?_
                  refine va_get (D := D) (ci := 9) (v := .ref (ma 46)) (C := RX9) (T := TX9) (N := 68) hx hb htb iX9 hown hK.1 hP 0 rfl rfl 46 (by decide) (htb _ k_1004) (fun _ h9 => h9) rfl dX9_work_246 ?_
                  refine lv_bipush (v := 20) hx hb dX9_work_249 (by decide) ?_
                  refine lv_aload_n hx hb dX9_work_251 rfl (lv_at hl 6 rfl) ?_
                  refine va_get (D := D) (ci := 9) (v := .ref (ma 59)) (C := RX9) (T := TX9) (N := 68) hx hb htb iX9 hown hK.1 hP 0 rfl rfl 59 (by decide) (htb _ k_1017) (fun _ h9 => h9) rfl dX9_work_252 ?_
                  refine lv_iload hx hb dX9_work_255 (lv_at hl 1 rfl) ?_
                  refine va_iald hx hb hK.1 hP 16 0 rfl rfl (g_in rfl (by omega) (by omega)) dX9_work_257 ?_
                  refine lv_topi (fun z_85 ez_85 => ?_)
                  have kz_85 := congrArg Int32.toInt ez_85
                  obtain ⟨z_86, ez_86⟩ : ∃ y : Int64, (z_85 : Int32).toInt64 = y := ⟨_, rfl⟩
                  refine lv_i2l hx hb dX9_work_258 ez_86 ?_
                  refine lv_lload hx hb dX9_work_259 (lv_at hl 0 rfl) ?_
                  refine lv_ldc2 hx hb hown (htb _ k_1446) dX9_work_261 ?_
                  refine callLS (rest := [.long z_86, .int 20, .ref (ma 46)]) (As := [.long z_84, .long (2)]) hx hb hml hown htb hK (g_X9_floor l D E z_84 (2) (by decide)) ok_X9_floor k_1311 k_1312 k_9 k_1313 ⟨(Nat.le_of_ble_eq_true rfl), (Nat.le_of_ble_eq_true rfl)⟩ ⟨(Nat.le_of_ble_eq_true rfl), (Nat.le_of_ble_eq_true rfl)⟩ hl.1 (Nat.le_of_ble_eq_true rfl) rfl rfl dX9_work_264 (hP.sub (ws' := ([] : va_W)) [] rfl) (fun r_87 hw_88 => ?_)
                  try simp only [t_2] at hw_88
                  refine lv_lsub hx hb dX9_work_267 ?_
                  refine lv_topl (fun z_90 ez_90 => ?_)
                  obtain ⟨z_91, ez_91⟩ : ∃ y : Int32, (z_90 : Int64).toInt32 = y := ⟨_, rfl⟩
                  refine lv_l2i hx hb dX9_work_268 ez_91 ?_
                  refine callRS (rest := [.int 20, .ref (ma 46)]) (As := [.int z_91]) hx hb hml hown htb hK (g_X9_size l D E z_91 ) ok_X9_size k_1235 k_1236 k_9 k_1237 ⟨(Nat.le_of_ble_eq_true rfl), (Nat.le_of_ble_eq_true rfl)⟩ ⟨(Nat.le_of_ble_eq_true rfl), (Nat.le_of_ble_eq_true rfl)⟩ hl.1 (Nat.le_of_ble_eq_true rfl) rfl rfl dX9_work_269 (hP.sub (ws' := ([] : va_W)) [] rfl) (fun r_92 hw_93 => ?_)
                  refine va_iast hx hb hK.1 hP hD hS 6 0 rfl rfl (g_in t_20 (by decide) (by decide)) dX9_work_272 (fun H locs hP hD hS => ?_)
                  have hP : va_P D vwCl [(mh, .inr (9, G9 ma mcode mtoday moffs mmany msumW msumA msumR msumWW msumWA msumAA msumWR msumAR mupper mlower mrates mtaped mlaid mat mtk mtkAt mtkNumber mwaits mlisted mdealtMany)), ((ma 34), .inl (E 1, 2, .inl mf34)), ((ma 35), .inl (E 0, 2, .inl mf35)), ((ma 36), .inl (E 0, 384, .inl mf36)), ((ma 37), .inl (E 0, 384, .inl mf37)), ((ma 45), .inl (E 0, 130, .inl mf45_212)), ((ma 46), .inl (E 0, 24, .inl (upd mf46_212 (20 : Int32).toNatClampNeg r_92))), ((ma 47), .inl (E 0, 5, .inl mf47)), ((ma 48), .inl (E 0, 5, .inl mf48)), ((ma 49), .inl (E 0, 5, .inl mf49)), ((ma 51), .inl (E 0, 15, .inl mf51)), ((ma 52), .inl (E 0, 15, .inl mf52)), ((ma 53), .inl (E 0, 15, .inl mf53)), ((ma 54), .inl (E 0, 15, .inl mf54)), ((ma 56), .inl (E 0, 200, .inl mf56)), ((ma 57), .inl (E 0, 600, .inl mf57)), ((ma 59), .inl (E 0, 3, .inl mf59_39)), ((ma 60), .inl (E 0, 3, .inl mf60_39))] H := hP
                  have hD := toW hP hD rfl
                  refine lv_aload_n hx hb dX9_work_273 rfl (lv_at hl 6 rfl) ?_
                  refine va_get (D := D) (ci := 9) (v := .ref (ma 46)) (C := RX9) (T := TX9) (N := 68) hx hb htb iX9 hown hK.1 hP 0 rfl rfl 46 (by decide) (htb _ k_1004) (fun _ h9 => h9) rfl dX9_work_274 ?_
                  refine lv_bipush (v := 21) hx hb dX9_work_277 (by decide) ?_
                  refine lv_aload_n hx hb dX9_work_279 rfl (lv_at hl 6 rfl) ?_
                  refine va_get (D := D) (ci := 9) (v := .ref (ma 53)) (C := RX9) (T := TX9) (N := 68) hx hb htb iX9 hown hK.1 hP 0 rfl rfl 53 (by decide) (htb _ k_1011) (fun _ h9 => h9) rfl dX9_work_280 ?_
                  refine lv_iconst (v := 3) hx hb dX9_work_283 (by decide) ?_
                  refine lv_iload_n hx hb dX9_work_284 rfl (lv_at hl 7 rfl) ?_
                  refine lv_imul hx hb dX9_work_285 ?_
                  refine lv_topi (fun z_95 ez_95 => ?_)
                  have jz_95 : z_95.toInt = 3 * p0.toInt := by rw [ez_95]; exact g_mul t_3 rfl (by omega) (by omega)
                  refine lv_iload hx hb dX9_work_286 (lv_at hl 1 rfl) ?_
                  refine lv_iadd hx hb dX9_work_288 ?_
                  refine lv_topi (fun z_96 ez_96 => ?_)
                  have jz_96 : z_96.toInt = z_95.toInt + L7_212.toInt := by rw [ez_96]; exact g_add rfl rfl (by omega) (by omega)
                  refine va_iald hx hb hK.1 hP 12 0 rfl rfl (g_in rfl (by omega) (by omega)) dX9_work_289 ?_
                  refine lv_topi (fun z_97 ez_97 => ?_)
                  have kz_97 := congrArg Int32.toInt ez_97
                  refine va_iast hx hb hK.1 hP hD hS 6 0 rfl rfl (g_in t_21 (by decide) (by decide)) dX9_work_290 (fun H locs hP hD hS => ?_)
                  have hP : va_P D vwCl [(mh, .inr (9, G9 ma mcode mtoday moffs mmany msumW msumA msumR msumWW msumWA msumAA msumWR msumAR mupper mlower mrates mtaped mlaid mat mtk mtkAt mtkNumber mwaits mlisted mdealtMany)), ((ma 34), .inl (E 1, 2, .inl mf34)), ((ma 35), .inl (E 0, 2, .inl mf35)), ((ma 36), .inl (E 0, 384, .inl mf36)), ((ma 37), .inl (E 0, 384, .inl mf37)), ((ma 45), .inl (E 0, 130, .inl mf45_212)), ((ma 46), .inl (E 0, 24, .inl (upd (upd mf46_212 (20 : Int32).toNatClampNeg r_92) (21 : Int32).toNatClampNeg z_97))), ((ma 47), .inl (E 0, 5, .inl mf47)), ((ma 48), .inl (E 0, 5, .inl mf48)), ((ma 49), .inl (E 0, 5, .inl mf49)), ((ma 51), .inl (E 0, 15, .inl mf51)), ((ma 52), .inl (E 0, 15, .inl mf52)), ((ma 53), .inl (E 0, 15, .inl mf53)), ((ma 54), .inl (E 0, 15, .inl mf54)), ((ma 56), .inl (E 0, 200, .inl mf56)), ((ma 57), .inl (E 0, 600, .inl mf57)), ((ma 59), .inl (E 0, 3, .inl mf59_39)), ((ma 60), .inl (E 0, 3, .inl mf60_39))] H := hP
                  have hD := toW hP hD rfl
                  generalize (upd (upd mf46_212 (20 : Int32).toNatClampNeg r_92) (21 : Int32).toNatClampNeg z_97) = g_98 at hP hD
                  refine lv_aload_n hx hb dX9_work_291 rfl (lv_at hl 6 rfl) ?_
                  refine va_get (D := D) (ci := 9) (v := .ref (ma 46)) (C := RX9) (T := TX9) (N := 68) hx hb htb iX9 hown hK.1 hP 0 rfl rfl 46 (by decide) (htb _ k_1004) (fun _ h9 => h9) rfl dX9_work_292 ?_
                  refine lv_bipush (v := 22) hx hb dX9_work_295 (by decide) ?_
                  refine lv_iload_n hx hb dX9_work_297 rfl (lv_at hl 5 rfl) ?_
                  refine va_iast hx hb hK.1 hP hD hS 6 0 rfl rfl (g_in t_22 (by decide) (by decide)) dX9_work_298 (fun H locs hP hD hS => ?_)
                  have hP : va_P D vwCl [(mh, .inr (9, G9 ma mcode mtoday moffs mmany msumW msumA msumR msumWW msumWA msumAA msumWR msumAR mupper mlower mrates mtaped mlaid mat mtk mtkAt mtkNumber mwaits mlisted mdealtMany)), ((ma 34), .inl (E 1, 2, .inl mf34)), ((ma 35), .inl (E 0, 2, .inl mf35)), ((ma 36), .inl (E 0, 384, .inl mf36)), ((ma 37), .inl (E 0, 384, .inl mf37)), ((ma 45), .inl (E 0, 130, .inl mf45_212)), ((ma 46), .inl (E 0, 24, .inl (upd g_98 (22 : Int32).toNatClampNeg z_5))), ((ma 47), .inl (E 0, 5, .inl mf47)), ((ma 48), .inl (E 0, 5, .inl mf48)), ((ma 49), .inl (E 0, 5, .inl mf49)), ((ma 51), .inl (E 0, 15, .inl mf51)), ((ma 52), .inl (E 0, 15, .inl mf52)), ((ma 53), .inl (E 0, 15, .inl mf53)), ((ma 54), .inl (E 0, 15, .inl mf54)), ((ma 56), .inl (E 0, 200, .inl mf56)), ((ma 57), .inl (E 0, 600, .inl mf57)), ((ma 59), .inl (E 0, 3, .inl mf59_39)), ((ma 60), .inl (E 0, 3, .inl mf60_39))] H := hP
                  have hD := toW hP hD rfl
                  refine lv_aload_n hx hb dX9_work_299 rfl (lv_at hl 6 rfl) ?_
                  refine va_get (D := D) (ci := 9) (v := .ref (ma 46)) (C := RX9) (T := TX9) (N := 68) hx hb htb iX9 hown hK.1 hP 0 rfl rfl 46 (by decide) (htb _ k_1004) (fun _ h9 => h9) rfl dX9_work_300 ?_
                  refine lv_bipush (v := 23) hx hb dX9_work_303 (by decide) ?_
                  refine lv_iload hx hb dX9_work_305 (lv_at hl 1 rfl) ?_
                  refine va_iast hx hb hK.1 hP hD hS 6 0 rfl rfl (g_in t_23 (by decide) (by decide)) dX9_work_307 (fun H locs hP hD hS => ?_)
                  have hP : va_P D vwCl [(mh, .inr (9, G9 ma mcode mtoday moffs mmany msumW msumA msumR msumWW msumWA msumAA msumWR msumAR mupper mlower mrates mtaped mlaid mat mtk mtkAt mtkNumber mwaits mlisted mdealtMany)), ((ma 34), .inl (E 1, 2, .inl mf34)), ((ma 35), .inl (E 0, 2, .inl mf35)), ((ma 36), .inl (E 0, 384, .inl mf36)), ((ma 37), .inl (E 0, 384, .inl mf37)), ((ma 45), .inl (E 0, 130, .inl mf45_212)), ((ma 46), .inl (E 0, 24, .inl (upd (upd g_98 (22 : Int32).toNatClampNeg z_5) (23 : Int32).toNatClampNeg L7_212))), ((ma 47), .inl (E 0, 5, .inl mf47)), ((ma 48), .inl (E 0, 5, .inl mf48)), ((ma 49), .inl (E 0, 5, .inl mf49)), ((ma 51), .inl (E 0, 15, .inl mf51)), ((ma 52), .inl (E 0, 15, .inl mf52)), ((ma 53), .inl (E 0, 15, .inl mf53)), ((ma 54), .inl (E 0, 15, .inl mf54)), ((ma 56), .inl (E 0, 200, .inl mf56)), ((ma 57), .inl (E 0, 600, .inl mf57)), ((ma 59), .inl (E 0, 3, .inl mf59_39)), ((ma 60), .inl (E 0, 3, .inl mf60_39))] H := hP
                  have hD := toW hP hD rfl
                  generalize (upd (upd g_98 (22 : Int32).toNatClampNeg z_5) (23 : Int32).toNatClampNeg L7_212) = g_99 at hP hD
                  refine lv_aload_n hx hb dX9_work_308 rfl (lv_at hl 6 rfl) ?_
                  refine lv_iconst (v := 1) hx hb dX9_work_309 (by decide) ?_
                  have hPc := hP.sub (ws' := [(mh, .inr (9, G9 ma mcode mtoday moffs mmany msumW msumA msumR msumWW msumWA msumAA msumWR msumAR mupper mlower mrates mtaped mlaid mat mtk mtkAt mtkNumber mwaits mlisted mdealtMany)), ((ma 35), .inl (E 0, 2, .inl mf35)), ((ma 36), .inl (E 0, 384, .inl mf36)), ((ma 37), .inl (E 0, 384, .inl mf37)), ((ma 45), .inl (E 0, 130, .inl mf45_212)), ((ma 46), .inl (E 0, 24, .inl g_99))]) [0, 2, 3, 4, 5, 6] rfl
                  have hDc := hD.sub (ws' := [(mh, .inr (9, G9 ma mcode mtoday moffs mmany msumW msumA msumR msumWW msumWA msumAA msumWR msumAR mupper mlower mrates mtaped mlaid mat mtk mtkAt mtkNumber mwaits mlisted mdealtMany)), ((ma 35), .inl (E 0, 2, .inl mf35)), ((ma 36), .inl (E 0, 384, .inl mf36)), ((ma 37), .inl (E 0, 384, .inl mf37)), ((ma 45), .inl (E 0, 130, .inl mf45_212)), ((ma 46), .inl (E 0, 24, .inl g_99))]) [0, 2, 3, 4, 5, 6] (by decide) rfl
                  refine aft_i (runMV (rest := []) (As := [.int 1]) hx hb hml hown htb hK (g_X9_says1 l D E mh ma mcode mtoday moffs mmany msumW msumA msumR msumWW msumWA msumAA msumWR msumAR mupper mlower mrates mtaped mlaid mat mtk mtkAt mtkNumber mwaits mlisted mdealtMany mf35 mf36 mf37 mf45_212 g_99 _ (by (try dsimp only); omega) hr_m35 hjw) ok_X9_says k_1395 k_1397 ks_60 k_9 k_1398 ⟨(Nat.le_of_ble_eq_true rfl), (Nat.le_of_ble_eq_true rfl)⟩ ⟨(Nat.le_of_ble_eq_true rfl), (Nat.le_of_ble_eq_true rfl)⟩ hl.1 (Nat.le_of_ble_eq_true rfl) rfl rfl dX9_work_310 hPc hDc rfl rfl 0 rfl) hP hD hS hA [0, 2, 3, 4, 5, 6] [1, 7, 8, 9, 10, 11, 12, 13, 14, 15, 16, 17] (wr := [((ma 34), .inl (E 1, 2, .inl mf34)), ((ma 47), .inl (E 0, 5, .inl mf47)), ((ma 48), .inl (E 0, 5, .inl mf48)), ((ma 49), .inl (E 0, 5, .inl mf49)), ((ma 51), .inl (E 0, 15, .inl mf51)), ((ma 52), .inl (E 0, 15, .inl mf52)), ((ma 53), .inl (E 0, 15, .inl mf53)), ((ma 54), .inl (E 0, 15, .inl mf54)), ((ma 56), .inl (E 0, 200, .inl mf56)), ((ma 57), .inl (E 0, 600, .inl mf57)), ((ma 59), .inl (E 0, 3, .inl mf59_39)), ((ma 60), .inl (E 0, 3, .inl mf60_39))]) rfl rfl (by decide) (by decide) (fun r_100 u_102 H locs hw_101 hP hD hS => ?_)
                  clear hPc hDc
                  have hP : va_P D vwCl [((ma 34), .inl (E 1, 2, .inl mf34)), ((ma 47), .inl (E 0, 5, .inl mf47)), ((ma 48), .inl (E 0, 5, .inl mf48)), ((ma 49), .inl (E 0, 5, .inl mf49)), ((ma 51), .inl (E 0, 15, .inl mf51)), ((ma 52), .inl (E 0, 15, .inl mf52)), ((ma 53), .inl (E 0, 15, .inl mf53)), ((ma 54), .inl (E 0, 15, .inl mf54)), ((ma 56), .inl (E 0, 200, .inl mf56)), ((ma 57), .inl (E 0, 600, .inl mf57)), ((ma 59), .inl (E 0, 3, .inl mf59_39)), ((ma 60), .inl (E 0, 3, .inl mf60_39)), (mh, .inr (9, G9 ma mcode mtoday moffs mmany msumW msumA msumR msumWW msumWA msumAA msumWR msumAR mupper mlower mrates mtaped mlaid mat mtk mtkAt mtkNumber mwaits mlisted mdealtMany)), ((ma 35), .inl (E 0, 2, .inl mf35)), ((ma 36), .inl (E 0, 384, .inl mf36)), ((ma 37), .inl (E 0, 384, .inl mf37)), ((ma 45), .inl (E 0, 130, .inl u_102)), ((ma 46), .inl (E 0, 24, .inl g_99))] H := hP
                  have hD := toW hP hD rfl
                  try simp only [t_1] at hw_101
                  refine lv_istore (lv' := [(10, .int r_100), (8, .long z_84), (7, .int L7_212), (6, .int L6_212), (5, .int L5_212), (4, .int 1), (3, .int z_5), (0, .ref mh), (1, .int p0), (2, .int p1)]) hx hb dX9_work_313 hl (by decide) rfl (fun ls hl => ?_)
                  refine lv_iload hx hb dX9_work_315 (lv_at hl 0 rfl) ?_
                  refine lv_iload hx hb dX9_work_317 (lv_at hl 3 rfl) ?_
                  refine lv_icmp_gt (tgt := 325) hx hb dX9_work_319 (by decide) (fun c_103 => ?_) (fun c_103 => ?_)
                  ·
                    have ic_103 : L6_212.toInt < r_100.toInt := by first | exact (g_lt rfl rfl).mp c_103 | (have h := mt (g_le rfl rfl).mpr c_103; omega)
                    clear c_103
                    refine lv_iload hx hb dX9_work_325 (lv_at hl 0 rfl) ?_
                    refine lv_istore (lv' := [(6, .int r_100), (10, .int r_100), (8, .long z_84), (7, .int L7_212), (5, .int L5_212), (4, .int 1), (3, .int z_5), (0, .ref mh), (1, .int p0), (2, .int p1)]) hx hb dX9_work_327 hl (by decide) rfl (fun ls hl => ?_)
                    refine lv_iload hx hb dX9_work_329 (lv_at hl 3 rfl) ?_
                    refine lv_istore (lv' := [(5, .int L7_212), (6, .int r_100), (10, .int r_100), (8, .long z_84), (7, .int L7_212), (4, .int 1), (3, .int z_5), (0, .ref mh), (1, .int p0), (2, .int p1)]) hx hb dX9_work_331 hl (by decide) rfl (fun ls hl => ?_)
                    obtain ⟨z_104, ez_104⟩ : ∃ y : Int32, y = L7_212 + 1 := ⟨_, rfl⟩
                    have jz_104 : z_104.toInt = L7_212.toInt + 1 := by rw [ez_104]; exact g_add rfl t_1 (by omega) (by omega)
                    refine lv_iinc (v := z_104) (lv' := [(7, .int z_104), (5, .int L7_212), (6, .int r_100), (10, .int r_100), (8, .long z_84), (4, .int 1), (3, .int z_5), (0, .ref mh), (1, .int p0), (2, .int p1)]) hx hb dX9_work_333 hl (k := 4) rfl (by rw [ez_104]; rfl) (by decide) rfl (fun ls hl => ?_)
                    refine lv_goto (tgt := 212) hx hb dX9_work_336 (by decide) ?_
                    have hP := hP.sub (ws' := [(mh, .inr (9, G9 ma mcode mtoday moffs mmany msumW msumA msumR msumWW msumWA msumAA msumWR msumAR mupper mlower mrates mtaped mlaid mat mtk mtkAt mtkNumber mwaits mlisted mdealtMany)), ((ma 34), .inl (E 1, 2, .inl mf34)), ((ma 35), .inl (E 0, 2, .inl mf35)), ((ma 36), .inl (E 0, 384, .inl mf36)), ((ma 37), .inl (E 0, 384, .inl mf37)), ((ma 45), .inl (E 0, 130, .inl u_102)), ((ma 46), .inl (E 0, 24, .inl g_99)), ((ma 47), .inl (E 0, 5, .inl mf47)), ((ma 48), .inl (E 0, 5, .inl mf48)), ((ma 49), .inl (E 0, 5, .inl mf49)), ((ma 51), .inl (E 0, 15, .inl mf51)), ((ma 52), .inl (E 0, 15, .inl mf52)), ((ma 53), .inl (E 0, 15, .inl mf53)), ((ma 54), .inl (E 0, 15, .inl mf54)), ((ma 56), .inl (E 0, 200, .inl mf56)), ((ma 57), .inl (E 0, 600, .inl mf57)), ((ma 59), .inl (E 0, 3, .inl mf59_39)), ((ma 60), .inl (E 0, 3, .inl mf60_39))]) [12, 0, 13, 14, 15, 16, 17, 1, 2, 3, 4, 5, 6, 7, 8, 9, 10, 11] rfl
                    have hD := hD.sub (ws' := [(mh, .inr (9, G9 ma mcode mtoday moffs mmany msumW msumA msumR msumWW msumWA msumAA msumWR msumAR mupper mlower mrates mtaped mlaid mat mtk mtkAt mtkNumber mwaits mlisted mdealtMany)), ((ma 34), .inl (E 1, 2, .inl mf34)), ((ma 35), .inl (E 0, 2, .inl mf35)), ((ma 36), .inl (E 0, 384, .inl mf36)), ((ma 37), .inl (E 0, 384, .inl mf37)), ((ma 45), .inl (E 0, 130, .inl u_102)), ((ma 46), .inl (E 0, 24, .inl g_99)), ((ma 47), .inl (E 0, 5, .inl mf47)), ((ma 48), .inl (E 0, 5, .inl mf48)), ((ma 49), .inl (E 0, 5, .inl mf49)), ((ma 51), .inl (E 0, 15, .inl mf51)), ((ma 52), .inl (E 0, 15, .inl mf52)), ((ma 53), .inl (E 0, 15, .inl mf53)), ((ma 54), .inl (E 0, 15, .inl mf54)), ((ma 56), .inl (E 0, 200, .inl mf56)), ((ma 57), .inl (E 0, 600, .inl mf57)), ((ma 59), .inl (E 0, 3, .inl mf59_39)), ((ma 60), .inl (E 0, 3, .inl mf60_39))]) [12, 0, 13, 14, 15, 16, 17, 1, 2, 3, 4, 5, 6, 7, 8, 9, 10, 11] (by decide) rfl
                    exact ih_73 z_104 r_100 L7_212 u_102 g_99 _ _ _ (by have h0 := t_1; (try dsimp only); omega) (by have h0 := t_1; (try dsimp only); omega) hP hD hS (lv_sub hl [0, 2, 1, 5, 6, 7, 8, 9] rfl)
                  ·
                    have ic_103 : r_100.toInt ≤ L6_212.toInt := by first | exact (g_le rfl rfl).mp c_103 | (have h := mt (g_lt rfl rfl).mpr c_103; omega)
                    clear c_103
                    refine lv_goto (tgt := 333) hx hb dX9_work_322 (by decide) ?_
                    obtain ⟨z_105, ez_105⟩ : ∃ y : Int32, y = L7_212 + 1 := ⟨_, rfl⟩
                    have jz_105 : z_105.toInt = L7_212.toInt + 1 := by rw [ez_105]; exact g_add rfl t_1 (by omega) (by omega)
                    refine lv_iinc (v := z_105) (lv' := [(7, .int z_105), (10, .int r_100), (8, .long z_84), (6, .int L6_212), (5, .int L5_212), (4, .int 1), (3, .int z_5), (0, .ref mh), (1, .int p0), (2, .int p1)]) hx hb dX9_work_333 hl (k := 2) rfl (by rw [ez_105]; rfl) (by decide) rfl (fun ls hl => ?_)
                    refine lv_goto (tgt := 212) hx hb dX9_work_336 (by decide) ?_
                    have hP := hP.sub (ws' := [(mh, .inr (9, G9 ma mcode mtoday moffs mmany msumW msumA msumR msumWW msumWA msumAA msumWR msumAR mupper mlower mrates mtaped mlaid mat mtk mtkAt mtkNumber mwaits mlisted mdealtMany)), ((ma 34), .inl (E 1, 2, .inl mf34)), ((ma 35), .inl (E 0, 2, .inl mf35)), ((ma 36), .inl (E 0, 384, .inl mf36)), ((ma 37), .inl (E 0, 384, .inl mf37)), ((ma 45), .inl (E 0, 130, .inl u_102)), ((ma 46), .inl (E 0, 24, .inl g_99)), ((ma 47), .inl (E 0, 5, .inl mf47)), ((ma 48), .inl (E 0, 5, .inl mf48)), ((ma 49), .inl (E 0, 5, .inl mf49)), ((ma 51), .inl (E 0, 15, .inl mf51)), ((ma 52), .inl (E 0, 15, .inl mf52)), ((ma 53), .inl (E 0, 15, .inl mf53)), ((ma 54), .inl (E 0, 15, .inl mf54)), ((ma 56), .inl (E 0, 200, .inl mf56)), ((ma 57), .inl (E 0, 600, .inl mf57)), ((ma 59), .inl (E 0, 3, .inl mf59_39)), ((ma 60), .inl (E 0, 3, .inl mf60_39))]) [12, 0, 13, 14, 15, 16, 17, 1, 2, 3, 4, 5, 6, 7, 8, 9, 10, 11] rfl
                    have hD := hD.sub (ws' := [(mh, .inr (9, G9 ma mcode mtoday moffs mmany msumW msumA msumR msumWW msumWA msumAA msumWR msumAR mupper mlower mrates mtaped mlaid mat mtk mtkAt mtkNumber mwaits mlisted mdealtMany)), ((ma 34), .inl (E 1, 2, .inl mf34)), ((ma 35), .inl (E 0, 2, .inl mf35)), ((ma 36), .inl (E 0, 384, .inl mf36)), ((ma 37), .inl (E 0, 384, .inl mf37)), ((ma 45), .inl (E 0, 130, .inl u_102)), ((ma 46), .inl (E 0, 24, .inl g_99)), ((ma 47), .inl (E 0, 5, .inl mf47)), ((ma 48), .inl (E 0, 5, .inl mf48)), ((ma 49), .inl (E 0, 5, .inl mf49)), ((ma 51), .inl (E 0, 15, .inl mf51)), ((ma 52), .inl (E 0, 15, .inl mf52)), ((ma 53), .inl (E 0, 15, .inl mf53)), ((ma 54), .inl (E 0, 15, .inl mf54)), ((ma 56), .inl (E 0, 200, .inl mf56)), ((ma 57), .inl (E 0, 600, .inl mf57)), ((ma 59), .inl (E 0, 3, .inl mf59_39)), ((ma 60), .inl (E 0, 3, .inl mf60_39))]) [12, 0, 13, 14, 15, 16, 17, 1, 2, 3, 4, 5, 6, 7, 8, 9, 10, 11] (by decide) rfl
                    exact ih_73 z_105 L6_212 L5_212 u_102 g_99 _ _ _ (by have h0 := t_1; (try dsimp only); omega) (by have h0 := t_1; (try dsimp only); omega) hP hD hS (lv_sub hl [0, 3, 4, 5, 6, 7, 8, 9] rfl)
            exact loop_72 4 0 0 ((-1)) mf45 mf46 _ _ _ (by have h0 := t_m1; have h1 := t_0; have h2 := t_1; (try dsimp only); omega) (by have h0 := t_m1; have h1 := t_0; have h2 := t_1; (try dsimp only); omega) hP hD hS (lv_sub hl [0, 1, 2, 3, 4, 5, 6, 7] rfl)
          ·
            have ic_71 : z_70.toInt = 0 := (g_eq rfl t_0).mp c_71
            clear c_71
            refine lv_iconst (v := (-1)) hx hb dX9_work_201 (by decide) ?_
            have hP9 := hP.sub (ws' := [(mh, .inr (9, G9 ma mcode mtoday moffs mmany msumW msumA msumR msumWW msumWA msumAA msumWR msumAR mupper mlower mrates mtaped mlaid mat mtk mtkAt mtkNumber mwaits mlisted mdealtMany)), ((ma 34), .inl (E 1, 2, .inl mf34)), ((ma 35), .inl (E 0, 2, .inl mf35)), ((ma 36), .inl (E 0, 384, .inl mf36)), ((ma 37), .inl (E 0, 384, .inl mf37)), ((ma 45), .inl (E 0, 130, .inl mf45)), ((ma 46), .inl (E 0, 24, .inl mf46)), ((ma 47), .inl (E 0, 5, .inl mf47)), ((ma 48), .inl (E 0, 5, .inl mf48)), ((ma 49), .inl (E 0, 5, .inl mf49)), ((ma 51), .inl (E 0, 15, .inl mf51)), ((ma 52), .inl (E 0, 15, .inl mf52)), ((ma 53), .inl (E 0, 15, .inl mf53)), ((ma 54), .inl (E 0, 15, .inl mf54)), ((ma 56), .inl (E 0, 200, .inl mf56)), ((ma 57), .inl (E 0, 600, .inl mf57)), ((ma 59), .inl (E 0, 3, .inl mf59_39)), ((ma 60), .inl (E 0, 3, .inl mf60_39))]) [0, 1, 2, 3, 4, 5, 6, 7, 8, 9, 10, 11, 12, 13, 14, 15, 16, 17] rfl
            have hD9 := hD.sub (ws' := [(mh, .inr (9, G9 ma mcode mtoday moffs mmany msumW msumA msumR msumWW msumWA msumAA msumWR msumAR mupper mlower mrates mtaped mlaid mat mtk mtkAt mtkNumber mwaits mlisted mdealtMany)), ((ma 34), .inl (E 1, 2, .inl mf34)), ((ma 35), .inl (E 0, 2, .inl mf35)), ((ma 36), .inl (E 0, 384, .inl mf36)), ((ma 37), .inl (E 0, 384, .inl mf37)), ((ma 45), .inl (E 0, 130, .inl mf45)), ((ma 46), .inl (E 0, 24, .inl mf46)), ((ma 47), .inl (E 0, 5, .inl mf47)), ((ma 48), .inl (E 0, 5, .inl mf48)), ((ma 49), .inl (E 0, 5, .inl mf49)), ((ma 51), .inl (E 0, 15, .inl mf51)), ((ma 52), .inl (E 0, 15, .inl mf52)), ((ma 53), .inl (E 0, 15, .inl mf53)), ((ma 54), .inl (E 0, 15, .inl mf54)), ((ma 56), .inl (E 0, 200, .inl mf56)), ((ma 57), .inl (E 0, 600, .inl mf57)), ((ma 59), .inl (E 0, 3, .inl mf59_39)), ((ma 60), .inl (E 0, 3, .inl mf60_39))]) [0, 1, 2, 3, 4, 5, 6, 7, 8, 9, 10, 11, 12, 13, 14, 15, 16, 17] (by decide) rfl
            exact W.iret (v := (-1)) hx hb hr (fun t ht hW => ⟨⟨(-1), (mf45, mf46, mf59_39, mf60_39), rfl, trivial, by rw [ht]; exact hP9, hD9⟩, hS.F ht⟩) hS.2.2 dX9_work_202
        ·
          have ic_69 : L5_39.toInt < 3 := by first | exact (g_lt rfl t_3).mp c_69 | (have h := mt (g_le t_3 rfl).mpr c_69; omega)
          clear c_69
          refine lv_iconst (v := 3) hx hb dX9_work_45 (by decide) ?_
          refine lv_iload_n hx hb dX9_work_46 rfl (lv_at hl 4 rfl) ?_
          refine lv_imul hx hb dX9_work_47 ?_
          refine lv_topi (fun z_106 ez_106 => ?_)
          have jz_106 : z_106.toInt = 3 * p0.toInt := by rw [ez_106]; exact g_mul t_3 rfl (by omega) (by omega)
          refine lv_iload hx hb dX9_work_48 (lv_at hl 0 rfl) ?_
          refine lv_iadd hx hb dX9_work_50 ?_
          refine lv_topi (fun z_107 ez_107 => ?_)
          have jz_107 : z_107.toInt = z_106.toInt + L5_39.toInt := by rw [ez_107]; exact g_add rfl rfl (by omega) (by omega)
          refine lv_istore (lv' := [(6, .int z_107), (5, .int L5_39), (4, .int 1), (3, .int z_5), (0, .ref mh), (1, .int p0), (2, .int p1)]) hx hb dX9_work_51 hl (by decide) rfl (fun ls hl => ?_)
          refine lv_iload hx hb dX9_work_53 (lv_at hl 2 rfl) ?_
          refine lv_if_eq (tgt := 91) hx hb dX9_work_55 (by decide) (fun c_108 => absurd c_108 (by decide)) (fun c_108 => ?_)
          refine lv_iload_n hx hb dX9_work_58 rfl (lv_at hl 3 rfl) ?_
          obtain ⟨z_109, ez_109⟩ : ∃ y : Int64, (z_5 : Int32).toInt64 = y := ⟨_, rfl⟩
          refine lv_i2l hx hb dX9_work_59 ez_109 ?_
          refine lv_aload_n hx hb dX9_work_60 rfl (lv_at hl 4 rfl) ?_
          refine va_get (D := D) (ci := 9) (v := .ref (ma 54)) (C := RX9) (T := TX9) (N := 68) hx hb htb iX9 hown hK.1 hP 0 rfl rfl 54 (by decide) (htb _ k_1012) (fun _ h9 => h9) rfl dX9_work_61 ?_
          refine lv_iload hx hb dX9_work_64 (lv_at hl 0 rfl) ?_
          refine va_iald hx hb hK.1 hP 13 0 rfl rfl (g_in rfl (by omega) (by omega)) dX9_work_66 ?_
          refine lv_topi (fun z_110 ez_110 => ?_)
          have kz_110 := congrArg Int32.toInt ez_110
          refine lv_aload_n hx hb dX9_work_67 rfl (lv_at hl 4 rfl) ?_
          refine va_get (D := D) (ci := 9) (v := .ref (ma 51)) (C := RX9) (T := TX9) (N := 68) hx hb htb iX9 hown hK.1 hP 0 rfl rfl 51 (by decide) (htb _ k_1009) (fun _ h9 => h9) rfl dX9_work_68 ?_
          refine lv_iload hx hb dX9_work_71 (lv_at hl 0 rfl) ?_
          refine va_iald hx hb hK.1 hP 10 0 rfl rfl (g_in rfl (by omega) (by omega)) dX9_work_73 ?_
          refine lv_topi (fun z_111 ez_111 => ?_)
          have kz_111 := congrArg Int32.toInt ez_111
          refine lv_isub hx hb dX9_work_74 ?_
          refine lv_topi (fun z_112 ez_112 => ?_)
          obtain ⟨z_113, ez_113⟩ : ∃ y : Int64, (z_112 : Int32).toInt64 = y := ⟨_, rfl⟩
          refine lv_i2l hx hb dX9_work_75 ez_113 ?_
          refine lv_lmul hx hb dX9_work_76 ?_
          refine lv_topl (fun z_114 ez_114 => ?_)
          refine lv_aload_n hx hb dX9_work_77 rfl (lv_at hl 4 rfl) ?_
          refine va_get (D := D) (ci := 9) (v := .ref (ma 49)) (C := RX9) (T := TX9) (N := 68) hx hb htb iX9 hown hK.1 hP 0 rfl rfl 49 (by decide) (htb _ k_1007) (fun _ h9 => h9) rfl dX9_work_78 ?_
          refine lv_iload_n hx hb dX9_work_81 rfl (lv_at hl 5 rfl) ?_
          refine va_iald hx hb hK.1 hP 9 0 rfl rfl (g_in rfl (by omega) (by omega)) dX9_work_82 ?_
          refine lv_topi (fun z_115 ez_115 => ?_)
          have kz_115 := congrArg Int32.toInt ez_115
          have nb_116 : z_115.toInt ≠ 0 := by rw [ez_115]; exact j49 _ (g_ix rfl (by omega) (by omega)) (by rw [← ez_6]; omega)
          obtain ⟨z_117, ez_117⟩ : ∃ y : Int64, (z_115 : Int32).toInt64 = y := ⟨_, rfl⟩
          refine lv_i2l hx hb dX9_work_83 ez_117 ?_
          refine callLS (rest := []) (As := [.long z_114, .long z_117]) hx hb hml hown htb hK (g_X9_floor l D E z_114 z_117 (i2l_nz ez_117 (by omega))) ok_X9_floor k_1311 k_1312 k_9 k_1313 ⟨(Nat.le_of_ble_eq_true rfl), (Nat.le_of_ble_eq_true rfl)⟩ ⟨(Nat.le_of_ble_eq_true rfl), (Nat.le_of_ble_eq_true rfl)⟩ hl.1 (Nat.le_of_ble_eq_true rfl) rfl rfl dX9_work_84 (hP.sub (ws' := ([] : va_W)) [] rfl) (fun r_118 hw_119 => ?_)
          obtain ⟨z_121, ez_121⟩ : ∃ y : Int32, (r_118 : Int64).toInt32 = y := ⟨_, rfl⟩
          refine lv_l2i hx hb dX9_work_87 ez_121 ?_
          refine lv_goto (tgt := 100) hx hb dX9_work_88 (by decide) ?_
          refine lv_istore (lv' := [(7, .int z_121), (6, .int z_107), (5, .int L5_39), (4, .int 1), (3, .int z_5), (0, .ref mh), (1, .int p0), (2, .int p1)]) hx hb dX9_work_100 hl (by decide) rfl (fun ls hl => ?_)
          refine lv_aload_n hx hb dX9_work_102 rfl (lv_at hl 5 rfl) ?_
          refine va_get (D := D) (ci := 9) (v := .ref (ma 59)) (C := RX9) (T := TX9) (N := 68) hx hb htb iX9 hown hK.1 hP 0 rfl rfl 59 (by decide) (htb _ k_1017) (fun _ h9 => h9) rfl dX9_work_103 ?_
          refine lv_iload hx hb dX9_work_106 (lv_at hl 2 rfl) ?_
          refine lv_aload_n hx hb dX9_work_108 rfl (lv_at hl 5 rfl) ?_
          refine va_get (D := D) (ci := 9) (v := .ref (ma 57)) (C := RX9) (T := TX9) (N := 68) hx hb htb iX9 hown hK.1 hP 0 rfl rfl 57 (by decide) (htb _ k_1015) (fun _ h9 => h9) rfl dX9_work_109 ?_
          refine lv_iconst (v := 3) hx hb dX9_work_112 (by decide) ?_
          refine lv_bipush (v := 40) hx hb dX9_work_113 (by decide) ?_
          refine lv_iload_n hx hb dX9_work_115 rfl (lv_at hl 6 rfl) ?_
          refine lv_imul hx hb dX9_work_116 ?_
          refine lv_topi (fun z_122 ez_122 => ?_)
          have jz_122 : z_122.toInt = 40 * p0.toInt := by rw [ez_122]; exact g_mul t_40 rfl (by omega) (by omega)
          refine lv_iload_n hx hb dX9_work_117 rfl (lv_at hl 7 rfl) ?_
          refine lv_iadd hx hb dX9_work_118 ?_
          refine lv_topi (fun z_123 ez_123 => ?_)
          have jz_123 : z_123.toInt = z_122.toInt + p1.toInt := by rw [ez_123]; exact g_add rfl rfl (by omega) (by omega)
          refine lv_imul hx hb dX9_work_119 ?_
          refine lv_topi (fun z_124 ez_124 => ?_)
          have jz_124 : z_124.toInt = 3 * z_123.toInt := by rw [ez_124]; exact g_mul t_3 rfl (by omega) (by omega)
          refine lv_iload hx hb dX9_work_120 (lv_at hl 2 rfl) ?_
          refine lv_iadd hx hb dX9_work_122 ?_
          refine lv_topi (fun z_125 ez_125 => ?_)
          have jz_125 : z_125.toInt = z_124.toInt + L5_39.toInt := by rw [ez_125]; exact g_add rfl rfl (by omega) (by omega)
          refine va_iald hx hb hK.1 hP 15 0 rfl rfl (g_in rfl (by omega) (by omega)) dX9_work_123 ?_
          refine lv_topi (fun z_126 ez_126 => ?_)
          have kz_126 := congrArg Int32.toInt ez_126
          refine lv_aload_n hx hb dX9_work_124 rfl (lv_at hl 5 rfl) ?_
          refine va_get (D := D) (ci := 9) (v := .ref (ma 51)) (C := RX9) (T := TX9) (N := 68) hx hb htb iX9 hown hK.1 hP 0 rfl rfl 51 (by decide) (htb _ k_1009) (fun _ h9 => h9) rfl dX9_work_125 ?_
          refine lv_iload hx hb dX9_work_128 (lv_at hl 1 rfl) ?_
          refine va_iald hx hb hK.1 hP 10 0 rfl rfl (g_in rfl (by omega) (by omega)) dX9_work_130 ?_
          refine lv_topi (fun z_127 ez_127 => ?_)
          have kz_127 := congrArg Int32.toInt ez_127
          refine lv_isub hx hb dX9_work_131 ?_
          refine lv_topi (fun z_128 ez_128 => ?_)
          refine lv_iload hx hb dX9_work_132 (lv_at hl 0 rfl) ?_
          refine lv_isub hx hb dX9_work_134 ?_
          refine lv_topi (fun z_129 ez_129 => ?_)
          refine va_iast hx hb hK.1 hP hD hS 16 0 rfl rfl (g_in rfl (by omega) (by omega)) dX9_work_135 (fun H locs hP hD hS => ?_)
          have hP : va_P D vwCl [(mh, .inr (9, G9 ma mcode mtoday moffs mmany msumW msumA msumR msumWW msumWA msumAA msumWR msumAR mupper mlower mrates mtaped mlaid mat mtk mtkAt mtkNumber mwaits mlisted mdealtMany)), ((ma 34), .inl (E 1, 2, .inl mf34)), ((ma 35), .inl (E 0, 2, .inl mf35)), ((ma 36), .inl (E 0, 384, .inl mf36)), ((ma 37), .inl (E 0, 384, .inl mf37)), ((ma 45), .inl (E 0, 130, .inl mf45)), ((ma 46), .inl (E 0, 24, .inl mf46)), ((ma 47), .inl (E 0, 5, .inl mf47)), ((ma 48), .inl (E 0, 5, .inl mf48)), ((ma 49), .inl (E 0, 5, .inl mf49)), ((ma 51), .inl (E 0, 15, .inl mf51)), ((ma 52), .inl (E 0, 15, .inl mf52)), ((ma 53), .inl (E 0, 15, .inl mf53)), ((ma 54), .inl (E 0, 15, .inl mf54)), ((ma 56), .inl (E 0, 200, .inl mf56)), ((ma 57), .inl (E 0, 600, .inl mf57)), ((ma 59), .inl (E 0, 3, .inl (upd mf59_39 (L5_39 : Int32).toNatClampNeg z_129))), ((ma 60), .inl (E 0, 3, .inl mf60_39))] H := hP
          have hD := toW hP hD rfl
          refine lv_iload hx hb dX9_work_136 (lv_at hl 3 rfl) ?_
          refine lv_if_eq (tgt := 164) hx hb dX9_work_138 (by decide) (fun c_130 => absurd c_130 (by decide)) (fun c_130 => ?_)
          refine lv_aload_n hx hb dX9_work_141 rfl (lv_at hl 5 rfl) ?_
          refine va_get (D := D) (ci := 9) (v := .ref (ma 49)) (C := RX9) (T := TX9) (N := 68) hx hb htb iX9 hown hK.1 hP 0 rfl rfl 49 (by decide) (htb _ k_1007) (fun _ h9 => h9) rfl dX9_work_142 ?_
          refine lv_iload_n hx hb dX9_work_145 rfl (lv_at hl 6 rfl) ?_
          refine va_iald hx hb hK.1 hP 9 0 rfl rfl (g_in rfl (by omega) (by omega)) dX9_work_146 ?_
          refine lv_topi (fun z_131 ez_131 => ?_)
          have kz_131 := congrArg Int32.toInt ez_131
          have nb_132 : z_131.toInt ≠ 0 := by rw [ez_131]; exact j49 _ (g_ix rfl (by omega) (by omega)) (by rw [← ez_6]; omega)
          refine lv_iload_n hx hb dX9_work_147 rfl (lv_at hl 4 rfl) ?_
          refine lv_isub hx hb dX9_work_148 ?_
          refine lv_topi (fun z_133 ez_133 => ?_)
          refine lv_iload_n hx hb dX9_work_149 rfl (lv_at hl 4 rfl) ?_
          refine lv_icmp_ge (tgt := 164) hx hb dX9_work_150 (by decide) (fun c_134 => ?_) (fun c_134 => ?_)
          ·
            have ic_134 : z_5.toInt ≤ z_133.toInt := by first | exact (g_le rfl rfl).mp c_134 | (have h := mt (g_lt rfl rfl).mpr c_134; omega)
            clear c_134
            refine lv_iload_n hx hb dX9_work_164 rfl (lv_at hl 4 rfl) ?_
            refine lv_istore (lv' := [(8, .int z_5), (7, .int z_121), (6, .int z_107), (5, .int L5_39), (4, .int 1), (3, .int z_5), (0, .ref mh), (1, .int p0), (2, .int p1)]) hx hb dX9_work_165 hl (by decide) rfl (fun ls hl => ?_)
            refine lv_aload_n hx hb dX9_work_167 rfl (lv_at hl 6 rfl) ?_
            refine va_get (D := D) (ci := 9) (v := .ref (ma 60)) (C := RX9) (T := TX9) (N := 68) hx hb htb iX9 hown hK.1 hP 0 rfl rfl 60 (by decide) (htb _ k_1018) (fun _ h9 => h9) rfl dX9_work_168 ?_
            refine lv_iload hx hb dX9_work_171 (lv_at hl 3 rfl) ?_
            refine lv_aload_n hx hb dX9_work_173 rfl (lv_at hl 6 rfl) ?_
            refine va_get (D := D) (ci := 9) (v := .ref (ma 53)) (C := RX9) (T := TX9) (N := 68) hx hb htb iX9 hown hK.1 hP 0 rfl rfl 53 (by decide) (htb _ k_1011) (fun _ h9 => h9) rfl dX9_work_174 ?_
            refine lv_iload hx hb dX9_work_177 (lv_at hl 2 rfl) ?_
            refine va_iald hx hb hK.1 hP 12 0 rfl rfl (g_in rfl (by omega) (by omega)) dX9_work_179 ?_
            refine lv_topi (fun z_135 ez_135 => ?_)
            have kz_135 := congrArg Int32.toInt ez_135
            refine lv_iload hx hb dX9_work_180 (lv_at hl 0 rfl) ?_
            refine lv_imul hx hb dX9_work_182 ?_
            refine lv_topi (fun z_136 ez_136 => ?_)
            refine lv_iconst (v := 5) hx hb dX9_work_183 (by decide) ?_
            refine lv_iadd hx hb dX9_work_184 ?_
            refine lv_topi (fun z_137 ez_137 => ?_)
            refine va_iast hx hb hK.1 hP hD hS 17 0 rfl rfl (g_in rfl (by omega) (by omega)) dX9_work_185 (fun H locs hP hD hS => ?_)
            have hP : va_P D vwCl [(mh, .inr (9, G9 ma mcode mtoday moffs mmany msumW msumA msumR msumWW msumWA msumAA msumWR msumAR mupper mlower mrates mtaped mlaid mat mtk mtkAt mtkNumber mwaits mlisted mdealtMany)), ((ma 34), .inl (E 1, 2, .inl mf34)), ((ma 35), .inl (E 0, 2, .inl mf35)), ((ma 36), .inl (E 0, 384, .inl mf36)), ((ma 37), .inl (E 0, 384, .inl mf37)), ((ma 45), .inl (E 0, 130, .inl mf45)), ((ma 46), .inl (E 0, 24, .inl mf46)), ((ma 47), .inl (E 0, 5, .inl mf47)), ((ma 48), .inl (E 0, 5, .inl mf48)), ((ma 49), .inl (E 0, 5, .inl mf49)), ((ma 51), .inl (E 0, 15, .inl mf51)), ((ma 52), .inl (E 0, 15, .inl mf52)), ((ma 53), .inl (E 0, 15, .inl mf53)), ((ma 54), .inl (E 0, 15, .inl mf54)), ((ma 56), .inl (E 0, 200, .inl mf56)), ((ma 57), .inl (E 0, 600, .inl mf57)), ((ma 59), .inl (E 0, 3, .inl (upd mf59_39 (L5_39 : Int32).toNatClampNeg z_129))), ((ma 60), .inl (E 0, 3, .inl (upd mf60_39 (L5_39 : Int32).toNatClampNeg z_137)))] H := hP
            have hD := toW hP hD rfl
            obtain ⟨z_138, ez_138⟩ : ∃ y : Int32, y = L5_39 + 1 := ⟨_, rfl⟩
            have jz_138 : z_138.toInt = L5_39.toInt + 1 := by rw [ez_138]; exact g_add rfl t_1 (by omega) (by omega)
            refine lv_iinc (v := z_138) (lv' := [(5, .int z_138), (8, .int z_5), (7, .int z_121), (6, .int z_107), (4, .int 1), (3, .int z_5), (0, .ref mh), (1, .int p0), (2, .int p1)]) hx hb dX9_work_186 hl (k := 3) rfl (by rw [ez_138]; rfl) (by decide) rfl (fun ls hl => ?_)
            refine lv_goto (tgt := 39) hx hb dX9_work_189 (by decide) ?_
            exact ih_67 z_138 (upd mf59_39 (L5_39 : Int32).toNatClampNeg z_129) (upd mf60_39 (L5_39 : Int32).toNatClampNeg z_137) _ _ _ (by have h0 := t_1; (try dsimp only); omega) (by have h0 := t_1; (try dsimp only); omega) hP hD hS (lv_sub hl [0, 4, 5, 6, 7, 8] rfl)
          ·
            have ic_134 : z_133.toInt < z_5.toInt := by first | exact (g_lt rfl rfl).mp c_134 | (have h := mt (g_le rfl rfl).mpr c_134; omega)
            clear c_134
            refine lv_aload_n hx hb dX9_work_153 rfl (lv_at hl 5 rfl) ?_
            refine va_get (D := D) (ci := 9) (v := .ref (ma 49)) (C := RX9) (T := TX9) (N := 68) hx hb htb iX9 hown hK.1 hP 0 rfl rfl 49 (by decide) (htb _ k_1007) (fun _ h9 => h9) rfl dX9_work_154 ?_
            refine lv_iload_n hx hb dX9_work_157 rfl (lv_at hl 6 rfl) ?_
            refine va_iald hx hb hK.1 hP 9 0 rfl rfl (g_in rfl (by omega) (by omega)) dX9_work_158 ?_
            refine lv_topi (fun z_139 ez_139 => ?_)
            have kz_139 := congrArg Int32.toInt ez_139
            have nb_140 : z_139.toInt ≠ 0 := by rw [ez_139]; exact j49 _ (g_ix rfl (by omega) (by omega)) (by rw [← ez_6]; omega)
            refine lv_iload_n hx hb dX9_work_159 rfl (lv_at hl 4 rfl) ?_
            refine lv_isub hx hb dX9_work_160 ?_
            refine lv_topi (fun z_141 ez_141 => ?_)
            refine lv_goto (tgt := 165) hx hb dX9_work_161 (by decide) ?_
            refine lv_istore (lv' := [(8, .int z_141), (7, .int z_121), (6, .int z_107), (5, .int L5_39), (4, .int 1), (3, .int z_5), (0, .ref mh), (1, .int p0), (2, .int p1)]) hx hb dX9_work_165 hl (by decide) rfl (fun ls hl => ?_)
            refine lv_aload_n hx hb dX9_work_167 rfl (lv_at hl 6 rfl) ?_
            refine va_get (D := D) (ci := 9) (v := .ref (ma 60)) (C := RX9) (T := TX9) (N := 68) hx hb htb iX9 hown hK.1 hP 0 rfl rfl 60 (by decide) (htb _ k_1018) (fun _ h9 => h9) rfl dX9_work_168 ?_
            refine lv_iload hx hb dX9_work_171 (lv_at hl 3 rfl) ?_
            refine lv_aload_n hx hb dX9_work_173 rfl (lv_at hl 6 rfl) ?_
            refine va_get (D := D) (ci := 9) (v := .ref (ma 53)) (C := RX9) (T := TX9) (N := 68) hx hb htb iX9 hown hK.1 hP 0 rfl rfl 53 (by decide) (htb _ k_1011) (fun _ h9 => h9) rfl dX9_work_174 ?_
            refine lv_iload hx hb dX9_work_177 (lv_at hl 2 rfl) ?_
            refine va_iald hx hb hK.1 hP 12 0 rfl rfl (g_in rfl (by omega) (by omega)) dX9_work_179 ?_
            refine lv_topi (fun z_142 ez_142 => ?_)
            have kz_142 := congrArg Int32.toInt ez_142
            refine lv_iload hx hb dX9_work_180 (lv_at hl 0 rfl) ?_
            refine lv_imul hx hb dX9_work_182 ?_
            refine lv_topi (fun z_143 ez_143 => ?_)
            refine lv_iconst (v := 5) hx hb dX9_work_183 (by decide) ?_
            refine lv_iadd hx hb dX9_work_184 ?_
            refine lv_topi (fun z_144 ez_144 => ?_)
            refine va_iast hx hb hK.1 hP hD hS 17 0 rfl rfl (g_in rfl (by omega) (by omega)) dX9_work_185 (fun H locs hP hD hS => ?_)
            have hP : va_P D vwCl [(mh, .inr (9, G9 ma mcode mtoday moffs mmany msumW msumA msumR msumWW msumWA msumAA msumWR msumAR mupper mlower mrates mtaped mlaid mat mtk mtkAt mtkNumber mwaits mlisted mdealtMany)), ((ma 34), .inl (E 1, 2, .inl mf34)), ((ma 35), .inl (E 0, 2, .inl mf35)), ((ma 36), .inl (E 0, 384, .inl mf36)), ((ma 37), .inl (E 0, 384, .inl mf37)), ((ma 45), .inl (E 0, 130, .inl mf45)), ((ma 46), .inl (E 0, 24, .inl mf46)), ((ma 47), .inl (E 0, 5, .inl mf47)), ((ma 48), .inl (E 0, 5, .inl mf48)), ((ma 49), .inl (E 0, 5, .inl mf49)), ((ma 51), .inl (E 0, 15, .inl mf51)), ((ma 52), .inl (E 0, 15, .inl mf52)), ((ma 53), .inl (E 0, 15, .inl mf53)), ((ma 54), .inl (E 0, 15, .inl mf54)), ((ma 56), .inl (E 0, 200, .inl mf56)), ((ma 57), .inl (E 0, 600, .inl mf57)), ((ma 59), .inl (E 0, 3, .inl (upd mf59_39 (L5_39 : Int32).toNatClampNeg z_129))), ((ma 60), .inl (E 0, 3, .inl (upd mf60_39 (L5_39 : Int32).toNatClampNeg z_144)))] H := hP
            have hD := toW hP hD rfl
            obtain ⟨z_145, ez_145⟩ : ∃ y : Int32, y = L5_39 + 1 := ⟨_, rfl⟩
            have jz_145 : z_145.toInt = L5_39.toInt + 1 := by rw [ez_145]; exact g_add rfl t_1 (by omega) (by omega)
            refine lv_iinc (v := z_145) (lv' := [(5, .int z_145), (8, .int z_141), (7, .int z_121), (6, .int z_107), (4, .int 1), (3, .int z_5), (0, .ref mh), (1, .int p0), (2, .int p1)]) hx hb dX9_work_186 hl (k := 3) rfl (by rw [ez_145]; rfl) (by decide) rfl (fun ls hl => ?_)
            refine lv_goto (tgt := 39) hx hb dX9_work_189 (by decide) ?_
            exact ih_67 z_145 (upd mf59_39 (L5_39 : Int32).toNatClampNeg z_129) (upd mf60_39 (L5_39 : Int32).toNatClampNeg z_144) _ _ _ (by have h0 := t_1; (try dsimp only); omega) (by have h0 := t_1; (try dsimp only); omega) hP hD hS (lv_sub hl [0, 4, 5, 6, 7, 8] rfl)
    exact loop_66 4 0 mf59 mf60 _ _ _ (by have h0 := t_0; have h1 := t_1; (try dsimp only); omega) (by have h0 := t_0; have h1 := t_1; (try dsimp only); omega) hP hD hS (lv_sub hl [0, 1, 2, 3, 4, 5] rfl)
set_option maxHeartbeats 4000000 in
set_option maxRecDepth 100000 in
theorem g_X9_told (l : Launch) (D : va_G) (E : Nat → Nat) (mh : Nat) (ma : Nat → Nat) (mcode : Int32) (mtoday : Int32) (moffs : Int32) (mmany : Int64) (msumW : Int64) (msumA : Int64) (msumR : Int64) (msumWW : Int64) (msumWA : Int64) (msumAA : Int64) (msumWR : Int64) (msumAR : Int64) (mupper : Int64) (mlower : Int64) (mrates : Int32) (mtaped : Int32) (mlaid : Int32) (mat : Int32) (mtk : Int32) (mtkAt : Int32) (mtkNumber : Int32) (mwaits : Int32) (mlisted : Int32) (mdealtMany : Int32) (mf34 : Nat → Int32) (mf35 : Nat → Int32) (mf36 : Nat → Int32) (mf37 : Nat → Int32) (mf45 : Nat → Int32) (mf46 : Nat → Int32) (mf47 : Nat → Int32) (mf48 : Nat → Int32) (mf49 : Nat → Int32) (mf51 : Nat → Int32) (mf52 : Nat → Int32) (mf53 : Nat → Int32) (mf54 : Nat → Int32) (mf55 : Nat → Int32) (mf56 : Nat → Int32) (mf57 : Nat → Int32) (mf59 : Nat → Int32) (mf60 : Nat → Int32) (p0 : Int32) (p1 : Int32) (p2 : Int32) (sz : Nat) (hi_m : (0 ≤ mtoday.toInt ∧ mtoday.toInt ≤ 399) ∧ (0 ≤ moffs.toInt ∧ moffs.toInt ≤ 60) ∧ (0 ≤ mrates.toInt ∧ mrates.toInt ≤ 60) ∧ (0 ≤ mtaped.toInt ∧ mtaped.toInt ≤ 120) ∧ (0 ≤ mlisted.toInt ∧ mlisted.toInt ≤ 9) ∧ (0 ≤ mdealtMany.toInt ∧ mdealtMany.toInt ≤ 9)) (hr_m35 : ∀ k : Nat, k < 2 → 0 ≤ (mf35 k).toInt ∧ (mf35 k).toInt ≤ 127) (hr_m55 : ∀ k : Nat, k < 5 → 0 ≤ (mf55 k).toInt ∧ (mf55 k).toInt ≤ 40) (j49 : J49 mf47 mf49) (hjw : JW mf36 mf35) : Met l yX9_told (wl yX9_told cX9_told 8 (some .int)) (RM 3 0 0) (mu_P D E [.ref mh, .int p0, .int p1, .int p2] [(mh, .inr (9, G9 ma mcode mtoday moffs mmany msumW msumA msumR msumWW msumWA msumAA msumWR msumAR mupper mlower mrates mtaped mlaid mat mtk mtkAt mtkNumber mwaits mlisted mdealtMany)), ((ma 34), .inl (E 1, 2, .inl mf34)), ((ma 35), .inl (E 0, 2, .inl mf35)), ((ma 36), .inl (E 0, 384, .inl mf36)), ((ma 37), .inl (E 0, 384, .inl mf37)), ((ma 45), .inl (E 0, 130, .inl mf45)), ((ma 46), .inl (E 0, 24, .inl mf46)), ((ma 47), .inl (E 0, 5, .inl mf47)), ((ma 48), .inl (E 0, 5, .inl mf48)), ((ma 49), .inl (E 0, 5, .inl mf49)), ((ma 51), .inl (E 0, 15, .inl mf51)), ((ma 52), .inl (E 0, 15, .inl mf52)), ((ma 53), .inl (E 0, 15, .inl mf53)), ((ma 54), .inl (E 0, 15, .inl mf54)), ((ma 55), .inl (E 0, 5, .inl mf55)), ((ma 56), .inl (E 0, 200, .inl mf56)), ((ma 57), .inl (E 0, 600, .inl mf57)), ((ma 59), .inl (E 0, 3, .inl mf59)), ((ma 60), .inl (E 0, 3, .inl mf60))] sz) (va_Qi (fun (r : Int32) (u : (Nat → Int32) × (Nat → Int32) × (Nat → Int32) × (Nat → Int32)) => True) (mu_B D (va_A [(mh, .inr (9, G9 ma mcode mtoday moffs mmany msumW msumA msumR msumWW msumWA msumAA msumWR msumAR mupper mlower mrates mtaped mlaid mat mtk mtkAt mtkNumber mwaits mlisted mdealtMany)), ((ma 34), .inl (E 1, 2, .inl mf34)), ((ma 35), .inl (E 0, 2, .inl mf35)), ((ma 36), .inl (E 0, 384, .inl mf36)), ((ma 37), .inl (E 0, 384, .inl mf37)), ((ma 45), .inl (E 0, 130, .inl mf45)), ((ma 46), .inl (E 0, 24, .inl mf46)), ((ma 47), .inl (E 0, 5, .inl mf47)), ((ma 48), .inl (E 0, 5, .inl mf48)), ((ma 49), .inl (E 0, 5, .inl mf49)), ((ma 51), .inl (E 0, 15, .inl mf51)), ((ma 52), .inl (E 0, 15, .inl mf52)), ((ma 53), .inl (E 0, 15, .inl mf53)), ((ma 54), .inl (E 0, 15, .inl mf54)), ((ma 55), .inl (E 0, 5, .inl mf55)), ((ma 56), .inl (E 0, 200, .inl mf56)), ((ma 57), .inl (E 0, 600, .inl mf57)), ((ma 59), .inl (E 0, 3, .inl mf59)), ((ma 60), .inl (E 0, 3, .inl mf60))] sz) (fun (u : (Nat → Int32) × (Nat → Int32) × (Nat → Int32) × (Nat → Int32)) => [(mh, .inr (9, G9 ma mcode mtoday moffs mmany msumW msumA msumR msumWW msumWA msumAA msumWR msumAR mupper mlower mrates mtaped mlaid mat mtk mtkAt mtkNumber mwaits mlisted mdealtMany)), ((ma 34), .inl (E 1, 2, .inl mf34)), ((ma 35), .inl (E 0, 2, .inl mf35)), ((ma 36), .inl (E 0, 384, .inl mf36)), ((ma 37), .inl (E 0, 384, .inl mf37)), ((ma 45), .inl (E 0, 130, .inl u.1)), ((ma 46), .inl (E 0, 24, .inl u.2.1)), ((ma 47), .inl (E 0, 5, .inl mf47)), ((ma 48), .inl (E 0, 5, .inl mf48)), ((ma 49), .inl (E 0, 5, .inl mf49)), ((ma 51), .inl (E 0, 15, .inl mf51)), ((ma 52), .inl (E 0, 15, .inl mf52)), ((ma 53), .inl (E 0, 15, .inl mf53)), ((ma 54), .inl (E 0, 15, .inl mf54)), ((ma 55), .inl (E 0, 5, .inl mf55)), ((ma 56), .inl (E 0, 200, .inl mf56)), ((ma 57), .inl (E 0, 600, .inl mf57)), ((ma 59), .inl (E 0, 3, .inl u.2.2.1)), ((ma 60), .inl (E 0, 3, .inl u.2.2.2))])) (va_A [(mh, .inr (9, G9 ma mcode mtoday moffs mmany msumW msumA msumR msumWW msumWA msumAA msumWR msumAR mupper mlower mrates mtaped mlaid mat mtk mtkAt mtkNumber mwaits mlisted mdealtMany)), ((ma 34), .inl (E 1, 2, .inl mf34)), ((ma 35), .inl (E 0, 2, .inl mf35)), ((ma 36), .inl (E 0, 384, .inl mf36)), ((ma 37), .inl (E 0, 384, .inl mf37)), ((ma 45), .inl (E 0, 130, .inl mf45)), ((ma 46), .inl (E 0, 24, .inl mf46)), ((ma 47), .inl (E 0, 5, .inl mf47)), ((ma 48), .inl (E 0, 5, .inl mf48)), ((ma 49), .inl (E 0, 5, .inl mf49)), ((ma 51), .inl (E 0, 15, .inl mf51)), ((ma 52), .inl (E 0, 15, .inl mf52)), ((ma 53), .inl (E 0, 15, .inl mf53)), ((ma 54), .inl (E 0, 15, .inl mf54)), ((ma 55), .inl (E 0, 5, .inl mf55)), ((ma 56), .inl (E 0, 200, .inl mf56)), ((ma 57), .inl (E 0, 600, .inl mf57)), ((ma 59), .inl (E 0, 3, .inl mf59)), ((ma 60), .inl (E 0, 3, .inl mf60))] sz)) 0 0 (va_A [(mh, .inr (9, G9 ma mcode mtoday moffs mmany msumW msumA msumR msumWW msumWA msumAA msumWR msumAR mupper mlower mrates mtaped mlaid mat mtk mtkAt mtkNumber mwaits mlisted mdealtMany)), ((ma 34), .inl (E 1, 2, .inl mf34)), ((ma 35), .inl (E 0, 2, .inl mf35)), ((ma 36), .inl (E 0, 384, .inl mf36)), ((ma 37), .inl (E 0, 384, .inl mf37)), ((ma 45), .inl (E 0, 130, .inl mf45)), ((ma 46), .inl (E 0, 24, .inl mf46)), ((ma 47), .inl (E 0, 5, .inl mf47)), ((ma 48), .inl (E 0, 5, .inl mf48)), ((ma 49), .inl (E 0, 5, .inl mf49)), ((ma 51), .inl (E 0, 15, .inl mf51)), ((ma 52), .inl (E 0, 15, .inl mf52)), ((ma 53), .inl (E 0, 15, .inl mf53)), ((ma 54), .inl (E 0, 15, .inl mf54)), ((ma 55), .inl (E 0, 5, .inl mf55)), ((ma 56), .inl (E 0, 200, .inl mf56)), ((ma 57), .inl (E 0, 600, .inl mf57)), ((ma 59), .inl (E 0, 3, .inl mf59)), ((ma 60), .inl (E 0, 3, .inl mf60))] sz) := by
  refine Met.ofW (cc := cX9_told) (maxL := 8) (ret := (some .int)) (by decide) rfl ?_
  intro p e s m args below meth c s₁ B hml hv
  obtain ⟨rfl, hsz, hP, hK, hD0⟩ := hv
  have hx := B.exec; have hb := B.bytes; have hr := B.returns
  have hts := atoms_spec (ws := wl yX9_told cX9_told 8 (some .int)) B.pre
  have htb : ∀ w ∈ tb, w.before _ s = true := fun w h => hts w (List.mem_cons_of_mem _ h)
  have hown : s.vm.findClass RX9 = some m.cls := findClass_of_methodNamed B.named
  have hlocks := B.notSynchronized
  subst hsz
  have hD := hD0.self (sz := s.heap.size)
  generalize hAe : va_A [(mh, .inr (9, G9 ma mcode mtoday moffs mmany msumW msumA msumR msumWW msumWA msumAA msumWR msumAR mupper mlower mrates mtaped mlaid mat mtk mtkAt mtkNumber mwaits mlisted mdealtMany)), ((ma 34), .inl (E 1, 2, .inl mf34)), ((ma 35), .inl (E 0, 2, .inl mf35)), ((ma 36), .inl (E 0, 384, .inl mf36)), ((ma 37), .inl (E 0, 384, .inl mf37)), ((ma 45), .inl (E 0, 130, .inl mf45)), ((ma 46), .inl (E 0, 24, .inl mf46)), ((ma 47), .inl (E 0, 5, .inl mf47)), ((ma 48), .inl (E 0, 5, .inl mf48)), ((ma 49), .inl (E 0, 5, .inl mf49)), ((ma 51), .inl (E 0, 15, .inl mf51)), ((ma 52), .inl (E 0, 15, .inl mf52)), ((ma 53), .inl (E 0, 15, .inl mf53)), ((ma 54), .inl (E 0, 15, .inl mf54)), ((ma 55), .inl (E 0, 5, .inl mf55)), ((ma 56), .inl (E 0, 200, .inl mf56)), ((ma 57), .inl (E 0, 600, .inl mf57)), ((ma 59), .inl (E 0, 3, .inl mf59)), ((ma 60), .inl (E 0, 3, .inl mf60))] s.heap.size = A at hD ⊢
  have hA : ∀ q : Nat, s.heap.size ≤ q → A q := fun q h => by rw [← hAe]; exact Or.inr h
  have hS : va_S A s.heap s.heap [] := va_S.rf
  have hP : va_P D vwCl [(mh, .inr (9, G9 ma mcode mtoday moffs mmany msumW msumA msumR msumWW msumWA msumAA msumWR msumAR mupper mlower mrates mtaped mlaid mat mtk mtkAt mtkNumber mwaits mlisted mdealtMany)), ((ma 34), .inl (E 1, 2, .inl mf34)), ((ma 35), .inl (E 0, 2, .inl mf35)), ((ma 36), .inl (E 0, 384, .inl mf36)), ((ma 37), .inl (E 0, 384, .inl mf37)), ((ma 45), .inl (E 0, 130, .inl mf45)), ((ma 46), .inl (E 0, 24, .inl mf46)), ((ma 47), .inl (E 0, 5, .inl mf47)), ((ma 48), .inl (E 0, 5, .inl mf48)), ((ma 49), .inl (E 0, 5, .inl mf49)), ((ma 51), .inl (E 0, 15, .inl mf51)), ((ma 52), .inl (E 0, 15, .inl mf52)), ((ma 53), .inl (E 0, 15, .inl mf53)), ((ma 54), .inl (E 0, 15, .inl mf54)), ((ma 55), .inl (E 0, 5, .inl mf55)), ((ma 56), .inl (E 0, 200, .inl mf56)), ((ma 57), .inl (E 0, 600, .inl mf57)), ((ma 59), .inl (E 0, 3, .inl mf59)), ((ma 60), .inl (E 0, 3, .inl mf60))] s.heap := hP
  have hl := lv_entry ([.ref mh, .int p0, .int p1, .int p2]) (n := 8) (Nat.le_of_ble_eq_true rfl)
  rw [lg_entry_eq]
  generalize (lg_sl ([.ref mh, .int p0, .int p1, .int p2]) ++ List.replicate (8 - (lg_sl ([.ref mh, .int p0, .int p1, .int p2])).length) Slot.unset).toArray = ls at hl ⊢
  have hl : lv_has ls 8 [(0, .ref mh), (1, .int p0), (2, .int p1), (3, .int p2)] := hl
  have lo_p0 := i_lo p0; have hi_p0 := i_hi p0
  have lo_p1 := i_lo p1; have hi_p1 := i_hi p1
  have lo_p2 := i_lo p2; have hi_p2 := i_hi p2
  refine lv_iload_n hx hb dX9_told_0 rfl (lv_at hl 1 rfl) ?_
  refine callRS (rest := []) (As := [.int p0]) hx hb hml hown htb hK (g_X9_isShip l D E p0 ) ok_X9_isShip k_1414 k_1415 k_9 k_1416 ⟨(Nat.le_of_ble_eq_true rfl), (Nat.le_of_ble_eq_true rfl)⟩ ⟨(Nat.le_of_ble_eq_true rfl), (Nat.le_of_ble_eq_true rfl)⟩ hl.1 (Nat.le_of_ble_eq_true rfl) rfl rfl dX9_told_1 (hP.sub (ws' := ([] : va_W)) [] rfl) (fun r_1 hw_2 => ?_)
  rcases hw_2 with ⟨hr_1, hw_2⟩ | ⟨hr_1, hw_2⟩
  ·
    refine W_top (y := .int 1) (by rw [hr_1]) ?_
    refine lv_if_eq (tgt := 33) hx hb dX9_told_4 (by decide) (fun c_4 => absurd c_4 (by decide)) (fun c_4 => ?_)
    refine lv_iload_n hx hb dX9_told_7 rfl (lv_at hl 2 rfl) ?_
    refine lv_iconst (v := 0) hx hb dX9_told_8 (by decide) ?_
    refine lv_aload_n hx hb dX9_told_9 rfl (lv_at hl 0 rfl) ?_
    refine va_get (D := D) (ci := 9) (v := .ref (ma 55)) (C := RX9) (T := TX9) (N := 68) hx hb htb iX9 hown hK.1 hP 0 rfl rfl 55 (by decide) (htb _ k_1013) (fun _ h9 => h9) rfl dX9_told_10 ?_
    refine lv_iload_n hx hb dX9_told_13 rfl (lv_at hl 1 rfl) ?_
    refine va_iald hx hb hK.1 hP 14 0 rfl rfl (g_in rfl (by omega) (by omega)) dX9_told_14 ?_
    refine lv_topi (fun z_5 ez_5 => ?_)
    have kz_5 := congrArg Int32.toInt ez_5
    have jz_5 : 0 ≤ z_5.toInt ∧ z_5.toInt ≤ 40 := by rw [ez_5]; exact hr_m55 _ (g_ix rfl (by omega) (by omega))
    refine lv_iconst (v := 1) hx hb dX9_told_15 (by decide) ?_
    refine lv_isub hx hb dX9_told_16 ?_
    refine lv_topi (fun z_6 ez_6 => ?_)
    have jz_6 : z_6.toInt = z_5.toInt - 1 := by rw [ez_6]; exact g_sub rfl t_1 (by omega) (by omega)
    refine callRS (rest := []) (As := [.int p1, .int 0, .int z_6]) hx hb hml hown htb hK (g_X9_in l D E p1 0 z_6 ) ok_X9_in k_1168 k_1169 k_9 k_1170 ⟨(Nat.le_of_ble_eq_true rfl), (Nat.le_of_ble_eq_true rfl)⟩ ⟨(Nat.le_of_ble_eq_true rfl), (Nat.le_of_ble_eq_true rfl)⟩ hl.1 (Nat.le_of_ble_eq_true rfl) rfl rfl dX9_told_17 (hP.sub (ws' := ([] : va_W)) [] rfl) (fun r_7 hw_8 => ?_)
    try simp only [t_0] at hw_8
    rcases hw_8 with ⟨hr_7, hw_8⟩ | ⟨hr_7, hw_8⟩
    ·
      try simp only [t_0] at hw_8
      refine W_top (y := .int 1) (by rw [hr_7]) ?_
      refine lv_if_eq (tgt := 33) hx hb dX9_told_20 (by decide) (fun c_10 => absurd c_10 (by decide)) (fun c_10 => ?_)
      refine lv_iload_n hx hb dX9_told_23 rfl (lv_at hl 3 rfl) ?_
      refine lv_iconst (v := 0) hx hb dX9_told_24 (by decide) ?_
      refine lv_bipush (v := 9) hx hb dX9_told_25 (by decide) ?_
      refine callRS (rest := []) (As := [.int p2, .int 0, .int 9]) hx hb hml hown htb hK (g_X9_in l D E p2 0 9 ) ok_X9_in k_1168 k_1169 k_9 k_1170 ⟨(Nat.le_of_ble_eq_true rfl), (Nat.le_of_ble_eq_true rfl)⟩ ⟨(Nat.le_of_ble_eq_true rfl), (Nat.le_of_ble_eq_true rfl)⟩ hl.1 (Nat.le_of_ble_eq_true rfl) rfl rfl dX9_told_27 (hP.sub (ws' := ([] : va_W)) [] rfl) (fun r_11 hw_12 => ?_)
      try simp only [t_0, t_9] at hw_12
      rcases hw_12 with ⟨hr_11, hw_12⟩ | ⟨hr_11, hw_12⟩
      ·
        try simp only [t_0, t_9] at hw_12
        refine W_top (y := .int 1) (by rw [hr_11]) ?_
        refine lv_if_ne (tgt := 36) hx hb dX9_told_30 (by decide) (fun c_14 => ?_) (fun c_14 => absurd c_14 (by decide))
        refine lv_aload_n hx hb dX9_told_36 rfl (lv_at hl 0 rfl) ?_
        refine lv_iload_n hx hb dX9_told_37 rfl (lv_at hl 1 rfl) ?_
        refine lv_iload_n hx hb dX9_told_38 rfl (lv_at hl 2 rfl) ?_
        have hPc := hP.sub (ws' := [(mh, .inr (9, G9 ma mcode mtoday moffs mmany msumW msumA msumR msumWW msumWA msumAA msumWR msumAR mupper mlower mrates mtaped mlaid mat mtk mtkAt mtkNumber mwaits mlisted mdealtMany)), ((ma 34), .inl (E 1, 2, .inl mf34)), ((ma 35), .inl (E 0, 2, .inl mf35)), ((ma 36), .inl (E 0, 384, .inl mf36)), ((ma 37), .inl (E 0, 384, .inl mf37)), ((ma 45), .inl (E 0, 130, .inl mf45)), ((ma 46), .inl (E 0, 24, .inl mf46)), ((ma 47), .inl (E 0, 5, .inl mf47)), ((ma 48), .inl (E 0, 5, .inl mf48)), ((ma 49), .inl (E 0, 5, .inl mf49)), ((ma 51), .inl (E 0, 15, .inl mf51)), ((ma 52), .inl (E 0, 15, .inl mf52)), ((ma 53), .inl (E 0, 15, .inl mf53)), ((ma 54), .inl (E 0, 15, .inl mf54)), ((ma 56), .inl (E 0, 200, .inl mf56)), ((ma 57), .inl (E 0, 600, .inl mf57)), ((ma 59), .inl (E 0, 3, .inl mf59)), ((ma 60), .inl (E 0, 3, .inl mf60))]) [0, 1, 2, 3, 4, 5, 6, 7, 8, 9, 10, 11, 12, 13, 15, 16, 17, 18] rfl
        have hDc := hD.sub (ws' := [(mh, .inr (9, G9 ma mcode mtoday moffs mmany msumW msumA msumR msumWW msumWA msumAA msumWR msumAR mupper mlower mrates mtaped mlaid mat mtk mtkAt mtkNumber mwaits mlisted mdealtMany)), ((ma 34), .inl (E 1, 2, .inl mf34)), ((ma 35), .inl (E 0, 2, .inl mf35)), ((ma 36), .inl (E 0, 384, .inl mf36)), ((ma 37), .inl (E 0, 384, .inl mf37)), ((ma 45), .inl (E 0, 130, .inl mf45)), ((ma 46), .inl (E 0, 24, .inl mf46)), ((ma 47), .inl (E 0, 5, .inl mf47)), ((ma 48), .inl (E 0, 5, .inl mf48)), ((ma 49), .inl (E 0, 5, .inl mf49)), ((ma 51), .inl (E 0, 15, .inl mf51)), ((ma 52), .inl (E 0, 15, .inl mf52)), ((ma 53), .inl (E 0, 15, .inl mf53)), ((ma 54), .inl (E 0, 15, .inl mf54)), ((ma 56), .inl (E 0, 200, .inl mf56)), ((ma 57), .inl (E 0, 600, .inl mf57)), ((ma 59), .inl (E 0, 3, .inl mf59)), ((ma 60), .inl (E 0, 3, .inl mf60))]) [0, 1, 2, 3, 4, 5, 6, 7, 8, 9, 10, 11, 12, 13, 15, 16, 17, 18] (by decide) rfl
        refine aft_i (runMV (rest := []) (As := [.int p0, .int p1]) hx hb hml hown htb hK (g_X9_work l D E mh ma mcode mtoday moffs mmany msumW msumA msumR msumWW msumWA msumAA msumWR msumAR mupper mlower mrates mtaped mlaid mat mtk mtkAt mtkNumber mwaits mlisted mdealtMany mf34 mf35 mf36 mf37 mf45 mf46 mf47 mf48 mf49 mf51 mf52 mf53 mf54 mf56 mf57 mf59 mf60 p0 p1 _ (by (try dsimp only); omega) hr_m35 (by (try dsimp only); omega) j49 hjw) ok_X9_work k_1442 k_1444 ks_64 k_9 k_1445 ⟨(Nat.le_of_ble_eq_true rfl), (Nat.le_of_ble_eq_true rfl)⟩ ⟨(Nat.le_of_ble_eq_true rfl), (Nat.le_of_ble_eq_true rfl)⟩ hl.1 (Nat.le_of_ble_eq_true rfl) rfl rfl dX9_told_39 hPc hDc rfl rfl 0 rfl) hP hD hS hA [0, 1, 2, 3, 4, 5, 6, 7, 8, 9, 10, 11, 12, 13, 15, 16, 17, 18] [14] (wr := [((ma 55), .inl (E 0, 5, .inl mf55))]) rfl rfl (by decide) (by decide) (fun r_15 u_17 H locs hw_16 hP hD hS => ?_)
        clear hPc hDc
        obtain ⟨w_18, w_19, w_20, w_21⟩ := u_17
        try dsimp only at hw_16
        have hP : va_P D vwCl [((ma 55), .inl (E 0, 5, .inl mf55)), (mh, .inr (9, G9 ma mcode mtoday moffs mmany msumW msumA msumR msumWW msumWA msumAA msumWR msumAR mupper mlower mrates mtaped mlaid mat mtk mtkAt mtkNumber mwaits mlisted mdealtMany)), ((ma 34), .inl (E 1, 2, .inl mf34)), ((ma 35), .inl (E 0, 2, .inl mf35)), ((ma 36), .inl (E 0, 384, .inl mf36)), ((ma 37), .inl (E 0, 384, .inl mf37)), ((ma 45), .inl (E 0, 130, .inl w_18)), ((ma 46), .inl (E 0, 24, .inl w_19)), ((ma 47), .inl (E 0, 5, .inl mf47)), ((ma 48), .inl (E 0, 5, .inl mf48)), ((ma 49), .inl (E 0, 5, .inl mf49)), ((ma 51), .inl (E 0, 15, .inl mf51)), ((ma 52), .inl (E 0, 15, .inl mf52)), ((ma 53), .inl (E 0, 15, .inl mf53)), ((ma 54), .inl (E 0, 15, .inl mf54)), ((ma 56), .inl (E 0, 200, .inl mf56)), ((ma 57), .inl (E 0, 600, .inl mf57)), ((ma 59), .inl (E 0, 3, .inl w_20)), ((ma 60), .inl (E 0, 3, .inl w_21))] H := hP
        have hD := toW hP hD rfl
        refine lv_istore (lv' := [(4, .int r_15), (0, .ref mh), (1, .int p0), (2, .int p1), (3, .int p2)]) hx hb dX9_told_42 hl (by decide) rfl (fun ls hl => ?_)
        refine lv_iload_n hx hb dX9_told_44 rfl (lv_at hl 4 rfl) ?_
        refine lv_if_ne (tgt := 60) hx hb dX9_told_45 (by decide) (fun c_22 => ?_) (fun c_22 => ?_)
        ·
          have ic_22 : p2.toInt ≠ 0 := mt (g_eq rfl t_0).mpr c_22
          clear c_22
          refine lv_iload_n hx hb dX9_told_60 rfl (lv_at hl 4 rfl) ?_
          refine lv_iconst (v := 1) hx hb dX9_told_61 (by decide) ?_
          refine lv_icmp_ne (tgt := 68) hx hb dX9_told_62 (by decide) (fun c_23 => ?_) (fun c_23 => ?_)
          ·
            have ic_23 : p2.toInt ≠ 1 := mt (g_eq rfl t_1).mpr c_23
            clear c_23
            refine lv_iload_n hx hb dX9_told_68 rfl (lv_at hl 4 rfl) ?_
            refine lv_iconst (v := 4) hx hb dX9_told_69 (by decide) ?_
            refine lv_icmp_lt (tgt := 100) hx hb dX9_told_70 (by decide) (fun c_24 => ?_) (fun c_24 => ?_)
            ·
              have ic_24 : p2.toInt < 4 := by first | exact (g_lt rfl t_4).mp c_24 | (have h := mt (g_le t_4 rfl).mpr c_24; omega)
              clear c_24
              refine lv_ldc hx hb hown (htb _ k_1205) dX9_told_100 ?_
              refine lv_istore (lv' := [(5, .int (-2000000000)), (4, .int r_15), (0, .ref mh), (1, .int p0), (2, .int p1), (3, .int p2)]) hx hb dX9_told_102 hl (by decide) rfl (fun ls hl => ?_)
              refine lv_ldcw hx hb hown (htb _ k_1447) dX9_told_104 ?_
              refine lv_istore (lv' := [(6, .int 2000000000), (5, .int (-2000000000)), (4, .int r_15), (0, .ref mh), (1, .int p0), (2, .int p1), (3, .int p2)]) hx hb dX9_told_107 hl (by decide) rfl (fun ls hl => ?_)
              refine lv_iconst (v := 0) hx hb dX9_told_109 (by decide) ?_
              refine lv_istore (lv' := [(7, .int 0), (6, .int 2000000000), (5, .int (-2000000000)), (4, .int r_15), (0, .ref mh), (1, .int p0), (2, .int p1), (3, .int p2)]) hx hb dX9_told_110 hl (by decide) rfl (fun ls hl => ?_)
              have loop_25 : ∀ (N_27 : Nat) (L7_112 : Int32) (L6_112 : Int32) (L5_112 : Int32) (H : Heap) (locs : List Loc) (ls : Array Slot), 3 - L7_112.toInt < (N_27 : Int) → (0 ≤ L7_112.toInt ∧ L7_112.toInt ≤ 3) → va_P D vwCl [((ma 55), .inl (E 0, 5, .inl mf55)), (mh, .inr (9, G9 ma mcode mtoday moffs mmany msumW msumA msumR msumWW msumWA msumAA msumWR msumAR mupper mlower mrates mtaped mlaid mat mtk mtkAt mtkNumber mwaits mlisted mdealtMany)), ((ma 34), .inl (E 1, 2, .inl mf34)), ((ma 35), .inl (E 0, 2, .inl mf35)), ((ma 36), .inl (E 0, 384, .inl mf36)), ((ma 37), .inl (E 0, 384, .inl mf37)), ((ma 45), .inl (E 0, 130, .inl w_18)), ((ma 46), .inl (E 0, 24, .inl w_19)), ((ma 47), .inl (E 0, 5, .inl mf47)), ((ma 48), .inl (E 0, 5, .inl mf48)), ((ma 49), .inl (E 0, 5, .inl mf49)), ((ma 51), .inl (E 0, 15, .inl mf51)), ((ma 52), .inl (E 0, 15, .inl mf52)), ((ma 53), .inl (E 0, 15, .inl mf53)), ((ma 54), .inl (E 0, 15, .inl mf54)), ((ma 56), .inl (E 0, 200, .inl mf56)), ((ma 57), .inl (E 0, 600, .inl mf57)), ((ma 59), .inl (E 0, 3, .inl w_20)), ((ma 60), .inl (E 0, 3, .inl w_21))] H → va_D A [((ma 55), .inl (E 0, 5, .inl mf55)), (mh, .inr (9, G9 ma mcode mtoday moffs mmany msumW msumA msumR msumWW msumWA msumAA msumWR msumAR mupper mlower mrates mtaped mlaid mat mtk mtkAt mtkNumber mwaits mlisted mdealtMany)), ((ma 34), .inl (E 1, 2, .inl mf34)), ((ma 35), .inl (E 0, 2, .inl mf35)), ((ma 36), .inl (E 0, 384, .inl mf36)), ((ma 37), .inl (E 0, 384, .inl mf37)), ((ma 45), .inl (E 0, 130, .inl w_18)), ((ma 46), .inl (E 0, 24, .inl w_19)), ((ma 47), .inl (E 0, 5, .inl mf47)), ((ma 48), .inl (E 0, 5, .inl mf48)), ((ma 49), .inl (E 0, 5, .inl mf49)), ((ma 51), .inl (E 0, 15, .inl mf51)), ((ma 52), .inl (E 0, 15, .inl mf52)), ((ma 53), .inl (E 0, 15, .inl mf53)), ((ma 54), .inl (E 0, 15, .inl mf54)), ((ma 56), .inl (E 0, 200, .inl mf56)), ((ma 57), .inl (E 0, 600, .inl mf57)), ((ma 59), .inl (E 0, 3, .inl w_20)), ((ma 60), .inl (E 0, 3, .inl w_21))] → va_S A s.heap H locs → lv_has ls 8 [(7, .int L7_112), (6, .int L6_112), (5, .int L5_112), (4, .int r_15), (0, .ref mh), (1, .int p0), (2, .int p1), (3, .int p2)] → W p l e (headSpec (wl yX9_told cX9_told 8 (some .int)) (RM 3 0 0)).room s m [Value.ref mh, .int p0, .int p1, .int p2].toArray below meth c H locs 0 0 (MQ below (va_Qi (fun (r : Int32) (u : (Nat → Int32) × (Nat → Int32) × (Nat → Int32) × (Nat → Int32)) => True) (mu_B D A (fun (u : (Nat → Int32) × (Nat → Int32) × (Nat → Int32) × (Nat → Int32)) => [(mh, .inr (9, G9 ma mcode mtoday moffs mmany msumW msumA msumR msumWW msumWA msumAA msumWR msumAR mupper mlower mrates mtaped mlaid mat mtk mtkAt mtkNumber mwaits mlisted mdealtMany)), ((ma 34), .inl (E 1, 2, .inl mf34)), ((ma 35), .inl (E 0, 2, .inl mf35)), ((ma 36), .inl (E 0, 384, .inl mf36)), ((ma 37), .inl (E 0, 384, .inl mf37)), ((ma 45), .inl (E 0, 130, .inl u.1)), ((ma 46), .inl (E 0, 24, .inl u.2.1)), ((ma 47), .inl (E 0, 5, .inl mf47)), ((ma 48), .inl (E 0, 5, .inl mf48)), ((ma 49), .inl (E 0, 5, .inl mf49)), ((ma 51), .inl (E 0, 15, .inl mf51)), ((ma 52), .inl (E 0, 15, .inl mf52)), ((ma 53), .inl (E 0, 15, .inl mf53)), ((ma 54), .inl (E 0, 15, .inl mf54)), ((ma 55), .inl (E 0, 5, .inl mf55)), ((ma 56), .inl (E 0, 200, .inl mf56)), ((ma 57), .inl (E 0, 600, .inl mf57)), ((ma 59), .inl (E 0, 3, .inl u.2.2.1)), ((ma 60), .inl (E 0, 3, .inl u.2.2.2))])) A) [Value.ref mh, .int p0, .int p1, .int p2].toArray s 0 0 A) (F0 m 112 ls []) := by
                intro N_27
                induction N_27 with
                | zero => intro L7_112 L6_112 L5_112 H locs ls hm v0_112 _ _ _ _; exfalso; omega
                | succ N_27 ih_26 =>
                  intro L7_112 L6_112 L5_112 H locs ls hm v0_112 hP hD hS hl
                  have lo_L7_112 := i_lo L7_112; have hi_L7_112 := i_hi L7_112
                  have lo_L6_112 := i_lo L6_112; have hi_L6_112 := i_hi L6_112
                  have lo_L5_112 := i_lo L5_112; have hi_L5_112 := i_hi L5_112
                  refine lv_iload hx hb dX9_told_112 (lv_at hl 0 rfl) ?_
                  refine lv_iconst (v := 3) hx hb dX9_told_114 (by decide) ?_
                  refine lv_icmp_ge (tgt := 218) hx hb dX9_told_115 (by decide) (fun c_28 => ?_) (fun c_28 => ?_)
                  ·
                    have ic_28 : 3 ≤ L7_112.toInt := by first | exact (g_le t_3 rfl).mp c_28 | (have h := mt (g_lt rfl t_3).mpr c_28; omega)
                    clear c_28
                    refine lv_iload hx hb dX9_told_218 (lv_at hl 1 rfl) ?_
                    refine lv_iload hx hb dX9_told_220 (lv_at hl 2 rfl) ?_
                    refine lv_icmp_ge (tgt := 230) hx hb dX9_told_222 (by decide) (fun c_29 => ?_) (fun c_29 => ?_)
                    ·
                      have ic_29 : L5_112.toInt ≤ L6_112.toInt := by first | exact (g_le rfl rfl).mp c_29 | (have h := mt (g_lt rfl rfl).mpr c_29; omega)
                      clear c_29
                      refine lv_iload_n hx hb dX9_told_230 rfl (lv_at hl 7 rfl) ?_
                      refine lv_iconst (v := 2) hx hb dX9_told_231 (by decide) ?_
                      refine lv_icmp_ne (tgt := 240) hx hb dX9_told_232 (by decide) (fun c_30 => ?_) (fun c_30 => ?_)
                      ·
                        have ic_30 : p2.toInt ≠ 2 := mt (g_eq rfl t_2).mpr c_30
                        clear c_30
                        refine lv_iload hx hb dX9_told_240 (lv_at hl 1 rfl) ?_
                        have hP9 := hP.sub (ws' := [(mh, .inr (9, G9 ma mcode mtoday moffs mmany msumW msumA msumR msumWW msumWA msumAA msumWR msumAR mupper mlower mrates mtaped mlaid mat mtk mtkAt mtkNumber mwaits mlisted mdealtMany)), ((ma 34), .inl (E 1, 2, .inl mf34)), ((ma 35), .inl (E 0, 2, .inl mf35)), ((ma 36), .inl (E 0, 384, .inl mf36)), ((ma 37), .inl (E 0, 384, .inl mf37)), ((ma 45), .inl (E 0, 130, .inl w_18)), ((ma 46), .inl (E 0, 24, .inl w_19)), ((ma 47), .inl (E 0, 5, .inl mf47)), ((ma 48), .inl (E 0, 5, .inl mf48)), ((ma 49), .inl (E 0, 5, .inl mf49)), ((ma 51), .inl (E 0, 15, .inl mf51)), ((ma 52), .inl (E 0, 15, .inl mf52)), ((ma 53), .inl (E 0, 15, .inl mf53)), ((ma 54), .inl (E 0, 15, .inl mf54)), ((ma 55), .inl (E 0, 5, .inl mf55)), ((ma 56), .inl (E 0, 200, .inl mf56)), ((ma 57), .inl (E 0, 600, .inl mf57)), ((ma 59), .inl (E 0, 3, .inl w_20)), ((ma 60), .inl (E 0, 3, .inl w_21))]) [1, 2, 3, 4, 5, 6, 7, 8, 9, 10, 11, 12, 13, 14, 0, 15, 16, 17, 18] rfl
                        have hD9 := hD.sub (ws' := [(mh, .inr (9, G9 ma mcode mtoday moffs mmany msumW msumA msumR msumWW msumWA msumAA msumWR msumAR mupper mlower mrates mtaped mlaid mat mtk mtkAt mtkNumber mwaits mlisted mdealtMany)), ((ma 34), .inl (E 1, 2, .inl mf34)), ((ma 35), .inl (E 0, 2, .inl mf35)), ((ma 36), .inl (E 0, 384, .inl mf36)), ((ma 37), .inl (E 0, 384, .inl mf37)), ((ma 45), .inl (E 0, 130, .inl w_18)), ((ma 46), .inl (E 0, 24, .inl w_19)), ((ma 47), .inl (E 0, 5, .inl mf47)), ((ma 48), .inl (E 0, 5, .inl mf48)), ((ma 49), .inl (E 0, 5, .inl mf49)), ((ma 51), .inl (E 0, 15, .inl mf51)), ((ma 52), .inl (E 0, 15, .inl mf52)), ((ma 53), .inl (E 0, 15, .inl mf53)), ((ma 54), .inl (E 0, 15, .inl mf54)), ((ma 55), .inl (E 0, 5, .inl mf55)), ((ma 56), .inl (E 0, 200, .inl mf56)), ((ma 57), .inl (E 0, 600, .inl mf57)), ((ma 59), .inl (E 0, 3, .inl w_20)), ((ma 60), .inl (E 0, 3, .inl w_21))]) [1, 2, 3, 4, 5, 6, 7, 8, 9, 10, 11, 12, 13, 14, 0, 15, 16, 17, 18] (by decide) rfl
                        exact W.iret (v := L6_112) hx hb hr (fun t ht hW => ⟨⟨L6_112, (w_18, w_19, w_20, w_21), rfl, trivial, by rw [ht]; exact hP9, hD9⟩, hS.F ht⟩) hS.2.2 dX9_told_242
                      ·
                        have ic_30 : p2.toInt = 2 := (g_eq rfl t_2).mp c_30
                        clear c_30
                        refine lv_iload hx hb dX9_told_235 (lv_at hl 2 rfl) ?_
                        refine lv_goto (tgt := 242) hx hb dX9_told_237 (by decide) ?_
                        have hP9 := hP.sub (ws' := [(mh, .inr (9, G9 ma mcode mtoday moffs mmany msumW msumA msumR msumWW msumWA msumAA msumWR msumAR mupper mlower mrates mtaped mlaid mat mtk mtkAt mtkNumber mwaits mlisted mdealtMany)), ((ma 34), .inl (E 1, 2, .inl mf34)), ((ma 35), .inl (E 0, 2, .inl mf35)), ((ma 36), .inl (E 0, 384, .inl mf36)), ((ma 37), .inl (E 0, 384, .inl mf37)), ((ma 45), .inl (E 0, 130, .inl w_18)), ((ma 46), .inl (E 0, 24, .inl w_19)), ((ma 47), .inl (E 0, 5, .inl mf47)), ((ma 48), .inl (E 0, 5, .inl mf48)), ((ma 49), .inl (E 0, 5, .inl mf49)), ((ma 51), .inl (E 0, 15, .inl mf51)), ((ma 52), .inl (E 0, 15, .inl mf52)), ((ma 53), .inl (E 0, 15, .inl mf53)), ((ma 54), .inl (E 0, 15, .inl mf54)), ((ma 55), .inl (E 0, 5, .inl mf55)), ((ma 56), .inl (E 0, 200, .inl mf56)), ((ma 57), .inl (E 0, 600, .inl mf57)), ((ma 59), .inl (E 0, 3, .inl w_20)), ((ma 60), .inl (E 0, 3, .inl w_21))]) [1, 2, 3, 4, 5, 6, 7, 8, 9, 10, 11, 12, 13, 14, 0, 15, 16, 17, 18] rfl
                        have hD9 := hD.sub (ws' := [(mh, .inr (9, G9 ma mcode mtoday moffs mmany msumW msumA msumR msumWW msumWA msumAA msumWR msumAR mupper mlower mrates mtaped mlaid mat mtk mtkAt mtkNumber mwaits mlisted mdealtMany)), ((ma 34), .inl (E 1, 2, .inl mf34)), ((ma 35), .inl (E 0, 2, .inl mf35)), ((ma 36), .inl (E 0, 384, .inl mf36)), ((ma 37), .inl (E 0, 384, .inl mf37)), ((ma 45), .inl (E 0, 130, .inl w_18)), ((ma 46), .inl (E 0, 24, .inl w_19)), ((ma 47), .inl (E 0, 5, .inl mf47)), ((ma 48), .inl (E 0, 5, .inl mf48)), ((ma 49), .inl (E 0, 5, .inl mf49)), ((ma 51), .inl (E 0, 15, .inl mf51)), ((ma 52), .inl (E 0, 15, .inl mf52)), ((ma 53), .inl (E 0, 15, .inl mf53)), ((ma 54), .inl (E 0, 15, .inl mf54)), ((ma 55), .inl (E 0, 5, .inl mf55)), ((ma 56), .inl (E 0, 200, .inl mf56)), ((ma 57), .inl (E 0, 600, .inl mf57)), ((ma 59), .inl (E 0, 3, .inl w_20)), ((ma 60), .inl (E 0, 3, .inl w_21))]) [1, 2, 3, 4, 5, 6, 7, 8, 9, 10, 11, 12, 13, 14, 0, 15, 16, 17, 18] (by decide) rfl
                        exact W.iret (v := L5_112) hx hb hr (fun t ht hW => ⟨⟨L5_112, (w_18, w_19, w_20, w_21), rfl, trivial, by rw [ht]; exact hP9, hD9⟩, hS.F ht⟩) hS.2.2 dX9_told_242
                    ·
                      have ic_29 : L6_112.toInt < L5_112.toInt := by first | exact (g_lt rfl rfl).mp c_29 | (have h := mt (g_le rfl rfl).mpr c_29; omega)
                      clear c_29
                      refine lv_ldc hx hb hown (htb _ k_1205) dX9_told_225 ?_
                      refine lv_goto (tgt := 242) hx hb dX9_told_227 (by decide) ?_
                      have hP9 := hP.sub (ws' := [(mh, .inr (9, G9 ma mcode mtoday moffs mmany msumW msumA msumR msumWW msumWA msumAA msumWR msumAR mupper mlower mrates mtaped mlaid mat mtk mtkAt mtkNumber mwaits mlisted mdealtMany)), ((ma 34), .inl (E 1, 2, .inl mf34)), ((ma 35), .inl (E 0, 2, .inl mf35)), ((ma 36), .inl (E 0, 384, .inl mf36)), ((ma 37), .inl (E 0, 384, .inl mf37)), ((ma 45), .inl (E 0, 130, .inl w_18)), ((ma 46), .inl (E 0, 24, .inl w_19)), ((ma 47), .inl (E 0, 5, .inl mf47)), ((ma 48), .inl (E 0, 5, .inl mf48)), ((ma 49), .inl (E 0, 5, .inl mf49)), ((ma 51), .inl (E 0, 15, .inl mf51)), ((ma 52), .inl (E 0, 15, .inl mf52)), ((ma 53), .inl (E 0, 15, .inl mf53)), ((ma 54), .inl (E 0, 15, .inl mf54)), ((ma 55), .inl (E 0, 5, .inl mf55)), ((ma 56), .inl (E 0, 200, .inl mf56)), ((ma 57), .inl (E 0, 600, .inl mf57)), ((ma 59), .inl (E 0, 3, .inl w_20)), ((ma 60), .inl (E 0, 3, .inl w_21))]) [1, 2, 3, 4, 5, 6, 7, 8, 9, 10, 11, 12, 13, 14, 0, 15, 16, 17, 18] rfl
                      have hD9 := hD.sub (ws' := [(mh, .inr (9, G9 ma mcode mtoday moffs mmany msumW msumA msumR msumWW msumWA msumAA msumWR msumAR mupper mlower mrates mtaped mlaid mat mtk mtkAt mtkNumber mwaits mlisted mdealtMany)), ((ma 34), .inl (E 1, 2, .inl mf34)), ((ma 35), .inl (E 0, 2, .inl mf35)), ((ma 36), .inl (E 0, 384, .inl mf36)), ((ma 37), .inl (E 0, 384, .inl mf37)), ((ma 45), .inl (E 0, 130, .inl w_18)), ((ma 46), .inl (E 0, 24, .inl w_19)), ((ma 47), .inl (E 0, 5, .inl mf47)), ((ma 48), .inl (E 0, 5, .inl mf48)), ((ma 49), .inl (E 0, 5, .inl mf49)), ((ma 51), .inl (E 0, 15, .inl mf51)), ((ma 52), .inl (E 0, 15, .inl mf52)), ((ma 53), .inl (E 0, 15, .inl mf53)), ((ma 54), .inl (E 0, 15, .inl mf54)), ((ma 55), .inl (E 0, 5, .inl mf55)), ((ma 56), .inl (E 0, 200, .inl mf56)), ((ma 57), .inl (E 0, 600, .inl mf57)), ((ma 59), .inl (E 0, 3, .inl w_20)), ((ma 60), .inl (E 0, 3, .inl w_21))]) [1, 2, 3, 4, 5, 6, 7, 8, 9, 10, 11, 12, 13, 14, 0, 15, 16, 17, 18] (by decide) rfl
                      exact W.iret (v := (-2000000000)) hx hb hr (fun t ht hW => ⟨⟨(-2000000000), (w_18, w_19, w_20, w_21), rfl, trivial, by rw [ht]; exact hP9, hD9⟩, hS.F ht⟩) hS.2.2 dX9_told_242
                  ·
                    have ic_28 : L7_112.toInt < 3 := by first | exact (g_lt rfl t_3).mp c_28 | (have h := mt (g_le t_3 rfl).mpr c_28; omega)
                    clear c_28
                    refine lv_iload hx hb dX9_told_118 (lv_at hl 0 rfl) ?_
                    refine lv_iload hx hb dX9_told_120 (lv_at hl 3 rfl) ?_
                    refine lv_icmp_ne (tgt := 128) hx hb dX9_told_122 (by decide) (fun c_31 => ?_) (fun c_31 => ?_)
                    ·
                      have ic_31 : L7_112.toInt ≠ r_15.toInt := mt (g_eq rfl rfl).mpr c_31
                      clear c_31
                      refine lv_aload_n hx hb dX9_told_128 rfl (lv_at hl 4 rfl) ?_
                      refine va_get (D := D) (ci := 9) (v := .ref (ma 59)) (C := RX9) (T := TX9) (N := 68) hx hb htb iX9 hown hK.1 hP 1 rfl rfl 59 (by decide) (htb _ k_1017) (fun _ h9 => h9) rfl dX9_told_129 ?_
                      refine lv_iload hx hb dX9_told_132 (lv_at hl 0 rfl) ?_
                      refine va_iald hx hb hK.1 hP 17 0 rfl rfl (g_in rfl (by omega) (by omega)) dX9_told_134 ?_
                      refine lv_topi (fun z_32 ez_32 => ?_)
                      have kz_32 := congrArg Int32.toInt ez_32
                      refine lv_aload_n hx hb dX9_told_135 rfl (lv_at hl 4 rfl) ?_
                      refine va_get (D := D) (ci := 9) (v := .ref (ma 60)) (C := RX9) (T := TX9) (N := 68) hx hb htb iX9 hown hK.1 hP 1 rfl rfl 60 (by decide) (htb _ k_1018) (fun _ h9 => h9) rfl dX9_told_136 ?_
                      refine lv_iload hx hb dX9_told_139 (lv_at hl 0 rfl) ?_
                      refine va_iald hx hb hK.1 hP 18 0 rfl rfl (g_in rfl (by omega) (by omega)) dX9_told_141 ?_
                      refine lv_topi (fun z_33 ez_33 => ?_)
                      have kz_33 := congrArg Int32.toInt ez_33
                      refine lv_isub hx hb dX9_told_142 ?_
                      refine lv_topi (fun z_34 ez_34 => ?_)
                      refine lv_iload hx hb dX9_told_143 (lv_at hl 2 rfl) ?_
                      refine lv_icmp_le (tgt := 166) hx hb dX9_told_145 (by decide) (fun c_35 => ?_) (fun c_35 => ?_)
                      ·
                        have ic_35 : z_34.toInt ≤ L5_112.toInt := by first | exact (g_le rfl rfl).mp c_35 | (have h := mt (g_lt rfl rfl).mpr c_35; omega)
                        clear c_35
                        refine lv_iload hx hb dX9_told_166 (lv_at hl 2 rfl) ?_
                        refine lv_istore (lv' := [(5, .int L5_112), (7, .int L7_112), (6, .int L6_112), (4, .int r_15), (0, .ref mh), (1, .int p0), (2, .int p1), (3, .int p2)]) hx hb dX9_told_168 hl (by decide) rfl (fun ls hl => ?_)
                        refine lv_aload_n hx hb dX9_told_170 rfl (lv_at hl 4 rfl) ?_
                        refine va_get (D := D) (ci := 9) (v := .ref (ma 59)) (C := RX9) (T := TX9) (N := 68) hx hb htb iX9 hown hK.1 hP 1 rfl rfl 59 (by decide) (htb _ k_1017) (fun _ h9 => h9) rfl dX9_told_171 ?_
                        refine lv_iload hx hb dX9_told_174 (lv_at hl 1 rfl) ?_
                        refine va_iald hx hb hK.1 hP 17 0 rfl rfl (g_in rfl (by omega) (by omega)) dX9_told_176 ?_
                        refine lv_topi (fun z_36 ez_36 => ?_)
                        have kz_36 := congrArg Int32.toInt ez_36
                        refine lv_aload_n hx hb dX9_told_177 rfl (lv_at hl 4 rfl) ?_
                        refine va_get (D := D) (ci := 9) (v := .ref (ma 60)) (C := RX9) (T := TX9) (N := 68) hx hb htb iX9 hown hK.1 hP 1 rfl rfl 60 (by decide) (htb _ k_1018) (fun _ h9 => h9) rfl dX9_told_178 ?_
                        refine lv_iload hx hb dX9_told_181 (lv_at hl 1 rfl) ?_
                        refine va_iald hx hb hK.1 hP 18 0 rfl rfl (g_in rfl (by omega) (by omega)) dX9_told_183 ?_
                        refine lv_topi (fun z_37 ez_37 => ?_)
                        have kz_37 := congrArg Int32.toInt ez_37
                        refine lv_iadd hx hb dX9_told_184 ?_
                        refine lv_topi (fun z_38 ez_38 => ?_)
                        refine lv_iload hx hb dX9_told_185 (lv_at hl 2 rfl) ?_
                        refine lv_icmp_ge (tgt := 208) hx hb dX9_told_187 (by decide) (fun c_39 => ?_) (fun c_39 => ?_)
                        ·
                          have ic_39 : L6_112.toInt ≤ z_38.toInt := by first | exact (g_le rfl rfl).mp c_39 | (have h := mt (g_lt rfl rfl).mpr c_39; omega)
                          clear c_39
                          refine lv_iload hx hb dX9_told_208 (lv_at hl 2 rfl) ?_
                          refine lv_istore (lv' := [(6, .int L6_112), (5, .int L5_112), (7, .int L7_112), (4, .int r_15), (0, .ref mh), (1, .int p0), (2, .int p1), (3, .int p2)]) hx hb dX9_told_210 hl (by decide) rfl (fun ls hl => ?_)
                          obtain ⟨z_40, ez_40⟩ : ∃ y : Int32, y = L7_112 + 1 := ⟨_, rfl⟩
                          have jz_40 : z_40.toInt = L7_112.toInt + 1 := by rw [ez_40]; exact g_add rfl t_1 (by omega) (by omega)
                          refine lv_iinc (v := z_40) (lv' := [(7, .int z_40), (6, .int L6_112), (5, .int L5_112), (4, .int r_15), (0, .ref mh), (1, .int p0), (2, .int p1), (3, .int p2)]) hx hb dX9_told_212 hl (k := 2) rfl (by rw [ez_40]; rfl) (by decide) rfl (fun ls hl => ?_)
                          refine lv_goto (tgt := 112) hx hb dX9_told_215 (by decide) ?_
                          exact ih_26 z_40 L6_112 L5_112 _ _ _ (by (try dsimp only); omega) (by (try dsimp only); omega) hP hD hS (lv_sub hl [0, 1, 2, 3, 4, 5, 6, 7] rfl)
                        ·
                          have ic_39 : z_38.toInt < L6_112.toInt := by first | exact (g_lt rfl rfl).mp c_39 | (have h := mt (g_le rfl rfl).mpr c_39; omega)
                          clear c_39
                          refine lv_aload_n hx hb dX9_told_190 rfl (lv_at hl 4 rfl) ?_
                          refine va_get (D := D) (ci := 9) (v := .ref (ma 59)) (C := RX9) (T := TX9) (N := 68) hx hb htb iX9 hown hK.1 hP 1 rfl rfl 59 (by decide) (htb _ k_1017) (fun _ h9 => h9) rfl dX9_told_191 ?_
                          refine lv_iload hx hb dX9_told_194 (lv_at hl 1 rfl) ?_
                          refine va_iald hx hb hK.1 hP 17 0 rfl rfl (g_in rfl (by omega) (by omega)) dX9_told_196 ?_
                          refine lv_topi (fun z_41 ez_41 => ?_)
                          have kz_41 := congrArg Int32.toInt ez_41
                          refine lv_aload_n hx hb dX9_told_197 rfl (lv_at hl 4 rfl) ?_
                          refine va_get (D := D) (ci := 9) (v := .ref (ma 60)) (C := RX9) (T := TX9) (N := 68) hx hb htb iX9 hown hK.1 hP 1 rfl rfl 60 (by decide) (htb _ k_1018) (fun _ h9 => h9) rfl dX9_told_198 ?_
                          refine lv_iload hx hb dX9_told_201 (lv_at hl 1 rfl) ?_
                          refine va_iald hx hb hK.1 hP 18 0 rfl rfl (g_in rfl (by omega) (by omega)) dX9_told_203 ?_
                          refine lv_topi (fun z_42 ez_42 => ?_)
                          have kz_42 := congrArg Int32.toInt ez_42
                          refine lv_iadd hx hb dX9_told_204 ?_
                          refine lv_topi (fun z_43 ez_43 => ?_)
                          refine lv_goto (tgt := 210) hx hb dX9_told_205 (by decide) ?_
                          refine lv_istore (lv' := [(6, .int z_43), (5, .int L5_112), (7, .int L7_112), (4, .int r_15), (0, .ref mh), (1, .int p0), (2, .int p1), (3, .int p2)]) hx hb dX9_told_210 hl (by decide) rfl (fun ls hl => ?_)
                          obtain ⟨z_44, ez_44⟩ : ∃ y : Int32, y = L7_112 + 1 := ⟨_, rfl⟩
                          have jz_44 : z_44.toInt = L7_112.toInt + 1 := by rw [ez_44]; exact g_add rfl t_1 (by omega) (by omega)
                          refine lv_iinc (v := z_44) (lv' := [(7, .int z_44), (6, .int z_43), (5, .int L5_112), (4, .int r_15), (0, .ref mh), (1, .int p0), (2, .int p1), (3, .int p2)]) hx hb dX9_told_212 hl (k := 2) rfl (by rw [ez_44]; rfl) (by decide) rfl (fun ls hl => ?_)
                          refine lv_goto (tgt := 112) hx hb dX9_told_215 (by decide) ?_
                          exact ih_26 z_44 z_43 L5_112 _ _ _ (by (try dsimp only); omega) (by (try dsimp only); omega) hP hD hS (lv_sub hl [0, 1, 2, 3, 4, 5, 6, 7] rfl)
                      ·
                        have ic_35 : L5_112.toInt < z_34.toInt := by first | exact (g_lt rfl rfl).mp c_35 | (have h := mt (g_le rfl rfl).mpr c_35; omega)
                        clear c_35
                        refine lv_aload_n hx hb dX9_told_148 rfl (lv_at hl 4 rfl) ?_
                        refine va_get (D := D) (ci := 9) (v := .ref (ma 59)) (C := RX9) (T := TX9) (N := 68) hx hb htb iX9 hown hK.1 hP 1 rfl rfl 59 (by decide) (htb _ k_1017) (fun _ h9 => h9) rfl dX9_told_149 ?_
                        refine lv_iload hx hb dX9_told_152 (lv_at hl 0 rfl) ?_
                        refine va_iald hx hb hK.1 hP 17 0 rfl rfl (g_in rfl (by omega) (by omega)) dX9_told_154 ?_
                        refine lv_topi (fun z_45 ez_45 => ?_)
                        have kz_45 := congrArg Int32.toInt ez_45
                        refine lv_aload_n hx hb dX9_told_155 rfl (lv_at hl 4 rfl) ?_
                        refine va_get (D := D) (ci := 9) (v := .ref (ma 60)) (C := RX9) (T := TX9) (N := 68) hx hb htb iX9 hown hK.1 hP 1 rfl rfl 60 (by decide) (htb _ k_1018) (fun _ h9 => h9) rfl dX9_told_156 ?_
                        refine lv_iload hx hb dX9_told_159 (lv_at hl 0 rfl) ?_
                        refine va_iald hx hb hK.1 hP 18 0 rfl rfl (g_in rfl (by omega) (by omega)) dX9_told_161 ?_
                        refine lv_topi (fun z_46 ez_46 => ?_)
                        have kz_46 := congrArg Int32.toInt ez_46
                        refine lv_isub hx hb dX9_told_162 ?_
                        refine lv_topi (fun z_47 ez_47 => ?_)
                        refine lv_goto (tgt := 168) hx hb dX9_told_163 (by decide) ?_
                        refine lv_istore (lv' := [(5, .int z_47), (7, .int L7_112), (6, .int L6_112), (4, .int r_15), (0, .ref mh), (1, .int p0), (2, .int p1), (3, .int p2)]) hx hb dX9_told_168 hl (by decide) rfl (fun ls hl => ?_)
                        refine lv_aload_n hx hb dX9_told_170 rfl (lv_at hl 4 rfl) ?_
                        refine va_get (D := D) (ci := 9) (v := .ref (ma 59)) (C := RX9) (T := TX9) (N := 68) hx hb htb iX9 hown hK.1 hP 1 rfl rfl 59 (by decide) (htb _ k_1017) (fun _ h9 => h9) rfl dX9_told_171 ?_
                        refine lv_iload hx hb dX9_told_174 (lv_at hl 1 rfl) ?_
                        refine va_iald hx hb hK.1 hP 17 0 rfl rfl (g_in rfl (by omega) (by omega)) dX9_told_176 ?_
                        refine lv_topi (fun z_48 ez_48 => ?_)
                        have kz_48 := congrArg Int32.toInt ez_48
                        refine lv_aload_n hx hb dX9_told_177 rfl (lv_at hl 4 rfl) ?_
                        refine va_get (D := D) (ci := 9) (v := .ref (ma 60)) (C := RX9) (T := TX9) (N := 68) hx hb htb iX9 hown hK.1 hP 1 rfl rfl 60 (by decide) (htb _ k_1018) (fun _ h9 => h9) rfl dX9_told_178 ?_
                        refine lv_iload hx hb dX9_told_181 (lv_at hl 1 rfl) ?_
                        refine va_iald hx hb hK.1 hP 18 0 rfl rfl (g_in rfl (by omega) (by omega)) dX9_told_183 ?_
                        refine lv_topi (fun z_49 ez_49 => ?_)
                        have kz_49 := congrArg Int32.toInt ez_49
                        refine lv_iadd hx hb dX9_told_184 ?_
                        refine lv_topi (fun z_50 ez_50 => ?_)
                        refine lv_iload hx hb dX9_told_185 (lv_at hl 2 rfl) ?_
                        refine lv_icmp_ge (tgt := 208) hx hb dX9_told_187 (by decide) (fun c_51 => ?_) (fun c_51 => ?_)
                        ·
                          have ic_51 : L6_112.toInt ≤ z_50.toInt := by first | exact (g_le rfl rfl).mp c_51 | (have h := mt (g_lt rfl rfl).mpr c_51; omega)
                          clear c_51
                          refine lv_iload hx hb dX9_told_208 (lv_at hl 2 rfl) ?_
                          refine lv_istore (lv' := [(6, .int L6_112), (5, .int z_47), (7, .int L7_112), (4, .int r_15), (0, .ref mh), (1, .int p0), (2, .int p1), (3, .int p2)]) hx hb dX9_told_210 hl (by decide) rfl (fun ls hl => ?_)
                          obtain ⟨z_52, ez_52⟩ : ∃ y : Int32, y = L7_112 + 1 := ⟨_, rfl⟩
                          have jz_52 : z_52.toInt = L7_112.toInt + 1 := by rw [ez_52]; exact g_add rfl t_1 (by omega) (by omega)
                          refine lv_iinc (v := z_52) (lv' := [(7, .int z_52), (6, .int L6_112), (5, .int z_47), (4, .int r_15), (0, .ref mh), (1, .int p0), (2, .int p1), (3, .int p2)]) hx hb dX9_told_212 hl (k := 2) rfl (by rw [ez_52]; rfl) (by decide) rfl (fun ls hl => ?_)
                          refine lv_goto (tgt := 112) hx hb dX9_told_215 (by decide) ?_
                          exact ih_26 z_52 L6_112 z_47 _ _ _ (by (try dsimp only); omega) (by (try dsimp only); omega) hP hD hS (lv_sub hl [0, 1, 2, 3, 4, 5, 6, 7] rfl)
                        ·
                          have ic_51 : z_50.toInt < L6_112.toInt := by first | exact (g_lt rfl rfl).mp c_51 | (have h := mt (g_le rfl rfl).mpr c_51; omega)
                          clear c_51
                          refine lv_aload_n hx hb dX9_told_190 rfl (lv_at hl 4 rfl) ?_
                          refine va_get (D := D) (ci := 9) (v := .ref (ma 59)) (C := RX9) (T := TX9) (N := 68) hx hb htb iX9 hown hK.1 hP 1 rfl rfl 59 (by decide) (htb _ k_1017) (fun _ h9 => h9) rfl dX9_told_191 ?_
                          refine lv_iload hx hb dX9_told_194 (lv_at hl 1 rfl) ?_
                          refine va_iald hx hb hK.1 hP 17 0 rfl rfl (g_in rfl (by omega) (by omega)) dX9_told_196 ?_
                          refine lv_topi (fun z_53 ez_53 => ?_)
                          have kz_53 := congrArg Int32.toInt ez_53
                          refine lv_aload_n hx hb dX9_told_197 rfl (lv_at hl 4 rfl) ?_
                          refine va_get (D := D) (ci := 9) (v := .ref (ma 60)) (C := RX9) (T := TX9) (N := 68) hx hb htb iX9 hown hK.1 hP 1 rfl rfl 60 (by decide) (htb _ k_1018) (fun _ h9 => h9) rfl dX9_told_198 ?_
                          refine lv_iload hx hb dX9_told_201 (lv_at hl 1 rfl) ?_
                          refine va_iald hx hb hK.1 hP 18 0 rfl rfl (g_in rfl (by omega) (by omega)) dX9_told_203 ?_
                          refine lv_topi (fun z_54 ez_54 => ?_)
                          have kz_54 := congrArg Int32.toInt ez_54
                          refine lv_iadd hx hb dX9_told_204 ?_
                          refine lv_topi (fun z_55 ez_55 => ?_)
                          refine lv_goto (tgt := 210) hx hb dX9_told_205 (by decide) ?_
                          refine lv_istore (lv' := [(6, .int z_55), (5, .int z_47), (7, .int L7_112), (4, .int r_15), (0, .ref mh), (1, .int p0), (2, .int p1), (3, .int p2)]) hx hb dX9_told_210 hl (by decide) rfl (fun ls hl => ?_)
                          obtain ⟨z_56, ez_56⟩ : ∃ y : Int32, y = L7_112 + 1 := ⟨_, rfl⟩
                          have jz_56 : z_56.toInt = L7_112.toInt + 1 := by rw [ez_56]; exact g_add rfl t_1 (by omega) (by omega)
                          refine lv_iinc (v := z_56) (lv' := [(7, .int z_56), (6, .int z_55), (5, .int z_47), (4, .int r_15), (0, .ref mh), (1, .int p0), (2, .int p1), (3, .int p2)]) hx hb dX9_told_212 hl (k := 2) rfl (by rw [ez_56]; rfl) (by decide) rfl (fun ls hl => ?_)
                          refine lv_goto (tgt := 112) hx hb dX9_told_215 (by decide) ?_
                          exact ih_26 z_56 z_55 z_47 _ _ _ (by (try dsimp only); omega) (by (try dsimp only); omega) hP hD hS (lv_sub hl [0, 1, 2, 3, 4, 5, 6, 7] rfl)
                    ·
                      have ic_31 : L7_112.toInt = r_15.toInt := (g_eq rfl rfl).mp c_31
                      clear c_31
                      refine lv_goto (tgt := 212) hx hb dX9_told_125 (by decide) ?_
                      obtain ⟨z_57, ez_57⟩ : ∃ y : Int32, y = L7_112 + 1 := ⟨_, rfl⟩
                      have jz_57 : z_57.toInt = L7_112.toInt + 1 := by rw [ez_57]; exact g_add rfl t_1 (by omega) (by omega)
                      refine lv_iinc (v := z_57) (lv' := [(7, .int z_57), (6, .int L6_112), (5, .int L5_112), (4, .int r_15), (0, .ref mh), (1, .int p0), (2, .int p1), (3, .int p2)]) hx hb dX9_told_212 hl (k := 0) rfl (by rw [ez_57]; rfl) (by decide) rfl (fun ls hl => ?_)
                      refine lv_goto (tgt := 112) hx hb dX9_told_215 (by decide) ?_
                      exact ih_26 z_57 L6_112 L5_112 _ _ _ (by (try dsimp only); omega) (by (try dsimp only); omega) hP hD hS (lv_sub hl [0, 1, 2, 3, 4, 5, 6, 7] rfl)
              exact loop_25 4 0 2000000000 ((-2000000000)) _ _ _ (by have h0 := t_m2000000000; have h1 := t_0; have h2 := t_2000000000; (try dsimp only); omega) (by have h0 := t_m2000000000; have h1 := t_0; have h2 := t_2000000000; (try dsimp only); omega) hP hD hS (lv_sub hl [0, 1, 2, 3, 4, 5, 6, 7] rfl)
            ·
              have ic_24 : 4 ≤ p2.toInt := by first | exact (g_le t_4 rfl).mp c_24 | (have h := mt (g_lt rfl t_4).mpr c_24; omega)
              clear c_24
              refine lv_iload_n hx hb dX9_told_73 rfl (lv_at hl 4 rfl) ?_
              refine lv_bipush (v := 7) hx hb dX9_told_74 (by decide) ?_
              refine lv_icmp_ge (tgt := 90) hx hb dX9_told_76 (by decide) (fun c_58 => ?_) (fun c_58 => ?_)
              ·
                have ic_58 : 7 ≤ p2.toInt := by first | exact (g_le t_7 rfl).mp c_58 | (have h := mt (g_lt rfl t_7).mpr c_58; omega)
                clear c_58
                refine lv_aload_n hx hb dX9_told_90 rfl (lv_at hl 1 rfl) ?_
                refine va_get (D := D) (ci := 9) (v := .ref (ma 60)) (C := RX9) (T := TX9) (N := 68) hx hb htb iX9 hown hK.1 hP 1 rfl rfl 60 (by decide) (htb _ k_1018) (fun _ h9 => h9) rfl dX9_told_91 ?_
                refine lv_iload_n hx hb dX9_told_94 rfl (lv_at hl 4 rfl) ?_
                refine lv_bipush (v := 7) hx hb dX9_told_95 (by decide) ?_
                refine lv_isub hx hb dX9_told_97 ?_
                refine lv_topi (fun z_59 ez_59 => ?_)
                have jz_59 : z_59.toInt = p2.toInt - 7 := by rw [ez_59]; exact g_sub rfl t_7 (by omega) (by omega)
                refine va_iald hx hb hK.1 hP 18 0 rfl rfl (g_in rfl (by omega) (by omega)) dX9_told_98 ?_
                refine lv_topi (fun z_60 ez_60 => ?_)
                have kz_60 := congrArg Int32.toInt ez_60
                have hP9 := hP.sub (ws' := [(mh, .inr (9, G9 ma mcode mtoday moffs mmany msumW msumA msumR msumWW msumWA msumAA msumWR msumAR mupper mlower mrates mtaped mlaid mat mtk mtkAt mtkNumber mwaits mlisted mdealtMany)), ((ma 34), .inl (E 1, 2, .inl mf34)), ((ma 35), .inl (E 0, 2, .inl mf35)), ((ma 36), .inl (E 0, 384, .inl mf36)), ((ma 37), .inl (E 0, 384, .inl mf37)), ((ma 45), .inl (E 0, 130, .inl w_18)), ((ma 46), .inl (E 0, 24, .inl w_19)), ((ma 47), .inl (E 0, 5, .inl mf47)), ((ma 48), .inl (E 0, 5, .inl mf48)), ((ma 49), .inl (E 0, 5, .inl mf49)), ((ma 51), .inl (E 0, 15, .inl mf51)), ((ma 52), .inl (E 0, 15, .inl mf52)), ((ma 53), .inl (E 0, 15, .inl mf53)), ((ma 54), .inl (E 0, 15, .inl mf54)), ((ma 55), .inl (E 0, 5, .inl mf55)), ((ma 56), .inl (E 0, 200, .inl mf56)), ((ma 57), .inl (E 0, 600, .inl mf57)), ((ma 59), .inl (E 0, 3, .inl w_20)), ((ma 60), .inl (E 0, 3, .inl w_21))]) [1, 2, 3, 4, 5, 6, 7, 8, 9, 10, 11, 12, 13, 14, 0, 15, 16, 17, 18] rfl
                have hD9 := hD.sub (ws' := [(mh, .inr (9, G9 ma mcode mtoday moffs mmany msumW msumA msumR msumWW msumWA msumAA msumWR msumAR mupper mlower mrates mtaped mlaid mat mtk mtkAt mtkNumber mwaits mlisted mdealtMany)), ((ma 34), .inl (E 1, 2, .inl mf34)), ((ma 35), .inl (E 0, 2, .inl mf35)), ((ma 36), .inl (E 0, 384, .inl mf36)), ((ma 37), .inl (E 0, 384, .inl mf37)), ((ma 45), .inl (E 0, 130, .inl w_18)), ((ma 46), .inl (E 0, 24, .inl w_19)), ((ma 47), .inl (E 0, 5, .inl mf47)), ((ma 48), .inl (E 0, 5, .inl mf48)), ((ma 49), .inl (E 0, 5, .inl mf49)), ((ma 51), .inl (E 0, 15, .inl mf51)), ((ma 52), .inl (E 0, 15, .inl mf52)), ((ma 53), .inl (E 0, 15, .inl mf53)), ((ma 54), .inl (E 0, 15, .inl mf54)), ((ma 55), .inl (E 0, 5, .inl mf55)), ((ma 56), .inl (E 0, 200, .inl mf56)), ((ma 57), .inl (E 0, 600, .inl mf57)), ((ma 59), .inl (E 0, 3, .inl w_20)), ((ma 60), .inl (E 0, 3, .inl w_21))]) [1, 2, 3, 4, 5, 6, 7, 8, 9, 10, 11, 12, 13, 14, 0, 15, 16, 17, 18] (by decide) rfl
                exact W.iret (v := z_60) hx hb hr (fun t ht hW => ⟨⟨z_60, (w_18, w_19, w_20, w_21), rfl, trivial, by rw [ht]; exact hP9, hD9⟩, hS.F ht⟩) hS.2.2 dX9_told_99
              ·
                have ic_58 : p2.toInt < 7 := by first | exact (g_lt rfl t_7).mp c_58 | (have h := mt (g_le t_7 rfl).mpr c_58; omega)
                clear c_58
                refine lv_aload_n hx hb dX9_told_79 rfl (lv_at hl 1 rfl) ?_
                refine va_get (D := D) (ci := 9) (v := .ref (ma 59)) (C := RX9) (T := TX9) (N := 68) hx hb htb iX9 hown hK.1 hP 1 rfl rfl 59 (by decide) (htb _ k_1017) (fun _ h9 => h9) rfl dX9_told_80 ?_
                refine lv_iload_n hx hb dX9_told_83 rfl (lv_at hl 4 rfl) ?_
                refine lv_iconst (v := 4) hx hb dX9_told_84 (by decide) ?_
                refine lv_isub hx hb dX9_told_85 ?_
                refine lv_topi (fun z_61 ez_61 => ?_)
                have jz_61 : z_61.toInt = p2.toInt - 4 := by rw [ez_61]; exact g_sub rfl t_4 (by omega) (by omega)
                refine va_iald hx hb hK.1 hP 17 0 rfl rfl (g_in rfl (by omega) (by omega)) dX9_told_86 ?_
                refine lv_topi (fun z_62 ez_62 => ?_)
                have kz_62 := congrArg Int32.toInt ez_62
                refine lv_goto (tgt := 99) hx hb dX9_told_87 (by decide) ?_
                have hP9 := hP.sub (ws' := [(mh, .inr (9, G9 ma mcode mtoday moffs mmany msumW msumA msumR msumWW msumWA msumAA msumWR msumAR mupper mlower mrates mtaped mlaid mat mtk mtkAt mtkNumber mwaits mlisted mdealtMany)), ((ma 34), .inl (E 1, 2, .inl mf34)), ((ma 35), .inl (E 0, 2, .inl mf35)), ((ma 36), .inl (E 0, 384, .inl mf36)), ((ma 37), .inl (E 0, 384, .inl mf37)), ((ma 45), .inl (E 0, 130, .inl w_18)), ((ma 46), .inl (E 0, 24, .inl w_19)), ((ma 47), .inl (E 0, 5, .inl mf47)), ((ma 48), .inl (E 0, 5, .inl mf48)), ((ma 49), .inl (E 0, 5, .inl mf49)), ((ma 51), .inl (E 0, 15, .inl mf51)), ((ma 52), .inl (E 0, 15, .inl mf52)), ((ma 53), .inl (E 0, 15, .inl mf53)), ((ma 54), .inl (E 0, 15, .inl mf54)), ((ma 55), .inl (E 0, 5, .inl mf55)), ((ma 56), .inl (E 0, 200, .inl mf56)), ((ma 57), .inl (E 0, 600, .inl mf57)), ((ma 59), .inl (E 0, 3, .inl w_20)), ((ma 60), .inl (E 0, 3, .inl w_21))]) [1, 2, 3, 4, 5, 6, 7, 8, 9, 10, 11, 12, 13, 14, 0, 15, 16, 17, 18] rfl
                have hD9 := hD.sub (ws' := [(mh, .inr (9, G9 ma mcode mtoday moffs mmany msumW msumA msumR msumWW msumWA msumAA msumWR msumAR mupper mlower mrates mtaped mlaid mat mtk mtkAt mtkNumber mwaits mlisted mdealtMany)), ((ma 34), .inl (E 1, 2, .inl mf34)), ((ma 35), .inl (E 0, 2, .inl mf35)), ((ma 36), .inl (E 0, 384, .inl mf36)), ((ma 37), .inl (E 0, 384, .inl mf37)), ((ma 45), .inl (E 0, 130, .inl w_18)), ((ma 46), .inl (E 0, 24, .inl w_19)), ((ma 47), .inl (E 0, 5, .inl mf47)), ((ma 48), .inl (E 0, 5, .inl mf48)), ((ma 49), .inl (E 0, 5, .inl mf49)), ((ma 51), .inl (E 0, 15, .inl mf51)), ((ma 52), .inl (E 0, 15, .inl mf52)), ((ma 53), .inl (E 0, 15, .inl mf53)), ((ma 54), .inl (E 0, 15, .inl mf54)), ((ma 55), .inl (E 0, 5, .inl mf55)), ((ma 56), .inl (E 0, 200, .inl mf56)), ((ma 57), .inl (E 0, 600, .inl mf57)), ((ma 59), .inl (E 0, 3, .inl w_20)), ((ma 60), .inl (E 0, 3, .inl w_21))]) [1, 2, 3, 4, 5, 6, 7, 8, 9, 10, 11, 12, 13, 14, 0, 15, 16, 17, 18] (by decide) rfl
                exact W.iret (v := z_62) hx hb hr (fun t ht hW => ⟨⟨z_62, (w_18, w_19, w_20, w_21), rfl, trivial, by rw [ht]; exact hP9, hD9⟩, hS.F ht⟩) hS.2.2 dX9_told_99
          ·
            have ic_23 : p2.toInt = 1 := (g_eq rfl t_1).mp c_23
            clear c_23
            refine lv_iload hx hb dX9_told_65 (lv_at hl 0 rfl) ?_
            have hP9 := hP.sub (ws' := [(mh, .inr (9, G9 ma mcode mtoday moffs mmany msumW msumA msumR msumWW msumWA msumAA msumWR msumAR mupper mlower mrates mtaped mlaid mat mtk mtkAt mtkNumber mwaits mlisted mdealtMany)), ((ma 34), .inl (E 1, 2, .inl mf34)), ((ma 35), .inl (E 0, 2, .inl mf35)), ((ma 36), .inl (E 0, 384, .inl mf36)), ((ma 37), .inl (E 0, 384, .inl mf37)), ((ma 45), .inl (E 0, 130, .inl w_18)), ((ma 46), .inl (E 0, 24, .inl w_19)), ((ma 47), .inl (E 0, 5, .inl mf47)), ((ma 48), .inl (E 0, 5, .inl mf48)), ((ma 49), .inl (E 0, 5, .inl mf49)), ((ma 51), .inl (E 0, 15, .inl mf51)), ((ma 52), .inl (E 0, 15, .inl mf52)), ((ma 53), .inl (E 0, 15, .inl mf53)), ((ma 54), .inl (E 0, 15, .inl mf54)), ((ma 55), .inl (E 0, 5, .inl mf55)), ((ma 56), .inl (E 0, 200, .inl mf56)), ((ma 57), .inl (E 0, 600, .inl mf57)), ((ma 59), .inl (E 0, 3, .inl w_20)), ((ma 60), .inl (E 0, 3, .inl w_21))]) [1, 2, 3, 4, 5, 6, 7, 8, 9, 10, 11, 12, 13, 14, 0, 15, 16, 17, 18] rfl
            have hD9 := hD.sub (ws' := [(mh, .inr (9, G9 ma mcode mtoday moffs mmany msumW msumA msumR msumWW msumWA msumAA msumWR msumAR mupper mlower mrates mtaped mlaid mat mtk mtkAt mtkNumber mwaits mlisted mdealtMany)), ((ma 34), .inl (E 1, 2, .inl mf34)), ((ma 35), .inl (E 0, 2, .inl mf35)), ((ma 36), .inl (E 0, 384, .inl mf36)), ((ma 37), .inl (E 0, 384, .inl mf37)), ((ma 45), .inl (E 0, 130, .inl w_18)), ((ma 46), .inl (E 0, 24, .inl w_19)), ((ma 47), .inl (E 0, 5, .inl mf47)), ((ma 48), .inl (E 0, 5, .inl mf48)), ((ma 49), .inl (E 0, 5, .inl mf49)), ((ma 51), .inl (E 0, 15, .inl mf51)), ((ma 52), .inl (E 0, 15, .inl mf52)), ((ma 53), .inl (E 0, 15, .inl mf53)), ((ma 54), .inl (E 0, 15, .inl mf54)), ((ma 55), .inl (E 0, 5, .inl mf55)), ((ma 56), .inl (E 0, 200, .inl mf56)), ((ma 57), .inl (E 0, 600, .inl mf57)), ((ma 59), .inl (E 0, 3, .inl w_20)), ((ma 60), .inl (E 0, 3, .inl w_21))]) [1, 2, 3, 4, 5, 6, 7, 8, 9, 10, 11, 12, 13, 14, 0, 15, 16, 17, 18] (by decide) rfl
            exact W.iret (v := r_15) hx hb hr (fun t ht hW => ⟨⟨r_15, (w_18, w_19, w_20, w_21), rfl, trivial, by rw [ht]; exact hP9, hD9⟩, hS.F ht⟩) hS.2.2 dX9_told_67
        ·
          have ic_22 : p2.toInt = 0 := (g_eq rfl t_0).mp c_22
          clear c_22
          refine lv_aload_n hx hb dX9_told_48 rfl (lv_at hl 1 rfl) ?_
          refine va_get (D := D) (ci := 9) (v := .ref (ma 56)) (C := RX9) (T := TX9) (N := 68) hx hb htb iX9 hown hK.1 hP 1 rfl rfl 56 (by decide) (htb _ k_1014) (fun _ h9 => h9) rfl dX9_told_49 ?_
          refine lv_bipush (v := 40) hx hb dX9_told_52 (by decide) ?_
          refine lv_iload_n hx hb dX9_told_54 rfl (lv_at hl 2 rfl) ?_
          refine lv_imul hx hb dX9_told_55 ?_
          refine lv_topi (fun z_63 ez_63 => ?_)
          have jz_63 : z_63.toInt = 40 * p0.toInt := by rw [ez_63]; exact g_mul t_40 rfl (by omega) (by omega)
          refine lv_iload_n hx hb dX9_told_56 rfl (lv_at hl 3 rfl) ?_
          refine lv_iadd hx hb dX9_told_57 ?_
          refine lv_topi (fun z_64 ez_64 => ?_)
          have jz_64 : z_64.toInt = z_63.toInt + p1.toInt := by rw [ez_64]; exact g_add rfl rfl (by omega) (by omega)
          refine va_iald hx hb hK.1 hP 15 0 rfl rfl (g_in rfl (by omega) (by omega)) dX9_told_58 ?_
          refine lv_topi (fun z_65 ez_65 => ?_)
          have kz_65 := congrArg Int32.toInt ez_65
          have hP9 := hP.sub (ws' := [(mh, .inr (9, G9 ma mcode mtoday moffs mmany msumW msumA msumR msumWW msumWA msumAA msumWR msumAR mupper mlower mrates mtaped mlaid mat mtk mtkAt mtkNumber mwaits mlisted mdealtMany)), ((ma 34), .inl (E 1, 2, .inl mf34)), ((ma 35), .inl (E 0, 2, .inl mf35)), ((ma 36), .inl (E 0, 384, .inl mf36)), ((ma 37), .inl (E 0, 384, .inl mf37)), ((ma 45), .inl (E 0, 130, .inl w_18)), ((ma 46), .inl (E 0, 24, .inl w_19)), ((ma 47), .inl (E 0, 5, .inl mf47)), ((ma 48), .inl (E 0, 5, .inl mf48)), ((ma 49), .inl (E 0, 5, .inl mf49)), ((ma 51), .inl (E 0, 15, .inl mf51)), ((ma 52), .inl (E 0, 15, .inl mf52)), ((ma 53), .inl (E 0, 15, .inl mf53)), ((ma 54), .inl (E 0, 15, .inl mf54)), ((ma 55), .inl (E 0, 5, .inl mf55)), ((ma 56), .inl (E 0, 200, .inl mf56)), ((ma 57), .inl (E 0, 600, .inl mf57)), ((ma 59), .inl (E 0, 3, .inl w_20)), ((ma 60), .inl (E 0, 3, .inl w_21))]) [1, 2, 3, 4, 5, 6, 7, 8, 9, 10, 11, 12, 13, 14, 0, 15, 16, 17, 18] rfl
          have hD9 := hD.sub (ws' := [(mh, .inr (9, G9 ma mcode mtoday moffs mmany msumW msumA msumR msumWW msumWA msumAA msumWR msumAR mupper mlower mrates mtaped mlaid mat mtk mtkAt mtkNumber mwaits mlisted mdealtMany)), ((ma 34), .inl (E 1, 2, .inl mf34)), ((ma 35), .inl (E 0, 2, .inl mf35)), ((ma 36), .inl (E 0, 384, .inl mf36)), ((ma 37), .inl (E 0, 384, .inl mf37)), ((ma 45), .inl (E 0, 130, .inl w_18)), ((ma 46), .inl (E 0, 24, .inl w_19)), ((ma 47), .inl (E 0, 5, .inl mf47)), ((ma 48), .inl (E 0, 5, .inl mf48)), ((ma 49), .inl (E 0, 5, .inl mf49)), ((ma 51), .inl (E 0, 15, .inl mf51)), ((ma 52), .inl (E 0, 15, .inl mf52)), ((ma 53), .inl (E 0, 15, .inl mf53)), ((ma 54), .inl (E 0, 15, .inl mf54)), ((ma 55), .inl (E 0, 5, .inl mf55)), ((ma 56), .inl (E 0, 200, .inl mf56)), ((ma 57), .inl (E 0, 600, .inl mf57)), ((ma 59), .inl (E 0, 3, .inl w_20)), ((ma 60), .inl (E 0, 3, .inl w_21))]) [1, 2, 3, 4, 5, 6, 7, 8, 9, 10, 11, 12, 13, 14, 0, 15, 16, 17, 18] (by decide) rfl
          exact W.iret (v := z_65) hx hb hr (fun t ht hW => ⟨⟨z_65, (w_18, w_19, w_20, w_21), rfl, trivial, by rw [ht]; exact hP9, hD9⟩, hS.F ht⟩) hS.2.2 dX9_told_59
      ·
        try simp only [t_0, t_9] at hw_12
        refine W_top (y := .int 0) (by rw [hr_11]) ?_
        refine lv_if_ne (tgt := 36) hx hb dX9_told_30 (by decide) (fun c_66 => absurd (by decide) c_66) (fun c_66 => ?_)
        refine lv_ldc hx hb hown (htb _ k_1205) dX9_told_33 ?_
        have hP9 := hP.sub (ws' := [(mh, .inr (9, G9 ma mcode mtoday moffs mmany msumW msumA msumR msumWW msumWA msumAA msumWR msumAR mupper mlower mrates mtaped mlaid mat mtk mtkAt mtkNumber mwaits mlisted mdealtMany)), ((ma 34), .inl (E 1, 2, .inl mf34)), ((ma 35), .inl (E 0, 2, .inl mf35)), ((ma 36), .inl (E 0, 384, .inl mf36)), ((ma 37), .inl (E 0, 384, .inl mf37)), ((ma 45), .inl (E 0, 130, .inl mf45)), ((ma 46), .inl (E 0, 24, .inl mf46)), ((ma 47), .inl (E 0, 5, .inl mf47)), ((ma 48), .inl (E 0, 5, .inl mf48)), ((ma 49), .inl (E 0, 5, .inl mf49)), ((ma 51), .inl (E 0, 15, .inl mf51)), ((ma 52), .inl (E 0, 15, .inl mf52)), ((ma 53), .inl (E 0, 15, .inl mf53)), ((ma 54), .inl (E 0, 15, .inl mf54)), ((ma 55), .inl (E 0, 5, .inl mf55)), ((ma 56), .inl (E 0, 200, .inl mf56)), ((ma 57), .inl (E 0, 600, .inl mf57)), ((ma 59), .inl (E 0, 3, .inl mf59)), ((ma 60), .inl (E 0, 3, .inl mf60))]) [0, 1, 2, 3, 4, 5, 6, 7, 8, 9, 10, 11, 12, 13, 14, 15, 16, 17, 18] rfl
        have hD9 := hD.sub (ws' := [(mh, .inr (9, G9 ma mcode mtoday moffs mmany msumW msumA msumR msumWW msumWA msumAA msumWR msumAR mupper mlower mrates mtaped mlaid mat mtk mtkAt mtkNumber mwaits mlisted mdealtMany)), ((ma 34), .inl (E 1, 2, .inl mf34)), ((ma 35), .inl (E 0, 2, .inl mf35)), ((ma 36), .inl (E 0, 384, .inl mf36)), ((ma 37), .inl (E 0, 384, .inl mf37)), ((ma 45), .inl (E 0, 130, .inl mf45)), ((ma 46), .inl (E 0, 24, .inl mf46)), ((ma 47), .inl (E 0, 5, .inl mf47)), ((ma 48), .inl (E 0, 5, .inl mf48)), ((ma 49), .inl (E 0, 5, .inl mf49)), ((ma 51), .inl (E 0, 15, .inl mf51)), ((ma 52), .inl (E 0, 15, .inl mf52)), ((ma 53), .inl (E 0, 15, .inl mf53)), ((ma 54), .inl (E 0, 15, .inl mf54)), ((ma 55), .inl (E 0, 5, .inl mf55)), ((ma 56), .inl (E 0, 200, .inl mf56)), ((ma 57), .inl (E 0, 600, .inl mf57)), ((ma 59), .inl (E 0, 3, .inl mf59)), ((ma 60), .inl (E 0, 3, .inl mf60))]) [0, 1, 2, 3, 4, 5, 6, 7, 8, 9, 10, 11, 12, 13, 14, 15, 16, 17, 18] (by decide) rfl
        exact W.iret (v := (-2000000000)) hx hb hr (fun t ht hW => ⟨⟨(-2000000000), (mf45, mf46, mf59, mf60), rfl, trivial, by rw [ht]; exact hP9, hD9⟩, hS.F ht⟩) hS.2.2 dX9_told_35
    ·
      try simp only [t_0] at hw_8
      refine W_top (y := .int 0) (by rw [hr_7]) ?_
      refine lv_if_eq (tgt := 33) hx hb dX9_told_20 (by decide) (fun c_67 => ?_) (fun c_67 => absurd (by decide) c_67)
      refine lv_ldc hx hb hown (htb _ k_1205) dX9_told_33 ?_
      have hP9 := hP.sub (ws' := [(mh, .inr (9, G9 ma mcode mtoday moffs mmany msumW msumA msumR msumWW msumWA msumAA msumWR msumAR mupper mlower mrates mtaped mlaid mat mtk mtkAt mtkNumber mwaits mlisted mdealtMany)), ((ma 34), .inl (E 1, 2, .inl mf34)), ((ma 35), .inl (E 0, 2, .inl mf35)), ((ma 36), .inl (E 0, 384, .inl mf36)), ((ma 37), .inl (E 0, 384, .inl mf37)), ((ma 45), .inl (E 0, 130, .inl mf45)), ((ma 46), .inl (E 0, 24, .inl mf46)), ((ma 47), .inl (E 0, 5, .inl mf47)), ((ma 48), .inl (E 0, 5, .inl mf48)), ((ma 49), .inl (E 0, 5, .inl mf49)), ((ma 51), .inl (E 0, 15, .inl mf51)), ((ma 52), .inl (E 0, 15, .inl mf52)), ((ma 53), .inl (E 0, 15, .inl mf53)), ((ma 54), .inl (E 0, 15, .inl mf54)), ((ma 55), .inl (E 0, 5, .inl mf55)), ((ma 56), .inl (E 0, 200, .inl mf56)), ((ma 57), .inl (E 0, 600, .inl mf57)), ((ma 59), .inl (E 0, 3, .inl mf59)), ((ma 60), .inl (E 0, 3, .inl mf60))]) [0, 1, 2, 3, 4, 5, 6, 7, 8, 9, 10, 11, 12, 13, 14, 15, 16, 17, 18] rfl
      have hD9 := hD.sub (ws' := [(mh, .inr (9, G9 ma mcode mtoday moffs mmany msumW msumA msumR msumWW msumWA msumAA msumWR msumAR mupper mlower mrates mtaped mlaid mat mtk mtkAt mtkNumber mwaits mlisted mdealtMany)), ((ma 34), .inl (E 1, 2, .inl mf34)), ((ma 35), .inl (E 0, 2, .inl mf35)), ((ma 36), .inl (E 0, 384, .inl mf36)), ((ma 37), .inl (E 0, 384, .inl mf37)), ((ma 45), .inl (E 0, 130, .inl mf45)), ((ma 46), .inl (E 0, 24, .inl mf46)), ((ma 47), .inl (E 0, 5, .inl mf47)), ((ma 48), .inl (E 0, 5, .inl mf48)), ((ma 49), .inl (E 0, 5, .inl mf49)), ((ma 51), .inl (E 0, 15, .inl mf51)), ((ma 52), .inl (E 0, 15, .inl mf52)), ((ma 53), .inl (E 0, 15, .inl mf53)), ((ma 54), .inl (E 0, 15, .inl mf54)), ((ma 55), .inl (E 0, 5, .inl mf55)), ((ma 56), .inl (E 0, 200, .inl mf56)), ((ma 57), .inl (E 0, 600, .inl mf57)), ((ma 59), .inl (E 0, 3, .inl mf59)), ((ma 60), .inl (E 0, 3, .inl mf60))]) [0, 1, 2, 3, 4, 5, 6, 7, 8, 9, 10, 11, 12, 13, 14, 15, 16, 17, 18] (by decide) rfl
      exact W.iret (v := (-2000000000)) hx hb hr (fun t ht hW => ⟨⟨(-2000000000), (mf45, mf46, mf59, mf60), rfl, trivial, by rw [ht]; exact hP9, hD9⟩, hS.F ht⟩) hS.2.2 dX9_told_35
  ·
    refine W_top (y := .int 0) (by rw [hr_1]) ?_
    refine lv_if_eq (tgt := 33) hx hb dX9_told_4 (by decide) (fun c_68 => ?_) (fun c_68 => absurd (by decide) c_68)
    refine lv_ldc hx hb hown (htb _ k_1205) dX9_told_33 ?_
    have hP9 := hP.sub (ws' := [(mh, .inr (9, G9 ma mcode mtoday moffs mmany msumW msumA msumR msumWW msumWA msumAA msumWR msumAR mupper mlower mrates mtaped mlaid mat mtk mtkAt mtkNumber mwaits mlisted mdealtMany)), ((ma 34), .inl (E 1, 2, .inl mf34)), ((ma 35), .inl (E 0, 2, .inl mf35)), ((ma 36), .inl (E 0, 384, .inl mf36)), ((ma 37), .inl (E 0, 384, .inl mf37)), ((ma 45), .inl (E 0, 130, .inl mf45)), ((ma 46), .inl (E 0, 24, .inl mf46)), ((ma 47), .inl (E 0, 5, .inl mf47)), ((ma 48), .inl (E 0, 5, .inl mf48)), ((ma 49), .inl (E 0, 5, .inl mf49)), ((ma 51), .inl (E 0, 15, .inl mf51)), ((ma 52), .inl (E 0, 15, .inl mf52)), ((ma 53), .inl (E 0, 15, .inl mf53)), ((ma 54), .inl (E 0, 15, .inl mf54)), ((ma 55), .inl (E 0, 5, .inl mf55)), ((ma 56), .inl (E 0, 200, .inl mf56)), ((ma 57), .inl (E 0, 600, .inl mf57)), ((ma 59), .inl (E 0, 3, .inl mf59)), ((ma 60), .inl (E 0, 3, .inl mf60))]) [0, 1, 2, 3, 4, 5, 6, 7, 8, 9, 10, 11, 12, 13, 14, 15, 16, 17, 18] rfl
    have hD9 := hD.sub (ws' := [(mh, .inr (9, G9 ma mcode mtoday moffs mmany msumW msumA msumR msumWW msumWA msumAA msumWR msumAR mupper mlower mrates mtaped mlaid mat mtk mtkAt mtkNumber mwaits mlisted mdealtMany)), ((ma 34), .inl (E 1, 2, .inl mf34)), ((ma 35), .inl (E 0, 2, .inl mf35)), ((ma 36), .inl (E 0, 384, .inl mf36)), ((ma 37), .inl (E 0, 384, .inl mf37)), ((ma 45), .inl (E 0, 130, .inl mf45)), ((ma 46), .inl (E 0, 24, .inl mf46)), ((ma 47), .inl (E 0, 5, .inl mf47)), ((ma 48), .inl (E 0, 5, .inl mf48)), ((ma 49), .inl (E 0, 5, .inl mf49)), ((ma 51), .inl (E 0, 15, .inl mf51)), ((ma 52), .inl (E 0, 15, .inl mf52)), ((ma 53), .inl (E 0, 15, .inl mf53)), ((ma 54), .inl (E 0, 15, .inl mf54)), ((ma 55), .inl (E 0, 5, .inl mf55)), ((ma 56), .inl (E 0, 200, .inl mf56)), ((ma 57), .inl (E 0, 600, .inl mf57)), ((ma 59), .inl (E 0, 3, .inl mf59)), ((ma 60), .inl (E 0, 3, .inl mf60))]) [0, 1, 2, 3, 4, 5, 6, 7, 8, 9, 10, 11, 12, 13, 14, 15, 16, 17, 18] (by decide) rfl
    exact W.iret (v := (-2000000000)) hx hb hr (fun t ht hW => ⟨⟨(-2000000000), (mf45, mf46, mf59, mf60), rfl, trivial, by rw [ht]; exact hP9, hD9⟩, hS.F ht⟩) hS.2.2 dX9_told_35
