set_option maxHeartbeats 4000000 in
set_option maxRecDepth 100000 in
theorem g_X9_work (l : Launch) (D : va_G) (E : Nat → Nat) (mh : Nat) (ma : Nat → Nat) (mcode : Int32) (mtoday : Int32) (moffs : Int32) (mmany : Int64) (msumW : Int64) (msumA : Int64) (msumR : Int64) (msumWW : Int64) (msumWA : Int64) (msumAA : Int64) (msumWR : Int64) (msumAR : Int64) (mupper : Int64) (mlower : Int64) (mrates : Int32) (mtaped : Int32) (mlaid : Int32) (mat : Int32) (mtk : Int32) (mtkAt : Int32) (mtkNumber : Int32) (mwaits : Int32) (mlisted : Int32) (mdealtMany : Int32) (mf34 : Nat → Int32) (mf35 : Nat → Int32) (mf36 : Nat → Int32) (mf37 : Nat → Int32) (mf45 : Nat → Int32) (mf46 : Nat → Int32) (mf47 : Nat → Int32) (mf48 : Nat → Int32) (mf49 : Nat → Int32) (mf51 : Nat → Int32) (mf52 : Nat → Int32) (mf53 : Nat → Int32) (mf54 : Nat → Int32) (mf56 : Nat → Int32) (mf57 : Nat → Int32) (mf59 : Nat → Int32) (mf60 : Nat → Int32) (p0 : Int32) (p1 : Int32) (sz : Nat) (hi_m : (0 ≤ mtoday.toInt ∧ mtoday.toInt ≤ 399) ∧ (0 ≤ moffs.toInt ∧ moffs.toInt ≤ 60) ∧ (0 ≤ mrates.toInt ∧ mrates.toInt ≤ 60) ∧ (0 ≤ mtaped.toInt ∧ mtaped.toInt ≤ 120) ∧ (0 ≤ mlisted.toInt ∧ mlisted.toInt ≤ 9) ∧ (0 ≤ mdealtMany.toInt ∧ mdealtMany.toInt ≤ 9)) (hr_m35 : ∀ k : Nat, k < 2 → 0 ≤ (mf35 k).toInt ∧ (mf35 k).toInt ≤ 127) (g0 : 0 ≤ p0.toInt ∧ p0.toInt ≤ 4 ∧ 0 ≤ p1.toInt ∧ p1.toInt ≤ 39) (j49 : J49 mf47 mf49) (hjw : JW mf36 mf35) : Met l yX9_work (wl yX9_work cX9_work 11 (some .int)) (RM 2 0 0) (mu_P D E [.ref mh, .int p0, .int p1] [(mh, .inr (9, G9 ma mcode mtoday moffs mmany msumW msumA msumR msumWW msumWA msumAA msumWR msumAR mupper mlower mrates mtaped mlaid mat mtk mtkAt mtkNumber mwaits mlisted mdealtMany)), ((ma 34), .inl (E 1, 2, .inl mf34)), ((ma 35), .inl (E 0, 2, .inl mf35)), ((ma 36), .inl (E 0, 384, .inl mf36)), ((ma 37), .inl (E 0, 384, .inl mf37)), ((ma 45), .inl (E 0, 130, .inl mf45)), ((ma 46), .inl (E 0, 24, .inl mf46)), ((ma 47), .inl (E 0, 5, .inl mf47)), ((ma 48), .inl (E 0, 5, .inl mf48)), ((ma 49), .inl (E 0, 5, .inl mf49)), ((ma 51), .inl (E 0, 15, .inl mf51)), ((ma 52), .inl (E 0, 15, .inl mf52)), ((ma 53), .inl (E 0, 15, .inl mf53)), ((ma 54), .inl (E 0, 15, .inl mf54)), ((ma 56), .inl (E 0, 200, .inl mf56)), ((ma 57), .inl (E 0, 600, .inl mf57)), ((ma 59), .inl (E 0, 3, .inl mf59)), ((ma 60), .inl (E 0, 3, .inl mf60))] sz) (va_Qi (fun (r : Int32) (u : (Nat → Int32) × (Nat → Int32) × (Nat → Int32) × (Nat → Int32)) => (((mf47 (p0).toNatClampNeg).toInt = 2 → 0 < (mf49 (p0).toNatClampNeg).toInt) → ∀ k : Nat, (k : Int) < 3 → u.2.2.1 k = tmM (mf47 (p0).toNatClampNeg) (mf49 (p0).toNatClampNeg) (mf48 (p0).toNatClampNeg) mf51 mf52 mf54 mf56 mf57 (p0).toNatClampNeg (p1).toNatClampNeg k ∧ u.2.2.2 k = wdM (mf47 (p0).toNatClampNeg) (mf49 (p0).toNatClampNeg) (mf48 (p0).toNatClampNeg) mf53 mf56 (p0).toNatClampNeg (p1).toNatClampNeg k) ∧ (((mf47 (p0).toNatClampNeg).toInt = 2 → 0 < (mf49 (p0).toNatClampNeg).toInt) → DRM (fun k => tmM (mf47 (p0).toNatClampNeg) (mf49 (p0).toNatClampNeg) (mf48 (p0).toNatClampNeg) mf51 mf52 mf54 mf56 mf57 (p0).toNatClampNeg (p1).toNatClampNeg k) (fun k => mf53 (3 * (p0).toNatClampNeg + k)) (mf56 (40 * (p0).toNatClampNeg + (p1).toNatClampNeg) - mf48 (p0).toNatClampNeg) (mf34 1) mf36 mf37 (mf35 1) r.toInt)) (mu_B D (va_A [(mh, .inr (9, G9 ma mcode mtoday moffs mmany msumW msumA msumR msumWW msumWA msumAA msumWR msumAR mupper mlower mrates mtaped mlaid mat mtk mtkAt mtkNumber mwaits mlisted mdealtMany)), ((ma 34), .inl (E 1, 2, .inl mf34)), ((ma 35), .inl (E 0, 2, .inl mf35)), ((ma 36), .inl (E 0, 384, .inl mf36)), ((ma 37), .inl (E 0, 384, .inl mf37)), ((ma 45), .inl (E 0, 130, .inl mf45)), ((ma 46), .inl (E 0, 24, .inl mf46)), ((ma 47), .inl (E 0, 5, .inl mf47)), ((ma 48), .inl (E 0, 5, .inl mf48)), ((ma 49), .inl (E 0, 5, .inl mf49)), ((ma 51), .inl (E 0, 15, .inl mf51)), ((ma 52), .inl (E 0, 15, .inl mf52)), ((ma 53), .inl (E 0, 15, .inl mf53)), ((ma 54), .inl (E 0, 15, .inl mf54)), ((ma 56), .inl (E 0, 200, .inl mf56)), ((ma 57), .inl (E 0, 600, .inl mf57)), ((ma 59), .inl (E 0, 3, .inl mf59)), ((ma 60), .inl (E 0, 3, .inl mf60))] sz) (fun (u : (Nat → Int32) × (Nat → Int32) × (Nat → Int32) × (Nat → Int32)) => [(mh, .inr (9, G9 ma mcode mtoday moffs mmany msumW msumA msumR msumWW msumWA msumAA msumWR msumAR mupper mlower mrates mtaped mlaid mat mtk mtkAt mtkNumber mwaits mlisted mdealtMany)), ((ma 34), .inl (E 1, 2, .inl mf34)), ((ma 35), .inl (E 0, 2, .inl mf35)), ((ma 36), .inl (E 0, 384, .inl mf36)), ((ma 37), .inl (E 0, 384, .inl mf37)), ((ma 45), .inl (E 0, 130, .inl u.1)), ((ma 46), .inl (E 0, 24, .inl u.2.1)), ((ma 47), .inl (E 0, 5, .inl mf47)), ((ma 48), .inl (E 0, 5, .inl mf48)), ((ma 49), .inl (E 0, 5, .inl mf49)), ((ma 51), .inl (E 0, 15, .inl mf51)), ((ma 52), .inl (E 0, 15, .inl mf52)), ((ma 53), .inl (E 0, 15, .inl mf53)), ((ma 54), .inl (E 0, 15, .inl mf54)), ((ma 56), .inl (E 0, 200, .inl mf56)), ((ma 57), .inl (E 0, 600, .inl mf57)), ((ma 59), .inl (E 0, 3, .inl u.2.2.1)), ((ma 60), .inl (E 0, 3, .inl u.2.2.2))])) (va_A [(mh, .inr (9, G9 ma mcode mtoday moffs mmany msumW msumA msumR msumWW msumWA msumAA msumWR msumAR mupper mlower mrates mtaped mlaid mat mtk mtkAt mtkNumber mwaits mlisted mdealtMany)), ((ma 34), .inl (E 1, 2, .inl mf34)), ((ma 35), .inl (E 0, 2, .inl mf35)), ((ma 36), .inl (E 0, 384, .inl mf36)), ((ma 37), .inl (E 0, 384, .inl mf37)), ((ma 45), .inl (E 0, 130, .inl mf45)), ((ma 46), .inl (E 0, 24, .inl mf46)), ((ma 47), .inl (E 0, 5, .inl mf47)), ((ma 48), .inl (E 0, 5, .inl mf48)), ((ma 49), .inl (E 0, 5, .inl mf49)), ((ma 51), .inl (E 0, 15, .inl mf51)), ((ma 52), .inl (E 0, 15, .inl mf52)), ((ma 53), .inl (E 0, 15, .inl mf53)), ((ma 54), .inl (E 0, 15, .inl mf54)), ((ma 56), .inl (E 0, 200, .inl mf56)), ((ma 57), .inl (E 0, 600, .inl mf57)), ((ma 59), .inl (E 0, 3, .inl mf59)), ((ma 60), .inl (E 0, 3, .inl mf60))] sz)) 0 0 (va_A [(mh, .inr (9, G9 ma mcode mtoday moffs mmany msumW msumA msumR msumWW msumWA msumAA msumWR msumAR mupper mlower mrates mtaped mlaid mat mtk mtkAt mtkNumber mwaits mlisted mdealtMany)), ((ma 34), .inl (E 1, 2, .inl mf34)), ((ma 35), .inl (E 0, 2, .inl mf35)), ((ma 36), .inl (E 0, 384, .inl mf36)), ((ma 37), .inl (E 0, 384, .inl mf37)), ((ma 45), .inl (E 0, 130, .inl mf45)), ((ma 46), .inl (E 0, 24, .inl mf46)), ((ma 47), .inl (E 0, 5, .inl mf47)), ((ma 48), .inl (E 0, 5, .inl mf48)), ((ma 49), .inl (E 0, 5, .inl mf49)), ((ma 51), .inl (E 0, 15, .inl mf51)), ((ma 52), .inl (E 0, 15, .inl mf52)), ((ma 53), .inl (E 0, 15, .inl mf53)), ((ma 54), .inl (E 0, 15, .inl mf54)), ((ma 56), .inl (E 0, 200, .inl mf56)), ((ma 57), .inl (E 0, 600, .inl mf57)), ((ma 59), .inl (E 0, 3, .inl mf59)), ((ma 60), .inl (E 0, 3, .inl mf60))] sz) := by
  refine Met.ofW (cc := cX9_work) (maxL := 11) (ret := (some .int)) (by decide) rfl ?_
  intro p e s m args below meth c s₁ B hml hv
  obtain ⟨rfl, hsz, hP, hK, hD0⟩ := hv
  have hx := B.exec; have hb := B.bytes; have hr := B.returns
  have hts := atoms_spec (ws := wl yX9_work cX9_work 11 (some .int)) B.pre
  have htb : ∀ w ∈ tb, w.before _ s = true := fun w h => hts w (List.mem_cons_of_mem _ h)
  have hown : s.vm.findClass RX9 = some m.cls := findClass_of_methodNamed B.named
  have hlocks := B.notSynchronized
  subst hsz
  have hD := hD0.self (sz := s.heap.size)
  generalize hAe : va_A [(mh, .inr (9, G9 ma mcode mtoday moffs mmany msumW msumA msumR msumWW msumWA msumAA msumWR msumAR mupper mlower mrates mtaped mlaid mat mtk mtkAt mtkNumber mwaits mlisted mdealtMany)), ((ma 34), .inl (E 1, 2, .inl mf34)), ((ma 35), .inl (E 0, 2, .inl mf35)), ((ma 36), .inl (E 0, 384, .inl mf36)), ((ma 37), .inl (E 0, 384, .inl mf37)), ((ma 45), .inl (E 0, 130, .inl mf45)), ((ma 46), .inl (E 0, 24, .inl mf46)), ((ma 47), .inl (E 0, 5, .inl mf47)), ((ma 48), .inl (E 0, 5, .inl mf48)), ((ma 49), .inl (E 0, 5, .inl mf49)), ((ma 51), .inl (E 0, 15, .inl mf51)), ((ma 52), .inl (E 0, 15, .inl mf52)), ((ma 53), .inl (E 0, 15, .inl mf53)), ((ma 54), .inl (E 0, 15, .inl mf54)), ((ma 56), .inl (E 0, 200, .inl mf56)), ((ma 57), .inl (E 0, 600, .inl mf57)), ((ma 59), .inl (E 0, 3, .inl mf59)), ((ma 60), .inl (E 0, 3, .inl mf60))] s.heap.size = A at hD ⊢
  have hA : ∀ q : Nat, s.heap.size ≤ q → A q := fun q h => by rw [← hAe]; exact Or.inr h
  have hS : va_S A s.heap s.heap [] := va_S.rf
  have hP : va_P D vwCl [(mh, .inr (9, G9 ma mcode mtoday moffs mmany msumW msumA msumR msumWW msumWA msumAA msumWR msumAR mupper mlower mrates mtaped mlaid mat mtk mtkAt mtkNumber mwaits mlisted mdealtMany)), ((ma 34), .inl (E 1, 2, .inl mf34)), ((ma 35), .inl (E 0, 2, .inl mf35)), ((ma 36), .inl (E 0, 384, .inl mf36)), ((ma 37), .inl (E 0, 384, .inl mf37)), ((ma 45), .inl (E 0, 130, .inl mf45)), ((ma 46), .inl (E 0, 24, .inl mf46)), ((ma 47), .inl (E 0, 5, .inl mf47)), ((ma 48), .inl (E 0, 5, .inl mf48)), ((ma 49), .inl (E 0, 5, .inl mf49)), ((ma 51), .inl (E 0, 15, .inl mf51)), ((ma 52), .inl (E 0, 15, .inl mf52)), ((ma 53), .inl (E 0, 15, .inl mf53)), ((ma 54), .inl (E 0, 15, .inl mf54)), ((ma 56), .inl (E 0, 200, .inl mf56)), ((ma 57), .inl (E 0, 600, .inl mf57)), ((ma 59), .inl (E 0, 3, .inl mf59)), ((ma 60), .inl (E 0, 3, .inl mf60))] s.heap := hP
  have hl := lv_entry ([.ref mh, .int p0, .int p1]) (n := 11) (Nat.le_of_ble_eq_true rfl)
  rw [lg_entry_eq]
  generalize (lg_sl ([.ref mh, .int p0, .int p1]) ++ List.replicate (11 - (lg_sl ([.ref mh, .int p0, .int p1])).length) Slot.unset).toArray = ls at hl ⊢
  have hl : lv_has ls 11 [(0, .ref mh), (1, .int p0), (2, .int p1)] := hl
  have lo_p0 := i_lo p0; have hi_p0 := i_hi p0
  have lo_p1 := i_lo p1; have hi_p1 := i_hi p1
  refine lv_aload_n hx hb dX9_work_0 rfl (lv_at hl 0 rfl) ?_
  refine va_get (D := D) (ci := 9) (v := .ref (ma 56)) (C := RX9) (T := TX9) (N := 68) hx hb htb iX9 hown hK.1 hP 0 rfl rfl 56 (by decide) (htb _ k_1014) (fun _ h9 => h9) rfl dX9_work_1 ?_
  refine lv_bipush (v := 40) hx hb dX9_work_4 (by decide) ?_
  refine lv_iload_n hx hb dX9_work_6 rfl (lv_at hl 1 rfl) ?_
  refine lv_imul hx hb dX9_work_7 ?_
  refine lv_topi (fun z_1 ez_1 => ?_)
  have jz_1 : z_1.toInt = 40 * p0.toInt := by rw [ez_1]; exact g_mul t_40 rfl (by omega) (by omega)
  refine lv_iload_n hx hb dX9_work_8 rfl (lv_at hl 2 rfl) ?_
  refine lv_iadd hx hb dX9_work_9 ?_
  refine lv_topi (fun z_2 ez_2 => ?_)
  have jz_2 : z_2.toInt = z_1.toInt + p1.toInt := by rw [ez_2]; exact g_add rfl rfl (by omega) (by omega)
  refine va_iald hx hb hK.1 hP 14 0 rfl rfl (g_in rfl (by omega) (by omega)) dX9_work_10 ?_
  refine lv_topi (fun z_3 ez_3 => ?_)
  have kz_3 := congrArg Int32.toInt ez_3
  refine lv_aload_n hx hb dX9_work_11 rfl (lv_at hl 0 rfl) ?_
  refine va_get (D := D) (ci := 9) (v := .ref (ma 48)) (C := RX9) (T := TX9) (N := 68) hx hb htb iX9 hown hK.1 hP 0 rfl rfl 48 (by decide) (htb _ k_1006) (fun _ h9 => h9) rfl dX9_work_12 ?_
  refine lv_iload_n hx hb dX9_work_15 rfl (lv_at hl 1 rfl) ?_
  refine va_iald hx hb hK.1 hP 8 0 rfl rfl (g_in rfl (by omega) (by omega)) dX9_work_16 ?_
  refine lv_topi (fun z_4 ez_4 => ?_)
  have kz_4 := congrArg Int32.toInt ez_4
  refine lv_isub hx hb dX9_work_17 ?_
  refine lv_topi (fun z_5 ez_5 => ?_)
  refine lv_istore_n (lv' := [(3, .int z_5), (0, .ref mh), (1, .int p0), (2, .int p1)]) hx hb dX9_work_18 rfl hl (by decide) rfl (fun ls hl => ?_)
  refine lv_aload_n hx hb dX9_work_19 rfl (lv_at hl 1 rfl) ?_
  refine va_get (D := D) (ci := 9) (v := .ref (ma 47)) (C := RX9) (T := TX9) (N := 68) hx hb htb iX9 hown hK.1 hP 0 rfl rfl 47 (by decide) (htb _ k_1005) (fun _ h9 => h9) rfl dX9_work_20 ?_
  refine lv_iload_n hx hb dX9_work_23 rfl (lv_at hl 2 rfl) ?_
  refine va_iald hx hb hK.1 hP 7 0 rfl rfl (g_in rfl (by omega) (by omega)) dX9_work_24 ?_
  refine lv_topi (fun z_6 ez_6 => ?_)
  have kz_6 := congrArg Int32.toInt ez_6
  refine lv_iconst (v := 2) hx hb dX9_work_25 (by decide) ?_
  refine lv_icmp_ne (tgt := 33) hx hb dX9_work_26 (by decide) (fun c_7 => ?_) (fun c_7 => ?_)
  ·
    have ic_7 : z_6.toInt ≠ 2 := mt (g_eq rfl t_2).mpr c_7
    clear c_7
    refine lv_iconst (v := 0) hx hb dX9_work_33 (by decide) ?_
    refine lv_istore (lv' := [(4, .int 0), (3, .int z_5), (0, .ref mh), (1, .int p0), (2, .int p1)]) hx hb dX9_work_34 hl (by decide) rfl (fun ls hl => ?_)
    refine lv_iconst (v := 0) hx hb dX9_work_36 (by decide) ?_
    refine lv_istore (lv' := [(5, .int 0), (4, .int 0), (3, .int z_5), (0, .ref mh), (1, .int p0), (2, .int p1)]) hx hb dX9_work_37 hl (by decide) rfl (fun ls hl => ?_)
    have loop_8 : ∀ (N_10 : Nat) (L5_39 : Int32) (mf59_39 : Nat → Int32) (mf60_39 : Nat → Int32) (H : Heap) (locs : List Loc) (ls : Array Slot), 3 - L5_39.toInt < (N_10 : Int) → (0 ≤ L5_39.toInt ∧ L5_39.toInt ≤ 3) → (((mf47 (p0).toNatClampNeg).toInt = 2 → 0 < (mf49 (p0).toNatClampNeg).toInt) → ∀ k : Nat, (k : Int) < L5_39.toInt → mf59_39 k = tmM (mf47 (p0).toNatClampNeg) (mf49 (p0).toNatClampNeg) (mf48 (p0).toNatClampNeg) mf51 mf52 mf54 mf56 mf57 (p0).toNatClampNeg (p1).toNatClampNeg k ∧ mf60_39 k = wdM (mf47 (p0).toNatClampNeg) (mf49 (p0).toNatClampNeg) (mf48 (p0).toNatClampNeg) mf53 mf56 (p0).toNatClampNeg (p1).toNatClampNeg k) → va_P D vwCl [(mh, .inr (9, G9 ma mcode mtoday moffs mmany msumW msumA msumR msumWW msumWA msumAA msumWR msumAR mupper mlower mrates mtaped mlaid mat mtk mtkAt mtkNumber mwaits mlisted mdealtMany)), ((ma 34), .inl (E 1, 2, .inl mf34)), ((ma 35), .inl (E 0, 2, .inl mf35)), ((ma 36), .inl (E 0, 384, .inl mf36)), ((ma 37), .inl (E 0, 384, .inl mf37)), ((ma 45), .inl (E 0, 130, .inl mf45)), ((ma 46), .inl (E 0, 24, .inl mf46)), ((ma 47), .inl (E 0, 5, .inl mf47)), ((ma 48), .inl (E 0, 5, .inl mf48)), ((ma 49), .inl (E 0, 5, .inl mf49)), ((ma 51), .inl (E 0, 15, .inl mf51)), ((ma 52), .inl (E 0, 15, .inl mf52)), ((ma 53), .inl (E 0, 15, .inl mf53)), ((ma 54), .inl (E 0, 15, .inl mf54)), ((ma 56), .inl (E 0, 200, .inl mf56)), ((ma 57), .inl (E 0, 600, .inl mf57)), ((ma 59), .inl (E 0, 3, .inl mf59_39)), ((ma 60), .inl (E 0, 3, .inl mf60_39))] H → va_D A [(mh, .inr (9, G9 ma mcode mtoday moffs mmany msumW msumA msumR msumWW msumWA msumAA msumWR msumAR mupper mlower mrates mtaped mlaid mat mtk mtkAt mtkNumber mwaits mlisted mdealtMany)), ((ma 34), .inl (E 1, 2, .inl mf34)), ((ma 35), .inl (E 0, 2, .inl mf35)), ((ma 36), .inl (E 0, 384, .inl mf36)), ((ma 37), .inl (E 0, 384, .inl mf37)), ((ma 45), .inl (E 0, 130, .inl mf45)), ((ma 46), .inl (E 0, 24, .inl mf46)), ((ma 47), .inl (E 0, 5, .inl mf47)), ((ma 48), .inl (E 0, 5, .inl mf48)), ((ma 49), .inl (E 0, 5, .inl mf49)), ((ma 51), .inl (E 0, 15, .inl mf51)), ((ma 52), .inl (E 0, 15, .inl mf52)), ((ma 53), .inl (E 0, 15, .inl mf53)), ((ma 54), .inl (E 0, 15, .inl mf54)), ((ma 56), .inl (E 0, 200, .inl mf56)), ((ma 57), .inl (E 0, 600, .inl mf57)), ((ma 59), .inl (E 0, 3, .inl mf59_39)), ((ma 60), .inl (E 0, 3, .inl mf60_39))] → va_S A s.heap H locs → lv_has ls 11 [(5, .int L5_39), (4, .int 0), (3, .int z_5), (0, .ref mh), (1, .int p0), (2, .int p1)] → W p l e (headSpec (wl yX9_work cX9_work 11 (some .int)) (RM 2 0 0)).room s m [Value.ref mh, .int p0, .int p1].toArray below meth c H locs 0 0 (MQ below (va_Qi (fun (r : Int32) (u : (Nat → Int32) × (Nat → Int32) × (Nat → Int32) × (Nat → Int32)) => (((mf47 (p0).toNatClampNeg).toInt = 2 → 0 < (mf49 (p0).toNatClampNeg).toInt) → ∀ k : Nat, (k : Int) < 3 → u.2.2.1 k = tmM (mf47 (p0).toNatClampNeg) (mf49 (p0).toNatClampNeg) (mf48 (p0).toNatClampNeg) mf51 mf52 mf54 mf56 mf57 (p0).toNatClampNeg (p1).toNatClampNeg k ∧ u.2.2.2 k = wdM (mf47 (p0).toNatClampNeg) (mf49 (p0).toNatClampNeg) (mf48 (p0).toNatClampNeg) mf53 mf56 (p0).toNatClampNeg (p1).toNatClampNeg k) ∧ (((mf47 (p0).toNatClampNeg).toInt = 2 → 0 < (mf49 (p0).toNatClampNeg).toInt) → DRM (fun k => tmM (mf47 (p0).toNatClampNeg) (mf49 (p0).toNatClampNeg) (mf48 (p0).toNatClampNeg) mf51 mf52 mf54 mf56 mf57 (p0).toNatClampNeg (p1).toNatClampNeg k) (fun k => mf53 (3 * (p0).toNatClampNeg + k)) (mf56 (40 * (p0).toNatClampNeg + (p1).toNatClampNeg) - mf48 (p0).toNatClampNeg) (mf34 1) mf36 mf37 (mf35 1) r.toInt)) (mu_B D A (fun (u : (Nat → Int32) × (Nat → Int32) × (Nat → Int32) × (Nat → Int32)) => [(mh, .inr (9, G9 ma mcode mtoday moffs mmany msumW msumA msumR msumWW msumWA msumAA msumWR msumAR mupper mlower mrates mtaped mlaid mat mtk mtkAt mtkNumber mwaits mlisted mdealtMany)), ((ma 34), .inl (E 1, 2, .inl mf34)), ((ma 35), .inl (E 0, 2, .inl mf35)), ((ma 36), .inl (E 0, 384, .inl mf36)), ((ma 37), .inl (E 0, 384, .inl mf37)), ((ma 45), .inl (E 0, 130, .inl u.1)), ((ma 46), .inl (E 0, 24, .inl u.2.1)), ((ma 47), .inl (E 0, 5, .inl mf47)), ((ma 48), .inl (E 0, 5, .inl mf48)), ((ma 49), .inl (E 0, 5, .inl mf49)), ((ma 51), .inl (E 0, 15, .inl mf51)), ((ma 52), .inl (E 0, 15, .inl mf52)), ((ma 53), .inl (E 0, 15, .inl mf53)), ((ma 54), .inl (E 0, 15, .inl mf54)), ((ma 56), .inl (E 0, 200, .inl mf56)), ((ma 57), .inl (E 0, 600, .inl mf57)), ((ma 59), .inl (E 0, 3, .inl u.2.2.1)), ((ma 60), .inl (E 0, 3, .inl u.2.2.2))])) A) [Value.ref mh, .int p0, .int p1].toArray s 0 0 A) (F0 m 39 ls []) := by
      intro N_10
      induction N_10 with
      | zero => intro L5_39 mf59_39 mf60_39 H locs ls hm v0_39 v1_39 _ _ _ _; exfalso; omega
      | succ N_10 ih_9 =>
        intro L5_39 mf59_39 mf60_39 H locs ls hm v0_39 v1_39 hP hD hS hl
        have lo_L5_39 := i_lo L5_39; have hi_L5_39 := i_hi L5_39
        refine lv_iload hx hb dX9_work_39 (lv_at hl 0 rfl) ?_
        refine lv_iconst (v := 3) hx hb dX9_work_41 (by decide) ?_
        refine lv_icmp_ge (tgt := 192) hx hb dX9_work_42 (by decide) (fun c_11 => ?_) (fun c_11 => ?_)
        ·
          have ic_11 : 3 ≤ L5_39.toInt := by first | exact (g_le t_3 rfl).mp c_11 | (have h := mt (g_lt rfl t_3).mpr c_11; omega)
          clear c_11
          refine lv_aload_n hx hb dX9_work_192 rfl (lv_at hl 3 rfl) ?_
          refine va_get (D := D) (ci := 9) (v := .ref (ma 34)) (C := RX9) (T := TX9) (N := 68) hx hb htb iX9 hown hK.1 hP 0 rfl rfl 34 (by decide) (htb _ k_992) (fun _ h9 => h9) rfl dX9_work_193 ?_
          refine lv_iconst (v := 1) hx hb dX9_work_196 (by decide) ?_
          refine va_zald hx hb hK.1 hP 1 1 rfl rfl (g_in t_1 (by decide) (by decide)) dX9_work_197 ?_
          refine lv_topi (fun z_12 ez_12 => ?_)
          have kz_12 := congrArg Int32.toInt ez_12
          refine lv_if_ne (tgt := 203) hx hb dX9_work_198 (by decide) (fun c_13 => ?_) (fun c_13 => ?_)
          ·
            have ic_13 : z_12.toInt ≠ 0 := mt (g_eq rfl t_0).mpr c_13
            clear c_13
            refine lv_iconst (v := (-1)) hx hb dX9_work_203 (by decide) ?_
            refine lv_istore (lv' := [(5, .int (-1)), (4, .int 0), (3, .int z_5), (0, .ref mh), (1, .int p0), (2, .int p1)]) hx hb dX9_work_204 hl (by decide) rfl (fun ls hl => ?_)
            refine lv_iconst (v := 0) hx hb dX9_work_206 (by decide) ?_
            refine lv_istore (lv' := [(6, .int 0), (5, .int (-1)), (4, .int 0), (3, .int z_5), (0, .ref mh), (1, .int p0), (2, .int p1)]) hx hb dX9_work_207 hl (by decide) rfl (fun ls hl => ?_)
            refine lv_iconst (v := 0) hx hb dX9_work_209 (by decide) ?_
            refine lv_istore (lv' := [(7, .int 0), (6, .int 0), (5, .int (-1)), (4, .int 0), (3, .int z_5), (0, .ref mh), (1, .int p0), (2, .int p1)]) hx hb dX9_work_210 hl (by decide) rfl (fun ls hl => ?_)
            have loop_14 : ∀ (N_16 : Nat) (L7_212 : Int32) (L6_212 : Int32) (L5_212 : Int32) (mf45_212 : Nat → Int32) (mf46_212 : Nat → Int32) (H : Heap) (locs : List Loc) (ls : Array Slot), 3 - L7_212.toInt < (N_16 : Int) → (0 ≤ L7_212.toInt ∧ L7_212.toInt ≤ 3) → (((mf47 (p0).toNatClampNeg).toInt = 2 → 0 < (mf49 (p0).toNatClampNeg).toInt) → DPP (TDM (fun k => tmM (mf47 (p0).toNatClampNeg) (mf49 (p0).toNatClampNeg) (mf48 (p0).toNatClampNeg) mf51 mf52 mf54 mf56 mf57 (p0).toNatClampNeg (p1).toNatClampNeg k) (fun k => mf53 (3 * (p0).toNatClampNeg + k)) (mf56 (40 * (p0).toNatClampNeg + (p1).toNatClampNeg) - mf48 (p0).toNatClampNeg) mf36 mf37 (mf35 1)) (L7_212).toNatClampNeg L5_212.toInt L6_212.toInt) → va_P D vwCl [(mh, .inr (9, G9 ma mcode mtoday moffs mmany msumW msumA msumR msumWW msumWA msumAA msumWR msumAR mupper mlower mrates mtaped mlaid mat mtk mtkAt mtkNumber mwaits mlisted mdealtMany)), ((ma 34), .inl (E 1, 2, .inl mf34)), ((ma 35), .inl (E 0, 2, .inl mf35)), ((ma 36), .inl (E 0, 384, .inl mf36)), ((ma 37), .inl (E 0, 384, .inl mf37)), ((ma 45), .inl (E 0, 130, .inl mf45_212)), ((ma 46), .inl (E 0, 24, .inl mf46_212)), ((ma 47), .inl (E 0, 5, .inl mf47)), ((ma 48), .inl (E 0, 5, .inl mf48)), ((ma 49), .inl (E 0, 5, .inl mf49)), ((ma 51), .inl (E 0, 15, .inl mf51)), ((ma 52), .inl (E 0, 15, .inl mf52)), ((ma 53), .inl (E 0, 15, .inl mf53)), ((ma 54), .inl (E 0, 15, .inl mf54)), ((ma 56), .inl (E 0, 200, .inl mf56)), ((ma 57), .inl (E 0, 600, .inl mf57)), ((ma 59), .inl (E 0, 3, .inl mf59_39)), ((ma 60), .inl (E 0, 3, .inl mf60_39))] H → va_D A [(mh, .inr (9, G9 ma mcode mtoday moffs mmany msumW msumA msumR msumWW msumWA msumAA msumWR msumAR mupper mlower mrates mtaped mlaid mat mtk mtkAt mtkNumber mwaits mlisted mdealtMany)), ((ma 34), .inl (E 1, 2, .inl mf34)), ((ma 35), .inl (E 0, 2, .inl mf35)), ((ma 36), .inl (E 0, 384, .inl mf36)), ((ma 37), .inl (E 0, 384, .inl mf37)), ((ma 45), .inl (E 0, 130, .inl mf45_212)), ((ma 46), .inl (E 0, 24, .inl mf46_212)), ((ma 47), .inl (E 0, 5, .inl mf47)), ((ma 48), .inl (E 0, 5, .inl mf48)), ((ma 49), .inl (E 0, 5, .inl mf49)), ((ma 51), .inl (E 0, 15, .inl mf51)), ((ma 52), .inl (E 0, 15, .inl mf52)), ((ma 53), .inl (E 0, 15, .inl mf53)), ((ma 54), .inl (E 0, 15, .inl mf54)), ((ma 56), .inl (E 0, 200, .inl mf56)), ((ma 57), .inl (E 0, 600, .inl mf57)), ((ma 59), .inl (E 0, 3, .inl mf59_39)), ((ma 60), .inl (E 0, 3, .inl mf60_39))] → va_S A s.heap H locs → lv_has ls 11 [(7, .int L7_212), (6, .int L6_212), (5, .int L5_212), (4, .int 0), (3, .int z_5), (0, .ref mh), (1, .int p0), (2, .int p1)] → W p l e (headSpec (wl yX9_work cX9_work 11 (some .int)) (RM 2 0 0)).room s m [Value.ref mh, .int p0, .int p1].toArray below meth c H locs 0 0 (MQ below (va_Qi (fun (r : Int32) (u : (Nat → Int32) × (Nat → Int32) × (Nat → Int32) × (Nat → Int32)) => (((mf47 (p0).toNatClampNeg).toInt = 2 → 0 < (mf49 (p0).toNatClampNeg).toInt) → ∀ k : Nat, (k : Int) < 3 → u.2.2.1 k = tmM (mf47 (p0).toNatClampNeg) (mf49 (p0).toNatClampNeg) (mf48 (p0).toNatClampNeg) mf51 mf52 mf54 mf56 mf57 (p0).toNatClampNeg (p1).toNatClampNeg k ∧ u.2.2.2 k = wdM (mf47 (p0).toNatClampNeg) (mf49 (p0).toNatClampNeg) (mf48 (p0).toNatClampNeg) mf53 mf56 (p0).toNatClampNeg (p1).toNatClampNeg k) ∧ (((mf47 (p0).toNatClampNeg).toInt = 2 → 0 < (mf49 (p0).toNatClampNeg).toInt) → DRM (fun k => tmM (mf47 (p0).toNatClampNeg) (mf49 (p0).toNatClampNeg) (mf48 (p0).toNatClampNeg) mf51 mf52 mf54 mf56 mf57 (p0).toNatClampNeg (p1).toNatClampNeg k) (fun k => mf53 (3 * (p0).toNatClampNeg + k)) (mf56 (40 * (p0).toNatClampNeg + (p1).toNatClampNeg) - mf48 (p0).toNatClampNeg) (mf34 1) mf36 mf37 (mf35 1) r.toInt)) (mu_B D A (fun (u : (Nat → Int32) × (Nat → Int32) × (Nat → Int32) × (Nat → Int32)) => [(mh, .inr (9, G9 ma mcode mtoday moffs mmany msumW msumA msumR msumWW msumWA msumAA msumWR msumAR mupper mlower mrates mtaped mlaid mat mtk mtkAt mtkNumber mwaits mlisted mdealtMany)), ((ma 34), .inl (E 1, 2, .inl mf34)), ((ma 35), .inl (E 0, 2, .inl mf35)), ((ma 36), .inl (E 0, 384, .inl mf36)), ((ma 37), .inl (E 0, 384, .inl mf37)), ((ma 45), .inl (E 0, 130, .inl u.1)), ((ma 46), .inl (E 0, 24, .inl u.2.1)), ((ma 47), .inl (E 0, 5, .inl mf47)), ((ma 48), .inl (E 0, 5, .inl mf48)), ((ma 49), .inl (E 0, 5, .inl mf49)), ((ma 51), .inl (E 0, 15, .inl mf51)), ((ma 52), .inl (E 0, 15, .inl mf52)), ((ma 53), .inl (E 0, 15, .inl mf53)), ((ma 54), .inl (E 0, 15, .inl mf54)), ((ma 56), .inl (E 0, 200, .inl mf56)), ((ma 57), .inl (E 0, 600, .inl mf57)), ((ma 59), .inl (E 0, 3, .inl u.2.2.1)), ((ma 60), .inl (E 0, 3, .inl u.2.2.2))])) A) [Value.ref mh, .int p0, .int p1].toArray s 0 0 A) (F0 m 212 ls []) := by
              intro N_16
              induction N_16 with
              | zero => intro L7_212 L6_212 L5_212 mf45_212 mf46_212 H locs ls hm v0_212 v1_212 _ _ _ _; exfalso; omega
              | succ N_16 ih_15 =>
                intro L7_212 L6_212 L5_212 mf45_212 mf46_212 H locs ls hm v0_212 v1_212 hP hD hS hl
                have lo_L7_212 := i_lo L7_212; have hi_L7_212 := i_hi L7_212
                have lo_L6_212 := i_lo L6_212; have hi_L6_212 := i_hi L6_212
                have lo_L5_212 := i_lo L5_212; have hi_L5_212 := i_hi L5_212
                refine lv_iload hx hb dX9_work_212 (lv_at hl 0 rfl) ?_
                refine lv_iconst (v := 3) hx hb dX9_work_214 (by decide) ?_
                refine lv_icmp_ge (tgt := 339) hx hb dX9_work_215 (by decide) (fun c_17 => ?_) (fun c_17 => ?_)
                ·
                  have ic_17 : 3 ≤ L7_212.toInt := by first | exact (g_le t_3 rfl).mp c_17 | (have h := mt (g_lt rfl t_3).mpr c_17; omega)
                  clear c_17
                  refine lv_iload hx hb dX9_work_339 (lv_at hl 2 rfl) ?_
                  have hP9 := hP.sub (ws' := [(mh, .inr (9, G9 ma mcode mtoday moffs mmany msumW msumA msumR msumWW msumWA msumAA msumWR msumAR mupper mlower mrates mtaped mlaid mat mtk mtkAt mtkNumber mwaits mlisted mdealtMany)), ((ma 34), .inl (E 1, 2, .inl mf34)), ((ma 35), .inl (E 0, 2, .inl mf35)), ((ma 36), .inl (E 0, 384, .inl mf36)), ((ma 37), .inl (E 0, 384, .inl mf37)), ((ma 45), .inl (E 0, 130, .inl mf45_212)), ((ma 46), .inl (E 0, 24, .inl mf46_212)), ((ma 47), .inl (E 0, 5, .inl mf47)), ((ma 48), .inl (E 0, 5, .inl mf48)), ((ma 49), .inl (E 0, 5, .inl mf49)), ((ma 51), .inl (E 0, 15, .inl mf51)), ((ma 52), .inl (E 0, 15, .inl mf52)), ((ma 53), .inl (E 0, 15, .inl mf53)), ((ma 54), .inl (E 0, 15, .inl mf54)), ((ma 56), .inl (E 0, 200, .inl mf56)), ((ma 57), .inl (E 0, 600, .inl mf57)), ((ma 59), .inl (E 0, 3, .inl mf59_39)), ((ma 60), .inl (E 0, 3, .inl mf60_39))]) [0, 1, 2, 3, 4, 5, 6, 7, 8, 9, 10, 11, 12, 13, 14, 15, 16, 17] rfl
                  have hD9 := hD.sub (ws' := [(mh, .inr (9, G9 ma mcode mtoday moffs mmany msumW msumA msumR msumWW msumWA msumAA msumWR msumAR mupper mlower mrates mtaped mlaid mat mtk mtkAt mtkNumber mwaits mlisted mdealtMany)), ((ma 34), .inl (E 1, 2, .inl mf34)), ((ma 35), .inl (E 0, 2, .inl mf35)), ((ma 36), .inl (E 0, 384, .inl mf36)), ((ma 37), .inl (E 0, 384, .inl mf37)), ((ma 45), .inl (E 0, 130, .inl mf45_212)), ((ma 46), .inl (E 0, 24, .inl mf46_212)), ((ma 47), .inl (E 0, 5, .inl mf47)), ((ma 48), .inl (E 0, 5, .inl mf48)), ((ma 49), .inl (E 0, 5, .inl mf49)), ((ma 51), .inl (E 0, 15, .inl mf51)), ((ma 52), .inl (E 0, 15, .inl mf52)), ((ma 53), .inl (E 0, 15, .inl mf53)), ((ma 54), .inl (E 0, 15, .inl mf54)), ((ma 56), .inl (E 0, 200, .inl mf56)), ((ma 57), .inl (E 0, 600, .inl mf57)), ((ma 59), .inl (E 0, 3, .inl mf59_39)), ((ma 60), .inl (E 0, 3, .inl mf60_39))]) [0, 1, 2, 3, 4, 5, 6, 7, 8, 9, 10, 11, 12, 13, 14, 15, 16, 17] (by decide) rfl
                  exact W.iret (v := L5_212) hx hb hr (fun t ht hW => ⟨⟨L5_212, (mf45_212, mf46_212, mf59_39, mf60_39), rfl, ⟨(fun hHB k hk => v1_39 hHB k (by omega)), (fun hHB => by refine Or.inr ⟨by rw [← ci_1, ← ez_12]; omega, L6_212.toInt, ?_⟩; have e3 : (L7_212).toNatClampNeg = 3 := (by have c9 := i_clamp0 (x := L7_212) (by omega); omega); have v9 := v1_212 hHB; rw [e3] at v9; exact v9)⟩, by rw [ht]; exact hP9, hD9⟩, hS.F ht⟩) hS.2.2 dX9_work_341
                ·
                  have ic_17 : L7_212.toInt < 3 := by first | exact (g_lt rfl t_3).mp c_17 | (have h := mt (g_le t_3 rfl).mpr c_17; omega)
                  clear c_17
                  refine lv_aload_n hx hb dX9_work_218 rfl (lv_at hl 5 rfl) ?_
                  refine va_get (D := D) (ci := 9) (v := .ref (ma 59)) (C := RX9) (T := TX9) (N := 68) hx hb htb iX9 hown hK.1 hP 0 rfl rfl 59 (by decide) (htb _ k_1017) (fun _ h9 => h9) rfl dX9_work_219 ?_
                  refine lv_iload hx hb dX9_work_222 (lv_at hl 0 rfl) ?_
                  refine lv_iconst (v := 1) hx hb dX9_work_224 (by decide) ?_
                  refine lv_iadd hx hb dX9_work_225 ?_
                  refine lv_topi (fun z_18 ez_18 => ?_)
                  have jz_18 : z_18.toInt = L7_212.toInt + 1 := by rw [ez_18]; exact g_add rfl t_1 (by omega) (by omega)
                  refine lv_iconst (v := 3) hx hb dX9_work_226 (by decide) ?_
                  refine lv_irem hx hb dX9_work_227 (by decide) ?_
                  refine lv_topi (fun z_19 ez_19 => ?_)
                  have jz_19 : z_19.toInt = z_18.toInt % 3 := by rw [ez_19]; exact g_rem rfl t_3 (by omega) (by decide)
                  refine va_iald hx hb hK.1 hP 16 0 rfl rfl (g_in rfl (by omega) (by omega)) dX9_work_228 ?_
                  refine lv_topi (fun z_20 ez_20 => ?_)
                  have kz_20 := congrArg Int32.toInt ez_20
                  obtain ⟨z_21, ez_21⟩ : ∃ y : Int64, (z_20 : Int32).toInt64 = y := ⟨_, rfl⟩
                  refine lv_i2l hx hb dX9_work_229 ez_21 ?_
                  refine lv_aload_n hx hb dX9_work_230 rfl (lv_at hl 5 rfl) ?_
                  refine va_get (D := D) (ci := 9) (v := .ref (ma 59)) (C := RX9) (T := TX9) (N := 68) hx hb htb iX9 hown hK.1 hP 0 rfl rfl 59 (by decide) (htb _ k_1017) (fun _ h9 => h9) rfl dX9_work_231 ?_
                  refine lv_iload hx hb dX9_work_234 (lv_at hl 0 rfl) ?_
                  refine lv_iconst (v := 2) hx hb dX9_work_236 (by decide) ?_
                  refine lv_iadd hx hb dX9_work_237 ?_
                  refine lv_topi (fun z_22 ez_22 => ?_)
                  have jz_22 : z_22.toInt = L7_212.toInt + 2 := by rw [ez_22]; exact g_add rfl t_2 (by omega) (by omega)
                  refine lv_iconst (v := 3) hx hb dX9_work_238 (by decide) ?_
                  refine lv_irem hx hb dX9_work_239 (by decide) ?_
                  refine lv_topi (fun z_23 ez_23 => ?_)
                  have jz_23 : z_23.toInt = z_22.toInt % 3 := by rw [ez_23]; exact g_rem rfl t_3 (by omega) (by decide)
                  refine va_iald hx hb hK.1 hP 16 0 rfl rfl (g_in rfl (by omega) (by omega)) dX9_work_240 ?_
                  refine lv_topi (fun z_24 ez_24 => ?_)
                  have kz_24 := congrArg Int32.toInt ez_24
                  obtain ⟨z_25, ez_25⟩ : ∃ y : Int64, (z_24 : Int32).toInt64 = y := ⟨_, rfl⟩
                  refine lv_i2l hx hb dX9_work_241 ez_25 ?_
                  refine lv_ladd hx hb dX9_work_242 ?_
                  refine lv_topl (fun z_26 ez_26 => ?_)
                  refine lv_lstore (lv' := [(8, .long z_26), (7, .int L7_212), (6, .int L6_212), (5, .int L5_212), (4, .int 0), (3, .int z_5), (0, .ref mh), (1, .int p0), (2, .int p1)]) hx hb dX9_work_243 hl (by decide) rfl (fun ls hl => ?_)
                  refine lv_aload_n hx hb dX9_work_245 rfl (lv_at hl 6 rfl) ?_
                  refine va_get (D := D) (ci := 9) (v := .ref (ma 46)) (C := RX9) (T := TX9) (N := 68) hx hb htb iX9 hown hK.1 hP 0 rfl rfl 46 (by decide) (htb _ k_1004) (fun _ h9 => h9) rfl dX9_work_246 ?_
                  refine lv_bipush (v := 20) hx hb dX9_work_249 (by decide) ?_
                  refine lv_aload_n hx hb dX9_work_251 rfl (lv_at hl 6 rfl) ?_
                  refine va_get (D := D) (ci := 9) (v := .ref (ma 59)) (C := RX9) (T := TX9) (N := 68) hx hb htb iX9 hown hK.1 hP 0 rfl rfl 59 (by decide) (htb _ k_1017) (fun _ h9 => h9) rfl dX9_work_252 ?_
                  refine lv_iload hx hb dX9_work_255 (lv_at hl 1 rfl) ?_
                  refine va_iald hx hb hK.1 hP 16 0 rfl rfl (g_in rfl (by omega) (by omega)) dX9_work_257 ?_
                  refine lv_topi (fun z_27 ez_27 => ?_)
                  have kz_27 := congrArg Int32.toInt ez_27
                  obtain ⟨z_28, ez_28⟩ : ∃ y : Int64, (z_27 : Int32).toInt64 = y := ⟨_, rfl⟩
                  refine lv_i2l hx hb dX9_work_258 ez_28 ?_
                  refine lv_lload hx hb dX9_work_259 (lv_at hl 0 rfl) ?_
                  refine lv_ldc2 hx hb hown (htb _ k_1446) dX9_work_261 ?_
                  refine callLS (rest := [.long z_28, .int 20, .ref (ma 46)]) (As := [.long z_26, .long (2)]) hx hb hml hown htb hK (g_X9_floor l D E z_26 (2) (by decide)) ok_X9_floor k_1311 k_1312 k_9 k_1313 ⟨(Nat.le_of_ble_eq_true rfl), (Nat.le_of_ble_eq_true rfl)⟩ ⟨(Nat.le_of_ble_eq_true rfl), (Nat.le_of_ble_eq_true rfl)⟩ hl.1 (Nat.le_of_ble_eq_true rfl) rfl rfl dX9_work_264 (hP.sub (ws' := ([] : va_W)) [] rfl) (fun r_29 hw_30 => ?_)
                  try simp only [t_2] at hw_30
                  refine lv_lsub hx hb dX9_work_267 ?_
                  refine lv_topl (fun z_32 ez_32 => ?_)
                  obtain ⟨z_33, ez_33⟩ : ∃ y : Int32, (z_32 : Int64).toInt32 = y := ⟨_, rfl⟩
                  refine lv_l2i hx hb dX9_work_268 ez_33 ?_
                  refine callRS (rest := [.int 20, .ref (ma 46)]) (As := [.int z_33]) hx hb hml hown htb hK (g_X9_size l D E z_33 ) ok_X9_size k_1235 k_1236 k_9 k_1237 ⟨(Nat.le_of_ble_eq_true rfl), (Nat.le_of_ble_eq_true rfl)⟩ ⟨(Nat.le_of_ble_eq_true rfl), (Nat.le_of_ble_eq_true rfl)⟩ hl.1 (Nat.le_of_ble_eq_true rfl) rfl rfl dX9_work_269 (hP.sub (ws' := ([] : va_W)) [] rfl) (fun r_34 hw_35 => ?_)
                  refine va_iast hx hb hK.1 hP hD hS 6 0 rfl rfl (g_in t_20 (by decide) (by decide)) dX9_work_272 (fun H locs hP hD hS => ?_)
                  have hP : va_P D vwCl [(mh, .inr (9, G9 ma mcode mtoday moffs mmany msumW msumA msumR msumWW msumWA msumAA msumWR msumAR mupper mlower mrates mtaped mlaid mat mtk mtkAt mtkNumber mwaits mlisted mdealtMany)), ((ma 34), .inl (E 1, 2, .inl mf34)), ((ma 35), .inl (E 0, 2, .inl mf35)), ((ma 36), .inl (E 0, 384, .inl mf36)), ((ma 37), .inl (E 0, 384, .inl mf37)), ((ma 45), .inl (E 0, 130, .inl mf45_212)), ((ma 46), .inl (E 0, 24, .inl (upd mf46_212 (20 : Int32).toNatClampNeg r_34))), ((ma 47), .inl (E 0, 5, .inl mf47)), ((ma 48), .inl (E 0, 5, .inl mf48)), ((ma 49), .inl (E 0, 5, .inl mf49)), ((ma 51), .inl (E 0, 15, .inl mf51)), ((ma 52), .inl (E 0, 15, .inl mf52)), ((ma 53), .inl (E 0, 15, .inl mf53)), ((ma 54), .inl (E 0, 15, .inl mf54)), ((ma 56), .inl (E 0, 200, .inl mf56)), ((ma 57), .inl (E 0, 600, .inl mf57)), ((ma 59), .inl (E 0, 3, .inl mf59_39)), ((ma 60), .inl (E 0, 3, .inl mf60_39))] H := hP
                  have hD := toW hP hD rfl
                  refine lv_aload_n hx hb dX9_work_273 rfl (lv_at hl 6 rfl) ?_
                  refine va_get (D := D) (ci := 9) (v := .ref (ma 46)) (C := RX9) (T := TX9) (N := 68) hx hb htb iX9 hown hK.1 hP 0 rfl rfl 46 (by decide) (htb _ k_1004) (fun _ h9 => h9) rfl dX9_work_274 ?_
                  refine lv_bipush (v := 21) hx hb dX9_work_277 (by decide) ?_
                  refine lv_aload_n hx hb dX9_work_279 rfl (lv_at hl 6 rfl) ?_
                  refine va_get (D := D) (ci := 9) (v := .ref (ma 53)) (C := RX9) (T := TX9) (N := 68) hx hb htb iX9 hown hK.1 hP 0 rfl rfl 53 (by decide) (htb _ k_1011) (fun _ h9 => h9) rfl dX9_work_280 ?_
                  refine lv_iconst (v := 3) hx hb dX9_work_283 (by decide) ?_
                  refine lv_iload_n hx hb dX9_work_284 rfl (lv_at hl 7 rfl) ?_
                  refine lv_imul hx hb dX9_work_285 ?_
                  refine lv_topi (fun z_37 ez_37 => ?_)
                  have jz_37 : z_37.toInt = 3 * p0.toInt := by rw [ez_37]; exact g_mul t_3 rfl (by omega) (by omega)
                  refine lv_iload hx hb dX9_work_286 (lv_at hl 1 rfl) ?_
                  refine lv_iadd hx hb dX9_work_288 ?_
                  refine lv_topi (fun z_38 ez_38 => ?_)
                  have jz_38 : z_38.toInt = z_37.toInt + L7_212.toInt := by rw [ez_38]; exact g_add rfl rfl (by omega) (by omega)
                  refine va_iald hx hb hK.1 hP 12 0 rfl rfl (g_in rfl (by omega) (by omega)) dX9_work_289 ?_
                  refine lv_topi (fun z_39 ez_39 => ?_)
                  have kz_39 := congrArg Int32.toInt ez_39
                  refine va_iast hx hb hK.1 hP hD hS 6 0 rfl rfl (g_in t_21 (by decide) (by decide)) dX9_work_290 (fun H locs hP hD hS => ?_)
                  have hP : va_P D vwCl [(mh, .inr (9, G9 ma mcode mtoday moffs mmany msumW msumA msumR msumWW msumWA msumAA msumWR msumAR mupper mlower mrates mtaped mlaid mat mtk mtkAt mtkNumber mwaits mlisted mdealtMany)), ((ma 34), .inl (E 1, 2, .inl mf34)), ((ma 35), .inl (E 0, 2, .inl mf35)), ((ma 36), .inl (E 0, 384, .inl mf36)), ((ma 37), .inl (E 0, 384, .inl mf37)), ((ma 45), .inl (E 0, 130, .inl mf45_212)), ((ma 46), .inl (E 0, 24, .inl (upd (upd mf46_212 (20 : Int32).toNatClampNeg r_34) (21 : Int32).toNatClampNeg z_39))), ((ma 47), .inl (E 0, 5, .inl mf47)), ((ma 48), .inl (E 0, 5, .inl mf48)), ((ma 49), .inl (E 0, 5, .inl mf49)), ((ma 51), .inl (E 0, 15, .inl mf51)), ((ma 52), .inl (E 0, 15, .inl mf52)), ((ma 53), .inl (E 0, 15, .inl mf53)), ((ma 54), .inl (E 0, 15, .inl mf54)), ((ma 56), .inl (E 0, 200, .inl mf56)), ((ma 57), .inl (E 0, 600, .inl mf57)), ((ma 59), .inl (E 0, 3, .inl mf59_39)), ((ma 60), .inl (E 0, 3, .inl mf60_39))] H := hP
                  have hD := toW hP hD rfl
                  refine lv_aload_n hx hb dX9_work_291 rfl (lv_at hl 6 rfl) ?_
                  refine va_get (D := D) (ci := 9) (v := .ref (ma 46)) (C := RX9) (T := TX9) (N := 68) hx hb htb iX9 hown hK.1 hP 0 rfl rfl 46 (by decide) (htb _ k_1004) (fun _ h9 => h9) rfl dX9_work_292 ?_
                  refine lv_bipush (v := 22) hx hb dX9_work_295 (by decide) ?_
                  refine lv_iload_n hx hb dX9_work_297 rfl (lv_at hl 5 rfl) ?_
                  refine va_iast hx hb hK.1 hP hD hS 6 0 rfl rfl (g_in t_22 (by decide) (by decide)) dX9_work_298 (fun H locs hP hD hS => ?_)
                  have hP : va_P D vwCl [(mh, .inr (9, G9 ma mcode mtoday moffs mmany msumW msumA msumR msumWW msumWA msumAA msumWR msumAR mupper mlower mrates mtaped mlaid mat mtk mtkAt mtkNumber mwaits mlisted mdealtMany)), ((ma 34), .inl (E 1, 2, .inl mf34)), ((ma 35), .inl (E 0, 2, .inl mf35)), ((ma 36), .inl (E 0, 384, .inl mf36)), ((ma 37), .inl (E 0, 384, .inl mf37)), ((ma 45), .inl (E 0, 130, .inl mf45_212)), ((ma 46), .inl (E 0, 24, .inl (upd (upd (upd mf46_212 (20 : Int32).toNatClampNeg r_34) (21 : Int32).toNatClampNeg z_39) (22 : Int32).toNatClampNeg z_5))), ((ma 47), .inl (E 0, 5, .inl mf47)), ((ma 48), .inl (E 0, 5, .inl mf48)), ((ma 49), .inl (E 0, 5, .inl mf49)), ((ma 51), .inl (E 0, 15, .inl mf51)), ((ma 52), .inl (E 0, 15, .inl mf52)), ((ma 53), .inl (E 0, 15, .inl mf53)), ((ma 54), .inl (E 0, 15, .inl mf54)), ((ma 56), .inl (E 0, 200, .inl mf56)), ((ma 57), .inl (E 0, 600, .inl mf57)), ((ma 59), .inl (E 0, 3, .inl mf59_39)), ((ma 60), .inl (E 0, 3, .inl mf60_39))] H := hP
                  have hD := toW hP hD rfl
                  refine lv_aload_n hx hb dX9_work_299 rfl (lv_at hl 6 rfl) ?_
                  refine va_get (D := D) (ci := 9) (v := .ref (ma 46)) (C := RX9) (T := TX9) (N := 68) hx hb htb iX9 hown hK.1 hP 0 rfl rfl 46 (by decide) (htb _ k_1004) (fun _ h9 => h9) rfl dX9_work_300 ?_
                  refine lv_bipush (v := 23) hx hb dX9_work_303 (by decide) ?_
                  refine lv_iload hx hb dX9_work_305 (lv_at hl 1 rfl) ?_
                  refine va_iast hx hb hK.1 hP hD hS 6 0 rfl rfl (g_in t_23 (by decide) (by decide)) dX9_work_307 (fun H locs hP hD hS => ?_)
                  have hP : va_P D vwCl [(mh, .inr (9, G9 ma mcode mtoday moffs mmany msumW msumA msumR msumWW msumWA msumAA msumWR msumAR mupper mlower mrates mtaped mlaid mat mtk mtkAt mtkNumber mwaits mlisted mdealtMany)), ((ma 34), .inl (E 1, 2, .inl mf34)), ((ma 35), .inl (E 0, 2, .inl mf35)), ((ma 36), .inl (E 0, 384, .inl mf36)), ((ma 37), .inl (E 0, 384, .inl mf37)), ((ma 45), .inl (E 0, 130, .inl mf45_212)), ((ma 46), .inl (E 0, 24, .inl (upd (upd (upd (upd mf46_212 (20 : Int32).toNatClampNeg r_34) (21 : Int32).toNatClampNeg z_39) (22 : Int32).toNatClampNeg z_5) (23 : Int32).toNatClampNeg L7_212))), ((ma 47), .inl (E 0, 5, .inl mf47)), ((ma 48), .inl (E 0, 5, .inl mf48)), ((ma 49), .inl (E 0, 5, .inl mf49)), ((ma 51), .inl (E 0, 15, .inl mf51)), ((ma 52), .inl (E 0, 15, .inl mf52)), ((ma 53), .inl (E 0, 15, .inl mf53)), ((ma 54), .inl (E 0, 15, .inl mf54)), ((ma 56), .inl (E 0, 200, .inl mf56)), ((ma 57), .inl (E 0, 600, .inl mf57)), ((ma 59), .inl (E 0, 3, .inl mf59_39)), ((ma 60), .inl (E 0, 3, .inl mf60_39))] H := hP
                  have hD := toW hP hD rfl
                  refine lv_aload_n hx hb dX9_work_308 rfl (lv_at hl 6 rfl) ?_
                  refine lv_iconst (v := 1) hx hb dX9_work_309 (by decide) ?_
                  have hPc := hP.sub (ws' := [(mh, .inr (9, G9 ma mcode mtoday moffs mmany msumW msumA msumR msumWW msumWA msumAA msumWR msumAR mupper mlower mrates mtaped mlaid mat mtk mtkAt mtkNumber mwaits mlisted mdealtMany)), ((ma 35), .inl (E 0, 2, .inl mf35)), ((ma 36), .inl (E 0, 384, .inl mf36)), ((ma 37), .inl (E 0, 384, .inl mf37)), ((ma 45), .inl (E 0, 130, .inl mf45_212)), ((ma 46), .inl (E 0, 24, .inl (upd (upd (upd (upd mf46_212 (20 : Int32).toNatClampNeg r_34) (21 : Int32).toNatClampNeg z_39) (22 : Int32).toNatClampNeg z_5) (23 : Int32).toNatClampNeg L7_212)))]) [0, 2, 3, 4, 5, 6] rfl
                  have hDc := hD.sub (ws' := [(mh, .inr (9, G9 ma mcode mtoday moffs mmany msumW msumA msumR msumWW msumWA msumAA msumWR msumAR mupper mlower mrates mtaped mlaid mat mtk mtkAt mtkNumber mwaits mlisted mdealtMany)), ((ma 35), .inl (E 0, 2, .inl mf35)), ((ma 36), .inl (E 0, 384, .inl mf36)), ((ma 37), .inl (E 0, 384, .inl mf37)), ((ma 45), .inl (E 0, 130, .inl mf45_212)), ((ma 46), .inl (E 0, 24, .inl (upd (upd (upd (upd mf46_212 (20 : Int32).toNatClampNeg r_34) (21 : Int32).toNatClampNeg z_39) (22 : Int32).toNatClampNeg z_5) (23 : Int32).toNatClampNeg L7_212)))]) [0, 2, 3, 4, 5, 6] (by decide) rfl
                  refine aft_i (runMV (rest := []) (As := [.int 1]) hx hb hml hown htb hK (g_X9_says1 l D E mh ma mcode mtoday moffs mmany msumW msumA msumR msumWW msumWA msumAA msumWR msumAR mupper mlower mrates mtaped mlaid mat mtk mtkAt mtkNumber mwaits mlisted mdealtMany mf35 mf36 mf37 mf45_212 (upd (upd (upd (upd mf46_212 (20 : Int32).toNatClampNeg r_34) (21 : Int32).toNatClampNeg z_39) (22 : Int32).toNatClampNeg z_5) (23 : Int32).toNatClampNeg L7_212) _ (by (try dsimp only); omega) hr_m35 hjw) ok_X9_says k_1395 k_1397 ks_60 k_9 k_1398 ⟨(Nat.le_of_ble_eq_true rfl), (Nat.le_of_ble_eq_true rfl)⟩ ⟨(Nat.le_of_ble_eq_true rfl), (Nat.le_of_ble_eq_true rfl)⟩ hl.1 (Nat.le_of_ble_eq_true rfl) rfl rfl dX9_work_310 hPc hDc rfl rfl 0 rfl) hP hD hS hA [0, 2, 3, 4, 5, 6] [1, 7, 8, 9, 10, 11, 12, 13, 14, 15, 16, 17] (wr := [((ma 34), .inl (E 1, 2, .inl mf34)), ((ma 47), .inl (E 0, 5, .inl mf47)), ((ma 48), .inl (E 0, 5, .inl mf48)), ((ma 49), .inl (E 0, 5, .inl mf49)), ((ma 51), .inl (E 0, 15, .inl mf51)), ((ma 52), .inl (E 0, 15, .inl mf52)), ((ma 53), .inl (E 0, 15, .inl mf53)), ((ma 54), .inl (E 0, 15, .inl mf54)), ((ma 56), .inl (E 0, 200, .inl mf56)), ((ma 57), .inl (E 0, 600, .inl mf57)), ((ma 59), .inl (E 0, 3, .inl mf59_39)), ((ma 60), .inl (E 0, 3, .inl mf60_39))]) rfl rfl (by decide) (by decide) (fun r_40 u_42 H locs hw_41 hP hD hS => ?_)
                  clear hPc hDc
                  have hP : va_P D vwCl [((ma 34), .inl (E 1, 2, .inl mf34)), ((ma 47), .inl (E 0, 5, .inl mf47)), ((ma 48), .inl (E 0, 5, .inl mf48)), ((ma 49), .inl (E 0, 5, .inl mf49)), ((ma 51), .inl (E 0, 15, .inl mf51)), ((ma 52), .inl (E 0, 15, .inl mf52)), ((ma 53), .inl (E 0, 15, .inl mf53)), ((ma 54), .inl (E 0, 15, .inl mf54)), ((ma 56), .inl (E 0, 200, .inl mf56)), ((ma 57), .inl (E 0, 600, .inl mf57)), ((ma 59), .inl (E 0, 3, .inl mf59_39)), ((ma 60), .inl (E 0, 3, .inl mf60_39)), (mh, .inr (9, G9 ma mcode mtoday moffs mmany msumW msumA msumR msumWW msumWA msumAA msumWR msumAR mupper mlower mrates mtaped mlaid mat mtk mtkAt mtkNumber mwaits mlisted mdealtMany)), ((ma 35), .inl (E 0, 2, .inl mf35)), ((ma 36), .inl (E 0, 384, .inl mf36)), ((ma 37), .inl (E 0, 384, .inl mf37)), ((ma 45), .inl (E 0, 130, .inl u_42)), ((ma 46), .inl (E 0, 24, .inl (upd (upd (upd (upd mf46_212 (20 : Int32).toNatClampNeg r_34) (21 : Int32).toNatClampNeg z_39) (22 : Int32).toNatClampNeg z_5) (23 : Int32).toNatClampNeg L7_212)))] H := hP
                  have hD := toW hP hD rfl
                  try simp only [t_1] at hw_41
                  refine lv_istore (lv' := [(10, .int r_40), (8, .long z_26), (7, .int L7_212), (6, .int L6_212), (5, .int L5_212), (4, .int 0), (3, .int z_5), (0, .ref mh), (1, .int p0), (2, .int p1)]) hx hb dX9_work_313 hl (by decide) rfl (fun ls hl => ?_)
                  refine lv_iload hx hb dX9_work_315 (lv_at hl 0 rfl) ?_
                  refine lv_iload hx hb dX9_work_317 (lv_at hl 3 rfl) ?_
                  refine lv_icmp_gt (tgt := 325) hx hb dX9_work_319 (by decide) (fun c_43 => ?_) (fun c_43 => ?_)
                  ·
                    have ic_43 : L6_212.toInt < r_40.toInt := by first | exact (g_lt rfl rfl).mp c_43 | (have h := mt (g_le rfl rfl).mpr c_43; omega)
                    clear c_43
                    refine lv_iload hx hb dX9_work_325 (lv_at hl 0 rfl) ?_
                    refine lv_istore (lv' := [(6, .int r_40), (10, .int r_40), (8, .long z_26), (7, .int L7_212), (5, .int L5_212), (4, .int 0), (3, .int z_5), (0, .ref mh), (1, .int p0), (2, .int p1)]) hx hb dX9_work_327 hl (by decide) rfl (fun ls hl => ?_)
                    refine lv_iload hx hb dX9_work_329 (lv_at hl 3 rfl) ?_
                    refine lv_istore (lv' := [(5, .int L7_212), (6, .int r_40), (10, .int r_40), (8, .long z_26), (7, .int L7_212), (4, .int 0), (3, .int z_5), (0, .ref mh), (1, .int p0), (2, .int p1)]) hx hb dX9_work_331 hl (by decide) rfl (fun ls hl => ?_)
                    obtain ⟨z_44, ez_44⟩ : ∃ y : Int32, y = L7_212 + 1 := ⟨_, rfl⟩
                    have jz_44 : z_44.toInt = L7_212.toInt + 1 := by rw [ez_44]; exact g_add rfl t_1 (by omega) (by omega)
                    refine lv_iinc (v := z_44) (lv' := [(7, .int z_44), (5, .int L7_212), (6, .int r_40), (10, .int r_40), (8, .long z_26), (4, .int 0), (3, .int z_5), (0, .ref mh), (1, .int p0), (2, .int p1)]) hx hb dX9_work_333 hl (k := 4) rfl (by rw [ez_44]; rfl) (by decide) rfl (fun ls hl => ?_)
                    refine lv_goto (tgt := 212) hx hb dX9_work_336 (by decide) ?_
                    have hP := hP.sub (ws' := [(mh, .inr (9, G9 ma mcode mtoday moffs mmany msumW msumA msumR msumWW msumWA msumAA msumWR msumAR mupper mlower mrates mtaped mlaid mat mtk mtkAt mtkNumber mwaits mlisted mdealtMany)), ((ma 34), .inl (E 1, 2, .inl mf34)), ((ma 35), .inl (E 0, 2, .inl mf35)), ((ma 36), .inl (E 0, 384, .inl mf36)), ((ma 37), .inl (E 0, 384, .inl mf37)), ((ma 45), .inl (E 0, 130, .inl u_42)), ((ma 46), .inl (E 0, 24, .inl (upd (upd (upd (upd mf46_212 (20 : Int32).toNatClampNeg r_34) (21 : Int32).toNatClampNeg z_39) (22 : Int32).toNatClampNeg z_5) (23 : Int32).toNatClampNeg L7_212))), ((ma 47), .inl (E 0, 5, .inl mf47)), ((ma 48), .inl (E 0, 5, .inl mf48)), ((ma 49), .inl (E 0, 5, .inl mf49)), ((ma 51), .inl (E 0, 15, .inl mf51)), ((ma 52), .inl (E 0, 15, .inl mf52)), ((ma 53), .inl (E 0, 15, .inl mf53)), ((ma 54), .inl (E 0, 15, .inl mf54)), ((ma 56), .inl (E 0, 200, .inl mf56)), ((ma 57), .inl (E 0, 600, .inl mf57)), ((ma 59), .inl (E 0, 3, .inl mf59_39)), ((ma 60), .inl (E 0, 3, .inl mf60_39))]) [12, 0, 13, 14, 15, 16, 17, 1, 2, 3, 4, 5, 6, 7, 8, 9, 10, 11] rfl
                    have hD := hD.sub (ws' := [(mh, .inr (9, G9 ma mcode mtoday moffs mmany msumW msumA msumR msumWW msumWA msumAA msumWR msumAR mupper mlower mrates mtaped mlaid mat mtk mtkAt mtkNumber mwaits mlisted mdealtMany)), ((ma 34), .inl (E 1, 2, .inl mf34)), ((ma 35), .inl (E 0, 2, .inl mf35)), ((ma 36), .inl (E 0, 384, .inl mf36)), ((ma 37), .inl (E 0, 384, .inl mf37)), ((ma 45), .inl (E 0, 130, .inl u_42)), ((ma 46), .inl (E 0, 24, .inl (upd (upd (upd (upd mf46_212 (20 : Int32).toNatClampNeg r_34) (21 : Int32).toNatClampNeg z_39) (22 : Int32).toNatClampNeg z_5) (23 : Int32).toNatClampNeg L7_212))), ((ma 47), .inl (E 0, 5, .inl mf47)), ((ma 48), .inl (E 0, 5, .inl mf48)), ((ma 49), .inl (E 0, 5, .inl mf49)), ((ma 51), .inl (E 0, 15, .inl mf51)), ((ma 52), .inl (E 0, 15, .inl mf52)), ((ma 53), .inl (E 0, 15, .inl mf53)), ((ma 54), .inl (E 0, 15, .inl mf54)), ((ma 56), .inl (E 0, 200, .inl mf56)), ((ma 57), .inl (E 0, 600, .inl mf57)), ((ma 59), .inl (E 0, 3, .inl mf59_39)), ((ma 60), .inl (E 0, 3, .inl mf60_39))]) [12, 0, 13, 14, 15, 16, 17, 1, 2, 3, 4, 5, 6, 7, 8, 9, 10, 11] (by decide) rfl
                    exact ih_15 z_44 r_40 L7_212 u_42 (upd (upd (upd (upd mf46_212 (20 : Int32).toNatClampNeg r_34) (21 : Int32).toNatClampNeg z_39) (22 : Int32).toNatClampNeg z_5) (23 : Int32).toNatClampNeg L7_212) _ _ _ (by have h0 := t_0; (try dsimp only); omega) (by have h0 := t_0; (try dsimp only); omega) (fun hHB => by have c0 := i_clamp0 (x := p0) (by omega); have c1 := i_clamp0 (x := p1) (by omega); have c7 := i_clamp0 (x := L7_212) (by omega); have t9 := v1_39 hHB; have ka : (z_19 : Int32).toNatClampNeg = ((L7_212).toNatClampNeg + 1) % 3 := (by have c9 := i_clamp0 (x := z_19) (by omega); omega); have kb : (z_23 : Int32).toNatClampNeg = ((L7_212).toNatClampNeg + 2) % 3 := (by have c9 := i_clamp0 (x := z_23) (by omega); omega); have xa := (t9 (((L7_212).toNatClampNeg + 1) % 3) (by omega)).1; have xb := (t9 (((L7_212).toNatClampNeg + 2) % 3) (by omega)).1; have xx := (t9 (L7_212).toNatClampNeg (by omega)).1; rw [← ka, ← ez_20] at xa; rw [← kb, ← ez_24] at xb; rw [← ez_27] at xx; have i53 : (z_38 : Int32).toNatClampNeg = 3 * (p0).toNatClampNeg + (L7_212).toNatClampNeg := (by have c9 := i_clamp0 (x := z_38) (by omega); omega); have i56 : (z_2 : Int32).toNatClampNeg = 40 * (p0).toNatClampNeg + (p1).toNatClampNeg := (by have c9 := i_clamp0 (x := z_2) (by omega); omega); have ho := off_of (x := z_27) (a := z_20) (b := z_24) ez_28 ez_21 ez_25 ez_26 hw_30 ez_32 ez_33; have hg9 : (upd (upd (upd (upd mf46_212 (20 : Int32).toNatClampNeg r_34) (21 : Int32).toNatClampNeg z_39) (22 : Int32).toNatClampNeg z_5) (23 : Int32).toNatClampNeg L7_212) = (upd (upd (upd (upd mf46_212 20 r_34) 21 z_39) 22 z_5) 23 L7_212) := (by simp only [ci_20, ci_21, ci_22, ci_23]); have sy9 := hw_41; rw [hg9, ci_1] at sy9; exact DPP_s (v1_212 hHB) (by omega) jz_44 ⟨_, ⟨by rw [uq_ne (i := 23) (j := 20) (by decide), uq_ne (i := 22) (j := 20) (by decide), uq_ne (i := 21) (j := 20) (by decide), uq_at]; rw [hw_35]; unfold ofM; (try dsimp only); rw [← ka, ← kb, ← xa, ← xb, ← xx, ← ho], by rw [uq_ne (i := 23) (j := 21) (by decide), uq_ne (i := 22) (j := 21) (by decide), uq_at]; (try dsimp only); rw [← i53]; exact ez_39, by rw [uq_ne (i := 23) (j := 22) (by decide), uq_at]; rw [← i56]; subst_vars; rfl, by rw [uq_at]; exact ofN_i (by omega)⟩, sy9⟩ (Or.inl ⟨by omega, by omega, by omega⟩)) hP hD hS (lv_sub hl [0, 2, 1, 5, 6, 7, 8, 9] rfl)
                  ·
                    have ic_43 : r_40.toInt ≤ L6_212.toInt := by first | exact (g_le rfl rfl).mp c_43 | (have h := mt (g_lt rfl rfl).mpr c_43; omega)
                    clear c_43
                    refine lv_goto (tgt := 333) hx hb dX9_work_322 (by decide) ?_
                    obtain ⟨z_45, ez_45⟩ : ∃ y : Int32, y = L7_212 + 1 := ⟨_, rfl⟩
                    have jz_45 : z_45.toInt = L7_212.toInt + 1 := by rw [ez_45]; exact g_add rfl t_1 (by omega) (by omega)
                    refine lv_iinc (v := z_45) (lv' := [(7, .int z_45), (10, .int r_40), (8, .long z_26), (6, .int L6_212), (5, .int L5_212), (4, .int 0), (3, .int z_5), (0, .ref mh), (1, .int p0), (2, .int p1)]) hx hb dX9_work_333 hl (k := 2) rfl (by rw [ez_45]; rfl) (by decide) rfl (fun ls hl => ?_)
                    refine lv_goto (tgt := 212) hx hb dX9_work_336 (by decide) ?_
                    have hP := hP.sub (ws' := [(mh, .inr (9, G9 ma mcode mtoday moffs mmany msumW msumA msumR msumWW msumWA msumAA msumWR msumAR mupper mlower mrates mtaped mlaid mat mtk mtkAt mtkNumber mwaits mlisted mdealtMany)), ((ma 34), .inl (E 1, 2, .inl mf34)), ((ma 35), .inl (E 0, 2, .inl mf35)), ((ma 36), .inl (E 0, 384, .inl mf36)), ((ma 37), .inl (E 0, 384, .inl mf37)), ((ma 45), .inl (E 0, 130, .inl u_42)), ((ma 46), .inl (E 0, 24, .inl (upd (upd (upd (upd mf46_212 (20 : Int32).toNatClampNeg r_34) (21 : Int32).toNatClampNeg z_39) (22 : Int32).toNatClampNeg z_5) (23 : Int32).toNatClampNeg L7_212))), ((ma 47), .inl (E 0, 5, .inl mf47)), ((ma 48), .inl (E 0, 5, .inl mf48)), ((ma 49), .inl (E 0, 5, .inl mf49)), ((ma 51), .inl (E 0, 15, .inl mf51)), ((ma 52), .inl (E 0, 15, .inl mf52)), ((ma 53), .inl (E 0, 15, .inl mf53)), ((ma 54), .inl (E 0, 15, .inl mf54)), ((ma 56), .inl (E 0, 200, .inl mf56)), ((ma 57), .inl (E 0, 600, .inl mf57)), ((ma 59), .inl (E 0, 3, .inl mf59_39)), ((ma 60), .inl (E 0, 3, .inl mf60_39))]) [12, 0, 13, 14, 15, 16, 17, 1, 2, 3, 4, 5, 6, 7, 8, 9, 10, 11] rfl
                    have hD := hD.sub (ws' := [(mh, .inr (9, G9 ma mcode mtoday moffs mmany msumW msumA msumR msumWW msumWA msumAA msumWR msumAR mupper mlower mrates mtaped mlaid mat mtk mtkAt mtkNumber mwaits mlisted mdealtMany)), ((ma 34), .inl (E 1, 2, .inl mf34)), ((ma 35), .inl (E 0, 2, .inl mf35)), ((ma 36), .inl (E 0, 384, .inl mf36)), ((ma 37), .inl (E 0, 384, .inl mf37)), ((ma 45), .inl (E 0, 130, .inl u_42)), ((ma 46), .inl (E 0, 24, .inl (upd (upd (upd (upd mf46_212 (20 : Int32).toNatClampNeg r_34) (21 : Int32).toNatClampNeg z_39) (22 : Int32).toNatClampNeg z_5) (23 : Int32).toNatClampNeg L7_212))), ((ma 47), .inl (E 0, 5, .inl mf47)), ((ma 48), .inl (E 0, 5, .inl mf48)), ((ma 49), .inl (E 0, 5, .inl mf49)), ((ma 51), .inl (E 0, 15, .inl mf51)), ((ma 52), .inl (E 0, 15, .inl mf52)), ((ma 53), .inl (E 0, 15, .inl mf53)), ((ma 54), .inl (E 0, 15, .inl mf54)), ((ma 56), .inl (E 0, 200, .inl mf56)), ((ma 57), .inl (E 0, 600, .inl mf57)), ((ma 59), .inl (E 0, 3, .inl mf59_39)), ((ma 60), .inl (E 0, 3, .inl mf60_39))]) [12, 0, 13, 14, 15, 16, 17, 1, 2, 3, 4, 5, 6, 7, 8, 9, 10, 11] (by decide) rfl
                    exact ih_15 z_45 L6_212 L5_212 u_42 (upd (upd (upd (upd mf46_212 (20 : Int32).toNatClampNeg r_34) (21 : Int32).toNatClampNeg z_39) (22 : Int32).toNatClampNeg z_5) (23 : Int32).toNatClampNeg L7_212) _ _ _ (by have h0 := t_0; (try dsimp only); omega) (by have h0 := t_0; (try dsimp only); omega) (fun hHB => by have c0 := i_clamp0 (x := p0) (by omega); have c1 := i_clamp0 (x := p1) (by omega); have c7 := i_clamp0 (x := L7_212) (by omega); have t9 := v1_39 hHB; have ka : (z_19 : Int32).toNatClampNeg = ((L7_212).toNatClampNeg + 1) % 3 := (by have c9 := i_clamp0 (x := z_19) (by omega); omega); have kb : (z_23 : Int32).toNatClampNeg = ((L7_212).toNatClampNeg + 2) % 3 := (by have c9 := i_clamp0 (x := z_23) (by omega); omega); have xa := (t9 (((L7_212).toNatClampNeg + 1) % 3) (by omega)).1; have xb := (t9 (((L7_212).toNatClampNeg + 2) % 3) (by omega)).1; have xx := (t9 (L7_212).toNatClampNeg (by omega)).1; rw [← ka, ← ez_20] at xa; rw [← kb, ← ez_24] at xb; rw [← ez_27] at xx; have i53 : (z_38 : Int32).toNatClampNeg = 3 * (p0).toNatClampNeg + (L7_212).toNatClampNeg := (by have c9 := i_clamp0 (x := z_38) (by omega); omega); have i56 : (z_2 : Int32).toNatClampNeg = 40 * (p0).toNatClampNeg + (p1).toNatClampNeg := (by have c9 := i_clamp0 (x := z_2) (by omega); omega); have ho := off_of (x := z_27) (a := z_20) (b := z_24) ez_28 ez_21 ez_25 ez_26 hw_30 ez_32 ez_33; have hg9 : (upd (upd (upd (upd mf46_212 (20 : Int32).toNatClampNeg r_34) (21 : Int32).toNatClampNeg z_39) (22 : Int32).toNatClampNeg z_5) (23 : Int32).toNatClampNeg L7_212) = (upd (upd (upd (upd mf46_212 20 r_34) 21 z_39) 22 z_5) 23 L7_212) := (by simp only [ci_20, ci_21, ci_22, ci_23]); have sy9 := hw_41; rw [hg9, ci_1] at sy9; exact DPP_s (v1_212 hHB) (by omega) jz_45 ⟨_, ⟨by rw [uq_ne (i := 23) (j := 20) (by decide), uq_ne (i := 22) (j := 20) (by decide), uq_ne (i := 21) (j := 20) (by decide), uq_at]; rw [hw_35]; unfold ofM; (try dsimp only); rw [← ka, ← kb, ← xa, ← xb, ← xx, ← ho], by rw [uq_ne (i := 23) (j := 21) (by decide), uq_ne (i := 22) (j := 21) (by decide), uq_at]; (try dsimp only); rw [← i53]; exact ez_39, by rw [uq_ne (i := 23) (j := 22) (by decide), uq_at]; rw [← i56]; subst_vars; rfl, by rw [uq_at]; exact ofN_i (by omega)⟩, sy9⟩ (Or.inr ⟨by omega, rfl, rfl⟩)) hP hD hS (lv_sub hl [0, 3, 4, 5, 6, 7, 8, 9] rfl)
            exact loop_14 4 0 0 ((-1)) mf45 mf46 _ _ _ (by have h0 := t_m1; have h1 := t_0; (try dsimp only); omega) (by have h0 := t_m1; have h1 := t_0; (try dsimp only); omega) (fun _ => by rw [clamp_0]; exact ⟨t_m1, t_0⟩) hP hD hS (lv_sub hl [0, 1, 2, 3, 4, 5, 6, 7] rfl)
          ·
            have ic_13 : z_12.toInt = 0 := (g_eq rfl t_0).mp c_13
            clear c_13
            refine lv_iconst (v := (-1)) hx hb dX9_work_201 (by decide) ?_
            have hP9 := hP.sub (ws' := [(mh, .inr (9, G9 ma mcode mtoday moffs mmany msumW msumA msumR msumWW msumWA msumAA msumWR msumAR mupper mlower mrates mtaped mlaid mat mtk mtkAt mtkNumber mwaits mlisted mdealtMany)), ((ma 34), .inl (E 1, 2, .inl mf34)), ((ma 35), .inl (E 0, 2, .inl mf35)), ((ma 36), .inl (E 0, 384, .inl mf36)), ((ma 37), .inl (E 0, 384, .inl mf37)), ((ma 45), .inl (E 0, 130, .inl mf45)), ((ma 46), .inl (E 0, 24, .inl mf46)), ((ma 47), .inl (E 0, 5, .inl mf47)), ((ma 48), .inl (E 0, 5, .inl mf48)), ((ma 49), .inl (E 0, 5, .inl mf49)), ((ma 51), .inl (E 0, 15, .inl mf51)), ((ma 52), .inl (E 0, 15, .inl mf52)), ((ma 53), .inl (E 0, 15, .inl mf53)), ((ma 54), .inl (E 0, 15, .inl mf54)), ((ma 56), .inl (E 0, 200, .inl mf56)), ((ma 57), .inl (E 0, 600, .inl mf57)), ((ma 59), .inl (E 0, 3, .inl mf59_39)), ((ma 60), .inl (E 0, 3, .inl mf60_39))]) [0, 1, 2, 3, 4, 5, 6, 7, 8, 9, 10, 11, 12, 13, 14, 15, 16, 17] rfl
            have hD9 := hD.sub (ws' := [(mh, .inr (9, G9 ma mcode mtoday moffs mmany msumW msumA msumR msumWW msumWA msumAA msumWR msumAR mupper mlower mrates mtaped mlaid mat mtk mtkAt mtkNumber mwaits mlisted mdealtMany)), ((ma 34), .inl (E 1, 2, .inl mf34)), ((ma 35), .inl (E 0, 2, .inl mf35)), ((ma 36), .inl (E 0, 384, .inl mf36)), ((ma 37), .inl (E 0, 384, .inl mf37)), ((ma 45), .inl (E 0, 130, .inl mf45)), ((ma 46), .inl (E 0, 24, .inl mf46)), ((ma 47), .inl (E 0, 5, .inl mf47)), ((ma 48), .inl (E 0, 5, .inl mf48)), ((ma 49), .inl (E 0, 5, .inl mf49)), ((ma 51), .inl (E 0, 15, .inl mf51)), ((ma 52), .inl (E 0, 15, .inl mf52)), ((ma 53), .inl (E 0, 15, .inl mf53)), ((ma 54), .inl (E 0, 15, .inl mf54)), ((ma 56), .inl (E 0, 200, .inl mf56)), ((ma 57), .inl (E 0, 600, .inl mf57)), ((ma 59), .inl (E 0, 3, .inl mf59_39)), ((ma 60), .inl (E 0, 3, .inl mf60_39))]) [0, 1, 2, 3, 4, 5, 6, 7, 8, 9, 10, 11, 12, 13, 14, 15, 16, 17] (by decide) rfl
            exact W.iret (v := (-1)) hx hb hr (fun t ht hW => ⟨⟨(-1), (mf45, mf46, mf59_39, mf60_39), rfl, ⟨(fun hHB k hk => v1_39 hHB k (by omega)), (fun hHB => by have hl := t_m1; refine Or.inl ⟨?_, by omega⟩; rw [← ci_1, ← ez_12]; omega)⟩, by rw [ht]; exact hP9, hD9⟩, hS.F ht⟩) hS.2.2 dX9_work_202
        ·
          have ic_11 : L5_39.toInt < 3 := by first | exact (g_lt rfl t_3).mp c_11 | (have h := mt (g_le t_3 rfl).mpr c_11; omega)
          clear c_11
          refine lv_iconst (v := 3) hx hb dX9_work_45 (by decide) ?_
          refine lv_iload_n hx hb dX9_work_46 rfl (lv_at hl 4 rfl) ?_
          refine lv_imul hx hb dX9_work_47 ?_
          refine lv_topi (fun z_46 ez_46 => ?_)
          have jz_46 : z_46.toInt = 3 * p0.toInt := by rw [ez_46]; exact g_mul t_3 rfl (by omega) (by omega)
          refine lv_iload hx hb dX9_work_48 (lv_at hl 0 rfl) ?_
          refine lv_iadd hx hb dX9_work_50 ?_
          refine lv_topi (fun z_47 ez_47 => ?_)
          have jz_47 : z_47.toInt = z_46.toInt + L5_39.toInt := by rw [ez_47]; exact g_add rfl rfl (by omega) (by omega)
          refine lv_istore (lv' := [(6, .int z_47), (5, .int L5_39), (4, .int 0), (3, .int z_5), (0, .ref mh), (1, .int p0), (2, .int p1)]) hx hb dX9_work_51 hl (by decide) rfl (fun ls hl => ?_)
          refine lv_iload hx hb dX9_work_53 (lv_at hl 2 rfl) ?_
          refine lv_if_eq (tgt := 91) hx hb dX9_work_55 (by decide) (fun c_48 => ?_) (fun c_48 => absurd (by decide) c_48)
          refine lv_aload_n hx hb dX9_work_91 rfl (lv_at hl 4 rfl) ?_
          refine va_get (D := D) (ci := 9) (v := .ref (ma 52)) (C := RX9) (T := TX9) (N := 68) hx hb htb iX9 hown hK.1 hP 0 rfl rfl 52 (by decide) (htb _ k_1010) (fun _ h9 => h9) rfl dX9_work_92 ?_
          refine lv_iload hx hb dX9_work_95 (lv_at hl 0 rfl) ?_
          refine va_iald hx hb hK.1 hP 11 0 rfl rfl (g_in rfl (by omega) (by omega)) dX9_work_97 ?_
          refine lv_topi (fun z_49 ez_49 => ?_)
          have kz_49 := congrArg Int32.toInt ez_49
          refine lv_iload_n hx hb dX9_work_98 rfl (lv_at hl 3 rfl) ?_
          refine lv_imul hx hb dX9_work_99 ?_
          refine lv_topi (fun z_50 ez_50 => ?_)
          refine lv_istore (lv' := [(7, .int z_50), (6, .int z_47), (5, .int L5_39), (4, .int 0), (3, .int z_5), (0, .ref mh), (1, .int p0), (2, .int p1)]) hx hb dX9_work_100 hl (by decide) rfl (fun ls hl => ?_)
          refine lv_aload_n hx hb dX9_work_102 rfl (lv_at hl 5 rfl) ?_
          refine va_get (D := D) (ci := 9) (v := .ref (ma 59)) (C := RX9) (T := TX9) (N := 68) hx hb htb iX9 hown hK.1 hP 0 rfl rfl 59 (by decide) (htb _ k_1017) (fun _ h9 => h9) rfl dX9_work_103 ?_
          refine lv_iload hx hb dX9_work_106 (lv_at hl 2 rfl) ?_
          refine lv_aload_n hx hb dX9_work_108 rfl (lv_at hl 5 rfl) ?_
          refine va_get (D := D) (ci := 9) (v := .ref (ma 57)) (C := RX9) (T := TX9) (N := 68) hx hb htb iX9 hown hK.1 hP 0 rfl rfl 57 (by decide) (htb _ k_1015) (fun _ h9 => h9) rfl dX9_work_109 ?_
          refine lv_iconst (v := 3) hx hb dX9_work_112 (by decide) ?_
          refine lv_bipush (v := 40) hx hb dX9_work_113 (by decide) ?_
          refine lv_iload_n hx hb dX9_work_115 rfl (lv_at hl 6 rfl) ?_
          refine lv_imul hx hb dX9_work_116 ?_
          refine lv_topi (fun z_51 ez_51 => ?_)
          have jz_51 : z_51.toInt = 40 * p0.toInt := by rw [ez_51]; exact g_mul t_40 rfl (by omega) (by omega)
          refine lv_iload_n hx hb dX9_work_117 rfl (lv_at hl 7 rfl) ?_
          refine lv_iadd hx hb dX9_work_118 ?_
          refine lv_topi (fun z_52 ez_52 => ?_)
          have jz_52 : z_52.toInt = z_51.toInt + p1.toInt := by rw [ez_52]; exact g_add rfl rfl (by omega) (by omega)
          refine lv_imul hx hb dX9_work_119 ?_
          refine lv_topi (fun z_53 ez_53 => ?_)
          have jz_53 : z_53.toInt = 3 * z_52.toInt := by rw [ez_53]; exact g_mul t_3 rfl (by omega) (by omega)
          refine lv_iload hx hb dX9_work_120 (lv_at hl 2 rfl) ?_
          refine lv_iadd hx hb dX9_work_122 ?_
          refine lv_topi (fun z_54 ez_54 => ?_)
          have jz_54 : z_54.toInt = z_53.toInt + L5_39.toInt := by rw [ez_54]; exact g_add rfl rfl (by omega) (by omega)
          refine va_iald hx hb hK.1 hP 15 0 rfl rfl (g_in rfl (by omega) (by omega)) dX9_work_123 ?_
          refine lv_topi (fun z_55 ez_55 => ?_)
          have kz_55 := congrArg Int32.toInt ez_55
          refine lv_aload_n hx hb dX9_work_124 rfl (lv_at hl 5 rfl) ?_
          refine va_get (D := D) (ci := 9) (v := .ref (ma 51)) (C := RX9) (T := TX9) (N := 68) hx hb htb iX9 hown hK.1 hP 0 rfl rfl 51 (by decide) (htb _ k_1009) (fun _ h9 => h9) rfl dX9_work_125 ?_
          refine lv_iload hx hb dX9_work_128 (lv_at hl 1 rfl) ?_
          refine va_iald hx hb hK.1 hP 10 0 rfl rfl (g_in rfl (by omega) (by omega)) dX9_work_130 ?_
          refine lv_topi (fun z_56 ez_56 => ?_)
          have kz_56 := congrArg Int32.toInt ez_56
          refine lv_isub hx hb dX9_work_131 ?_
          refine lv_topi (fun z_57 ez_57 => ?_)
          refine lv_iload hx hb dX9_work_132 (lv_at hl 0 rfl) ?_
          refine lv_isub hx hb dX9_work_134 ?_
          refine lv_topi (fun z_58 ez_58 => ?_)
          refine va_iast hx hb hK.1 hP hD hS 16 0 rfl rfl (g_in rfl (by omega) (by omega)) dX9_work_135 (fun H locs hP hD hS => ?_)
          have hP : va_P D vwCl [(mh, .inr (9, G9 ma mcode mtoday moffs mmany msumW msumA msumR msumWW msumWA msumAA msumWR msumAR mupper mlower mrates mtaped mlaid mat mtk mtkAt mtkNumber mwaits mlisted mdealtMany)), ((ma 34), .inl (E 1, 2, .inl mf34)), ((ma 35), .inl (E 0, 2, .inl mf35)), ((ma 36), .inl (E 0, 384, .inl mf36)), ((ma 37), .inl (E 0, 384, .inl mf37)), ((ma 45), .inl (E 0, 130, .inl mf45)), ((ma 46), .inl (E 0, 24, .inl mf46)), ((ma 47), .inl (E 0, 5, .inl mf47)), ((ma 48), .inl (E 0, 5, .inl mf48)), ((ma 49), .inl (E 0, 5, .inl mf49)), ((ma 51), .inl (E 0, 15, .inl mf51)), ((ma 52), .inl (E 0, 15, .inl mf52)), ((ma 53), .inl (E 0, 15, .inl mf53)), ((ma 54), .inl (E 0, 15, .inl mf54)), ((ma 56), .inl (E 0, 200, .inl mf56)), ((ma 57), .inl (E 0, 600, .inl mf57)), ((ma 59), .inl (E 0, 3, .inl (upd mf59_39 (L5_39 : Int32).toNatClampNeg z_58))), ((ma 60), .inl (E 0, 3, .inl mf60_39))] H := hP
          have hD := toW hP hD rfl
          refine lv_iload hx hb dX9_work_136 (lv_at hl 3 rfl) ?_
          refine lv_if_eq (tgt := 164) hx hb dX9_work_138 (by decide) (fun c_59 => ?_) (fun c_59 => absurd (by decide) c_59)
          refine lv_iload_n hx hb dX9_work_164 rfl (lv_at hl 4 rfl) ?_
          refine lv_istore (lv' := [(8, .int z_5), (7, .int z_50), (6, .int z_47), (5, .int L5_39), (4, .int 0), (3, .int z_5), (0, .ref mh), (1, .int p0), (2, .int p1)]) hx hb dX9_work_165 hl (by decide) rfl (fun ls hl => ?_)
          refine lv_aload_n hx hb dX9_work_167 rfl (lv_at hl 6 rfl) ?_
          refine va_get (D := D) (ci := 9) (v := .ref (ma 60)) (C := RX9) (T := TX9) (N := 68) hx hb htb iX9 hown hK.1 hP 0 rfl rfl 60 (by decide) (htb _ k_1018) (fun _ h9 => h9) rfl dX9_work_168 ?_
          refine lv_iload hx hb dX9_work_171 (lv_at hl 3 rfl) ?_
          refine lv_aload_n hx hb dX9_work_173 rfl (lv_at hl 6 rfl) ?_
          refine va_get (D := D) (ci := 9) (v := .ref (ma 53)) (C := RX9) (T := TX9) (N := 68) hx hb htb iX9 hown hK.1 hP 0 rfl rfl 53 (by decide) (htb _ k_1011) (fun _ h9 => h9) rfl dX9_work_174 ?_
          refine lv_iload hx hb dX9_work_177 (lv_at hl 2 rfl) ?_
          refine va_iald hx hb hK.1 hP 12 0 rfl rfl (g_in rfl (by omega) (by omega)) dX9_work_179 ?_
          refine lv_topi (fun z_60 ez_60 => ?_)
          have kz_60 := congrArg Int32.toInt ez_60
          refine lv_iload hx hb dX9_work_180 (lv_at hl 0 rfl) ?_
          refine lv_imul hx hb dX9_work_182 ?_
          refine lv_topi (fun z_61 ez_61 => ?_)
          refine lv_iconst (v := 5) hx hb dX9_work_183 (by decide) ?_
          refine lv_iadd hx hb dX9_work_184 ?_
          refine lv_topi (fun z_62 ez_62 => ?_)
          refine va_iast hx hb hK.1 hP hD hS 17 0 rfl rfl (g_in rfl (by omega) (by omega)) dX9_work_185 (fun H locs hP hD hS => ?_)
          have hP : va_P D vwCl [(mh, .inr (9, G9 ma mcode mtoday moffs mmany msumW msumA msumR msumWW msumWA msumAA msumWR msumAR mupper mlower mrates mtaped mlaid mat mtk mtkAt mtkNumber mwaits mlisted mdealtMany)), ((ma 34), .inl (E 1, 2, .inl mf34)), ((ma 35), .inl (E 0, 2, .inl mf35)), ((ma 36), .inl (E 0, 384, .inl mf36)), ((ma 37), .inl (E 0, 384, .inl mf37)), ((ma 45), .inl (E 0, 130, .inl mf45)), ((ma 46), .inl (E 0, 24, .inl mf46)), ((ma 47), .inl (E 0, 5, .inl mf47)), ((ma 48), .inl (E 0, 5, .inl mf48)), ((ma 49), .inl (E 0, 5, .inl mf49)), ((ma 51), .inl (E 0, 15, .inl mf51)), ((ma 52), .inl (E 0, 15, .inl mf52)), ((ma 53), .inl (E 0, 15, .inl mf53)), ((ma 54), .inl (E 0, 15, .inl mf54)), ((ma 56), .inl (E 0, 200, .inl mf56)), ((ma 57), .inl (E 0, 600, .inl mf57)), ((ma 59), .inl (E 0, 3, .inl (upd mf59_39 (L5_39 : Int32).toNatClampNeg z_58))), ((ma 60), .inl (E 0, 3, .inl (upd mf60_39 (L5_39 : Int32).toNatClampNeg z_62)))] H := hP
          have hD := toW hP hD rfl
          obtain ⟨z_63, ez_63⟩ : ∃ y : Int32, y = L5_39 + 1 := ⟨_, rfl⟩
          have jz_63 : z_63.toInt = L5_39.toInt + 1 := by rw [ez_63]; exact g_add rfl t_1 (by omega) (by omega)
          refine lv_iinc (v := z_63) (lv' := [(5, .int z_63), (8, .int z_5), (7, .int z_50), (6, .int z_47), (4, .int 0), (3, .int z_5), (0, .ref mh), (1, .int p0), (2, .int p1)]) hx hb dX9_work_186 hl (k := 3) rfl (by rw [ez_63]; rfl) (by decide) rfl (fun ls hl => ?_)
          refine lv_goto (tgt := 39) hx hb dX9_work_189 (by decide) ?_
          exact ih_9 z_63 (upd mf59_39 (L5_39 : Int32).toNatClampNeg z_58) (upd mf60_39 (L5_39 : Int32).toNatClampNeg z_62) _ _ _ (by have h0 := t_0; (try dsimp only); omega) (by have h0 := t_0; (try dsimp only); omega) (fun hHB => fill2 (v1_39 hHB) (by omega) jz_63 (by have c0 := i_clamp0 (x := p0) (by omega); have c1 := i_clamp0 (x := p1) (by omega); have c5 := i_clamp0 (x := L5_39) (by omega); have h2 : mf47 (p0).toNatClampNeg = z_6 := ez_6.symm; have i56 : (z_2 : Int32).toNatClampNeg = 40 * (p0).toNatClampNeg + (p1).toNatClampNeg := (by have c9 := i_clamp0 (x := z_2) (by omega); omega); have i57 : (z_54 : Int32).toNatClampNeg = 3 * (40 * (p0).toNatClampNeg + (p1).toNatClampNeg) + (L5_39).toNatClampNeg := (by have c9 := i_clamp0 (x := z_54) (by omega); omega); have i51 : (z_47 : Int32).toNatClampNeg = 3 * (p0).toNatClampNeg + (L5_39).toNatClampNeg := (by have c9 := i_clamp0 (x := z_47) (by omega); omega); unfold tmM; rw [if_neg (by rw [h2]; omega), ← i57, ← i51, ← i56]; subst_vars; rfl) (by have c0 := i_clamp0 (x := p0) (by omega); have c1 := i_clamp0 (x := p1) (by omega); have c5 := i_clamp0 (x := L5_39) (by omega); have h2 : mf47 (p0).toNatClampNeg = z_6 := ez_6.symm; have i56 : (z_2 : Int32).toNatClampNeg = 40 * (p0).toNatClampNeg + (p1).toNatClampNeg := (by have c9 := i_clamp0 (x := z_2) (by omega); omega); have i57 : (z_54 : Int32).toNatClampNeg = 3 * (40 * (p0).toNatClampNeg + (p1).toNatClampNeg) + (L5_39).toNatClampNeg := (by have c9 := i_clamp0 (x := z_54) (by omega); omega); have i51 : (z_47 : Int32).toNatClampNeg = 3 * (p0).toNatClampNeg + (L5_39).toNatClampNeg := (by have c9 := i_clamp0 (x := z_47) (by omega); omega); unfold wdM; rw [← i51, ← i56]; first | (rw [if_pos ⟨by rw [h2]; omega, by subst_vars; omega⟩]; subst_vars; rfl) | (rw [if_neg (fun hh => by have q1 := hh.1; have q2 := hh.2; rw [h2] at q1; first | omega | (subst_vars; omega))]; subst_vars; rfl))) hP hD hS (lv_sub hl [0, 4, 5, 6, 7, 8] rfl)
    exact loop_8 4 0 mf59 mf60 _ _ _ (by have h0 := t_0; (try dsimp only); omega) (by have h0 := t_0; (try dsimp only); omega) (fun hHB k hk => absurd hk (by have h0 := t_0; omega)) hP hD hS (lv_sub hl [0, 1, 2, 3, 4, 5] rfl)
  ·
    have ic_7 : z_6.toInt = 2 := (g_eq rfl t_2).mp c_7
    clear c_7
    refine lv_iconst (v := 1) hx hb dX9_work_29 (by decide) ?_
    refine lv_goto (tgt := 34) hx hb dX9_work_30 (by decide) ?_
    refine lv_istore (lv' := [(4, .int 1), (3, .int z_5), (0, .ref mh), (1, .int p0), (2, .int p1)]) hx hb dX9_work_34 hl (by decide) rfl (fun ls hl => ?_)
    refine lv_iconst (v := 0) hx hb dX9_work_36 (by decide) ?_
    refine lv_istore (lv' := [(5, .int 0), (4, .int 1), (3, .int z_5), (0, .ref mh), (1, .int p0), (2, .int p1)]) hx hb dX9_work_37 hl (by decide) rfl (fun ls hl => ?_)
    have loop_64 : ∀ (N_66 : Nat) (L5_39 : Int32) (mf59_39 : Nat → Int32) (mf60_39 : Nat → Int32) (H : Heap) (locs : List Loc) (ls : Array Slot), 3 - L5_39.toInt < (N_66 : Int) → (0 ≤ L5_39.toInt ∧ L5_39.toInt ≤ 3) → (((mf47 (p0).toNatClampNeg).toInt = 2 → 0 < (mf49 (p0).toNatClampNeg).toInt) → ∀ k : Nat, (k : Int) < L5_39.toInt → mf59_39 k = tmM (mf47 (p0).toNatClampNeg) (mf49 (p0).toNatClampNeg) (mf48 (p0).toNatClampNeg) mf51 mf52 mf54 mf56 mf57 (p0).toNatClampNeg (p1).toNatClampNeg k ∧ mf60_39 k = wdM (mf47 (p0).toNatClampNeg) (mf49 (p0).toNatClampNeg) (mf48 (p0).toNatClampNeg) mf53 mf56 (p0).toNatClampNeg (p1).toNatClampNeg k) → va_P D vwCl [(mh, .inr (9, G9 ma mcode mtoday moffs mmany msumW msumA msumR msumWW msumWA msumAA msumWR msumAR mupper mlower mrates mtaped mlaid mat mtk mtkAt mtkNumber mwaits mlisted mdealtMany)), ((ma 34), .inl (E 1, 2, .inl mf34)), ((ma 35), .inl (E 0, 2, .inl mf35)), ((ma 36), .inl (E 0, 384, .inl mf36)), ((ma 37), .inl (E 0, 384, .inl mf37)), ((ma 45), .inl (E 0, 130, .inl mf45)), ((ma 46), .inl (E 0, 24, .inl mf46)), ((ma 47), .inl (E 0, 5, .inl mf47)), ((ma 48), .inl (E 0, 5, .inl mf48)), ((ma 49), .inl (E 0, 5, .inl mf49)), ((ma 51), .inl (E 0, 15, .inl mf51)), ((ma 52), .inl (E 0, 15, .inl mf52)), ((ma 53), .inl (E 0, 15, .inl mf53)), ((ma 54), .inl (E 0, 15, .inl mf54)), ((ma 56), .inl (E 0, 200, .inl mf56)), ((ma 57), .inl (E 0, 600, .inl mf57)), ((ma 59), .inl (E 0, 3, .inl mf59_39)), ((ma 60), .inl (E 0, 3, .inl mf60_39))] H → va_D A [(mh, .inr (9, G9 ma mcode mtoday moffs mmany msumW msumA msumR msumWW msumWA msumAA msumWR msumAR mupper mlower mrates mtaped mlaid mat mtk mtkAt mtkNumber mwaits mlisted mdealtMany)), ((ma 34), .inl (E 1, 2, .inl mf34)), ((ma 35), .inl (E 0, 2, .inl mf35)), ((ma 36), .inl (E 0, 384, .inl mf36)), ((ma 37), .inl (E 0, 384, .inl mf37)), ((ma 45), .inl (E 0, 130, .inl mf45)), ((ma 46), .inl (E 0, 24, .inl mf46)), ((ma 47), .inl (E 0, 5, .inl mf47)), ((ma 48), .inl (E 0, 5, .inl mf48)), ((ma 49), .inl (E 0, 5, .inl mf49)), ((ma 51), .inl (E 0, 15, .inl mf51)), ((ma 52), .inl (E 0, 15, .inl mf52)), ((ma 53), .inl (E 0, 15, .inl mf53)), ((ma 54), .inl (E 0, 15, .inl mf54)), ((ma 56), .inl (E 0, 200, .inl mf56)), ((ma 57), .inl (E 0, 600, .inl mf57)), ((ma 59), .inl (E 0, 3, .inl mf59_39)), ((ma 60), .inl (E 0, 3, .inl mf60_39))] → va_S A s.heap H locs → lv_has ls 11 [(5, .int L5_39), (4, .int 1), (3, .int z_5), (0, .ref mh), (1, .int p0), (2, .int p1)] → W p l e (headSpec (wl yX9_work cX9_work 11 (some .int)) (RM 2 0 0)).room s m [Value.ref mh, .int p0, .int p1].toArray below meth c H locs 0 0 (MQ below (va_Qi (fun (r : Int32) (u : (Nat → Int32) × (Nat → Int32) × (Nat → Int32) × (Nat → Int32)) => (((mf47 (p0).toNatClampNeg).toInt = 2 → 0 < (mf49 (p0).toNatClampNeg).toInt) → ∀ k : Nat, (k : Int) < 3 → u.2.2.1 k = tmM (mf47 (p0).toNatClampNeg) (mf49 (p0).toNatClampNeg) (mf48 (p0).toNatClampNeg) mf51 mf52 mf54 mf56 mf57 (p0).toNatClampNeg (p1).toNatClampNeg k ∧ u.2.2.2 k = wdM (mf47 (p0).toNatClampNeg) (mf49 (p0).toNatClampNeg) (mf48 (p0).toNatClampNeg) mf53 mf56 (p0).toNatClampNeg (p1).toNatClampNeg k) ∧ (((mf47 (p0).toNatClampNeg).toInt = 2 → 0 < (mf49 (p0).toNatClampNeg).toInt) → DRM (fun k => tmM (mf47 (p0).toNatClampNeg) (mf49 (p0).toNatClampNeg) (mf48 (p0).toNatClampNeg) mf51 mf52 mf54 mf56 mf57 (p0).toNatClampNeg (p1).toNatClampNeg k) (fun k => mf53 (3 * (p0).toNatClampNeg + k)) (mf56 (40 * (p0).toNatClampNeg + (p1).toNatClampNeg) - mf48 (p0).toNatClampNeg) (mf34 1) mf36 mf37 (mf35 1) r.toInt)) (mu_B D A (fun (u : (Nat → Int32) × (Nat → Int32) × (Nat → Int32) × (Nat → Int32)) => [(mh, .inr (9, G9 ma mcode mtoday moffs mmany msumW msumA msumR msumWW msumWA msumAA msumWR msumAR mupper mlower mrates mtaped mlaid mat mtk mtkAt mtkNumber mwaits mlisted mdealtMany)), ((ma 34), .inl (E 1, 2, .inl mf34)), ((ma 35), .inl (E 0, 2, .inl mf35)), ((ma 36), .inl (E 0, 384, .inl mf36)), ((ma 37), .inl (E 0, 384, .inl mf37)), ((ma 45), .inl (E 0, 130, .inl u.1)), ((ma 46), .inl (E 0, 24, .inl u.2.1)), ((ma 47), .inl (E 0, 5, .inl mf47)), ((ma 48), .inl (E 0, 5, .inl mf48)), ((ma 49), .inl (E 0, 5, .inl mf49)), ((ma 51), .inl (E 0, 15, .inl mf51)), ((ma 52), .inl (E 0, 15, .inl mf52)), ((ma 53), .inl (E 0, 15, .inl mf53)), ((ma 54), .inl (E 0, 15, .inl mf54)), ((ma 56), .inl (E 0, 200, .inl mf56)), ((ma 57), .inl (E 0, 600, .inl mf57)), ((ma 59), .inl (E 0, 3, .inl u.2.2.1)), ((ma 60), .inl (E 0, 3, .inl u.2.2.2))])) A) [Value.ref mh, .int p0, .int p1].toArray s 0 0 A) (F0 m 39 ls []) := by
      intro N_66
      induction N_66 with
      | zero => intro L5_39 mf59_39 mf60_39 H locs ls hm v0_39 v1_39 _ _ _ _; exfalso; omega
      | succ N_66 ih_65 =>
        intro L5_39 mf59_39 mf60_39 H locs ls hm v0_39 v1_39 hP hD hS hl
        have lo_L5_39 := i_lo L5_39; have hi_L5_39 := i_hi L5_39
        refine lv_iload hx hb dX9_work_39 (lv_at hl 0 rfl) ?_
        refine lv_iconst (v := 3) hx hb dX9_work_41 (by decide) ?_
        refine lv_icmp_ge (tgt := 192) hx hb dX9_work_42 (by decide) (fun c_67 => ?_) (fun c_67 => ?_)
        ·
          have ic_67 : 3 ≤ L5_39.toInt := by first | exact (g_le t_3 rfl).mp c_67 | (have h := mt (g_lt rfl t_3).mpr c_67; omega)
          clear c_67
          refine lv_aload_n hx hb dX9_work_192 rfl (lv_at hl 3 rfl) ?_
          refine va_get (D := D) (ci := 9) (v := .ref (ma 34)) (C := RX9) (T := TX9) (N := 68) hx hb htb iX9 hown hK.1 hP 0 rfl rfl 34 (by decide) (htb _ k_992) (fun _ h9 => h9) rfl dX9_work_193 ?_
          refine lv_iconst (v := 1) hx hb dX9_work_196 (by decide) ?_
          refine va_zald hx hb hK.1 hP 1 1 rfl rfl (g_in t_1 (by decide) (by decide)) dX9_work_197 ?_
          refine lv_topi (fun z_68 ez_68 => ?_)
          have kz_68 := congrArg Int32.toInt ez_68
          refine lv_if_ne (tgt := 203) hx hb dX9_work_198 (by decide) (fun c_69 => ?_) (fun c_69 => ?_)
          ·
            have ic_69 : z_68.toInt ≠ 0 := mt (g_eq rfl t_0).mpr c_69
            clear c_69
            refine lv_iconst (v := (-1)) hx hb dX9_work_203 (by decide) ?_
            refine lv_istore (lv' := [(5, .int (-1)), (4, .int 1), (3, .int z_5), (0, .ref mh), (1, .int p0), (2, .int p1)]) hx hb dX9_work_204 hl (by decide) rfl (fun ls hl => ?_)
            refine lv_iconst (v := 0) hx hb dX9_work_206 (by decide) ?_
            refine lv_istore (lv' := [(6, .int 0), (5, .int (-1)), (4, .int 1), (3, .int z_5), (0, .ref mh), (1, .int p0), (2, .int p1)]) hx hb dX9_work_207 hl (by decide) rfl (fun ls hl => ?_)
            refine lv_iconst (v := 0) hx hb dX9_work_209 (by decide) ?_
            refine lv_istore (lv' := [(7, .int 0), (6, .int 0), (5, .int (-1)), (4, .int 1), (3, .int z_5), (0, .ref mh), (1, .int p0), (2, .int p1)]) hx hb dX9_work_210 hl (by decide) rfl (fun ls hl => ?_)
            have loop_70 : ∀ (N_72 : Nat) (L7_212 : Int32) (L6_212 : Int32) (L5_212 : Int32) (mf45_212 : Nat → Int32) (mf46_212 : Nat → Int32) (H : Heap) (locs : List Loc) (ls : Array Slot), 3 - L7_212.toInt < (N_72 : Int) → (0 ≤ L7_212.toInt ∧ L7_212.toInt ≤ 3) → (((mf47 (p0).toNatClampNeg).toInt = 2 → 0 < (mf49 (p0).toNatClampNeg).toInt) → DPP (TDM (fun k => tmM (mf47 (p0).toNatClampNeg) (mf49 (p0).toNatClampNeg) (mf48 (p0).toNatClampNeg) mf51 mf52 mf54 mf56 mf57 (p0).toNatClampNeg (p1).toNatClampNeg k) (fun k => mf53 (3 * (p0).toNatClampNeg + k)) (mf56 (40 * (p0).toNatClampNeg + (p1).toNatClampNeg) - mf48 (p0).toNatClampNeg) mf36 mf37 (mf35 1)) (L7_212).toNatClampNeg L5_212.toInt L6_212.toInt) → va_P D vwCl [(mh, .inr (9, G9 ma mcode mtoday moffs mmany msumW msumA msumR msumWW msumWA msumAA msumWR msumAR mupper mlower mrates mtaped mlaid mat mtk mtkAt mtkNumber mwaits mlisted mdealtMany)), ((ma 34), .inl (E 1, 2, .inl mf34)), ((ma 35), .inl (E 0, 2, .inl mf35)), ((ma 36), .inl (E 0, 384, .inl mf36)), ((ma 37), .inl (E 0, 384, .inl mf37)), ((ma 45), .inl (E 0, 130, .inl mf45_212)), ((ma 46), .inl (E 0, 24, .inl mf46_212)), ((ma 47), .inl (E 0, 5, .inl mf47)), ((ma 48), .inl (E 0, 5, .inl mf48)), ((ma 49), .inl (E 0, 5, .inl mf49)), ((ma 51), .inl (E 0, 15, .inl mf51)), ((ma 52), .inl (E 0, 15, .inl mf52)), ((ma 53), .inl (E 0, 15, .inl mf53)), ((ma 54), .inl (E 0, 15, .inl mf54)), ((ma 56), .inl (E 0, 200, .inl mf56)), ((ma 57), .inl (E 0, 600, .inl mf57)), ((ma 59), .inl (E 0, 3, .inl mf59_39)), ((ma 60), .inl (E 0, 3, .inl mf60_39))] H → va_D A [(mh, .inr (9, G9 ma mcode mtoday moffs mmany msumW msumA msumR msumWW msumWA msumAA msumWR msumAR mupper mlower mrates mtaped mlaid mat mtk mtkAt mtkNumber mwaits mlisted mdealtMany)), ((ma 34), .inl (E 1, 2, .inl mf34)), ((ma 35), .inl (E 0, 2, .inl mf35)), ((ma 36), .inl (E 0, 384, .inl mf36)), ((ma 37), .inl (E 0, 384, .inl mf37)), ((ma 45), .inl (E 0, 130, .inl mf45_212)), ((ma 46), .inl (E 0, 24, .inl mf46_212)), ((ma 47), .inl (E 0, 5, .inl mf47)), ((ma 48), .inl (E 0, 5, .inl mf48)), ((ma 49), .inl (E 0, 5, .inl mf49)), ((ma 51), .inl (E 0, 15, .inl mf51)), ((ma 52), .inl (E 0, 15, .inl mf52)), ((ma 53), .inl (E 0, 15, .inl mf53)), ((ma 54), .inl (E 0, 15, .inl mf54)), ((ma 56), .inl (E 0, 200, .inl mf56)), ((ma 57), .inl (E 0, 600, .inl mf57)), ((ma 59), .inl (E 0, 3, .inl mf59_39)), ((ma 60), .inl (E 0, 3, .inl mf60_39))] → va_S A s.heap H locs → lv_has ls 11 [(7, .int L7_212), (6, .int L6_212), (5, .int L5_212), (4, .int 1), (3, .int z_5), (0, .ref mh), (1, .int p0), (2, .int p1)] → W p l e (headSpec (wl yX9_work cX9_work 11 (some .int)) (RM 2 0 0)).room s m [Value.ref mh, .int p0, .int p1].toArray below meth c H locs 0 0 (MQ below (va_Qi (fun (r : Int32) (u : (Nat → Int32) × (Nat → Int32) × (Nat → Int32) × (Nat → Int32)) => (((mf47 (p0).toNatClampNeg).toInt = 2 → 0 < (mf49 (p0).toNatClampNeg).toInt) → ∀ k : Nat, (k : Int) < 3 → u.2.2.1 k = tmM (mf47 (p0).toNatClampNeg) (mf49 (p0).toNatClampNeg) (mf48 (p0).toNatClampNeg) mf51 mf52 mf54 mf56 mf57 (p0).toNatClampNeg (p1).toNatClampNeg k ∧ u.2.2.2 k = wdM (mf47 (p0).toNatClampNeg) (mf49 (p0).toNatClampNeg) (mf48 (p0).toNatClampNeg) mf53 mf56 (p0).toNatClampNeg (p1).toNatClampNeg k) ∧ (((mf47 (p0).toNatClampNeg).toInt = 2 → 0 < (mf49 (p0).toNatClampNeg).toInt) → DRM (fun k => tmM (mf47 (p0).toNatClampNeg) (mf49 (p0).toNatClampNeg) (mf48 (p0).toNatClampNeg) mf51 mf52 mf54 mf56 mf57 (p0).toNatClampNeg (p1).toNatClampNeg k) (fun k => mf53 (3 * (p0).toNatClampNeg + k)) (mf56 (40 * (p0).toNatClampNeg + (p1).toNatClampNeg) - mf48 (p0).toNatClampNeg) (mf34 1) mf36 mf37 (mf35 1) r.toInt)) (mu_B D A (fun (u : (Nat → Int32) × (Nat → Int32) × (Nat → Int32) × (Nat → Int32)) => [(mh, .inr (9, G9 ma mcode mtoday moffs mmany msumW msumA msumR msumWW msumWA msumAA msumWR msumAR mupper mlower mrates mtaped mlaid mat mtk mtkAt mtkNumber mwaits mlisted mdealtMany)), ((ma 34), .inl (E 1, 2, .inl mf34)), ((ma 35), .inl (E 0, 2, .inl mf35)), ((ma 36), .inl (E 0, 384, .inl mf36)), ((ma 37), .inl (E 0, 384, .inl mf37)), ((ma 45), .inl (E 0, 130, .inl u.1)), ((ma 46), .inl (E 0, 24, .inl u.2.1)), ((ma 47), .inl (E 0, 5, .inl mf47)), ((ma 48), .inl (E 0, 5, .inl mf48)), ((ma 49), .inl (E 0, 5, .inl mf49)), ((ma 51), .inl (E 0, 15, .inl mf51)), ((ma 52), .inl (E 0, 15, .inl mf52)), ((ma 53), .inl (E 0, 15, .inl mf53)), ((ma 54), .inl (E 0, 15, .inl mf54)), ((ma 56), .inl (E 0, 200, .inl mf56)), ((ma 57), .inl (E 0, 600, .inl mf57)), ((ma 59), .inl (E 0, 3, .inl u.2.2.1)), ((ma 60), .inl (E 0, 3, .inl u.2.2.2))])) A) [Value.ref mh, .int p0, .int p1].toArray s 0 0 A) (F0 m 212 ls []) := by
              intro N_72
              induction N_72 with
              | zero => intro L7_212 L6_212 L5_212 mf45_212 mf46_212 H locs ls hm v0_212 v1_212 _ _ _ _; exfalso; omega
              | succ N_72 ih_71 =>
                intro L7_212 L6_212 L5_212 mf45_212 mf46_212 H locs ls hm v0_212 v1_212 hP hD hS hl
                have lo_L7_212 := i_lo L7_212; have hi_L7_212 := i_hi L7_212
                have lo_L6_212 := i_lo L6_212; have hi_L6_212 := i_hi L6_212
                have lo_L5_212 := i_lo L5_212; have hi_L5_212 := i_hi L5_212
                refine lv_iload hx hb dX9_work_212 (lv_at hl 0 rfl) ?_
                refine lv_iconst (v := 3) hx hb dX9_work_214 (by decide) ?_
                refine lv_icmp_ge (tgt := 339) hx hb dX9_work_215 (by decide) (fun c_73 => ?_) (fun c_73 => ?_)
                ·
                  have ic_73 : 3 ≤ L7_212.toInt := by first | exact (g_le t_3 rfl).mp c_73 | (have h := mt (g_lt rfl t_3).mpr c_73; omega)
                  clear c_73
                  refine lv_iload hx hb dX9_work_339 (lv_at hl 2 rfl) ?_
                  have hP9 := hP.sub (ws' := [(mh, .inr (9, G9 ma mcode mtoday moffs mmany msumW msumA msumR msumWW msumWA msumAA msumWR msumAR mupper mlower mrates mtaped mlaid mat mtk mtkAt mtkNumber mwaits mlisted mdealtMany)), ((ma 34), .inl (E 1, 2, .inl mf34)), ((ma 35), .inl (E 0, 2, .inl mf35)), ((ma 36), .inl (E 0, 384, .inl mf36)), ((ma 37), .inl (E 0, 384, .inl mf37)), ((ma 45), .inl (E 0, 130, .inl mf45_212)), ((ma 46), .inl (E 0, 24, .inl mf46_212)), ((ma 47), .inl (E 0, 5, .inl mf47)), ((ma 48), .inl (E 0, 5, .inl mf48)), ((ma 49), .inl (E 0, 5, .inl mf49)), ((ma 51), .inl (E 0, 15, .inl mf51)), ((ma 52), .inl (E 0, 15, .inl mf52)), ((ma 53), .inl (E 0, 15, .inl mf53)), ((ma 54), .inl (E 0, 15, .inl mf54)), ((ma 56), .inl (E 0, 200, .inl mf56)), ((ma 57), .inl (E 0, 600, .inl mf57)), ((ma 59), .inl (E 0, 3, .inl mf59_39)), ((ma 60), .inl (E 0, 3, .inl mf60_39))]) [0, 1, 2, 3, 4, 5, 6, 7, 8, 9, 10, 11, 12, 13, 14, 15, 16, 17] rfl
                  have hD9 := hD.sub (ws' := [(mh, .inr (9, G9 ma mcode mtoday moffs mmany msumW msumA msumR msumWW msumWA msumAA msumWR msumAR mupper mlower mrates mtaped mlaid mat mtk mtkAt mtkNumber mwaits mlisted mdealtMany)), ((ma 34), .inl (E 1, 2, .inl mf34)), ((ma 35), .inl (E 0, 2, .inl mf35)), ((ma 36), .inl (E 0, 384, .inl mf36)), ((ma 37), .inl (E 0, 384, .inl mf37)), ((ma 45), .inl (E 0, 130, .inl mf45_212)), ((ma 46), .inl (E 0, 24, .inl mf46_212)), ((ma 47), .inl (E 0, 5, .inl mf47)), ((ma 48), .inl (E 0, 5, .inl mf48)), ((ma 49), .inl (E 0, 5, .inl mf49)), ((ma 51), .inl (E 0, 15, .inl mf51)), ((ma 52), .inl (E 0, 15, .inl mf52)), ((ma 53), .inl (E 0, 15, .inl mf53)), ((ma 54), .inl (E 0, 15, .inl mf54)), ((ma 56), .inl (E 0, 200, .inl mf56)), ((ma 57), .inl (E 0, 600, .inl mf57)), ((ma 59), .inl (E 0, 3, .inl mf59_39)), ((ma 60), .inl (E 0, 3, .inl mf60_39))]) [0, 1, 2, 3, 4, 5, 6, 7, 8, 9, 10, 11, 12, 13, 14, 15, 16, 17] (by decide) rfl
                  exact W.iret (v := L5_212) hx hb hr (fun t ht hW => ⟨⟨L5_212, (mf45_212, mf46_212, mf59_39, mf60_39), rfl, ⟨(fun hHB k hk => v1_39 hHB k (by omega)), (fun hHB => by refine Or.inr ⟨by rw [← ci_1, ← ez_68]; omega, L6_212.toInt, ?_⟩; have e3 : (L7_212).toNatClampNeg = 3 := (by have c9 := i_clamp0 (x := L7_212) (by omega); omega); have v9 := v1_212 hHB; rw [e3] at v9; exact v9)⟩, by rw [ht]; exact hP9, hD9⟩, hS.F ht⟩) hS.2.2 dX9_work_341
                ·
                  have ic_73 : L7_212.toInt < 3 := by first | exact (g_lt rfl t_3).mp c_73 | (have h := mt (g_le t_3 rfl).mpr c_73; omega)
                  clear c_73
                  refine lv_aload_n hx hb dX9_work_218 rfl (lv_at hl 5 rfl) ?_
                  refine va_get (D := D) (ci := 9) (v := .ref (ma 59)) (C := RX9) (T := TX9) (N := 68) hx hb htb iX9 hown hK.1 hP 0 rfl rfl 59 (by decide) (htb _ k_1017) (fun _ h9 => h9) rfl dX9_work_219 ?_
                  refine lv_iload hx hb dX9_work_222 (lv_at hl 0 rfl) ?_
                  refine lv_iconst (v := 1) hx hb dX9_work_224 (by decide) ?_
                  refine lv_iadd hx hb dX9_work_225 ?_
                  refine lv_topi (fun z_74 ez_74 => ?_)
                  have jz_74 : z_74.toInt = L7_212.toInt + 1 := by rw [ez_74]; exact g_add rfl t_1 (by omega) (by omega)
                  refine lv_iconst (v := 3) hx hb dX9_work_226 (by decide) ?_
                  refine lv_irem hx hb dX9_work_227 (by decide) ?_
                  refine lv_topi (fun z_75 ez_75 => ?_)
                  have jz_75 : z_75.toInt = z_74.toInt % 3 := by rw [ez_75]; exact g_rem rfl t_3 (by omega) (by decide)
                  refine va_iald hx hb hK.1 hP 16 0 rfl rfl (g_in rfl (by omega) (by omega)) dX9_work_228 ?_
                  refine lv_topi (fun z_76 ez_76 => ?_)
                  have kz_76 := congrArg Int32.toInt ez_76
                  obtain ⟨z_77, ez_77⟩ : ∃ y : Int64, (z_76 : Int32).toInt64 = y := ⟨_, rfl⟩
                  refine lv_i2l hx hb dX9_work_229 ez_77 ?_
                  refine lv_aload_n hx hb dX9_work_230 rfl (lv_at hl 5 rfl) ?_
                  refine va_get (D := D) (ci := 9) (v := .ref (ma 59)) (C := RX9) (T := TX9) (N := 68) hx hb htb iX9 hown hK.1 hP 0 rfl rfl 59 (by decide) (htb _ k_1017) (fun _ h9 => h9) rfl dX9_work_231 ?_
                  refine lv_iload hx hb dX9_work_234 (lv_at hl 0 rfl) ?_
                  refine lv_iconst (v := 2) hx hb dX9_work_236 (by decide) ?_
                  refine lv_iadd hx hb dX9_work_237 ?_
                  refine lv_topi (fun z_78 ez_78 => ?_)
                  have jz_78 : z_78.toInt = L7_212.toInt + 2 := by rw [ez_78]; exact g_add rfl t_2 (by omega) (by omega)
                  refine lv_iconst (v := 3) hx hb dX9_work_238 (by decide) ?_
                  refine lv_irem hx hb dX9_work_239 (by decide) ?_
                  refine lv_topi (fun z_79 ez_79 => ?_)
                  have jz_79 : z_79.toInt = z_78.toInt % 3 := by rw [ez_79]; exact g_rem rfl t_3 (by omega) (by decide)
                  refine va_iald hx hb hK.1 hP 16 0 rfl rfl (g_in rfl (by omega) (by omega)) dX9_work_240 ?_
                  refine lv_topi (fun z_80 ez_80 => ?_)
                  have kz_80 := congrArg Int32.toInt ez_80
                  obtain ⟨z_81, ez_81⟩ : ∃ y : Int64, (z_80 : Int32).toInt64 = y := ⟨_, rfl⟩
                  refine lv_i2l hx hb dX9_work_241 ez_81 ?_
                  refine lv_ladd hx hb dX9_work_242 ?_
                  refine lv_topl (fun z_82 ez_82 => ?_)
                  refine lv_lstore (lv' := [(8, .long z_82), (7, .int L7_212), (6, .int L6_212), (5, .int L5_212), (4, .int 1), (3, .int z_5), (0, .ref mh), (1, .int p0), (2, .int p1)]) hx hb dX9_work_243 hl (by decide) rfl (fun ls hl => ?_)
                  refine lv_aload_n hx hb dX9_work_245 rfl (lv_at hl 6 rfl) ?_
                  refine va_get (D := D) (ci := 9) (v := .ref (ma 46)) (C := RX9) (T := TX9) (N := 68) hx hb htb iX9 hown hK.1 hP 0 rfl rfl 46 (by decide) (htb _ k_1004) (fun _ h9 => h9) rfl dX9_work_246 ?_
                  refine lv_bipush (v := 20) hx hb dX9_work_249 (by decide) ?_
                  refine lv_aload_n hx hb dX9_work_251 rfl (lv_at hl 6 rfl) ?_
                  refine va_get (D := D) (ci := 9) (v := .ref (ma 59)) (C := RX9) (T := TX9) (N := 68) hx hb htb iX9 hown hK.1 hP 0 rfl rfl 59 (by decide) (htb _ k_1017) (fun _ h9 => h9) rfl dX9_work_252 ?_
                  refine lv_iload hx hb dX9_work_255 (lv_at hl 1 rfl) ?_
                  refine va_iald hx hb hK.1 hP 16 0 rfl rfl (g_in rfl (by omega) (by omega)) dX9_work_257 ?_
                  refine lv_topi (fun z_83 ez_83 => ?_)
                  have kz_83 := congrArg Int32.toInt ez_83
                  obtain ⟨z_84, ez_84⟩ : ∃ y : Int64, (z_83 : Int32).toInt64 = y := ⟨_, rfl⟩
                  refine lv_i2l hx hb dX9_work_258 ez_84 ?_
                  refine lv_lload hx hb dX9_work_259 (lv_at hl 0 rfl) ?_
                  refine lv_ldc2 hx hb hown (htb _ k_1446) dX9_work_261 ?_
                  refine callLS (rest := [.long z_84, .int 20, .ref (ma 46)]) (As := [.long z_82, .long (2)]) hx hb hml hown htb hK (g_X9_floor l D E z_82 (2) (by decide)) ok_X9_floor k_1311 k_1312 k_9 k_1313 ⟨(Nat.le_of_ble_eq_true rfl), (Nat.le_of_ble_eq_true rfl)⟩ ⟨(Nat.le_of_ble_eq_true rfl), (Nat.le_of_ble_eq_true rfl)⟩ hl.1 (Nat.le_of_ble_eq_true rfl) rfl rfl dX9_work_264 (hP.sub (ws' := ([] : va_W)) [] rfl) (fun r_85 hw_86 => ?_)
                  try simp only [t_2] at hw_86
                  refine lv_lsub hx hb dX9_work_267 ?_
                  refine lv_topl (fun z_88 ez_88 => ?_)
                  obtain ⟨z_89, ez_89⟩ : ∃ y : Int32, (z_88 : Int64).toInt32 = y := ⟨_, rfl⟩
                  refine lv_l2i hx hb dX9_work_268 ez_89 ?_
                  refine callRS (rest := [.int 20, .ref (ma 46)]) (As := [.int z_89]) hx hb hml hown htb hK (g_X9_size l D E z_89 ) ok_X9_size k_1235 k_1236 k_9 k_1237 ⟨(Nat.le_of_ble_eq_true rfl), (Nat.le_of_ble_eq_true rfl)⟩ ⟨(Nat.le_of_ble_eq_true rfl), (Nat.le_of_ble_eq_true rfl)⟩ hl.1 (Nat.le_of_ble_eq_true rfl) rfl rfl dX9_work_269 (hP.sub (ws' := ([] : va_W)) [] rfl) (fun r_90 hw_91 => ?_)
                  refine va_iast hx hb hK.1 hP hD hS 6 0 rfl rfl (g_in t_20 (by decide) (by decide)) dX9_work_272 (fun H locs hP hD hS => ?_)
                  have hP : va_P D vwCl [(mh, .inr (9, G9 ma mcode mtoday moffs mmany msumW msumA msumR msumWW msumWA msumAA msumWR msumAR mupper mlower mrates mtaped mlaid mat mtk mtkAt mtkNumber mwaits mlisted mdealtMany)), ((ma 34), .inl (E 1, 2, .inl mf34)), ((ma 35), .inl (E 0, 2, .inl mf35)), ((ma 36), .inl (E 0, 384, .inl mf36)), ((ma 37), .inl (E 0, 384, .inl mf37)), ((ma 45), .inl (E 0, 130, .inl mf45_212)), ((ma 46), .inl (E 0, 24, .inl (upd mf46_212 (20 : Int32).toNatClampNeg r_90))), ((ma 47), .inl (E 0, 5, .inl mf47)), ((ma 48), .inl (E 0, 5, .inl mf48)), ((ma 49), .inl (E 0, 5, .inl mf49)), ((ma 51), .inl (E 0, 15, .inl mf51)), ((ma 52), .inl (E 0, 15, .inl mf52)), ((ma 53), .inl (E 0, 15, .inl mf53)), ((ma 54), .inl (E 0, 15, .inl mf54)), ((ma 56), .inl (E 0, 200, .inl mf56)), ((ma 57), .inl (E 0, 600, .inl mf57)), ((ma 59), .inl (E 0, 3, .inl mf59_39)), ((ma 60), .inl (E 0, 3, .inl mf60_39))] H := hP
                  have hD := toW hP hD rfl
                  refine lv_aload_n hx hb dX9_work_273 rfl (lv_at hl 6 rfl) ?_
                  refine va_get (D := D) (ci := 9) (v := .ref (ma 46)) (C := RX9) (T := TX9) (N := 68) hx hb htb iX9 hown hK.1 hP 0 rfl rfl 46 (by decide) (htb _ k_1004) (fun _ h9 => h9) rfl dX9_work_274 ?_
                  refine lv_bipush (v := 21) hx hb dX9_work_277 (by decide) ?_
                  refine lv_aload_n hx hb dX9_work_279 rfl (lv_at hl 6 rfl) ?_
                  refine va_get (D := D) (ci := 9) (v := .ref (ma 53)) (C := RX9) (T := TX9) (N := 68) hx hb htb iX9 hown hK.1 hP 0 rfl rfl 53 (by decide) (htb _ k_1011) (fun _ h9 => h9) rfl dX9_work_280 ?_
                  refine lv_iconst (v := 3) hx hb dX9_work_283 (by decide) ?_
                  refine lv_iload_n hx hb dX9_work_284 rfl (lv_at hl 7 rfl) ?_
                  refine lv_imul hx hb dX9_work_285 ?_
                  refine lv_topi (fun z_93 ez_93 => ?_)
                  have jz_93 : z_93.toInt = 3 * p0.toInt := by rw [ez_93]; exact g_mul t_3 rfl (by omega) (by omega)
                  refine lv_iload hx hb dX9_work_286 (lv_at hl 1 rfl) ?_
                  refine lv_iadd hx hb dX9_work_288 ?_
                  refine lv_topi (fun z_94 ez_94 => ?_)
                  have jz_94 : z_94.toInt = z_93.toInt + L7_212.toInt := by rw [ez_94]; exact g_add rfl rfl (by omega) (by omega)
                  refine va_iald hx hb hK.1 hP 12 0 rfl rfl (g_in rfl (by omega) (by omega)) dX9_work_289 ?_
                  refine lv_topi (fun z_95 ez_95 => ?_)
                  have kz_95 := congrArg Int32.toInt ez_95
                  refine va_iast hx hb hK.1 hP hD hS 6 0 rfl rfl (g_in t_21 (by decide) (by decide)) dX9_work_290 (fun H locs hP hD hS => ?_)
                  have hP : va_P D vwCl [(mh, .inr (9, G9 ma mcode mtoday moffs mmany msumW msumA msumR msumWW msumWA msumAA msumWR msumAR mupper mlower mrates mtaped mlaid mat mtk mtkAt mtkNumber mwaits mlisted mdealtMany)), ((ma 34), .inl (E 1, 2, .inl mf34)), ((ma 35), .inl (E 0, 2, .inl mf35)), ((ma 36), .inl (E 0, 384, .inl mf36)), ((ma 37), .inl (E 0, 384, .inl mf37)), ((ma 45), .inl (E 0, 130, .inl mf45_212)), ((ma 46), .inl (E 0, 24, .inl (upd (upd mf46_212 (20 : Int32).toNatClampNeg r_90) (21 : Int32).toNatClampNeg z_95))), ((ma 47), .inl (E 0, 5, .inl mf47)), ((ma 48), .inl (E 0, 5, .inl mf48)), ((ma 49), .inl (E 0, 5, .inl mf49)), ((ma 51), .inl (E 0, 15, .inl mf51)), ((ma 52), .inl (E 0, 15, .inl mf52)), ((ma 53), .inl (E 0, 15, .inl mf53)), ((ma 54), .inl (E 0, 15, .inl mf54)), ((ma 56), .inl (E 0, 200, .inl mf56)), ((ma 57), .inl (E 0, 600, .inl mf57)), ((ma 59), .inl (E 0, 3, .inl mf59_39)), ((ma 60), .inl (E 0, 3, .inl mf60_39))] H := hP
                  have hD := toW hP hD rfl
                  refine lv_aload_n hx hb dX9_work_291 rfl (lv_at hl 6 rfl) ?_
                  refine va_get (D := D) (ci := 9) (v := .ref (ma 46)) (C := RX9) (T := TX9) (N := 68) hx hb htb iX9 hown hK.1 hP 0 rfl rfl 46 (by decide) (htb _ k_1004) (fun _ h9 => h9) rfl dX9_work_292 ?_
                  refine lv_bipush (v := 22) hx hb dX9_work_295 (by decide) ?_
                  refine lv_iload_n hx hb dX9_work_297 rfl (lv_at hl 5 rfl) ?_
                  refine va_iast hx hb hK.1 hP hD hS 6 0 rfl rfl (g_in t_22 (by decide) (by decide)) dX9_work_298 (fun H locs hP hD hS => ?_)
                  have hP : va_P D vwCl [(mh, .inr (9, G9 ma mcode mtoday moffs mmany msumW msumA msumR msumWW msumWA msumAA msumWR msumAR mupper mlower mrates mtaped mlaid mat mtk mtkAt mtkNumber mwaits mlisted mdealtMany)), ((ma 34), .inl (E 1, 2, .inl mf34)), ((ma 35), .inl (E 0, 2, .inl mf35)), ((ma 36), .inl (E 0, 384, .inl mf36)), ((ma 37), .inl (E 0, 384, .inl mf37)), ((ma 45), .inl (E 0, 130, .inl mf45_212)), ((ma 46), .inl (E 0, 24, .inl (upd (upd (upd mf46_212 (20 : Int32).toNatClampNeg r_90) (21 : Int32).toNatClampNeg z_95) (22 : Int32).toNatClampNeg z_5))), ((ma 47), .inl (E 0, 5, .inl mf47)), ((ma 48), .inl (E 0, 5, .inl mf48)), ((ma 49), .inl (E 0, 5, .inl mf49)), ((ma 51), .inl (E 0, 15, .inl mf51)), ((ma 52), .inl (E 0, 15, .inl mf52)), ((ma 53), .inl (E 0, 15, .inl mf53)), ((ma 54), .inl (E 0, 15, .inl mf54)), ((ma 56), .inl (E 0, 200, .inl mf56)), ((ma 57), .inl (E 0, 600, .inl mf57)), ((ma 59), .inl (E 0, 3, .inl mf59_39)), ((ma 60), .inl (E 0, 3, .inl mf60_39))] H := hP
                  have hD := toW hP hD rfl
                  refine lv_aload_n hx hb dX9_work_299 rfl (lv_at hl 6 rfl) ?_
                  refine va_get (D := D) (ci := 9) (v := .ref (ma 46)) (C := RX9) (T := TX9) (N := 68) hx hb htb iX9 hown hK.1 hP 0 rfl rfl 46 (by decide) (htb _ k_1004) (fun _ h9 => h9) rfl dX9_work_300 ?_
                  refine lv_bipush (v := 23) hx hb dX9_work_303 (by decide) ?_
                  refine lv_iload hx hb dX9_work_305 (lv_at hl 1 rfl) ?_
                  refine va_iast hx hb hK.1 hP hD hS 6 0 rfl rfl (g_in t_23 (by decide) (by decide)) dX9_work_307 (fun H locs hP hD hS => ?_)
                  have hP : va_P D vwCl [(mh, .inr (9, G9 ma mcode mtoday moffs mmany msumW msumA msumR msumWW msumWA msumAA msumWR msumAR mupper mlower mrates mtaped mlaid mat mtk mtkAt mtkNumber mwaits mlisted mdealtMany)), ((ma 34), .inl (E 1, 2, .inl mf34)), ((ma 35), .inl (E 0, 2, .inl mf35)), ((ma 36), .inl (E 0, 384, .inl mf36)), ((ma 37), .inl (E 0, 384, .inl mf37)), ((ma 45), .inl (E 0, 130, .inl mf45_212)), ((ma 46), .inl (E 0, 24, .inl (upd (upd (upd (upd mf46_212 (20 : Int32).toNatClampNeg r_90) (21 : Int32).toNatClampNeg z_95) (22 : Int32).toNatClampNeg z_5) (23 : Int32).toNatClampNeg L7_212))), ((ma 47), .inl (E 0, 5, .inl mf47)), ((ma 48), .inl (E 0, 5, .inl mf48)), ((ma 49), .inl (E 0, 5, .inl mf49)), ((ma 51), .inl (E 0, 15, .inl mf51)), ((ma 52), .inl (E 0, 15, .inl mf52)), ((ma 53), .inl (E 0, 15, .inl mf53)), ((ma 54), .inl (E 0, 15, .inl mf54)), ((ma 56), .inl (E 0, 200, .inl mf56)), ((ma 57), .inl (E 0, 600, .inl mf57)), ((ma 59), .inl (E 0, 3, .inl mf59_39)), ((ma 60), .inl (E 0, 3, .inl mf60_39))] H := hP
                  have hD := toW hP hD rfl
                  refine lv_aload_n hx hb dX9_work_308 rfl (lv_at hl 6 rfl) ?_
                  refine lv_iconst (v := 1) hx hb dX9_work_309 (by decide) ?_
                  have hPc := hP.sub (ws' := [(mh, .inr (9, G9 ma mcode mtoday moffs mmany msumW msumA msumR msumWW msumWA msumAA msumWR msumAR mupper mlower mrates mtaped mlaid mat mtk mtkAt mtkNumber mwaits mlisted mdealtMany)), ((ma 35), .inl (E 0, 2, .inl mf35)), ((ma 36), .inl (E 0, 384, .inl mf36)), ((ma 37), .inl (E 0, 384, .inl mf37)), ((ma 45), .inl (E 0, 130, .inl mf45_212)), ((ma 46), .inl (E 0, 24, .inl (upd (upd (upd (upd mf46_212 (20 : Int32).toNatClampNeg r_90) (21 : Int32).toNatClampNeg z_95) (22 : Int32).toNatClampNeg z_5) (23 : Int32).toNatClampNeg L7_212)))]) [0, 2, 3, 4, 5, 6] rfl
                  have hDc := hD.sub (ws' := [(mh, .inr (9, G9 ma mcode mtoday moffs mmany msumW msumA msumR msumWW msumWA msumAA msumWR msumAR mupper mlower mrates mtaped mlaid mat mtk mtkAt mtkNumber mwaits mlisted mdealtMany)), ((ma 35), .inl (E 0, 2, .inl mf35)), ((ma 36), .inl (E 0, 384, .inl mf36)), ((ma 37), .inl (E 0, 384, .inl mf37)), ((ma 45), .inl (E 0, 130, .inl mf45_212)), ((ma 46), .inl (E 0, 24, .inl (upd (upd (upd (upd mf46_212 (20 : Int32).toNatClampNeg r_90) (21 : Int32).toNatClampNeg z_95) (22 : Int32).toNatClampNeg z_5) (23 : Int32).toNatClampNeg L7_212)))]) [0, 2, 3, 4, 5, 6] (by decide) rfl
                  refine aft_i (runMV (rest := []) (As := [.int 1]) hx hb hml hown htb hK (g_X9_says1 l D E mh ma mcode mtoday moffs mmany msumW msumA msumR msumWW msumWA msumAA msumWR msumAR mupper mlower mrates mtaped mlaid mat mtk mtkAt mtkNumber mwaits mlisted mdealtMany mf35 mf36 mf37 mf45_212 (upd (upd (upd (upd mf46_212 (20 : Int32).toNatClampNeg r_90) (21 : Int32).toNatClampNeg z_95) (22 : Int32).toNatClampNeg z_5) (23 : Int32).toNatClampNeg L7_212) _ (by (try dsimp only); omega) hr_m35 hjw) ok_X9_says k_1395 k_1397 ks_60 k_9 k_1398 ⟨(Nat.le_of_ble_eq_true rfl), (Nat.le_of_ble_eq_true rfl)⟩ ⟨(Nat.le_of_ble_eq_true rfl), (Nat.le_of_ble_eq_true rfl)⟩ hl.1 (Nat.le_of_ble_eq_true rfl) rfl rfl dX9_work_310 hPc hDc rfl rfl 0 rfl) hP hD hS hA [0, 2, 3, 4, 5, 6] [1, 7, 8, 9, 10, 11, 12, 13, 14, 15, 16, 17] (wr := [((ma 34), .inl (E 1, 2, .inl mf34)), ((ma 47), .inl (E 0, 5, .inl mf47)), ((ma 48), .inl (E 0, 5, .inl mf48)), ((ma 49), .inl (E 0, 5, .inl mf49)), ((ma 51), .inl (E 0, 15, .inl mf51)), ((ma 52), .inl (E 0, 15, .inl mf52)), ((ma 53), .inl (E 0, 15, .inl mf53)), ((ma 54), .inl (E 0, 15, .inl mf54)), ((ma 56), .inl (E 0, 200, .inl mf56)), ((ma 57), .inl (E 0, 600, .inl mf57)), ((ma 59), .inl (E 0, 3, .inl mf59_39)), ((ma 60), .inl (E 0, 3, .inl mf60_39))]) rfl rfl (by decide) (by decide) (fun r_96 u_98 H locs hw_97 hP hD hS => ?_)
                  clear hPc hDc
                  have hP : va_P D vwCl [((ma 34), .inl (E 1, 2, .inl mf34)), ((ma 47), .inl (E 0, 5, .inl mf47)), ((ma 48), .inl (E 0, 5, .inl mf48)), ((ma 49), .inl (E 0, 5, .inl mf49)), ((ma 51), .inl (E 0, 15, .inl mf51)), ((ma 52), .inl (E 0, 15, .inl mf52)), ((ma 53), .inl (E 0, 15, .inl mf53)), ((ma 54), .inl (E 0, 15, .inl mf54)), ((ma 56), .inl (E 0, 200, .inl mf56)), ((ma 57), .inl (E 0, 600, .inl mf57)), ((ma 59), .inl (E 0, 3, .inl mf59_39)), ((ma 60), .inl (E 0, 3, .inl mf60_39)), (mh, .inr (9, G9 ma mcode mtoday moffs mmany msumW msumA msumR msumWW msumWA msumAA msumWR msumAR mupper mlower mrates mtaped mlaid mat mtk mtkAt mtkNumber mwaits mlisted mdealtMany)), ((ma 35), .inl (E 0, 2, .inl mf35)), ((ma 36), .inl (E 0, 384, .inl mf36)), ((ma 37), .inl (E 0, 384, .inl mf37)), ((ma 45), .inl (E 0, 130, .inl u_98)), ((ma 46), .inl (E 0, 24, .inl (upd (upd (upd (upd mf46_212 (20 : Int32).toNatClampNeg r_90) (21 : Int32).toNatClampNeg z_95) (22 : Int32).toNatClampNeg z_5) (23 : Int32).toNatClampNeg L7_212)))] H := hP
                  have hD := toW hP hD rfl
                  try simp only [t_1] at hw_97
                  refine lv_istore (lv' := [(10, .int r_96), (8, .long z_82), (7, .int L7_212), (6, .int L6_212), (5, .int L5_212), (4, .int 1), (3, .int z_5), (0, .ref mh), (1, .int p0), (2, .int p1)]) hx hb dX9_work_313 hl (by decide) rfl (fun ls hl => ?_)
                  refine lv_iload hx hb dX9_work_315 (lv_at hl 0 rfl) ?_
                  refine lv_iload hx hb dX9_work_317 (lv_at hl 3 rfl) ?_
                  refine lv_icmp_gt (tgt := 325) hx hb dX9_work_319 (by decide) (fun c_99 => ?_) (fun c_99 => ?_)
                  ·
                    have ic_99 : L6_212.toInt < r_96.toInt := by first | exact (g_lt rfl rfl).mp c_99 | (have h := mt (g_le rfl rfl).mpr c_99; omega)
                    clear c_99
                    refine lv_iload hx hb dX9_work_325 (lv_at hl 0 rfl) ?_
                    refine lv_istore (lv' := [(6, .int r_96), (10, .int r_96), (8, .long z_82), (7, .int L7_212), (5, .int L5_212), (4, .int 1), (3, .int z_5), (0, .ref mh), (1, .int p0), (2, .int p1)]) hx hb dX9_work_327 hl (by decide) rfl (fun ls hl => ?_)
                    refine lv_iload hx hb dX9_work_329 (lv_at hl 3 rfl) ?_
                    refine lv_istore (lv' := [(5, .int L7_212), (6, .int r_96), (10, .int r_96), (8, .long z_82), (7, .int L7_212), (4, .int 1), (3, .int z_5), (0, .ref mh), (1, .int p0), (2, .int p1)]) hx hb dX9_work_331 hl (by decide) rfl (fun ls hl => ?_)
                    obtain ⟨z_100, ez_100⟩ : ∃ y : Int32, y = L7_212 + 1 := ⟨_, rfl⟩
                    have jz_100 : z_100.toInt = L7_212.toInt + 1 := by rw [ez_100]; exact g_add rfl t_1 (by omega) (by omega)
                    refine lv_iinc (v := z_100) (lv' := [(7, .int z_100), (5, .int L7_212), (6, .int r_96), (10, .int r_96), (8, .long z_82), (4, .int 1), (3, .int z_5), (0, .ref mh), (1, .int p0), (2, .int p1)]) hx hb dX9_work_333 hl (k := 4) rfl (by rw [ez_100]; rfl) (by decide) rfl (fun ls hl => ?_)
                    refine lv_goto (tgt := 212) hx hb dX9_work_336 (by decide) ?_
                    have hP := hP.sub (ws' := [(mh, .inr (9, G9 ma mcode mtoday moffs mmany msumW msumA msumR msumWW msumWA msumAA msumWR msumAR mupper mlower mrates mtaped mlaid mat mtk mtkAt mtkNumber mwaits mlisted mdealtMany)), ((ma 34), .inl (E 1, 2, .inl mf34)), ((ma 35), .inl (E 0, 2, .inl mf35)), ((ma 36), .inl (E 0, 384, .inl mf36)), ((ma 37), .inl (E 0, 384, .inl mf37)), ((ma 45), .inl (E 0, 130, .inl u_98)), ((ma 46), .inl (E 0, 24, .inl (upd (upd (upd (upd mf46_212 (20 : Int32).toNatClampNeg r_90) (21 : Int32).toNatClampNeg z_95) (22 : Int32).toNatClampNeg z_5) (23 : Int32).toNatClampNeg L7_212))), ((ma 47), .inl (E 0, 5, .inl mf47)), ((ma 48), .inl (E 0, 5, .inl mf48)), ((ma 49), .inl (E 0, 5, .inl mf49)), ((ma 51), .inl (E 0, 15, .inl mf51)), ((ma 52), .inl (E 0, 15, .inl mf52)), ((ma 53), .inl (E 0, 15, .inl mf53)), ((ma 54), .inl (E 0, 15, .inl mf54)), ((ma 56), .inl (E 0, 200, .inl mf56)), ((ma 57), .inl (E 0, 600, .inl mf57)), ((ma 59), .inl (E 0, 3, .inl mf59_39)), ((ma 60), .inl (E 0, 3, .inl mf60_39))]) [12, 0, 13, 14, 15, 16, 17, 1, 2, 3, 4, 5, 6, 7, 8, 9, 10, 11] rfl
                    have hD := hD.sub (ws' := [(mh, .inr (9, G9 ma mcode mtoday moffs mmany msumW msumA msumR msumWW msumWA msumAA msumWR msumAR mupper mlower mrates mtaped mlaid mat mtk mtkAt mtkNumber mwaits mlisted mdealtMany)), ((ma 34), .inl (E 1, 2, .inl mf34)), ((ma 35), .inl (E 0, 2, .inl mf35)), ((ma 36), .inl (E 0, 384, .inl mf36)), ((ma 37), .inl (E 0, 384, .inl mf37)), ((ma 45), .inl (E 0, 130, .inl u_98)), ((ma 46), .inl (E 0, 24, .inl (upd (upd (upd (upd mf46_212 (20 : Int32).toNatClampNeg r_90) (21 : Int32).toNatClampNeg z_95) (22 : Int32).toNatClampNeg z_5) (23 : Int32).toNatClampNeg L7_212))), ((ma 47), .inl (E 0, 5, .inl mf47)), ((ma 48), .inl (E 0, 5, .inl mf48)), ((ma 49), .inl (E 0, 5, .inl mf49)), ((ma 51), .inl (E 0, 15, .inl mf51)), ((ma 52), .inl (E 0, 15, .inl mf52)), ((ma 53), .inl (E 0, 15, .inl mf53)), ((ma 54), .inl (E 0, 15, .inl mf54)), ((ma 56), .inl (E 0, 200, .inl mf56)), ((ma 57), .inl (E 0, 600, .inl mf57)), ((ma 59), .inl (E 0, 3, .inl mf59_39)), ((ma 60), .inl (E 0, 3, .inl mf60_39))]) [12, 0, 13, 14, 15, 16, 17, 1, 2, 3, 4, 5, 6, 7, 8, 9, 10, 11] (by decide) rfl
                    exact ih_71 z_100 r_96 L7_212 u_98 (upd (upd (upd (upd mf46_212 (20 : Int32).toNatClampNeg r_90) (21 : Int32).toNatClampNeg z_95) (22 : Int32).toNatClampNeg z_5) (23 : Int32).toNatClampNeg L7_212) _ _ _ (by have h0 := t_1; (try dsimp only); omega) (by have h0 := t_1; (try dsimp only); omega) (fun hHB => by have c0 := i_clamp0 (x := p0) (by omega); have c1 := i_clamp0 (x := p1) (by omega); have c7 := i_clamp0 (x := L7_212) (by omega); have t9 := v1_39 hHB; have ka : (z_75 : Int32).toNatClampNeg = ((L7_212).toNatClampNeg + 1) % 3 := (by have c9 := i_clamp0 (x := z_75) (by omega); omega); have kb : (z_79 : Int32).toNatClampNeg = ((L7_212).toNatClampNeg + 2) % 3 := (by have c9 := i_clamp0 (x := z_79) (by omega); omega); have xa := (t9 (((L7_212).toNatClampNeg + 1) % 3) (by omega)).1; have xb := (t9 (((L7_212).toNatClampNeg + 2) % 3) (by omega)).1; have xx := (t9 (L7_212).toNatClampNeg (by omega)).1; rw [← ka, ← ez_76] at xa; rw [← kb, ← ez_80] at xb; rw [← ez_83] at xx; have i53 : (z_94 : Int32).toNatClampNeg = 3 * (p0).toNatClampNeg + (L7_212).toNatClampNeg := (by have c9 := i_clamp0 (x := z_94) (by omega); omega); have i56 : (z_2 : Int32).toNatClampNeg = 40 * (p0).toNatClampNeg + (p1).toNatClampNeg := (by have c9 := i_clamp0 (x := z_2) (by omega); omega); have ho := off_of (x := z_83) (a := z_76) (b := z_80) ez_84 ez_77 ez_81 ez_82 hw_86 ez_88 ez_89; have hg9 : (upd (upd (upd (upd mf46_212 (20 : Int32).toNatClampNeg r_90) (21 : Int32).toNatClampNeg z_95) (22 : Int32).toNatClampNeg z_5) (23 : Int32).toNatClampNeg L7_212) = (upd (upd (upd (upd mf46_212 20 r_90) 21 z_95) 22 z_5) 23 L7_212) := (by simp only [ci_20, ci_21, ci_22, ci_23]); have sy9 := hw_97; rw [hg9, ci_1] at sy9; exact DPP_s (v1_212 hHB) (by omega) jz_100 ⟨_, ⟨by rw [uq_ne (i := 23) (j := 20) (by decide), uq_ne (i := 22) (j := 20) (by decide), uq_ne (i := 21) (j := 20) (by decide), uq_at]; rw [hw_91]; unfold ofM; (try dsimp only); rw [← ka, ← kb, ← xa, ← xb, ← xx, ← ho], by rw [uq_ne (i := 23) (j := 21) (by decide), uq_ne (i := 22) (j := 21) (by decide), uq_at]; (try dsimp only); rw [← i53]; exact ez_95, by rw [uq_ne (i := 23) (j := 22) (by decide), uq_at]; rw [← i56]; subst_vars; rfl, by rw [uq_at]; exact ofN_i (by omega)⟩, sy9⟩ (Or.inl ⟨by omega, by omega, by omega⟩)) hP hD hS (lv_sub hl [0, 2, 1, 5, 6, 7, 8, 9] rfl)
                  ·
                    have ic_99 : r_96.toInt ≤ L6_212.toInt := by first | exact (g_le rfl rfl).mp c_99 | (have h := mt (g_lt rfl rfl).mpr c_99; omega)
                    clear c_99
                    refine lv_goto (tgt := 333) hx hb dX9_work_322 (by decide) ?_
                    obtain ⟨z_101, ez_101⟩ : ∃ y : Int32, y = L7_212 + 1 := ⟨_, rfl⟩
                    have jz_101 : z_101.toInt = L7_212.toInt + 1 := by rw [ez_101]; exact g_add rfl t_1 (by omega) (by omega)
                    refine lv_iinc (v := z_101) (lv' := [(7, .int z_101), (10, .int r_96), (8, .long z_82), (6, .int L6_212), (5, .int L5_212), (4, .int 1), (3, .int z_5), (0, .ref mh), (1, .int p0), (2, .int p1)]) hx hb dX9_work_333 hl (k := 2) rfl (by rw [ez_101]; rfl) (by decide) rfl (fun ls hl => ?_)
                    refine lv_goto (tgt := 212) hx hb dX9_work_336 (by decide) ?_
                    have hP := hP.sub (ws' := [(mh, .inr (9, G9 ma mcode mtoday moffs mmany msumW msumA msumR msumWW msumWA msumAA msumWR msumAR mupper mlower mrates mtaped mlaid mat mtk mtkAt mtkNumber mwaits mlisted mdealtMany)), ((ma 34), .inl (E 1, 2, .inl mf34)), ((ma 35), .inl (E 0, 2, .inl mf35)), ((ma 36), .inl (E 0, 384, .inl mf36)), ((ma 37), .inl (E 0, 384, .inl mf37)), ((ma 45), .inl (E 0, 130, .inl u_98)), ((ma 46), .inl (E 0, 24, .inl (upd (upd (upd (upd mf46_212 (20 : Int32).toNatClampNeg r_90) (21 : Int32).toNatClampNeg z_95) (22 : Int32).toNatClampNeg z_5) (23 : Int32).toNatClampNeg L7_212))), ((ma 47), .inl (E 0, 5, .inl mf47)), ((ma 48), .inl (E 0, 5, .inl mf48)), ((ma 49), .inl (E 0, 5, .inl mf49)), ((ma 51), .inl (E 0, 15, .inl mf51)), ((ma 52), .inl (E 0, 15, .inl mf52)), ((ma 53), .inl (E 0, 15, .inl mf53)), ((ma 54), .inl (E 0, 15, .inl mf54)), ((ma 56), .inl (E 0, 200, .inl mf56)), ((ma 57), .inl (E 0, 600, .inl mf57)), ((ma 59), .inl (E 0, 3, .inl mf59_39)), ((ma 60), .inl (E 0, 3, .inl mf60_39))]) [12, 0, 13, 14, 15, 16, 17, 1, 2, 3, 4, 5, 6, 7, 8, 9, 10, 11] rfl
                    have hD := hD.sub (ws' := [(mh, .inr (9, G9 ma mcode mtoday moffs mmany msumW msumA msumR msumWW msumWA msumAA msumWR msumAR mupper mlower mrates mtaped mlaid mat mtk mtkAt mtkNumber mwaits mlisted mdealtMany)), ((ma 34), .inl (E 1, 2, .inl mf34)), ((ma 35), .inl (E 0, 2, .inl mf35)), ((ma 36), .inl (E 0, 384, .inl mf36)), ((ma 37), .inl (E 0, 384, .inl mf37)), ((ma 45), .inl (E 0, 130, .inl u_98)), ((ma 46), .inl (E 0, 24, .inl (upd (upd (upd (upd mf46_212 (20 : Int32).toNatClampNeg r_90) (21 : Int32).toNatClampNeg z_95) (22 : Int32).toNatClampNeg z_5) (23 : Int32).toNatClampNeg L7_212))), ((ma 47), .inl (E 0, 5, .inl mf47)), ((ma 48), .inl (E 0, 5, .inl mf48)), ((ma 49), .inl (E 0, 5, .inl mf49)), ((ma 51), .inl (E 0, 15, .inl mf51)), ((ma 52), .inl (E 0, 15, .inl mf52)), ((ma 53), .inl (E 0, 15, .inl mf53)), ((ma 54), .inl (E 0, 15, .inl mf54)), ((ma 56), .inl (E 0, 200, .inl mf56)), ((ma 57), .inl (E 0, 600, .inl mf57)), ((ma 59), .inl (E 0, 3, .inl mf59_39)), ((ma 60), .inl (E 0, 3, .inl mf60_39))]) [12, 0, 13, 14, 15, 16, 17, 1, 2, 3, 4, 5, 6, 7, 8, 9, 10, 11] (by decide) rfl
                    exact ih_71 z_101 L6_212 L5_212 u_98 (upd (upd (upd (upd mf46_212 (20 : Int32).toNatClampNeg r_90) (21 : Int32).toNatClampNeg z_95) (22 : Int32).toNatClampNeg z_5) (23 : Int32).toNatClampNeg L7_212) _ _ _ (by have h0 := t_1; (try dsimp only); omega) (by have h0 := t_1; (try dsimp only); omega) (fun hHB => by have c0 := i_clamp0 (x := p0) (by omega); have c1 := i_clamp0 (x := p1) (by omega); have c7 := i_clamp0 (x := L7_212) (by omega); have t9 := v1_39 hHB; have ka : (z_75 : Int32).toNatClampNeg = ((L7_212).toNatClampNeg + 1) % 3 := (by have c9 := i_clamp0 (x := z_75) (by omega); omega); have kb : (z_79 : Int32).toNatClampNeg = ((L7_212).toNatClampNeg + 2) % 3 := (by have c9 := i_clamp0 (x := z_79) (by omega); omega); have xa := (t9 (((L7_212).toNatClampNeg + 1) % 3) (by omega)).1; have xb := (t9 (((L7_212).toNatClampNeg + 2) % 3) (by omega)).1; have xx := (t9 (L7_212).toNatClampNeg (by omega)).1; rw [← ka, ← ez_76] at xa; rw [← kb, ← ez_80] at xb; rw [← ez_83] at xx; have i53 : (z_94 : Int32).toNatClampNeg = 3 * (p0).toNatClampNeg + (L7_212).toNatClampNeg := (by have c9 := i_clamp0 (x := z_94) (by omega); omega); have i56 : (z_2 : Int32).toNatClampNeg = 40 * (p0).toNatClampNeg + (p1).toNatClampNeg := (by have c9 := i_clamp0 (x := z_2) (by omega); omega); have ho := off_of (x := z_83) (a := z_76) (b := z_80) ez_84 ez_77 ez_81 ez_82 hw_86 ez_88 ez_89; have hg9 : (upd (upd (upd (upd mf46_212 (20 : Int32).toNatClampNeg r_90) (21 : Int32).toNatClampNeg z_95) (22 : Int32).toNatClampNeg z_5) (23 : Int32).toNatClampNeg L7_212) = (upd (upd (upd (upd mf46_212 20 r_90) 21 z_95) 22 z_5) 23 L7_212) := (by simp only [ci_20, ci_21, ci_22, ci_23]); have sy9 := hw_97; rw [hg9, ci_1] at sy9; exact DPP_s (v1_212 hHB) (by omega) jz_101 ⟨_, ⟨by rw [uq_ne (i := 23) (j := 20) (by decide), uq_ne (i := 22) (j := 20) (by decide), uq_ne (i := 21) (j := 20) (by decide), uq_at]; rw [hw_91]; unfold ofM; (try dsimp only); rw [← ka, ← kb, ← xa, ← xb, ← xx, ← ho], by rw [uq_ne (i := 23) (j := 21) (by decide), uq_ne (i := 22) (j := 21) (by decide), uq_at]; (try dsimp only); rw [← i53]; exact ez_95, by rw [uq_ne (i := 23) (j := 22) (by decide), uq_at]; rw [← i56]; subst_vars; rfl, by rw [uq_at]; exact ofN_i (by omega)⟩, sy9⟩ (Or.inr ⟨by omega, rfl, rfl⟩)) hP hD hS (lv_sub hl [0, 3, 4, 5, 6, 7, 8, 9] rfl)
            exact loop_70 4 0 0 ((-1)) mf45 mf46 _ _ _ (by have h0 := t_m1; have h1 := t_0; have h2 := t_1; (try dsimp only); omega) (by have h0 := t_m1; have h1 := t_0; have h2 := t_1; (try dsimp only); omega) (fun _ => by rw [clamp_0]; exact ⟨t_m1, t_0⟩) hP hD hS (lv_sub hl [0, 1, 2, 3, 4, 5, 6, 7] rfl)
          ·
            have ic_69 : z_68.toInt = 0 := (g_eq rfl t_0).mp c_69
            clear c_69
            refine lv_iconst (v := (-1)) hx hb dX9_work_201 (by decide) ?_
            have hP9 := hP.sub (ws' := [(mh, .inr (9, G9 ma mcode mtoday moffs mmany msumW msumA msumR msumWW msumWA msumAA msumWR msumAR mupper mlower mrates mtaped mlaid mat mtk mtkAt mtkNumber mwaits mlisted mdealtMany)), ((ma 34), .inl (E 1, 2, .inl mf34)), ((ma 35), .inl (E 0, 2, .inl mf35)), ((ma 36), .inl (E 0, 384, .inl mf36)), ((ma 37), .inl (E 0, 384, .inl mf37)), ((ma 45), .inl (E 0, 130, .inl mf45)), ((ma 46), .inl (E 0, 24, .inl mf46)), ((ma 47), .inl (E 0, 5, .inl mf47)), ((ma 48), .inl (E 0, 5, .inl mf48)), ((ma 49), .inl (E 0, 5, .inl mf49)), ((ma 51), .inl (E 0, 15, .inl mf51)), ((ma 52), .inl (E 0, 15, .inl mf52)), ((ma 53), .inl (E 0, 15, .inl mf53)), ((ma 54), .inl (E 0, 15, .inl mf54)), ((ma 56), .inl (E 0, 200, .inl mf56)), ((ma 57), .inl (E 0, 600, .inl mf57)), ((ma 59), .inl (E 0, 3, .inl mf59_39)), ((ma 60), .inl (E 0, 3, .inl mf60_39))]) [0, 1, 2, 3, 4, 5, 6, 7, 8, 9, 10, 11, 12, 13, 14, 15, 16, 17] rfl
            have hD9 := hD.sub (ws' := [(mh, .inr (9, G9 ma mcode mtoday moffs mmany msumW msumA msumR msumWW msumWA msumAA msumWR msumAR mupper mlower mrates mtaped mlaid mat mtk mtkAt mtkNumber mwaits mlisted mdealtMany)), ((ma 34), .inl (E 1, 2, .inl mf34)), ((ma 35), .inl (E 0, 2, .inl mf35)), ((ma 36), .inl (E 0, 384, .inl mf36)), ((ma 37), .inl (E 0, 384, .inl mf37)), ((ma 45), .inl (E 0, 130, .inl mf45)), ((ma 46), .inl (E 0, 24, .inl mf46)), ((ma 47), .inl (E 0, 5, .inl mf47)), ((ma 48), .inl (E 0, 5, .inl mf48)), ((ma 49), .inl (E 0, 5, .inl mf49)), ((ma 51), .inl (E 0, 15, .inl mf51)), ((ma 52), .inl (E 0, 15, .inl mf52)), ((ma 53), .inl (E 0, 15, .inl mf53)), ((ma 54), .inl (E 0, 15, .inl mf54)), ((ma 56), .inl (E 0, 200, .inl mf56)), ((ma 57), .inl (E 0, 600, .inl mf57)), ((ma 59), .inl (E 0, 3, .inl mf59_39)), ((ma 60), .inl (E 0, 3, .inl mf60_39))]) [0, 1, 2, 3, 4, 5, 6, 7, 8, 9, 10, 11, 12, 13, 14, 15, 16, 17] (by decide) rfl
            exact W.iret (v := (-1)) hx hb hr (fun t ht hW => ⟨⟨(-1), (mf45, mf46, mf59_39, mf60_39), rfl, ⟨(fun hHB k hk => v1_39 hHB k (by omega)), (fun hHB => by have hl := t_m1; refine Or.inl ⟨?_, by omega⟩; rw [← ci_1, ← ez_68]; omega)⟩, by rw [ht]; exact hP9, hD9⟩, hS.F ht⟩) hS.2.2 dX9_work_202
        ·
          have ic_67 : L5_39.toInt < 3 := by first | exact (g_lt rfl t_3).mp c_67 | (have h := mt (g_le t_3 rfl).mpr c_67; omega)
          clear c_67
          refine lv_iconst (v := 3) hx hb dX9_work_45 (by decide) ?_
          refine lv_iload_n hx hb dX9_work_46 rfl (lv_at hl 4 rfl) ?_
          refine lv_imul hx hb dX9_work_47 ?_
          refine lv_topi (fun z_102 ez_102 => ?_)
          have jz_102 : z_102.toInt = 3 * p0.toInt := by rw [ez_102]; exact g_mul t_3 rfl (by omega) (by omega)
          refine lv_iload hx hb dX9_work_48 (lv_at hl 0 rfl) ?_
          refine lv_iadd hx hb dX9_work_50 ?_
          refine lv_topi (fun z_103 ez_103 => ?_)
          have jz_103 : z_103.toInt = z_102.toInt + L5_39.toInt := by rw [ez_103]; exact g_add rfl rfl (by omega) (by omega)
          refine lv_istore (lv' := [(6, .int z_103), (5, .int L5_39), (4, .int 1), (3, .int z_5), (0, .ref mh), (1, .int p0), (2, .int p1)]) hx hb dX9_work_51 hl (by decide) rfl (fun ls hl => ?_)
          refine lv_iload hx hb dX9_work_53 (lv_at hl 2 rfl) ?_
          refine lv_if_eq (tgt := 91) hx hb dX9_work_55 (by decide) (fun c_104 => absurd c_104 (by decide)) (fun c_104 => ?_)
          refine lv_iload_n hx hb dX9_work_58 rfl (lv_at hl 3 rfl) ?_
          obtain ⟨z_105, ez_105⟩ : ∃ y : Int64, (z_5 : Int32).toInt64 = y := ⟨_, rfl⟩
          refine lv_i2l hx hb dX9_work_59 ez_105 ?_
          refine lv_aload_n hx hb dX9_work_60 rfl (lv_at hl 4 rfl) ?_
          refine va_get (D := D) (ci := 9) (v := .ref (ma 54)) (C := RX9) (T := TX9) (N := 68) hx hb htb iX9 hown hK.1 hP 0 rfl rfl 54 (by decide) (htb _ k_1012) (fun _ h9 => h9) rfl dX9_work_61 ?_
          refine lv_iload hx hb dX9_work_64 (lv_at hl 0 rfl) ?_
          refine va_iald hx hb hK.1 hP 13 0 rfl rfl (g_in rfl (by omega) (by omega)) dX9_work_66 ?_
          refine lv_topi (fun z_106 ez_106 => ?_)
          have kz_106 := congrArg Int32.toInt ez_106
          refine lv_aload_n hx hb dX9_work_67 rfl (lv_at hl 4 rfl) ?_
          refine va_get (D := D) (ci := 9) (v := .ref (ma 51)) (C := RX9) (T := TX9) (N := 68) hx hb htb iX9 hown hK.1 hP 0 rfl rfl 51 (by decide) (htb _ k_1009) (fun _ h9 => h9) rfl dX9_work_68 ?_
          refine lv_iload hx hb dX9_work_71 (lv_at hl 0 rfl) ?_
          refine va_iald hx hb hK.1 hP 10 0 rfl rfl (g_in rfl (by omega) (by omega)) dX9_work_73 ?_
          refine lv_topi (fun z_107 ez_107 => ?_)
          have kz_107 := congrArg Int32.toInt ez_107
          refine lv_isub hx hb dX9_work_74 ?_
          refine lv_topi (fun z_108 ez_108 => ?_)
          obtain ⟨z_109, ez_109⟩ : ∃ y : Int64, (z_108 : Int32).toInt64 = y := ⟨_, rfl⟩
          refine lv_i2l hx hb dX9_work_75 ez_109 ?_
          refine lv_lmul hx hb dX9_work_76 ?_
          refine lv_topl (fun z_110 ez_110 => ?_)
          refine lv_aload_n hx hb dX9_work_77 rfl (lv_at hl 4 rfl) ?_
          refine va_get (D := D) (ci := 9) (v := .ref (ma 49)) (C := RX9) (T := TX9) (N := 68) hx hb htb iX9 hown hK.1 hP 0 rfl rfl 49 (by decide) (htb _ k_1007) (fun _ h9 => h9) rfl dX9_work_78 ?_
          refine lv_iload_n hx hb dX9_work_81 rfl (lv_at hl 5 rfl) ?_
          refine va_iald hx hb hK.1 hP 9 0 rfl rfl (g_in rfl (by omega) (by omega)) dX9_work_82 ?_
          refine lv_topi (fun z_111 ez_111 => ?_)
          have kz_111 := congrArg Int32.toInt ez_111
          have nb_112 : z_111.toInt ≠ 0 := by rw [ez_111]; exact j49 _ (g_ix rfl (by omega) (by omega)) (by rw [← ez_6]; omega)
          obtain ⟨z_113, ez_113⟩ : ∃ y : Int64, (z_111 : Int32).toInt64 = y := ⟨_, rfl⟩
          refine lv_i2l hx hb dX9_work_83 ez_113 ?_
          refine callLS (rest := []) (As := [.long z_110, .long z_113]) hx hb hml hown htb hK (g_X9_floor l D E z_110 z_113 (i2l_nz ez_113 (by omega))) ok_X9_floor k_1311 k_1312 k_9 k_1313 ⟨(Nat.le_of_ble_eq_true rfl), (Nat.le_of_ble_eq_true rfl)⟩ ⟨(Nat.le_of_ble_eq_true rfl), (Nat.le_of_ble_eq_true rfl)⟩ hl.1 (Nat.le_of_ble_eq_true rfl) rfl rfl dX9_work_84 (hP.sub (ws' := ([] : va_W)) [] rfl) (fun r_114 hw_115 => ?_)
          obtain ⟨z_117, ez_117⟩ : ∃ y : Int32, (r_114 : Int64).toInt32 = y := ⟨_, rfl⟩
          refine lv_l2i hx hb dX9_work_87 ez_117 ?_
          refine lv_goto (tgt := 100) hx hb dX9_work_88 (by decide) ?_
          refine lv_istore (lv' := [(7, .int z_117), (6, .int z_103), (5, .int L5_39), (4, .int 1), (3, .int z_5), (0, .ref mh), (1, .int p0), (2, .int p1)]) hx hb dX9_work_100 hl (by decide) rfl (fun ls hl => ?_)
          refine lv_aload_n hx hb dX9_work_102 rfl (lv_at hl 5 rfl) ?_
          refine va_get (D := D) (ci := 9) (v := .ref (ma 59)) (C := RX9) (T := TX9) (N := 68) hx hb htb iX9 hown hK.1 hP 0 rfl rfl 59 (by decide) (htb _ k_1017) (fun _ h9 => h9) rfl dX9_work_103 ?_
          refine lv_iload hx hb dX9_work_106 (lv_at hl 2 rfl) ?_
          refine lv_aload_n hx hb dX9_work_108 rfl (lv_at hl 5 rfl) ?_
          refine va_get (D := D) (ci := 9) (v := .ref (ma 57)) (C := RX9) (T := TX9) (N := 68) hx hb htb iX9 hown hK.1 hP 0 rfl rfl 57 (by decide) (htb _ k_1015) (fun _ h9 => h9) rfl dX9_work_109 ?_
          refine lv_iconst (v := 3) hx hb dX9_work_112 (by decide) ?_
          refine lv_bipush (v := 40) hx hb dX9_work_113 (by decide) ?_
          refine lv_iload_n hx hb dX9_work_115 rfl (lv_at hl 6 rfl) ?_
          refine lv_imul hx hb dX9_work_116 ?_
          refine lv_topi (fun z_118 ez_118 => ?_)
          have jz_118 : z_118.toInt = 40 * p0.toInt := by rw [ez_118]; exact g_mul t_40 rfl (by omega) (by omega)
          refine lv_iload_n hx hb dX9_work_117 rfl (lv_at hl 7 rfl) ?_
          refine lv_iadd hx hb dX9_work_118 ?_
          refine lv_topi (fun z_119 ez_119 => ?_)
          have jz_119 : z_119.toInt = z_118.toInt + p1.toInt := by rw [ez_119]; exact g_add rfl rfl (by omega) (by omega)
          refine lv_imul hx hb dX9_work_119 ?_
          refine lv_topi (fun z_120 ez_120 => ?_)
          have jz_120 : z_120.toInt = 3 * z_119.toInt := by rw [ez_120]; exact g_mul t_3 rfl (by omega) (by omega)
          refine lv_iload hx hb dX9_work_120 (lv_at hl 2 rfl) ?_
          refine lv_iadd hx hb dX9_work_122 ?_
          refine lv_topi (fun z_121 ez_121 => ?_)
          have jz_121 : z_121.toInt = z_120.toInt + L5_39.toInt := by rw [ez_121]; exact g_add rfl rfl (by omega) (by omega)
          refine va_iald hx hb hK.1 hP 15 0 rfl rfl (g_in rfl (by omega) (by omega)) dX9_work_123 ?_
          refine lv_topi (fun z_122 ez_122 => ?_)
          have kz_122 := congrArg Int32.toInt ez_122
          refine lv_aload_n hx hb dX9_work_124 rfl (lv_at hl 5 rfl) ?_
          refine va_get (D := D) (ci := 9) (v := .ref (ma 51)) (C := RX9) (T := TX9) (N := 68) hx hb htb iX9 hown hK.1 hP 0 rfl rfl 51 (by decide) (htb _ k_1009) (fun _ h9 => h9) rfl dX9_work_125 ?_
          refine lv_iload hx hb dX9_work_128 (lv_at hl 1 rfl) ?_
          refine va_iald hx hb hK.1 hP 10 0 rfl rfl (g_in rfl (by omega) (by omega)) dX9_work_130 ?_
          refine lv_topi (fun z_123 ez_123 => ?_)
          have kz_123 := congrArg Int32.toInt ez_123
          refine lv_isub hx hb dX9_work_131 ?_
          refine lv_topi (fun z_124 ez_124 => ?_)
          refine lv_iload hx hb dX9_work_132 (lv_at hl 0 rfl) ?_
          refine lv_isub hx hb dX9_work_134 ?_
          refine lv_topi (fun z_125 ez_125 => ?_)
          refine va_iast hx hb hK.1 hP hD hS 16 0 rfl rfl (g_in rfl (by omega) (by omega)) dX9_work_135 (fun H locs hP hD hS => ?_)
          have hP : va_P D vwCl [(mh, .inr (9, G9 ma mcode mtoday moffs mmany msumW msumA msumR msumWW msumWA msumAA msumWR msumAR mupper mlower mrates mtaped mlaid mat mtk mtkAt mtkNumber mwaits mlisted mdealtMany)), ((ma 34), .inl (E 1, 2, .inl mf34)), ((ma 35), .inl (E 0, 2, .inl mf35)), ((ma 36), .inl (E 0, 384, .inl mf36)), ((ma 37), .inl (E 0, 384, .inl mf37)), ((ma 45), .inl (E 0, 130, .inl mf45)), ((ma 46), .inl (E 0, 24, .inl mf46)), ((ma 47), .inl (E 0, 5, .inl mf47)), ((ma 48), .inl (E 0, 5, .inl mf48)), ((ma 49), .inl (E 0, 5, .inl mf49)), ((ma 51), .inl (E 0, 15, .inl mf51)), ((ma 52), .inl (E 0, 15, .inl mf52)), ((ma 53), .inl (E 0, 15, .inl mf53)), ((ma 54), .inl (E 0, 15, .inl mf54)), ((ma 56), .inl (E 0, 200, .inl mf56)), ((ma 57), .inl (E 0, 600, .inl mf57)), ((ma 59), .inl (E 0, 3, .inl (upd mf59_39 (L5_39 : Int32).toNatClampNeg z_125))), ((ma 60), .inl (E 0, 3, .inl mf60_39))] H := hP
          have hD := toW hP hD rfl
          refine lv_iload hx hb dX9_work_136 (lv_at hl 3 rfl) ?_
          refine lv_if_eq (tgt := 164) hx hb dX9_work_138 (by decide) (fun c_126 => absurd c_126 (by decide)) (fun c_126 => ?_)
          refine lv_aload_n hx hb dX9_work_141 rfl (lv_at hl 5 rfl) ?_
          refine va_get (D := D) (ci := 9) (v := .ref (ma 49)) (C := RX9) (T := TX9) (N := 68) hx hb htb iX9 hown hK.1 hP 0 rfl rfl 49 (by decide) (htb _ k_1007) (fun _ h9 => h9) rfl dX9_work_142 ?_
          refine lv_iload_n hx hb dX9_work_145 rfl (lv_at hl 6 rfl) ?_
          refine va_iald hx hb hK.1 hP 9 0 rfl rfl (g_in rfl (by omega) (by omega)) dX9_work_146 ?_
          refine lv_topi (fun z_127 ez_127 => ?_)
          have kz_127 := congrArg Int32.toInt ez_127
          have nb_128 : z_127.toInt ≠ 0 := by rw [ez_127]; exact j49 _ (g_ix rfl (by omega) (by omega)) (by rw [← ez_6]; omega)
          refine lv_iload_n hx hb dX9_work_147 rfl (lv_at hl 4 rfl) ?_
          refine lv_isub hx hb dX9_work_148 ?_
          refine lv_topi (fun z_129 ez_129 => ?_)
          refine lv_iload_n hx hb dX9_work_149 rfl (lv_at hl 4 rfl) ?_
          refine lv_icmp_ge (tgt := 164) hx hb dX9_work_150 (by decide) (fun c_130 => ?_) (fun c_130 => ?_)
          ·
            have ic_130 : z_5.toInt ≤ z_129.toInt := by first | exact (g_le rfl rfl).mp c_130 | (have h := mt (g_lt rfl rfl).mpr c_130; omega)
            clear c_130
            refine lv_iload_n hx hb dX9_work_164 rfl (lv_at hl 4 rfl) ?_
            refine lv_istore (lv' := [(8, .int z_5), (7, .int z_117), (6, .int z_103), (5, .int L5_39), (4, .int 1), (3, .int z_5), (0, .ref mh), (1, .int p0), (2, .int p1)]) hx hb dX9_work_165 hl (by decide) rfl (fun ls hl => ?_)
            refine lv_aload_n hx hb dX9_work_167 rfl (lv_at hl 6 rfl) ?_
            refine va_get (D := D) (ci := 9) (v := .ref (ma 60)) (C := RX9) (T := TX9) (N := 68) hx hb htb iX9 hown hK.1 hP 0 rfl rfl 60 (by decide) (htb _ k_1018) (fun _ h9 => h9) rfl dX9_work_168 ?_
            refine lv_iload hx hb dX9_work_171 (lv_at hl 3 rfl) ?_
            refine lv_aload_n hx hb dX9_work_173 rfl (lv_at hl 6 rfl) ?_
            refine va_get (D := D) (ci := 9) (v := .ref (ma 53)) (C := RX9) (T := TX9) (N := 68) hx hb htb iX9 hown hK.1 hP 0 rfl rfl 53 (by decide) (htb _ k_1011) (fun _ h9 => h9) rfl dX9_work_174 ?_
            refine lv_iload hx hb dX9_work_177 (lv_at hl 2 rfl) ?_
            refine va_iald hx hb hK.1 hP 12 0 rfl rfl (g_in rfl (by omega) (by omega)) dX9_work_179 ?_
            refine lv_topi (fun z_131 ez_131 => ?_)
            have kz_131 := congrArg Int32.toInt ez_131
            refine lv_iload hx hb dX9_work_180 (lv_at hl 0 rfl) ?_
            refine lv_imul hx hb dX9_work_182 ?_
            refine lv_topi (fun z_132 ez_132 => ?_)
            refine lv_iconst (v := 5) hx hb dX9_work_183 (by decide) ?_
            refine lv_iadd hx hb dX9_work_184 ?_
            refine lv_topi (fun z_133 ez_133 => ?_)
            refine va_iast hx hb hK.1 hP hD hS 17 0 rfl rfl (g_in rfl (by omega) (by omega)) dX9_work_185 (fun H locs hP hD hS => ?_)
            have hP : va_P D vwCl [(mh, .inr (9, G9 ma mcode mtoday moffs mmany msumW msumA msumR msumWW msumWA msumAA msumWR msumAR mupper mlower mrates mtaped mlaid mat mtk mtkAt mtkNumber mwaits mlisted mdealtMany)), ((ma 34), .inl (E 1, 2, .inl mf34)), ((ma 35), .inl (E 0, 2, .inl mf35)), ((ma 36), .inl (E 0, 384, .inl mf36)), ((ma 37), .inl (E 0, 384, .inl mf37)), ((ma 45), .inl (E 0, 130, .inl mf45)), ((ma 46), .inl (E 0, 24, .inl mf46)), ((ma 47), .inl (E 0, 5, .inl mf47)), ((ma 48), .inl (E 0, 5, .inl mf48)), ((ma 49), .inl (E 0, 5, .inl mf49)), ((ma 51), .inl (E 0, 15, .inl mf51)), ((ma 52), .inl (E 0, 15, .inl mf52)), ((ma 53), .inl (E 0, 15, .inl mf53)), ((ma 54), .inl (E 0, 15, .inl mf54)), ((ma 56), .inl (E 0, 200, .inl mf56)), ((ma 57), .inl (E 0, 600, .inl mf57)), ((ma 59), .inl (E 0, 3, .inl (upd mf59_39 (L5_39 : Int32).toNatClampNeg z_125))), ((ma 60), .inl (E 0, 3, .inl (upd mf60_39 (L5_39 : Int32).toNatClampNeg z_133)))] H := hP
            have hD := toW hP hD rfl
            obtain ⟨z_134, ez_134⟩ : ∃ y : Int32, y = L5_39 + 1 := ⟨_, rfl⟩
            have jz_134 : z_134.toInt = L5_39.toInt + 1 := by rw [ez_134]; exact g_add rfl t_1 (by omega) (by omega)
            refine lv_iinc (v := z_134) (lv' := [(5, .int z_134), (8, .int z_5), (7, .int z_117), (6, .int z_103), (4, .int 1), (3, .int z_5), (0, .ref mh), (1, .int p0), (2, .int p1)]) hx hb dX9_work_186 hl (k := 3) rfl (by rw [ez_134]; rfl) (by decide) rfl (fun ls hl => ?_)
            refine lv_goto (tgt := 39) hx hb dX9_work_189 (by decide) ?_
            exact ih_65 z_134 (upd mf59_39 (L5_39 : Int32).toNatClampNeg z_125) (upd mf60_39 (L5_39 : Int32).toNatClampNeg z_133) _ _ _ (by have h0 := t_1; (try dsimp only); omega) (by have h0 := t_1; (try dsimp only); omega) (fun hHB => fill2 (v1_39 hHB) (by omega) jz_134 (by have c0 := i_clamp0 (x := p0) (by omega); have c1 := i_clamp0 (x := p1) (by omega); have c5 := i_clamp0 (x := L5_39) (by omega); have h2 : mf47 (p0).toNatClampNeg = z_6 := ez_6.symm; have i56 : (z_2 : Int32).toNatClampNeg = 40 * (p0).toNatClampNeg + (p1).toNatClampNeg := (by have c9 := i_clamp0 (x := z_2) (by omega); omega); have i57 : (z_121 : Int32).toNatClampNeg = 3 * (40 * (p0).toNatClampNeg + (p1).toNatClampNeg) + (L5_39).toNatClampNeg := (by have c9 := i_clamp0 (x := z_121) (by omega); omega); have i51 : (z_103 : Int32).toNatClampNeg = 3 * (p0).toNatClampNeg + (L5_39).toNatClampNeg := (by have c9 := i_clamp0 (x := z_103) (by omega); omega); have hb := hHB (by rw [h2]; omega); have hw := went_of (n := z_5) (d := z_108) (ba := mf49 (p0).toNatClampNeg) ez_105 ez_109 ez_110 (by rw [← ez_111]; exact ez_113) hw_115 ez_117 hb; unfold tmM; rw [if_pos (by rw [h2]; omega), ← i57, ← i51, ← i56]; subst_vars; rw [hw]) (by have c0 := i_clamp0 (x := p0) (by omega); have c1 := i_clamp0 (x := p1) (by omega); have c5 := i_clamp0 (x := L5_39) (by omega); have h2 : mf47 (p0).toNatClampNeg = z_6 := ez_6.symm; have i56 : (z_2 : Int32).toNatClampNeg = 40 * (p0).toNatClampNeg + (p1).toNatClampNeg := (by have c9 := i_clamp0 (x := z_2) (by omega); omega); have i57 : (z_121 : Int32).toNatClampNeg = 3 * (40 * (p0).toNatClampNeg + (p1).toNatClampNeg) + (L5_39).toNatClampNeg := (by have c9 := i_clamp0 (x := z_121) (by omega); omega); have i51 : (z_103 : Int32).toNatClampNeg = 3 * (p0).toNatClampNeg + (L5_39).toNatClampNeg := (by have c9 := i_clamp0 (x := z_103) (by omega); omega); unfold wdM; rw [← i51, ← i56]; first | (rw [if_pos ⟨by rw [h2]; omega, by subst_vars; omega⟩]; subst_vars; rfl) | (rw [if_neg (fun hh => by have q1 := hh.1; have q2 := hh.2; rw [h2] at q1; first | omega | (subst_vars; omega))]; subst_vars; rfl))) hP hD hS (lv_sub hl [0, 4, 5, 6, 7, 8] rfl)
          ·
            have ic_130 : z_129.toInt < z_5.toInt := by first | exact (g_lt rfl rfl).mp c_130 | (have h := mt (g_le rfl rfl).mpr c_130; omega)
            clear c_130
            refine lv_aload_n hx hb dX9_work_153 rfl (lv_at hl 5 rfl) ?_
            refine va_get (D := D) (ci := 9) (v := .ref (ma 49)) (C := RX9) (T := TX9) (N := 68) hx hb htb iX9 hown hK.1 hP 0 rfl rfl 49 (by decide) (htb _ k_1007) (fun _ h9 => h9) rfl dX9_work_154 ?_
            refine lv_iload_n hx hb dX9_work_157 rfl (lv_at hl 6 rfl) ?_
            refine va_iald hx hb hK.1 hP 9 0 rfl rfl (g_in rfl (by omega) (by omega)) dX9_work_158 ?_
            refine lv_topi (fun z_135 ez_135 => ?_)
            have kz_135 := congrArg Int32.toInt ez_135
            have nb_136 : z_135.toInt ≠ 0 := by rw [ez_135]; exact j49 _ (g_ix rfl (by omega) (by omega)) (by rw [← ez_6]; omega)
            refine lv_iload_n hx hb dX9_work_159 rfl (lv_at hl 4 rfl) ?_
            refine lv_isub hx hb dX9_work_160 ?_
            refine lv_topi (fun z_137 ez_137 => ?_)
            refine lv_goto (tgt := 165) hx hb dX9_work_161 (by decide) ?_
            refine lv_istore (lv' := [(8, .int z_137), (7, .int z_117), (6, .int z_103), (5, .int L5_39), (4, .int 1), (3, .int z_5), (0, .ref mh), (1, .int p0), (2, .int p1)]) hx hb dX9_work_165 hl (by decide) rfl (fun ls hl => ?_)
            refine lv_aload_n hx hb dX9_work_167 rfl (lv_at hl 6 rfl) ?_
            refine va_get (D := D) (ci := 9) (v := .ref (ma 60)) (C := RX9) (T := TX9) (N := 68) hx hb htb iX9 hown hK.1 hP 0 rfl rfl 60 (by decide) (htb _ k_1018) (fun _ h9 => h9) rfl dX9_work_168 ?_
            refine lv_iload hx hb dX9_work_171 (lv_at hl 3 rfl) ?_
            refine lv_aload_n hx hb dX9_work_173 rfl (lv_at hl 6 rfl) ?_
            refine va_get (D := D) (ci := 9) (v := .ref (ma 53)) (C := RX9) (T := TX9) (N := 68) hx hb htb iX9 hown hK.1 hP 0 rfl rfl 53 (by decide) (htb _ k_1011) (fun _ h9 => h9) rfl dX9_work_174 ?_
            refine lv_iload hx hb dX9_work_177 (lv_at hl 2 rfl) ?_
            refine va_iald hx hb hK.1 hP 12 0 rfl rfl (g_in rfl (by omega) (by omega)) dX9_work_179 ?_
            refine lv_topi (fun z_138 ez_138 => ?_)
            have kz_138 := congrArg Int32.toInt ez_138
            refine lv_iload hx hb dX9_work_180 (lv_at hl 0 rfl) ?_
            refine lv_imul hx hb dX9_work_182 ?_
            refine lv_topi (fun z_139 ez_139 => ?_)
            refine lv_iconst (v := 5) hx hb dX9_work_183 (by decide) ?_
            refine lv_iadd hx hb dX9_work_184 ?_
            refine lv_topi (fun z_140 ez_140 => ?_)
            refine va_iast hx hb hK.1 hP hD hS 17 0 rfl rfl (g_in rfl (by omega) (by omega)) dX9_work_185 (fun H locs hP hD hS => ?_)
            have hP : va_P D vwCl [(mh, .inr (9, G9 ma mcode mtoday moffs mmany msumW msumA msumR msumWW msumWA msumAA msumWR msumAR mupper mlower mrates mtaped mlaid mat mtk mtkAt mtkNumber mwaits mlisted mdealtMany)), ((ma 34), .inl (E 1, 2, .inl mf34)), ((ma 35), .inl (E 0, 2, .inl mf35)), ((ma 36), .inl (E 0, 384, .inl mf36)), ((ma 37), .inl (E 0, 384, .inl mf37)), ((ma 45), .inl (E 0, 130, .inl mf45)), ((ma 46), .inl (E 0, 24, .inl mf46)), ((ma 47), .inl (E 0, 5, .inl mf47)), ((ma 48), .inl (E 0, 5, .inl mf48)), ((ma 49), .inl (E 0, 5, .inl mf49)), ((ma 51), .inl (E 0, 15, .inl mf51)), ((ma 52), .inl (E 0, 15, .inl mf52)), ((ma 53), .inl (E 0, 15, .inl mf53)), ((ma 54), .inl (E 0, 15, .inl mf54)), ((ma 56), .inl (E 0, 200, .inl mf56)), ((ma 57), .inl (E 0, 600, .inl mf57)), ((ma 59), .inl (E 0, 3, .inl (upd mf59_39 (L5_39 : Int32).toNatClampNeg z_125))), ((ma 60), .inl (E 0, 3, .inl (upd mf60_39 (L5_39 : Int32).toNatClampNeg z_140)))] H := hP
            have hD := toW hP hD rfl
            obtain ⟨z_141, ez_141⟩ : ∃ y : Int32, y = L5_39 + 1 := ⟨_, rfl⟩
            have jz_141 : z_141.toInt = L5_39.toInt + 1 := by rw [ez_141]; exact g_add rfl t_1 (by omega) (by omega)
            refine lv_iinc (v := z_141) (lv' := [(5, .int z_141), (8, .int z_137), (7, .int z_117), (6, .int z_103), (4, .int 1), (3, .int z_5), (0, .ref mh), (1, .int p0), (2, .int p1)]) hx hb dX9_work_186 hl (k := 3) rfl (by rw [ez_141]; rfl) (by decide) rfl (fun ls hl => ?_)
            refine lv_goto (tgt := 39) hx hb dX9_work_189 (by decide) ?_
            exact ih_65 z_141 (upd mf59_39 (L5_39 : Int32).toNatClampNeg z_125) (upd mf60_39 (L5_39 : Int32).toNatClampNeg z_140) _ _ _ (by have h0 := t_1; (try dsimp only); omega) (by have h0 := t_1; (try dsimp only); omega) (fun hHB => fill2 (v1_39 hHB) (by omega) jz_141 (by have c0 := i_clamp0 (x := p0) (by omega); have c1 := i_clamp0 (x := p1) (by omega); have c5 := i_clamp0 (x := L5_39) (by omega); have h2 : mf47 (p0).toNatClampNeg = z_6 := ez_6.symm; have i56 : (z_2 : Int32).toNatClampNeg = 40 * (p0).toNatClampNeg + (p1).toNatClampNeg := (by have c9 := i_clamp0 (x := z_2) (by omega); omega); have i57 : (z_121 : Int32).toNatClampNeg = 3 * (40 * (p0).toNatClampNeg + (p1).toNatClampNeg) + (L5_39).toNatClampNeg := (by have c9 := i_clamp0 (x := z_121) (by omega); omega); have i51 : (z_103 : Int32).toNatClampNeg = 3 * (p0).toNatClampNeg + (L5_39).toNatClampNeg := (by have c9 := i_clamp0 (x := z_103) (by omega); omega); have hb := hHB (by rw [h2]; omega); have hw := went_of (n := z_5) (d := z_108) (ba := mf49 (p0).toNatClampNeg) ez_105 ez_109 ez_110 (by rw [← ez_111]; exact ez_113) hw_115 ez_117 hb; unfold tmM; rw [if_pos (by rw [h2]; omega), ← i57, ← i51, ← i56]; subst_vars; rw [hw]) (by have c0 := i_clamp0 (x := p0) (by omega); have c1 := i_clamp0 (x := p1) (by omega); have c5 := i_clamp0 (x := L5_39) (by omega); have h2 : mf47 (p0).toNatClampNeg = z_6 := ez_6.symm; have i56 : (z_2 : Int32).toNatClampNeg = 40 * (p0).toNatClampNeg + (p1).toNatClampNeg := (by have c9 := i_clamp0 (x := z_2) (by omega); omega); have i57 : (z_121 : Int32).toNatClampNeg = 3 * (40 * (p0).toNatClampNeg + (p1).toNatClampNeg) + (L5_39).toNatClampNeg := (by have c9 := i_clamp0 (x := z_121) (by omega); omega); have i51 : (z_103 : Int32).toNatClampNeg = 3 * (p0).toNatClampNeg + (L5_39).toNatClampNeg := (by have c9 := i_clamp0 (x := z_103) (by omega); omega); unfold wdM; rw [← i51, ← i56]; first | (rw [if_pos ⟨by rw [h2]; omega, by subst_vars; omega⟩]; subst_vars; rfl) | (rw [if_neg (fun hh => by have q1 := hh.1; have q2 := hh.2; rw [h2] at q1; first | omega | (subst_vars; omega))]; subst_vars; rfl))) hP hD hS (lv_sub hl [0, 4, 5, 6, 7, 8] rfl)
    exact loop_64 4 0 mf59 mf60 _ _ _ (by have h0 := t_0; have h1 := t_1; (try dsimp only); omega) (by have h0 := t_0; have h1 := t_1; (try dsimp only); omega) (fun hHB k hk => absurd hk (by have h0 := t_0; omega)) hP hD hS (lv_sub hl [0, 1, 2, 3, 4, 5] rfl)
set_option maxHeartbeats 4000000 in
set_option maxRecDepth 100000 in
theorem g_X9_told (l : Launch) (D : va_G) (E : Nat → Nat) (mh : Nat) (ma : Nat → Nat) (mcode : Int32) (mtoday : Int32) (moffs : Int32) (mmany : Int64) (msumW : Int64) (msumA : Int64) (msumR : Int64) (msumWW : Int64) (msumWA : Int64) (msumAA : Int64) (msumWR : Int64) (msumAR : Int64) (mupper : Int64) (mlower : Int64) (mrates : Int32) (mtaped : Int32) (mlaid : Int32) (mat : Int32) (mtk : Int32) (mtkAt : Int32) (mtkNumber : Int32) (mwaits : Int32) (mlisted : Int32) (mdealtMany : Int32) (mf34 : Nat → Int32) (mf35 : Nat → Int32) (mf36 : Nat → Int32) (mf37 : Nat → Int32) (mf45 : Nat → Int32) (mf46 : Nat → Int32) (mf47 : Nat → Int32) (mf48 : Nat → Int32) (mf49 : Nat → Int32) (mf51 : Nat → Int32) (mf52 : Nat → Int32) (mf53 : Nat → Int32) (mf54 : Nat → Int32) (mf55 : Nat → Int32) (mf56 : Nat → Int32) (mf57 : Nat → Int32) (mf59 : Nat → Int32) (mf60 : Nat → Int32) (p0 : Int32) (p1 : Int32) (p2 : Int32) (sz : Nat) (hi_m : (0 ≤ mtoday.toInt ∧ mtoday.toInt ≤ 399) ∧ (0 ≤ moffs.toInt ∧ moffs.toInt ≤ 60) ∧ (0 ≤ mrates.toInt ∧ mrates.toInt ≤ 60) ∧ (0 ≤ mtaped.toInt ∧ mtaped.toInt ≤ 120) ∧ (0 ≤ mlisted.toInt ∧ mlisted.toInt ≤ 9) ∧ (0 ≤ mdealtMany.toInt ∧ mdealtMany.toInt ≤ 9)) (hr_m35 : ∀ k : Nat, k < 2 → 0 ≤ (mf35 k).toInt ∧ (mf35 k).toInt ≤ 127) (hr_m55 : ∀ k : Nat, k < 5 → 0 ≤ (mf55 k).toInt ∧ (mf55 k).toInt ≤ 40) (j49 : J49 mf47 mf49) (hjw : JW mf36 mf35) : Met l yX9_told (wl yX9_told cX9_told 8 (some .int)) (RM 3 0 0) (mu_P D E [.ref mh, .int p0, .int p1, .int p2] [(mh, .inr (9, G9 ma mcode mtoday moffs mmany msumW msumA msumR msumWW msumWA msumAA msumWR msumAR mupper mlower mrates mtaped mlaid mat mtk mtkAt mtkNumber mwaits mlisted mdealtMany)), ((ma 34), .inl (E 1, 2, .inl mf34)), ((ma 35), .inl (E 0, 2, .inl mf35)), ((ma 36), .inl (E 0, 384, .inl mf36)), ((ma 37), .inl (E 0, 384, .inl mf37)), ((ma 45), .inl (E 0, 130, .inl mf45)), ((ma 46), .inl (E 0, 24, .inl mf46)), ((ma 47), .inl (E 0, 5, .inl mf47)), ((ma 48), .inl (E 0, 5, .inl mf48)), ((ma 49), .inl (E 0, 5, .inl mf49)), ((ma 51), .inl (E 0, 15, .inl mf51)), ((ma 52), .inl (E 0, 15, .inl mf52)), ((ma 53), .inl (E 0, 15, .inl mf53)), ((ma 54), .inl (E 0, 15, .inl mf54)), ((ma 55), .inl (E 0, 5, .inl mf55)), ((ma 56), .inl (E 0, 200, .inl mf56)), ((ma 57), .inl (E 0, 600, .inl mf57)), ((ma 59), .inl (E 0, 3, .inl mf59)), ((ma 60), .inl (E 0, 3, .inl mf60))] sz) (va_Qi (fun (r : Int32) (u : (Nat → Int32) × (Nat → Int32) × (Nat → Int32) × (Nat → Int32)) => ((¬ ((0 ≤ p0.toInt ∧ p0.toInt ≤ 4) ∧ (0 ≤ p1.toInt ∧ p1.toInt < (mf55 (p0).toNatClampNeg).toInt) ∧ (0 ≤ p2.toInt ∧ p2.toInt ≤ 9)) ∧ r.toInt = -2000000000) ∨ (((0 ≤ p0.toInt ∧ p0.toInt ≤ 4) ∧ (0 ≤ p1.toInt ∧ p1.toInt < (mf55 (p0).toNatClampNeg).toInt) ∧ (0 ≤ p2.toInt ∧ p2.toInt ≤ 9)) ∧ (((mf47 (p0).toNatClampNeg).toInt = 2 → 0 < (mf49 (p0).toNatClampNeg).toInt) → TLD (mf56 (40 * (p0).toNatClampNeg + (p1).toNatClampNeg)) (fun k => tmM (mf47 (p0).toNatClampNeg) (mf49 (p0).toNatClampNeg) (mf48 (p0).toNatClampNeg) mf51 mf52 mf54 mf56 mf57 (p0).toNatClampNeg (p1).toNatClampNeg k) (fun k => wdM (mf47 (p0).toNatClampNeg) (mf49 (p0).toNatClampNeg) (mf48 (p0).toNatClampNeg) mf53 mf56 (p0).toNatClampNeg (p1).toNatClampNeg k) (fun d => DRM (fun k => tmM (mf47 (p0).toNatClampNeg) (mf49 (p0).toNatClampNeg) (mf48 (p0).toNatClampNeg) mf51 mf52 mf54 mf56 mf57 (p0).toNatClampNeg (p1).toNatClampNeg k) (fun k => mf53 (3 * (p0).toNatClampNeg + k)) (mf56 (40 * (p0).toNatClampNeg + (p1).toNatClampNeg) - mf48 (p0).toNatClampNeg) (mf34 1) mf36 mf37 (mf35 1) d) p2 r)))) (mu_B D (va_A [(mh, .inr (9, G9 ma mcode mtoday moffs mmany msumW msumA msumR msumWW msumWA msumAA msumWR msumAR mupper mlower mrates mtaped mlaid mat mtk mtkAt mtkNumber mwaits mlisted mdealtMany)), ((ma 34), .inl (E 1, 2, .inl mf34)), ((ma 35), .inl (E 0, 2, .inl mf35)), ((ma 36), .inl (E 0, 384, .inl mf36)), ((ma 37), .inl (E 0, 384, .inl mf37)), ((ma 45), .inl (E 0, 130, .inl mf45)), ((ma 46), .inl (E 0, 24, .inl mf46)), ((ma 47), .inl (E 0, 5, .inl mf47)), ((ma 48), .inl (E 0, 5, .inl mf48)), ((ma 49), .inl (E 0, 5, .inl mf49)), ((ma 51), .inl (E 0, 15, .inl mf51)), ((ma 52), .inl (E 0, 15, .inl mf52)), ((ma 53), .inl (E 0, 15, .inl mf53)), ((ma 54), .inl (E 0, 15, .inl mf54)), ((ma 55), .inl (E 0, 5, .inl mf55)), ((ma 56), .inl (E 0, 200, .inl mf56)), ((ma 57), .inl (E 0, 600, .inl mf57)), ((ma 59), .inl (E 0, 3, .inl mf59)), ((ma 60), .inl (E 0, 3, .inl mf60))] sz) (fun (u : (Nat → Int32) × (Nat → Int32) × (Nat → Int32) × (Nat → Int32)) => [(mh, .inr (9, G9 ma mcode mtoday moffs mmany msumW msumA msumR msumWW msumWA msumAA msumWR msumAR mupper mlower mrates mtaped mlaid mat mtk mtkAt mtkNumber mwaits mlisted mdealtMany)), ((ma 34), .inl (E 1, 2, .inl mf34)), ((ma 35), .inl (E 0, 2, .inl mf35)), ((ma 36), .inl (E 0, 384, .inl mf36)), ((ma 37), .inl (E 0, 384, .inl mf37)), ((ma 45), .inl (E 0, 130, .inl u.1)), ((ma 46), .inl (E 0, 24, .inl u.2.1)), ((ma 47), .inl (E 0, 5, .inl mf47)), ((ma 48), .inl (E 0, 5, .inl mf48)), ((ma 49), .inl (E 0, 5, .inl mf49)), ((ma 51), .inl (E 0, 15, .inl mf51)), ((ma 52), .inl (E 0, 15, .inl mf52)), ((ma 53), .inl (E 0, 15, .inl mf53)), ((ma 54), .inl (E 0, 15, .inl mf54)), ((ma 55), .inl (E 0, 5, .inl mf55)), ((ma 56), .inl (E 0, 200, .inl mf56)), ((ma 57), .inl (E 0, 600, .inl mf57)), ((ma 59), .inl (E 0, 3, .inl u.2.2.1)), ((ma 60), .inl (E 0, 3, .inl u.2.2.2))])) (va_A [(mh, .inr (9, G9 ma mcode mtoday moffs mmany msumW msumA msumR msumWW msumWA msumAA msumWR msumAR mupper mlower mrates mtaped mlaid mat mtk mtkAt mtkNumber mwaits mlisted mdealtMany)), ((ma 34), .inl (E 1, 2, .inl mf34)), ((ma 35), .inl (E 0, 2, .inl mf35)), ((ma 36), .inl (E 0, 384, .inl mf36)), ((ma 37), .inl (E 0, 384, .inl mf37)), ((ma 45), .inl (E 0, 130, .inl mf45)), ((ma 46), .inl (E 0, 24, .inl mf46)), ((ma 47), .inl (E 0, 5, .inl mf47)), ((ma 48), .inl (E 0, 5, .inl mf48)), ((ma 49), .inl (E 0, 5, .inl mf49)), ((ma 51), .inl (E 0, 15, .inl mf51)), ((ma 52), .inl (E 0, 15, .inl mf52)), ((ma 53), .inl (E 0, 15, .inl mf53)), ((ma 54), .inl (E 0, 15, .inl mf54)), ((ma 55), .inl (E 0, 5, .inl mf55)), ((ma 56), .inl (E 0, 200, .inl mf56)), ((ma 57), .inl (E 0, 600, .inl mf57)), ((ma 59), .inl (E 0, 3, .inl mf59)), ((ma 60), .inl (E 0, 3, .inl mf60))] sz)) 0 0 (va_A [(mh, .inr (9, G9 ma mcode mtoday moffs mmany msumW msumA msumR msumWW msumWA msumAA msumWR msumAR mupper mlower mrates mtaped mlaid mat mtk mtkAt mtkNumber mwaits mlisted mdealtMany)), ((ma 34), .inl (E 1, 2, .inl mf34)), ((ma 35), .inl (E 0, 2, .inl mf35)), ((ma 36), .inl (E 0, 384, .inl mf36)), ((ma 37), .inl (E 0, 384, .inl mf37)), ((ma 45), .inl (E 0, 130, .inl mf45)), ((ma 46), .inl (E 0, 24, .inl mf46)), ((ma 47), .inl (E 0, 5, .inl mf47)), ((ma 48), .inl (E 0, 5, .inl mf48)), ((ma 49), .inl (E 0, 5, .inl mf49)), ((ma 51), .inl (E 0, 15, .inl mf51)), ((ma 52), .inl (E 0, 15, .inl mf52)), ((ma 53), .inl (E 0, 15, .inl mf53)), ((ma 54), .inl (E 0, 15, .inl mf54)), ((ma 55), .inl (E 0, 5, .inl mf55)), ((ma 56), .inl (E 0, 200, .inl mf56)), ((ma 57), .inl (E 0, 600, .inl mf57)), ((ma 59), .inl (E 0, 3, .inl mf59)), ((ma 60), .inl (E 0, 3, .inl mf60))] sz) := by
  refine Met.ofW (cc := cX9_told) (maxL := 8) (ret := (some .int)) (by decide) rfl ?_
  intro p e s m args below meth c s₁ B hml hv
  obtain ⟨rfl, hsz, hP, hK, hD0⟩ := hv
  have hx := B.exec; have hb := B.bytes; have hr := B.returns
  have hts := atoms_spec (ws := wl yX9_told cX9_told 8 (some .int)) B.pre
  have htb : ∀ w ∈ tb, w.before _ s = true := fun w h => hts w (List.mem_cons_of_mem _ h)
  have hown : s.vm.findClass RX9 = some m.cls := findClass_of_methodNamed B.named
  have hlocks := B.notSynchronized
  subst hsz
  have hD := hD0.self (sz := s.heap.size)
  generalize hAe : va_A [(mh, .inr (9, G9 ma mcode mtoday moffs mmany msumW msumA msumR msumWW msumWA msumAA msumWR msumAR mupper mlower mrates mtaped mlaid mat mtk mtkAt mtkNumber mwaits mlisted mdealtMany)), ((ma 34), .inl (E 1, 2, .inl mf34)), ((ma 35), .inl (E 0, 2, .inl mf35)), ((ma 36), .inl (E 0, 384, .inl mf36)), ((ma 37), .inl (E 0, 384, .inl mf37)), ((ma 45), .inl (E 0, 130, .inl mf45)), ((ma 46), .inl (E 0, 24, .inl mf46)), ((ma 47), .inl (E 0, 5, .inl mf47)), ((ma 48), .inl (E 0, 5, .inl mf48)), ((ma 49), .inl (E 0, 5, .inl mf49)), ((ma 51), .inl (E 0, 15, .inl mf51)), ((ma 52), .inl (E 0, 15, .inl mf52)), ((ma 53), .inl (E 0, 15, .inl mf53)), ((ma 54), .inl (E 0, 15, .inl mf54)), ((ma 55), .inl (E 0, 5, .inl mf55)), ((ma 56), .inl (E 0, 200, .inl mf56)), ((ma 57), .inl (E 0, 600, .inl mf57)), ((ma 59), .inl (E 0, 3, .inl mf59)), ((ma 60), .inl (E 0, 3, .inl mf60))] s.heap.size = A at hD ⊢
  have hA : ∀ q : Nat, s.heap.size ≤ q → A q := fun q h => by rw [← hAe]; exact Or.inr h
  have hS : va_S A s.heap s.heap [] := va_S.rf
  have hP : va_P D vwCl [(mh, .inr (9, G9 ma mcode mtoday moffs mmany msumW msumA msumR msumWW msumWA msumAA msumWR msumAR mupper mlower mrates mtaped mlaid mat mtk mtkAt mtkNumber mwaits mlisted mdealtMany)), ((ma 34), .inl (E 1, 2, .inl mf34)), ((ma 35), .inl (E 0, 2, .inl mf35)), ((ma 36), .inl (E 0, 384, .inl mf36)), ((ma 37), .inl (E 0, 384, .inl mf37)), ((ma 45), .inl (E 0, 130, .inl mf45)), ((ma 46), .inl (E 0, 24, .inl mf46)), ((ma 47), .inl (E 0, 5, .inl mf47)), ((ma 48), .inl (E 0, 5, .inl mf48)), ((ma 49), .inl (E 0, 5, .inl mf49)), ((ma 51), .inl (E 0, 15, .inl mf51)), ((ma 52), .inl (E 0, 15, .inl mf52)), ((ma 53), .inl (E 0, 15, .inl mf53)), ((ma 54), .inl (E 0, 15, .inl mf54)), ((ma 55), .inl (E 0, 5, .inl mf55)), ((ma 56), .inl (E 0, 200, .inl mf56)), ((ma 57), .inl (E 0, 600, .inl mf57)), ((ma 59), .inl (E 0, 3, .inl mf59)), ((ma 60), .inl (E 0, 3, .inl mf60))] s.heap := hP
  have hl := lv_entry ([.ref mh, .int p0, .int p1, .int p2]) (n := 8) (Nat.le_of_ble_eq_true rfl)
  rw [lg_entry_eq]
  generalize (lg_sl ([.ref mh, .int p0, .int p1, .int p2]) ++ List.replicate (8 - (lg_sl ([.ref mh, .int p0, .int p1, .int p2])).length) Slot.unset).toArray = ls at hl ⊢
  have hl : lv_has ls 8 [(0, .ref mh), (1, .int p0), (2, .int p1), (3, .int p2)] := hl
  have lo_p0 := i_lo p0; have hi_p0 := i_hi p0
  have lo_p1 := i_lo p1; have hi_p1 := i_hi p1
  have lo_p2 := i_lo p2; have hi_p2 := i_hi p2
  refine lv_iload_n hx hb dX9_told_0 rfl (lv_at hl 1 rfl) ?_
  refine callRS (rest := []) (As := [.int p0]) hx hb hml hown htb hK (g_X9_isShip l D E p0 ) ok_X9_isShip k_1414 k_1415 k_9 k_1416 ⟨(Nat.le_of_ble_eq_true rfl), (Nat.le_of_ble_eq_true rfl)⟩ ⟨(Nat.le_of_ble_eq_true rfl), (Nat.le_of_ble_eq_true rfl)⟩ hl.1 (Nat.le_of_ble_eq_true rfl) rfl rfl dX9_told_1 (hP.sub (ws' := ([] : va_W)) [] rfl) (fun r_1 hw_2 => ?_)
  rcases hw_2 with ⟨hr_1, hw_2⟩ | ⟨hr_1, hw_2⟩
  ·
    refine W_top (y := .int 1) (by rw [hr_1]) ?_
    refine lv_if_eq (tgt := 33) hx hb dX9_told_4 (by decide) (fun c_4 => absurd c_4 (by decide)) (fun c_4 => ?_)
    refine lv_iload_n hx hb dX9_told_7 rfl (lv_at hl 2 rfl) ?_
    refine lv_iconst (v := 0) hx hb dX9_told_8 (by decide) ?_
    refine lv_aload_n hx hb dX9_told_9 rfl (lv_at hl 0 rfl) ?_
    refine va_get (D := D) (ci := 9) (v := .ref (ma 55)) (C := RX9) (T := TX9) (N := 68) hx hb htb iX9 hown hK.1 hP 0 rfl rfl 55 (by decide) (htb _ k_1013) (fun _ h9 => h9) rfl dX9_told_10 ?_
    refine lv_iload_n hx hb dX9_told_13 rfl (lv_at hl 1 rfl) ?_
    refine va_iald hx hb hK.1 hP 14 0 rfl rfl (g_in rfl (by omega) (by omega)) dX9_told_14 ?_
    refine lv_topi (fun z_5 ez_5 => ?_)
    have kz_5 := congrArg Int32.toInt ez_5
    have h55 : (mf55 (p0).toNatClampNeg).toInt = z_5.toInt := by rw [ez_5]
    have h55r : 0 ≤ z_5.toInt ∧ z_5.toInt ≤ 40 := by rw [ez_5]; exact hr_m55 _ (by have c9 := i_clamp0 (x := p0) (by omega); omega)
    have jz_5 : 0 ≤ z_5.toInt ∧ z_5.toInt ≤ 40 := by rw [ez_5]; exact hr_m55 _ (g_ix rfl (by omega) (by omega))
    refine lv_iconst (v := 1) hx hb dX9_told_15 (by decide) ?_
    refine lv_isub hx hb dX9_told_16 ?_
    refine lv_topi (fun z_6 ez_6 => ?_)
    have jz_6 : z_6.toInt = z_5.toInt - 1 := by rw [ez_6]; exact g_sub rfl t_1 (by omega) (by omega)
    refine callRS (rest := []) (As := [.int p1, .int 0, .int z_6]) hx hb hml hown htb hK (g_X9_in l D E p1 0 z_6 ) ok_X9_in k_1168 k_1169 k_9 k_1170 ⟨(Nat.le_of_ble_eq_true rfl), (Nat.le_of_ble_eq_true rfl)⟩ ⟨(Nat.le_of_ble_eq_true rfl), (Nat.le_of_ble_eq_true rfl)⟩ hl.1 (Nat.le_of_ble_eq_true rfl) rfl rfl dX9_told_17 (hP.sub (ws' := ([] : va_W)) [] rfl) (fun r_7 hw_8 => ?_)
    try simp only [t_0] at hw_8
    rcases hw_8 with ⟨hr_7, hw_8⟩ | ⟨hr_7, hw_8⟩
    ·
      try simp only [t_0] at hw_8
      refine W_top (y := .int 1) (by rw [hr_7]) ?_
      refine lv_if_eq (tgt := 33) hx hb dX9_told_20 (by decide) (fun c_10 => absurd c_10 (by decide)) (fun c_10 => ?_)
      refine lv_iload_n hx hb dX9_told_23 rfl (lv_at hl 3 rfl) ?_
      refine lv_iconst (v := 0) hx hb dX9_told_24 (by decide) ?_
      refine lv_bipush (v := 9) hx hb dX9_told_25 (by decide) ?_
      refine callRS (rest := []) (As := [.int p2, .int 0, .int 9]) hx hb hml hown htb hK (g_X9_in l D E p2 0 9 ) ok_X9_in k_1168 k_1169 k_9 k_1170 ⟨(Nat.le_of_ble_eq_true rfl), (Nat.le_of_ble_eq_true rfl)⟩ ⟨(Nat.le_of_ble_eq_true rfl), (Nat.le_of_ble_eq_true rfl)⟩ hl.1 (Nat.le_of_ble_eq_true rfl) rfl rfl dX9_told_27 (hP.sub (ws' := ([] : va_W)) [] rfl) (fun r_11 hw_12 => ?_)
      try simp only [t_0, t_9] at hw_12
      rcases hw_12 with ⟨hr_11, hw_12⟩ | ⟨hr_11, hw_12⟩
      ·
        try simp only [t_0, t_9] at hw_12
        refine W_top (y := .int 1) (by rw [hr_11]) ?_
        refine lv_if_ne (tgt := 36) hx hb dX9_told_30 (by decide) (fun c_14 => ?_) (fun c_14 => absurd c_14 (by decide))
        refine lv_aload_n hx hb dX9_told_36 rfl (lv_at hl 0 rfl) ?_
        refine lv_iload_n hx hb dX9_told_37 rfl (lv_at hl 1 rfl) ?_
        refine lv_iload_n hx hb dX9_told_38 rfl (lv_at hl 2 rfl) ?_
        have hPc := hP.sub (ws' := [(mh, .inr (9, G9 ma mcode mtoday moffs mmany msumW msumA msumR msumWW msumWA msumAA msumWR msumAR mupper mlower mrates mtaped mlaid mat mtk mtkAt mtkNumber mwaits mlisted mdealtMany)), ((ma 34), .inl (E 1, 2, .inl mf34)), ((ma 35), .inl (E 0, 2, .inl mf35)), ((ma 36), .inl (E 0, 384, .inl mf36)), ((ma 37), .inl (E 0, 384, .inl mf37)), ((ma 45), .inl (E 0, 130, .inl mf45)), ((ma 46), .inl (E 0, 24, .inl mf46)), ((ma 47), .inl (E 0, 5, .inl mf47)), ((ma 48), .inl (E 0, 5, .inl mf48)), ((ma 49), .inl (E 0, 5, .inl mf49)), ((ma 51), .inl (E 0, 15, .inl mf51)), ((ma 52), .inl (E 0, 15, .inl mf52)), ((ma 53), .inl (E 0, 15, .inl mf53)), ((ma 54), .inl (E 0, 15, .inl mf54)), ((ma 56), .inl (E 0, 200, .inl mf56)), ((ma 57), .inl (E 0, 600, .inl mf57)), ((ma 59), .inl (E 0, 3, .inl mf59)), ((ma 60), .inl (E 0, 3, .inl mf60))]) [0, 1, 2, 3, 4, 5, 6, 7, 8, 9, 10, 11, 12, 13, 15, 16, 17, 18] rfl
        have hDc := hD.sub (ws' := [(mh, .inr (9, G9 ma mcode mtoday moffs mmany msumW msumA msumR msumWW msumWA msumAA msumWR msumAR mupper mlower mrates mtaped mlaid mat mtk mtkAt mtkNumber mwaits mlisted mdealtMany)), ((ma 34), .inl (E 1, 2, .inl mf34)), ((ma 35), .inl (E 0, 2, .inl mf35)), ((ma 36), .inl (E 0, 384, .inl mf36)), ((ma 37), .inl (E 0, 384, .inl mf37)), ((ma 45), .inl (E 0, 130, .inl mf45)), ((ma 46), .inl (E 0, 24, .inl mf46)), ((ma 47), .inl (E 0, 5, .inl mf47)), ((ma 48), .inl (E 0, 5, .inl mf48)), ((ma 49), .inl (E 0, 5, .inl mf49)), ((ma 51), .inl (E 0, 15, .inl mf51)), ((ma 52), .inl (E 0, 15, .inl mf52)), ((ma 53), .inl (E 0, 15, .inl mf53)), ((ma 54), .inl (E 0, 15, .inl mf54)), ((ma 56), .inl (E 0, 200, .inl mf56)), ((ma 57), .inl (E 0, 600, .inl mf57)), ((ma 59), .inl (E 0, 3, .inl mf59)), ((ma 60), .inl (E 0, 3, .inl mf60))]) [0, 1, 2, 3, 4, 5, 6, 7, 8, 9, 10, 11, 12, 13, 15, 16, 17, 18] (by decide) rfl
        refine aft_i (runMV (rest := []) (As := [.int p0, .int p1]) hx hb hml hown htb hK (g_X9_work l D E mh ma mcode mtoday moffs mmany msumW msumA msumR msumWW msumWA msumAA msumWR msumAR mupper mlower mrates mtaped mlaid mat mtk mtkAt mtkNumber mwaits mlisted mdealtMany mf34 mf35 mf36 mf37 mf45 mf46 mf47 mf48 mf49 mf51 mf52 mf53 mf54 mf56 mf57 mf59 mf60 p0 p1 _ (by (try dsimp only); omega) hr_m35 (by (try dsimp only); omega) j49 hjw) ok_X9_work k_1442 k_1444 ks_64 k_9 k_1445 ⟨(Nat.le_of_ble_eq_true rfl), (Nat.le_of_ble_eq_true rfl)⟩ ⟨(Nat.le_of_ble_eq_true rfl), (Nat.le_of_ble_eq_true rfl)⟩ hl.1 (Nat.le_of_ble_eq_true rfl) rfl rfl dX9_told_39 hPc hDc rfl rfl 0 rfl) hP hD hS hA [0, 1, 2, 3, 4, 5, 6, 7, 8, 9, 10, 11, 12, 13, 15, 16, 17, 18] [14] (wr := [((ma 55), .inl (E 0, 5, .inl mf55))]) rfl rfl (by decide) (by decide) (fun r_15 u_17 H locs hw_16 hP hD hS => ?_)
        clear hPc hDc
        obtain ⟨w_18, w_19, w_20, w_21⟩ := u_17
        try dsimp only at hw_16
        have hP : va_P D vwCl [((ma 55), .inl (E 0, 5, .inl mf55)), (mh, .inr (9, G9 ma mcode mtoday moffs mmany msumW msumA msumR msumWW msumWA msumAA msumWR msumAR mupper mlower mrates mtaped mlaid mat mtk mtkAt mtkNumber mwaits mlisted mdealtMany)), ((ma 34), .inl (E 1, 2, .inl mf34)), ((ma 35), .inl (E 0, 2, .inl mf35)), ((ma 36), .inl (E 0, 384, .inl mf36)), ((ma 37), .inl (E 0, 384, .inl mf37)), ((ma 45), .inl (E 0, 130, .inl w_18)), ((ma 46), .inl (E 0, 24, .inl w_19)), ((ma 47), .inl (E 0, 5, .inl mf47)), ((ma 48), .inl (E 0, 5, .inl mf48)), ((ma 49), .inl (E 0, 5, .inl mf49)), ((ma 51), .inl (E 0, 15, .inl mf51)), ((ma 52), .inl (E 0, 15, .inl mf52)), ((ma 53), .inl (E 0, 15, .inl mf53)), ((ma 54), .inl (E 0, 15, .inl mf54)), ((ma 56), .inl (E 0, 200, .inl mf56)), ((ma 57), .inl (E 0, 600, .inl mf57)), ((ma 59), .inl (E 0, 3, .inl w_20)), ((ma 60), .inl (E 0, 3, .inl w_21))] H := hP
        have hD := toW hP hD rfl
        obtain ⟨hw_16_0, hw_16_1⟩ := hw_16
        refine lv_istore (lv' := [(4, .int r_15), (0, .ref mh), (1, .int p0), (2, .int p1), (3, .int p2)]) hx hb dX9_told_42 hl (by decide) rfl (fun ls hl => ?_)
        refine lv_iload_n hx hb dX9_told_44 rfl (lv_at hl 4 rfl) ?_
        refine lv_if_ne (tgt := 60) hx hb dX9_told_45 (by decide) (fun c_22 => ?_) (fun c_22 => ?_)
        ·
          have ic_22 : p2.toInt ≠ 0 := mt (g_eq rfl t_0).mpr c_22
          clear c_22
          refine lv_iload_n hx hb dX9_told_60 rfl (lv_at hl 4 rfl) ?_
          refine lv_iconst (v := 1) hx hb dX9_told_61 (by decide) ?_
          refine lv_icmp_ne (tgt := 68) hx hb dX9_told_62 (by decide) (fun c_23 => ?_) (fun c_23 => ?_)
          ·
            have ic_23 : p2.toInt ≠ 1 := mt (g_eq rfl t_1).mpr c_23
            clear c_23
            refine lv_iload_n hx hb dX9_told_68 rfl (lv_at hl 4 rfl) ?_
            refine lv_iconst (v := 4) hx hb dX9_told_69 (by decide) ?_
            refine lv_icmp_lt (tgt := 100) hx hb dX9_told_70 (by decide) (fun c_24 => ?_) (fun c_24 => ?_)
            ·
              have ic_24 : p2.toInt < 4 := by first | exact (g_lt rfl t_4).mp c_24 | (have h := mt (g_le t_4 rfl).mpr c_24; omega)
              clear c_24
              refine lv_ldc hx hb hown (htb _ k_1205) dX9_told_100 ?_
              refine lv_istore (lv' := [(5, .int (-2000000000)), (4, .int r_15), (0, .ref mh), (1, .int p0), (2, .int p1), (3, .int p2)]) hx hb dX9_told_102 hl (by decide) rfl (fun ls hl => ?_)
              refine lv_ldcw hx hb hown (htb _ k_1447) dX9_told_104 ?_
              refine lv_istore (lv' := [(6, .int 2000000000), (5, .int (-2000000000)), (4, .int r_15), (0, .ref mh), (1, .int p0), (2, .int p1), (3, .int p2)]) hx hb dX9_told_107 hl (by decide) rfl (fun ls hl => ?_)
              refine lv_iconst (v := 0) hx hb dX9_told_109 (by decide) ?_
              refine lv_istore (lv' := [(7, .int 0), (6, .int 2000000000), (5, .int (-2000000000)), (4, .int r_15), (0, .ref mh), (1, .int p0), (2, .int p1), (3, .int p2)]) hx hb dX9_told_110 hl (by decide) rfl (fun ls hl => ?_)
              have loop_25 : ∀ (N_27 : Nat) (L7_112 : Int32) (L6_112 : Int32) (L5_112 : Int32) (H : Heap) (locs : List Loc) (ls : Array Slot), 3 - L7_112.toInt < (N_27 : Int) → (0 ≤ L7_112.toInt ∧ L7_112.toInt ≤ 3) → (((mf47 (p0).toNatClampNeg).toInt = 2 → 0 < (mf49 (p0).toNatClampNeg).toInt) → L5_112 = bgX (fun k => tmM (mf47 (p0).toNatClampNeg) (mf49 (p0).toNatClampNeg) (mf48 (p0).toNatClampNeg) mf51 mf52 mf54 mf56 mf57 (p0).toNatClampNeg (p1).toNatClampNeg k) (fun k => wdM (mf47 (p0).toNatClampNeg) (mf49 (p0).toNatClampNeg) (mf48 (p0).toNatClampNeg) mf53 mf56 (p0).toNatClampNeg (p1).toNatClampNeg k) r_15.toInt (L7_112).toNatClampNeg) → (((mf47 (p0).toNatClampNeg).toInt = 2 → 0 < (mf49 (p0).toNatClampNeg).toInt) → L6_112 = enX (fun k => tmM (mf47 (p0).toNatClampNeg) (mf49 (p0).toNatClampNeg) (mf48 (p0).toNatClampNeg) mf51 mf52 mf54 mf56 mf57 (p0).toNatClampNeg (p1).toNatClampNeg k) (fun k => wdM (mf47 (p0).toNatClampNeg) (mf49 (p0).toNatClampNeg) (mf48 (p0).toNatClampNeg) mf53 mf56 (p0).toNatClampNeg (p1).toNatClampNeg k) r_15.toInt (L7_112).toNatClampNeg) → va_P D vwCl [((ma 55), .inl (E 0, 5, .inl mf55)), (mh, .inr (9, G9 ma mcode mtoday moffs mmany msumW msumA msumR msumWW msumWA msumAA msumWR msumAR mupper mlower mrates mtaped mlaid mat mtk mtkAt mtkNumber mwaits mlisted mdealtMany)), ((ma 34), .inl (E 1, 2, .inl mf34)), ((ma 35), .inl (E 0, 2, .inl mf35)), ((ma 36), .inl (E 0, 384, .inl mf36)), ((ma 37), .inl (E 0, 384, .inl mf37)), ((ma 45), .inl (E 0, 130, .inl w_18)), ((ma 46), .inl (E 0, 24, .inl w_19)), ((ma 47), .inl (E 0, 5, .inl mf47)), ((ma 48), .inl (E 0, 5, .inl mf48)), ((ma 49), .inl (E 0, 5, .inl mf49)), ((ma 51), .inl (E 0, 15, .inl mf51)), ((ma 52), .inl (E 0, 15, .inl mf52)), ((ma 53), .inl (E 0, 15, .inl mf53)), ((ma 54), .inl (E 0, 15, .inl mf54)), ((ma 56), .inl (E 0, 200, .inl mf56)), ((ma 57), .inl (E 0, 600, .inl mf57)), ((ma 59), .inl (E 0, 3, .inl w_20)), ((ma 60), .inl (E 0, 3, .inl w_21))] H → va_D A [((ma 55), .inl (E 0, 5, .inl mf55)), (mh, .inr (9, G9 ma mcode mtoday moffs mmany msumW msumA msumR msumWW msumWA msumAA msumWR msumAR mupper mlower mrates mtaped mlaid mat mtk mtkAt mtkNumber mwaits mlisted mdealtMany)), ((ma 34), .inl (E 1, 2, .inl mf34)), ((ma 35), .inl (E 0, 2, .inl mf35)), ((ma 36), .inl (E 0, 384, .inl mf36)), ((ma 37), .inl (E 0, 384, .inl mf37)), ((ma 45), .inl (E 0, 130, .inl w_18)), ((ma 46), .inl (E 0, 24, .inl w_19)), ((ma 47), .inl (E 0, 5, .inl mf47)), ((ma 48), .inl (E 0, 5, .inl mf48)), ((ma 49), .inl (E 0, 5, .inl mf49)), ((ma 51), .inl (E 0, 15, .inl mf51)), ((ma 52), .inl (E 0, 15, .inl mf52)), ((ma 53), .inl (E 0, 15, .inl mf53)), ((ma 54), .inl (E 0, 15, .inl mf54)), ((ma 56), .inl (E 0, 200, .inl mf56)), ((ma 57), .inl (E 0, 600, .inl mf57)), ((ma 59), .inl (E 0, 3, .inl w_20)), ((ma 60), .inl (E 0, 3, .inl w_21))] → va_S A s.heap H locs → lv_has ls 8 [(7, .int L7_112), (6, .int L6_112), (5, .int L5_112), (4, .int r_15), (0, .ref mh), (1, .int p0), (2, .int p1), (3, .int p2)] → W p l e (headSpec (wl yX9_told cX9_told 8 (some .int)) (RM 3 0 0)).room s m [Value.ref mh, .int p0, .int p1, .int p2].toArray below meth c H locs 0 0 (MQ below (va_Qi (fun (r : Int32) (u : (Nat → Int32) × (Nat → Int32) × (Nat → Int32) × (Nat → Int32)) => ((¬ ((0 ≤ p0.toInt ∧ p0.toInt ≤ 4) ∧ (0 ≤ p1.toInt ∧ p1.toInt < (mf55 (p0).toNatClampNeg).toInt) ∧ (0 ≤ p2.toInt ∧ p2.toInt ≤ 9)) ∧ r.toInt = -2000000000) ∨ (((0 ≤ p0.toInt ∧ p0.toInt ≤ 4) ∧ (0 ≤ p1.toInt ∧ p1.toInt < (mf55 (p0).toNatClampNeg).toInt) ∧ (0 ≤ p2.toInt ∧ p2.toInt ≤ 9)) ∧ (((mf47 (p0).toNatClampNeg).toInt = 2 → 0 < (mf49 (p0).toNatClampNeg).toInt) → TLD (mf56 (40 * (p0).toNatClampNeg + (p1).toNatClampNeg)) (fun k => tmM (mf47 (p0).toNatClampNeg) (mf49 (p0).toNatClampNeg) (mf48 (p0).toNatClampNeg) mf51 mf52 mf54 mf56 mf57 (p0).toNatClampNeg (p1).toNatClampNeg k) (fun k => wdM (mf47 (p0).toNatClampNeg) (mf49 (p0).toNatClampNeg) (mf48 (p0).toNatClampNeg) mf53 mf56 (p0).toNatClampNeg (p1).toNatClampNeg k) (fun d => DRM (fun k => tmM (mf47 (p0).toNatClampNeg) (mf49 (p0).toNatClampNeg) (mf48 (p0).toNatClampNeg) mf51 mf52 mf54 mf56 mf57 (p0).toNatClampNeg (p1).toNatClampNeg k) (fun k => mf53 (3 * (p0).toNatClampNeg + k)) (mf56 (40 * (p0).toNatClampNeg + (p1).toNatClampNeg) - mf48 (p0).toNatClampNeg) (mf34 1) mf36 mf37 (mf35 1) d) p2 r)))) (mu_B D A (fun (u : (Nat → Int32) × (Nat → Int32) × (Nat → Int32) × (Nat → Int32)) => [(mh, .inr (9, G9 ma mcode mtoday moffs mmany msumW msumA msumR msumWW msumWA msumAA msumWR msumAR mupper mlower mrates mtaped mlaid mat mtk mtkAt mtkNumber mwaits mlisted mdealtMany)), ((ma 34), .inl (E 1, 2, .inl mf34)), ((ma 35), .inl (E 0, 2, .inl mf35)), ((ma 36), .inl (E 0, 384, .inl mf36)), ((ma 37), .inl (E 0, 384, .inl mf37)), ((ma 45), .inl (E 0, 130, .inl u.1)), ((ma 46), .inl (E 0, 24, .inl u.2.1)), ((ma 47), .inl (E 0, 5, .inl mf47)), ((ma 48), .inl (E 0, 5, .inl mf48)), ((ma 49), .inl (E 0, 5, .inl mf49)), ((ma 51), .inl (E 0, 15, .inl mf51)), ((ma 52), .inl (E 0, 15, .inl mf52)), ((ma 53), .inl (E 0, 15, .inl mf53)), ((ma 54), .inl (E 0, 15, .inl mf54)), ((ma 55), .inl (E 0, 5, .inl mf55)), ((ma 56), .inl (E 0, 200, .inl mf56)), ((ma 57), .inl (E 0, 600, .inl mf57)), ((ma 59), .inl (E 0, 3, .inl u.2.2.1)), ((ma 60), .inl (E 0, 3, .inl u.2.2.2))])) A) [Value.ref mh, .int p0, .int p1, .int p2].toArray s 0 0 A) (F0 m 112 ls []) := by
                intro N_27
                induction N_27 with
                | zero => intro L7_112 L6_112 L5_112 H locs ls hm v0_112 v1_112 v2_112 _ _ _ _; exfalso; omega
                | succ N_27 ih_26 =>
                  intro L7_112 L6_112 L5_112 H locs ls hm v0_112 v1_112 v2_112 hP hD hS hl
                  have lo_L7_112 := i_lo L7_112; have hi_L7_112 := i_hi L7_112
                  have lo_L6_112 := i_lo L6_112; have hi_L6_112 := i_hi L6_112
                  have lo_L5_112 := i_lo L5_112; have hi_L5_112 := i_hi L5_112
                  refine lv_iload hx hb dX9_told_112 (lv_at hl 0 rfl) ?_
                  refine lv_iconst (v := 3) hx hb dX9_told_114 (by decide) ?_
                  refine lv_icmp_ge (tgt := 218) hx hb dX9_told_115 (by decide) (fun c_28 => ?_) (fun c_28 => ?_)
                  ·
                    have ic_28 : 3 ≤ L7_112.toInt := by first | exact (g_le t_3 rfl).mp c_28 | (have h := mt (g_lt rfl t_3).mpr c_28; omega)
                    clear c_28
                    refine lv_iload hx hb dX9_told_218 (lv_at hl 1 rfl) ?_
                    refine lv_iload hx hb dX9_told_220 (lv_at hl 2 rfl) ?_
                    refine lv_icmp_ge (tgt := 230) hx hb dX9_told_222 (by decide) (fun c_29 => ?_) (fun c_29 => ?_)
                    ·
                      have ic_29 : L5_112.toInt ≤ L6_112.toInt := by first | exact (g_le rfl rfl).mp c_29 | (have h := mt (g_lt rfl rfl).mpr c_29; omega)
                      clear c_29
                      refine lv_iload_n hx hb dX9_told_230 rfl (lv_at hl 7 rfl) ?_
                      refine lv_iconst (v := 2) hx hb dX9_told_231 (by decide) ?_
                      refine lv_icmp_ne (tgt := 240) hx hb dX9_told_232 (by decide) (fun c_30 => ?_) (fun c_30 => ?_)
                      ·
                        have ic_30 : p2.toInt ≠ 2 := mt (g_eq rfl t_2).mpr c_30
                        clear c_30
                        refine lv_iload hx hb dX9_told_240 (lv_at hl 1 rfl) ?_
                        have hP9 := hP.sub (ws' := [(mh, .inr (9, G9 ma mcode mtoday moffs mmany msumW msumA msumR msumWW msumWA msumAA msumWR msumAR mupper mlower mrates mtaped mlaid mat mtk mtkAt mtkNumber mwaits mlisted mdealtMany)), ((ma 34), .inl (E 1, 2, .inl mf34)), ((ma 35), .inl (E 0, 2, .inl mf35)), ((ma 36), .inl (E 0, 384, .inl mf36)), ((ma 37), .inl (E 0, 384, .inl mf37)), ((ma 45), .inl (E 0, 130, .inl w_18)), ((ma 46), .inl (E 0, 24, .inl w_19)), ((ma 47), .inl (E 0, 5, .inl mf47)), ((ma 48), .inl (E 0, 5, .inl mf48)), ((ma 49), .inl (E 0, 5, .inl mf49)), ((ma 51), .inl (E 0, 15, .inl mf51)), ((ma 52), .inl (E 0, 15, .inl mf52)), ((ma 53), .inl (E 0, 15, .inl mf53)), ((ma 54), .inl (E 0, 15, .inl mf54)), ((ma 55), .inl (E 0, 5, .inl mf55)), ((ma 56), .inl (E 0, 200, .inl mf56)), ((ma 57), .inl (E 0, 600, .inl mf57)), ((ma 59), .inl (E 0, 3, .inl w_20)), ((ma 60), .inl (E 0, 3, .inl w_21))]) [1, 2, 3, 4, 5, 6, 7, 8, 9, 10, 11, 12, 13, 14, 0, 15, 16, 17, 18] rfl
                        have hD9 := hD.sub (ws' := [(mh, .inr (9, G9 ma mcode mtoday moffs mmany msumW msumA msumR msumWW msumWA msumAA msumWR msumAR mupper mlower mrates mtaped mlaid mat mtk mtkAt mtkNumber mwaits mlisted mdealtMany)), ((ma 34), .inl (E 1, 2, .inl mf34)), ((ma 35), .inl (E 0, 2, .inl mf35)), ((ma 36), .inl (E 0, 384, .inl mf36)), ((ma 37), .inl (E 0, 384, .inl mf37)), ((ma 45), .inl (E 0, 130, .inl w_18)), ((ma 46), .inl (E 0, 24, .inl w_19)), ((ma 47), .inl (E 0, 5, .inl mf47)), ((ma 48), .inl (E 0, 5, .inl mf48)), ((ma 49), .inl (E 0, 5, .inl mf49)), ((ma 51), .inl (E 0, 15, .inl mf51)), ((ma 52), .inl (E 0, 15, .inl mf52)), ((ma 53), .inl (E 0, 15, .inl mf53)), ((ma 54), .inl (E 0, 15, .inl mf54)), ((ma 55), .inl (E 0, 5, .inl mf55)), ((ma 56), .inl (E 0, 200, .inl mf56)), ((ma 57), .inl (E 0, 600, .inl mf57)), ((ma 59), .inl (E 0, 3, .inl w_20)), ((ma 60), .inl (E 0, 3, .inl w_21))]) [1, 2, 3, 4, 5, 6, 7, 8, 9, 10, 11, 12, 13, 14, 0, 15, 16, 17, 18] (by decide) rfl
                        exact W.iret (v := L6_112) hx hb hr (fun t ht hW => ⟨⟨L6_112, (w_18, w_19, w_20, w_21), rfl, (by have c7 : (L7_112).toNatClampNeg = 3 := (by have c9 := i_clamp0 (x := L7_112) (by omega); omega); refine Or.inr ⟨by omega, fun hHB => ?_⟩; have b9 := v1_112 hHB; have e9 := v2_112 hHB; rw [c7] at b9 e9; exact Or.inr (Or.inr (Or.inr ⟨by omega, by omega, _, hw_16_1 hHB, Or.inr ⟨by omega, Or.inr ⟨by (try dsimp only); rw [← b9, ← e9]; omega, Or.inr ⟨by omega, e9⟩⟩⟩⟩))), by rw [ht]; exact hP9, hD9⟩, hS.F ht⟩) hS.2.2 dX9_told_242
                      ·
                        have ic_30 : p2.toInt = 2 := (g_eq rfl t_2).mp c_30
                        clear c_30
                        refine lv_iload hx hb dX9_told_235 (lv_at hl 2 rfl) ?_
                        refine lv_goto (tgt := 242) hx hb dX9_told_237 (by decide) ?_
                        have hP9 := hP.sub (ws' := [(mh, .inr (9, G9 ma mcode mtoday moffs mmany msumW msumA msumR msumWW msumWA msumAA msumWR msumAR mupper mlower mrates mtaped mlaid mat mtk mtkAt mtkNumber mwaits mlisted mdealtMany)), ((ma 34), .inl (E 1, 2, .inl mf34)), ((ma 35), .inl (E 0, 2, .inl mf35)), ((ma 36), .inl (E 0, 384, .inl mf36)), ((ma 37), .inl (E 0, 384, .inl mf37)), ((ma 45), .inl (E 0, 130, .inl w_18)), ((ma 46), .inl (E 0, 24, .inl w_19)), ((ma 47), .inl (E 0, 5, .inl mf47)), ((ma 48), .inl (E 0, 5, .inl mf48)), ((ma 49), .inl (E 0, 5, .inl mf49)), ((ma 51), .inl (E 0, 15, .inl mf51)), ((ma 52), .inl (E 0, 15, .inl mf52)), ((ma 53), .inl (E 0, 15, .inl mf53)), ((ma 54), .inl (E 0, 15, .inl mf54)), ((ma 55), .inl (E 0, 5, .inl mf55)), ((ma 56), .inl (E 0, 200, .inl mf56)), ((ma 57), .inl (E 0, 600, .inl mf57)), ((ma 59), .inl (E 0, 3, .inl w_20)), ((ma 60), .inl (E 0, 3, .inl w_21))]) [1, 2, 3, 4, 5, 6, 7, 8, 9, 10, 11, 12, 13, 14, 0, 15, 16, 17, 18] rfl
                        have hD9 := hD.sub (ws' := [(mh, .inr (9, G9 ma mcode mtoday moffs mmany msumW msumA msumR msumWW msumWA msumAA msumWR msumAR mupper mlower mrates mtaped mlaid mat mtk mtkAt mtkNumber mwaits mlisted mdealtMany)), ((ma 34), .inl (E 1, 2, .inl mf34)), ((ma 35), .inl (E 0, 2, .inl mf35)), ((ma 36), .inl (E 0, 384, .inl mf36)), ((ma 37), .inl (E 0, 384, .inl mf37)), ((ma 45), .inl (E 0, 130, .inl w_18)), ((ma 46), .inl (E 0, 24, .inl w_19)), ((ma 47), .inl (E 0, 5, .inl mf47)), ((ma 48), .inl (E 0, 5, .inl mf48)), ((ma 49), .inl (E 0, 5, .inl mf49)), ((ma 51), .inl (E 0, 15, .inl mf51)), ((ma 52), .inl (E 0, 15, .inl mf52)), ((ma 53), .inl (E 0, 15, .inl mf53)), ((ma 54), .inl (E 0, 15, .inl mf54)), ((ma 55), .inl (E 0, 5, .inl mf55)), ((ma 56), .inl (E 0, 200, .inl mf56)), ((ma 57), .inl (E 0, 600, .inl mf57)), ((ma 59), .inl (E 0, 3, .inl w_20)), ((ma 60), .inl (E 0, 3, .inl w_21))]) [1, 2, 3, 4, 5, 6, 7, 8, 9, 10, 11, 12, 13, 14, 0, 15, 16, 17, 18] (by decide) rfl
                        exact W.iret (v := L5_112) hx hb hr (fun t ht hW => ⟨⟨L5_112, (w_18, w_19, w_20, w_21), rfl, (by have c7 : (L7_112).toNatClampNeg = 3 := (by have c9 := i_clamp0 (x := L7_112) (by omega); omega); refine Or.inr ⟨by omega, fun hHB => ?_⟩; have b9 := v1_112 hHB; have e9 := v2_112 hHB; rw [c7] at b9 e9; exact Or.inr (Or.inr (Or.inr ⟨by omega, by omega, _, hw_16_1 hHB, Or.inr ⟨by omega, Or.inr ⟨by (try dsimp only); rw [← b9, ← e9]; omega, Or.inl ⟨by omega, b9⟩⟩⟩⟩))), by rw [ht]; exact hP9, hD9⟩, hS.F ht⟩) hS.2.2 dX9_told_242
                    ·
                      have ic_29 : L6_112.toInt < L5_112.toInt := by first | exact (g_lt rfl rfl).mp c_29 | (have h := mt (g_le rfl rfl).mpr c_29; omega)
                      clear c_29
                      refine lv_ldc hx hb hown (htb _ k_1205) dX9_told_225 ?_
                      refine lv_goto (tgt := 242) hx hb dX9_told_227 (by decide) ?_
                      have hP9 := hP.sub (ws' := [(mh, .inr (9, G9 ma mcode mtoday moffs mmany msumW msumA msumR msumWW msumWA msumAA msumWR msumAR mupper mlower mrates mtaped mlaid mat mtk mtkAt mtkNumber mwaits mlisted mdealtMany)), ((ma 34), .inl (E 1, 2, .inl mf34)), ((ma 35), .inl (E 0, 2, .inl mf35)), ((ma 36), .inl (E 0, 384, .inl mf36)), ((ma 37), .inl (E 0, 384, .inl mf37)), ((ma 45), .inl (E 0, 130, .inl w_18)), ((ma 46), .inl (E 0, 24, .inl w_19)), ((ma 47), .inl (E 0, 5, .inl mf47)), ((ma 48), .inl (E 0, 5, .inl mf48)), ((ma 49), .inl (E 0, 5, .inl mf49)), ((ma 51), .inl (E 0, 15, .inl mf51)), ((ma 52), .inl (E 0, 15, .inl mf52)), ((ma 53), .inl (E 0, 15, .inl mf53)), ((ma 54), .inl (E 0, 15, .inl mf54)), ((ma 55), .inl (E 0, 5, .inl mf55)), ((ma 56), .inl (E 0, 200, .inl mf56)), ((ma 57), .inl (E 0, 600, .inl mf57)), ((ma 59), .inl (E 0, 3, .inl w_20)), ((ma 60), .inl (E 0, 3, .inl w_21))]) [1, 2, 3, 4, 5, 6, 7, 8, 9, 10, 11, 12, 13, 14, 0, 15, 16, 17, 18] rfl
                      have hD9 := hD.sub (ws' := [(mh, .inr (9, G9 ma mcode mtoday moffs mmany msumW msumA msumR msumWW msumWA msumAA msumWR msumAR mupper mlower mrates mtaped mlaid mat mtk mtkAt mtkNumber mwaits mlisted mdealtMany)), ((ma 34), .inl (E 1, 2, .inl mf34)), ((ma 35), .inl (E 0, 2, .inl mf35)), ((ma 36), .inl (E 0, 384, .inl mf36)), ((ma 37), .inl (E 0, 384, .inl mf37)), ((ma 45), .inl (E 0, 130, .inl w_18)), ((ma 46), .inl (E 0, 24, .inl w_19)), ((ma 47), .inl (E 0, 5, .inl mf47)), ((ma 48), .inl (E 0, 5, .inl mf48)), ((ma 49), .inl (E 0, 5, .inl mf49)), ((ma 51), .inl (E 0, 15, .inl mf51)), ((ma 52), .inl (E 0, 15, .inl mf52)), ((ma 53), .inl (E 0, 15, .inl mf53)), ((ma 54), .inl (E 0, 15, .inl mf54)), ((ma 55), .inl (E 0, 5, .inl mf55)), ((ma 56), .inl (E 0, 200, .inl mf56)), ((ma 57), .inl (E 0, 600, .inl mf57)), ((ma 59), .inl (E 0, 3, .inl w_20)), ((ma 60), .inl (E 0, 3, .inl w_21))]) [1, 2, 3, 4, 5, 6, 7, 8, 9, 10, 11, 12, 13, 14, 0, 15, 16, 17, 18] (by decide) rfl
                      exact W.iret (v := (-2000000000)) hx hb hr (fun t ht hW => ⟨⟨(-2000000000), (w_18, w_19, w_20, w_21), rfl, (by have hl := t_m2000000000; have c7 : (L7_112).toNatClampNeg = 3 := (by have c9 := i_clamp0 (x := L7_112) (by omega); omega); refine Or.inr ⟨by omega, fun hHB => ?_⟩; have b9 := v1_112 hHB; have e9 := v2_112 hHB; rw [c7] at b9 e9; exact Or.inr (Or.inr (Or.inr ⟨by omega, by omega, _, hw_16_1 hHB, Or.inr ⟨by omega, Or.inl ⟨by (try dsimp only); rw [← b9, ← e9]; omega, by omega⟩⟩⟩))), by rw [ht]; exact hP9, hD9⟩, hS.F ht⟩) hS.2.2 dX9_told_242
                  ·
                    have ic_28 : L7_112.toInt < 3 := by first | exact (g_lt rfl t_3).mp c_28 | (have h := mt (g_le t_3 rfl).mpr c_28; omega)
                    clear c_28
                    refine lv_iload hx hb dX9_told_118 (lv_at hl 0 rfl) ?_
                    refine lv_iload hx hb dX9_told_120 (lv_at hl 3 rfl) ?_
                    refine lv_icmp_ne (tgt := 128) hx hb dX9_told_122 (by decide) (fun c_31 => ?_) (fun c_31 => ?_)
                    ·
                      have ic_31 : L7_112.toInt ≠ r_15.toInt := mt (g_eq rfl rfl).mpr c_31
                      clear c_31
                      refine lv_aload_n hx hb dX9_told_128 rfl (lv_at hl 4 rfl) ?_
                      refine va_get (D := D) (ci := 9) (v := .ref (ma 59)) (C := RX9) (T := TX9) (N := 68) hx hb htb iX9 hown hK.1 hP 1 rfl rfl 59 (by decide) (htb _ k_1017) (fun _ h9 => h9) rfl dX9_told_129 ?_
                      refine lv_iload hx hb dX9_told_132 (lv_at hl 0 rfl) ?_
                      refine va_iald hx hb hK.1 hP 17 0 rfl rfl (g_in rfl (by omega) (by omega)) dX9_told_134 ?_
                      refine lv_topi (fun z_32 ez_32 => ?_)
                      have kz_32 := congrArg Int32.toInt ez_32
                      refine lv_aload_n hx hb dX9_told_135 rfl (lv_at hl 4 rfl) ?_
                      refine va_get (D := D) (ci := 9) (v := .ref (ma 60)) (C := RX9) (T := TX9) (N := 68) hx hb htb iX9 hown hK.1 hP 1 rfl rfl 60 (by decide) (htb _ k_1018) (fun _ h9 => h9) rfl dX9_told_136 ?_
                      refine lv_iload hx hb dX9_told_139 (lv_at hl 0 rfl) ?_
                      refine va_iald hx hb hK.1 hP 18 0 rfl rfl (g_in rfl (by omega) (by omega)) dX9_told_141 ?_
                      refine lv_topi (fun z_33 ez_33 => ?_)
                      have kz_33 := congrArg Int32.toInt ez_33
                      refine lv_isub hx hb dX9_told_142 ?_
                      refine lv_topi (fun z_34 ez_34 => ?_)
                      refine lv_iload hx hb dX9_told_143 (lv_at hl 2 rfl) ?_
                      refine lv_icmp_le (tgt := 166) hx hb dX9_told_145 (by decide) (fun c_35 => ?_) (fun c_35 => ?_)
                      ·
                        have ic_35 : z_34.toInt ≤ L5_112.toInt := by first | exact (g_le rfl rfl).mp c_35 | (have h := mt (g_lt rfl rfl).mpr c_35; omega)
                        clear c_35
                        refine lv_iload hx hb dX9_told_166 (lv_at hl 2 rfl) ?_
                        refine lv_istore (lv' := [(5, .int L5_112), (7, .int L7_112), (6, .int L6_112), (4, .int r_15), (0, .ref mh), (1, .int p0), (2, .int p1), (3, .int p2)]) hx hb dX9_told_168 hl (by decide) rfl (fun ls hl => ?_)
                        refine lv_aload_n hx hb dX9_told_170 rfl (lv_at hl 4 rfl) ?_
                        refine va_get (D := D) (ci := 9) (v := .ref (ma 59)) (C := RX9) (T := TX9) (N := 68) hx hb htb iX9 hown hK.1 hP 1 rfl rfl 59 (by decide) (htb _ k_1017) (fun _ h9 => h9) rfl dX9_told_171 ?_
                        refine lv_iload hx hb dX9_told_174 (lv_at hl 1 rfl) ?_
                        refine va_iald hx hb hK.1 hP 17 0 rfl rfl (g_in rfl (by omega) (by omega)) dX9_told_176 ?_
                        refine lv_topi (fun z_36 ez_36 => ?_)
                        have kz_36 := congrArg Int32.toInt ez_36
                        refine lv_aload_n hx hb dX9_told_177 rfl (lv_at hl 4 rfl) ?_
                        refine va_get (D := D) (ci := 9) (v := .ref (ma 60)) (C := RX9) (T := TX9) (N := 68) hx hb htb iX9 hown hK.1 hP 1 rfl rfl 60 (by decide) (htb _ k_1018) (fun _ h9 => h9) rfl dX9_told_178 ?_
                        refine lv_iload hx hb dX9_told_181 (lv_at hl 1 rfl) ?_
                        refine va_iald hx hb hK.1 hP 18 0 rfl rfl (g_in rfl (by omega) (by omega)) dX9_told_183 ?_
                        refine lv_topi (fun z_37 ez_37 => ?_)
                        have kz_37 := congrArg Int32.toInt ez_37
                        refine lv_iadd hx hb dX9_told_184 ?_
                        refine lv_topi (fun z_38 ez_38 => ?_)
                        refine lv_iload hx hb dX9_told_185 (lv_at hl 2 rfl) ?_
                        refine lv_icmp_ge (tgt := 208) hx hb dX9_told_187 (by decide) (fun c_39 => ?_) (fun c_39 => ?_)
                        ·
                          have ic_39 : L6_112.toInt ≤ z_38.toInt := by first | exact (g_le rfl rfl).mp c_39 | (have h := mt (g_lt rfl rfl).mpr c_39; omega)
                          clear c_39
                          refine lv_iload hx hb dX9_told_208 (lv_at hl 2 rfl) ?_
                          refine lv_istore (lv' := [(6, .int L6_112), (5, .int L5_112), (7, .int L7_112), (4, .int r_15), (0, .ref mh), (1, .int p0), (2, .int p1), (3, .int p2)]) hx hb dX9_told_210 hl (by decide) rfl (fun ls hl => ?_)
                          obtain ⟨z_40, ez_40⟩ : ∃ y : Int32, y = L7_112 + 1 := ⟨_, rfl⟩
                          have jz_40 : z_40.toInt = L7_112.toInt + 1 := by rw [ez_40]; exact g_add rfl t_1 (by omega) (by omega)
                          refine lv_iinc (v := z_40) (lv' := [(7, .int z_40), (6, .int L6_112), (5, .int L5_112), (4, .int r_15), (0, .ref mh), (1, .int p0), (2, .int p1), (3, .int p2)]) hx hb dX9_told_212 hl (k := 2) rfl (by rw [ez_40]; rfl) (by decide) rfl (fun ls hl => ?_)
                          refine lv_goto (tgt := 112) hx hb dX9_told_215 (by decide) ?_
                          exact ih_26 z_40 L6_112 L5_112 _ _ _ (by (try dsimp only); omega) (by (try dsimp only); omega) (fun hHB => bg_y (x := z_34) (v1_112 hHB) (by omega) jz_40 (by omega) (by (try dsimp only); rw [← (hw_16_0 hHB _ (by have c9 := i_clamp0 (x := L7_112) (by omega); omega)).1, ← (hw_16_0 hHB _ (by have c9 := i_clamp0 (x := L7_112) (by omega); omega)).2]; subst_vars; rfl) (by rw [mxI_n (by omega)])) (fun hHB => en_y (x := z_38) (v2_112 hHB) (by omega) jz_40 (by omega) (by (try dsimp only); rw [← (hw_16_0 hHB _ (by have c9 := i_clamp0 (x := L7_112) (by omega); omega)).1, ← (hw_16_0 hHB _ (by have c9 := i_clamp0 (x := L7_112) (by omega); omega)).2]; subst_vars; rfl) (by rw [mnI_n (by omega)])) hP hD hS (lv_sub hl [0, 1, 2, 3, 4, 5, 6, 7] rfl)
                        ·
                          have ic_39 : z_38.toInt < L6_112.toInt := by first | exact (g_lt rfl rfl).mp c_39 | (have h := mt (g_le rfl rfl).mpr c_39; omega)
                          clear c_39
                          refine lv_aload_n hx hb dX9_told_190 rfl (lv_at hl 4 rfl) ?_
                          refine va_get (D := D) (ci := 9) (v := .ref (ma 59)) (C := RX9) (T := TX9) (N := 68) hx hb htb iX9 hown hK.1 hP 1 rfl rfl 59 (by decide) (htb _ k_1017) (fun _ h9 => h9) rfl dX9_told_191 ?_
                          refine lv_iload hx hb dX9_told_194 (lv_at hl 1 rfl) ?_
                          refine va_iald hx hb hK.1 hP 17 0 rfl rfl (g_in rfl (by omega) (by omega)) dX9_told_196 ?_
                          refine lv_topi (fun z_41 ez_41 => ?_)
                          have kz_41 := congrArg Int32.toInt ez_41
                          refine lv_aload_n hx hb dX9_told_197 rfl (lv_at hl 4 rfl) ?_
                          refine va_get (D := D) (ci := 9) (v := .ref (ma 60)) (C := RX9) (T := TX9) (N := 68) hx hb htb iX9 hown hK.1 hP 1 rfl rfl 60 (by decide) (htb _ k_1018) (fun _ h9 => h9) rfl dX9_told_198 ?_
                          refine lv_iload hx hb dX9_told_201 (lv_at hl 1 rfl) ?_
                          refine va_iald hx hb hK.1 hP 18 0 rfl rfl (g_in rfl (by omega) (by omega)) dX9_told_203 ?_
                          refine lv_topi (fun z_42 ez_42 => ?_)
                          have kz_42 := congrArg Int32.toInt ez_42
                          refine lv_iadd hx hb dX9_told_204 ?_
                          refine lv_topi (fun z_43 ez_43 => ?_)
                          refine lv_goto (tgt := 210) hx hb dX9_told_205 (by decide) ?_
                          refine lv_istore (lv' := [(6, .int z_43), (5, .int L5_112), (7, .int L7_112), (4, .int r_15), (0, .ref mh), (1, .int p0), (2, .int p1), (3, .int p2)]) hx hb dX9_told_210 hl (by decide) rfl (fun ls hl => ?_)
                          obtain ⟨z_44, ez_44⟩ : ∃ y : Int32, y = L7_112 + 1 := ⟨_, rfl⟩
                          have jz_44 : z_44.toInt = L7_112.toInt + 1 := by rw [ez_44]; exact g_add rfl t_1 (by omega) (by omega)
                          refine lv_iinc (v := z_44) (lv' := [(7, .int z_44), (6, .int z_43), (5, .int L5_112), (4, .int r_15), (0, .ref mh), (1, .int p0), (2, .int p1), (3, .int p2)]) hx hb dX9_told_212 hl (k := 2) rfl (by rw [ez_44]; rfl) (by decide) rfl (fun ls hl => ?_)
                          refine lv_goto (tgt := 112) hx hb dX9_told_215 (by decide) ?_
                          exact ih_26 z_44 z_43 L5_112 _ _ _ (by (try dsimp only); omega) (by (try dsimp only); omega) (fun hHB => bg_y (x := z_34) (v1_112 hHB) (by omega) jz_44 (by omega) (by (try dsimp only); rw [← (hw_16_0 hHB _ (by have c9 := i_clamp0 (x := L7_112) (by omega); omega)).1, ← (hw_16_0 hHB _ (by have c9 := i_clamp0 (x := L7_112) (by omega); omega)).2]; subst_vars; rfl) (by rw [mxI_n (by omega)])) (fun hHB => en_y (x := z_38) (v2_112 hHB) (by omega) jz_44 (by omega) (by (try dsimp only); rw [← (hw_16_0 hHB _ (by have c9 := i_clamp0 (x := L7_112) (by omega); omega)).1, ← (hw_16_0 hHB _ (by have c9 := i_clamp0 (x := L7_112) (by omega); omega)).2]; subst_vars; rfl) (by rw [mnI_y (by omega)]; subst_vars; rfl)) hP hD hS (lv_sub hl [0, 1, 2, 3, 4, 5, 6, 7] rfl)
                      ·
                        have ic_35 : L5_112.toInt < z_34.toInt := by first | exact (g_lt rfl rfl).mp c_35 | (have h := mt (g_le rfl rfl).mpr c_35; omega)
                        clear c_35
                        refine lv_aload_n hx hb dX9_told_148 rfl (lv_at hl 4 rfl) ?_
                        refine va_get (D := D) (ci := 9) (v := .ref (ma 59)) (C := RX9) (T := TX9) (N := 68) hx hb htb iX9 hown hK.1 hP 1 rfl rfl 59 (by decide) (htb _ k_1017) (fun _ h9 => h9) rfl dX9_told_149 ?_
                        refine lv_iload hx hb dX9_told_152 (lv_at hl 0 rfl) ?_
                        refine va_iald hx hb hK.1 hP 17 0 rfl rfl (g_in rfl (by omega) (by omega)) dX9_told_154 ?_
                        refine lv_topi (fun z_45 ez_45 => ?_)
                        have kz_45 := congrArg Int32.toInt ez_45
                        refine lv_aload_n hx hb dX9_told_155 rfl (lv_at hl 4 rfl) ?_
                        refine va_get (D := D) (ci := 9) (v := .ref (ma 60)) (C := RX9) (T := TX9) (N := 68) hx hb htb iX9 hown hK.1 hP 1 rfl rfl 60 (by decide) (htb _ k_1018) (fun _ h9 => h9) rfl dX9_told_156 ?_
                        refine lv_iload hx hb dX9_told_159 (lv_at hl 0 rfl) ?_
                        refine va_iald hx hb hK.1 hP 18 0 rfl rfl (g_in rfl (by omega) (by omega)) dX9_told_161 ?_
                        refine lv_topi (fun z_46 ez_46 => ?_)
                        have kz_46 := congrArg Int32.toInt ez_46
                        refine lv_isub hx hb dX9_told_162 ?_
                        refine lv_topi (fun z_47 ez_47 => ?_)
                        refine lv_goto (tgt := 168) hx hb dX9_told_163 (by decide) ?_
                        refine lv_istore (lv' := [(5, .int z_47), (7, .int L7_112), (6, .int L6_112), (4, .int r_15), (0, .ref mh), (1, .int p0), (2, .int p1), (3, .int p2)]) hx hb dX9_told_168 hl (by decide) rfl (fun ls hl => ?_)
                        refine lv_aload_n hx hb dX9_told_170 rfl (lv_at hl 4 rfl) ?_
                        refine va_get (D := D) (ci := 9) (v := .ref (ma 59)) (C := RX9) (T := TX9) (N := 68) hx hb htb iX9 hown hK.1 hP 1 rfl rfl 59 (by decide) (htb _ k_1017) (fun _ h9 => h9) rfl dX9_told_171 ?_
                        refine lv_iload hx hb dX9_told_174 (lv_at hl 1 rfl) ?_
                        refine va_iald hx hb hK.1 hP 17 0 rfl rfl (g_in rfl (by omega) (by omega)) dX9_told_176 ?_
                        refine lv_topi (fun z_48 ez_48 => ?_)
                        have kz_48 := congrArg Int32.toInt ez_48
                        refine lv_aload_n hx hb dX9_told_177 rfl (lv_at hl 4 rfl) ?_
                        refine va_get (D := D) (ci := 9) (v := .ref (ma 60)) (C := RX9) (T := TX9) (N := 68) hx hb htb iX9 hown hK.1 hP 1 rfl rfl 60 (by decide) (htb _ k_1018) (fun _ h9 => h9) rfl dX9_told_178 ?_
                        refine lv_iload hx hb dX9_told_181 (lv_at hl 1 rfl) ?_
                        refine va_iald hx hb hK.1 hP 18 0 rfl rfl (g_in rfl (by omega) (by omega)) dX9_told_183 ?_
                        refine lv_topi (fun z_49 ez_49 => ?_)
                        have kz_49 := congrArg Int32.toInt ez_49
                        refine lv_iadd hx hb dX9_told_184 ?_
                        refine lv_topi (fun z_50 ez_50 => ?_)
                        refine lv_iload hx hb dX9_told_185 (lv_at hl 2 rfl) ?_
                        refine lv_icmp_ge (tgt := 208) hx hb dX9_told_187 (by decide) (fun c_51 => ?_) (fun c_51 => ?_)
                        ·
                          have ic_51 : L6_112.toInt ≤ z_50.toInt := by first | exact (g_le rfl rfl).mp c_51 | (have h := mt (g_lt rfl rfl).mpr c_51; omega)
                          clear c_51
                          refine lv_iload hx hb dX9_told_208 (lv_at hl 2 rfl) ?_
                          refine lv_istore (lv' := [(6, .int L6_112), (5, .int z_47), (7, .int L7_112), (4, .int r_15), (0, .ref mh), (1, .int p0), (2, .int p1), (3, .int p2)]) hx hb dX9_told_210 hl (by decide) rfl (fun ls hl => ?_)
                          obtain ⟨z_52, ez_52⟩ : ∃ y : Int32, y = L7_112 + 1 := ⟨_, rfl⟩
                          have jz_52 : z_52.toInt = L7_112.toInt + 1 := by rw [ez_52]; exact g_add rfl t_1 (by omega) (by omega)
                          refine lv_iinc (v := z_52) (lv' := [(7, .int z_52), (6, .int L6_112), (5, .int z_47), (4, .int r_15), (0, .ref mh), (1, .int p0), (2, .int p1), (3, .int p2)]) hx hb dX9_told_212 hl (k := 2) rfl (by rw [ez_52]; rfl) (by decide) rfl (fun ls hl => ?_)
                          refine lv_goto (tgt := 112) hx hb dX9_told_215 (by decide) ?_
                          exact ih_26 z_52 L6_112 z_47 _ _ _ (by (try dsimp only); omega) (by (try dsimp only); omega) (fun hHB => bg_y (x := z_34) (v1_112 hHB) (by omega) jz_52 (by omega) (by (try dsimp only); rw [← (hw_16_0 hHB _ (by have c9 := i_clamp0 (x := L7_112) (by omega); omega)).1, ← (hw_16_0 hHB _ (by have c9 := i_clamp0 (x := L7_112) (by omega); omega)).2]; subst_vars; rfl) (by rw [mxI_y (by omega)]; subst_vars; rfl)) (fun hHB => en_y (x := z_50) (v2_112 hHB) (by omega) jz_52 (by omega) (by (try dsimp only); rw [← (hw_16_0 hHB _ (by have c9 := i_clamp0 (x := L7_112) (by omega); omega)).1, ← (hw_16_0 hHB _ (by have c9 := i_clamp0 (x := L7_112) (by omega); omega)).2]; subst_vars; rfl) (by rw [mnI_n (by omega)])) hP hD hS (lv_sub hl [0, 1, 2, 3, 4, 5, 6, 7] rfl)
                        ·
                          have ic_51 : z_50.toInt < L6_112.toInt := by first | exact (g_lt rfl rfl).mp c_51 | (have h := mt (g_le rfl rfl).mpr c_51; omega)
                          clear c_51
                          refine lv_aload_n hx hb dX9_told_190 rfl (lv_at hl 4 rfl) ?_
                          refine va_get (D := D) (ci := 9) (v := .ref (ma 59)) (C := RX9) (T := TX9) (N := 68) hx hb htb iX9 hown hK.1 hP 1 rfl rfl 59 (by decide) (htb _ k_1017) (fun _ h9 => h9) rfl dX9_told_191 ?_
                          refine lv_iload hx hb dX9_told_194 (lv_at hl 1 rfl) ?_
                          refine va_iald hx hb hK.1 hP 17 0 rfl rfl (g_in rfl (by omega) (by omega)) dX9_told_196 ?_
                          refine lv_topi (fun z_53 ez_53 => ?_)
                          have kz_53 := congrArg Int32.toInt ez_53
                          refine lv_aload_n hx hb dX9_told_197 rfl (lv_at hl 4 rfl) ?_
                          refine va_get (D := D) (ci := 9) (v := .ref (ma 60)) (C := RX9) (T := TX9) (N := 68) hx hb htb iX9 hown hK.1 hP 1 rfl rfl 60 (by decide) (htb _ k_1018) (fun _ h9 => h9) rfl dX9_told_198 ?_
                          refine lv_iload hx hb dX9_told_201 (lv_at hl 1 rfl) ?_
                          refine va_iald hx hb hK.1 hP 18 0 rfl rfl (g_in rfl (by omega) (by omega)) dX9_told_203 ?_
                          refine lv_topi (fun z_54 ez_54 => ?_)
                          have kz_54 := congrArg Int32.toInt ez_54
                          refine lv_iadd hx hb dX9_told_204 ?_
                          refine lv_topi (fun z_55 ez_55 => ?_)
                          refine lv_goto (tgt := 210) hx hb dX9_told_205 (by decide) ?_
                          refine lv_istore (lv' := [(6, .int z_55), (5, .int z_47), (7, .int L7_112), (4, .int r_15), (0, .ref mh), (1, .int p0), (2, .int p1), (3, .int p2)]) hx hb dX9_told_210 hl (by decide) rfl (fun ls hl => ?_)
                          obtain ⟨z_56, ez_56⟩ : ∃ y : Int32, y = L7_112 + 1 := ⟨_, rfl⟩
                          have jz_56 : z_56.toInt = L7_112.toInt + 1 := by rw [ez_56]; exact g_add rfl t_1 (by omega) (by omega)
                          refine lv_iinc (v := z_56) (lv' := [(7, .int z_56), (6, .int z_55), (5, .int z_47), (4, .int r_15), (0, .ref mh), (1, .int p0), (2, .int p1), (3, .int p2)]) hx hb dX9_told_212 hl (k := 2) rfl (by rw [ez_56]; rfl) (by decide) rfl (fun ls hl => ?_)
                          refine lv_goto (tgt := 112) hx hb dX9_told_215 (by decide) ?_
                          exact ih_26 z_56 z_55 z_47 _ _ _ (by (try dsimp only); omega) (by (try dsimp only); omega) (fun hHB => bg_y (x := z_34) (v1_112 hHB) (by omega) jz_56 (by omega) (by (try dsimp only); rw [← (hw_16_0 hHB _ (by have c9 := i_clamp0 (x := L7_112) (by omega); omega)).1, ← (hw_16_0 hHB _ (by have c9 := i_clamp0 (x := L7_112) (by omega); omega)).2]; subst_vars; rfl) (by rw [mxI_y (by omega)]; subst_vars; rfl)) (fun hHB => en_y (x := z_50) (v2_112 hHB) (by omega) jz_56 (by omega) (by (try dsimp only); rw [← (hw_16_0 hHB _ (by have c9 := i_clamp0 (x := L7_112) (by omega); omega)).1, ← (hw_16_0 hHB _ (by have c9 := i_clamp0 (x := L7_112) (by omega); omega)).2]; subst_vars; rfl) (by rw [mnI_y (by omega)]; subst_vars; rfl)) hP hD hS (lv_sub hl [0, 1, 2, 3, 4, 5, 6, 7] rfl)
                    ·
                      have ic_31 : L7_112.toInt = r_15.toInt := (g_eq rfl rfl).mp c_31
                      clear c_31
                      refine lv_goto (tgt := 212) hx hb dX9_told_125 (by decide) ?_
                      obtain ⟨z_57, ez_57⟩ : ∃ y : Int32, y = L7_112 + 1 := ⟨_, rfl⟩
                      have jz_57 : z_57.toInt = L7_112.toInt + 1 := by rw [ez_57]; exact g_add rfl t_1 (by omega) (by omega)
                      refine lv_iinc (v := z_57) (lv' := [(7, .int z_57), (6, .int L6_112), (5, .int L5_112), (4, .int r_15), (0, .ref mh), (1, .int p0), (2, .int p1), (3, .int p2)]) hx hb dX9_told_212 hl (k := 0) rfl (by rw [ez_57]; rfl) (by decide) rfl (fun ls hl => ?_)
                      refine lv_goto (tgt := 112) hx hb dX9_told_215 (by decide) ?_
                      exact ih_26 z_57 L6_112 L5_112 _ _ _ (by (try dsimp only); omega) (by (try dsimp only); omega) (fun hHB => bg_n (v1_112 hHB) (by omega) jz_57 (by omega)) (fun hHB => en_n (v2_112 hHB) (by omega) jz_57 (by omega)) hP hD hS (lv_sub hl [0, 1, 2, 3, 4, 5, 6, 7] rfl)
              exact loop_25 4 0 2000000000 ((-2000000000)) _ _ _ (by have h0 := t_m2000000000; have h1 := t_0; have h2 := t_2000000000; (try dsimp only); omega) (by have h0 := t_m2000000000; have h1 := t_0; have h2 := t_2000000000; (try dsimp only); omega) (fun _ => by rw [clamp_0]; rfl) (fun _ => by rw [clamp_0]; rfl) hP hD hS (lv_sub hl [0, 1, 2, 3, 4, 5, 6, 7] rfl)
            ·
              have ic_24 : 4 ≤ p2.toInt := by first | exact (g_le t_4 rfl).mp c_24 | (have h := mt (g_lt rfl t_4).mpr c_24; omega)
              clear c_24
              refine lv_iload_n hx hb dX9_told_73 rfl (lv_at hl 4 rfl) ?_
              refine lv_bipush (v := 7) hx hb dX9_told_74 (by decide) ?_
              refine lv_icmp_ge (tgt := 90) hx hb dX9_told_76 (by decide) (fun c_58 => ?_) (fun c_58 => ?_)
              ·
                have ic_58 : 7 ≤ p2.toInt := by first | exact (g_le t_7 rfl).mp c_58 | (have h := mt (g_lt rfl t_7).mpr c_58; omega)
                clear c_58
                refine lv_aload_n hx hb dX9_told_90 rfl (lv_at hl 1 rfl) ?_
                refine va_get (D := D) (ci := 9) (v := .ref (ma 60)) (C := RX9) (T := TX9) (N := 68) hx hb htb iX9 hown hK.1 hP 1 rfl rfl 60 (by decide) (htb _ k_1018) (fun _ h9 => h9) rfl dX9_told_91 ?_
                refine lv_iload_n hx hb dX9_told_94 rfl (lv_at hl 4 rfl) ?_
                refine lv_bipush (v := 7) hx hb dX9_told_95 (by decide) ?_
                refine lv_isub hx hb dX9_told_97 ?_
                refine lv_topi (fun z_59 ez_59 => ?_)
                have jz_59 : z_59.toInt = p2.toInt - 7 := by rw [ez_59]; exact g_sub rfl t_7 (by omega) (by omega)
                refine va_iald hx hb hK.1 hP 18 0 rfl rfl (g_in rfl (by omega) (by omega)) dX9_told_98 ?_
                refine lv_topi (fun z_60 ez_60 => ?_)
                have kz_60 := congrArg Int32.toInt ez_60
                have hP9 := hP.sub (ws' := [(mh, .inr (9, G9 ma mcode mtoday moffs mmany msumW msumA msumR msumWW msumWA msumAA msumWR msumAR mupper mlower mrates mtaped mlaid mat mtk mtkAt mtkNumber mwaits mlisted mdealtMany)), ((ma 34), .inl (E 1, 2, .inl mf34)), ((ma 35), .inl (E 0, 2, .inl mf35)), ((ma 36), .inl (E 0, 384, .inl mf36)), ((ma 37), .inl (E 0, 384, .inl mf37)), ((ma 45), .inl (E 0, 130, .inl w_18)), ((ma 46), .inl (E 0, 24, .inl w_19)), ((ma 47), .inl (E 0, 5, .inl mf47)), ((ma 48), .inl (E 0, 5, .inl mf48)), ((ma 49), .inl (E 0, 5, .inl mf49)), ((ma 51), .inl (E 0, 15, .inl mf51)), ((ma 52), .inl (E 0, 15, .inl mf52)), ((ma 53), .inl (E 0, 15, .inl mf53)), ((ma 54), .inl (E 0, 15, .inl mf54)), ((ma 55), .inl (E 0, 5, .inl mf55)), ((ma 56), .inl (E 0, 200, .inl mf56)), ((ma 57), .inl (E 0, 600, .inl mf57)), ((ma 59), .inl (E 0, 3, .inl w_20)), ((ma 60), .inl (E 0, 3, .inl w_21))]) [1, 2, 3, 4, 5, 6, 7, 8, 9, 10, 11, 12, 13, 14, 0, 15, 16, 17, 18] rfl
                have hD9 := hD.sub (ws' := [(mh, .inr (9, G9 ma mcode mtoday moffs mmany msumW msumA msumR msumWW msumWA msumAA msumWR msumAR mupper mlower mrates mtaped mlaid mat mtk mtkAt mtkNumber mwaits mlisted mdealtMany)), ((ma 34), .inl (E 1, 2, .inl mf34)), ((ma 35), .inl (E 0, 2, .inl mf35)), ((ma 36), .inl (E 0, 384, .inl mf36)), ((ma 37), .inl (E 0, 384, .inl mf37)), ((ma 45), .inl (E 0, 130, .inl w_18)), ((ma 46), .inl (E 0, 24, .inl w_19)), ((ma 47), .inl (E 0, 5, .inl mf47)), ((ma 48), .inl (E 0, 5, .inl mf48)), ((ma 49), .inl (E 0, 5, .inl mf49)), ((ma 51), .inl (E 0, 15, .inl mf51)), ((ma 52), .inl (E 0, 15, .inl mf52)), ((ma 53), .inl (E 0, 15, .inl mf53)), ((ma 54), .inl (E 0, 15, .inl mf54)), ((ma 55), .inl (E 0, 5, .inl mf55)), ((ma 56), .inl (E 0, 200, .inl mf56)), ((ma 57), .inl (E 0, 600, .inl mf57)), ((ma 59), .inl (E 0, 3, .inl w_20)), ((ma 60), .inl (E 0, 3, .inl w_21))]) [1, 2, 3, 4, 5, 6, 7, 8, 9, 10, 11, 12, 13, 14, 0, 15, 16, 17, 18] (by decide) rfl
                exact W.iret (v := z_60) hx hb hr (fun t ht hW => ⟨⟨z_60, (w_18, w_19, w_20, w_21), rfl, (by refine Or.inr ⟨by omega, fun hHB => ?_⟩; exact Or.inr (Or.inr (Or.inl ⟨by omega, by omega, by have h9 := (hw_16_0 hHB (p2.toInt - 7).toNat (by omega)).2; rw [ez_60, show (z_59 : Int32).toNatClampNeg = (p2.toInt - 7).toNat by have c9 := i_clamp0 (x := z_59) (by omega); omega]; exact h9⟩))), by rw [ht]; exact hP9, hD9⟩, hS.F ht⟩) hS.2.2 dX9_told_99
              ·
                have ic_58 : p2.toInt < 7 := by first | exact (g_lt rfl t_7).mp c_58 | (have h := mt (g_le t_7 rfl).mpr c_58; omega)
                clear c_58
                refine lv_aload_n hx hb dX9_told_79 rfl (lv_at hl 1 rfl) ?_
                refine va_get (D := D) (ci := 9) (v := .ref (ma 59)) (C := RX9) (T := TX9) (N := 68) hx hb htb iX9 hown hK.1 hP 1 rfl rfl 59 (by decide) (htb _ k_1017) (fun _ h9 => h9) rfl dX9_told_80 ?_
                refine lv_iload_n hx hb dX9_told_83 rfl (lv_at hl 4 rfl) ?_
                refine lv_iconst (v := 4) hx hb dX9_told_84 (by decide) ?_
                refine lv_isub hx hb dX9_told_85 ?_
                refine lv_topi (fun z_61 ez_61 => ?_)
                have jz_61 : z_61.toInt = p2.toInt - 4 := by rw [ez_61]; exact g_sub rfl t_4 (by omega) (by omega)
                refine va_iald hx hb hK.1 hP 17 0 rfl rfl (g_in rfl (by omega) (by omega)) dX9_told_86 ?_
                refine lv_topi (fun z_62 ez_62 => ?_)
                have kz_62 := congrArg Int32.toInt ez_62
                refine lv_goto (tgt := 99) hx hb dX9_told_87 (by decide) ?_
                have hP9 := hP.sub (ws' := [(mh, .inr (9, G9 ma mcode mtoday moffs mmany msumW msumA msumR msumWW msumWA msumAA msumWR msumAR mupper mlower mrates mtaped mlaid mat mtk mtkAt mtkNumber mwaits mlisted mdealtMany)), ((ma 34), .inl (E 1, 2, .inl mf34)), ((ma 35), .inl (E 0, 2, .inl mf35)), ((ma 36), .inl (E 0, 384, .inl mf36)), ((ma 37), .inl (E 0, 384, .inl mf37)), ((ma 45), .inl (E 0, 130, .inl w_18)), ((ma 46), .inl (E 0, 24, .inl w_19)), ((ma 47), .inl (E 0, 5, .inl mf47)), ((ma 48), .inl (E 0, 5, .inl mf48)), ((ma 49), .inl (E 0, 5, .inl mf49)), ((ma 51), .inl (E 0, 15, .inl mf51)), ((ma 52), .inl (E 0, 15, .inl mf52)), ((ma 53), .inl (E 0, 15, .inl mf53)), ((ma 54), .inl (E 0, 15, .inl mf54)), ((ma 55), .inl (E 0, 5, .inl mf55)), ((ma 56), .inl (E 0, 200, .inl mf56)), ((ma 57), .inl (E 0, 600, .inl mf57)), ((ma 59), .inl (E 0, 3, .inl w_20)), ((ma 60), .inl (E 0, 3, .inl w_21))]) [1, 2, 3, 4, 5, 6, 7, 8, 9, 10, 11, 12, 13, 14, 0, 15, 16, 17, 18] rfl
                have hD9 := hD.sub (ws' := [(mh, .inr (9, G9 ma mcode mtoday moffs mmany msumW msumA msumR msumWW msumWA msumAA msumWR msumAR mupper mlower mrates mtaped mlaid mat mtk mtkAt mtkNumber mwaits mlisted mdealtMany)), ((ma 34), .inl (E 1, 2, .inl mf34)), ((ma 35), .inl (E 0, 2, .inl mf35)), ((ma 36), .inl (E 0, 384, .inl mf36)), ((ma 37), .inl (E 0, 384, .inl mf37)), ((ma 45), .inl (E 0, 130, .inl w_18)), ((ma 46), .inl (E 0, 24, .inl w_19)), ((ma 47), .inl (E 0, 5, .inl mf47)), ((ma 48), .inl (E 0, 5, .inl mf48)), ((ma 49), .inl (E 0, 5, .inl mf49)), ((ma 51), .inl (E 0, 15, .inl mf51)), ((ma 52), .inl (E 0, 15, .inl mf52)), ((ma 53), .inl (E 0, 15, .inl mf53)), ((ma 54), .inl (E 0, 15, .inl mf54)), ((ma 55), .inl (E 0, 5, .inl mf55)), ((ma 56), .inl (E 0, 200, .inl mf56)), ((ma 57), .inl (E 0, 600, .inl mf57)), ((ma 59), .inl (E 0, 3, .inl w_20)), ((ma 60), .inl (E 0, 3, .inl w_21))]) [1, 2, 3, 4, 5, 6, 7, 8, 9, 10, 11, 12, 13, 14, 0, 15, 16, 17, 18] (by decide) rfl
                exact W.iret (v := z_62) hx hb hr (fun t ht hW => ⟨⟨z_62, (w_18, w_19, w_20, w_21), rfl, (by refine Or.inr ⟨by omega, fun hHB => ?_⟩; exact Or.inr (Or.inl ⟨by omega, by omega, by have h9 := (hw_16_0 hHB (p2.toInt - 4).toNat (by omega)).1; rw [ez_62, show (z_61 : Int32).toNatClampNeg = (p2.toInt - 4).toNat by have c9 := i_clamp0 (x := z_61) (by omega); omega]; exact h9⟩)), by rw [ht]; exact hP9, hD9⟩, hS.F ht⟩) hS.2.2 dX9_told_99
          ·
            have ic_23 : p2.toInt = 1 := (g_eq rfl t_1).mp c_23
            clear c_23
            refine lv_iload hx hb dX9_told_65 (lv_at hl 0 rfl) ?_
            have hP9 := hP.sub (ws' := [(mh, .inr (9, G9 ma mcode mtoday moffs mmany msumW msumA msumR msumWW msumWA msumAA msumWR msumAR mupper mlower mrates mtaped mlaid mat mtk mtkAt mtkNumber mwaits mlisted mdealtMany)), ((ma 34), .inl (E 1, 2, .inl mf34)), ((ma 35), .inl (E 0, 2, .inl mf35)), ((ma 36), .inl (E 0, 384, .inl mf36)), ((ma 37), .inl (E 0, 384, .inl mf37)), ((ma 45), .inl (E 0, 130, .inl w_18)), ((ma 46), .inl (E 0, 24, .inl w_19)), ((ma 47), .inl (E 0, 5, .inl mf47)), ((ma 48), .inl (E 0, 5, .inl mf48)), ((ma 49), .inl (E 0, 5, .inl mf49)), ((ma 51), .inl (E 0, 15, .inl mf51)), ((ma 52), .inl (E 0, 15, .inl mf52)), ((ma 53), .inl (E 0, 15, .inl mf53)), ((ma 54), .inl (E 0, 15, .inl mf54)), ((ma 55), .inl (E 0, 5, .inl mf55)), ((ma 56), .inl (E 0, 200, .inl mf56)), ((ma 57), .inl (E 0, 600, .inl mf57)), ((ma 59), .inl (E 0, 3, .inl w_20)), ((ma 60), .inl (E 0, 3, .inl w_21))]) [1, 2, 3, 4, 5, 6, 7, 8, 9, 10, 11, 12, 13, 14, 0, 15, 16, 17, 18] rfl
            have hD9 := hD.sub (ws' := [(mh, .inr (9, G9 ma mcode mtoday moffs mmany msumW msumA msumR msumWW msumWA msumAA msumWR msumAR mupper mlower mrates mtaped mlaid mat mtk mtkAt mtkNumber mwaits mlisted mdealtMany)), ((ma 34), .inl (E 1, 2, .inl mf34)), ((ma 35), .inl (E 0, 2, .inl mf35)), ((ma 36), .inl (E 0, 384, .inl mf36)), ((ma 37), .inl (E 0, 384, .inl mf37)), ((ma 45), .inl (E 0, 130, .inl w_18)), ((ma 46), .inl (E 0, 24, .inl w_19)), ((ma 47), .inl (E 0, 5, .inl mf47)), ((ma 48), .inl (E 0, 5, .inl mf48)), ((ma 49), .inl (E 0, 5, .inl mf49)), ((ma 51), .inl (E 0, 15, .inl mf51)), ((ma 52), .inl (E 0, 15, .inl mf52)), ((ma 53), .inl (E 0, 15, .inl mf53)), ((ma 54), .inl (E 0, 15, .inl mf54)), ((ma 55), .inl (E 0, 5, .inl mf55)), ((ma 56), .inl (E 0, 200, .inl mf56)), ((ma 57), .inl (E 0, 600, .inl mf57)), ((ma 59), .inl (E 0, 3, .inl w_20)), ((ma 60), .inl (E 0, 3, .inl w_21))]) [1, 2, 3, 4, 5, 6, 7, 8, 9, 10, 11, 12, 13, 14, 0, 15, 16, 17, 18] (by decide) rfl
            exact W.iret (v := r_15) hx hb hr (fun t ht hW => ⟨⟨r_15, (w_18, w_19, w_20, w_21), rfl, (by refine Or.inr ⟨by omega, fun hHB => ?_⟩; exact Or.inr (Or.inr (Or.inr ⟨by omega, by omega, _, hw_16_1 hHB, Or.inl ⟨by omega, rfl⟩⟩))), by rw [ht]; exact hP9, hD9⟩, hS.F ht⟩) hS.2.2 dX9_told_67
        ·
          have ic_22 : p2.toInt = 0 := (g_eq rfl t_0).mp c_22
          clear c_22
          refine lv_aload_n hx hb dX9_told_48 rfl (lv_at hl 1 rfl) ?_
          refine va_get (D := D) (ci := 9) (v := .ref (ma 56)) (C := RX9) (T := TX9) (N := 68) hx hb htb iX9 hown hK.1 hP 1 rfl rfl 56 (by decide) (htb _ k_1014) (fun _ h9 => h9) rfl dX9_told_49 ?_
          refine lv_bipush (v := 40) hx hb dX9_told_52 (by decide) ?_
          refine lv_iload_n hx hb dX9_told_54 rfl (lv_at hl 2 rfl) ?_
          refine lv_imul hx hb dX9_told_55 ?_
          refine lv_topi (fun z_63 ez_63 => ?_)
          have jz_63 : z_63.toInt = 40 * p0.toInt := by rw [ez_63]; exact g_mul t_40 rfl (by omega) (by omega)
          refine lv_iload_n hx hb dX9_told_56 rfl (lv_at hl 3 rfl) ?_
          refine lv_iadd hx hb dX9_told_57 ?_
          refine lv_topi (fun z_64 ez_64 => ?_)
          have jz_64 : z_64.toInt = z_63.toInt + p1.toInt := by rw [ez_64]; exact g_add rfl rfl (by omega) (by omega)
          refine va_iald hx hb hK.1 hP 15 0 rfl rfl (g_in rfl (by omega) (by omega)) dX9_told_58 ?_
          refine lv_topi (fun z_65 ez_65 => ?_)
          have kz_65 := congrArg Int32.toInt ez_65
          have hP9 := hP.sub (ws' := [(mh, .inr (9, G9 ma mcode mtoday moffs mmany msumW msumA msumR msumWW msumWA msumAA msumWR msumAR mupper mlower mrates mtaped mlaid mat mtk mtkAt mtkNumber mwaits mlisted mdealtMany)), ((ma 34), .inl (E 1, 2, .inl mf34)), ((ma 35), .inl (E 0, 2, .inl mf35)), ((ma 36), .inl (E 0, 384, .inl mf36)), ((ma 37), .inl (E 0, 384, .inl mf37)), ((ma 45), .inl (E 0, 130, .inl w_18)), ((ma 46), .inl (E 0, 24, .inl w_19)), ((ma 47), .inl (E 0, 5, .inl mf47)), ((ma 48), .inl (E 0, 5, .inl mf48)), ((ma 49), .inl (E 0, 5, .inl mf49)), ((ma 51), .inl (E 0, 15, .inl mf51)), ((ma 52), .inl (E 0, 15, .inl mf52)), ((ma 53), .inl (E 0, 15, .inl mf53)), ((ma 54), .inl (E 0, 15, .inl mf54)), ((ma 55), .inl (E 0, 5, .inl mf55)), ((ma 56), .inl (E 0, 200, .inl mf56)), ((ma 57), .inl (E 0, 600, .inl mf57)), ((ma 59), .inl (E 0, 3, .inl w_20)), ((ma 60), .inl (E 0, 3, .inl w_21))]) [1, 2, 3, 4, 5, 6, 7, 8, 9, 10, 11, 12, 13, 14, 0, 15, 16, 17, 18] rfl
          have hD9 := hD.sub (ws' := [(mh, .inr (9, G9 ma mcode mtoday moffs mmany msumW msumA msumR msumWW msumWA msumAA msumWR msumAR mupper mlower mrates mtaped mlaid mat mtk mtkAt mtkNumber mwaits mlisted mdealtMany)), ((ma 34), .inl (E 1, 2, .inl mf34)), ((ma 35), .inl (E 0, 2, .inl mf35)), ((ma 36), .inl (E 0, 384, .inl mf36)), ((ma 37), .inl (E 0, 384, .inl mf37)), ((ma 45), .inl (E 0, 130, .inl w_18)), ((ma 46), .inl (E 0, 24, .inl w_19)), ((ma 47), .inl (E 0, 5, .inl mf47)), ((ma 48), .inl (E 0, 5, .inl mf48)), ((ma 49), .inl (E 0, 5, .inl mf49)), ((ma 51), .inl (E 0, 15, .inl mf51)), ((ma 52), .inl (E 0, 15, .inl mf52)), ((ma 53), .inl (E 0, 15, .inl mf53)), ((ma 54), .inl (E 0, 15, .inl mf54)), ((ma 55), .inl (E 0, 5, .inl mf55)), ((ma 56), .inl (E 0, 200, .inl mf56)), ((ma 57), .inl (E 0, 600, .inl mf57)), ((ma 59), .inl (E 0, 3, .inl w_20)), ((ma 60), .inl (E 0, 3, .inl w_21))]) [1, 2, 3, 4, 5, 6, 7, 8, 9, 10, 11, 12, 13, 14, 0, 15, 16, 17, 18] (by decide) rfl
          exact W.iret (v := z_65) hx hb hr (fun t ht hW => ⟨⟨z_65, (w_18, w_19, w_20, w_21), rfl, (by refine Or.inr ⟨by omega, fun hHB => ?_⟩; exact Or.inl ⟨by omega, by rw [ez_65, show (z_64 : Int32).toNatClampNeg = 40 * (p0).toNatClampNeg + (p1).toNatClampNeg by have c9 := i_clamp0 (x := z_64) (by omega); have c8 := i_clamp0 (x := p0) (by omega); have c7 := i_clamp0 (x := p1) (by omega); omega]⟩), by rw [ht]; exact hP9, hD9⟩, hS.F ht⟩) hS.2.2 dX9_told_59
      ·
        try simp only [t_0, t_9] at hw_12
        refine W_top (y := .int 0) (by rw [hr_11]) ?_
        refine lv_if_ne (tgt := 36) hx hb dX9_told_30 (by decide) (fun c_66 => absurd (by decide) c_66) (fun c_66 => ?_)
        refine lv_ldc hx hb hown (htb _ k_1205) dX9_told_33 ?_
        have hP9 := hP.sub (ws' := [(mh, .inr (9, G9 ma mcode mtoday moffs mmany msumW msumA msumR msumWW msumWA msumAA msumWR msumAR mupper mlower mrates mtaped mlaid mat mtk mtkAt mtkNumber mwaits mlisted mdealtMany)), ((ma 34), .inl (E 1, 2, .inl mf34)), ((ma 35), .inl (E 0, 2, .inl mf35)), ((ma 36), .inl (E 0, 384, .inl mf36)), ((ma 37), .inl (E 0, 384, .inl mf37)), ((ma 45), .inl (E 0, 130, .inl mf45)), ((ma 46), .inl (E 0, 24, .inl mf46)), ((ma 47), .inl (E 0, 5, .inl mf47)), ((ma 48), .inl (E 0, 5, .inl mf48)), ((ma 49), .inl (E 0, 5, .inl mf49)), ((ma 51), .inl (E 0, 15, .inl mf51)), ((ma 52), .inl (E 0, 15, .inl mf52)), ((ma 53), .inl (E 0, 15, .inl mf53)), ((ma 54), .inl (E 0, 15, .inl mf54)), ((ma 55), .inl (E 0, 5, .inl mf55)), ((ma 56), .inl (E 0, 200, .inl mf56)), ((ma 57), .inl (E 0, 600, .inl mf57)), ((ma 59), .inl (E 0, 3, .inl mf59)), ((ma 60), .inl (E 0, 3, .inl mf60))]) [0, 1, 2, 3, 4, 5, 6, 7, 8, 9, 10, 11, 12, 13, 14, 15, 16, 17, 18] rfl
        have hD9 := hD.sub (ws' := [(mh, .inr (9, G9 ma mcode mtoday moffs mmany msumW msumA msumR msumWW msumWA msumAA msumWR msumAR mupper mlower mrates mtaped mlaid mat mtk mtkAt mtkNumber mwaits mlisted mdealtMany)), ((ma 34), .inl (E 1, 2, .inl mf34)), ((ma 35), .inl (E 0, 2, .inl mf35)), ((ma 36), .inl (E 0, 384, .inl mf36)), ((ma 37), .inl (E 0, 384, .inl mf37)), ((ma 45), .inl (E 0, 130, .inl mf45)), ((ma 46), .inl (E 0, 24, .inl mf46)), ((ma 47), .inl (E 0, 5, .inl mf47)), ((ma 48), .inl (E 0, 5, .inl mf48)), ((ma 49), .inl (E 0, 5, .inl mf49)), ((ma 51), .inl (E 0, 15, .inl mf51)), ((ma 52), .inl (E 0, 15, .inl mf52)), ((ma 53), .inl (E 0, 15, .inl mf53)), ((ma 54), .inl (E 0, 15, .inl mf54)), ((ma 55), .inl (E 0, 5, .inl mf55)), ((ma 56), .inl (E 0, 200, .inl mf56)), ((ma 57), .inl (E 0, 600, .inl mf57)), ((ma 59), .inl (E 0, 3, .inl mf59)), ((ma 60), .inl (E 0, 3, .inl mf60))]) [0, 1, 2, 3, 4, 5, 6, 7, 8, 9, 10, 11, 12, 13, 14, 15, 16, 17, 18] (by decide) rfl
        exact W.iret (v := (-2000000000)) hx hb hr (fun t ht hW => ⟨⟨(-2000000000), (mf45, mf46, mf59, mf60), rfl, (by have hl := t_m2000000000; exact Or.inl ⟨fun hh => by omega, by omega⟩), by rw [ht]; exact hP9, hD9⟩, hS.F ht⟩) hS.2.2 dX9_told_35
    ·
      try simp only [t_0] at hw_8
      refine W_top (y := .int 0) (by rw [hr_7]) ?_
      refine lv_if_eq (tgt := 33) hx hb dX9_told_20 (by decide) (fun c_67 => ?_) (fun c_67 => absurd (by decide) c_67)
      refine lv_ldc hx hb hown (htb _ k_1205) dX9_told_33 ?_
      have hP9 := hP.sub (ws' := [(mh, .inr (9, G9 ma mcode mtoday moffs mmany msumW msumA msumR msumWW msumWA msumAA msumWR msumAR mupper mlower mrates mtaped mlaid mat mtk mtkAt mtkNumber mwaits mlisted mdealtMany)), ((ma 34), .inl (E 1, 2, .inl mf34)), ((ma 35), .inl (E 0, 2, .inl mf35)), ((ma 36), .inl (E 0, 384, .inl mf36)), ((ma 37), .inl (E 0, 384, .inl mf37)), ((ma 45), .inl (E 0, 130, .inl mf45)), ((ma 46), .inl (E 0, 24, .inl mf46)), ((ma 47), .inl (E 0, 5, .inl mf47)), ((ma 48), .inl (E 0, 5, .inl mf48)), ((ma 49), .inl (E 0, 5, .inl mf49)), ((ma 51), .inl (E 0, 15, .inl mf51)), ((ma 52), .inl (E 0, 15, .inl mf52)), ((ma 53), .inl (E 0, 15, .inl mf53)), ((ma 54), .inl (E 0, 15, .inl mf54)), ((ma 55), .inl (E 0, 5, .inl mf55)), ((ma 56), .inl (E 0, 200, .inl mf56)), ((ma 57), .inl (E 0, 600, .inl mf57)), ((ma 59), .inl (E 0, 3, .inl mf59)), ((ma 60), .inl (E 0, 3, .inl mf60))]) [0, 1, 2, 3, 4, 5, 6, 7, 8, 9, 10, 11, 12, 13, 14, 15, 16, 17, 18] rfl
      have hD9 := hD.sub (ws' := [(mh, .inr (9, G9 ma mcode mtoday moffs mmany msumW msumA msumR msumWW msumWA msumAA msumWR msumAR mupper mlower mrates mtaped mlaid mat mtk mtkAt mtkNumber mwaits mlisted mdealtMany)), ((ma 34), .inl (E 1, 2, .inl mf34)), ((ma 35), .inl (E 0, 2, .inl mf35)), ((ma 36), .inl (E 0, 384, .inl mf36)), ((ma 37), .inl (E 0, 384, .inl mf37)), ((ma 45), .inl (E 0, 130, .inl mf45)), ((ma 46), .inl (E 0, 24, .inl mf46)), ((ma 47), .inl (E 0, 5, .inl mf47)), ((ma 48), .inl (E 0, 5, .inl mf48)), ((ma 49), .inl (E 0, 5, .inl mf49)), ((ma 51), .inl (E 0, 15, .inl mf51)), ((ma 52), .inl (E 0, 15, .inl mf52)), ((ma 53), .inl (E 0, 15, .inl mf53)), ((ma 54), .inl (E 0, 15, .inl mf54)), ((ma 55), .inl (E 0, 5, .inl mf55)), ((ma 56), .inl (E 0, 200, .inl mf56)), ((ma 57), .inl (E 0, 600, .inl mf57)), ((ma 59), .inl (E 0, 3, .inl mf59)), ((ma 60), .inl (E 0, 3, .inl mf60))]) [0, 1, 2, 3, 4, 5, 6, 7, 8, 9, 10, 11, 12, 13, 14, 15, 16, 17, 18] (by decide) rfl
      exact W.iret (v := (-2000000000)) hx hb hr (fun t ht hW => ⟨⟨(-2000000000), (mf45, mf46, mf59, mf60), rfl, (by have hl := t_m2000000000; exact Or.inl ⟨fun hh => by omega, by omega⟩), by rw [ht]; exact hP9, hD9⟩, hS.F ht⟩) hS.2.2 dX9_told_35
  ·
    refine W_top (y := .int 0) (by rw [hr_1]) ?_
    refine lv_if_eq (tgt := 33) hx hb dX9_told_4 (by decide) (fun c_68 => ?_) (fun c_68 => absurd (by decide) c_68)
    refine lv_ldc hx hb hown (htb _ k_1205) dX9_told_33 ?_
    have hP9 := hP.sub (ws' := [(mh, .inr (9, G9 ma mcode mtoday moffs mmany msumW msumA msumR msumWW msumWA msumAA msumWR msumAR mupper mlower mrates mtaped mlaid mat mtk mtkAt mtkNumber mwaits mlisted mdealtMany)), ((ma 34), .inl (E 1, 2, .inl mf34)), ((ma 35), .inl (E 0, 2, .inl mf35)), ((ma 36), .inl (E 0, 384, .inl mf36)), ((ma 37), .inl (E 0, 384, .inl mf37)), ((ma 45), .inl (E 0, 130, .inl mf45)), ((ma 46), .inl (E 0, 24, .inl mf46)), ((ma 47), .inl (E 0, 5, .inl mf47)), ((ma 48), .inl (E 0, 5, .inl mf48)), ((ma 49), .inl (E 0, 5, .inl mf49)), ((ma 51), .inl (E 0, 15, .inl mf51)), ((ma 52), .inl (E 0, 15, .inl mf52)), ((ma 53), .inl (E 0, 15, .inl mf53)), ((ma 54), .inl (E 0, 15, .inl mf54)), ((ma 55), .inl (E 0, 5, .inl mf55)), ((ma 56), .inl (E 0, 200, .inl mf56)), ((ma 57), .inl (E 0, 600, .inl mf57)), ((ma 59), .inl (E 0, 3, .inl mf59)), ((ma 60), .inl (E 0, 3, .inl mf60))]) [0, 1, 2, 3, 4, 5, 6, 7, 8, 9, 10, 11, 12, 13, 14, 15, 16, 17, 18] rfl
    have hD9 := hD.sub (ws' := [(mh, .inr (9, G9 ma mcode mtoday moffs mmany msumW msumA msumR msumWW msumWA msumAA msumWR msumAR mupper mlower mrates mtaped mlaid mat mtk mtkAt mtkNumber mwaits mlisted mdealtMany)), ((ma 34), .inl (E 1, 2, .inl mf34)), ((ma 35), .inl (E 0, 2, .inl mf35)), ((ma 36), .inl (E 0, 384, .inl mf36)), ((ma 37), .inl (E 0, 384, .inl mf37)), ((ma 45), .inl (E 0, 130, .inl mf45)), ((ma 46), .inl (E 0, 24, .inl mf46)), ((ma 47), .inl (E 0, 5, .inl mf47)), ((ma 48), .inl (E 0, 5, .inl mf48)), ((ma 49), .inl (E 0, 5, .inl mf49)), ((ma 51), .inl (E 0, 15, .inl mf51)), ((ma 52), .inl (E 0, 15, .inl mf52)), ((ma 53), .inl (E 0, 15, .inl mf53)), ((ma 54), .inl (E 0, 15, .inl mf54)), ((ma 55), .inl (E 0, 5, .inl mf55)), ((ma 56), .inl (E 0, 200, .inl mf56)), ((ma 57), .inl (E 0, 600, .inl mf57)), ((ma 59), .inl (E 0, 3, .inl mf59)), ((ma 60), .inl (E 0, 3, .inl mf60))]) [0, 1, 2, 3, 4, 5, 6, 7, 8, 9, 10, 11, 12, 13, 14, 15, 16, 17, 18] (by decide) rfl
    exact W.iret (v := (-2000000000)) hx hb hr (fun t ht hW => ⟨⟨(-2000000000), (mf45, mf46, mf59, mf60), rfl, (by have hl := t_m2000000000; exact Or.inl ⟨fun hh => by omega, by omega⟩), by rw [ht]; exact hP9, hD9⟩, hS.F ht⟩) hS.2.2 dX9_told_35
