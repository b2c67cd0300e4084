set_option maxHeartbeats 4000000 in
set_option maxRecDepth 100000 in
theorem g_J0_isLatin1_aae02 (l : Launch) (D : va_G) (E : Nat → Nat) (sh : Nat) (sv : Nat) (sn : Nat) (sf : Nat → Int32) (hsn : sn < 2147483647) : Met l yJ0_isLatin1_aae02 (wl yJ0_isLatin1_aae02 cJ0_isLatin1_aae02 1 (some .boolean)) (RM 0 0 0) (rdS_P D E [.ref sh] ([] : va_W) [(sh, sv, sn, sf)]) (rd_Q (fun r => ((r = 1 ∧ True)))) 0 0 (fun _ => False) := by
  refine met_for (cc := cJ0_isLatin1_aae02) (maxL := 1) (ret := (some .boolean)) (by decide +kernel) rfl ?_
  intro p e s m args below meth c s₁ B hml hv
  obtain ⟨rfl, hP, hK, hG⟩ := hv
  have hSs : va_S (fun _ => False) s.heap s.heap [] := va_S.rf
  have hx := B.exec; have hb := B.bytes; have hr := B.returns
  have hts := atoms_spec (ws := wl yJ0_isLatin1_aae02 cJ0_isLatin1_aae02 1 (some .boolean)) B.pre
  have htb : ∀ w ∈ tb, w.before _ s = true := fun w h => hts w (List.mem_cons_of_mem _ h)
  have hown : s.vm.findClass RJ0 = some m.cls := findClass_of_methodNamed B.named
  have hlocks := B.notSynchronized
  have hP : va_P D vwCl ([] : va_W) s.heap := hP
  have hl := lv_entry ([.ref sh]) (n := 1) (Nat.le_of_ble_eq_true rfl)
  rw [lg_entry_eq]
  generalize (lg_sl ([.ref sh]) ++ List.replicate (1 - (lg_sl ([.ref sh])).length) Slot.unset).toArray = ls at hl ⊢
  have hl : lv_has ls 1 [(0, .ref sh)] := hl
  refine va_gets hx hb (hG.get 0 rfl).1 hSs hown (htb _ k_614) (fun _ h9 => h9) dJ0_isLatin1_aae02_0 ?_
  refine lv_if_eq (tgt := 17) hx hb dJ0_isLatin1_aae02_3 (by decide) (fun c_1 => absurd c_1 (by decide)) (fun c_1 => ?_)
  refine lv_aload_n hx hb dJ0_isLatin1_aae02_6 rfl (lv_at hl 0 rfl) ?_
  refine vk_getf hx hb (hG.get 0 rfl).2.2.2.1 hSs hown (htb _ k_1497) (fun _ h9 => h9) dJ0_isLatin1_aae02_7 ?_
  refine lv_if_ne (tgt := 17) hx hb dJ0_isLatin1_aae02_10 (by decide) (fun c_2 => absurd (by decide) c_2) (fun c_2 => ?_)
  refine lv_iconst (v := 1) hx hb dJ0_isLatin1_aae02_13 (by decide) ?_
  refine lv_goto (tgt := 18) hx hb dJ0_isLatin1_aae02_14 (by decide) ?_
  exact W.zret (v := 1) hx hb hr rfl (fun t ht hW => ⟨1, rfl, ⟨rfl, trivial⟩, ht⟩) (fun q h => by cases h) dJ0_isLatin1_aae02_18
set_option maxHeartbeats 4000000 in
set_option maxRecDepth 100000 in
theorem g_J0_coder_7d493 (l : Launch) (D : va_G) (E : Nat → Nat) (sh : Nat) (sv : Nat) (sn : Nat) (sf : Nat → Int32) (hsn : sn < 2147483647) : Met l yJ0_coder_7d493 (wl yJ0_coder_7d493 cJ0_coder_7d493 1 (some .byte)) (RM 0 0 0) (rdS_P D E [.ref sh] ([] : va_W) [(sh, sv, sn, sf)]) (rd_Q (fun r => ((r = 0 ∧ True)))) 0 0 (fun _ => False) := by
  refine met_for (cc := cJ0_coder_7d493) (maxL := 1) (ret := (some .byte)) (by decide +kernel) rfl ?_
  intro p e s m args below meth c s₁ B hml hv
  obtain ⟨rfl, hP, hK, hG⟩ := hv
  have hSs : va_S (fun _ => False) s.heap s.heap [] := va_S.rf
  have hx := B.exec; have hb := B.bytes; have hr := B.returns
  have hts := atoms_spec (ws := wl yJ0_coder_7d493 cJ0_coder_7d493 1 (some .byte)) B.pre
  have htb : ∀ w ∈ tb, w.before _ s = true := fun w h => hts w (List.mem_cons_of_mem _ h)
  have hown : s.vm.findClass RJ0 = some m.cls := findClass_of_methodNamed B.named
  have hlocks := B.notSynchronized
  have hP : va_P D vwCl ([] : va_W) s.heap := hP
  have hl := lv_entry ([.ref sh]) (n := 1) (Nat.le_of_ble_eq_true rfl)
  rw [lg_entry_eq]
  generalize (lg_sl ([.ref sh]) ++ List.replicate (1 - (lg_sl ([.ref sh])).length) Slot.unset).toArray = ls at hl ⊢
  have hl : lv_has ls 1 [(0, .ref sh)] := hl
  refine va_gets hx hb (hG.get 0 rfl).1 hSs hown (htb _ k_614) (fun _ h9 => h9) dJ0_coder_7d493_0 ?_
  refine lv_if_eq (tgt := 13) hx hb dJ0_coder_7d493_3 (by decide) (fun c_1 => absurd c_1 (by decide)) (fun c_1 => ?_)
  refine lv_aload_n hx hb dJ0_coder_7d493_6 rfl (lv_at hl 0 rfl) ?_
  refine vk_getf hx hb (hG.get 0 rfl).2.2.2.1 hSs hown (htb _ k_1497) (fun _ h9 => h9) dJ0_coder_7d493_7 ?_
  refine lv_goto (tgt := 14) hx hb dJ0_coder_7d493_10 (by decide) ?_
  exact W.zret (v := 0) hx hb hr rfl (fun t ht hW => ⟨0, rfl, ⟨rfl, trivial⟩, ht⟩) (fun q h => by cases h) dJ0_coder_7d493_14
set_option maxHeartbeats 4000000 in
set_option maxRecDepth 100000 in
theorem g_J0_length_8abf5 (l : Launch) (D : va_G) (E : Nat → Nat) (sh : Nat) (sv : Nat) (sn : Nat) (sf : Nat → Int32) (hsn : sn < 2147483647) : Met l yJ0_length_8abf5 (wl yJ0_length_8abf5 cJ0_length_8abf5 1 (some .int)) (RM 1 0 0) (rdS_P D E [.ref sh] ([] : va_W) [(sh, sv, sn, sf)]) (rd_Q (fun r => (r.toInt = (sn : Nat)))) 0 0 (fun _ => False) := by
  refine met_for (cc := cJ0_length_8abf5) (maxL := 1) (ret := (some .int)) (by decide +kernel) rfl ?_
  intro p e s m args below meth c s₁ B hml hv
  obtain ⟨rfl, hP, hK, hG⟩ := hv
  have hSs : va_S (fun _ => False) s.heap s.heap [] := va_S.rf
  have hx := B.exec; have hb := B.bytes; have hr := B.returns
  have hts := atoms_spec (ws := wl yJ0_length_8abf5 cJ0_length_8abf5 1 (some .int)) B.pre
  have htb : ∀ w ∈ tb, w.before _ s = true := fun w h => hts w (List.mem_cons_of_mem _ h)
  have hown : s.vm.findClass RJ0 = some m.cls := findClass_of_methodNamed B.named
  have hlocks := B.notSynchronized
  have hP : va_P D vwCl ([] : va_W) s.heap := hP
  have hl := lv_entry ([.ref sh]) (n := 1) (Nat.le_of_ble_eq_true rfl)
  rw [lg_entry_eq]
  generalize (lg_sl ([.ref sh]) ++ List.replicate (1 - (lg_sl ([.ref sh])).length) Slot.unset).toArray = ls at hl ⊢
  have hl : lv_has ls 1 [(0, .ref sh)] := hl
  refine lv_aload_n hx hb dJ0_length_8abf5_0 rfl (lv_at hl 0 rfl) ?_
  refine vk_getf hx hb (hG.get 0 rfl).2.2.2.2.1 hSs hown (htb _ k_1496) (fun _ h9 => h9) dJ0_length_8abf5_1 ?_
  obtain ⟨z_1, ez_1⟩ : ∃ y : Int32, Int32.ofNat sn = y := ⟨_, rfl⟩
  refine va_tlen hx hb (hG.get 0 rfl).2.2.2.2.2 hSs ez_1 dJ0_length_8abf5_4 ?_
  have jz_1 : z_1.toInt = (sn : Nat) := nI_len hsn ez_1
  refine lv_aload_n hx hb dJ0_length_8abf5_5 rfl (lv_at hl 0 rfl) ?_
  refine rd_call (runRV (rest := [.int z_1]) (As := []) hx hb hml hown htb (g_J0_coder_7d493 l D E sh sv sn sf hsn) ok_J0_coder_7d493 k_610 k_611 k_612 k_12 k_613 ⟨(Nat.le_of_ble_eq_true rfl), (Nat.le_of_ble_eq_true rfl)⟩ ⟨(Nat.le_of_ble_eq_true rfl), (Nat.le_of_ble_eq_true rfl)⟩ hl.1 (Nat.le_of_ble_eq_true rfl) rfl rfl dJ0_length_8abf5_6 (prVT hK 0 rfl hG hSs)) (fun r_2 hw_3 => ?_)
  obtain ⟨hr_2, hw_3⟩ := hw_3
  refine W_top (y := .int 0) (by rw [hr_2]) ?_
  refine lv_ishr hx hb dJ0_length_8abf5_9 ?_
  refine lv_topi (fun z_5 ez_5 => ?_)
  exact W.iret (v := z_5) hx hb hr (fun t ht hW => ⟨z_5, rfl, (shr_0 hsn ez_1 ez_5), ht⟩) (fun q h => by cases h) dJ0_length_8abf5_10
set_option maxHeartbeats 4000000 in
set_option maxRecDepth 100000 in
theorem g_J3_checkIndexN (l : Launch) (D : va_G) (E : Nat → Nat) (p0 : Int32) (p1 : Int32) (g0 : 0 ≤ p0.toInt ∧ p0.toInt < p1.toInt) : Met l yJ3_checkIndex_8e157 (wl yJ3_checkIndex_8e157 cJ3_checkIndex_8e157 3 (some .int)) (RM 0 0 0) (rd_P D E [.int p0, .int p1, .null] ([] : va_W)) (rd_Q (fun r => True)) 0 0 (fun _ => False) := by
  refine met_for (cc := cJ3_checkIndex_8e157) (maxL := 3) (ret := (some .int)) (by decide +kernel) rfl ?_
  intro p e s m args below meth c s₁ B hml hv
  obtain ⟨rfl, hP, hK⟩ := hv
  have hx := B.exec; have hb := B.bytes; have hr := B.returns
  have hts := atoms_spec (ws := wl yJ3_checkIndex_8e157 cJ3_checkIndex_8e157 3 (some .int)) B.pre
  have htb : ∀ w ∈ tb, w.before _ s = true := fun w h => hts w (List.mem_cons_of_mem _ h)
  have hown : s.vm.findClass RJ3 = some m.cls := findClass_of_methodNamed B.named
  have hlocks := B.notSynchronized
  have hP : va_P D vwCl ([] : va_W) s.heap := hP
  have hl := lv_entry ([.int p0, .int p1, .null]) (n := 3) (Nat.le_of_ble_eq_true rfl)
  rw [lg_entry_eq]
  generalize (lg_sl ([.int p0, .int p1, .null]) ++ List.replicate (3 - (lg_sl ([.int p0, .int p1, .null])).length) Slot.unset).toArray = ls at hl ⊢
  have hl : lv_has ls 3 [(0, .int p0), (1, .int p1), (2, .null)] := hl
  have lo_p0 := i_lo p0; have hi_p0 := i_hi p0
  have lo_p1 := i_lo p1; have hi_p1 := i_hi p1
  refine lv_iload_n hx hb dJ3_checkIndex_8e157_0 rfl (lv_at hl 0 rfl) ?_
  refine lv_if_lt (tgt := 9) hx hb dJ3_checkIndex_8e157_1 (by decide) (fun c_1 => absurd c_1 (by rw [g_lt rfl t_0]; omega)) (fun c_1 => ?_)
  refine lv_iload_n hx hb dJ3_checkIndex_8e157_4 rfl (lv_at hl 0 rfl) ?_
  refine lv_iload_n hx hb dJ3_checkIndex_8e157_5 rfl (lv_at hl 1 rfl) ?_
  refine lv_icmp_lt (tgt := 16) hx hb dJ3_checkIndex_8e157_6 (by decide) (fun c_2 => ?_) (fun c_2 => absurd (by rw [g_lt rfl rfl]; omega) c_2)
  refine lv_iload_n hx hb dJ3_checkIndex_8e157_16 rfl (lv_at hl 0 rfl) ?_
  exact W.iret (v := p0) hx hb hr (fun t ht hW => ⟨p0, rfl, trivial, ht⟩) (fun q h => by cases h) dJ3_checkIndex_8e157_17
set_option maxHeartbeats 4000000 in
set_option maxRecDepth 100000 in
theorem g_J3_checkIndexR (l : Launch) (D : va_G) (E : Nat → Nat) (pr : Nat) (p0 : Int32) (p1 : Int32) (g0 : 0 ≤ p0.toInt ∧ p0.toInt < p1.toInt) : Met l yJ3_checkIndex_8e157 (wl yJ3_checkIndex_8e157 cJ3_checkIndex_8e157 3 (some .int)) (RM 0 0 0) (rd_P D E [.int p0, .int p1, .ref pr] ([] : va_W)) (rd_Q (fun r => True)) 0 0 (fun _ => False) := by
  refine met_for (cc := cJ3_checkIndex_8e157) (maxL := 3) (ret := (some .int)) (by decide +kernel) rfl ?_
  intro p e s m args below meth c s₁ B hml hv
  obtain ⟨rfl, hP, hK⟩ := hv
  have hx := B.exec; have hb := B.bytes; have hr := B.returns
  have hts := atoms_spec (ws := wl yJ3_checkIndex_8e157 cJ3_checkIndex_8e157 3 (some .int)) B.pre
  have htb : ∀ w ∈ tb, w.before _ s = true := fun w h => hts w (List.mem_cons_of_mem _ h)
  have hown : s.vm.findClass RJ3 = some m.cls := findClass_of_methodNamed B.named
  have hlocks := B.notSynchronized
  have hP : va_P D vwCl ([] : va_W) s.heap := hP
  have hl := lv_entry ([.int p0, .int p1, .ref pr]) (n := 3) (Nat.le_of_ble_eq_true rfl)
  rw [lg_entry_eq]
  generalize (lg_sl ([.int p0, .int p1, .ref pr]) ++ List.replicate (3 - (lg_sl ([.int p0, .int p1, .ref pr])).length) Slot.unset).toArray = ls at hl ⊢
  have hl : lv_has ls 3 [(0, .int p0), (1, .int p1), (2, .ref pr)] := hl
  have lo_p0 := i_lo p0; have hi_p0 := i_hi p0
  have lo_p1 := i_lo p1; have hi_p1 := i_hi p1
  refine lv_iload_n hx hb dJ3_checkIndex_8e157_0 rfl (lv_at hl 0 rfl) ?_
  refine lv_if_lt (tgt := 9) hx hb dJ3_checkIndex_8e157_1 (by decide) (fun c_1 => absurd c_1 (by rw [g_lt rfl t_0]; omega)) (fun c_1 => ?_)
  refine lv_iload_n hx hb dJ3_checkIndex_8e157_4 rfl (lv_at hl 0 rfl) ?_
  refine lv_iload_n hx hb dJ3_checkIndex_8e157_5 rfl (lv_at hl 1 rfl) ?_
  refine lv_icmp_lt (tgt := 16) hx hb dJ3_checkIndex_8e157_6 (by decide) (fun c_2 => ?_) (fun c_2 => absurd (by rw [g_lt rfl rfl]; omega) c_2)
  refine lv_iload_n hx hb dJ3_checkIndex_8e157_16 rfl (lv_at hl 0 rfl) ?_
  exact W.iret (v := p0) hx hb hr (fun t ht hW => ⟨p0, rfl, trivial, ht⟩) (fun q h => by cases h) dJ3_checkIndex_8e157_17
set_option maxHeartbeats 4000000 in
set_option maxRecDepth 100000 in
theorem g_J0_checkIndex_df160 (l : Launch) (D : va_G) (E : Nat → Nat) (sh : Nat) (sv : Nat) (sn : Nat) (sf : Nat → Int32) (p0 : Int32) (p1 : Int32) (hsn : sn < 2147483647) (g0 : 0 ≤ p0.toInt ∧ p0.toInt < p1.toInt) : Met l yJ0_checkIndex_df160 (wl yJ0_checkIndex_df160 cJ0_checkIndex_df160 2 none) (RM 1 0 0) (rdS_P D E [.int p0, .int p1] ([] : va_W) [(sh, sv, sn, sf)]) (rv_Q) 0 0 (fun _ => False) := by
  refine met_for (cc := cJ0_checkIndex_df160) (maxL := 2) (ret := none) (by decide +kernel) rfl ?_
  intro p e s m args below meth c s₁ B hml hv
  obtain ⟨rfl, hP, hK, hG⟩ := hv
  have hSs : va_S (fun _ => False) s.heap s.heap [] := va_S.rf
  have hx := B.exec; have hb := B.bytes; have hr := B.returns
  have hts := atoms_spec (ws := wl yJ0_checkIndex_df160 cJ0_checkIndex_df160 2 none) B.pre
  have htb : ∀ w ∈ tb, w.before _ s = true := fun w h => hts w (List.mem_cons_of_mem _ h)
  have hown : s.vm.findClass RJ0 = some m.cls := findClass_of_methodNamed B.named
  have hlocks := B.notSynchronized
  have hP : va_P D vwCl ([] : va_W) s.heap := hP
  have hl := lv_entry ([.int p0, .int p1]) (n := 2) (Nat.le_of_ble_eq_true rfl)
  rw [lg_entry_eq]
  generalize (lg_sl ([.int p0, .int p1]) ++ List.replicate (2 - (lg_sl ([.int p0, .int p1])).length) Slot.unset).toArray = ls at hl ⊢
  have hl : lv_has ls 2 [(0, .int p0), (1, .int p1)] := hl
  have lo_p0 := i_lo p0; have hi_p0 := i_hi p0
  have lo_p1 := i_lo p1; have hi_p1 := i_hi p1
  refine lv_iload_n hx hb dJ0_checkIndex_df160_0 rfl (lv_at hl 0 rfl) ?_
  refine lv_iload_n hx hb dJ0_checkIndex_df160_1 rfl (lv_at hl 1 rfl) ?_
  rcases (hG.get 0 rfl).2.1 with hz_1 | ⟨zt_2, hz_1⟩
  ·
    refine va_gets hx hb hz_1 hSs hown (htb _ k_630) (fun _ h9 => h9) dJ0_checkIndex_df160_2 ?_
    refine callRS (rest := []) (As := [.int p0, .int p1, .null]) hx hb hml hown htb hK (g_J3_checkIndexN l D E p0 p1 (by omega)) ok_J3_checkIndex_8e157 k_632 k_633 k_14 k_634 ⟨(Nat.le_of_ble_eq_true rfl), (Nat.le_of_ble_eq_true rfl)⟩ ⟨(Nat.le_of_ble_eq_true rfl), (Nat.le_of_ble_eq_true rfl)⟩ hl.1 (Nat.le_of_ble_eq_true rfl) rfl rfl dJ0_checkIndex_df160_5 (hP.sub (ws' := ([] : va_W)) [] rfl) (fun r_3 hw_4 => ?_)
    refine lv_pop hx hb dJ0_checkIndex_df160_8 rfl ?_
    exact W.vret hx hb hr (fun t ht hW => ⟨rfl, ht⟩) (fun q h => by cases h) dJ0_checkIndex_df160_9
  ·
    refine va_gets hx hb hz_1 hSs hown (htb _ k_630) (fun _ h9 => h9) dJ0_checkIndex_df160_2 ?_
    refine callRS (rest := []) (As := [.int p0, .int p1, .ref zt_2]) hx hb hml hown htb hK (g_J3_checkIndexR l D E zt_2 p0 p1 (by omega)) ok_J3_checkIndex_8e157 k_632 k_633 k_14 k_634 ⟨(Nat.le_of_ble_eq_true rfl), (Nat.le_of_ble_eq_true rfl)⟩ ⟨(Nat.le_of_ble_eq_true rfl), (Nat.le_of_ble_eq_true rfl)⟩ hl.1 (Nat.le_of_ble_eq_true rfl) rfl rfl dJ0_checkIndex_df160_5 (hP.sub (ws' := ([] : va_W)) [] rfl) (fun r_6 hw_7 => ?_)
    refine lv_pop hx hb dJ0_checkIndex_df160_8 rfl ?_
    exact W.vret hx hb hr (fun t ht hW => ⟨rfl, ht⟩) (fun q h => by cases h) dJ0_checkIndex_df160_9
set_option maxHeartbeats 4000000 in
set_option maxRecDepth 100000 in
theorem g_J1_charAt_3b067 (l : Launch) (D : va_G) (E : Nat → Nat) (sh : Nat) (sv : Nat) (sn : Nat) (sf : Nat → Int32) (p1 : Int32) (hsn : sn < 2147483647) (g0 : 0 ≤ p1.toInt ∧ p1.toInt < (sn : Nat)) : Met l yJ1_charAt_3b067 (wl yJ1_charAt_3b067 cJ1_charAt_3b067 2 (some .char)) (RM 2 0 0) (rdS_P D E [.ref sv, .int p1] ([] : va_W) [(sh, sv, sn, sf)]) (rd_Q (fun r => (r = sf (p1).toNatClampNeg &&& 255))) 0 0 (fun _ => False) := by
  refine met_for (cc := cJ1_charAt_3b067) (maxL := 2) (ret := (some .char)) (by decide +kernel) rfl ?_
  intro p e s m args below meth c s₁ B hml hv
  obtain ⟨rfl, hP, hK, hG⟩ := hv
  have hSs : va_S (fun _ => False) s.heap s.heap [] := va_S.rf
  have hx := B.exec; have hb := B.bytes; have hr := B.returns
  have hts := atoms_spec (ws := wl yJ1_charAt_3b067 cJ1_charAt_3b067 2 (some .char)) B.pre
  have htb : ∀ w ∈ tb, w.before _ s = true := fun w h => hts w (List.mem_cons_of_mem _ h)
  have hown : s.vm.findClass RJ1 = some m.cls := findClass_of_methodNamed B.named
  have hlocks := B.notSynchronized
  have hP : va_P D vwCl ([] : va_W) s.heap := hP
  have hl := lv_entry ([.ref sv, .int p1]) (n := 2) (Nat.le_of_ble_eq_true rfl)
  rw [lg_entry_eq]
  generalize (lg_sl ([.ref sv, .int p1]) ++ List.replicate (2 - (lg_sl ([.ref sv, .int p1])).length) Slot.unset).toArray = ls at hl ⊢
  have hl : lv_has ls 2 [(0, .ref sv), (1, .int p1)] := hl
  have lo_p1 := i_lo p1; have hi_p1 := i_hi p1
  refine lv_iload_n hx hb dJ1_charAt_3b067_0 rfl (lv_at hl 1 rfl) ?_
  refine lv_aload_n hx hb dJ1_charAt_3b067_1 rfl (lv_at hl 0 rfl) ?_
  obtain ⟨z_1, ez_1⟩ : ∃ y : Int32, Int32.ofNat sn = y := ⟨_, rfl⟩
  refine va_tlen hx hb (hG.get 0 rfl).2.2.2.2.2 hSs ez_1 dJ1_charAt_3b067_2 ?_
  have jz_1 : z_1.toInt = (sn : Nat) := nI_len hsn ez_1
  refine rv_call (runRS (rest := []) (As := [.int p1, .int z_1]) hx hb hml hown htb (g_J0_checkIndex_df160 l D E sh sv sn sf p1 z_1 hsn (by omega)) ok_J0_checkIndex_df160 k_627 k_628 k_12 k_629 ⟨(Nat.le_of_ble_eq_true rfl), (Nat.le_of_ble_eq_true rfl)⟩ ⟨(Nat.le_of_ble_eq_true rfl), (Nat.le_of_ble_eq_true rfl)⟩ hl.1 (Nat.le_of_ble_eq_true rfl) rfl rfl dJ1_charAt_3b067_3 (prSS (show va_P D vwCl [] _ from fun k q h => by simp at h) hK hG hSs)) ?_
  refine lv_aload_n hx hb dJ1_charAt_3b067_6 rfl (lv_at hl 0 rfl) ?_
  refine lv_iload_n hx hb dJ1_charAt_3b067_7 rfl (lv_at hl 1 rfl) ?_
  refine va_tb (v := .int (sf (p1 : Int32).toNatClampNeg)) hx hb (hG.get 0 rfl).2.2.2.2.2 hSs (g_in rfl (by omega) (by omega)) rfl dJ1_charAt_3b067_8 ?_
  refine lv_topi (fun z_5 ez_5 => ?_)
  refine lv_sipush (v := 255) hx hb dJ1_charAt_3b067_9 (by decide) ?_
  refine lv_iand hx hb dJ1_charAt_3b067_12 ?_
  refine lv_topi (fun z_6 ez_6 => ?_)
  obtain ⟨z_7, ez_7⟩ : ∃ y : Int32, ((z_6 : Int32).toUInt32 % 65536).toInt32 = y := ⟨_, rfl⟩
  refine lv_i2c hx hb dJ1_charAt_3b067_13 ez_7 ?_
  exact W.zret (v := z_7) hx hb hr (by rw [← ez_7, ez_6, sc_c2]; exact sc_nar _) (fun t ht hW => ⟨z_7, rfl, (by rw [← ez_7, ez_6, sc_c2, ez_5]), ht⟩) (fun q h => by cases h) dJ1_charAt_3b067_14
set_option maxHeartbeats 4000000 in
set_option maxRecDepth 100000 in
theorem g_J0_charAt_5068e (l : Launch) (D : va_G) (E : Nat → Nat) (sh : Nat) (sv : Nat) (sn : Nat) (sf : Nat → Int32) (p0 : Int32) (hsn : sn < 2147483647) (g0 : 0 ≤ p0.toInt ∧ p0.toInt < (sn : Nat)) : Met l yJ0_charAt_5068e (wl yJ0_charAt_5068e cJ0_charAt_5068e 2 (some .char)) (RM 3 0 0) (rdS_P D E [.ref sh, .int p0] ([] : va_W) [(sh, sv, sn, sf)]) (rd_Q (fun r => (r = sf (p0).toNatClampNeg &&& 255))) 0 0 (fun _ => False) := by
  refine met_for (cc := cJ0_charAt_5068e) (maxL := 2) (ret := (some .char)) (by decide +kernel) rfl ?_
  intro p e s m args below meth c s₁ B hml hv
  obtain ⟨rfl, hP, hK, hG⟩ := hv
  have hSs : va_S (fun _ => False) s.heap s.heap [] := va_S.rf
  have hx := B.exec; have hb := B.bytes; have hr := B.returns
  have hts := atoms_spec (ws := wl yJ0_charAt_5068e cJ0_charAt_5068e 2 (some .char)) B.pre
  have htb : ∀ w ∈ tb, w.before _ s = true := fun w h => hts w (List.mem_cons_of_mem _ h)
  have hown : s.vm.findClass RJ0 = some m.cls := findClass_of_methodNamed B.named
  have hlocks := B.notSynchronized
  have hP : va_P D vwCl ([] : va_W) s.heap := hP
  have hl := lv_entry ([.ref sh, .int p0]) (n := 2) (Nat.le_of_ble_eq_true rfl)
  rw [lg_entry_eq]
  generalize (lg_sl ([.ref sh, .int p0]) ++ List.replicate (2 - (lg_sl ([.ref sh, .int p0])).length) Slot.unset).toArray = ls at hl ⊢
  have hl : lv_has ls 2 [(0, .ref sh), (1, .int p0)] := hl
  have lo_p0 := i_lo p0; have hi_p0 := i_hi p0
  refine lv_aload_n hx hb dJ0_charAt_5068e_0 rfl (lv_at hl 0 rfl) ?_
  refine rd_call (runRV (rest := []) (As := []) hx hb hml hown htb (g_J0_isLatin1_aae02 l D E sh sv sn sf hsn) ok_J0_isLatin1_aae02 k_620 k_621 k_622 k_12 k_623 ⟨(Nat.le_of_ble_eq_true rfl), (Nat.le_of_ble_eq_true rfl)⟩ ⟨(Nat.le_of_ble_eq_true rfl), (Nat.le_of_ble_eq_true rfl)⟩ hl.1 (Nat.le_of_ble_eq_true rfl) rfl rfl dJ0_charAt_5068e_1 (prVT hK 0 rfl hG hSs)) (fun r_1 hw_2 => ?_)
  obtain ⟨hr_1, hw_2⟩ := hw_2
  refine W_top (y := .int 1) (by rw [hr_1]) ?_
  refine lv_if_eq (tgt := 16) hx hb dJ0_charAt_5068e_4 (by decide) (fun c_4 => absurd c_4 (by decide)) (fun c_4 => ?_)
  refine lv_aload_n hx hb dJ0_charAt_5068e_7 rfl (lv_at hl 0 rfl) ?_
  refine vk_getf hx hb (hG.get 0 rfl).2.2.2.2.1 hSs hown (htb _ k_1496) (fun _ h9 => h9) dJ0_charAt_5068e_8 ?_
  refine lv_iload_n hx hb dJ0_charAt_5068e_11 rfl (lv_at hl 1 rfl) ?_
  refine rd_call (runRS (rest := []) (As := [.ref sv, .int p0]) hx hb hml hown htb (g_J1_charAt_3b067 l D E sh sv sn sf p0 hsn (by omega)) ok_J1_charAt_3b067 k_624 k_625 k_13 k_626 ⟨(Nat.le_of_ble_eq_true rfl), (Nat.le_of_ble_eq_true rfl)⟩ ⟨(Nat.le_of_ble_eq_true rfl), (Nat.le_of_ble_eq_true rfl)⟩ hl.1 (Nat.le_of_ble_eq_true rfl) rfl rfl dJ0_charAt_5068e_12 (prSS (show va_P D vwCl [] _ from fun k q h => by simp at h) hK hG hSs)) (fun r_5 hw_6 => ?_)
  exact W.zret (v := r_5) hx hb hr (by rw [hw_6]; exact sc_nar _) (fun t ht hW => ⟨r_5, rfl, hw_6, ht⟩) (fun q h => by cases h) dJ0_charAt_5068e_15
