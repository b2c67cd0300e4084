set_option maxHeartbeats 4000000 in
set_option maxRecDepth 100000 in
theorem c_X6_readOperand (l : Launch) (D : va_G) (E : Nat → Nat) (h0 : Nat) (q1 : Nat) (q2 : Nat) (q3 : Nat) (p0 : Int32)  : Met l yX6_readOperand (wl yX6_readOperand cX6_readOperand 4 (some .boolean)) (RM 0 0 0) (rd_P D E [.ref h0, .int p0] [(h0, .inr (6, [.ref q1, .int 0, .ref q2, .ref q3, .int 0, .int 0, .int 0, .int 0]))]) (rd_Q (fun r => (r = 0 ∧ True))) 0 0 (fun _ => False) := by
  refine Met.ofW (cc := cX6_readOperand) (maxL := 4) (ret := (some .boolean)) (by decide) rfl ?_
  intro p e s m args below meth c s₁ B hml hv
  obtain ⟨rfl, hP, hK⟩ := hv
  have hx := B.exec
  have hb := B.bytes
  have hr := B.returns
  have hts := atoms_spec (ws := wl yX6_readOperand cX6_readOperand 4 (some .boolean)) B.pre
  have htb : ∀ w ∈ tb, w.before _ s = true := fun w h => hts w (List.mem_cons_of_mem _ h)
  have hown : s.vm.findClass RX6 = some m.cls := findClass_of_methodNamed B.named
  have hlocks := B.notSynchronized
  have hP : va_P D vwCl [(h0, .inr (6, [.ref q1, .int 0, .ref q2, .ref q3, .int 0, .int 0, .int 0, .int 0]))] s.heap := hP
  have hl := lv_entry ([.ref h0, .int p0]) (n := 4) (Nat.le_of_ble_eq_true rfl)
  rw [lg_entry_eq]
  generalize (lg_sl ([.ref h0, .int p0]) ++ List.replicate (4 - (lg_sl ([.ref h0, .int p0])).length) Slot.unset).toArray = ls at hl ⊢
  have hl : lv_has ls 4 [(0, .ref h0), (1, .int p0)] := hl
  have lo_p0 := i_lo p0
  have hi_p0 := i_hi p0
  refine lv_aload_n hx hb dX6_readOperand_0 rfl (lv_at hl 0 rfl) ?_
  refine va_get (D := D) (ci := 6) (v := .int 0) (C := RX6) (T := TX6) (N := 8) hx hb htb iX6 hown hK.1 hP 0 rfl rfl 5 (by decide) (htb _ k_163) (fun _ h9 => h9) rfl dX6_readOperand_1 ?_
  refine lv_iconst (v := 2) hx hb dX6_readOperand_4 (by decide) ?_
  refine lv_icmp_eq (tgt := 16) hx hb dX6_readOperand_5 (by decide) (fun c_1 => absurd c_1 (by decide)) (fun c_1 => ?_)
  refine lv_aload_n hx hb dX6_readOperand_8 rfl (lv_at hl 0 rfl) ?_
  refine va_get (D := D) (ci := 6) (v := .int 0) (C := RX6) (T := TX6) (N := 8) hx hb htb iX6 hown hK.1 hP 0 rfl rfl 5 (by decide) (htb _ k_163) (fun _ h9 => h9) rfl dX6_readOperand_9 ?_
  refine lv_iconst (v := 3) hx hb dX6_readOperand_12 (by decide) ?_
  refine lv_icmp_ne (tgt := 37) hx hb dX6_readOperand_13 (by decide) (fun c_2 => ?_) (fun c_2 => absurd c_2 (by decide))
  refine lv_aload_n hx hb dX6_readOperand_37 rfl (lv_at hl 0 rfl) ?_
  refine va_get (D := D) (ci := 6) (v := .int 0) (C := RX6) (T := TX6) (N := 8) hx hb htb iX6 hown hK.1 hP 0 rfl rfl 5 (by decide) (htb _ k_163) (fun _ h9 => h9) rfl dX6_readOperand_38 ?_
  refine lv_bipush (v := 40) hx hb dX6_readOperand_41 (by decide) ?_
  refine lv_icmp_eq (tgt := 64) hx hb dX6_readOperand_43 (by decide) (fun c_3 => absurd c_3 (by decide)) (fun c_3 => ?_)
  refine lv_aload_n hx hb dX6_readOperand_46 rfl (lv_at hl 0 rfl) ?_
  refine va_get (D := D) (ci := 6) (v := .int 0) (C := RX6) (T := TX6) (N := 8) hx hb htb iX6 hown hK.1 hP 0 rfl rfl 5 (by decide) (htb _ k_163) (fun _ h9 => h9) rfl dX6_readOperand_47 ?_
  refine lv_bipush (v := 7) hx hb dX6_readOperand_50 (by decide) ?_
  refine lv_icmp_eq (tgt := 64) hx hb dX6_readOperand_52 (by decide) (fun c_4 => absurd c_4 (by decide)) (fun c_4 => ?_)
  refine lv_aload_n hx hb dX6_readOperand_55 rfl (lv_at hl 0 rfl) ?_
  refine va_get (D := D) (ci := 6) (v := .int 0) (C := RX6) (T := TX6) (N := 8) hx hb htb iX6 hown hK.1 hP 0 rfl rfl 5 (by decide) (htb _ k_163) (fun _ h9 => h9) rfl dX6_readOperand_56 ?_
  refine lv_bipush (v := 45) hx hb dX6_readOperand_59 (by decide) ?_
  refine lv_icmp_ne (tgt := 70) hx hb dX6_readOperand_61 (by decide) (fun c_5 => ?_) (fun c_5 => absurd c_5 (by decide))
  refine lv_iconst (v := 0) hx hb dX6_readOperand_70 (by decide) ?_
  exact W.zret (v := 0) hx hb hr rfl (fun t ht hW => ⟨0, rfl, ⟨rfl, trivial⟩, ht⟩) (fun q h => by cases h) dX6_readOperand_71
set_option maxHeartbeats 4000000 in
set_option maxRecDepth 100000 in
theorem c_X6_readProduct (l : Launch) (D : va_G) (E : Nat → Nat) (h0 : Nat) (q1 : Nat) (q2 : Nat) (q3 : Nat) (p0 : Int32)  : Met l yX6_readProduct (wl yX6_readProduct cX6_readProduct 5 (some .boolean)) (RM 1 0 0) (rd_P D E [.ref h0, .int p0] [(h0, .inr (6, [.ref q1, .int 0, .ref q2, .ref q3, .int 0, .int 0, .int 0, .int 0]))]) (rd_Q (fun r => (r = 0 ∧ True))) 0 0 (fun _ => False) := by
  refine Met.ofW (cc := cX6_readProduct) (maxL := 5) (ret := (some .boolean)) (by decide) rfl ?_
  intro p e s m args below meth c s₁ B hml hv
  obtain ⟨rfl, hP, hK⟩ := hv
  have hx := B.exec
  have hb := B.bytes
  have hr := B.returns
  have hts := atoms_spec (ws := wl yX6_readProduct cX6_readProduct 5 (some .boolean)) B.pre
  have htb : ∀ w ∈ tb, w.before _ s = true := fun w h => hts w (List.mem_cons_of_mem _ h)
  have hown : s.vm.findClass RX6 = some m.cls := findClass_of_methodNamed B.named
  have hlocks := B.notSynchronized
  have hP : va_P D vwCl [(h0, .inr (6, [.ref q1, .int 0, .ref q2, .ref q3, .int 0, .int 0, .int 0, .int 0]))] s.heap := hP
  have hl := lv_entry ([.ref h0, .int p0]) (n := 5) (Nat.le_of_ble_eq_true rfl)
  rw [lg_entry_eq]
  generalize (lg_sl ([.ref h0, .int p0]) ++ List.replicate (5 - (lg_sl ([.ref h0, .int p0])).length) Slot.unset).toArray = ls at hl ⊢
  have hl : lv_has ls 5 [(0, .ref h0), (1, .int p0)] := hl
  have lo_p0 := i_lo p0
  have hi_p0 := i_hi p0
  refine lv_aload_n hx hb dX6_readProduct_0 rfl (lv_at hl 0 rfl) ?_
  refine lv_iload_n hx hb dX6_readProduct_1 rfl (lv_at hl 1 rfl) ?_
  refine callRV (rest := []) (As := [.int p0]) hx hb hml hown htb hK (c_X6_readOperand l D E h0 q1 q2 q3 p0 ) ok_X6_readOperand k_692 k_694 ks_22 k_5 k_695 ⟨(Nat.le_of_ble_eq_true rfl), (Nat.le_of_ble_eq_true rfl)⟩ ⟨(Nat.le_of_ble_eq_true rfl), (Nat.le_of_ble_eq_true rfl)⟩ hl.1 (Nat.le_of_ble_eq_true rfl) rfl rfl dX6_readProduct_2 (hP.sub (ws' := [(h0, .inr (6, [.ref q1, .int 0, .ref q2, .ref q3, .int 0, .int 0, .int 0, .int 0]))]) [0] rfl) rfl rfl 0 rfl (fun r_2 hw_1 => ?_)
  obtain ⟨hr_2, hw_1⟩ := hw_1
  refine W_top (y := .int 0) (by rw [hr_2]) ?_
  refine lv_istore_n (lv' := [(2, .int 0), (0, .ref h0), (1, .int p0)]) hx hb dX6_readProduct_5 rfl hl (by decide) rfl (fun ls hl => ?_)
  refine lv_iconst (v := 0) hx hb dX6_readProduct_6 (by decide) ?_
  refine lv_istore_n (lv' := [(3, .int 0), (2, .int 0), (0, .ref h0), (1, .int p0)]) hx hb dX6_readProduct_7 rfl hl (by decide) rfl (fun ls hl => ?_)
  refine lv_iload_n hx hb dX6_readProduct_8 rfl (lv_at hl 0 rfl) ?_
  refine lv_bipush (v := 120) hx hb dX6_readProduct_9 (by decide) ?_
  refine lv_icmp_ge (tgt := 68) hx hb dX6_readProduct_11 (by decide) (fun c_3 => absurd c_3 (by decide)) (fun c_3 => ?_)
  refine lv_iload_n hx hb dX6_readProduct_14 rfl (lv_at hl 1 rfl) ?_
  refine lv_if_eq (tgt := 68) hx hb dX6_readProduct_15 (by decide) (fun c_4 => ?_) (fun c_4 => absurd (by decide) c_4)
  refine lv_iload_n hx hb dX6_readProduct_68 rfl (lv_at hl 1 rfl) ?_
  exact W.zret (v := 0) hx hb hr rfl (fun t ht hW => ⟨0, rfl, ⟨rfl, trivial⟩, ht⟩) (fun q h => by cases h) dX6_readProduct_69
set_option maxHeartbeats 4000000 in
set_option maxRecDepth 100000 in
theorem c_X6_readSum (l : Launch) (D : va_G) (E : Nat → Nat) (h0 : Nat) (q1 : Nat) (q2 : Nat) (q3 : Nat) (p0 : Int32)  : Met l yX6_readSum (wl yX6_readSum cX6_readSum 5 (some .boolean)) (RM 2 0 0) (rd_P D E [.ref h0, .int p0] [(h0, .inr (6, [.ref q1, .int 0, .ref q2, .ref q3, .int 0, .int 0, .int 0, .int 0]))]) (rd_Q (fun r => (r = 0 ∧ True))) 0 0 (fun _ => False) := by
  refine Met.ofW (cc := cX6_readSum) (maxL := 5) (ret := (some .boolean)) (by decide) rfl ?_
  intro p e s m args below meth c s₁ B hml hv
  obtain ⟨rfl, hP, hK⟩ := hv
  have hx := B.exec
  have hb := B.bytes
  have hr := B.returns
  have hts := atoms_spec (ws := wl yX6_readSum cX6_readSum 5 (some .boolean)) B.pre
  have htb : ∀ w ∈ tb, w.before _ s = true := fun w h => hts w (List.mem_cons_of_mem _ h)
  have hown : s.vm.findClass RX6 = some m.cls := findClass_of_methodNamed B.named
  have hlocks := B.notSynchronized
  have hP : va_P D vwCl [(h0, .inr (6, [.ref q1, .int 0, .ref q2, .ref q3, .int 0, .int 0, .int 0, .int 0]))] s.heap := hP
  have hl := lv_entry ([.ref h0, .int p0]) (n := 5) (Nat.le_of_ble_eq_true rfl)
  rw [lg_entry_eq]
  generalize (lg_sl ([.ref h0, .int p0]) ++ List.replicate (5 - (lg_sl ([.ref h0, .int p0])).length) Slot.unset).toArray = ls at hl ⊢
  have hl : lv_has ls 5 [(0, .ref h0), (1, .int p0)] := hl
  have lo_p0 := i_lo p0
  have hi_p0 := i_hi p0
  refine lv_aload_n hx hb dX6_readSum_0 rfl (lv_at hl 0 rfl) ?_
  refine lv_iload_n hx hb dX6_readSum_1 rfl (lv_at hl 1 rfl) ?_
  refine callRV (rest := []) (As := [.int p0]) hx hb hml hown htb hK (c_X6_readProduct l D E h0 q1 q2 q3 p0 ) ok_X6_readProduct k_688 k_690 ks_21 k_5 k_691 ⟨(Nat.le_of_ble_eq_true rfl), (Nat.le_of_ble_eq_true rfl)⟩ ⟨(Nat.le_of_ble_eq_true rfl), (Nat.le_of_ble_eq_true rfl)⟩ hl.1 (Nat.le_of_ble_eq_true rfl) rfl rfl dX6_readSum_2 (hP.sub (ws' := [(h0, .inr (6, [.ref q1, .int 0, .ref q2, .ref q3, .int 0, .int 0, .int 0, .int 0]))]) [0] rfl) rfl rfl 0 rfl (fun r_2 hw_1 => ?_)
  obtain ⟨hr_2, hw_1⟩ := hw_1
  refine W_top (y := .int 0) (by rw [hr_2]) ?_
  refine lv_istore_n (lv' := [(2, .int 0), (0, .ref h0), (1, .int p0)]) hx hb dX6_readSum_5 rfl hl (by decide) rfl (fun ls hl => ?_)
  refine lv_iconst (v := 0) hx hb dX6_readSum_6 (by decide) ?_
  refine lv_istore_n (lv' := [(3, .int 0), (2, .int 0), (0, .ref h0), (1, .int p0)]) hx hb dX6_readSum_7 rfl hl (by decide) rfl (fun ls hl => ?_)
  refine lv_iload_n hx hb dX6_readSum_8 rfl (lv_at hl 0 rfl) ?_
  refine lv_bipush (v := 120) hx hb dX6_readSum_9 (by decide) ?_
  refine lv_icmp_ge (tgt := 68) hx hb dX6_readSum_11 (by decide) (fun c_3 => absurd c_3 (by decide)) (fun c_3 => ?_)
  refine lv_iload_n hx hb dX6_readSum_14 rfl (lv_at hl 1 rfl) ?_
  refine lv_if_eq (tgt := 68) hx hb dX6_readSum_15 (by decide) (fun c_4 => ?_) (fun c_4 => absurd (by decide) c_4)
  refine lv_iload_n hx hb dX6_readSum_68 rfl (lv_at hl 1 rfl) ?_
  exact W.zret (v := 0) hx hb hr rfl (fun t ht hW => ⟨0, rfl, ⟨rfl, trivial⟩, ht⟩) (fun q h => by cases h) dX6_readSum_69
set_option maxHeartbeats 4000000 in
set_option maxRecDepth 100000 in
theorem c_X6_readComparison (l : Launch) (D : va_G) (E : Nat → Nat) (h0 : Nat) (q1 : Nat) (q2 : Nat) (q3 : Nat) (p0 : Int32)  : Met l yX6_readComparison (wl yX6_readComparison cX6_readComparison 4 (some .boolean)) (RM 3 0 0) (rd_P D E [.ref h0, .int p0] [(h0, .inr (6, [.ref q1, .int 0, .ref q2, .ref q3, .int 0, .int 0, .int 0, .int 0]))]) (rd_Q (fun r => (r = 0 ∧ True))) 0 0 (fun _ => False) := by
  refine Met.ofW (cc := cX6_readComparison) (maxL := 4) (ret := (some .boolean)) (by decide) rfl ?_
  intro p e s m args below meth c s₁ B hml hv
  obtain ⟨rfl, hP, hK⟩ := hv
  have hx := B.exec
  have hb := B.bytes
  have hr := B.returns
  have hts := atoms_spec (ws := wl yX6_readComparison cX6_readComparison 4 (some .boolean)) B.pre
  have htb : ∀ w ∈ tb, w.before _ s = true := fun w h => hts w (List.mem_cons_of_mem _ h)
  have hown : s.vm.findClass RX6 = some m.cls := findClass_of_methodNamed B.named
  have hlocks := B.notSynchronized
  have hP : va_P D vwCl [(h0, .inr (6, [.ref q1, .int 0, .ref q2, .ref q3, .int 0, .int 0, .int 0, .int 0]))] s.heap := hP
  have hl := lv_entry ([.ref h0, .int p0]) (n := 4) (Nat.le_of_ble_eq_true rfl)
  rw [lg_entry_eq]
  generalize (lg_sl ([.ref h0, .int p0]) ++ List.replicate (4 - (lg_sl ([.ref h0, .int p0])).length) Slot.unset).toArray = ls at hl ⊢
  have hl : lv_has ls 4 [(0, .ref h0), (1, .int p0)] := hl
  have lo_p0 := i_lo p0
  have hi_p0 := i_hi p0
  refine lv_aload_n hx hb dX6_readComparison_0 rfl (lv_at hl 0 rfl) ?_
  refine lv_iload_n hx hb dX6_readComparison_1 rfl (lv_at hl 1 rfl) ?_
  refine callRV (rest := []) (As := [.int p0]) hx hb hml hown htb hK (c_X6_readSum l D E h0 q1 q2 q3 p0 ) ok_X6_readSum k_684 k_686 ks_20 k_5 k_687 ⟨(Nat.le_of_ble_eq_true rfl), (Nat.le_of_ble_eq_true rfl)⟩ ⟨(Nat.le_of_ble_eq_true rfl), (Nat.le_of_ble_eq_true rfl)⟩ hl.1 (Nat.le_of_ble_eq_true rfl) rfl rfl dX6_readComparison_2 (hP.sub (ws' := [(h0, .inr (6, [.ref q1, .int 0, .ref q2, .ref q3, .int 0, .int 0, .int 0, .int 0]))]) [0] rfl) rfl rfl 0 rfl (fun r_2 hw_1 => ?_)
  obtain ⟨hr_2, hw_1⟩ := hw_1
  refine W_top (y := .int 0) (by rw [hr_2]) ?_
  refine lv_istore_n (lv' := [(2, .int 0), (0, .ref h0), (1, .int p0)]) hx hb dX6_readComparison_5 rfl hl (by decide) rfl (fun ls hl => ?_)
  refine lv_iload_n hx hb dX6_readComparison_6 rfl (lv_at hl 0 rfl) ?_
  refine lv_if_eq (tgt := 61) hx hb dX6_readComparison_7 (by decide) (fun c_3 => ?_) (fun c_3 => absurd (by decide) c_3)
  refine lv_iload_n hx hb dX6_readComparison_61 rfl (lv_at hl 0 rfl) ?_
  exact W.zret (v := 0) hx hb hr rfl (fun t ht hW => ⟨0, rfl, ⟨rfl, trivial⟩, ht⟩) (fun q h => by cases h) dX6_readComparison_62
set_option maxHeartbeats 4000000 in
set_option maxRecDepth 100000 in
theorem c_X6_readNegation (l : Launch) (D : va_G) (E : Nat → Nat) (h0 : Nat) (q1 : Nat) (q2 : Nat) (q3 : Nat) (p0 : Int32)  : Met l yX6_readNegation (wl yX6_readNegation cX6_readNegation 3 (some .boolean)) (RM 4 0 0) (rd_P D E [.ref h0, .int p0] [(h0, .inr (6, [.ref q1, .int 0, .ref q2, .ref q3, .int 0, .int 0, .int 0, .int 0]))]) (rd_Q (fun r => (r = 0 ∧ True))) 0 0 (fun _ => False) := by
  refine Met.ofW (cc := cX6_readNegation) (maxL := 3) (ret := (some .boolean)) (by decide) rfl ?_
  intro p e s m args below meth c s₁ B hml hv
  obtain ⟨rfl, hP, hK⟩ := hv
  have hx := B.exec
  have hb := B.bytes
  have hr := B.returns
  have hts := atoms_spec (ws := wl yX6_readNegation cX6_readNegation 3 (some .boolean)) B.pre
  have htb : ∀ w ∈ tb, w.before _ s = true := fun w h => hts w (List.mem_cons_of_mem _ h)
  have hown : s.vm.findClass RX6 = some m.cls := findClass_of_methodNamed B.named
  have hlocks := B.notSynchronized
  have hP : va_P D vwCl [(h0, .inr (6, [.ref q1, .int 0, .ref q2, .ref q3, .int 0, .int 0, .int 0, .int 0]))] s.heap := hP
  have hl := lv_entry ([.ref h0, .int p0]) (n := 3) (Nat.le_of_ble_eq_true rfl)
  rw [lg_entry_eq]
  generalize (lg_sl ([.ref h0, .int p0]) ++ List.replicate (3 - (lg_sl ([.ref h0, .int p0])).length) Slot.unset).toArray = ls at hl ⊢
  have hl : lv_has ls 3 [(0, .ref h0), (1, .int p0)] := hl
  have lo_p0 := i_lo p0
  have hi_p0 := i_hi p0
  refine lv_aload_n hx hb dX6_readNegation_0 rfl (lv_at hl 0 rfl) ?_
  refine va_get (D := D) (ci := 6) (v := .int 0) (C := RX6) (T := TX6) (N := 8) hx hb htb iX6 hown hK.1 hP 0 rfl rfl 5 (by decide) (htb _ k_163) (fun _ h9 => h9) rfl dX6_readNegation_1 ?_
  refine lv_bipush (v := 6) hx hb dX6_readNegation_4 (by decide) ?_
  refine lv_icmp_eq (tgt := 15) hx hb dX6_readNegation_6 (by decide) (fun c_1 => absurd c_1 (by decide)) (fun c_1 => ?_)
  refine lv_aload_n hx hb dX6_readNegation_9 rfl (lv_at hl 0 rfl) ?_
  refine lv_iload_n hx hb dX6_readNegation_10 rfl (lv_at hl 1 rfl) ?_
  refine callRV (rest := []) (As := [.int p0]) hx hb hml hown htb hK (c_X6_readComparison l D E h0 q1 q2 q3 p0 ) ok_X6_readComparison k_680 k_682 ks_19 k_5 k_683 ⟨(Nat.le_of_ble_eq_true rfl), (Nat.le_of_ble_eq_true rfl)⟩ ⟨(Nat.le_of_ble_eq_true rfl), (Nat.le_of_ble_eq_true rfl)⟩ hl.1 (Nat.le_of_ble_eq_true rfl) rfl rfl dX6_readNegation_11 (hP.sub (ws' := [(h0, .inr (6, [.ref q1, .int 0, .ref q2, .ref q3, .int 0, .int 0, .int 0, .int 0]))]) [0] rfl) rfl rfl 0 rfl (fun r_3 hw_2 => ?_)
  obtain ⟨hr_3, hw_2⟩ := hw_2
  refine W_top (y := .int 0) (by rw [hr_3]) ?_
  exact W.zret (v := 0) hx hb hr rfl (fun t ht hW => ⟨0, rfl, ⟨rfl, trivial⟩, ht⟩) (fun q h => by cases h) dX6_readNegation_14
set_option maxHeartbeats 4000000 in
set_option maxRecDepth 100000 in
theorem c_X6_readBoth (l : Launch) (D : va_G) (E : Nat → Nat) (h0 : Nat) (q1 : Nat) (q2 : Nat) (q3 : Nat) (p0 : Int32)  : Met l yX6_readBoth (wl yX6_readBoth cX6_readBoth 4 (some .boolean)) (RM 5 0 0) (rd_P D E [.ref h0, .int p0] [(h0, .inr (6, [.ref q1, .int 0, .ref q2, .ref q3, .int 0, .int 0, .int 0, .int 0]))]) (rd_Q (fun r => (r = 0 ∧ True))) 0 0 (fun _ => False) := by
  refine Met.ofW (cc := cX6_readBoth) (maxL := 4) (ret := (some .boolean)) (by decide) rfl ?_
  intro p e s m args below meth c s₁ B hml hv
  obtain ⟨rfl, hP, hK⟩ := hv
  have hx := B.exec
  have hb := B.bytes
  have hr := B.returns
  have hts := atoms_spec (ws := wl yX6_readBoth cX6_readBoth 4 (some .boolean)) B.pre
  have htb : ∀ w ∈ tb, w.before _ s = true := fun w h => hts w (List.mem_cons_of_mem _ h)
  have hown : s.vm.findClass RX6 = some m.cls := findClass_of_methodNamed B.named
  have hlocks := B.notSynchronized
  have hP : va_P D vwCl [(h0, .inr (6, [.ref q1, .int 0, .ref q2, .ref q3, .int 0, .int 0, .int 0, .int 0]))] s.heap := hP
  have hl := lv_entry ([.ref h0, .int p0]) (n := 4) (Nat.le_of_ble_eq_true rfl)
  rw [lg_entry_eq]
  generalize (lg_sl ([.ref h0, .int p0]) ++ List.replicate (4 - (lg_sl ([.ref h0, .int p0])).length) Slot.unset).toArray = ls at hl ⊢
  have hl : lv_has ls 4 [(0, .ref h0), (1, .int p0)] := hl
  have lo_p0 := i_lo p0
  have hi_p0 := i_hi p0
  refine lv_aload_n hx hb dX6_readBoth_0 rfl (lv_at hl 0 rfl) ?_
  refine lv_iload_n hx hb dX6_readBoth_1 rfl (lv_at hl 1 rfl) ?_
  refine callRV (rest := []) (As := [.int p0]) hx hb hml hown htb hK (c_X6_readNegation l D E h0 q1 q2 q3 p0 ) ok_X6_readNegation k_676 k_678 ks_18 k_5 k_679 ⟨(Nat.le_of_ble_eq_true rfl), (Nat.le_of_ble_eq_true rfl)⟩ ⟨(Nat.le_of_ble_eq_true rfl), (Nat.le_of_ble_eq_true rfl)⟩ hl.1 (Nat.le_of_ble_eq_true rfl) rfl rfl dX6_readBoth_2 (hP.sub (ws' := [(h0, .inr (6, [.ref q1, .int 0, .ref q2, .ref q3, .int 0, .int 0, .int 0, .int 0]))]) [0] rfl) rfl rfl 0 rfl (fun r_2 hw_1 => ?_)
  obtain ⟨hr_2, hw_1⟩ := hw_1
  refine W_top (y := .int 0) (by rw [hr_2]) ?_
  refine lv_istore_n (lv' := [(2, .int 0), (0, .ref h0), (1, .int p0)]) hx hb dX6_readBoth_5 rfl hl (by decide) rfl (fun ls hl => ?_)
  refine lv_iconst (v := 0) hx hb dX6_readBoth_6 (by decide) ?_
  refine lv_istore_n (lv' := [(3, .int 0), (2, .int 0), (0, .ref h0), (1, .int p0)]) hx hb dX6_readBoth_7 rfl hl (by decide) rfl (fun ls hl => ?_)
  refine lv_iload_n hx hb dX6_readBoth_8 rfl (lv_at hl 0 rfl) ?_
  refine lv_bipush (v := 120) hx hb dX6_readBoth_9 (by decide) ?_
  refine lv_icmp_ge (tgt := 51) hx hb dX6_readBoth_11 (by decide) (fun c_3 => absurd c_3 (by decide)) (fun c_3 => ?_)
  refine lv_iload_n hx hb dX6_readBoth_14 rfl (lv_at hl 1 rfl) ?_
  refine lv_if_eq (tgt := 51) hx hb dX6_readBoth_15 (by decide) (fun c_4 => ?_) (fun c_4 => absurd (by decide) c_4)
  refine lv_iload_n hx hb dX6_readBoth_51 rfl (lv_at hl 1 rfl) ?_
  exact W.zret (v := 0) hx hb hr rfl (fun t ht hW => ⟨0, rfl, ⟨rfl, trivial⟩, ht⟩) (fun q h => by cases h) dX6_readBoth_52
set_option maxHeartbeats 4000000 in
set_option maxRecDepth 100000 in
theorem c_X6_readEither (l : Launch) (D : va_G) (E : Nat → Nat) (h0 : Nat) (q1 : Nat) (q2 : Nat) (q3 : Nat) (p0 : Int32)  : Met l yX6_readEither (wl yX6_readEither cX6_readEither 4 (some .boolean)) (RM 6 0 0) (rd_P D E [.ref h0, .int p0] [(h0, .inr (6, [.ref q1, .int 0, .ref q2, .ref q3, .int 0, .int 0, .int 0, .int 0]))]) (rd_Q (fun r => (r = 0 ∧ True))) 0 0 (fun _ => False) := by
  refine Met.ofW (cc := cX6_readEither) (maxL := 4) (ret := (some .boolean)) (by decide) rfl ?_
  intro p e s m args below meth c s₁ B hml hv
  obtain ⟨rfl, hP, hK⟩ := hv
  have hx := B.exec
  have hb := B.bytes
  have hr := B.returns
  have hts := atoms_spec (ws := wl yX6_readEither cX6_readEither 4 (some .boolean)) B.pre
  have htb : ∀ w ∈ tb, w.before _ s = true := fun w h => hts w (List.mem_cons_of_mem _ h)
  have hown : s.vm.findClass RX6 = some m.cls := findClass_of_methodNamed B.named
  have hlocks := B.notSynchronized
  have hP : va_P D vwCl [(h0, .inr (6, [.ref q1, .int 0, .ref q2, .ref q3, .int 0, .int 0, .int 0, .int 0]))] s.heap := hP
  have hl := lv_entry ([.ref h0, .int p0]) (n := 4) (Nat.le_of_ble_eq_true rfl)
  rw [lg_entry_eq]
  generalize (lg_sl ([.ref h0, .int p0]) ++ List.replicate (4 - (lg_sl ([.ref h0, .int p0])).length) Slot.unset).toArray = ls at hl ⊢
  have hl : lv_has ls 4 [(0, .ref h0), (1, .int p0)] := hl
  have lo_p0 := i_lo p0
  have hi_p0 := i_hi p0
  refine lv_aload_n hx hb dX6_readEither_0 rfl (lv_at hl 0 rfl) ?_
  refine lv_iload_n hx hb dX6_readEither_1 rfl (lv_at hl 1 rfl) ?_
  refine callRV (rest := []) (As := [.int p0]) hx hb hml hown htb hK (c_X6_readBoth l D E h0 q1 q2 q3 p0 ) ok_X6_readBoth k_672 k_674 ks_17 k_5 k_675 ⟨(Nat.le_of_ble_eq_true rfl), (Nat.le_of_ble_eq_true rfl)⟩ ⟨(Nat.le_of_ble_eq_true rfl), (Nat.le_of_ble_eq_true rfl)⟩ hl.1 (Nat.le_of_ble_eq_true rfl) rfl rfl dX6_readEither_2 (hP.sub (ws' := [(h0, .inr (6, [.ref q1, .int 0, .ref q2, .ref q3, .int 0, .int 0, .int 0, .int 0]))]) [0] rfl) rfl rfl 0 rfl (fun r_2 hw_1 => ?_)
  obtain ⟨hr_2, hw_1⟩ := hw_1
  refine W_top (y := .int 0) (by rw [hr_2]) ?_
  refine lv_istore_n (lv' := [(2, .int 0), (0, .ref h0), (1, .int p0)]) hx hb dX6_readEither_5 rfl hl (by decide) rfl (fun ls hl => ?_)
  refine lv_iconst (v := 0) hx hb dX6_readEither_6 (by decide) ?_
  refine lv_istore_n (lv' := [(3, .int 0), (2, .int 0), (0, .ref h0), (1, .int p0)]) hx hb dX6_readEither_7 rfl hl (by decide) rfl (fun ls hl => ?_)
  refine lv_iload_n hx hb dX6_readEither_8 rfl (lv_at hl 0 rfl) ?_
  refine lv_bipush (v := 120) hx hb dX6_readEither_9 (by decide) ?_
  refine lv_icmp_ge (tgt := 51) hx hb dX6_readEither_11 (by decide) (fun c_3 => absurd c_3 (by decide)) (fun c_3 => ?_)
  refine lv_iload_n hx hb dX6_readEither_14 rfl (lv_at hl 1 rfl) ?_
  refine lv_if_eq (tgt := 51) hx hb dX6_readEither_15 (by decide) (fun c_4 => ?_) (fun c_4 => absurd (by decide) c_4)
  refine lv_iload_n hx hb dX6_readEither_51 rfl (lv_at hl 1 rfl) ?_
  exact W.zret (v := 0) hx hb hr rfl (fun t ht hW => ⟨0, rfl, ⟨rfl, trivial⟩, ht⟩) (fun q h => by cases h) dX6_readEither_52
set_option maxHeartbeats 4000000 in
set_option maxRecDepth 100000 in
theorem c_X6_goOn (l : Launch) (D : va_G) (E : Nat → Nat) (h0 : Nat) (q1 : Nat) (q2 : Nat) (q3 : Nat) (sz : Nat)  : Met l yX6_goOn (wl yX6_goOn cX6_goOn 1 none) (RM 0 0 0) (mu_P D E [.ref h0] [(h0, .inr (6, [.ref q1, .int 0, .ref q2, .ref q3, .int 0, .int 0, .int 0, .int 0]))] sz) (va_Qv (fun (u : Unit) => True) (mu_B D (va_A [(h0, .inr (6, [.ref q1, .int 0, .ref q2, .ref q3, .int 0, .int 0, .int 0, .int 0]))] sz) (fun (u : Unit) => [(h0, .inr (6, [.ref q1, .int 0, .ref q2, .ref q3, .int 0, .int 0, .int 0, .int 0]))])) (va_A [(h0, .inr (6, [.ref q1, .int 0, .ref q2, .ref q3, .int 0, .int 0, .int 0, .int 0]))] sz)) 0 0 (va_A [(h0, .inr (6, [.ref q1, .int 0, .ref q2, .ref q3, .int 0, .int 0, .int 0, .int 0]))] sz) := by
  refine Met.ofW (cc := cX6_goOn) (maxL := 1) (ret := none) (by decide) rfl ?_
  intro p e s m args below meth c s₁ B hml hv
  obtain ⟨rfl, hsz, hP, hK, hD0⟩ := hv
  have hx := B.exec
  have hb := B.bytes
  have hr := B.returns
  have hts := atoms_spec (ws := wl yX6_goOn cX6_goOn 1 none) B.pre
  have htb : ∀ w ∈ tb, w.before _ s = true := fun w h => hts w (List.mem_cons_of_mem _ h)
  have hown : s.vm.findClass RX6 = some m.cls := findClass_of_methodNamed B.named
  have hlocks := B.notSynchronized
  subst hsz
  have hD := hD0.self (sz := s.heap.size)
  generalize hAe : va_A [(h0, .inr (6, [.ref q1, .int 0, .ref q2, .ref q3, .int 0, .int 0, .int 0, .int 0]))] s.heap.size = A at hD ⊢
  have hA : ∀ q : Nat, s.heap.size ≤ q → A q := fun q h => by rw [← hAe]; exact Or.inr h
  have hS : va_S A s.heap s.heap [] := va_S.rf
  have hP : va_P D vwCl [(h0, .inr (6, [.ref q1, .int 0, .ref q2, .ref q3, .int 0, .int 0, .int 0, .int 0]))] s.heap := hP
  have hl := lv_entry ([.ref h0]) (n := 1) (Nat.le_of_ble_eq_true rfl)
  rw [lg_entry_eq]
  generalize (lg_sl ([.ref h0]) ++ List.replicate (1 - (lg_sl ([.ref h0])).length) Slot.unset).toArray = ls at hl ⊢
  have hl : lv_has ls 1 [(0, .ref h0)] := hl
  refine lv_aload_n hx hb dX6_goOn_0 rfl (lv_at hl 0 rfl) ?_
  refine va_get (D := D) (ci := 6) (v := .int 0) (C := RX6) (T := TX6) (N := 8) hx hb htb iX6 hown hK.1 hP 0 rfl rfl 4 (by decide) (htb _ k_162) (fun _ h9 => h9) rfl dX6_goOn_1 ?_
  refine lv_aload_n hx hb dX6_goOn_4 rfl (lv_at hl 0 rfl) ?_
  refine va_get (D := D) (ci := 6) (v := .int 0) (C := RX6) (T := TX6) (N := 8) hx hb htb iX6 hown hK.1 hP 0 rfl rfl 1 (by decide) (htb _ k_158) (fun _ h9 => h9) rfl dX6_goOn_5 ?_
  refine lv_icmp_ge (tgt := 38) hx hb dX6_goOn_8 (by decide) (fun c_1 => ?_) (fun c_1 => absurd (by decide) c_1)
  refine lv_aload_n hx hb dX6_goOn_38 rfl (lv_at hl 0 rfl) ?_
  refine lv_aload_n hx hb dX6_goOn_39 rfl (lv_at hl 0 rfl) ?_
  refine va_get (D := D) (ci := 6) (v := .int 0) (C := RX6) (T := TX6) (N := 8) hx hb htb iX6 hown hK.1 hP 0 rfl rfl 4 (by decide) (htb _ k_162) (fun _ h9 => h9) rfl dX6_goOn_40 ?_
  refine va_put (D := D) (ci := 6) (v := .int 0) (ty := .int) (C := RX6) (T := TX6) (N := 8) hx hb htb iX6 tyX6 tyX6_ok nmX6 hown hK.1 hP hD hS 0 rfl rfl 6 (by decide) (htb _ k_164) (fun _ h9 => h9) rfl (by decide +kernel) rfl rfl (Nat.le_of_ble_eq_true rfl) dX6_goOn_43 (fun H locs hP hD hS => ?_)
  have hP : va_P D vwCl [(h0, .inr (6, [.ref q1, .int 0, .ref q2, .ref q3, .int 0, .int 0, .int 0, .int 0]))] H := hP
  have hD : va_D A [(h0, .inr (6, [.ref q1, .int 0, .ref q2, .ref q3, .int 0, .int 0, .int 0, .int 0]))] := hD
  refine lv_aload_n hx hb dX6_goOn_46 rfl (lv_at hl 0 rfl) ?_
  refine va_get (D := D) (ci := 6) (v := .int 0) (C := RX6) (T := TX6) (N := 8) hx hb htb iX6 hown hK.1 hP 0 rfl rfl 4 (by decide) (htb _ k_162) (fun _ h9 => h9) rfl dX6_goOn_47 ?_
  refine lv_aload_n hx hb dX6_goOn_50 rfl (lv_at hl 0 rfl) ?_
  refine va_get (D := D) (ci := 6) (v := .int 0) (C := RX6) (T := TX6) (N := 8) hx hb htb iX6 hown hK.1 hP 0 rfl rfl 1 (by decide) (htb _ k_158) (fun _ h9 => h9) rfl dX6_goOn_51 ?_
  refine lv_icmp_lt (tgt := 65) hx hb dX6_goOn_54 (by decide) (fun c_2 => absurd c_2 (by decide)) (fun c_2 => ?_)
  refine lv_aload_n hx hb dX6_goOn_57 rfl (lv_at hl 0 rfl) ?_
  refine lv_iconst (v := 0) hx hb dX6_goOn_58 (by decide) ?_
  refine va_put (D := D) (ci := 6) (v := .int 0) (ty := .int) (C := RX6) (T := TX6) (N := 8) hx hb htb iX6 tyX6 tyX6_ok nmX6 hown hK.1 hP hD hS 0 rfl rfl 5 (by decide) (htb _ k_163) (fun _ h9 => h9) rfl (by decide +kernel) rfl rfl (Nat.le_of_ble_eq_true rfl) dX6_goOn_59 (fun H locs hP hD hS => ?_)
  have hP : va_P D vwCl [(h0, .inr (6, [.ref q1, .int 0, .ref q2, .ref q3, .int 0, .int 0, .int 0, .int 0]))] H := hP
  have hD : va_D A [(h0, .inr (6, [.ref q1, .int 0, .ref q2, .ref q3, .int 0, .int 0, .int 0, .int 0]))] := hD
  refine lv_goto (tgt := 151) hx hb dX6_goOn_62 (by decide) ?_
  have hP9 := hP.sub (ws' := [(h0, .inr (6, [.ref q1, .int 0, .ref q2, .ref q3, .int 0, .int 0, .int 0, .int 0]))]) [0] rfl
  have hD9 := hD.sub (ws' := [(h0, .inr (6, [.ref q1, .int 0, .ref q2, .ref q3, .int 0, .int 0, .int 0, .int 0]))]) [0] (by decide) rfl
  exact W.vret hx hb hr (fun t ht hW => ⟨⟨(), rfl, trivial, by rw [ht]; exact hP9, hD9⟩, hS.F ht⟩) hS.2.2 dX6_goOn_151
set_option maxHeartbeats 4000000 in
set_option maxRecDepth 100000 in
theorem c_X6_readAsRule (l : Launch) (D : va_G) (E : Nat → Nat) (h0 : Nat) (q1 : Nat) (q2 : Nat) (q3 : Nat) (q4 : Nat) (r0 : Nat) (r1 : Nat) (r2 : Nat) (sz : Nat)  : Met l yX6_readAsRule (wl yX6_readAsRule cX6_readAsRule 3 (some .int)) (RM 7 0 0) (mu_P D E [.ref h0, .ref q4] [(h0, .inr (6, [.ref q1, .int 0, .ref q2, .ref q3, .int 0, .int 0, .int 0, .int 0])), (q2, .inr (4, [.ref r0, .ref r1, .ref r2, .int 0]))] sz) (va_Qi (fun (r : Int32) (u : Unit) => (r = 0 ∧ True)) (mu_B D (va_A [(h0, .inr (6, [.ref q1, .int 0, .ref q2, .ref q3, .int 0, .int 0, .int 0, .int 0])), (q2, .inr (4, [.ref r0, .ref r1, .ref r2, .int 0]))] sz) (fun (u : Unit) => [(h0, .inr (6, [.ref q1, .int 0, .ref q2, .ref q4, .int 0, .int 0, .int 0, .int 0]))])) (va_A [(h0, .inr (6, [.ref q1, .int 0, .ref q2, .ref q3, .int 0, .int 0, .int 0, .int 0])), (q2, .inr (4, [.ref r0, .ref r1, .ref r2, .int 0]))] sz)) 0 0 (va_A [(h0, .inr (6, [.ref q1, .int 0, .ref q2, .ref q3, .int 0, .int 0, .int 0, .int 0])), (q2, .inr (4, [.ref r0, .ref r1, .ref r2, .int 0]))] sz) := by
  refine Met.ofW (cc := cX6_readAsRule) (maxL := 3) (ret := (some .int)) (by decide) rfl ?_
  intro p e s m args below meth c s₁ B hml hv
  obtain ⟨rfl, hsz, hP, hK, hD0⟩ := hv
  have hx := B.exec
  have hb := B.bytes
  have hr := B.returns
  have hts := atoms_spec (ws := wl yX6_readAsRule cX6_readAsRule 3 (some .int)) B.pre
  have htb : ∀ w ∈ tb, w.before _ s = true := fun w h => hts w (List.mem_cons_of_mem _ h)
  have hown : s.vm.findClass RX6 = some m.cls := findClass_of_methodNamed B.named
  have hlocks := B.notSynchronized
  subst hsz
  have hD := hD0.self (sz := s.heap.size)
  generalize hAe : va_A [(h0, .inr (6, [.ref q1, .int 0, .ref q2, .ref q3, .int 0, .int 0, .int 0, .int 0])), (q2, .inr (4, [.ref r0, .ref r1, .ref r2, .int 0]))] s.heap.size = A at hD ⊢
  have hA : ∀ q : Nat, s.heap.size ≤ q → A q := fun q h => by rw [← hAe]; exact Or.inr h
  have hS : va_S A s.heap s.heap [] := va_S.rf
  have hP : va_P D vwCl [(h0, .inr (6, [.ref q1, .int 0, .ref q2, .ref q3, .int 0, .int 0, .int 0, .int 0])), (q2, .inr (4, [.ref r0, .ref r1, .ref r2, .int 0]))] s.heap := hP
  have hl := lv_entry ([.ref h0, .ref q4]) (n := 3) (Nat.le_of_ble_eq_true rfl)
  rw [lg_entry_eq]
  generalize (lg_sl ([.ref h0, .ref q4]) ++ List.replicate (3 - (lg_sl ([.ref h0, .ref q4])).length) Slot.unset).toArray = ls at hl ⊢
  have hl : lv_has ls 3 [(0, .ref h0), (1, .ref q4)] := hl
  refine lv_aload_n hx hb dX6_readAsRule_0 rfl (lv_at hl 0 rfl) ?_
  refine lv_aload_n hx hb dX6_readAsRule_1 rfl (lv_at hl 1 rfl) ?_
  refine va_put (D := D) (ci := 6) (v := .ref q4) (ty := .object "java/lang/String") (C := RX6) (T := TX6) (N := 8) hx hb htb iX6 tyX6 tyX6_ok nmX6 hown hK.1 hP hD hS 0 rfl rfl 3 (by decide) (htb _ k_161) (fun _ h9 => h9) rfl (by decide +kernel) rfl rfl (Nat.le_of_ble_eq_true rfl) dX6_readAsRule_2 (fun H locs hP hD hS => ?_)
  have hP : va_P D vwCl [(h0, .inr (6, [.ref q1, .int 0, .ref q2, .ref q4, .int 0, .int 0, .int 0, .int 0])), (q2, .inr (4, [.ref r0, .ref r1, .ref r2, .int 0]))] H := hP
  have hD : va_D A [(h0, .inr (6, [.ref q1, .int 0, .ref q2, .ref q4, .int 0, .int 0, .int 0, .int 0])), (q2, .inr (4, [.ref r0, .ref r1, .ref r2, .int 0]))] := hD
  refine lv_aload_n hx hb dX6_readAsRule_5 rfl (lv_at hl 0 rfl) ?_
  refine va_get (D := D) (ci := 6) (v := .ref q2) (C := RX6) (T := TX6) (N := 8) hx hb htb iX6 hown hK.1 hP 0 rfl rfl 2 (by decide) (htb _ k_160) (fun _ h9 => h9) rfl dX6_readAsRule_6 ?_
  refine lv_iconst (v := 0) hx hb dX6_readAsRule_9 (by decide) ?_
  refine va_putN (D := D) (ci := 4) (v := .int 0) (ty := .int) (C := RX4) (T := TX4) (N := 4) hx hb htb iX4 tyX4 tyX4_ok nmX4 hown hK.1 hP hD hS 1 rfl rfl 3 (by decide) (va_Nw.use rfl (hK.2.1 (Cond.fieldLinkNest RX6 44 "SeaWatches$Rule" "size" "I" "SeaWatches") (by decide +kernel))) (fun _ h9 => h9) rfl (by decide +kernel) rfl rfl (Nat.le_of_ble_eq_true rfl) dX6_readAsRule_10 (fun H locs hP hD hS => ?_)
  have hP : va_P D vwCl [(h0, .inr (6, [.ref q1, .int 0, .ref q2, .ref q4, .int 0, .int 0, .int 0, .int 0])), (q2, .inr (4, [.ref r0, .ref r1, .ref r2, .int 0]))] H := hP
  have hD : va_D A [(h0, .inr (6, [.ref q1, .int 0, .ref q2, .ref q4, .int 0, .int 0, .int 0, .int 0])), (q2, .inr (4, [.ref r0, .ref r1, .ref r2, .int 0]))] := hD
  refine lv_aload_n hx hb dX6_readAsRule_13 rfl (lv_at hl 0 rfl) ?_
  refine lv_iconst (v := 0) hx hb dX6_readAsRule_14 (by decide) ?_
  refine va_put (D := D) (ci := 6) (v := .int 0) (ty := .int) (C := RX6) (T := TX6) (N := 8) hx hb htb iX6 tyX6 tyX6_ok nmX6 hown hK.1 hP hD hS 0 rfl rfl 4 (by decide) (htb _ k_162) (fun _ h9 => h9) rfl (by decide +kernel) rfl rfl (Nat.le_of_ble_eq_true rfl) dX6_readAsRule_15 (fun H locs hP hD hS => ?_)
  have hP : va_P D vwCl [(h0, .inr (6, [.ref q1, .int 0, .ref q2, .ref q4, .int 0, .int 0, .int 0, .int 0])), (q2, .inr (4, [.ref r0, .ref r1, .ref r2, .int 0]))] H := hP
  have hD : va_D A [(h0, .inr (6, [.ref q1, .int 0, .ref q2, .ref q4, .int 0, .int 0, .int 0, .int 0])), (q2, .inr (4, [.ref r0, .ref r1, .ref r2, .int 0]))] := hD
  refine lv_aload_n hx hb dX6_readAsRule_18 rfl (lv_at hl 0 rfl) ?_
  have hPc := hP.sub (ws' := [(h0, .inr (6, [.ref q1, .int 0, .ref q2, .ref q4, .int 0, .int 0, .int 0, .int 0]))]) [0] rfl
  have hDc := hD.sub (ws' := [(h0, .inr (6, [.ref q1, .int 0, .ref q2, .ref q4, .int 0, .int 0, .int 0, .int 0]))]) [0] (by decide) rfl
  refine aft_v (runMV (rest := []) (As := []) hx hb hml hown htb hK (c_X6_goOn l D E h0 q1 q2 q4 _ ) ok_X6_goOn k_591 k_593 ks_11 k_5 k_594 ⟨(Nat.le_of_ble_eq_true rfl), (Nat.le_of_ble_eq_true rfl)⟩ ⟨(Nat.le_of_ble_eq_true rfl), (Nat.le_of_ble_eq_true rfl)⟩ hl.1 (Nat.le_of_ble_eq_true rfl) rfl rfl dX6_readAsRule_19 hPc hDc rfl rfl 0 rfl) hP hD hS hA [0] [1] (wr := [(q2, .inr (4, [.ref r0, .ref r1, .ref r2, .int 0]))]) rfl rfl (by decide) (by decide) (fun u_1 H locs hw_2 hP hD hS => ?_)
  clear hPc hDc
  have hP : va_P D vwCl [(q2, .inr (4, [.ref r0, .ref r1, .ref r2, .int 0])), (h0, .inr (6, [.ref q1, .int 0, .ref q2, .ref q4, .int 0, .int 0, .int 0, .int 0]))] H := hP
  have hD : va_D A [(q2, .inr (4, [.ref r0, .ref r1, .ref r2, .int 0])), (h0, .inr (6, [.ref q1, .int 0, .ref q2, .ref q4, .int 0, .int 0, .int 0, .int 0]))] := hD
  refine lv_aload_n hx hb dX6_readAsRule_22 rfl (lv_at hl 0 rfl) ?_
  refine lv_iconst (v := 0) hx hb dX6_readAsRule_23 (by decide) ?_
  refine callRV (rest := []) (As := [.int 0]) hx hb hml hown htb hK (c_X6_readEither l D E h0 q1 q2 q4 0 ) ok_X6_readEither k_668 k_670 ks_16 k_5 k_671 ⟨(Nat.le_of_ble_eq_true rfl), (Nat.le_of_ble_eq_true rfl)⟩ ⟨(Nat.le_of_ble_eq_true rfl), (Nat.le_of_ble_eq_true rfl)⟩ hl.1 (Nat.le_of_ble_eq_true rfl) rfl rfl dX6_readAsRule_24 (hP.sub (ws' := [(h0, .inr (6, [.ref q1, .int 0, .ref q2, .ref q4, .int 0, .int 0, .int 0, .int 0]))]) [1] rfl) rfl rfl 0 rfl (fun r_5 hw_4 => ?_)
  obtain ⟨hr_5, hw_4⟩ := hw_4
  refine W_top (y := .int 0) (by rw [hr_5]) ?_
  refine lv_istore_n (lv' := [(2, .int 0), (0, .ref h0), (1, .ref q4)]) hx hb dX6_readAsRule_27 rfl hl (by decide) rfl (fun ls hl => ?_)
  refine lv_iload_n hx hb dX6_readAsRule_28 rfl (lv_at hl 0 rfl) ?_
  refine lv_if_eq (tgt := 43) hx hb dX6_readAsRule_29 (by decide) (fun c_6 => ?_) (fun c_6 => absurd (by decide) c_6)
  refine lv_aload_n hx hb dX6_readAsRule_43 rfl (lv_at hl 1 rfl) ?_
  refine va_get (D := D) (ci := 6) (v := .int 0) (C := RX6) (T := TX6) (N := 8) hx hb htb iX6 hown hK.1 hP 1 rfl rfl 6 (by decide) (htb _ k_164) (fun _ h9 => h9) rfl dX6_readAsRule_44 ?_
  have hP9 := hP.sub (ws' := [(h0, .inr (6, [.ref q1, .int 0, .ref q2, .ref q4, .int 0, .int 0, .int 0, .int 0]))]) [1] rfl
  have hD9 := hD.sub (ws' := [(h0, .inr (6, [.ref q1, .int 0, .ref q2, .ref q4, .int 0, .int 0, .int 0, .int 0]))]) [1] (by decide) rfl
  exact W.iret (v := 0) hx hb hr (fun t ht hW => ⟨⟨0, (), rfl, ⟨rfl, trivial⟩, by rw [ht]; exact hP9, hD9⟩, hS.F ht⟩) hS.2.2 dX6_readAsRule_47
set_option maxHeartbeats 4000000 in
set_option maxRecDepth 100000 in
theorem c_X8_rule (l : Launch) (D : va_G) (E : Nat → Nat) (h0 : Nat) (a : Nat → Nat) (p0 : Int32) (sz : Nat)  : Met l yX8_rule (wl yX8_rule cX8_rule 3 (some .int)) (RM 8 0 0) (mu_P D E [.ref h0, .int p0] [(h0, .inr (8, xF a 0)), ((a 9), .inr (6, [.ref (a 23), .int 0, .ref (a 24), .ref (E 5), .int 0, .int 0, .int 0, .int 0])), ((a 24), .inr (4, [.ref (a 25), .ref (a 26), .ref (a 27), .int 0]))] sz) (va_Qi (fun (r : Int32) (u : Unit) => (r = (-100) ∧ (0 ≤ p0.toInt ∧ p0.toInt ≤ 1)) ∨ (r = (-1) ∧ ¬ (0 ≤ p0.toInt ∧ p0.toInt ≤ 1))) (mu_B D (va_A [(h0, .inr (8, xF a 0)), ((a 9), .inr (6, [.ref (a 23), .int 0, .ref (a 24), .ref (E 5), .int 0, .int 0, .int 0, .int 0])), ((a 24), .inr (4, [.ref (a 25), .ref (a 26), .ref (a 27), .int 0]))] sz) (fun (u : Unit) => ([] : va_W))) (va_A [(h0, .inr (8, xF a 0)), ((a 9), .inr (6, [.ref (a 23), .int 0, .ref (a 24), .ref (E 5), .int 0, .int 0, .int 0, .int 0])), ((a 24), .inr (4, [.ref (a 25), .ref (a 26), .ref (a 27), .int 0]))] sz)) 0 0 (va_A [(h0, .inr (8, xF a 0)), ((a 9), .inr (6, [.ref (a 23), .int 0, .ref (a 24), .ref (E 5), .int 0, .int 0, .int 0, .int 0])), ((a 24), .inr (4, [.ref (a 25), .ref (a 26), .ref (a 27), .int 0]))] sz) := by
  refine Met.ofW (cc := cX8_rule) (maxL := 3) (ret := (some .int)) (by decide) rfl ?_
  intro p e s m args below meth c s₁ B hml hv
  obtain ⟨rfl, hsz, hP, hK, hD0⟩ := hv
  have hx := B.exec
  have hb := B.bytes
  have hr := B.returns
  have hts := atoms_spec (ws := wl yX8_rule cX8_rule 3 (some .int)) B.pre
  have htb : ∀ w ∈ tb, w.before _ s = true := fun w h => hts w (List.mem_cons_of_mem _ h)
  have hown : s.vm.findClass RX8 = some m.cls := findClass_of_methodNamed B.named
  have hlocks := B.notSynchronized
  subst hsz
  have hD := hD0.self (sz := s.heap.size)
  generalize hAe : va_A [(h0, .inr (8, xF a 0)), ((a 9), .inr (6, [.ref (a 23), .int 0, .ref (a 24), .ref (E 5), .int 0, .int 0, .int 0, .int 0])), ((a 24), .inr (4, [.ref (a 25), .ref (a 26), .ref (a 27), .int 0]))] s.heap.size = A at hD ⊢
  have hA : ∀ q : Nat, s.heap.size ≤ q → A q := fun q h => by rw [← hAe]; exact Or.inr h
  have hS : va_S A s.heap s.heap [] := va_S.rf
  have hP : va_P D vwCl [(h0, .inr (8, xF a 0)), ((a 9), .inr (6, [.ref (a 23), .int 0, .ref (a 24), .ref (E 5), .int 0, .int 0, .int 0, .int 0])), ((a 24), .inr (4, [.ref (a 25), .ref (a 26), .ref (a 27), .int 0]))] s.heap := hP
  have hl := lv_entry ([.ref h0, .int p0]) (n := 3) (Nat.le_of_ble_eq_true rfl)
  rw [lg_entry_eq]
  generalize (lg_sl ([.ref h0, .int p0]) ++ List.replicate (3 - (lg_sl ([.ref h0, .int p0])).length) Slot.unset).toArray = ls at hl ⊢
  have hl : lv_has ls 3 [(0, .ref h0), (1, .int p0)] := hl
  have lo_p0 := i_lo p0
  have hi_p0 := i_hi p0
  refine lv_iload_n hx hb dX8_rule_0 rfl (lv_at hl 1 rfl) ?_
  refine lv_if_eq (tgt := 11) hx hb dX8_rule_1 (by decide) (fun c_1 => ?_) (fun c_1 => ?_)
  ·
    have ic_1 : p0.toInt = 0 := (g_eq rfl t_0).mp c_1
    refine lv_aload_n hx hb dX8_rule_11 rfl (lv_at hl 0 rfl) ?_
    refine va_get (D := D) (ci := 8) (v := .ref (a 9)) (C := RX8) (T := TX8) (N := 14) hx hb htb iX8 hown hK.1 hP 0 rfl rfl 9 (by decide) (htb _ k_281) (fun _ h9 => h9) rfl dX8_rule_12 ?_
    refine lv_iload_n hx hb dX8_rule_15 rfl (lv_at hl 1 rfl) ?_
    refine lv_if_ne (tgt := 24) hx hb dX8_rule_16 (by decide) (fun c_2 => absurd (by rw [g_eq rfl t_0]; omega) c_2) (fun c_2 => ?_)
    refine va_ldcS hx hb hown hK.2.2.2.2.1 dX8_rule_19 ?_
    refine lv_goto (tgt := 26) hx hb dX8_rule_21 (by decide) ?_
    have hPc := hP.sub (ws' := [((a 9), .inr (6, [.ref (a 23), .int 0, .ref (a 24), .ref (E 5), .int 0, .int 0, .int 0, .int 0])), ((a 24), .inr (4, [.ref (a 25), .ref (a 26), .ref (a 27), .int 0]))]) [1, 2] rfl
    have hDc := hD.sub (ws' := [((a 9), .inr (6, [.ref (a 23), .int 0, .ref (a 24), .ref (E 5), .int 0, .int 0, .int 0, .int 0])), ((a 24), .inr (4, [.ref (a 25), .ref (a 26), .ref (a 27), .int 0]))]) [1, 2] (by decide) rfl
    refine aft_i (runMV (rest := []) (As := [.ref (E 6)]) hx hb hml hown htb hK (c_X6_readAsRule l D E (a 9) (a 23) (a 24) (E 5) (E 6) (a 25) (a 26) (a 27) _ ) ok_X6_readAsRule k_587 k_588 k_589 k_5 k_590 ⟨(Nat.le_of_ble_eq_true rfl), (Nat.le_of_ble_eq_true rfl)⟩ ⟨(Nat.le_of_ble_eq_true rfl), (Nat.le_of_ble_eq_true rfl)⟩ hl.1 (Nat.le_of_ble_eq_true rfl) rfl rfl dX8_rule_26 hPc hDc rfl rfl 0 rfl) hP hD hS hA [1, 2] [0] (wr := [(h0, .inr (8, xF a 0))]) rfl rfl (by decide) (by decide) (fun r_5 u_3 H locs hw_4 hP hD hS => ?_)
    clear hPc hDc
    have hP : va_P D vwCl [(h0, .inr (8, xF a 0)), ((a 9), .inr (6, [.ref (a 23), .int 0, .ref (a 24), .ref (E 6), .int 0, .int 0, .int 0, .int 0]))] H := hP
    have hD : va_D A [(h0, .inr (8, xF a 0)), ((a 9), .inr (6, [.ref (a 23), .int 0, .ref (a 24), .ref (E 6), .int 0, .int 0, .int 0, .int 0]))] := hD
    obtain ⟨hr_5, hw_4⟩ := hw_4
    refine W_top (y := .int 0) (by rw [hr_5]) ?_
    refine lv_istore_n (lv' := [(2, .int 0), (0, .ref h0), (1, .int p0)]) hx hb dX8_rule_29 rfl hl (by decide) rfl (fun ls hl => ?_)
    refine lv_aload_n hx hb dX8_rule_30 rfl (lv_at hl 1 rfl) ?_
    refine va_get (D := D) (ci := 8) (v := .ref (a 9)) (C := RX8) (T := TX8) (N := 14) hx hb htb iX8 hown hK.1 hP 0 rfl rfl 9 (by decide) (htb _ k_281) (fun _ h9 => h9) rfl dX8_rule_31 ?_
    refine lv_iconst (v := 0) hx hb dX8_rule_34 (by decide) ?_
    refine va_putN (D := D) (ci := 6) (v := .int 0) (ty := .int) (C := RX6) (T := TX6) (N := 8) hx hb htb iX6 tyX6 tyX6_ok nmX6 hown hK.1 hP hD hS 1 rfl rfl 1 (by decide) (va_Nw.use rfl (hK.2.1 (Cond.fieldLinkNest RX8 179 "SeaWatches$Tape" "size" "I" "SeaWatches") (by decide +kernel))) (fun _ h9 => h9) rfl (by decide +kernel) rfl rfl (Nat.le_of_ble_eq_true rfl) dX8_rule_35 (fun H locs hP hD hS => ?_)
    have hP : va_P D vwCl [(h0, .inr (8, xF a 0)), ((a 9), .inr (6, [.ref (a 23), .int 0, .ref (a 24), .ref (E 6), .int 0, .int 0, .int 0, .int 0]))] H := hP
    have hD : va_D A [(h0, .inr (8, xF a 0)), ((a 9), .inr (6, [.ref (a 23), .int 0, .ref (a 24), .ref (E 6), .int 0, .int 0, .int 0, .int 0]))] := hD
    refine lv_iload_n hx hb dX8_rule_38 rfl (lv_at hl 0 rfl) ?_
    refine lv_iconst (v := (-1)) hx hb dX8_rule_39 (by decide) ?_
    refine lv_icmp_eq (tgt := 48) hx hb dX8_rule_40 (by decide) (fun c_6 => absurd c_6 (by decide)) (fun c_6 => ?_)
    refine lv_bipush (v := (-100)) hx hb dX8_rule_43 (by decide) ?_
    refine lv_iload_n hx hb dX8_rule_45 rfl (lv_at hl 0 rfl) ?_
    refine lv_isub hx hb dX8_rule_46 ?_
    refine W_top (y := .int (-100)) (by decide) ?_
    have hP9 := hP.sub (ws' := ([] : va_W)) [] rfl
    have hD9 := hD.sub (ws' := ([] : va_W)) [] (by decide) rfl
    exact W.iret (v := (-100)) hx hb hr (fun t ht hW => ⟨⟨(-100), (), rfl, by first | exact Or.inl ⟨rfl, by omega⟩ | (exfalso; omega), by rw [ht]; exact hP9, hD9⟩, hS.F ht⟩) hS.2.2 dX8_rule_47
  ·
    have ic_1 : p0.toInt ≠ 0 := mt (g_eq rfl t_0).mpr c_1
    refine lv_iload_n hx hb dX8_rule_4 rfl (lv_at hl 1 rfl) ?_
    refine lv_iconst (v := 1) hx hb dX8_rule_5 (by decide) ?_
    refine lv_icmp_eq (tgt := 11) hx hb dX8_rule_6 (by decide) (fun c_7 => ?_) (fun c_7 => ?_)
    ·
      have ic_7 : p0.toInt = 1 := (g_eq rfl t_1).mp c_7
      refine lv_aload_n hx hb dX8_rule_11 rfl (lv_at hl 0 rfl) ?_
      refine va_get (D := D) (ci := 8) (v := .ref (a 9)) (C := RX8) (T := TX8) (N := 14) hx hb htb iX8 hown hK.1 hP 0 rfl rfl 9 (by decide) (htb _ k_281) (fun _ h9 => h9) rfl dX8_rule_12 ?_
      refine lv_iload_n hx hb dX8_rule_15 rfl (lv_at hl 1 rfl) ?_
      refine lv_if_ne (tgt := 24) hx hb dX8_rule_16 (by decide) (fun c_8 => ?_) (fun c_8 => absurd c_8 (by rw [g_eq rfl t_0]; omega))
      refine va_ldcS hx hb hown hK.2.2.2.2.2 dX8_rule_24 ?_
      have hPc := hP.sub (ws' := [((a 9), .inr (6, [.ref (a 23), .int 0, .ref (a 24), .ref (E 5), .int 0, .int 0, .int 0, .int 0])), ((a 24), .inr (4, [.ref (a 25), .ref (a 26), .ref (a 27), .int 0]))]) [1, 2] rfl
      have hDc := hD.sub (ws' := [((a 9), .inr (6, [.ref (a 23), .int 0, .ref (a 24), .ref (E 5), .int 0, .int 0, .int 0, .int 0])), ((a 24), .inr (4, [.ref (a 25), .ref (a 26), .ref (a 27), .int 0]))]) [1, 2] (by decide) rfl
      refine aft_i (runMV (rest := []) (As := [.ref (E 7)]) hx hb hml hown htb hK (c_X6_readAsRule l D E (a 9) (a 23) (a 24) (E 5) (E 7) (a 25) (a 26) (a 27) _ ) ok_X6_readAsRule k_587 k_588 k_589 k_5 k_590 ⟨(Nat.le_of_ble_eq_true rfl), (Nat.le_of_ble_eq_true rfl)⟩ ⟨(Nat.le_of_ble_eq_true rfl), (Nat.le_of_ble_eq_true rfl)⟩ hl.1 (Nat.le_of_ble_eq_true rfl) rfl rfl dX8_rule_26 hPc hDc rfl rfl 0 rfl) hP hD hS hA [1, 2] [0] (wr := [(h0, .inr (8, xF a 0))]) rfl rfl (by decide) (by decide) (fun r_11 u_9 H locs hw_10 hP hD hS => ?_)
      clear hPc hDc
      have hP : va_P D vwCl [(h0, .inr (8, xF a 0)), ((a 9), .inr (6, [.ref (a 23), .int 0, .ref (a 24), .ref (E 7), .int 0, .int 0, .int 0, .int 0]))] H := hP
      have hD : va_D A [(h0, .inr (8, xF a 0)), ((a 9), .inr (6, [.ref (a 23), .int 0, .ref (a 24), .ref (E 7), .int 0, .int 0, .int 0, .int 0]))] := hD
      obtain ⟨hr_11, hw_10⟩ := hw_10
      refine W_top (y := .int 0) (by rw [hr_11]) ?_
      refine lv_istore_n (lv' := [(2, .int 0), (0, .ref h0), (1, .int p0)]) hx hb dX8_rule_29 rfl hl (by decide) rfl (fun ls hl => ?_)
      refine lv_aload_n hx hb dX8_rule_30 rfl (lv_at hl 1 rfl) ?_
      refine va_get (D := D) (ci := 8) (v := .ref (a 9)) (C := RX8) (T := TX8) (N := 14) hx hb htb iX8 hown hK.1 hP 0 rfl rfl 9 (by decide) (htb _ k_281) (fun _ h9 => h9) rfl dX8_rule_31 ?_
      refine lv_iconst (v := 0) hx hb dX8_rule_34 (by decide) ?_
      refine va_putN (D := D) (ci := 6) (v := .int 0) (ty := .int) (C := RX6) (T := TX6) (N := 8) hx hb htb iX6 tyX6 tyX6_ok nmX6 hown hK.1 hP hD hS 1 rfl rfl 1 (by decide) (va_Nw.use rfl (hK.2.1 (Cond.fieldLinkNest RX8 179 "SeaWatches$Tape" "size" "I" "SeaWatches") (by decide +kernel))) (fun _ h9 => h9) rfl (by decide +kernel) rfl rfl (Nat.le_of_ble_eq_true rfl) dX8_rule_35 (fun H locs hP hD hS => ?_)
      have hP : va_P D vwCl [(h0, .inr (8, xF a 0)), ((a 9), .inr (6, [.ref (a 23), .int 0, .ref (a 24), .ref (E 7), .int 0, .int 0, .int 0, .int 0]))] H := hP
      have hD : va_D A [(h0, .inr (8, xF a 0)), ((a 9), .inr (6, [.ref (a 23), .int 0, .ref (a 24), .ref (E 7), .int 0, .int 0, .int 0, .int 0]))] := hD
      refine lv_iload_n hx hb dX8_rule_38 rfl (lv_at hl 0 rfl) ?_
      refine lv_iconst (v := (-1)) hx hb dX8_rule_39 (by decide) ?_
      refine lv_icmp_eq (tgt := 48) hx hb dX8_rule_40 (by decide) (fun c_12 => absurd c_12 (by decide)) (fun c_12 => ?_)
      refine lv_bipush (v := (-100)) hx hb dX8_rule_43 (by decide) ?_
      refine lv_iload_n hx hb dX8_rule_45 rfl (lv_at hl 0 rfl) ?_
      refine lv_isub hx hb dX8_rule_46 ?_
      refine W_top (y := .int (-100)) (by decide) ?_
      have hP9 := hP.sub (ws' := ([] : va_W)) [] rfl
      have hD9 := hD.sub (ws' := ([] : va_W)) [] (by decide) rfl
      exact W.iret (v := (-100)) hx hb hr (fun t ht hW => ⟨⟨(-100), (), rfl, by first | exact Or.inl ⟨rfl, by omega⟩ | (exfalso; omega), by rw [ht]; exact hP9, hD9⟩, hS.F ht⟩) hS.2.2 dX8_rule_47
    ·
      have ic_7 : p0.toInt ≠ 1 := mt (g_eq rfl t_1).mpr c_7
      refine lv_iconst (v := (-1)) hx hb dX8_rule_9 (by decide) ?_
      have hP9 := hP.sub (ws' := ([] : va_W)) [] rfl
      have hD9 := hD.sub (ws' := ([] : va_W)) [] (by decide) rfl
      exact W.iret (v := (-1)) hx hb hr (fun t ht hW => ⟨⟨(-1), (), rfl, by first | exact Or.inr ⟨rfl, by omega⟩ | (exfalso; omega), by rw [ht]; exact hP9, hD9⟩, hS.F ht⟩) hS.2.2 dX8_rule_10
