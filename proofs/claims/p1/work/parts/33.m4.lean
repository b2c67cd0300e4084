set_option maxHeartbeats 4000000 in
set_option maxRecDepth 100000 in
theorem c_X9_count (l : Launch) (D : va_G) (E : Nat → Nat) (k0 : Nat) (cm : Nat → Nat) (p0 : Int32)  : Met l yX9_count (wl yX9_count cX9_count 4 (some .int)) (RM 1 0 0) (rd_P D E [.ref k0, .int p0] [(k0, .inr (9, mF cm 0 0 0 0 0 0 0 0 0)), ((cm 3), .inl (E 0, 16, .inl (fun _ => -5))), ((cm 47), .inl (E 0, 5, .inl (fun _ => 0)))]) (rd_Q (fun r => (r = 0 ∧ (0 ≤ p0.toInt ∧ p0.toInt ≤ 6)) ∨ (r = (-1) ∧ ¬ (0 ≤ p0.toInt ∧ p0.toInt ≤ 6)))) 0 0 (fun _ => False) := by
  refine Met.ofW (cc := cX9_count) (maxL := 4) (ret := (some .int)) (by decide) rfl ?_
  intro p e s m args below meth c s₁ B hml hv
  obtain ⟨rfl, hP, hK⟩ := hv
  have hx := B.exec
  have hb := B.bytes
  have hr := B.returns
  have hts := atoms_spec (ws := wl yX9_count cX9_count 4 (some .int)) B.pre
  have htb : ∀ w ∈ tb, w.before _ s = true := fun w h => hts w (List.mem_cons_of_mem _ h)
  have hown : s.vm.findClass RX9 = some m.cls := findClass_of_methodNamed B.named
  have hlocks := B.notSynchronized
  have hP : va_P D vwCl [(k0, .inr (9, mF cm 0 0 0 0 0 0 0 0 0)), ((cm 3), .inl (E 0, 16, .inl (fun _ => -5))), ((cm 47), .inl (E 0, 5, .inl (fun _ => 0)))] s.heap := hP
  have hl := lv_entry ([.ref k0, .int p0]) (n := 4) (Nat.le_of_ble_eq_true rfl)
  rw [lg_entry_eq]
  generalize (lg_sl ([.ref k0, .int p0]) ++ List.replicate (4 - (lg_sl ([.ref k0, .int p0])).length) Slot.unset).toArray = ls at hl ⊢
  have hl : lv_has ls 4 [(0, .ref k0), (1, .int p0)] := hl
  have lo_p0 := i_lo p0
  have hi_p0 := i_hi p0
  refine lv_iconst (v := 0) hx hb dX9_count_0 (by decide) ?_
  refine lv_istore_n (lv' := [(2, .int 0), (0, .ref k0), (1, .int p0)]) hx hb dX9_count_1 rfl hl (by decide) rfl (fun ls hl => ?_)
  refine lv_iload_n hx hb dX9_count_2 rfl (lv_at hl 2 rfl) ?_
  by_cases h_1 : p0.toInt < 0 ∨ 6 < p0.toInt
  ·
    refine lv_tableOut (tgt := 163) hx hb dX9_count_3 h_1 (by decide) ?_
    refine lv_iconst (v := (-1)) hx hb dX9_count_163 (by decide) ?_
    exact W.iret (v := (-1)) hx hb hr (fun t ht hW => ⟨(-1), rfl, by first | exact Or.inr ⟨rfl, by omega⟩ | (exfalso; omega), ht⟩) (fun q h => by cases h) dX9_count_164
  ·
    have h_2 : p0.toInt = 0 ∨ p0.toInt = 1 ∨ p0.toInt = 2 ∨ p0.toInt = 3 ∨ p0.toInt = 4 ∨ p0.toInt = 5 ∨ p0.toInt = 6 := by omega
    rcases h_2 with h_2 | h_2 | h_2 | h_2 | h_2 | h_2 | h_2
    ·
      refine lv_tableIn (off := 41) (tgt := 44) hx hb dX9_count_3 (by omega) (by omega) (by rw [h_2]; decide) (by decide) ?_
      refine lv_iconst (v := 0) hx hb dX9_count_44 (by decide) ?_
      refine lv_istore_n (lv' := [(3, .int 0), (2, .int 0), (0, .ref k0), (1, .int p0)]) hx hb dX9_count_45 rfl hl (by decide) rfl (fun ls hl => ?_)
      refine lv_iload_n hx hb dX9_count_46 rfl (lv_at hl 0 rfl) ?_
      refine lv_bipush (v := 16) hx hb dX9_count_47 (by decide) ?_
      refine lv_icmp_ge (tgt := 74) hx hb dX9_count_49 (by decide) (fun c_3 => absurd c_3 (by decide)) (fun c_3 => ?_)
      refine lv_iload_n hx hb dX9_count_52 rfl (lv_at hl 1 rfl) ?_
      refine lv_aload_n hx hb dX9_count_53 rfl (lv_at hl 2 rfl) ?_
      refine lv_iload_n hx hb dX9_count_54 rfl (lv_at hl 0 rfl) ?_
      refine callRV (rest := [.int 0]) (As := [.int 0]) hx hb hml hown htb hK (c_X9_isWatch l D E k0 cm 0 (by decide)) ok_X9_isWatch k_1189 k_1191 ks_39 k_9 k_1192 ⟨(Nat.le_of_ble_eq_true rfl), (Nat.le_of_ble_eq_true rfl)⟩ ⟨(Nat.le_of_ble_eq_true rfl), (Nat.le_of_ble_eq_true rfl)⟩ hl.1 (Nat.le_of_ble_eq_true rfl) rfl rfl dX9_count_55 (hP.sub (ws' := [(k0, .inr (9, mF cm 0 0 0 0 0 0 0 0 0)), ((cm 3), .inl (E 0, 16, .inl (fun _ => -5)))]) [0, 1] rfl) rfl rfl 0 rfl (fun r_5 hw_4 => ?_)
      obtain ⟨hr_5, hw_4⟩ := hw_4
      refine W_top (y := .int 0) (by rw [hr_5]) ?_
      refine lv_if_eq (tgt := 65) hx hb dX9_count_58 (by decide) (fun c_6 => ?_) (fun c_6 => absurd (by decide) c_6)
      refine lv_iconst (v := 0) hx hb dX9_count_65 (by decide) ?_
      refine lv_iadd hx hb dX9_count_66 ?_
      refine W_top (y := .int 0) (by decide) ?_
      refine lv_istore_n (lv' := [(2, .int 0), (3, .int 0), (0, .ref k0), (1, .int p0)]) hx hb dX9_count_67 rfl hl (by decide) rfl (fun ls hl => ?_)
      refine lv_iinc (v := 1) (lv' := [(3, .int 1), (2, .int 0), (0, .ref k0), (1, .int p0)]) hx hb dX9_count_68 hl (k := 1) rfl (by decide) (by decide) rfl (fun ls hl => ?_)
      refine lv_goto (tgt := 46) hx hb dX9_count_71 (by decide) ?_
      refine lv_iload_n hx hb dX9_count_46 rfl (lv_at hl 0 rfl) ?_
      refine lv_bipush (v := 16) hx hb dX9_count_47 (by decide) ?_
      refine lv_icmp_ge (tgt := 74) hx hb dX9_count_49 (by decide) (fun c_7 => absurd c_7 (by decide)) (fun c_7 => ?_)
      refine lv_iload_n hx hb dX9_count_52 rfl (lv_at hl 1 rfl) ?_
      refine lv_aload_n hx hb dX9_count_53 rfl (lv_at hl 2 rfl) ?_
      refine lv_iload_n hx hb dX9_count_54 rfl (lv_at hl 0 rfl) ?_
      refine callRV (rest := [.int 0]) (As := [.int 1]) hx hb hml hown htb hK (c_X9_isWatch l D E k0 cm 1 (by decide)) ok_X9_isWatch k_1189 k_1191 ks_39 k_9 k_1192 ⟨(Nat.le_of_ble_eq_true rfl), (Nat.le_of_ble_eq_true rfl)⟩ ⟨(Nat.le_of_ble_eq_true rfl), (Nat.le_of_ble_eq_true rfl)⟩ hl.1 (Nat.le_of_ble_eq_true rfl) rfl rfl dX9_count_55 (hP.sub (ws' := [(k0, .inr (9, mF cm 0 0 0 0 0 0 0 0 0)), ((cm 3), .inl (E 0, 16, .inl (fun _ => -5)))]) [0, 1] rfl) rfl rfl 0 rfl (fun r_9 hw_8 => ?_)
      obtain ⟨hr_9, hw_8⟩ := hw_8
      refine W_top (y := .int 0) (by rw [hr_9]) ?_
      refine lv_if_eq (tgt := 65) hx hb dX9_count_58 (by decide) (fun c_10 => ?_) (fun c_10 => absurd (by decide) c_10)
      refine lv_iconst (v := 0) hx hb dX9_count_65 (by decide) ?_
      refine lv_iadd hx hb dX9_count_66 ?_
      refine W_top (y := .int 0) (by decide) ?_
      refine lv_istore_n (lv' := [(2, .int 0), (3, .int 1), (0, .ref k0), (1, .int p0)]) hx hb dX9_count_67 rfl hl (by decide) rfl (fun ls hl => ?_)
      refine lv_iinc (v := 2) (lv' := [(3, .int 2), (2, .int 0), (0, .ref k0), (1, .int p0)]) hx hb dX9_count_68 hl (k := 1) rfl (by decide) (by decide) rfl (fun ls hl => ?_)
      refine lv_goto (tgt := 46) hx hb dX9_count_71 (by decide) ?_
      refine lv_iload_n hx hb dX9_count_46 rfl (lv_at hl 0 rfl) ?_
      refine lv_bipush (v := 16) hx hb dX9_count_47 (by decide) ?_
      refine lv_icmp_ge (tgt := 74) hx hb dX9_count_49 (by decide) (fun c_11 => absurd c_11 (by decide)) (fun c_11 => ?_)
      refine lv_iload_n hx hb dX9_count_52 rfl (lv_at hl 1 rfl) ?_
      refine lv_aload_n hx hb dX9_count_53 rfl (lv_at hl 2 rfl) ?_
      refine lv_iload_n hx hb dX9_count_54 rfl (lv_at hl 0 rfl) ?_
      refine callRV (rest := [.int 0]) (As := [.int 2]) hx hb hml hown htb hK (c_X9_isWatch l D E k0 cm 2 (by decide)) ok_X9_isWatch k_1189 k_1191 ks_39 k_9 k_1192 ⟨(Nat.le_of_ble_eq_true rfl), (Nat.le_of_ble_eq_true rfl)⟩ ⟨(Nat.le_of_ble_eq_true rfl), (Nat.le_of_ble_eq_true rfl)⟩ hl.1 (Nat.le_of_ble_eq_true rfl) rfl rfl dX9_count_55 (hP.sub (ws' := [(k0, .inr (9, mF cm 0 0 0 0 0 0 0 0 0)), ((cm 3), .inl (E 0, 16, .inl (fun _ => -5)))]) [0, 1] rfl) rfl rfl 0 rfl (fun r_13 hw_12 => ?_)
      obtain ⟨hr_13, hw_12⟩ := hw_12
      refine W_top (y := .int 0) (by rw [hr_13]) ?_
      refine lv_if_eq (tgt := 65) hx hb dX9_count_58 (by decide) (fun c_14 => ?_) (fun c_14 => absurd (by decide) c_14)
      refine lv_iconst (v := 0) hx hb dX9_count_65 (by decide) ?_
      refine lv_iadd hx hb dX9_count_66 ?_
      refine W_top (y := .int 0) (by decide) ?_
      refine lv_istore_n (lv' := [(2, .int 0), (3, .int 2), (0, .ref k0), (1, .int p0)]) hx hb dX9_count_67 rfl hl (by decide) rfl (fun ls hl => ?_)
      refine lv_iinc (v := 3) (lv' := [(3, .int 3), (2, .int 0), (0, .ref k0), (1, .int p0)]) hx hb dX9_count_68 hl (k := 1) rfl (by decide) (by decide) rfl (fun ls hl => ?_)
      refine lv_goto (tgt := 46) hx hb dX9_count_71 (by decide) ?_
      refine lv_iload_n hx hb dX9_count_46 rfl (lv_at hl 0 rfl) ?_
      refine lv_bipush (v := 16) hx hb dX9_count_47 (by decide) ?_
      refine lv_icmp_ge (tgt := 74) hx hb dX9_count_49 (by decide) (fun c_15 => absurd c_15 (by decide)) (fun c_15 => ?_)
      refine lv_iload_n hx hb dX9_count_52 rfl (lv_at hl 1 rfl) ?_
      refine lv_aload_n hx hb dX9_count_53 rfl (lv_at hl 2 rfl) ?_
      refine lv_iload_n hx hb dX9_count_54 rfl (lv_at hl 0 rfl) ?_
      refine callRV (rest := [.int 0]) (As := [.int 3]) hx hb hml hown htb hK (c_X9_isWatch l D E k0 cm 3 (by decide)) ok_X9_isWatch k_1189 k_1191 ks_39 k_9 k_1192 ⟨(Nat.le_of_ble_eq_true rfl), (Nat.le_of_ble_eq_true rfl)⟩ ⟨(Nat.le_of_ble_eq_true rfl), (Nat.le_of_ble_eq_true rfl)⟩ hl.1 (Nat.le_of_ble_eq_true rfl) rfl rfl dX9_count_55 (hP.sub (ws' := [(k0, .inr (9, mF cm 0 0 0 0 0 0 0 0 0)), ((cm 3), .inl (E 0, 16, .inl (fun _ => -5)))]) [0, 1] rfl) rfl rfl 0 rfl (fun r_17 hw_16 => ?_)
      obtain ⟨hr_17, hw_16⟩ := hw_16
      refine W_top (y := .int 0) (by rw [hr_17]) ?_
      refine lv_if_eq (tgt := 65) hx hb dX9_count_58 (by decide) (fun c_18 => ?_) (fun c_18 => absurd (by decide) c_18)
      refine lv_iconst (v := 0) hx hb dX9_count_65 (by decide) ?_
      refine lv_iadd hx hb dX9_count_66 ?_
      refine W_top (y := .int 0) (by decide) ?_
      refine lv_istore_n (lv' := [(2, .int 0), (3, .int 3), (0, .ref k0), (1, .int p0)]) hx hb dX9_count_67 rfl hl (by decide) rfl (fun ls hl => ?_)
      refine lv_iinc (v := 4) (lv' := [(3, .int 4), (2, .int 0), (0, .ref k0), (1, .int p0)]) hx hb dX9_count_68 hl (k := 1) rfl (by decide) (by decide) rfl (fun ls hl => ?_)
      refine lv_goto (tgt := 46) hx hb dX9_count_71 (by decide) ?_
      refine lv_iload_n hx hb dX9_count_46 rfl (lv_at hl 0 rfl) ?_
      refine lv_bipush (v := 16) hx hb dX9_count_47 (by decide) ?_
      refine lv_icmp_ge (tgt := 74) hx hb dX9_count_49 (by decide) (fun c_19 => absurd c_19 (by decide)) (fun c_19 => ?_)
      refine lv_iload_n hx hb dX9_count_52 rfl (lv_at hl 1 rfl) ?_
      refine lv_aload_n hx hb dX9_count_53 rfl (lv_at hl 2 rfl) ?_
      refine lv_iload_n hx hb dX9_count_54 rfl (lv_at hl 0 rfl) ?_
      refine callRV (rest := [.int 0]) (As := [.int 4]) hx hb hml hown htb hK (c_X9_isWatch l D E k0 cm 4 (by decide)) ok_X9_isWatch k_1189 k_1191 ks_39 k_9 k_1192 ⟨(Nat.le_of_ble_eq_true rfl), (Nat.le_of_ble_eq_true rfl)⟩ ⟨(Nat.le_of_ble_eq_true rfl), (Nat.le_of_ble_eq_true rfl)⟩ hl.1 (Nat.le_of_ble_eq_true rfl) rfl rfl dX9_count_55 (hP.sub (ws' := [(k0, .inr (9, mF cm 0 0 0 0 0 0 0 0 0)), ((cm 3), .inl (E 0, 16, .inl (fun _ => -5)))]) [0, 1] rfl) rfl rfl 0 rfl (fun r_21 hw_20 => ?_)
      obtain ⟨hr_21, hw_20⟩ := hw_20
      refine W_top (y := .int 0) (by rw [hr_21]) ?_
      refine lv_if_eq (tgt := 65) hx hb dX9_count_58 (by decide) (fun c_22 => ?_) (fun c_22 => absurd (by decide) c_22)
      refine lv_iconst (v := 0) hx hb dX9_count_65 (by decide) ?_
      refine lv_iadd hx hb dX9_count_66 ?_
      refine W_top (y := .int 0) (by decide) ?_
      refine lv_istore_n (lv' := [(2, .int 0), (3, .int 4), (0, .ref k0), (1, .int p0)]) hx hb dX9_count_67 rfl hl (by decide) rfl (fun ls hl => ?_)
      refine lv_iinc (v := 5) (lv' := [(3, .int 5), (2, .int 0), (0, .ref k0), (1, .int p0)]) hx hb dX9_count_68 hl (k := 1) rfl (by decide) (by decide) rfl (fun ls hl => ?_)
      refine lv_goto (tgt := 46) hx hb dX9_count_71 (by decide) ?_
      refine lv_iload_n hx hb dX9_count_46 rfl (lv_at hl 0 rfl) ?_
      refine lv_bipush (v := 16) hx hb dX9_count_47 (by decide) ?_
      refine lv_icmp_ge (tgt := 74) hx hb dX9_count_49 (by decide) (fun c_23 => absurd c_23 (by decide)) (fun c_23 => ?_)
      refine lv_iload_n hx hb dX9_count_52 rfl (lv_at hl 1 rfl) ?_
      refine lv_aload_n hx hb dX9_count_53 rfl (lv_at hl 2 rfl) ?_
      refine lv_iload_n hx hb dX9_count_54 rfl (lv_at hl 0 rfl) ?_
      refine callRV (rest := [.int 0]) (As := [.int 5]) hx hb hml hown htb hK (c_X9_isWatch l D E k0 cm 5 (by decide)) ok_X9_isWatch k_1189 k_1191 ks_39 k_9 k_1192 ⟨(Nat.le_of_ble_eq_true rfl), (Nat.le_of_ble_eq_true rfl)⟩ ⟨(Nat.le_of_ble_eq_true rfl), (Nat.le_of_ble_eq_true rfl)⟩ hl.1 (Nat.le_of_ble_eq_true rfl) rfl rfl dX9_count_55 (hP.sub (ws' := [(k0, .inr (9, mF cm 0 0 0 0 0 0 0 0 0)), ((cm 3), .inl (E 0, 16, .inl (fun _ => -5)))]) [0, 1] rfl) rfl rfl 0 rfl (fun r_25 hw_24 => ?_)
      obtain ⟨hr_25, hw_24⟩ := hw_24
      refine W_top (y := .int 0) (by rw [hr_25]) ?_
      refine lv_if_eq (tgt := 65) hx hb dX9_count_58 (by decide) (fun c_26 => ?_) (fun c_26 => absurd (by decide) c_26)
      refine lv_iconst (v := 0) hx hb dX9_count_65 (by decide) ?_
      refine lv_iadd hx hb dX9_count_66 ?_
      refine W_top (y := .int 0) (by decide) ?_
      refine lv_istore_n (lv' := [(2, .int 0), (3, .int 5), (0, .ref k0), (1, .int p0)]) hx hb dX9_count_67 rfl hl (by decide) rfl (fun ls hl => ?_)
      refine lv_iinc (v := 6) (lv' := [(3, .int 6), (2, .int 0), (0, .ref k0), (1, .int p0)]) hx hb dX9_count_68 hl (k := 1) rfl (by decide) (by decide) rfl (fun ls hl => ?_)
      refine lv_goto (tgt := 46) hx hb dX9_count_71 (by decide) ?_
      refine lv_iload_n hx hb dX9_count_46 rfl (lv_at hl 0 rfl) ?_
      refine lv_bipush (v := 16) hx hb dX9_count_47 (by decide) ?_
      refine lv_icmp_ge (tgt := 74) hx hb dX9_count_49 (by decide) (fun c_27 => absurd c_27 (by decide)) (fun c_27 => ?_)
      refine lv_iload_n hx hb dX9_count_52 rfl (lv_at hl 1 rfl) ?_
      refine lv_aload_n hx hb dX9_count_53 rfl (lv_at hl 2 rfl) ?_
      refine lv_iload_n hx hb dX9_count_54 rfl (lv_at hl 0 rfl) ?_
      refine callRV (rest := [.int 0]) (As := [.int 6]) hx hb hml hown htb hK (c_X9_isWatch l D E k0 cm 6 (by decide)) ok_X9_isWatch k_1189 k_1191 ks_39 k_9 k_1192 ⟨(Nat.le_of_ble_eq_true rfl), (Nat.le_of_ble_eq_true rfl)⟩ ⟨(Nat.le_of_ble_eq_true rfl), (Nat.le_of_ble_eq_true rfl)⟩ hl.1 (Nat.le_of_ble_eq_true rfl) rfl rfl dX9_count_55 (hP.sub (ws' := [(k0, .inr (9, mF cm 0 0 0 0 0 0 0 0 0)), ((cm 3), .inl (E 0, 16, .inl (fun _ => -5)))]) [0, 1] rfl) rfl rfl 0 rfl (fun r_29 hw_28 => ?_)
      obtain ⟨hr_29, hw_28⟩ := hw_28
      refine W_top (y := .int 0) (by rw [hr_29]) ?_
      refine lv_if_eq (tgt := 65) hx hb dX9_count_58 (by decide) (fun c_30 => ?_) (fun c_30 => absurd (by decide) c_30)
      refine lv_iconst (v := 0) hx hb dX9_count_65 (by decide) ?_
      refine lv_iadd hx hb dX9_count_66 ?_
      refine W_top (y := .int 0) (by decide) ?_
      refine lv_istore_n (lv' := [(2, .int 0), (3, .int 6), (0, .ref k0), (1, .int p0)]) hx hb dX9_count_67 rfl hl (by decide) rfl (fun ls hl => ?_)
      refine lv_iinc (v := 7) (lv' := [(3, .int 7), (2, .int 0), (0, .ref k0), (1, .int p0)]) hx hb dX9_count_68 hl (k := 1) rfl (by decide) (by decide) rfl (fun ls hl => ?_)
      refine lv_goto (tgt := 46) hx hb dX9_count_71 (by decide) ?_
      refine lv_iload_n hx hb dX9_count_46 rfl (lv_at hl 0 rfl) ?_
      refine lv_bipush (v := 16) hx hb dX9_count_47 (by decide) ?_
      refine lv_icmp_ge (tgt := 74) hx hb dX9_count_49 (by decide) (fun c_31 => absurd c_31 (by decide)) (fun c_31 => ?_)
      refine lv_iload_n hx hb dX9_count_52 rfl (lv_at hl 1 rfl) ?_
      refine lv_aload_n hx hb dX9_count_53 rfl (lv_at hl 2 rfl) ?_
      refine lv_iload_n hx hb dX9_count_54 rfl (lv_at hl 0 rfl) ?_
      refine callRV (rest := [.int 0]) (As := [.int 7]) hx hb hml hown htb hK (c_X9_isWatch l D E k0 cm 7 (by decide)) ok_X9_isWatch k_1189 k_1191 ks_39 k_9 k_1192 ⟨(Nat.le_of_ble_eq_true rfl), (Nat.le_of_ble_eq_true rfl)⟩ ⟨(Nat.le_of_ble_eq_true rfl), (Nat.le_of_ble_eq_true rfl)⟩ hl.1 (Nat.le_of_ble_eq_true rfl) rfl rfl dX9_count_55 (hP.sub (ws' := [(k0, .inr (9, mF cm 0 0 0 0 0 0 0 0 0)), ((cm 3), .inl (E 0, 16, .inl (fun _ => -5)))]) [0, 1] rfl) rfl rfl 0 rfl (fun r_33 hw_32 => ?_)
      obtain ⟨hr_33, hw_32⟩ := hw_32
      refine W_top (y := .int 0) (by rw [hr_33]) ?_
      refine lv_if_eq (tgt := 65) hx hb dX9_count_58 (by decide) (fun c_34 => ?_) (fun c_34 => absurd (by decide) c_34)
      refine lv_iconst (v := 0) hx hb dX9_count_65 (by decide) ?_
      refine lv_iadd hx hb dX9_count_66 ?_
      refine W_top (y := .int 0) (by decide) ?_
      refine lv_istore_n (lv' := [(2, .int 0), (3, .int 7), (0, .ref k0), (1, .int p0)]) hx hb dX9_count_67 rfl hl (by decide) rfl (fun ls hl => ?_)
      refine lv_iinc (v := 8) (lv' := [(3, .int 8), (2, .int 0), (0, .ref k0), (1, .int p0)]) hx hb dX9_count_68 hl (k := 1) rfl (by decide) (by decide) rfl (fun ls hl => ?_)
      refine lv_goto (tgt := 46) hx hb dX9_count_71 (by decide) ?_
      refine lv_iload_n hx hb dX9_count_46 rfl (lv_at hl 0 rfl) ?_
      refine lv_bipush (v := 16) hx hb dX9_count_47 (by decide) ?_
      refine lv_icmp_ge (tgt := 74) hx hb dX9_count_49 (by decide) (fun c_35 => absurd c_35 (by decide)) (fun c_35 => ?_)
      refine lv_iload_n hx hb dX9_count_52 rfl (lv_at hl 1 rfl) ?_
      refine lv_aload_n hx hb dX9_count_53 rfl (lv_at hl 2 rfl) ?_
      refine lv_iload_n hx hb dX9_count_54 rfl (lv_at hl 0 rfl) ?_
      refine callRV (rest := [.int 0]) (As := [.int 8]) hx hb hml hown htb hK (c_X9_isWatch l D E k0 cm 8 (by decide)) ok_X9_isWatch k_1189 k_1191 ks_39 k_9 k_1192 ⟨(Nat.le_of_ble_eq_true rfl), (Nat.le_of_ble_eq_true rfl)⟩ ⟨(Nat.le_of_ble_eq_true rfl), (Nat.le_of_ble_eq_true rfl)⟩ hl.1 (Nat.le_of_ble_eq_true rfl) rfl rfl dX9_count_55 (hP.sub (ws' := [(k0, .inr (9, mF cm 0 0 0 0 0 0 0 0 0)), ((cm 3), .inl (E 0, 16, .inl (fun _ => -5)))]) [0, 1] rfl) rfl rfl 0 rfl (fun r_37 hw_36 => ?_)
      obtain ⟨hr_37, hw_36⟩ := hw_36
      refine W_top (y := .int 0) (by rw [hr_37]) ?_
      refine lv_if_eq (tgt := 65) hx hb dX9_count_58 (by decide) (fun c_38 => ?_) (fun c_38 => absurd (by decide) c_38)
      refine lv_iconst (v := 0) hx hb dX9_count_65 (by decide) ?_
      refine lv_iadd hx hb dX9_count_66 ?_
      refine W_top (y := .int 0) (by decide) ?_
      refine lv_istore_n (lv' := [(2, .int 0), (3, .int 8), (0, .ref k0), (1, .int p0)]) hx hb dX9_count_67 rfl hl (by decide) rfl (fun ls hl => ?_)
      refine lv_iinc (v := 9) (lv' := [(3, .int 9), (2, .int 0), (0, .ref k0), (1, .int p0)]) hx hb dX9_count_68 hl (k := 1) rfl (by decide) (by decide) rfl (fun ls hl => ?_)
      refine lv_goto (tgt := 46) hx hb dX9_count_71 (by decide) ?_
      refine lv_iload_n hx hb dX9_count_46 rfl (lv_at hl 0 rfl) ?_
      refine lv_bipush (v := 16) hx hb dX9_count_47 (by decide) ?_
      refine lv_icmp_ge (tgt := 74) hx hb dX9_count_49 (by decide) (fun c_39 => absurd c_39 (by decide)) (fun c_39 => ?_)
      refine lv_iload_n hx hb dX9_count_52 rfl (lv_at hl 1 rfl) ?_
      refine lv_aload_n hx hb dX9_count_53 rfl (lv_at hl 2 rfl) ?_
      refine lv_iload_n hx hb dX9_count_54 rfl (lv_at hl 0 rfl) ?_
      refine callRV (rest := [.int 0]) (As := [.int 9]) hx hb hml hown htb hK (c_X9_isWatch l D E k0 cm 9 (by decide)) ok_X9_isWatch k_1189 k_1191 ks_39 k_9 k_1192 ⟨(Nat.le_of_ble_eq_true rfl), (Nat.le_of_ble_eq_true rfl)⟩ ⟨(Nat.le_of_ble_eq_true rfl), (Nat.le_of_ble_eq_true rfl)⟩ hl.1 (Nat.le_of_ble_eq_true rfl) rfl rfl dX9_count_55 (hP.sub (ws' := [(k0, .inr (9, mF cm 0 0 0 0 0 0 0 0 0)), ((cm 3), .inl (E 0, 16, .inl (fun _ => -5)))]) [0, 1] rfl) rfl rfl 0 rfl (fun r_41 hw_40 => ?_)
      obtain ⟨hr_41, hw_40⟩ := hw_40
      refine W_top (y := .int 0) (by rw [hr_41]) ?_
      refine lv_if_eq (tgt := 65) hx hb dX9_count_58 (by decide) (fun c_42 => ?_) (fun c_42 => absurd (by decide) c_42)
      refine lv_iconst (v := 0) hx hb dX9_count_65 (by decide) ?_
      refine lv_iadd hx hb dX9_count_66 ?_
      refine W_top (y := .int 0) (by decide) ?_
      refine lv_istore_n (lv' := [(2, .int 0), (3, .int 9), (0, .ref k0), (1, .int p0)]) hx hb dX9_count_67 rfl hl (by decide) rfl (fun ls hl => ?_)
      refine lv_iinc (v := 10) (lv' := [(3, .int 10), (2, .int 0), (0, .ref k0), (1, .int p0)]) hx hb dX9_count_68 hl (k := 1) rfl (by decide) (by decide) rfl (fun ls hl => ?_)
      refine lv_goto (tgt := 46) hx hb dX9_count_71 (by decide) ?_
      refine lv_iload_n hx hb dX9_count_46 rfl (lv_at hl 0 rfl) ?_
      refine lv_bipush (v := 16) hx hb dX9_count_47 (by decide) ?_
      refine lv_icmp_ge (tgt := 74) hx hb dX9_count_49 (by decide) (fun c_43 => absurd c_43 (by decide)) (fun c_43 => ?_)
      refine lv_iload_n hx hb dX9_count_52 rfl (lv_at hl 1 rfl) ?_
      refine lv_aload_n hx hb dX9_count_53 rfl (lv_at hl 2 rfl) ?_
      refine lv_iload_n hx hb dX9_count_54 rfl (lv_at hl 0 rfl) ?_
      refine callRV (rest := [.int 0]) (As := [.int 10]) hx hb hml hown htb hK (c_X9_isWatch l D E k0 cm 10 (by decide)) ok_X9_isWatch k_1189 k_1191 ks_39 k_9 k_1192 ⟨(Nat.le_of_ble_eq_true rfl), (Nat.le_of_ble_eq_true rfl)⟩ ⟨(Nat.le_of_ble_eq_true rfl), (Nat.le_of_ble_eq_true rfl)⟩ hl.1 (Nat.le_of_ble_eq_true rfl) rfl rfl dX9_count_55 (hP.sub (ws' := [(k0, .inr (9, mF cm 0 0 0 0 0 0 0 0 0)), ((cm 3), .inl (E 0, 16, .inl (fun _ => -5)))]) [0, 1] rfl) rfl rfl 0 rfl (fun r_45 hw_44 => ?_)
      obtain ⟨hr_45, hw_44⟩ := hw_44
      refine W_top (y := .int 0) (by rw [hr_45]) ?_
      refine lv_if_eq (tgt := 65) hx hb dX9_count_58 (by decide) (fun c_46 => ?_) (fun c_46 => absurd (by decide) c_46)
      refine lv_iconst (v := 0) hx hb dX9_count_65 (by decide) ?_
      refine lv_iadd hx hb dX9_count_66 ?_
      refine W_top (y := .int 0) (by decide) ?_
      refine lv_istore_n (lv' := [(2, .int 0), (3, .int 10), (0, .ref k0), (1, .int p0)]) hx hb dX9_count_67 rfl hl (by decide) rfl (fun ls hl => ?_)
      refine lv_iinc (v := 11) (lv' := [(3, .int 11), (2, .int 0), (0, .ref k0), (1, .int p0)]) hx hb dX9_count_68 hl (k := 1) rfl (by decide) (by decide) rfl (fun ls hl => ?_)
      refine lv_goto (tgt := 46) hx hb dX9_count_71 (by decide) ?_
      refine lv_iload_n hx hb dX9_count_46 rfl (lv_at hl 0 rfl) ?_
      refine lv_bipush (v := 16) hx hb dX9_count_47 (by decide) ?_
      refine lv_icmp_ge (tgt := 74) hx hb dX9_count_49 (by decide) (fun c_47 => absurd c_47 (by decide)) (fun c_47 => ?_)
      refine lv_iload_n hx hb dX9_count_52 rfl (lv_at hl 1 rfl) ?_
      refine lv_aload_n hx hb dX9_count_53 rfl (lv_at hl 2 rfl) ?_
      refine lv_iload_n hx hb dX9_count_54 rfl (lv_at hl 0 rfl) ?_
      refine callRV (rest := [.int 0]) (As := [.int 11]) hx hb hml hown htb hK (c_X9_isWatch l D E k0 cm 11 (by decide)) ok_X9_isWatch k_1189 k_1191 ks_39 k_9 k_1192 ⟨(Nat.le_of_ble_eq_true rfl), (Nat.le_of_ble_eq_true rfl)⟩ ⟨(Nat.le_of_ble_eq_true rfl), (Nat.le_of_ble_eq_true rfl)⟩ hl.1 (Nat.le_of_ble_eq_true rfl) rfl rfl dX9_count_55 (hP.sub (ws' := [(k0, .inr (9, mF cm 0 0 0 0 0 0 0 0 0)), ((cm 3), .inl (E 0, 16, .inl (fun _ => -5)))]) [0, 1] rfl) rfl rfl 0 rfl (fun r_49 hw_48 => ?_)
      obtain ⟨hr_49, hw_48⟩ := hw_48
      refine W_top (y := .int 0) (by rw [hr_49]) ?_
      refine lv_if_eq (tgt := 65) hx hb dX9_count_58 (by decide) (fun c_50 => ?_) (fun c_50 => absurd (by decide) c_50)
      refine lv_iconst (v := 0) hx hb dX9_count_65 (by decide) ?_
      refine lv_iadd hx hb dX9_count_66 ?_
      refine W_top (y := .int 0) (by decide) ?_
      refine lv_istore_n (lv' := [(2, .int 0), (3, .int 11), (0, .ref k0), (1, .int p0)]) hx hb dX9_count_67 rfl hl (by decide) rfl (fun ls hl => ?_)
      refine lv_iinc (v := 12) (lv' := [(3, .int 12), (2, .int 0), (0, .ref k0), (1, .int p0)]) hx hb dX9_count_68 hl (k := 1) rfl (by decide) (by decide) rfl (fun ls hl => ?_)
      refine lv_goto (tgt := 46) hx hb dX9_count_71 (by decide) ?_
      refine lv_iload_n hx hb dX9_count_46 rfl (lv_at hl 0 rfl) ?_
      refine lv_bipush (v := 16) hx hb dX9_count_47 (by decide) ?_
      refine lv_icmp_ge (tgt := 74) hx hb dX9_count_49 (by decide) (fun c_51 => absurd c_51 (by decide)) (fun c_51 => ?_)
      refine lv_iload_n hx hb dX9_count_52 rfl (lv_at hl 1 rfl) ?_
      refine lv_aload_n hx hb dX9_count_53 rfl (lv_at hl 2 rfl) ?_
      refine lv_iload_n hx hb dX9_count_54 rfl (lv_at hl 0 rfl) ?_
      refine callRV (rest := [.int 0]) (As := [.int 12]) hx hb hml hown htb hK (c_X9_isWatch l D E k0 cm 12 (by decide)) ok_X9_isWatch k_1189 k_1191 ks_39 k_9 k_1192 ⟨(Nat.le_of_ble_eq_true rfl), (Nat.le_of_ble_eq_true rfl)⟩ ⟨(Nat.le_of_ble_eq_true rfl), (Nat.le_of_ble_eq_true rfl)⟩ hl.1 (Nat.le_of_ble_eq_true rfl) rfl rfl dX9_count_55 (hP.sub (ws' := [(k0, .inr (9, mF cm 0 0 0 0 0 0 0 0 0)), ((cm 3), .inl (E 0, 16, .inl (fun _ => -5)))]) [0, 1] rfl) rfl rfl 0 rfl (fun r_53 hw_52 => ?_)
      obtain ⟨hr_53, hw_52⟩ := hw_52
      refine W_top (y := .int 0) (by rw [hr_53]) ?_
      refine lv_if_eq (tgt := 65) hx hb dX9_count_58 (by decide) (fun c_54 => ?_) (fun c_54 => absurd (by decide) c_54)
      refine lv_iconst (v := 0) hx hb dX9_count_65 (by decide) ?_
      refine lv_iadd hx hb dX9_count_66 ?_
      refine W_top (y := .int 0) (by decide) ?_
      refine lv_istore_n (lv' := [(2, .int 0), (3, .int 12), (0, .ref k0), (1, .int p0)]) hx hb dX9_count_67 rfl hl (by decide) rfl (fun ls hl => ?_)
      refine lv_iinc (v := 13) (lv' := [(3, .int 13), (2, .int 0), (0, .ref k0), (1, .int p0)]) hx hb dX9_count_68 hl (k := 1) rfl (by decide) (by decide) rfl (fun ls hl => ?_)
      refine lv_goto (tgt := 46) hx hb dX9_count_71 (by decide) ?_
      refine lv_iload_n hx hb dX9_count_46 rfl (lv_at hl 0 rfl) ?_
      refine lv_bipush (v := 16) hx hb dX9_count_47 (by decide) ?_
      refine lv_icmp_ge (tgt := 74) hx hb dX9_count_49 (by decide) (fun c_55 => absurd c_55 (by decide)) (fun c_55 => ?_)
      refine lv_iload_n hx hb dX9_count_52 rfl (lv_at hl 1 rfl) ?_
      refine lv_aload_n hx hb dX9_count_53 rfl (lv_at hl 2 rfl) ?_
      refine lv_iload_n hx hb dX9_count_54 rfl (lv_at hl 0 rfl) ?_
      refine callRV (rest := [.int 0]) (As := [.int 13]) hx hb hml hown htb hK (c_X9_isWatch l D E k0 cm 13 (by decide)) ok_X9_isWatch k_1189 k_1191 ks_39 k_9 k_1192 ⟨(Nat.le_of_ble_eq_true rfl), (Nat.le_of_ble_eq_true rfl)⟩ ⟨(Nat.le_of_ble_eq_true rfl), (Nat.le_of_ble_eq_true rfl)⟩ hl.1 (Nat.le_of_ble_eq_true rfl) rfl rfl dX9_count_55 (hP.sub (ws' := [(k0, .inr (9, mF cm 0 0 0 0 0 0 0 0 0)), ((cm 3), .inl (E 0, 16, .inl (fun _ => -5)))]) [0, 1] rfl) rfl rfl 0 rfl (fun r_57 hw_56 => ?_)
      obtain ⟨hr_57, hw_56⟩ := hw_56
      refine W_top (y := .int 0) (by rw [hr_57]) ?_
      refine lv_if_eq (tgt := 65) hx hb dX9_count_58 (by decide) (fun c_58 => ?_) (fun c_58 => absurd (by decide) c_58)
      refine lv_iconst (v := 0) hx hb dX9_count_65 (by decide) ?_
      refine lv_iadd hx hb dX9_count_66 ?_
      refine W_top (y := .int 0) (by decide) ?_
      refine lv_istore_n (lv' := [(2, .int 0), (3, .int 13), (0, .ref k0), (1, .int p0)]) hx hb dX9_count_67 rfl hl (by decide) rfl (fun ls hl => ?_)
      refine lv_iinc (v := 14) (lv' := [(3, .int 14), (2, .int 0), (0, .ref k0), (1, .int p0)]) hx hb dX9_count_68 hl (k := 1) rfl (by decide) (by decide) rfl (fun ls hl => ?_)
      refine lv_goto (tgt := 46) hx hb dX9_count_71 (by decide) ?_
      refine lv_iload_n hx hb dX9_count_46 rfl (lv_at hl 0 rfl) ?_
      refine lv_bipush (v := 16) hx hb dX9_count_47 (by decide) ?_
      refine lv_icmp_ge (tgt := 74) hx hb dX9_count_49 (by decide) (fun c_59 => absurd c_59 (by decide)) (fun c_59 => ?_)
      refine lv_iload_n hx hb dX9_count_52 rfl (lv_at hl 1 rfl) ?_
      refine lv_aload_n hx hb dX9_count_53 rfl (lv_at hl 2 rfl) ?_
      refine lv_iload_n hx hb dX9_count_54 rfl (lv_at hl 0 rfl) ?_
      refine callRV (rest := [.int 0]) (As := [.int 14]) hx hb hml hown htb hK (c_X9_isWatch l D E k0 cm 14 (by decide)) ok_X9_isWatch k_1189 k_1191 ks_39 k_9 k_1192 ⟨(Nat.le_of_ble_eq_true rfl), (Nat.le_of_ble_eq_true rfl)⟩ ⟨(Nat.le_of_ble_eq_true rfl), (Nat.le_of_ble_eq_true rfl)⟩ hl.1 (Nat.le_of_ble_eq_true rfl) rfl rfl dX9_count_55 (hP.sub (ws' := [(k0, .inr (9, mF cm 0 0 0 0 0 0 0 0 0)), ((cm 3), .inl (E 0, 16, .inl (fun _ => -5)))]) [0, 1] rfl) rfl rfl 0 rfl (fun r_61 hw_60 => ?_)
      obtain ⟨hr_61, hw_60⟩ := hw_60
      refine W_top (y := .int 0) (by rw [hr_61]) ?_
      refine lv_if_eq (tgt := 65) hx hb dX9_count_58 (by decide) (fun c_62 => ?_) (fun c_62 => absurd (by decide) c_62)
      refine lv_iconst (v := 0) hx hb dX9_count_65 (by decide) ?_
      refine lv_iadd hx hb dX9_count_66 ?_
      refine W_top (y := .int 0) (by decide) ?_
      refine lv_istore_n (lv' := [(2, .int 0), (3, .int 14), (0, .ref k0), (1, .int p0)]) hx hb dX9_count_67 rfl hl (by decide) rfl (fun ls hl => ?_)
      refine lv_iinc (v := 15) (lv' := [(3, .int 15), (2, .int 0), (0, .ref k0), (1, .int p0)]) hx hb dX9_count_68 hl (k := 1) rfl (by decide) (by decide) rfl (fun ls hl => ?_)
      refine lv_goto (tgt := 46) hx hb dX9_count_71 (by decide) ?_
      refine lv_iload_n hx hb dX9_count_46 rfl (lv_at hl 0 rfl) ?_
      refine lv_bipush (v := 16) hx hb dX9_count_47 (by decide) ?_
      refine lv_icmp_ge (tgt := 74) hx hb dX9_count_49 (by decide) (fun c_63 => absurd c_63 (by decide)) (fun c_63 => ?_)
      refine lv_iload_n hx hb dX9_count_52 rfl (lv_at hl 1 rfl) ?_
      refine lv_aload_n hx hb dX9_count_53 rfl (lv_at hl 2 rfl) ?_
      refine lv_iload_n hx hb dX9_count_54 rfl (lv_at hl 0 rfl) ?_
      refine callRV (rest := [.int 0]) (As := [.int 15]) hx hb hml hown htb hK (c_X9_isWatch l D E k0 cm 15 (by decide)) ok_X9_isWatch k_1189 k_1191 ks_39 k_9 k_1192 ⟨(Nat.le_of_ble_eq_true rfl), (Nat.le_of_ble_eq_true rfl)⟩ ⟨(Nat.le_of_ble_eq_true rfl), (Nat.le_of_ble_eq_true rfl)⟩ hl.1 (Nat.le_of_ble_eq_true rfl) rfl rfl dX9_count_55 (hP.sub (ws' := [(k0, .inr (9, mF cm 0 0 0 0 0 0 0 0 0)), ((cm 3), .inl (E 0, 16, .inl (fun _ => -5)))]) [0, 1] rfl) rfl rfl 0 rfl (fun r_65 hw_64 => ?_)
      obtain ⟨hr_65, hw_64⟩ := hw_64
      refine W_top (y := .int 0) (by rw [hr_65]) ?_
      refine lv_if_eq (tgt := 65) hx hb dX9_count_58 (by decide) (fun c_66 => ?_) (fun c_66 => absurd (by decide) c_66)
      refine lv_iconst (v := 0) hx hb dX9_count_65 (by decide) ?_
      refine lv_iadd hx hb dX9_count_66 ?_
      refine W_top (y := .int 0) (by decide) ?_
      refine lv_istore_n (lv' := [(2, .int 0), (3, .int 15), (0, .ref k0), (1, .int p0)]) hx hb dX9_count_67 rfl hl (by decide) rfl (fun ls hl => ?_)
      refine lv_iinc (v := 16) (lv' := [(3, .int 16), (2, .int 0), (0, .ref k0), (1, .int p0)]) hx hb dX9_count_68 hl (k := 1) rfl (by decide) (by decide) rfl (fun ls hl => ?_)
      refine lv_goto (tgt := 46) hx hb dX9_count_71 (by decide) ?_
      refine lv_iload_n hx hb dX9_count_46 rfl (lv_at hl 0 rfl) ?_
      refine lv_bipush (v := 16) hx hb dX9_count_47 (by decide) ?_
      refine lv_icmp_ge (tgt := 74) hx hb dX9_count_49 (by decide) (fun c_67 => ?_) (fun c_67 => absurd (by decide) c_67)
      refine lv_iload_n hx hb dX9_count_74 rfl (lv_at hl 1 rfl) ?_
      exact W.iret (v := 0) hx hb hr (fun t ht hW => ⟨0, rfl, by first | exact Or.inl ⟨rfl, by omega⟩ | (exfalso; omega), ht⟩) (fun q h => by cases h) dX9_count_75
    ·
      refine lv_tableIn (off := 73) (tgt := 76) hx hb dX9_count_3 (by omega) (by omega) (by rw [h_2]; decide) (by decide) ?_
      refine lv_aload_n hx hb dX9_count_76 rfl (lv_at hl 1 rfl) ?_
      refine va_get (D := D) (ci := 9) (v := .int 0) (C := RX9) (T := TX9) (N := 68) hx hb htb iX9 hown hK.1 hP 0 rfl rfl 1 (by decide) (htb _ k_959) (fun _ h9 => h9) rfl dX9_count_77 ?_
      exact W.iret (v := 0) hx hb hr (fun t ht hW => ⟨0, rfl, by first | exact Or.inl ⟨rfl, by omega⟩ | (exfalso; omega), ht⟩) (fun q h => by cases h) dX9_count_80
    ·
      refine lv_tableIn (off := 78) (tgt := 81) hx hb dX9_count_3 (by omega) (by omega) (by rw [h_2]; decide) (by decide) ?_
      refine lv_aload_n hx hb dX9_count_81 rfl (lv_at hl 1 rfl) ?_
      refine va_get (D := D) (ci := 9) (v := .int 0) (C := RX9) (T := TX9) (N := 68) hx hb htb iX9 hown hK.1 hP 0 rfl rfl 11 (by decide) (htb _ k_969) (fun _ h9 => h9) rfl dX9_count_82 ?_
      exact W.iret (v := 0) hx hb hr (fun t ht hW => ⟨0, rfl, by first | exact Or.inl ⟨rfl, by omega⟩ | (exfalso; omega), ht⟩) (fun q h => by cases h) dX9_count_85
    ·
      refine lv_tableIn (off := 83) (tgt := 86) hx hb dX9_count_3 (by omega) (by omega) (by rw [h_2]; decide) (by decide) ?_
      refine lv_iconst (v := 0) hx hb dX9_count_86 (by decide) ?_
      refine lv_istore_n (lv' := [(3, .int 0), (2, .int 0), (0, .ref k0), (1, .int p0)]) hx hb dX9_count_87 rfl hl (by decide) rfl (fun ls hl => ?_)
      refine lv_iload_n hx hb dX9_count_88 rfl (lv_at hl 0 rfl) ?_
      refine lv_iconst (v := 5) hx hb dX9_count_89 (by decide) ?_
      refine lv_icmp_ge (tgt := 117) hx hb dX9_count_90 (by decide) (fun c_68 => absurd c_68 (by decide)) (fun c_68 => ?_)
      refine lv_iload_n hx hb dX9_count_93 rfl (lv_at hl 1 rfl) ?_
      refine lv_aload_n hx hb dX9_count_94 rfl (lv_at hl 2 rfl) ?_
      refine va_get (D := D) (ci := 9) (v := .ref (cm 47)) (C := RX9) (T := TX9) (N := 68) hx hb htb iX9 hown hK.1 hP 0 rfl rfl 47 (by decide) (htb _ k_1005) (fun _ h9 => h9) rfl dX9_count_95 ?_
      refine lv_iload_n hx hb dX9_count_98 rfl (lv_at hl 0 rfl) ?_
      refine va_iald hx hb hK.1 hP 2 0 rfl rfl (g_in t_0 (by decide) (by decide)) dX9_count_99 ?_
      refine W_top (y := .int 0) rfl ?_
      refine lv_iconst (v := 1) hx hb dX9_count_100 (by decide) ?_
      refine lv_icmp_ne (tgt := 108) hx hb dX9_count_101 (by decide) (fun c_69 => ?_) (fun c_69 => absurd c_69 (by decide))
      refine lv_iconst (v := 0) hx hb dX9_count_108 (by decide) ?_
      refine lv_iadd hx hb dX9_count_109 ?_
      refine W_top (y := .int 0) (by decide) ?_
      refine lv_istore_n (lv' := [(2, .int 0), (3, .int 0), (0, .ref k0), (1, .int p0)]) hx hb dX9_count_110 rfl hl (by decide) rfl (fun ls hl => ?_)
      refine lv_iinc (v := 1) (lv' := [(3, .int 1), (2, .int 0), (0, .ref k0), (1, .int p0)]) hx hb dX9_count_111 hl (k := 1) rfl (by decide) (by decide) rfl (fun ls hl => ?_)
      refine lv_goto (tgt := 88) hx hb dX9_count_114 (by decide) ?_
      refine lv_iload_n hx hb dX9_count_88 rfl (lv_at hl 0 rfl) ?_
      refine lv_iconst (v := 5) hx hb dX9_count_89 (by decide) ?_
      refine lv_icmp_ge (tgt := 117) hx hb dX9_count_90 (by decide) (fun c_70 => absurd c_70 (by decide)) (fun c_70 => ?_)
      refine lv_iload_n hx hb dX9_count_93 rfl (lv_at hl 1 rfl) ?_
      refine lv_aload_n hx hb dX9_count_94 rfl (lv_at hl 2 rfl) ?_
      refine va_get (D := D) (ci := 9) (v := .ref (cm 47)) (C := RX9) (T := TX9) (N := 68) hx hb htb iX9 hown hK.1 hP 0 rfl rfl 47 (by decide) (htb _ k_1005) (fun _ h9 => h9) rfl dX9_count_95 ?_
      refine lv_iload_n hx hb dX9_count_98 rfl (lv_at hl 0 rfl) ?_
      refine va_iald hx hb hK.1 hP 2 0 rfl rfl (g_in t_1 (by decide) (by decide)) dX9_count_99 ?_
      refine W_top (y := .int 0) rfl ?_
      refine lv_iconst (v := 1) hx hb dX9_count_100 (by decide) ?_
      refine lv_icmp_ne (tgt := 108) hx hb dX9_count_101 (by decide) (fun c_71 => ?_) (fun c_71 => absurd c_71 (by decide))
      refine lv_iconst (v := 0) hx hb dX9_count_108 (by decide) ?_
      refine lv_iadd hx hb dX9_count_109 ?_
      refine W_top (y := .int 0) (by decide) ?_
      refine lv_istore_n (lv' := [(2, .int 0), (3, .int 1), (0, .ref k0), (1, .int p0)]) hx hb dX9_count_110 rfl hl (by decide) rfl (fun ls hl => ?_)
      refine lv_iinc (v := 2) (lv' := [(3, .int 2), (2, .int 0), (0, .ref k0), (1, .int p0)]) hx hb dX9_count_111 hl (k := 1) rfl (by decide) (by decide) rfl (fun ls hl => ?_)
      refine lv_goto (tgt := 88) hx hb dX9_count_114 (by decide) ?_
      refine lv_iload_n hx hb dX9_count_88 rfl (lv_at hl 0 rfl) ?_
      refine lv_iconst (v := 5) hx hb dX9_count_89 (by decide) ?_
      refine lv_icmp_ge (tgt := 117) hx hb dX9_count_90 (by decide) (fun c_72 => absurd c_72 (by decide)) (fun c_72 => ?_)
      refine lv_iload_n hx hb dX9_count_93 rfl (lv_at hl 1 rfl) ?_
      refine lv_aload_n hx hb dX9_count_94 rfl (lv_at hl 2 rfl) ?_
      refine va_get (D := D) (ci := 9) (v := .ref (cm 47)) (C := RX9) (T := TX9) (N := 68) hx hb htb iX9 hown hK.1 hP 0 rfl rfl 47 (by decide) (htb _ k_1005) (fun _ h9 => h9) rfl dX9_count_95 ?_
      refine lv_iload_n hx hb dX9_count_98 rfl (lv_at hl 0 rfl) ?_
      refine va_iald hx hb hK.1 hP 2 0 rfl rfl (g_in t_2 (by decide) (by decide)) dX9_count_99 ?_
      refine W_top (y := .int 0) rfl ?_
      refine lv_iconst (v := 1) hx hb dX9_count_100 (by decide) ?_
      refine lv_icmp_ne (tgt := 108) hx hb dX9_count_101 (by decide) (fun c_73 => ?_) (fun c_73 => absurd c_73 (by decide))
      refine lv_iconst (v := 0) hx hb dX9_count_108 (by decide) ?_
      refine lv_iadd hx hb dX9_count_109 ?_
      refine W_top (y := .int 0) (by decide) ?_
      refine lv_istore_n (lv' := [(2, .int 0), (3, .int 2), (0, .ref k0), (1, .int p0)]) hx hb dX9_count_110 rfl hl (by decide) rfl (fun ls hl => ?_)
      refine lv_iinc (v := 3) (lv' := [(3, .int 3), (2, .int 0), (0, .ref k0), (1, .int p0)]) hx hb dX9_count_111 hl (k := 1) rfl (by decide) (by decide) rfl (fun ls hl => ?_)
      refine lv_goto (tgt := 88) hx hb dX9_count_114 (by decide) ?_
      refine lv_iload_n hx hb dX9_count_88 rfl (lv_at hl 0 rfl) ?_
      refine lv_iconst (v := 5) hx hb dX9_count_89 (by decide) ?_
      refine lv_icmp_ge (tgt := 117) hx hb dX9_count_90 (by decide) (fun c_74 => absurd c_74 (by decide)) (fun c_74 => ?_)
      refine lv_iload_n hx hb dX9_count_93 rfl (lv_at hl 1 rfl) ?_
      refine lv_aload_n hx hb dX9_count_94 rfl (lv_at hl 2 rfl) ?_
      refine va_get (D := D) (ci := 9) (v := .ref (cm 47)) (C := RX9) (T := TX9) (N := 68) hx hb htb iX9 hown hK.1 hP 0 rfl rfl 47 (by decide) (htb _ k_1005) (fun _ h9 => h9) rfl dX9_count_95 ?_
      refine lv_iload_n hx hb dX9_count_98 rfl (lv_at hl 0 rfl) ?_
      refine va_iald hx hb hK.1 hP 2 0 rfl rfl (g_in t_3 (by decide) (by decide)) dX9_count_99 ?_
      refine W_top (y := .int 0) rfl ?_
      refine lv_iconst (v := 1) hx hb dX9_count_100 (by decide) ?_
      refine lv_icmp_ne (tgt := 108) hx hb dX9_count_101 (by decide) (fun c_75 => ?_) (fun c_75 => absurd c_75 (by decide))
      refine lv_iconst (v := 0) hx hb dX9_count_108 (by decide) ?_
      refine lv_iadd hx hb dX9_count_109 ?_
      refine W_top (y := .int 0) (by decide) ?_
      refine lv_istore_n (lv' := [(2, .int 0), (3, .int 3), (0, .ref k0), (1, .int p0)]) hx hb dX9_count_110 rfl hl (by decide) rfl (fun ls hl => ?_)
      refine lv_iinc (v := 4) (lv' := [(3, .int 4), (2, .int 0), (0, .ref k0), (1, .int p0)]) hx hb dX9_count_111 hl (k := 1) rfl (by decide) (by decide) rfl (fun ls hl => ?_)
      refine lv_goto (tgt := 88) hx hb dX9_count_114 (by decide) ?_
      refine lv_iload_n hx hb dX9_count_88 rfl (lv_at hl 0 rfl) ?_
      refine lv_iconst (v := 5) hx hb dX9_count_89 (by decide) ?_
      refine lv_icmp_ge (tgt := 117) hx hb dX9_count_90 (by decide) (fun c_76 => absurd c_76 (by decide)) (fun c_76 => ?_)
      refine lv_iload_n hx hb dX9_count_93 rfl (lv_at hl 1 rfl) ?_
      refine lv_aload_n hx hb dX9_count_94 rfl (lv_at hl 2 rfl) ?_
      refine va_get (D := D) (ci := 9) (v := .ref (cm 47)) (C := RX9) (T := TX9) (N := 68) hx hb htb iX9 hown hK.1 hP 0 rfl rfl 47 (by decide) (htb _ k_1005) (fun _ h9 => h9) rfl dX9_count_95 ?_
      refine lv_iload_n hx hb dX9_count_98 rfl (lv_at hl 0 rfl) ?_
      refine va_iald hx hb hK.1 hP 2 0 rfl rfl (g_in t_4 (by decide) (by decide)) dX9_count_99 ?_
      refine W_top (y := .int 0) rfl ?_
      refine lv_iconst (v := 1) hx hb dX9_count_100 (by decide) ?_
      refine lv_icmp_ne (tgt := 108) hx hb dX9_count_101 (by decide) (fun c_77 => ?_) (fun c_77 => absurd c_77 (by decide))
      refine lv_iconst (v := 0) hx hb dX9_count_108 (by decide) ?_
      refine lv_iadd hx hb dX9_count_109 ?_
      refine W_top (y := .int 0) (by decide) ?_
      refine lv_istore_n (lv' := [(2, .int 0), (3, .int 4), (0, .ref k0), (1, .int p0)]) hx hb dX9_count_110 rfl hl (by decide) rfl (fun ls hl => ?_)
      refine lv_iinc (v := 5) (lv' := [(3, .int 5), (2, .int 0), (0, .ref k0), (1, .int p0)]) hx hb dX9_count_111 hl (k := 1) rfl (by decide) (by decide) rfl (fun ls hl => ?_)
      refine lv_goto (tgt := 88) hx hb dX9_count_114 (by decide) ?_
      refine lv_iload_n hx hb dX9_count_88 rfl (lv_at hl 0 rfl) ?_
      refine lv_iconst (v := 5) hx hb dX9_count_89 (by decide) ?_
      refine lv_icmp_ge (tgt := 117) hx hb dX9_count_90 (by decide) (fun c_78 => ?_) (fun c_78 => absurd (by decide) c_78)
      refine lv_iload_n hx hb dX9_count_117 rfl (lv_at hl 1 rfl) ?_
      exact W.iret (v := 0) hx hb hr (fun t ht hW => ⟨0, rfl, by first | exact Or.inl ⟨rfl, by omega⟩ | (exfalso; omega), ht⟩) (fun q h => by cases h) dX9_count_118
    ·
      refine lv_tableIn (off := 116) (tgt := 119) hx hb dX9_count_3 (by omega) (by omega) (by rw [h_2]; decide) (by decide) ?_
      refine lv_aload_n hx hb dX9_count_119 rfl (lv_at hl 1 rfl) ?_
      refine va_get (D := D) (ci := 9) (v := .int 0) (C := RX9) (T := TX9) (N := 68) hx hb htb iX9 hown hK.1 hP 0 rfl rfl 33 (by decide) (htb _ k_991) (fun _ h9 => h9) rfl dX9_count_120 ?_
      exact W.iret (v := 0) hx hb hr (fun t ht hW => ⟨0, rfl, by first | exact Or.inl ⟨rfl, by omega⟩ | (exfalso; omega), ht⟩) (fun q h => by cases h) dX9_count_123
    ·
      refine lv_tableIn (off := 121) (tgt := 124) hx hb dX9_count_3 (by omega) (by omega) (by rw [h_2]; decide) (by decide) ?_
      refine lv_iconst (v := 0) hx hb dX9_count_124 (by decide) ?_
      refine lv_istore_n (lv' := [(3, .int 0), (2, .int 0), (0, .ref k0), (1, .int p0)]) hx hb dX9_count_125 rfl hl (by decide) rfl (fun ls hl => ?_)
      refine lv_iload_n hx hb dX9_count_126 rfl (lv_at hl 0 rfl) ?_
      refine lv_bipush (v := 16) hx hb dX9_count_127 (by decide) ?_
      refine lv_icmp_ge (tgt := 156) hx hb dX9_count_129 (by decide) (fun c_79 => absurd c_79 (by decide)) (fun c_79 => ?_)
      refine lv_iload_n hx hb dX9_count_132 rfl (lv_at hl 1 rfl) ?_
      refine lv_aload_n hx hb dX9_count_133 rfl (lv_at hl 2 rfl) ?_
      refine va_get (D := D) (ci := 9) (v := .ref (cm 3)) (C := RX9) (T := TX9) (N := 68) hx hb htb iX9 hown hK.1 hP 0 rfl rfl 3 (by decide) (htb _ k_961) (fun _ h9 => h9) rfl dX9_count_134 ?_
      refine lv_iload_n hx hb dX9_count_137 rfl (lv_at hl 0 rfl) ?_
      refine va_iald hx hb hK.1 hP 1 0 rfl rfl (g_in t_0 (by decide) (by decide)) dX9_count_138 ?_
      refine W_top (y := .int (-5)) rfl ?_
      refine lv_iconst (v := 2) hx hb dX9_count_139 (by decide) ?_
      refine lv_icmp_ne (tgt := 147) hx hb dX9_count_140 (by decide) (fun c_80 => ?_) (fun c_80 => absurd c_80 (by decide))
      refine lv_iconst (v := 0) hx hb dX9_count_147 (by decide) ?_
      refine lv_iadd hx hb dX9_count_148 ?_
      refine W_top (y := .int 0) (by decide) ?_
      refine lv_istore_n (lv' := [(2, .int 0), (3, .int 0), (0, .ref k0), (1, .int p0)]) hx hb dX9_count_149 rfl hl (by decide) rfl (fun ls hl => ?_)
      refine lv_iinc (v := 1) (lv' := [(3, .int 1), (2, .int 0), (0, .ref k0), (1, .int p0)]) hx hb dX9_count_150 hl (k := 1) rfl (by decide) (by decide) rfl (fun ls hl => ?_)
      refine lv_goto (tgt := 126) hx hb dX9_count_153 (by decide) ?_
      refine lv_iload_n hx hb dX9_count_126 rfl (lv_at hl 0 rfl) ?_
      refine lv_bipush (v := 16) hx hb dX9_count_127 (by decide) ?_
      refine lv_icmp_ge (tgt := 156) hx hb dX9_count_129 (by decide) (fun c_81 => absurd c_81 (by decide)) (fun c_81 => ?_)
      refine lv_iload_n hx hb dX9_count_132 rfl (lv_at hl 1 rfl) ?_
      refine lv_aload_n hx hb dX9_count_133 rfl (lv_at hl 2 rfl) ?_
      refine va_get (D := D) (ci := 9) (v := .ref (cm 3)) (C := RX9) (T := TX9) (N := 68) hx hb htb iX9 hown hK.1 hP 0 rfl rfl 3 (by decide) (htb _ k_961) (fun _ h9 => h9) rfl dX9_count_134 ?_
      refine lv_iload_n hx hb dX9_count_137 rfl (lv_at hl 0 rfl) ?_
      refine va_iald hx hb hK.1 hP 1 0 rfl rfl (g_in t_1 (by decide) (by decide)) dX9_count_138 ?_
      refine W_top (y := .int (-5)) rfl ?_
      refine lv_iconst (v := 2) hx hb dX9_count_139 (by decide) ?_
      refine lv_icmp_ne (tgt := 147) hx hb dX9_count_140 (by decide) (fun c_82 => ?_) (fun c_82 => absurd c_82 (by decide))
      refine lv_iconst (v := 0) hx hb dX9_count_147 (by decide) ?_
      refine lv_iadd hx hb dX9_count_148 ?_
      refine W_top (y := .int 0) (by decide) ?_
      refine lv_istore_n (lv' := [(2, .int 0), (3, .int 1), (0, .ref k0), (1, .int p0)]) hx hb dX9_count_149 rfl hl (by decide) rfl (fun ls hl => ?_)
      refine lv_iinc (v := 2) (lv' := [(3, .int 2), (2, .int 0), (0, .ref k0), (1, .int p0)]) hx hb dX9_count_150 hl (k := 1) rfl (by decide) (by decide) rfl (fun ls hl => ?_)
      refine lv_goto (tgt := 126) hx hb dX9_count_153 (by decide) ?_
      refine lv_iload_n hx hb dX9_count_126 rfl (lv_at hl 0 rfl) ?_
      refine lv_bipush (v := 16) hx hb dX9_count_127 (by decide) ?_
      refine lv_icmp_ge (tgt := 156) hx hb dX9_count_129 (by decide) (fun c_83 => absurd c_83 (by decide)) (fun c_83 => ?_)
      refine lv_iload_n hx hb dX9_count_132 rfl (lv_at hl 1 rfl) ?_
      refine lv_aload_n hx hb dX9_count_133 rfl (lv_at hl 2 rfl) ?_
      refine va_get (D := D) (ci := 9) (v := .ref (cm 3)) (C := RX9) (T := TX9) (N := 68) hx hb htb iX9 hown hK.1 hP 0 rfl rfl 3 (by decide) (htb _ k_961) (fun _ h9 => h9) rfl dX9_count_134 ?_
      refine lv_iload_n hx hb dX9_count_137 rfl (lv_at hl 0 rfl) ?_
      refine va_iald hx hb hK.1 hP 1 0 rfl rfl (g_in t_2 (by decide) (by decide)) dX9_count_138 ?_
      refine W_top (y := .int (-5)) rfl ?_
      refine lv_iconst (v := 2) hx hb dX9_count_139 (by decide) ?_
      refine lv_icmp_ne (tgt := 147) hx hb dX9_count_140 (by decide) (fun c_84 => ?_) (fun c_84 => absurd c_84 (by decide))
      refine lv_iconst (v := 0) hx hb dX9_count_147 (by decide) ?_
      refine lv_iadd hx hb dX9_count_148 ?_
      refine W_top (y := .int 0) (by decide) ?_
      refine lv_istore_n (lv' := [(2, .int 0), (3, .int 2), (0, .ref k0), (1, .int p0)]) hx hb dX9_count_149 rfl hl (by decide) rfl (fun ls hl => ?_)
      refine lv_iinc (v := 3) (lv' := [(3, .int 3), (2, .int 0), (0, .ref k0), (1, .int p0)]) hx hb dX9_count_150 hl (k := 1) rfl (by decide) (by decide) rfl (fun ls hl => ?_)
      refine lv_goto (tgt := 126) hx hb dX9_count_153 (by decide) ?_
      refine lv_iload_n hx hb dX9_count_126 rfl (lv_at hl 0 rfl) ?_
      refine lv_bipush (v := 16) hx hb dX9_count_127 (by decide) ?_
      refine lv_icmp_ge (tgt := 156) hx hb dX9_count_129 (by decide) (fun c_85 => absurd c_85 (by decide)) (fun c_85 => ?_)
      refine lv_iload_n hx hb dX9_count_132 rfl (lv_at hl 1 rfl) ?_
      refine lv_aload_n hx hb dX9_count_133 rfl (lv_at hl 2 rfl) ?_
      refine va_get (D := D) (ci := 9) (v := .ref (cm 3)) (C := RX9) (T := TX9) (N := 68) hx hb htb iX9 hown hK.1 hP 0 rfl rfl 3 (by decide) (htb _ k_961) (fun _ h9 => h9) rfl dX9_count_134 ?_
      refine lv_iload_n hx hb dX9_count_137 rfl (lv_at hl 0 rfl) ?_
      refine va_iald hx hb hK.1 hP 1 0 rfl rfl (g_in t_3 (by decide) (by decide)) dX9_count_138 ?_
      refine W_top (y := .int (-5)) rfl ?_
      refine lv_iconst (v := 2) hx hb dX9_count_139 (by decide) ?_
      refine lv_icmp_ne (tgt := 147) hx hb dX9_count_140 (by decide) (fun c_86 => ?_) (fun c_86 => absurd c_86 (by decide))
      refine lv_iconst (v := 0) hx hb dX9_count_147 (by decide) ?_
      refine lv_iadd hx hb dX9_count_148 ?_
      refine W_top (y := .int 0) (by decide) ?_
      refine lv_istore_n (lv' := [(2, .int 0), (3, .int 3), (0, .ref k0), (1, .int p0)]) hx hb dX9_count_149 rfl hl (by decide) rfl (fun ls hl => ?_)
      refine lv_iinc (v := 4) (lv' := [(3, .int 4), (2, .int 0), (0, .ref k0), (1, .int p0)]) hx hb dX9_count_150 hl (k := 1) rfl (by decide) (by decide) rfl (fun ls hl => ?_)
      refine lv_goto (tgt := 126) hx hb dX9_count_153 (by decide) ?_
      refine lv_iload_n hx hb dX9_count_126 rfl (lv_at hl 0 rfl) ?_
      refine lv_bipush (v := 16) hx hb dX9_count_127 (by decide) ?_
      refine lv_icmp_ge (tgt := 156) hx hb dX9_count_129 (by decide) (fun c_87 => absurd c_87 (by decide)) (fun c_87 => ?_)
      refine lv_iload_n hx hb dX9_count_132 rfl (lv_at hl 1 rfl) ?_
      refine lv_aload_n hx hb dX9_count_133 rfl (lv_at hl 2 rfl) ?_
      refine va_get (D := D) (ci := 9) (v := .ref (cm 3)) (C := RX9) (T := TX9) (N := 68) hx hb htb iX9 hown hK.1 hP 0 rfl rfl 3 (by decide) (htb _ k_961) (fun _ h9 => h9) rfl dX9_count_134 ?_
      refine lv_iload_n hx hb dX9_count_137 rfl (lv_at hl 0 rfl) ?_
      refine va_iald hx hb hK.1 hP 1 0 rfl rfl (g_in t_4 (by decide) (by decide)) dX9_count_138 ?_
      refine W_top (y := .int (-5)) rfl ?_
      refine lv_iconst (v := 2) hx hb dX9_count_139 (by decide) ?_
      refine lv_icmp_ne (tgt := 147) hx hb dX9_count_140 (by decide) (fun c_88 => ?_) (fun c_88 => absurd c_88 (by decide))
      refine lv_iconst (v := 0) hx hb dX9_count_147 (by decide) ?_
      refine lv_iadd hx hb dX9_count_148 ?_
      refine W_top (y := .int 0) (by decide) ?_
      refine lv_istore_n (lv' := [(2, .int 0), (3, .int 4), (0, .ref k0), (1, .int p0)]) hx hb dX9_count_149 rfl hl (by decide) rfl (fun ls hl => ?_)
      refine lv_iinc (v := 5) (lv' := [(3, .int 5), (2, .int 0), (0, .ref k0), (1, .int p0)]) hx hb dX9_count_150 hl (k := 1) rfl (by decide) (by decide) rfl (fun ls hl => ?_)
      refine lv_goto (tgt := 126) hx hb dX9_count_153 (by decide) ?_
      refine lv_iload_n hx hb dX9_count_126 rfl (lv_at hl 0 rfl) ?_
      refine lv_bipush (v := 16) hx hb dX9_count_127 (by decide) ?_
      refine lv_icmp_ge (tgt := 156) hx hb dX9_count_129 (by decide) (fun c_89 => absurd c_89 (by decide)) (fun c_89 => ?_)
      refine lv_iload_n hx hb dX9_count_132 rfl (lv_at hl 1 rfl) ?_
      refine lv_aload_n hx hb dX9_count_133 rfl (lv_at hl 2 rfl) ?_
      refine va_get (D := D) (ci := 9) (v := .ref (cm 3)) (C := RX9) (T := TX9) (N := 68) hx hb htb iX9 hown hK.1 hP 0 rfl rfl 3 (by decide) (htb _ k_961) (fun _ h9 => h9) rfl dX9_count_134 ?_
      refine lv_iload_n hx hb dX9_count_137 rfl (lv_at hl 0 rfl) ?_
      refine va_iald hx hb hK.1 hP 1 0 rfl rfl (g_in t_5 (by decide) (by decide)) dX9_count_138 ?_
      refine W_top (y := .int (-5)) rfl ?_
      refine lv_iconst (v := 2) hx hb dX9_count_139 (by decide) ?_
      refine lv_icmp_ne (tgt := 147) hx hb dX9_count_140 (by decide) (fun c_90 => ?_) (fun c_90 => absurd c_90 (by decide))
      refine lv_iconst (v := 0) hx hb dX9_count_147 (by decide) ?_
      refine lv_iadd hx hb dX9_count_148 ?_
      refine W_top (y := .int 0) (by decide) ?_
      refine lv_istore_n (lv' := [(2, .int 0), (3, .int 5), (0, .ref k0), (1, .int p0)]) hx hb dX9_count_149 rfl hl (by decide) rfl (fun ls hl => ?_)
      refine lv_iinc (v := 6) (lv' := [(3, .int 6), (2, .int 0), (0, .ref k0), (1, .int p0)]) hx hb dX9_count_150 hl (k := 1) rfl (by decide) (by decide) rfl (fun ls hl => ?_)
      refine lv_goto (tgt := 126) hx hb dX9_count_153 (by decide) ?_
      refine lv_iload_n hx hb dX9_count_126 rfl (lv_at hl 0 rfl) ?_
      refine lv_bipush (v := 16) hx hb dX9_count_127 (by decide) ?_
      refine lv_icmp_ge (tgt := 156) hx hb dX9_count_129 (by decide) (fun c_91 => absurd c_91 (by decide)) (fun c_91 => ?_)
      refine lv_iload_n hx hb dX9_count_132 rfl (lv_at hl 1 rfl) ?_
      refine lv_aload_n hx hb dX9_count_133 rfl (lv_at hl 2 rfl) ?_
      refine va_get (D := D) (ci := 9) (v := .ref (cm 3)) (C := RX9) (T := TX9) (N := 68) hx hb htb iX9 hown hK.1 hP 0 rfl rfl 3 (by decide) (htb _ k_961) (fun _ h9 => h9) rfl dX9_count_134 ?_
      refine lv_iload_n hx hb dX9_count_137 rfl (lv_at hl 0 rfl) ?_
      refine va_iald hx hb hK.1 hP 1 0 rfl rfl (g_in t_6 (by decide) (by decide)) dX9_count_138 ?_
      refine W_top (y := .int (-5)) rfl ?_
      refine lv_iconst (v := 2) hx hb dX9_count_139 (by decide) ?_
      refine lv_icmp_ne (tgt := 147) hx hb dX9_count_140 (by decide) (fun c_92 => ?_) (fun c_92 => absurd c_92 (by decide))
      refine lv_iconst (v := 0) hx hb dX9_count_147 (by decide) ?_
      refine lv_iadd hx hb dX9_count_148 ?_
      refine W_top (y := .int 0) (by decide) ?_
      refine lv_istore_n (lv' := [(2, .int 0), (3, .int 6), (0, .ref k0), (1, .int p0)]) hx hb dX9_count_149 rfl hl (by decide) rfl (fun ls hl => ?_)
      refine lv_iinc (v := 7) (lv' := [(3, .int 7), (2, .int 0), (0, .ref k0), (1, .int p0)]) hx hb dX9_count_150 hl (k := 1) rfl (by decide) (by decide) rfl (fun ls hl => ?_)
      refine lv_goto (tgt := 126) hx hb dX9_count_153 (by decide) ?_
      refine lv_iload_n hx hb dX9_count_126 rfl (lv_at hl 0 rfl) ?_
      refine lv_bipush (v := 16) hx hb dX9_count_127 (by decide) ?_
      refine lv_icmp_ge (tgt := 156) hx hb dX9_count_129 (by decide) (fun c_93 => absurd c_93 (by decide)) (fun c_93 => ?_)
      refine lv_iload_n hx hb dX9_count_132 rfl (lv_at hl 1 rfl) ?_
      refine lv_aload_n hx hb dX9_count_133 rfl (lv_at hl 2 rfl) ?_
      refine va_get (D := D) (ci := 9) (v := .ref (cm 3)) (C := RX9) (T := TX9) (N := 68) hx hb htb iX9 hown hK.1 hP 0 rfl rfl 3 (by decide) (htb _ k_961) (fun _ h9 => h9) rfl dX9_count_134 ?_
      refine lv_iload_n hx hb dX9_count_137 rfl (lv_at hl 0 rfl) ?_
      refine va_iald hx hb hK.1 hP 1 0 rfl rfl (g_in t_7 (by decide) (by decide)) dX9_count_138 ?_
      refine W_top (y := .int (-5)) rfl ?_
      refine lv_iconst (v := 2) hx hb dX9_count_139 (by decide) ?_
      refine lv_icmp_ne (tgt := 147) hx hb dX9_count_140 (by decide) (fun c_94 => ?_) (fun c_94 => absurd c_94 (by decide))
      refine lv_iconst (v := 0) hx hb dX9_count_147 (by decide) ?_
      refine lv_iadd hx hb dX9_count_148 ?_
      refine W_top (y := .int 0) (by decide) ?_
      refine lv_istore_n (lv' := [(2, .int 0), (3, .int 7), (0, .ref k0), (1, .int p0)]) hx hb dX9_count_149 rfl hl (by decide) rfl (fun ls hl => ?_)
      refine lv_iinc (v := 8) (lv' := [(3, .int 8), (2, .int 0), (0, .ref k0), (1, .int p0)]) hx hb dX9_count_150 hl (k := 1) rfl (by decide) (by decide) rfl (fun ls hl => ?_)
      refine lv_goto (tgt := 126) hx hb dX9_count_153 (by decide) ?_
      refine lv_iload_n hx hb dX9_count_126 rfl (lv_at hl 0 rfl) ?_
      refine lv_bipush (v := 16) hx hb dX9_count_127 (by decide) ?_
      refine lv_icmp_ge (tgt := 156) hx hb dX9_count_129 (by decide) (fun c_95 => absurd c_95 (by decide)) (fun c_95 => ?_)
      refine lv_iload_n hx hb dX9_count_132 rfl (lv_at hl 1 rfl) ?_
      refine lv_aload_n hx hb dX9_count_133 rfl (lv_at hl 2 rfl) ?_
      refine va_get (D := D) (ci := 9) (v := .ref (cm 3)) (C := RX9) (T := TX9) (N := 68) hx hb htb iX9 hown hK.1 hP 0 rfl rfl 3 (by decide) (htb _ k_961) (fun _ h9 => h9) rfl dX9_count_134 ?_
      refine lv_iload_n hx hb dX9_count_137 rfl (lv_at hl 0 rfl) ?_
      refine va_iald hx hb hK.1 hP 1 0 rfl rfl (g_in t_8 (by decide) (by decide)) dX9_count_138 ?_
      refine W_top (y := .int (-5)) rfl ?_
      refine lv_iconst (v := 2) hx hb dX9_count_139 (by decide) ?_
      refine lv_icmp_ne (tgt := 147) hx hb dX9_count_140 (by decide) (fun c_96 => ?_) (fun c_96 => absurd c_96 (by decide))
      refine lv_iconst (v := 0) hx hb dX9_count_147 (by decide) ?_
      refine lv_iadd hx hb dX9_count_148 ?_
      refine W_top (y := .int 0) (by decide) ?_
      refine lv_istore_n (lv' := [(2, .int 0), (3, .int 8), (0, .ref k0), (1, .int p0)]) hx hb dX9_count_149 rfl hl (by decide) rfl (fun ls hl => ?_)
      refine lv_iinc (v := 9) (lv' := [(3, .int 9), (2, .int 0), (0, .ref k0), (1, .int p0)]) hx hb dX9_count_150 hl (k := 1) rfl (by decide) (by decide) rfl (fun ls hl => ?_)
      refine lv_goto (tgt := 126) hx hb dX9_count_153 (by decide) ?_
      refine lv_iload_n hx hb dX9_count_126 rfl (lv_at hl 0 rfl) ?_
      refine lv_bipush (v := 16) hx hb dX9_count_127 (by decide) ?_
      refine lv_icmp_ge (tgt := 156) hx hb dX9_count_129 (by decide) (fun c_97 => absurd c_97 (by decide)) (fun c_97 => ?_)
      refine lv_iload_n hx hb dX9_count_132 rfl (lv_at hl 1 rfl) ?_
      refine lv_aload_n hx hb dX9_count_133 rfl (lv_at hl 2 rfl) ?_
      refine va_get (D := D) (ci := 9) (v := .ref (cm 3)) (C := RX9) (T := TX9) (N := 68) hx hb htb iX9 hown hK.1 hP 0 rfl rfl 3 (by decide) (htb _ k_961) (fun _ h9 => h9) rfl dX9_count_134 ?_
      refine lv_iload_n hx hb dX9_count_137 rfl (lv_at hl 0 rfl) ?_
      refine va_iald hx hb hK.1 hP 1 0 rfl rfl (g_in t_9 (by decide) (by decide)) dX9_count_138 ?_
      refine W_top (y := .int (-5)) rfl ?_
      refine lv_iconst (v := 2) hx hb dX9_count_139 (by decide) ?_
      refine lv_icmp_ne (tgt := 147) hx hb dX9_count_140 (by decide) (fun c_98 => ?_) (fun c_98 => absurd c_98 (by decide))
      refine lv_iconst (v := 0) hx hb dX9_count_147 (by decide) ?_
      refine lv_iadd hx hb dX9_count_148 ?_
      refine W_top (y := .int 0) (by decide) ?_
      refine lv_istore_n (lv' := [(2, .int 0), (3, .int 9), (0, .ref k0), (1, .int p0)]) hx hb dX9_count_149 rfl hl (by decide) rfl (fun ls hl => ?_)
      refine lv_iinc (v := 10) (lv' := [(3, .int 10), (2, .int 0), (0, .ref k0), (1, .int p0)]) hx hb dX9_count_150 hl (k := 1) rfl (by decide) (by decide) rfl (fun ls hl => ?_)
      refine lv_goto (tgt := 126) hx hb dX9_count_153 (by decide) ?_
      refine lv_iload_n hx hb dX9_count_126 rfl (lv_at hl 0 rfl) ?_
      refine lv_bipush (v := 16) hx hb dX9_count_127 (by decide) ?_
      refine lv_icmp_ge (tgt := 156) hx hb dX9_count_129 (by decide) (fun c_99 => absurd c_99 (by decide)) (fun c_99 => ?_)
      refine lv_iload_n hx hb dX9_count_132 rfl (lv_at hl 1 rfl) ?_
      refine lv_aload_n hx hb dX9_count_133 rfl (lv_at hl 2 rfl) ?_
      refine va_get (D := D) (ci := 9) (v := .ref (cm 3)) (C := RX9) (T := TX9) (N := 68) hx hb htb iX9 hown hK.1 hP 0 rfl rfl 3 (by decide) (htb _ k_961) (fun _ h9 => h9) rfl dX9_count_134 ?_
      refine lv_iload_n hx hb dX9_count_137 rfl (lv_at hl 0 rfl) ?_
      refine va_iald hx hb hK.1 hP 1 0 rfl rfl (g_in t_10 (by decide) (by decide)) dX9_count_138 ?_
      refine W_top (y := .int (-5)) rfl ?_
      refine lv_iconst (v := 2) hx hb dX9_count_139 (by decide) ?_
      refine lv_icmp_ne (tgt := 147) hx hb dX9_count_140 (by decide) (fun c_100 => ?_) (fun c_100 => absurd c_100 (by decide))
      refine lv_iconst (v := 0) hx hb dX9_count_147 (by decide) ?_
      refine lv_iadd hx hb dX9_count_148 ?_
      refine W_top (y := .int 0) (by decide) ?_
      refine lv_istore_n (lv' := [(2, .int 0), (3, .int 10), (0, .ref k0), (1, .int p0)]) hx hb dX9_count_149 rfl hl (by decide) rfl (fun ls hl => ?_)
      refine lv_iinc (v := 11) (lv' := [(3, .int 11), (2, .int 0), (0, .ref k0), (1, .int p0)]) hx hb dX9_count_150 hl (k := 1) rfl (by decide) (by decide) rfl (fun ls hl => ?_)
      refine lv_goto (tgt := 126) hx hb dX9_count_153 (by decide) ?_
      refine lv_iload_n hx hb dX9_count_126 rfl (lv_at hl 0 rfl) ?_
      refine lv_bipush (v := 16) hx hb dX9_count_127 (by decide) ?_
      refine lv_icmp_ge (tgt := 156) hx hb dX9_count_129 (by decide) (fun c_101 => absurd c_101 (by decide)) (fun c_101 => ?_)
      refine lv_iload_n hx hb dX9_count_132 rfl (lv_at hl 1 rfl) ?_
      refine lv_aload_n hx hb dX9_count_133 rfl (lv_at hl 2 rfl) ?_
      refine va_get (D := D) (ci := 9) (v := .ref (cm 3)) (C := RX9) (T := TX9) (N := 68) hx hb htb iX9 hown hK.1 hP 0 rfl rfl 3 (by decide) (htb _ k_961) (fun _ h9 => h9) rfl dX9_count_134 ?_
      refine lv_iload_n hx hb dX9_count_137 rfl (lv_at hl 0 rfl) ?_
      refine va_iald hx hb hK.1 hP 1 0 rfl rfl (g_in t_11 (by decide) (by decide)) dX9_count_138 ?_
      refine W_top (y := .int (-5)) rfl ?_
      refine lv_iconst (v := 2) hx hb dX9_count_139 (by decide) ?_
      refine lv_icmp_ne (tgt := 147) hx hb dX9_count_140 (by decide) (fun c_102 => ?_) (fun c_102 => absurd c_102 (by decide))
      refine lv_iconst (v := 0) hx hb dX9_count_147 (by decide) ?_
      refine lv_iadd hx hb dX9_count_148 ?_
      refine W_top (y := .int 0) (by decide) ?_
      refine lv_istore_n (lv' := [(2, .int 0), (3, .int 11), (0, .ref k0), (1, .int p0)]) hx hb dX9_count_149 rfl hl (by decide) rfl (fun ls hl => ?_)
      refine lv_iinc (v := 12) (lv' := [(3, .int 12), (2, .int 0), (0, .ref k0), (1, .int p0)]) hx hb dX9_count_150 hl (k := 1) rfl (by decide) (by decide) rfl (fun ls hl => ?_)
      refine lv_goto (tgt := 126) hx hb dX9_count_153 (by decide) ?_
      refine lv_iload_n hx hb dX9_count_126 rfl (lv_at hl 0 rfl) ?_
      refine lv_bipush (v := 16) hx hb dX9_count_127 (by decide) ?_
      refine lv_icmp_ge (tgt := 156) hx hb dX9_count_129 (by decide) (fun c_103 => absurd c_103 (by decide)) (fun c_103 => ?_)
      refine lv_iload_n hx hb dX9_count_132 rfl (lv_at hl 1 rfl) ?_
      refine lv_aload_n hx hb dX9_count_133 rfl (lv_at hl 2 rfl) ?_
      refine va_get (D := D) (ci := 9) (v := .ref (cm 3)) (C := RX9) (T := TX9) (N := 68) hx hb htb iX9 hown hK.1 hP 0 rfl rfl 3 (by decide) (htb _ k_961) (fun _ h9 => h9) rfl dX9_count_134 ?_
      refine lv_iload_n hx hb dX9_count_137 rfl (lv_at hl 0 rfl) ?_
      refine va_iald hx hb hK.1 hP 1 0 rfl rfl (g_in t_12 (by decide) (by decide)) dX9_count_138 ?_
      refine W_top (y := .int (-5)) rfl ?_
      refine lv_iconst (v := 2) hx hb dX9_count_139 (by decide) ?_
      refine lv_icmp_ne (tgt := 147) hx hb dX9_count_140 (by decide) (fun c_104 => ?_) (fun c_104 => absurd c_104 (by decide))
      refine lv_iconst (v := 0) hx hb dX9_count_147 (by decide) ?_
      refine lv_iadd hx hb dX9_count_148 ?_
      refine W_top (y := .int 0) (by decide) ?_
      refine lv_istore_n (lv' := [(2, .int 0), (3, .int 12), (0, .ref k0), (1, .int p0)]) hx hb dX9_count_149 rfl hl (by decide) rfl (fun ls hl => ?_)
      refine lv_iinc (v := 13) (lv' := [(3, .int 13), (2, .int 0), (0, .ref k0), (1, .int p0)]) hx hb dX9_count_150 hl (k := 1) rfl (by decide) (by decide) rfl (fun ls hl => ?_)
      refine lv_goto (tgt := 126) hx hb dX9_count_153 (by decide) ?_
      refine lv_iload_n hx hb dX9_count_126 rfl (lv_at hl 0 rfl) ?_
      refine lv_bipush (v := 16) hx hb dX9_count_127 (by decide) ?_
      refine lv_icmp_ge (tgt := 156) hx hb dX9_count_129 (by decide) (fun c_105 => absurd c_105 (by decide)) (fun c_105 => ?_)
      refine lv_iload_n hx hb dX9_count_132 rfl (lv_at hl 1 rfl) ?_
      refine lv_aload_n hx hb dX9_count_133 rfl (lv_at hl 2 rfl) ?_
      refine va_get (D := D) (ci := 9) (v := .ref (cm 3)) (C := RX9) (T := TX9) (N := 68) hx hb htb iX9 hown hK.1 hP 0 rfl rfl 3 (by decide) (htb _ k_961) (fun _ h9 => h9) rfl dX9_count_134 ?_
      refine lv_iload_n hx hb dX9_count_137 rfl (lv_at hl 0 rfl) ?_
      refine va_iald hx hb hK.1 hP 1 0 rfl rfl (g_in t_13 (by decide) (by decide)) dX9_count_138 ?_
      refine W_top (y := .int (-5)) rfl ?_
      refine lv_iconst (v := 2) hx hb dX9_count_139 (by decide) ?_
      refine lv_icmp_ne (tgt := 147) hx hb dX9_count_140 (by decide) (fun c_106 => ?_) (fun c_106 => absurd c_106 (by decide))
      refine lv_iconst (v := 0) hx hb dX9_count_147 (by decide) ?_
      refine lv_iadd hx hb dX9_count_148 ?_
      refine W_top (y := .int 0) (by decide) ?_
      refine lv_istore_n (lv' := [(2, .int 0), (3, .int 13), (0, .ref k0), (1, .int p0)]) hx hb dX9_count_149 rfl hl (by decide) rfl (fun ls hl => ?_)
      refine lv_iinc (v := 14) (lv' := [(3, .int 14), (2, .int 0), (0, .ref k0), (1, .int p0)]) hx hb dX9_count_150 hl (k := 1) rfl (by decide) (by decide) rfl (fun ls hl => ?_)
      refine lv_goto (tgt := 126) hx hb dX9_count_153 (by decide) ?_
      refine lv_iload_n hx hb dX9_count_126 rfl (lv_at hl 0 rfl) ?_
      refine lv_bipush (v := 16) hx hb dX9_count_127 (by decide) ?_
      refine lv_icmp_ge (tgt := 156) hx hb dX9_count_129 (by decide) (fun c_107 => absurd c_107 (by decide)) (fun c_107 => ?_)
      refine lv_iload_n hx hb dX9_count_132 rfl (lv_at hl 1 rfl) ?_
      refine lv_aload_n hx hb dX9_count_133 rfl (lv_at hl 2 rfl) ?_
      refine va_get (D := D) (ci := 9) (v := .ref (cm 3)) (C := RX9) (T := TX9) (N := 68) hx hb htb iX9 hown hK.1 hP 0 rfl rfl 3 (by decide) (htb _ k_961) (fun _ h9 => h9) rfl dX9_count_134 ?_
      refine lv_iload_n hx hb dX9_count_137 rfl (lv_at hl 0 rfl) ?_
      refine va_iald hx hb hK.1 hP 1 0 rfl rfl (g_in t_14 (by decide) (by decide)) dX9_count_138 ?_
      refine W_top (y := .int (-5)) rfl ?_
      refine lv_iconst (v := 2) hx hb dX9_count_139 (by decide) ?_
      refine lv_icmp_ne (tgt := 147) hx hb dX9_count_140 (by decide) (fun c_108 => ?_) (fun c_108 => absurd c_108 (by decide))
      refine lv_iconst (v := 0) hx hb dX9_count_147 (by decide) ?_
      refine lv_iadd hx hb dX9_count_148 ?_
      refine W_top (y := .int 0) (by decide) ?_
      refine lv_istore_n (lv' := [(2, .int 0), (3, .int 14), (0, .ref k0), (1, .int p0)]) hx hb dX9_count_149 rfl hl (by decide) rfl (fun ls hl => ?_)
      refine lv_iinc (v := 15) (lv' := [(3, .int 15), (2, .int 0), (0, .ref k0), (1, .int p0)]) hx hb dX9_count_150 hl (k := 1) rfl (by decide) (by decide) rfl (fun ls hl => ?_)
      refine lv_goto (tgt := 126) hx hb dX9_count_153 (by decide) ?_
      refine lv_iload_n hx hb dX9_count_126 rfl (lv_at hl 0 rfl) ?_
      refine lv_bipush (v := 16) hx hb dX9_count_127 (by decide) ?_
      refine lv_icmp_ge (tgt := 156) hx hb dX9_count_129 (by decide) (fun c_109 => absurd c_109 (by decide)) (fun c_109 => ?_)
      refine lv_iload_n hx hb dX9_count_132 rfl (lv_at hl 1 rfl) ?_
      refine lv_aload_n hx hb dX9_count_133 rfl (lv_at hl 2 rfl) ?_
      refine va_get (D := D) (ci := 9) (v := .ref (cm 3)) (C := RX9) (T := TX9) (N := 68) hx hb htb iX9 hown hK.1 hP 0 rfl rfl 3 (by decide) (htb _ k_961) (fun _ h9 => h9) rfl dX9_count_134 ?_
      refine lv_iload_n hx hb dX9_count_137 rfl (lv_at hl 0 rfl) ?_
      refine va_iald hx hb hK.1 hP 1 0 rfl rfl (g_in t_15 (by decide) (by decide)) dX9_count_138 ?_
      refine W_top (y := .int (-5)) rfl ?_
      refine lv_iconst (v := 2) hx hb dX9_count_139 (by decide) ?_
      refine lv_icmp_ne (tgt := 147) hx hb dX9_count_140 (by decide) (fun c_110 => ?_) (fun c_110 => absurd c_110 (by decide))
      refine lv_iconst (v := 0) hx hb dX9_count_147 (by decide) ?_
      refine lv_iadd hx hb dX9_count_148 ?_
      refine W_top (y := .int 0) (by decide) ?_
      refine lv_istore_n (lv' := [(2, .int 0), (3, .int 15), (0, .ref k0), (1, .int p0)]) hx hb dX9_count_149 rfl hl (by decide) rfl (fun ls hl => ?_)
      refine lv_iinc (v := 16) (lv' := [(3, .int 16), (2, .int 0), (0, .ref k0), (1, .int p0)]) hx hb dX9_count_150 hl (k := 1) rfl (by decide) (by decide) rfl (fun ls hl => ?_)
      refine lv_goto (tgt := 126) hx hb dX9_count_153 (by decide) ?_
      refine lv_iload_n hx hb dX9_count_126 rfl (lv_at hl 0 rfl) ?_
      refine lv_bipush (v := 16) hx hb dX9_count_127 (by decide) ?_
      refine lv_icmp_ge (tgt := 156) hx hb dX9_count_129 (by decide) (fun c_111 => ?_) (fun c_111 => absurd (by decide) c_111)
      refine lv_iload_n hx hb dX9_count_156 rfl (lv_at hl 1 rfl) ?_
      exact W.iret (v := 0) hx hb hr (fun t ht hW => ⟨0, rfl, by first | exact Or.inl ⟨rfl, by omega⟩ | (exfalso; omega), ht⟩) (fun q h => by cases h) dX9_count_157
    ·
      refine lv_tableIn (off := 155) (tgt := 158) hx hb dX9_count_3 (by omega) (by omega) (by rw [h_2]; decide) (by decide) ?_
      refine lv_aload_n hx hb dX9_count_158 rfl (lv_at hl 1 rfl) ?_
      refine va_get (D := D) (ci := 9) (v := .int 0) (C := RX9) (T := TX9) (N := 68) hx hb htb iX9 hown hK.1 hP 0 rfl rfl 61 (by decide) (htb _ k_1019) (fun _ h9 => h9) rfl dX9_count_159 ?_
      exact W.iret (v := 0) hx hb hr (fun t ht hW => ⟨0, rfl, by first | exact Or.inl ⟨rfl, by omega⟩ | (exfalso; omega), ht⟩) (fun q h => by cases h) dX9_count_162
set_option maxHeartbeats 4000000 in
set_option maxRecDepth 100000 in
theorem c_X9_warmth (l : Launch) (D : va_G) (E : Nat → Nat) (k0 : Nat) (cm : Nat → Nat) (fm : Nat → Int32) (p0 : Int32) (p1 : Int32) (sz : Nat)  : Met l yX9_warmth (wl yX9_warmth cX9_warmth 3 (some .int)) (RM 2 0 0) (mu_P D E [.ref k0, .int p0, .int p1] [(k0, .inr (9, mF cm 0 0 0 0 0 0 0 0 0)), ((cm 2), .inl (E 0, 400, .inl fm))] sz) (va_Qi (fun (r : Int32) (u : Unit) => (r = 1 ∧ ((0 ≤ p0.toInt ∧ p0.toInt ≤ 399) ∧ (p1.toInt = -100 ∨ (-50 ≤ p1.toInt ∧ p1.toInt ≤ 50)))) ∨ (r = (-1) ∧ ¬ ((0 ≤ p0.toInt ∧ p0.toInt ≤ 399) ∧ (p1.toInt = -100 ∨ (-50 ≤ p1.toInt ∧ p1.toInt ≤ 50))))) (mu_B D (va_A [(k0, .inr (9, mF cm 0 0 0 0 0 0 0 0 0)), ((cm 2), .inl (E 0, 400, .inl fm))] sz) (fun (u : Unit) => ([] : va_W))) (va_A [(k0, .inr (9, mF cm 0 0 0 0 0 0 0 0 0)), ((cm 2), .inl (E 0, 400, .inl fm))] sz)) 0 0 (va_A [(k0, .inr (9, mF cm 0 0 0 0 0 0 0 0 0)), ((cm 2), .inl (E 0, 400, .inl fm))] sz) := by
  refine Met.ofW (cc := cX9_warmth) (maxL := 3) (ret := (some .int)) (by decide) rfl ?_
  intro p e s m args below meth c s₁ B hml hv
  obtain ⟨rfl, hsz, hP, hK, hD0⟩ := hv
  have hx := B.exec
  have hb := B.bytes
  have hr := B.returns
  have hts := atoms_spec (ws := wl yX9_warmth cX9_warmth 3 (some .int)) B.pre
  have htb : ∀ w ∈ tb, w.before _ s = true := fun w h => hts w (List.mem_cons_of_mem _ h)
  have hown : s.vm.findClass RX9 = some m.cls := findClass_of_methodNamed B.named
  have hlocks := B.notSynchronized
  subst hsz
  have hD := hD0.self (sz := s.heap.size)
  generalize hAe : va_A [(k0, .inr (9, mF cm 0 0 0 0 0 0 0 0 0)), ((cm 2), .inl (E 0, 400, .inl fm))] s.heap.size = A at hD ⊢
  have hA : ∀ q : Nat, s.heap.size ≤ q → A q := fun q h => by rw [← hAe]; exact Or.inr h
  have hS : va_S A s.heap s.heap [] := va_S.rf
  have hP : va_P D vwCl [(k0, .inr (9, mF cm 0 0 0 0 0 0 0 0 0)), ((cm 2), .inl (E 0, 400, .inl fm))] s.heap := hP
  have hl := lv_entry ([.ref k0, .int p0, .int p1]) (n := 3) (Nat.le_of_ble_eq_true rfl)
  rw [lg_entry_eq]
  generalize (lg_sl ([.ref k0, .int p0, .int p1]) ++ List.replicate (3 - (lg_sl ([.ref k0, .int p0, .int p1])).length) Slot.unset).toArray = ls at hl ⊢
  have hl : lv_has ls 3 [(0, .ref k0), (1, .int p0), (2, .int p1)] := hl
  have lo_p0 := i_lo p0
  have hi_p0 := i_hi p0
  have lo_p1 := i_lo p1
  have hi_p1 := i_hi p1
  refine lv_iload_n hx hb dX9_warmth_0 rfl (lv_at hl 1 rfl) ?_
  refine callRS (rest := []) (As := [.int p0]) hx hb hml hown htb hK (c_X9_isDay l D E p0 ) ok_X9_isDay k_1175 k_1176 k_9 k_1177 ⟨(Nat.le_of_ble_eq_true rfl), (Nat.le_of_ble_eq_true rfl)⟩ ⟨(Nat.le_of_ble_eq_true rfl), (Nat.le_of_ble_eq_true rfl)⟩ hl.1 (Nat.le_of_ble_eq_true rfl) rfl rfl dX9_warmth_1 (hP.sub (ws' := ([] : va_W)) [] rfl) (fun r_2 hw_1 => ?_)
  rcases hw_1 with ⟨hr_2, hw_1⟩ | ⟨hr_2, hw_1⟩
  ·
    refine W_top (y := .int 1) (by rw [hr_2]) ?_
    refine lv_if_eq (tgt := 24) hx hb dX9_warmth_4 (by decide) (fun c_3 => absurd c_3 (by decide)) (fun c_3 => ?_)
    refine lv_iload_n hx hb dX9_warmth_7 rfl (lv_at hl 2 rfl) ?_
    refine lv_bipush (v := (-100)) hx hb dX9_warmth_8 (by decide) ?_
    refine lv_icmp_eq (tgt := 26) hx hb dX9_warmth_10 (by decide) (fun c_4 => ?_) (fun c_4 => ?_)
    ·
      have ic_4 : p1.toInt = -100 := (g_eq rfl t_m100).mp c_4
      refine lv_aload_n hx hb dX9_warmth_26 rfl (lv_at hl 0 rfl) ?_
      refine va_get (D := D) (ci := 9) (v := .ref (cm 2)) (C := RX9) (T := TX9) (N := 68) hx hb htb iX9 hown hK.1 hP 0 rfl rfl 2 (by decide) (htb _ k_960) (fun _ h9 => h9) rfl dX9_warmth_27 ?_
      refine lv_iload_n hx hb dX9_warmth_30 rfl (lv_at hl 1 rfl) ?_
      refine lv_iload_n hx hb dX9_warmth_31 rfl (lv_at hl 2 rfl) ?_
      refine lv_bipush (v := (-100)) hx hb dX9_warmth_32 (by decide) ?_
      refine lv_icmp_ne (tgt := 43) hx hb dX9_warmth_34 (by decide) (fun c_5 => absurd (by rw [g_eq rfl t_m100]; omega) c_5) (fun c_5 => ?_)
      refine lv_sipush (v := (-1000)) hx hb dX9_warmth_37 (by decide) ?_
      refine lv_goto (tgt := 44) hx hb dX9_warmth_40 (by decide) ?_
      refine va_iast hx hb hK.1 hP hD hS 1 0 rfl rfl (g_in rfl (by omega) (by omega)) dX9_warmth_44 (fun H locs hP hD hS => ?_)
      have hP : va_P D vwCl [(k0, .inr (9, mF cm 0 0 0 0 0 0 0 0 0)), ((cm 2), .inl (E 0, 400, .inl (upd fm (p0 : Int32).toNatClampNeg (-1000))))] H := hP
      have hD : va_D A [(k0, .inr (9, mF cm 0 0 0 0 0 0 0 0 0)), ((cm 2), .inl (E 0, 400, .inl (upd fm (p0 : Int32).toNatClampNeg (-1000))))] := hD
      refine lv_iconst (v := 1) hx hb dX9_warmth_45 (by decide) ?_
      have hP9 := hP.sub (ws' := ([] : va_W)) [] rfl
      have hD9 := hD.sub (ws' := ([] : va_W)) [] (by decide) rfl
      exact W.iret (v := 1) hx hb hr (fun t ht hW => ⟨⟨1, (), rfl, by first | exact Or.inl ⟨rfl, by omega⟩ | (exfalso; omega), by rw [ht]; exact hP9, hD9⟩, hS.F ht⟩) hS.2.2 dX9_warmth_46
    ·
      have ic_4 : p1.toInt ≠ -100 := mt (g_eq rfl t_m100).mpr c_4
      refine lv_iload_n hx hb dX9_warmth_13 rfl (lv_at hl 2 rfl) ?_
      refine lv_bipush (v := (-50)) hx hb dX9_warmth_14 (by decide) ?_
      refine lv_bipush (v := 50) hx hb dX9_warmth_16 (by decide) ?_
      refine callRS (rest := []) (As := [.int p1, .int (-50), .int 50]) hx hb hml hown htb hK (c_X9_in l D E p1 (-50) 50 ) ok_X9_in k_1168 k_1169 k_9 k_1170 ⟨(Nat.le_of_ble_eq_true rfl), (Nat.le_of_ble_eq_true rfl)⟩ ⟨(Nat.le_of_ble_eq_true rfl), (Nat.le_of_ble_eq_true rfl)⟩ hl.1 (Nat.le_of_ble_eq_true rfl) rfl rfl dX9_warmth_18 (hP.sub (ws' := ([] : va_W)) [] rfl) (fun r_7 hw_6 => ?_)
      rcases hw_6 with ⟨hr_7, hw_6⟩ | ⟨hr_7, hw_6⟩
      ·
        try simp only [t_m50, t_50] at hw_6
        refine W_top (y := .int 1) (by rw [hr_7]) ?_
        refine lv_if_ne (tgt := 26) hx hb dX9_warmth_21 (by decide) (fun c_8 => ?_) (fun c_8 => absurd c_8 (by decide))
        refine lv_aload_n hx hb dX9_warmth_26 rfl (lv_at hl 0 rfl) ?_
        refine va_get (D := D) (ci := 9) (v := .ref (cm 2)) (C := RX9) (T := TX9) (N := 68) hx hb htb iX9 hown hK.1 hP 0 rfl rfl 2 (by decide) (htb _ k_960) (fun _ h9 => h9) rfl dX9_warmth_27 ?_
        refine lv_iload_n hx hb dX9_warmth_30 rfl (lv_at hl 1 rfl) ?_
        refine lv_iload_n hx hb dX9_warmth_31 rfl (lv_at hl 2 rfl) ?_
        refine lv_bipush (v := (-100)) hx hb dX9_warmth_32 (by decide) ?_
        refine lv_icmp_ne (tgt := 43) hx hb dX9_warmth_34 (by decide) (fun c_9 => ?_) (fun c_9 => absurd c_9 (by rw [g_eq rfl t_m100]; omega))
        refine lv_iload_n hx hb dX9_warmth_43 rfl (lv_at hl 2 rfl) ?_
        refine va_iast hx hb hK.1 hP hD hS 1 0 rfl rfl (g_in rfl (by omega) (by omega)) dX9_warmth_44 (fun H locs hP hD hS => ?_)
        have hP : va_P D vwCl [(k0, .inr (9, mF cm 0 0 0 0 0 0 0 0 0)), ((cm 2), .inl (E 0, 400, .inl (upd fm (p0 : Int32).toNatClampNeg p1)))] H := hP
        have hD : va_D A [(k0, .inr (9, mF cm 0 0 0 0 0 0 0 0 0)), ((cm 2), .inl (E 0, 400, .inl (upd fm (p0 : Int32).toNatClampNeg p1)))] := hD
        refine lv_iconst (v := 1) hx hb dX9_warmth_45 (by decide) ?_
        have hP9 := hP.sub (ws' := ([] : va_W)) [] rfl
        have hD9 := hD.sub (ws' := ([] : va_W)) [] (by decide) rfl
        exact W.iret (v := 1) hx hb hr (fun t ht hW => ⟨⟨1, (), rfl, by first | exact Or.inl ⟨rfl, by omega⟩ | (exfalso; omega), by rw [ht]; exact hP9, hD9⟩, hS.F ht⟩) hS.2.2 dX9_warmth_46
      ·
        try simp only [t_m50, t_50] at hw_6
        refine W_top (y := .int 0) (by rw [hr_7]) ?_
        refine lv_if_ne (tgt := 26) hx hb dX9_warmth_21 (by decide) (fun c_10 => absurd (by decide) c_10) (fun c_10 => ?_)
        refine lv_iconst (v := (-1)) hx hb dX9_warmth_24 (by decide) ?_
        have hP9 := hP.sub (ws' := ([] : va_W)) [] rfl
        have hD9 := hD.sub (ws' := ([] : va_W)) [] (by decide) rfl
        exact W.iret (v := (-1)) hx hb hr (fun t ht hW => ⟨⟨(-1), (), rfl, by first | exact Or.inr ⟨rfl, by omega⟩ | (exfalso; omega), by rw [ht]; exact hP9, hD9⟩, hS.F ht⟩) hS.2.2 dX9_warmth_25
  ·
    refine W_top (y := .int 0) (by rw [hr_2]) ?_
    refine lv_if_eq (tgt := 24) hx hb dX9_warmth_4 (by decide) (fun c_11 => ?_) (fun c_11 => absurd (by decide) c_11)
    refine lv_iconst (v := (-1)) hx hb dX9_warmth_24 (by decide) ?_
    have hP9 := hP.sub (ws' := ([] : va_W)) [] rfl
    have hD9 := hD.sub (ws' := ([] : va_W)) [] (by decide) rfl
    exact W.iret (v := (-1)) hx hb hr (fun t ht hW => ⟨⟨(-1), (), rfl, by first | exact Or.inr ⟨rfl, by omega⟩ | (exfalso; omega), by rw [ht]; exact hP9, hD9⟩, hS.F ht⟩) hS.2.2 dX9_warmth_25
set_option maxHeartbeats 4000000 in
set_option maxRecDepth 100000 in
theorem c_X9_off (l : Launch) (D : va_G) (E : Nat → Nat) (k0 : Nat) (cm : Nat → Nat) (p0 : Int32) (p1 : Int32) (p2 : Int32) (p3 : Int32) (sz : Nat)  : Met l yX9_off (wl yX9_off cX9_off 5 (some .int)) (RM 2 0 0) (mu_P D E [.ref k0, .int p0, .int p1, .int p2, .int p3] [(k0, .inr (9, mF cm 0 0 0 0 0 0 0 0 0)), ((cm 12), .inl (E 0, 60, .inl (fun _ => 0))), ((cm 13), .inl (E 0, 60, .inl (fun _ => 0))), ((cm 14), .inl (E 0, 60, .inl (fun _ => 0))), ((cm 15), .inl (E 0, 60, .inl (fun _ => 0))), ((cm 16), .inl (E 0, 60, .inl (fun _ => 0)))] sz) (va_Qi (fun (r : Int32) (u : Unit) => (r = 1 ∧ ((1 ≤ p0.toInt ∧ p0.toInt ≤ 5) ∧ (0 ≤ p1.toInt ∧ p1.toInt ≤ 399) ∧ (0 ≤ p2.toInt ∧ p2.toInt ≤ 399) ∧ p1.toInt ≤ p2.toInt ∧ (-10000 ≤ p3.toInt ∧ p3.toInt ≤ 10000))) ∨ (r = (-1) ∧ ¬ ((1 ≤ p0.toInt ∧ p0.toInt ≤ 5) ∧ (0 ≤ p1.toInt ∧ p1.toInt ≤ 399) ∧ (0 ≤ p2.toInt ∧ p2.toInt ≤ 399) ∧ p1.toInt ≤ p2.toInt ∧ (-10000 ≤ p3.toInt ∧ p3.toInt ≤ 10000)))) (mu_B D (va_A [(k0, .inr (9, mF cm 0 0 0 0 0 0 0 0 0)), ((cm 12), .inl (E 0, 60, .inl (fun _ => 0))), ((cm 13), .inl (E 0, 60, .inl (fun _ => 0))), ((cm 14), .inl (E 0, 60, .inl (fun _ => 0))), ((cm 15), .inl (E 0, 60, .inl (fun _ => 0))), ((cm 16), .inl (E 0, 60, .inl (fun _ => 0)))] sz) (fun (u : Unit) => ([] : va_W))) (va_A [(k0, .inr (9, mF cm 0 0 0 0 0 0 0 0 0)), ((cm 12), .inl (E 0, 60, .inl (fun _ => 0))), ((cm 13), .inl (E 0, 60, .inl (fun _ => 0))), ((cm 14), .inl (E 0, 60, .inl (fun _ => 0))), ((cm 15), .inl (E 0, 60, .inl (fun _ => 0))), ((cm 16), .inl (E 0, 60, .inl (fun _ => 0)))] sz)) 0 0 (va_A [(k0, .inr (9, mF cm 0 0 0 0 0 0 0 0 0)), ((cm 12), .inl (E 0, 60, .inl (fun _ => 0))), ((cm 13), .inl (E 0, 60, .inl (fun _ => 0))), ((cm 14), .inl (E 0, 60, .inl (fun _ => 0))), ((cm 15), .inl (E 0, 60, .inl (fun _ => 0))), ((cm 16), .inl (E 0, 60, .inl (fun _ => 0)))] sz) := by
  refine Met.ofW (cc := cX9_off) (maxL := 5) (ret := (some .int)) (by decide) rfl ?_
  intro p e s m args below meth c s₁ B hml hv
  obtain ⟨rfl, hsz, hP, hK, hD0⟩ := hv
  have hx := B.exec
  have hb := B.bytes
  have hr := B.returns
  have hts := atoms_spec (ws := wl yX9_off cX9_off 5 (some .int)) B.pre
  have htb : ∀ w ∈ tb, w.before _ s = true := fun w h => hts w (List.mem_cons_of_mem _ h)
  have hown : s.vm.findClass RX9 = some m.cls := findClass_of_methodNamed B.named
  have hlocks := B.notSynchronized
  subst hsz
  have hD := hD0.self (sz := s.heap.size)
  generalize hAe : va_A [(k0, .inr (9, mF cm 0 0 0 0 0 0 0 0 0)), ((cm 12), .inl (E 0, 60, .inl (fun _ => 0))), ((cm 13), .inl (E 0, 60, .inl (fun _ => 0))), ((cm 14), .inl (E 0, 60, .inl (fun _ => 0))), ((cm 15), .inl (E 0, 60, .inl (fun _ => 0))), ((cm 16), .inl (E 0, 60, .inl (fun _ => 0)))] s.heap.size = A at hD ⊢
  have hA : ∀ q : Nat, s.heap.size ≤ q → A q := fun q h => by rw [← hAe]; exact Or.inr h
  have hS : va_S A s.heap s.heap [] := va_S.rf
  have hP : va_P D vwCl [(k0, .inr (9, mF cm 0 0 0 0 0 0 0 0 0)), ((cm 12), .inl (E 0, 60, .inl (fun _ => 0))), ((cm 13), .inl (E 0, 60, .inl (fun _ => 0))), ((cm 14), .inl (E 0, 60, .inl (fun _ => 0))), ((cm 15), .inl (E 0, 60, .inl (fun _ => 0))), ((cm 16), .inl (E 0, 60, .inl (fun _ => 0)))] s.heap := hP
  have hl := lv_entry ([.ref k0, .int p0, .int p1, .int p2, .int p3]) (n := 5) (Nat.le_of_ble_eq_true rfl)
  rw [lg_entry_eq]
  generalize (lg_sl ([.ref k0, .int p0, .int p1, .int p2, .int p3]) ++ List.replicate (5 - (lg_sl ([.ref k0, .int p0, .int p1, .int p2, .int p3])).length) Slot.unset).toArray = ls at hl ⊢
  have hl : lv_has ls 5 [(0, .ref k0), (1, .int p0), (2, .int p1), (3, .int p2), (4, .int p3)] := hl
  have lo_p0 := i_lo p0
  have hi_p0 := i_hi p0
  have lo_p1 := i_lo p1
  have hi_p1 := i_hi p1
  have lo_p2 := i_lo p2
  have hi_p2 := i_hi p2
  have lo_p3 := i_lo p3
  have hi_p3 := i_hi p3
  refine lv_iload_n hx hb dX9_off_0 rfl (lv_at hl 1 rfl) ?_
  refine lv_iconst (v := 1) hx hb dX9_off_1 (by decide) ?_
  refine lv_iconst (v := 5) hx hb dX9_off_2 (by decide) ?_
  refine callRS (rest := []) (As := [.int p0, .int 1, .int 5]) hx hb hml hown htb hK (c_X9_in l D E p0 1 5 ) ok_X9_in k_1168 k_1169 k_9 k_1170 ⟨(Nat.le_of_ble_eq_true rfl), (Nat.le_of_ble_eq_true rfl)⟩ ⟨(Nat.le_of_ble_eq_true rfl), (Nat.le_of_ble_eq_true rfl)⟩ hl.1 (Nat.le_of_ble_eq_true rfl) rfl rfl dX9_off_3 (hP.sub (ws' := ([] : va_W)) [] rfl) (fun r_2 hw_1 => ?_)
  rcases hw_1 with ⟨hr_2, hw_1⟩ | ⟨hr_2, hw_1⟩
  ·
    try simp only [t_1, t_5] at hw_1
    refine W_top (y := .int 1) (by rw [hr_2]) ?_
    refine lv_if_eq (tgt := 42) hx hb dX9_off_6 (by decide) (fun c_3 => absurd c_3 (by decide)) (fun c_3 => ?_)
    refine lv_iload_n hx hb dX9_off_9 rfl (lv_at hl 2 rfl) ?_
    refine callRS (rest := []) (As := [.int p1]) hx hb hml hown htb hK (c_X9_isDay l D E p1 ) ok_X9_isDay k_1175 k_1176 k_9 k_1177 ⟨(Nat.le_of_ble_eq_true rfl), (Nat.le_of_ble_eq_true rfl)⟩ ⟨(Nat.le_of_ble_eq_true rfl), (Nat.le_of_ble_eq_true rfl)⟩ hl.1 (Nat.le_of_ble_eq_true rfl) rfl rfl dX9_off_10 (hP.sub (ws' := ([] : va_W)) [] rfl) (fun r_5 hw_4 => ?_)
    rcases hw_4 with ⟨hr_5, hw_4⟩ | ⟨hr_5, hw_4⟩
    ·
      refine W_top (y := .int 1) (by rw [hr_5]) ?_
      refine lv_if_eq (tgt := 42) hx hb dX9_off_13 (by decide) (fun c_6 => absurd c_6 (by decide)) (fun c_6 => ?_)
      refine lv_iload_n hx hb dX9_off_16 rfl (lv_at hl 3 rfl) ?_
      refine callRS (rest := []) (As := [.int p2]) hx hb hml hown htb hK (c_X9_isDay l D E p2 ) ok_X9_isDay k_1175 k_1176 k_9 k_1177 ⟨(Nat.le_of_ble_eq_true rfl), (Nat.le_of_ble_eq_true rfl)⟩ ⟨(Nat.le_of_ble_eq_true rfl), (Nat.le_of_ble_eq_true rfl)⟩ hl.1 (Nat.le_of_ble_eq_true rfl) rfl rfl dX9_off_17 (hP.sub (ws' := ([] : va_W)) [] rfl) (fun r_8 hw_7 => ?_)
      rcases hw_7 with ⟨hr_8, hw_7⟩ | ⟨hr_8, hw_7⟩
      ·
        refine W_top (y := .int 1) (by rw [hr_8]) ?_
        refine lv_if_eq (tgt := 42) hx hb dX9_off_20 (by decide) (fun c_9 => absurd c_9 (by decide)) (fun c_9 => ?_)
        refine lv_iload_n hx hb dX9_off_23 rfl (lv_at hl 2 rfl) ?_
        refine lv_iload_n hx hb dX9_off_24 rfl (lv_at hl 3 rfl) ?_
        refine lv_icmp_gt (tgt := 42) hx hb dX9_off_25 (by decide) (fun c_10 => ?_) (fun c_10 => ?_)
        ·
          have ic_10 : p2.toInt < p1.toInt := by first | exact (g_lt rfl rfl).mp c_10 | (have h := mt (g_le rfl rfl).mpr c_10; omega)
          refine lv_iconst (v := (-1)) hx hb dX9_off_42 (by decide) ?_
          have hP9 := hP.sub (ws' := ([] : va_W)) [] rfl
          have hD9 := hD.sub (ws' := ([] : va_W)) [] (by decide) rfl
          exact W.iret (v := (-1)) hx hb hr (fun t ht hW => ⟨⟨(-1), (), rfl, by first | exact Or.inr ⟨rfl, by omega⟩ | (exfalso; omega), by rw [ht]; exact hP9, hD9⟩, hS.F ht⟩) hS.2.2 dX9_off_43
        ·
          have ic_10 : p1.toInt ≤ p2.toInt := by first | exact (g_le rfl rfl).mp c_10 | (have h := mt (g_lt rfl rfl).mpr c_10; omega)
          refine lv_iload hx hb dX9_off_28 (lv_at hl 4 rfl) ?_
          refine lv_sipush (v := (-10000)) hx hb dX9_off_30 (by decide) ?_
          refine lv_sipush (v := 10000) hx hb dX9_off_33 (by decide) ?_
          refine callRS (rest := []) (As := [.int p3, .int (-10000), .int 10000]) hx hb hml hown htb hK (c_X9_in l D E p3 (-10000) 10000 ) ok_X9_in k_1168 k_1169 k_9 k_1170 ⟨(Nat.le_of_ble_eq_true rfl), (Nat.le_of_ble_eq_true rfl)⟩ ⟨(Nat.le_of_ble_eq_true rfl), (Nat.le_of_ble_eq_true rfl)⟩ hl.1 (Nat.le_of_ble_eq_true rfl) rfl rfl dX9_off_36 (hP.sub (ws' := ([] : va_W)) [] rfl) (fun r_12 hw_11 => ?_)
          rcases hw_11 with ⟨hr_12, hw_11⟩ | ⟨hr_12, hw_11⟩
          ·
            try simp only [t_m10000, t_10000] at hw_11
            refine W_top (y := .int 1) (by rw [hr_12]) ?_
            refine lv_if_ne (tgt := 44) hx hb dX9_off_39 (by decide) (fun c_13 => ?_) (fun c_13 => absurd c_13 (by decide))
            refine lv_aload_n hx hb dX9_off_44 rfl (lv_at hl 0 rfl) ?_
            refine va_get (D := D) (ci := 9) (v := .int 0) (C := RX9) (T := TX9) (N := 68) hx hb htb iX9 hown hK.1 hP 0 rfl rfl 11 (by decide) (htb _ k_969) (fun _ h9 => h9) rfl dX9_off_45 ?_
            refine lv_bipush (v := 60) hx hb dX9_off_48 (by decide) ?_
            refine lv_icmp_ne (tgt := 56) hx hb dX9_off_50 (by decide) (fun c_14 => ?_) (fun c_14 => absurd c_14 (by decide))
            refine lv_aload_n hx hb dX9_off_56 rfl (lv_at hl 0 rfl) ?_
            refine va_get (D := D) (ci := 9) (v := .ref (cm 12)) (C := RX9) (T := TX9) (N := 68) hx hb htb iX9 hown hK.1 hP 0 rfl rfl 12 (by decide) (htb _ k_970) (fun _ h9 => h9) rfl dX9_off_57 ?_
            refine lv_aload_n hx hb dX9_off_60 rfl (lv_at hl 0 rfl) ?_
            refine va_get (D := D) (ci := 9) (v := .int 0) (C := RX9) (T := TX9) (N := 68) hx hb htb iX9 hown hK.1 hP 0 rfl rfl 11 (by decide) (htb _ k_969) (fun _ h9 => h9) rfl dX9_off_61 ?_
            refine lv_iload_n hx hb dX9_off_64 rfl (lv_at hl 1 rfl) ?_
            refine va_iast hx hb hK.1 hP hD hS 1 0 rfl rfl (g_in t_0 (by decide) (by decide)) dX9_off_65 (fun H locs hP hD hS => ?_)
            have hP : va_P D vwCl [(k0, .inr (9, mF cm 0 0 0 0 0 0 0 0 0)), ((cm 12), .inl (E 0, 60, .inl (upd (fun _ => 0) (0 : Int32).toNatClampNeg p0))), ((cm 13), .inl (E 0, 60, .inl (fun _ => 0))), ((cm 14), .inl (E 0, 60, .inl (fun _ => 0))), ((cm 15), .inl (E 0, 60, .inl (fun _ => 0))), ((cm 16), .inl (E 0, 60, .inl (fun _ => 0)))] H := hP
            have hD : va_D A [(k0, .inr (9, mF cm 0 0 0 0 0 0 0 0 0)), ((cm 12), .inl (E 0, 60, .inl (upd (fun _ => 0) (0 : Int32).toNatClampNeg p0))), ((cm 13), .inl (E 0, 60, .inl (fun _ => 0))), ((cm 14), .inl (E 0, 60, .inl (fun _ => 0))), ((cm 15), .inl (E 0, 60, .inl (fun _ => 0))), ((cm 16), .inl (E 0, 60, .inl (fun _ => 0)))] := hD
            refine lv_aload_n hx hb dX9_off_66 rfl (lv_at hl 0 rfl) ?_
            refine va_get (D := D) (ci := 9) (v := .ref (cm 13)) (C := RX9) (T := TX9) (N := 68) hx hb htb iX9 hown hK.1 hP 0 rfl rfl 13 (by decide) (htb _ k_971) (fun _ h9 => h9) rfl dX9_off_67 ?_
            refine lv_aload_n hx hb dX9_off_70 rfl (lv_at hl 0 rfl) ?_
            refine va_get (D := D) (ci := 9) (v := .int 0) (C := RX9) (T := TX9) (N := 68) hx hb htb iX9 hown hK.1 hP 0 rfl rfl 11 (by decide) (htb _ k_969) (fun _ h9 => h9) rfl dX9_off_71 ?_
            refine lv_iload_n hx hb dX9_off_74 rfl (lv_at hl 2 rfl) ?_
            refine va_iast hx hb hK.1 hP hD hS 2 0 rfl rfl (g_in t_0 (by decide) (by decide)) dX9_off_75 (fun H locs hP hD hS => ?_)
            have hP : va_P D vwCl [(k0, .inr (9, mF cm 0 0 0 0 0 0 0 0 0)), ((cm 12), .inl (E 0, 60, .inl (upd (fun _ => 0) (0 : Int32).toNatClampNeg p0))), ((cm 13), .inl (E 0, 60, .inl (upd (fun _ => 0) (0 : Int32).toNatClampNeg p1))), ((cm 14), .inl (E 0, 60, .inl (fun _ => 0))), ((cm 15), .inl (E 0, 60, .inl (fun _ => 0))), ((cm 16), .inl (E 0, 60, .inl (fun _ => 0)))] H := hP
            have hD : va_D A [(k0, .inr (9, mF cm 0 0 0 0 0 0 0 0 0)), ((cm 12), .inl (E 0, 60, .inl (upd (fun _ => 0) (0 : Int32).toNatClampNeg p0))), ((cm 13), .inl (E 0, 60, .inl (upd (fun _ => 0) (0 : Int32).toNatClampNeg p1))), ((cm 14), .inl (E 0, 60, .inl (fun _ => 0))), ((cm 15), .inl (E 0, 60, .inl (fun _ => 0))), ((cm 16), .inl (E 0, 60, .inl (fun _ => 0)))] := hD
            refine lv_aload_n hx hb dX9_off_76 rfl (lv_at hl 0 rfl) ?_
            refine va_get (D := D) (ci := 9) (v := .ref (cm 14)) (C := RX9) (T := TX9) (N := 68) hx hb htb iX9 hown hK.1 hP 0 rfl rfl 14 (by decide) (htb _ k_972) (fun _ h9 => h9) rfl dX9_off_77 ?_
            refine lv_aload_n hx hb dX9_off_80 rfl (lv_at hl 0 rfl) ?_
            refine va_get (D := D) (ci := 9) (v := .int 0) (C := RX9) (T := TX9) (N := 68) hx hb htb iX9 hown hK.1 hP 0 rfl rfl 11 (by decide) (htb _ k_969) (fun _ h9 => h9) rfl dX9_off_81 ?_
            refine lv_iload_n hx hb dX9_off_84 rfl (lv_at hl 3 rfl) ?_
            refine va_iast hx hb hK.1 hP hD hS 3 0 rfl rfl (g_in t_0 (by decide) (by decide)) dX9_off_85 (fun H locs hP hD hS => ?_)
            have hP : va_P D vwCl [(k0, .inr (9, mF cm 0 0 0 0 0 0 0 0 0)), ((cm 12), .inl (E 0, 60, .inl (upd (fun _ => 0) (0 : Int32).toNatClampNeg p0))), ((cm 13), .inl (E 0, 60, .inl (upd (fun _ => 0) (0 : Int32).toNatClampNeg p1))), ((cm 14), .inl (E 0, 60, .inl (upd (fun _ => 0) (0 : Int32).toNatClampNeg p2))), ((cm 15), .inl (E 0, 60, .inl (fun _ => 0))), ((cm 16), .inl (E 0, 60, .inl (fun _ => 0)))] H := hP
            have hD : va_D A [(k0, .inr (9, mF cm 0 0 0 0 0 0 0 0 0)), ((cm 12), .inl (E 0, 60, .inl (upd (fun _ => 0) (0 : Int32).toNatClampNeg p0))), ((cm 13), .inl (E 0, 60, .inl (upd (fun _ => 0) (0 : Int32).toNatClampNeg p1))), ((cm 14), .inl (E 0, 60, .inl (upd (fun _ => 0) (0 : Int32).toNatClampNeg p2))), ((cm 15), .inl (E 0, 60, .inl (fun _ => 0))), ((cm 16), .inl (E 0, 60, .inl (fun _ => 0)))] := hD
            refine lv_aload_n hx hb dX9_off_86 rfl (lv_at hl 0 rfl) ?_
            refine va_get (D := D) (ci := 9) (v := .ref (cm 15)) (C := RX9) (T := TX9) (N := 68) hx hb htb iX9 hown hK.1 hP 0 rfl rfl 15 (by decide) (htb _ k_973) (fun _ h9 => h9) rfl dX9_off_87 ?_
            refine lv_aload_n hx hb dX9_off_90 rfl (lv_at hl 0 rfl) ?_
            refine va_get (D := D) (ci := 9) (v := .int 0) (C := RX9) (T := TX9) (N := 68) hx hb htb iX9 hown hK.1 hP 0 rfl rfl 11 (by decide) (htb _ k_969) (fun _ h9 => h9) rfl dX9_off_91 ?_
            refine lv_iload hx hb dX9_off_94 (lv_at hl 4 rfl) ?_
            refine va_iast hx hb hK.1 hP hD hS 4 0 rfl rfl (g_in t_0 (by decide) (by decide)) dX9_off_96 (fun H locs hP hD hS => ?_)
            have hP : va_P D vwCl [(k0, .inr (9, mF cm 0 0 0 0 0 0 0 0 0)), ((cm 12), .inl (E 0, 60, .inl (upd (fun _ => 0) (0 : Int32).toNatClampNeg p0))), ((cm 13), .inl (E 0, 60, .inl (upd (fun _ => 0) (0 : Int32).toNatClampNeg p1))), ((cm 14), .inl (E 0, 60, .inl (upd (fun _ => 0) (0 : Int32).toNatClampNeg p2))), ((cm 15), .inl (E 0, 60, .inl (upd (fun _ => 0) (0 : Int32).toNatClampNeg p3))), ((cm 16), .inl (E 0, 60, .inl (fun _ => 0)))] H := hP
            have hD : va_D A [(k0, .inr (9, mF cm 0 0 0 0 0 0 0 0 0)), ((cm 12), .inl (E 0, 60, .inl (upd (fun _ => 0) (0 : Int32).toNatClampNeg p0))), ((cm 13), .inl (E 0, 60, .inl (upd (fun _ => 0) (0 : Int32).toNatClampNeg p1))), ((cm 14), .inl (E 0, 60, .inl (upd (fun _ => 0) (0 : Int32).toNatClampNeg p2))), ((cm 15), .inl (E 0, 60, .inl (upd (fun _ => 0) (0 : Int32).toNatClampNeg p3))), ((cm 16), .inl (E 0, 60, .inl (fun _ => 0)))] := hD
            refine lv_aload_n hx hb dX9_off_97 rfl (lv_at hl 0 rfl) ?_
            refine va_get (D := D) (ci := 9) (v := .ref (cm 16)) (C := RX9) (T := TX9) (N := 68) hx hb htb iX9 hown hK.1 hP 0 rfl rfl 16 (by decide) (htb _ k_974) (fun _ h9 => h9) rfl dX9_off_98 ?_
            refine lv_aload_n hx hb dX9_off_101 rfl (lv_at hl 0 rfl) ?_
            refine va_get (D := D) (ci := 9) (v := .int 0) (C := RX9) (T := TX9) (N := 68) hx hb htb iX9 hown hK.1 hP 0 rfl rfl 11 (by decide) (htb _ k_969) (fun _ h9 => h9) rfl dX9_off_102 ?_
            refine lv_aload_n hx hb dX9_off_105 rfl (lv_at hl 0 rfl) ?_
            refine va_get (D := D) (ci := 9) (v := .int 0) (C := RX9) (T := TX9) (N := 68) hx hb htb iX9 hown hK.1 hP 0 rfl rfl 1 (by decide) (htb _ k_959) (fun _ h9 => h9) rfl dX9_off_106 ?_
            refine va_iast hx hb hK.1 hP hD hS 5 0 rfl rfl (g_in t_0 (by decide) (by decide)) dX9_off_109 (fun H locs hP hD hS => ?_)
            have hP : va_P D vwCl [(k0, .inr (9, mF cm 0 0 0 0 0 0 0 0 0)), ((cm 12), .inl (E 0, 60, .inl (upd (fun _ => 0) (0 : Int32).toNatClampNeg p0))), ((cm 13), .inl (E 0, 60, .inl (upd (fun _ => 0) (0 : Int32).toNatClampNeg p1))), ((cm 14), .inl (E 0, 60, .inl (upd (fun _ => 0) (0 : Int32).toNatClampNeg p2))), ((cm 15), .inl (E 0, 60, .inl (upd (fun _ => 0) (0 : Int32).toNatClampNeg p3))), ((cm 16), .inl (E 0, 60, .inl (upd (fun _ => 0) (0 : Int32).toNatClampNeg 0)))] H := hP
            have hD : va_D A [(k0, .inr (9, mF cm 0 0 0 0 0 0 0 0 0)), ((cm 12), .inl (E 0, 60, .inl (upd (fun _ => 0) (0 : Int32).toNatClampNeg p0))), ((cm 13), .inl (E 0, 60, .inl (upd (fun _ => 0) (0 : Int32).toNatClampNeg p1))), ((cm 14), .inl (E 0, 60, .inl (upd (fun _ => 0) (0 : Int32).toNatClampNeg p2))), ((cm 15), .inl (E 0, 60, .inl (upd (fun _ => 0) (0 : Int32).toNatClampNeg p3))), ((cm 16), .inl (E 0, 60, .inl (upd (fun _ => 0) (0 : Int32).toNatClampNeg 0)))] := hD
            refine lv_aload_n hx hb dX9_off_110 rfl (lv_at hl 0 rfl) ?_
            refine lv_dup hx hb dX9_off_111 rfl ?_
            refine va_get (D := D) (ci := 9) (v := .int 0) (C := RX9) (T := TX9) (N := 68) hx hb htb iX9 hown hK.1 hP 0 rfl rfl 11 (by decide) (htb _ k_969) (fun _ h9 => h9) rfl dX9_off_112 ?_
            refine lv_iconst (v := 1) hx hb dX9_off_115 (by decide) ?_
            refine lv_iadd hx hb dX9_off_116 ?_
            refine W_top (y := .int 1) (by decide) ?_
            refine va_put (D := D) (ci := 9) (v := .int 1) (ty := .int) (C := RX9) (T := TX9) (N := 68) hx hb htb iX9 tyX9 tyX9_ok nmX9 hown hK.1 hP hD hS 0 rfl rfl 11 (by decide) (htb _ k_969) (fun _ h9 => h9) rfl (by decide +kernel) rfl rfl (Nat.le_of_ble_eq_true rfl) dX9_off_117 (fun H locs hP hD hS => ?_)
            have hP : va_P D vwCl [(k0, .inr (9, mF cm 0 1 0 0 0 0 0 0 0)), ((cm 12), .inl (E 0, 60, .inl (upd (fun _ => 0) (0 : Int32).toNatClampNeg p0))), ((cm 13), .inl (E 0, 60, .inl (upd (fun _ => 0) (0 : Int32).toNatClampNeg p1))), ((cm 14), .inl (E 0, 60, .inl (upd (fun _ => 0) (0 : Int32).toNatClampNeg p2))), ((cm 15), .inl (E 0, 60, .inl (upd (fun _ => 0) (0 : Int32).toNatClampNeg p3))), ((cm 16), .inl (E 0, 60, .inl (upd (fun _ => 0) (0 : Int32).toNatClampNeg 0)))] H := hP
            have hD : va_D A [(k0, .inr (9, mF cm 0 1 0 0 0 0 0 0 0)), ((cm 12), .inl (E 0, 60, .inl (upd (fun _ => 0) (0 : Int32).toNatClampNeg p0))), ((cm 13), .inl (E 0, 60, .inl (upd (fun _ => 0) (0 : Int32).toNatClampNeg p1))), ((cm 14), .inl (E 0, 60, .inl (upd (fun _ => 0) (0 : Int32).toNatClampNeg p2))), ((cm 15), .inl (E 0, 60, .inl (upd (fun _ => 0) (0 : Int32).toNatClampNeg p3))), ((cm 16), .inl (E 0, 60, .inl (upd (fun _ => 0) (0 : Int32).toNatClampNeg 0)))] := hD
            refine lv_aload_n hx hb dX9_off_120 rfl (lv_at hl 0 rfl) ?_
            refine va_get (D := D) (ci := 9) (v := .int 1) (C := RX9) (T := TX9) (N := 68) hx hb htb iX9 hown hK.1 hP 0 rfl rfl 11 (by decide) (htb _ k_969) (fun _ h9 => h9) rfl dX9_off_121 ?_
            have hP9 := hP.sub (ws' := ([] : va_W)) [] rfl
            have hD9 := hD.sub (ws' := ([] : va_W)) [] (by decide) rfl
            exact W.iret (v := 1) hx hb hr (fun t ht hW => ⟨⟨1, (), rfl, by first | exact Or.inl ⟨rfl, by omega⟩ | (exfalso; omega), by rw [ht]; exact hP9, hD9⟩, hS.F ht⟩) hS.2.2 dX9_off_124
          ·
            try simp only [t_m10000, t_10000] at hw_11
            refine W_top (y := .int 0) (by rw [hr_12]) ?_
            refine lv_if_ne (tgt := 44) hx hb dX9_off_39 (by decide) (fun c_15 => absurd (by decide) c_15) (fun c_15 => ?_)
            refine lv_iconst (v := (-1)) hx hb dX9_off_42 (by decide) ?_
            have hP9 := hP.sub (ws' := ([] : va_W)) [] rfl
            have hD9 := hD.sub (ws' := ([] : va_W)) [] (by decide) rfl
            exact W.iret (v := (-1)) hx hb hr (fun t ht hW => ⟨⟨(-1), (), rfl, by first | exact Or.inr ⟨rfl, by omega⟩ | (exfalso; omega), by rw [ht]; exact hP9, hD9⟩, hS.F ht⟩) hS.2.2 dX9_off_43
      ·
        refine W_top (y := .int 0) (by rw [hr_8]) ?_
        refine lv_if_eq (tgt := 42) hx hb dX9_off_20 (by decide) (fun c_16 => ?_) (fun c_16 => absurd (by decide) c_16)
        refine lv_iconst (v := (-1)) hx hb dX9_off_42 (by decide) ?_
        have hP9 := hP.sub (ws' := ([] : va_W)) [] rfl
        have hD9 := hD.sub (ws' := ([] : va_W)) [] (by decide) rfl
        exact W.iret (v := (-1)) hx hb hr (fun t ht hW => ⟨⟨(-1), (), rfl, by first | exact Or.inr ⟨rfl, by omega⟩ | (exfalso; omega), by rw [ht]; exact hP9, hD9⟩, hS.F ht⟩) hS.2.2 dX9_off_43
    ·
      refine W_top (y := .int 0) (by rw [hr_5]) ?_
      refine lv_if_eq (tgt := 42) hx hb dX9_off_13 (by decide) (fun c_17 => ?_) (fun c_17 => absurd (by decide) c_17)
      refine lv_iconst (v := (-1)) hx hb dX9_off_42 (by decide) ?_
      have hP9 := hP.sub (ws' := ([] : va_W)) [] rfl
      have hD9 := hD.sub (ws' := ([] : va_W)) [] (by decide) rfl
      exact W.iret (v := (-1)) hx hb hr (fun t ht hW => ⟨⟨(-1), (), rfl, by first | exact Or.inr ⟨rfl, by omega⟩ | (exfalso; omega), by rw [ht]; exact hP9, hD9⟩, hS.F ht⟩) hS.2.2 dX9_off_43
  ·
    try simp only [t_1, t_5] at hw_1
    refine W_top (y := .int 0) (by rw [hr_2]) ?_
    refine lv_if_eq (tgt := 42) hx hb dX9_off_6 (by decide) (fun c_18 => ?_) (fun c_18 => absurd (by decide) c_18)
    refine lv_iconst (v := (-1)) hx hb dX9_off_42 (by decide) ?_
    have hP9 := hP.sub (ws' := ([] : va_W)) [] rfl
    have hD9 := hD.sub (ws' := ([] : va_W)) [] (by decide) rfl
    exact W.iret (v := (-1)) hx hb hr (fun t ht hW => ⟨⟨(-1), (), rfl, by first | exact Or.inr ⟨rfl, by omega⟩ | (exfalso; omega), by rw [ht]; exact hP9, hD9⟩, hS.F ht⟩) hS.2.2 dX9_off_43
set_option maxHeartbeats 4000000 in
set_option maxRecDepth 100000 in
theorem c_X9_feed (l : Launch) (D : va_G) (E : Nat → Nat) (k0 : Nat) (cm : Nat → Nat) (p0 : Int32) (p1 : Int32) (sz : Nat)  : Met l yX9_feed (wl yX9_feed cX9_feed 4 (some .int)) (RM 1 0 0) (mu_P D E [.ref k0, .int p0, .int p1] [(k0, .inr (9, mF cm 0 0 0 0 0 0 0 0 0)), ((cm 32), .inl (E 2, 120, .inl (fun _ => 0)))] sz) (va_Qi (fun (r : Int32) (u : Unit) => (r = p0 ∧ (1 ≤ p0.toInt ∧ p0.toInt ≤ 4)) ∨ (r = (-1) ∧ ¬ (1 ≤ p0.toInt ∧ p0.toInt ≤ 4))) (mu_B D (va_A [(k0, .inr (9, mF cm 0 0 0 0 0 0 0 0 0)), ((cm 32), .inl (E 2, 120, .inl (fun _ => 0)))] sz) (fun (u : Unit) => ([] : va_W))) (va_A [(k0, .inr (9, mF cm 0 0 0 0 0 0 0 0 0)), ((cm 32), .inl (E 2, 120, .inl (fun _ => 0)))] sz)) 0 0 (va_A [(k0, .inr (9, mF cm 0 0 0 0 0 0 0 0 0)), ((cm 32), .inl (E 2, 120, .inl (fun _ => 0)))] sz) := by
  refine Met.ofW (cc := cX9_feed) (maxL := 4) (ret := (some .int)) (by decide) rfl ?_
  intro p e s m args below meth c s₁ B hml hv
  obtain ⟨rfl, hsz, hP, hK, hD0⟩ := hv
  have hx := B.exec
  have hb := B.bytes
  have hr := B.returns
  have hts := atoms_spec (ws := wl yX9_feed cX9_feed 4 (some .int)) B.pre
  have htb : ∀ w ∈ tb, w.before _ s = true := fun w h => hts w (List.mem_cons_of_mem _ h)
  have hown : s.vm.findClass RX9 = some m.cls := findClass_of_methodNamed B.named
  have hlocks := B.notSynchronized
  subst hsz
  have hD := hD0.self (sz := s.heap.size)
  generalize hAe : va_A [(k0, .inr (9, mF cm 0 0 0 0 0 0 0 0 0)), ((cm 32), .inl (E 2, 120, .inl (fun _ => 0)))] s.heap.size = A at hD ⊢
  have hA : ∀ q : Nat, s.heap.size ≤ q → A q := fun q h => by rw [← hAe]; exact Or.inr h
  have hS : va_S A s.heap s.heap [] := va_S.rf
  have hP : va_P D vwCl [(k0, .inr (9, mF cm 0 0 0 0 0 0 0 0 0)), ((cm 32), .inl (E 2, 120, .inl (fun _ => 0)))] s.heap := hP
  have hl := lv_entry ([.ref k0, .int p0, .int p1]) (n := 4) (Nat.le_of_ble_eq_true rfl)
  rw [lg_entry_eq]
  generalize (lg_sl ([.ref k0, .int p0, .int p1]) ++ List.replicate (4 - (lg_sl ([.ref k0, .int p0, .int p1])).length) Slot.unset).toArray = ls at hl ⊢
  have hl : lv_has ls 4 [(0, .ref k0), (1, .int p0), (2, .int p1)] := hl
  have lo_p0 := i_lo p0
  have hi_p0 := i_hi p0
  have lo_p1 := i_lo p1
  have hi_p1 := i_hi p1
  refine lv_iload_n hx hb dX9_feed_0 rfl (lv_at hl 1 rfl) ?_
  refine lv_iconst (v := 1) hx hb dX9_feed_1 (by decide) ?_
  refine lv_iconst (v := 4) hx hb dX9_feed_2 (by decide) ?_
  refine callRS (rest := []) (As := [.int p0, .int 1, .int 4]) hx hb hml hown htb hK (c_X9_in l D E p0 1 4 ) ok_X9_in k_1168 k_1169 k_9 k_1170 ⟨(Nat.le_of_ble_eq_true rfl), (Nat.le_of_ble_eq_true rfl)⟩ ⟨(Nat.le_of_ble_eq_true rfl), (Nat.le_of_ble_eq_true rfl)⟩ hl.1 (Nat.le_of_ble_eq_true rfl) rfl rfl dX9_feed_3 (hP.sub (ws' := ([] : va_W)) [] rfl) (fun r_2 hw_1 => ?_)
  rcases hw_1 with ⟨hr_2, hw_1⟩ | ⟨hr_2, hw_1⟩
  ·
    try simp only [t_1, t_4] at hw_1
    refine W_top (y := .int 1) (by rw [hr_2]) ?_
    refine lv_if_ne (tgt := 11) hx hb dX9_feed_6 (by decide) (fun c_3 => ?_) (fun c_3 => absurd c_3 (by decide))
    refine lv_aload_n hx hb dX9_feed_11 rfl (lv_at hl 0 rfl) ?_
    refine va_get (D := D) (ci := 9) (v := .int 0) (C := RX9) (T := TX9) (N := 68) hx hb htb iX9 hown hK.1 hP 0 rfl rfl 33 (by decide) (htb _ k_991) (fun _ h9 => h9) rfl dX9_feed_12 ?_
    refine lv_iload_n hx hb dX9_feed_15 rfl (lv_at hl 1 rfl) ?_
    refine lv_iadd hx hb dX9_feed_16 ?_
    refine W_top (y := .int p0) (congrArg Value.int (Int32.zero_add _)) ?_
    refine lv_bipush (v := 120) hx hb dX9_feed_17 (by decide) ?_
    refine lv_icmp_le (tgt := 25) hx hb dX9_feed_19 (by decide) (fun c_4 => ?_) (fun c_4 => absurd (by rw [g_le rfl t_120]; omega) c_4)
    refine lv_iconst (v := 0) hx hb dX9_feed_25 (by decide) ?_
    refine lv_istore_n (lv' := [(3, .int 0), (0, .ref k0), (1, .int p0), (2, .int p1)]) hx hb dX9_feed_26 rfl hl (by decide) rfl (fun ls hl => ?_)
    refine lv_iload_n hx hb dX9_feed_27 rfl (lv_at hl 0 rfl) ?_
    refine lv_iload_n hx hb dX9_feed_28 rfl (lv_at hl 2 rfl) ?_
    refine lv_icmp_ge (tgt := 64) hx hb dX9_feed_29 (by decide) (fun c_5 => absurd c_5 (by rw [g_le rfl t_0]; omega)) (fun c_5 => ?_)
    refine lv_aload_n hx hb dX9_feed_32 rfl (lv_at hl 1 rfl) ?_
    refine va_get (D := D) (ci := 9) (v := .ref (cm 32)) (C := RX9) (T := TX9) (N := 68) hx hb htb iX9 hown hK.1 hP 0 rfl rfl 32 (by decide) (htb _ k_990) (fun _ h9 => h9) rfl dX9_feed_33 ?_
    refine lv_aload_n hx hb dX9_feed_36 rfl (lv_at hl 1 rfl) ?_
    refine va_get (D := D) (ci := 9) (v := .int 0) (C := RX9) (T := TX9) (N := 68) hx hb htb iX9 hown hK.1 hP 0 rfl rfl 33 (by decide) (htb _ k_991) (fun _ h9 => h9) rfl dX9_feed_37 ?_
    refine lv_iload_n hx hb dX9_feed_40 rfl (lv_at hl 3 rfl) ?_
    refine lv_bipush (v := 8) hx hb dX9_feed_41 (by decide) ?_
    refine lv_iload_n hx hb dX9_feed_43 rfl (lv_at hl 0 rfl) ?_
    refine lv_imul hx hb dX9_feed_44 ?_
    refine W_top (y := .int 0) (by decide) ?_
    refine lv_ishr hx hb dX9_feed_45 ?_
    refine lv_topi (fun z_6 ez_6 => ?_)
    obtain ⟨z_7, ez_7⟩ : ∃ y : Int32, (z_6 : Int32).toInt8.toInt32 = y := ⟨_, rfl⟩
    refine lv_i2b hx hb dX9_feed_46 ez_7 ?_
    refine va_bast hx hb hK.1 hP hD hS 1 2 rfl rfl (g_in t_0 (by decide) (by decide)) dX9_feed_47 (fun H locs hP hD hS => ?_)
    have hP : va_P D vwCl [(k0, .inr (9, mF cm 0 0 0 0 0 0 0 0 0)), ((cm 32), .inl (E 2, 120, .inl (upd (fun _ => 0) (0 : Int32).toNatClampNeg (vp_nar .byte z_7))))] H := hP
    have hD : va_D A [(k0, .inr (9, mF cm 0 0 0 0 0 0 0 0 0)), ((cm 32), .inl (E 2, 120, .inl (upd (fun _ => 0) (0 : Int32).toNatClampNeg (vp_nar .byte z_7))))] := hD
    generalize (upd (fun _ => 0) (0 : Int32).toNatClampNeg (vp_nar .byte z_7)) = g_8 at hP hD
    refine lv_aload_n hx hb dX9_feed_48 rfl (lv_at hl 1 rfl) ?_
    refine lv_dup hx hb dX9_feed_49 rfl ?_
    refine va_get (D := D) (ci := 9) (v := .int 0) (C := RX9) (T := TX9) (N := 68) hx hb htb iX9 hown hK.1 hP 0 rfl rfl 33 (by decide) (htb _ k_991) (fun _ h9 => h9) rfl dX9_feed_50 ?_
    refine lv_iconst (v := 1) hx hb dX9_feed_53 (by decide) ?_
    refine lv_iadd hx hb dX9_feed_54 ?_
    refine W_top (y := .int 1) (by decide) ?_
    refine va_put (D := D) (ci := 9) (v := .int 1) (ty := .int) (C := RX9) (T := TX9) (N := 68) hx hb htb iX9 tyX9 tyX9_ok nmX9 hown hK.1 hP hD hS 0 rfl rfl 33 (by decide) (htb _ k_991) (fun _ h9 => h9) rfl (by decide +kernel) rfl rfl (Nat.le_of_ble_eq_true rfl) dX9_feed_55 (fun H locs hP hD hS => ?_)
    have hP : va_P D vwCl [(k0, .inr (9, mF cm 0 0 1 0 0 0 0 0 0)), ((cm 32), .inl (E 2, 120, .inl g_8))] H := hP
    have hD : va_D A [(k0, .inr (9, mF cm 0 0 1 0 0 0 0 0 0)), ((cm 32), .inl (E 2, 120, .inl g_8))] := hD
    refine lv_iinc (v := 1) (lv' := [(3, .int 1), (0, .ref k0), (1, .int p0), (2, .int p1)]) hx hb dX9_feed_58 hl (k := 0) rfl (by decide) (by decide) rfl (fun ls hl => ?_)
    refine lv_goto (tgt := 27) hx hb dX9_feed_61 (by decide) ?_
    refine lv_iload_n hx hb dX9_feed_27 rfl (lv_at hl 0 rfl) ?_
    refine lv_iload_n hx hb dX9_feed_28 rfl (lv_at hl 2 rfl) ?_
    refine lv_icmp_ge (tgt := 64) hx hb dX9_feed_29 (by decide) (fun c_9 => ?_) (fun c_9 => ?_)
    ·
      have ic_9 : p0.toInt ≤ 1 := by first | exact (g_le rfl t_1).mp c_9 | (have h := mt (g_lt t_1 rfl).mpr c_9; omega)
      refine lv_aload_n hx hb dX9_feed_64 rfl (lv_at hl 1 rfl) ?_
      refine va_get (D := D) (ci := 9) (v := .int 1) (C := RX9) (T := TX9) (N := 68) hx hb htb iX9 hown hK.1 hP 0 rfl rfl 33 (by decide) (htb _ k_991) (fun _ h9 => h9) rfl dX9_feed_65 ?_
      have hP9 := hP.sub (ws' := ([] : va_W)) [] rfl
      have hD9 := hD.sub (ws' := ([] : va_W)) [] (by decide) rfl
      exact W.iret (v := 1) hx hb hr (fun t ht hW => ⟨⟨1, (), rfl, by first | exact Or.inl ⟨(g_eq t_1 rfl).mpr (by omega), by omega⟩ | (exfalso; omega), by rw [ht]; exact hP9, hD9⟩, hS.F ht⟩) hS.2.2 dX9_feed_68
    ·
      have ic_9 : 1 < p0.toInt := by first | exact (g_lt t_1 rfl).mp c_9 | (have h := mt (g_le rfl t_1).mpr c_9; omega)
      refine lv_aload_n hx hb dX9_feed_32 rfl (lv_at hl 1 rfl) ?_
      refine va_get (D := D) (ci := 9) (v := .ref (cm 32)) (C := RX9) (T := TX9) (N := 68) hx hb htb iX9 hown hK.1 hP 0 rfl rfl 32 (by decide) (htb _ k_990) (fun _ h9 => h9) rfl dX9_feed_33 ?_
      refine lv_aload_n hx hb dX9_feed_36 rfl (lv_at hl 1 rfl) ?_
      refine va_get (D := D) (ci := 9) (v := .int 1) (C := RX9) (T := TX9) (N := 68) hx hb htb iX9 hown hK.1 hP 0 rfl rfl 33 (by decide) (htb _ k_991) (fun _ h9 => h9) rfl dX9_feed_37 ?_
      refine lv_iload_n hx hb dX9_feed_40 rfl (lv_at hl 3 rfl) ?_
      refine lv_bipush (v := 8) hx hb dX9_feed_41 (by decide) ?_
      refine lv_iload_n hx hb dX9_feed_43 rfl (lv_at hl 0 rfl) ?_
      refine lv_imul hx hb dX9_feed_44 ?_
      refine W_top (y := .int 8) (by decide) ?_
      refine lv_ishr hx hb dX9_feed_45 ?_
      refine lv_topi (fun z_10 ez_10 => ?_)
      obtain ⟨z_11, ez_11⟩ : ∃ y : Int32, (z_10 : Int32).toInt8.toInt32 = y := ⟨_, rfl⟩
      refine lv_i2b hx hb dX9_feed_46 ez_11 ?_
      refine va_bast hx hb hK.1 hP hD hS 1 2 rfl rfl (g_in t_1 (by decide) (by decide)) dX9_feed_47 (fun H locs hP hD hS => ?_)
      have hP : va_P D vwCl [(k0, .inr (9, mF cm 0 0 1 0 0 0 0 0 0)), ((cm 32), .inl (E 2, 120, .inl (upd g_8 (1 : Int32).toNatClampNeg (vp_nar .byte z_11))))] H := hP
      have hD : va_D A [(k0, .inr (9, mF cm 0 0 1 0 0 0 0 0 0)), ((cm 32), .inl (E 2, 120, .inl (upd g_8 (1 : Int32).toNatClampNeg (vp_nar .byte z_11))))] := hD
      refine lv_aload_n hx hb dX9_feed_48 rfl (lv_at hl 1 rfl) ?_
      refine lv_dup hx hb dX9_feed_49 rfl ?_
      refine va_get (D := D) (ci := 9) (v := .int 1) (C := RX9) (T := TX9) (N := 68) hx hb htb iX9 hown hK.1 hP 0 rfl rfl 33 (by decide) (htb _ k_991) (fun _ h9 => h9) rfl dX9_feed_50 ?_
      refine lv_iconst (v := 1) hx hb dX9_feed_53 (by decide) ?_
      refine lv_iadd hx hb dX9_feed_54 ?_
      refine W_top (y := .int 2) (by decide) ?_
      refine va_put (D := D) (ci := 9) (v := .int 2) (ty := .int) (C := RX9) (T := TX9) (N := 68) hx hb htb iX9 tyX9 tyX9_ok nmX9 hown hK.1 hP hD hS 0 rfl rfl 33 (by decide) (htb _ k_991) (fun _ h9 => h9) rfl (by decide +kernel) rfl rfl (Nat.le_of_ble_eq_true rfl) dX9_feed_55 (fun H locs hP hD hS => ?_)
      have hP : va_P D vwCl [(k0, .inr (9, mF cm 0 0 2 0 0 0 0 0 0)), ((cm 32), .inl (E 2, 120, .inl (upd g_8 (1 : Int32).toNatClampNeg (vp_nar .byte z_11))))] H := hP
      have hD : va_D A [(k0, .inr (9, mF cm 0 0 2 0 0 0 0 0 0)), ((cm 32), .inl (E 2, 120, .inl (upd g_8 (1 : Int32).toNatClampNeg (vp_nar .byte z_11))))] := hD
      refine lv_iinc (v := 2) (lv' := [(3, .int 2), (0, .ref k0), (1, .int p0), (2, .int p1)]) hx hb dX9_feed_58 hl (k := 0) rfl (by decide) (by decide) rfl (fun ls hl => ?_)
      refine lv_goto (tgt := 27) hx hb dX9_feed_61 (by decide) ?_
      refine lv_iload_n hx hb dX9_feed_27 rfl (lv_at hl 0 rfl) ?_
      refine lv_iload_n hx hb dX9_feed_28 rfl (lv_at hl 2 rfl) ?_
      refine lv_icmp_ge (tgt := 64) hx hb dX9_feed_29 (by decide) (fun c_12 => ?_) (fun c_12 => ?_)
      ·
        have ic_12 : p0.toInt ≤ 2 := by first | exact (g_le rfl t_2).mp c_12 | (have h := mt (g_lt t_2 rfl).mpr c_12; omega)
        refine lv_aload_n hx hb dX9_feed_64 rfl (lv_at hl 1 rfl) ?_
        refine va_get (D := D) (ci := 9) (v := .int 2) (C := RX9) (T := TX9) (N := 68) hx hb htb iX9 hown hK.1 hP 0 rfl rfl 33 (by decide) (htb _ k_991) (fun _ h9 => h9) rfl dX9_feed_65 ?_
        have hP9 := hP.sub (ws' := ([] : va_W)) [] rfl
        have hD9 := hD.sub (ws' := ([] : va_W)) [] (by decide) rfl
        exact W.iret (v := 2) hx hb hr (fun t ht hW => ⟨⟨2, (), rfl, by first | exact Or.inl ⟨(g_eq t_2 rfl).mpr (by omega), by omega⟩ | (exfalso; omega), by rw [ht]; exact hP9, hD9⟩, hS.F ht⟩) hS.2.2 dX9_feed_68
      ·
        have ic_12 : 2 < p0.toInt := by first | exact (g_lt t_2 rfl).mp c_12 | (have h := mt (g_le rfl t_2).mpr c_12; omega)
        refine lv_aload_n hx hb dX9_feed_32 rfl (lv_at hl 1 rfl) ?_
        refine va_get (D := D) (ci := 9) (v := .ref (cm 32)) (C := RX9) (T := TX9) (N := 68) hx hb htb iX9 hown hK.1 hP 0 rfl rfl 32 (by decide) (htb _ k_990) (fun _ h9 => h9) rfl dX9_feed_33 ?_
        refine lv_aload_n hx hb dX9_feed_36 rfl (lv_at hl 1 rfl) ?_
        refine va_get (D := D) (ci := 9) (v := .int 2) (C := RX9) (T := TX9) (N := 68) hx hb htb iX9 hown hK.1 hP 0 rfl rfl 33 (by decide) (htb _ k_991) (fun _ h9 => h9) rfl dX9_feed_37 ?_
        refine lv_iload_n hx hb dX9_feed_40 rfl (lv_at hl 3 rfl) ?_
        refine lv_bipush (v := 8) hx hb dX9_feed_41 (by decide) ?_
        refine lv_iload_n hx hb dX9_feed_43 rfl (lv_at hl 0 rfl) ?_
        refine lv_imul hx hb dX9_feed_44 ?_
        refine W_top (y := .int 16) (by decide) ?_
        refine lv_ishr hx hb dX9_feed_45 ?_
        refine lv_topi (fun z_13 ez_13 => ?_)
        obtain ⟨z_14, ez_14⟩ : ∃ y : Int32, (z_13 : Int32).toInt8.toInt32 = y := ⟨_, rfl⟩
        refine lv_i2b hx hb dX9_feed_46 ez_14 ?_
        refine va_bast hx hb hK.1 hP hD hS 1 2 rfl rfl (g_in t_2 (by decide) (by decide)) dX9_feed_47 (fun H locs hP hD hS => ?_)
        have hP : va_P D vwCl [(k0, .inr (9, mF cm 0 0 2 0 0 0 0 0 0)), ((cm 32), .inl (E 2, 120, .inl (upd (upd g_8 (1 : Int32).toNatClampNeg (vp_nar .byte z_11)) (2 : Int32).toNatClampNeg (vp_nar .byte z_14))))] H := hP
        have hD : va_D A [(k0, .inr (9, mF cm 0 0 2 0 0 0 0 0 0)), ((cm 32), .inl (E 2, 120, .inl (upd (upd g_8 (1 : Int32).toNatClampNeg (vp_nar .byte z_11)) (2 : Int32).toNatClampNeg (vp_nar .byte z_14))))] := hD
        generalize (upd (upd g_8 (1 : Int32).toNatClampNeg (vp_nar .byte z_11)) (2 : Int32).toNatClampNeg (vp_nar .byte z_14)) = g_15 at hP hD
        refine lv_aload_n hx hb dX9_feed_48 rfl (lv_at hl 1 rfl) ?_
        refine lv_dup hx hb dX9_feed_49 rfl ?_
        refine va_get (D := D) (ci := 9) (v := .int 2) (C := RX9) (T := TX9) (N := 68) hx hb htb iX9 hown hK.1 hP 0 rfl rfl 33 (by decide) (htb _ k_991) (fun _ h9 => h9) rfl dX9_feed_50 ?_
        refine lv_iconst (v := 1) hx hb dX9_feed_53 (by decide) ?_
        refine lv_iadd hx hb dX9_feed_54 ?_
        refine W_top (y := .int 3) (by decide) ?_
        refine va_put (D := D) (ci := 9) (v := .int 3) (ty := .int) (C := RX9) (T := TX9) (N := 68) hx hb htb iX9 tyX9 tyX9_ok nmX9 hown hK.1 hP hD hS 0 rfl rfl 33 (by decide) (htb _ k_991) (fun _ h9 => h9) rfl (by decide +kernel) rfl rfl (Nat.le_of_ble_eq_true rfl) dX9_feed_55 (fun H locs hP hD hS => ?_)
        have hP : va_P D vwCl [(k0, .inr (9, mF cm 0 0 3 0 0 0 0 0 0)), ((cm 32), .inl (E 2, 120, .inl g_15))] H := hP
        have hD : va_D A [(k0, .inr (9, mF cm 0 0 3 0 0 0 0 0 0)), ((cm 32), .inl (E 2, 120, .inl g_15))] := hD
        refine lv_iinc (v := 3) (lv' := [(3, .int 3), (0, .ref k0), (1, .int p0), (2, .int p1)]) hx hb dX9_feed_58 hl (k := 0) rfl (by decide) (by decide) rfl (fun ls hl => ?_)
        refine lv_goto (tgt := 27) hx hb dX9_feed_61 (by decide) ?_
        refine lv_iload_n hx hb dX9_feed_27 rfl (lv_at hl 0 rfl) ?_
        refine lv_iload_n hx hb dX9_feed_28 rfl (lv_at hl 2 rfl) ?_
        refine lv_icmp_ge (tgt := 64) hx hb dX9_feed_29 (by decide) (fun c_16 => ?_) (fun c_16 => ?_)
        ·
          have ic_16 : p0.toInt ≤ 3 := by first | exact (g_le rfl t_3).mp c_16 | (have h := mt (g_lt t_3 rfl).mpr c_16; omega)
          refine lv_aload_n hx hb dX9_feed_64 rfl (lv_at hl 1 rfl) ?_
          refine va_get (D := D) (ci := 9) (v := .int 3) (C := RX9) (T := TX9) (N := 68) hx hb htb iX9 hown hK.1 hP 0 rfl rfl 33 (by decide) (htb _ k_991) (fun _ h9 => h9) rfl dX9_feed_65 ?_
          have hP9 := hP.sub (ws' := ([] : va_W)) [] rfl
          have hD9 := hD.sub (ws' := ([] : va_W)) [] (by decide) rfl
          exact W.iret (v := 3) hx hb hr (fun t ht hW => ⟨⟨3, (), rfl, by first | exact Or.inl ⟨(g_eq t_3 rfl).mpr (by omega), by omega⟩ | (exfalso; omega), by rw [ht]; exact hP9, hD9⟩, hS.F ht⟩) hS.2.2 dX9_feed_68
        ·
          have ic_16 : 3 < p0.toInt := by first | exact (g_lt t_3 rfl).mp c_16 | (have h := mt (g_le rfl t_3).mpr c_16; omega)
          refine lv_aload_n hx hb dX9_feed_32 rfl (lv_at hl 1 rfl) ?_
          refine va_get (D := D) (ci := 9) (v := .ref (cm 32)) (C := RX9) (T := TX9) (N := 68) hx hb htb iX9 hown hK.1 hP 0 rfl rfl 32 (by decide) (htb _ k_990) (fun _ h9 => h9) rfl dX9_feed_33 ?_
          refine lv_aload_n hx hb dX9_feed_36 rfl (lv_at hl 1 rfl) ?_
          refine va_get (D := D) (ci := 9) (v := .int 3) (C := RX9) (T := TX9) (N := 68) hx hb htb iX9 hown hK.1 hP 0 rfl rfl 33 (by decide) (htb _ k_991) (fun _ h9 => h9) rfl dX9_feed_37 ?_
          refine lv_iload_n hx hb dX9_feed_40 rfl (lv_at hl 3 rfl) ?_
          refine lv_bipush (v := 8) hx hb dX9_feed_41 (by decide) ?_
          refine lv_iload_n hx hb dX9_feed_43 rfl (lv_at hl 0 rfl) ?_
          refine lv_imul hx hb dX9_feed_44 ?_
          refine W_top (y := .int 24) (by decide) ?_
          refine lv_ishr hx hb dX9_feed_45 ?_
          refine lv_topi (fun z_17 ez_17 => ?_)
          obtain ⟨z_18, ez_18⟩ : ∃ y : Int32, (z_17 : Int32).toInt8.toInt32 = y := ⟨_, rfl⟩
          refine lv_i2b hx hb dX9_feed_46 ez_18 ?_
          refine va_bast hx hb hK.1 hP hD hS 1 2 rfl rfl (g_in t_3 (by decide) (by decide)) dX9_feed_47 (fun H locs hP hD hS => ?_)
          have hP : va_P D vwCl [(k0, .inr (9, mF cm 0 0 3 0 0 0 0 0 0)), ((cm 32), .inl (E 2, 120, .inl (upd g_15 (3 : Int32).toNatClampNeg (vp_nar .byte z_18))))] H := hP
          have hD : va_D A [(k0, .inr (9, mF cm 0 0 3 0 0 0 0 0 0)), ((cm 32), .inl (E 2, 120, .inl (upd g_15 (3 : Int32).toNatClampNeg (vp_nar .byte z_18))))] := hD
          refine lv_aload_n hx hb dX9_feed_48 rfl (lv_at hl 1 rfl) ?_
          refine lv_dup hx hb dX9_feed_49 rfl ?_
          refine va_get (D := D) (ci := 9) (v := .int 3) (C := RX9) (T := TX9) (N := 68) hx hb htb iX9 hown hK.1 hP 0 rfl rfl 33 (by decide) (htb _ k_991) (fun _ h9 => h9) rfl dX9_feed_50 ?_
          refine lv_iconst (v := 1) hx hb dX9_feed_53 (by decide) ?_
          refine lv_iadd hx hb dX9_feed_54 ?_
          refine W_top (y := .int 4) (by decide) ?_
          refine va_put (D := D) (ci := 9) (v := .int 4) (ty := .int) (C := RX9) (T := TX9) (N := 68) hx hb htb iX9 tyX9 tyX9_ok nmX9 hown hK.1 hP hD hS 0 rfl rfl 33 (by decide) (htb _ k_991) (fun _ h9 => h9) rfl (by decide +kernel) rfl rfl (Nat.le_of_ble_eq_true rfl) dX9_feed_55 (fun H locs hP hD hS => ?_)
          have hP : va_P D vwCl [(k0, .inr (9, mF cm 0 0 4 0 0 0 0 0 0)), ((cm 32), .inl (E 2, 120, .inl (upd g_15 (3 : Int32).toNatClampNeg (vp_nar .byte z_18))))] H := hP
          have hD : va_D A [(k0, .inr (9, mF cm 0 0 4 0 0 0 0 0 0)), ((cm 32), .inl (E 2, 120, .inl (upd g_15 (3 : Int32).toNatClampNeg (vp_nar .byte z_18))))] := hD
          refine lv_iinc (v := 4) (lv' := [(3, .int 4), (0, .ref k0), (1, .int p0), (2, .int p1)]) hx hb dX9_feed_58 hl (k := 0) rfl (by decide) (by decide) rfl (fun ls hl => ?_)
          refine lv_goto (tgt := 27) hx hb dX9_feed_61 (by decide) ?_
          refine lv_iload_n hx hb dX9_feed_27 rfl (lv_at hl 0 rfl) ?_
          refine lv_iload_n hx hb dX9_feed_28 rfl (lv_at hl 2 rfl) ?_
          refine lv_icmp_ge (tgt := 64) hx hb dX9_feed_29 (by decide) (fun c_19 => ?_) (fun c_19 => absurd (by rw [g_le rfl t_4]; omega) c_19)
          refine lv_aload_n hx hb dX9_feed_64 rfl (lv_at hl 1 rfl) ?_
          refine va_get (D := D) (ci := 9) (v := .int 4) (C := RX9) (T := TX9) (N := 68) hx hb htb iX9 hown hK.1 hP 0 rfl rfl 33 (by decide) (htb _ k_991) (fun _ h9 => h9) rfl dX9_feed_65 ?_
          have hP9 := hP.sub (ws' := ([] : va_W)) [] rfl
          have hD9 := hD.sub (ws' := ([] : va_W)) [] (by decide) rfl
          exact W.iret (v := 4) hx hb hr (fun t ht hW => ⟨⟨4, (), rfl, by first | exact Or.inl ⟨(g_eq t_4 rfl).mpr (by omega), by omega⟩ | (exfalso; omega), by rw [ht]; exact hP9, hD9⟩, hS.F ht⟩) hS.2.2 dX9_feed_68
  ·
    try simp only [t_1, t_4] at hw_1
    refine W_top (y := .int 0) (by rw [hr_2]) ?_
    refine lv_if_ne (tgt := 11) hx hb dX9_feed_6 (by decide) (fun c_20 => absurd (by decide) c_20) (fun c_20 => ?_)
    refine lv_iconst (v := (-1)) hx hb dX9_feed_9 (by decide) ?_
    have hP9 := hP.sub (ws' := ([] : va_W)) [] rfl
    have hD9 := hD.sub (ws' := ([] : va_W)) [] (by decide) rfl
    exact W.iret (v := (-1)) hx hb hr (fun t ht hW => ⟨⟨(-1), (), rfl, by first | exact Or.inl ⟨(g_eq t_m1 rfl).mpr (by omega), by omega⟩ | exact Or.inr ⟨rfl, by omega⟩ | (exfalso; omega), by rw [ht]; exact hP9, hD9⟩, hS.F ht⟩) hS.2.2 dX9_feed_10
set_option maxHeartbeats 4000000 in
set_option maxRecDepth 100000 in
theorem c_X9_doubt (l : Launch) (D : va_G) (E : Nat → Nat) (k0 : Nat) (cm : Nat → Nat) (p0 : Int32) (sz : Nat)  : Met l yX9_doubt (wl yX9_doubt cX9_doubt 2 (some .int)) (RM 1 0 0) (mu_P D E [.ref k0, .int p0] [(k0, .inr (9, mF cm 0 0 0 0 0 0 0 0 0)), ((cm 62), .inl (E 0, 9, .inl (fun _ => 0)))] sz) (va_Qi (fun (r : Int32) (u : Unit) => (r = 1 ∧ (1 ≤ p0.toInt ∧ p0.toInt ≤ 9999)) ∨ (r = (-1) ∧ ¬ (1 ≤ p0.toInt ∧ p0.toInt ≤ 9999))) (mu_B D (va_A [(k0, .inr (9, mF cm 0 0 0 0 0 0 0 0 0)), ((cm 62), .inl (E 0, 9, .inl (fun _ => 0)))] sz) (fun (u : Unit) => ([] : va_W))) (va_A [(k0, .inr (9, mF cm 0 0 0 0 0 0 0 0 0)), ((cm 62), .inl (E 0, 9, .inl (fun _ => 0)))] sz)) 0 0 (va_A [(k0, .inr (9, mF cm 0 0 0 0 0 0 0 0 0)), ((cm 62), .inl (E 0, 9, .inl (fun _ => 0)))] sz) := by
  refine Met.ofW (cc := cX9_doubt) (maxL := 2) (ret := (some .int)) (by decide) rfl ?_
  intro p e s m args below meth c s₁ B hml hv
  obtain ⟨rfl, hsz, hP, hK, hD0⟩ := hv
  have hx := B.exec
  have hb := B.bytes
  have hr := B.returns
  have hts := atoms_spec (ws := wl yX9_doubt cX9_doubt 2 (some .int)) B.pre
  have htb : ∀ w ∈ tb, w.before _ s = true := fun w h => hts w (List.mem_cons_of_mem _ h)
  have hown : s.vm.findClass RX9 = some m.cls := findClass_of_methodNamed B.named
  have hlocks := B.notSynchronized
  subst hsz
  have hD := hD0.self (sz := s.heap.size)
  generalize hAe : va_A [(k0, .inr (9, mF cm 0 0 0 0 0 0 0 0 0)), ((cm 62), .inl (E 0, 9, .inl (fun _ => 0)))] s.heap.size = A at hD ⊢
  have hA : ∀ q : Nat, s.heap.size ≤ q → A q := fun q h => by rw [← hAe]; exact Or.inr h
  have hS : va_S A s.heap s.heap [] := va_S.rf
  have hP : va_P D vwCl [(k0, .inr (9, mF cm 0 0 0 0 0 0 0 0 0)), ((cm 62), .inl (E 0, 9, .inl (fun _ => 0)))] s.heap := hP
  have hl := lv_entry ([.ref k0, .int p0]) (n := 2) (Nat.le_of_ble_eq_true rfl)
  rw [lg_entry_eq]
  generalize (lg_sl ([.ref k0, .int p0]) ++ List.replicate (2 - (lg_sl ([.ref k0, .int p0])).length) Slot.unset).toArray = ls at hl ⊢
  have hl : lv_has ls 2 [(0, .ref k0), (1, .int p0)] := hl
  have lo_p0 := i_lo p0
  have hi_p0 := i_hi p0
  refine lv_iload_n hx hb dX9_doubt_0 rfl (lv_at hl 1 rfl) ?_
  refine lv_iconst (v := 1) hx hb dX9_doubt_1 (by decide) ?_
  refine lv_sipush (v := 9999) hx hb dX9_doubt_2 (by decide) ?_
  refine callRS (rest := []) (As := [.int p0, .int 1, .int 9999]) hx hb hml hown htb hK (c_X9_in l D E p0 1 9999 ) ok_X9_in k_1168 k_1169 k_9 k_1170 ⟨(Nat.le_of_ble_eq_true rfl), (Nat.le_of_ble_eq_true rfl)⟩ ⟨(Nat.le_of_ble_eq_true rfl), (Nat.le_of_ble_eq_true rfl)⟩ hl.1 (Nat.le_of_ble_eq_true rfl) rfl rfl dX9_doubt_5 (hP.sub (ws' := ([] : va_W)) [] rfl) (fun r_2 hw_1 => ?_)
  rcases hw_1 with ⟨hr_2, hw_1⟩ | ⟨hr_2, hw_1⟩
  ·
    try simp only [t_1, t_9999] at hw_1
    refine W_top (y := .int 1) (by rw [hr_2]) ?_
    refine lv_if_ne (tgt := 13) hx hb dX9_doubt_8 (by decide) (fun c_3 => ?_) (fun c_3 => absurd c_3 (by decide))
    refine lv_aload_n hx hb dX9_doubt_13 rfl (lv_at hl 0 rfl) ?_
    refine va_get (D := D) (ci := 9) (v := .int 0) (C := RX9) (T := TX9) (N := 68) hx hb htb iX9 hown hK.1 hP 0 rfl rfl 61 (by decide) (htb _ k_1019) (fun _ h9 => h9) rfl dX9_doubt_14 ?_
    refine lv_bipush (v := 9) hx hb dX9_doubt_17 (by decide) ?_
    refine lv_icmp_ne (tgt := 25) hx hb dX9_doubt_19 (by decide) (fun c_4 => ?_) (fun c_4 => absurd c_4 (by decide))
    refine lv_aload_n hx hb dX9_doubt_25 rfl (lv_at hl 0 rfl) ?_
    refine va_get (D := D) (ci := 9) (v := .ref (cm 62)) (C := RX9) (T := TX9) (N := 68) hx hb htb iX9 hown hK.1 hP 0 rfl rfl 62 (by decide) (htb _ k_1020) (fun _ h9 => h9) rfl dX9_doubt_26 ?_
    refine lv_aload_n hx hb dX9_doubt_29 rfl (lv_at hl 0 rfl) ?_
    refine va_get (D := D) (ci := 9) (v := .int 0) (C := RX9) (T := TX9) (N := 68) hx hb htb iX9 hown hK.1 hP 0 rfl rfl 61 (by decide) (htb _ k_1019) (fun _ h9 => h9) rfl dX9_doubt_30 ?_
    refine lv_iload_n hx hb dX9_doubt_33 rfl (lv_at hl 1 rfl) ?_
    refine va_iast hx hb hK.1 hP hD hS 1 0 rfl rfl (g_in t_0 (by decide) (by decide)) dX9_doubt_34 (fun H locs hP hD hS => ?_)
    have hP : va_P D vwCl [(k0, .inr (9, mF cm 0 0 0 0 0 0 0 0 0)), ((cm 62), .inl (E 0, 9, .inl (upd (fun _ => 0) (0 : Int32).toNatClampNeg p0)))] H := hP
    have hD : va_D A [(k0, .inr (9, mF cm 0 0 0 0 0 0 0 0 0)), ((cm 62), .inl (E 0, 9, .inl (upd (fun _ => 0) (0 : Int32).toNatClampNeg p0)))] := hD
    refine lv_aload_n hx hb dX9_doubt_35 rfl (lv_at hl 0 rfl) ?_
    refine lv_dup hx hb dX9_doubt_36 rfl ?_
    refine va_get (D := D) (ci := 9) (v := .int 0) (C := RX9) (T := TX9) (N := 68) hx hb htb iX9 hown hK.1 hP 0 rfl rfl 61 (by decide) (htb _ k_1019) (fun _ h9 => h9) rfl dX9_doubt_37 ?_
    refine lv_iconst (v := 1) hx hb dX9_doubt_40 (by decide) ?_
    refine lv_iadd hx hb dX9_doubt_41 ?_
    refine W_top (y := .int 1) (by decide) ?_
    refine va_put (D := D) (ci := 9) (v := .int 1) (ty := .int) (C := RX9) (T := TX9) (N := 68) hx hb htb iX9 tyX9 tyX9_ok nmX9 hown hK.1 hP hD hS 0 rfl rfl 61 (by decide) (htb _ k_1019) (fun _ h9 => h9) rfl (by decide +kernel) rfl rfl (Nat.le_of_ble_eq_true rfl) dX9_doubt_42 (fun H locs hP hD hS => ?_)
    have hP : va_P D vwCl [(k0, .inr (9, mF cm 0 0 0 0 0 0 0 0 1)), ((cm 62), .inl (E 0, 9, .inl (upd (fun _ => 0) (0 : Int32).toNatClampNeg p0)))] H := hP
    have hD : va_D A [(k0, .inr (9, mF cm 0 0 0 0 0 0 0 0 1)), ((cm 62), .inl (E 0, 9, .inl (upd (fun _ => 0) (0 : Int32).toNatClampNeg p0)))] := hD
    refine lv_aload_n hx hb dX9_doubt_45 rfl (lv_at hl 0 rfl) ?_
    refine va_get (D := D) (ci := 9) (v := .int 1) (C := RX9) (T := TX9) (N := 68) hx hb htb iX9 hown hK.1 hP 0 rfl rfl 61 (by decide) (htb _ k_1019) (fun _ h9 => h9) rfl dX9_doubt_46 ?_
    have hP9 := hP.sub (ws' := ([] : va_W)) [] rfl
    have hD9 := hD.sub (ws' := ([] : va_W)) [] (by decide) rfl
    exact W.iret (v := 1) hx hb hr (fun t ht hW => ⟨⟨1, (), rfl, by first | exact Or.inl ⟨rfl, by omega⟩ | (exfalso; omega), by rw [ht]; exact hP9, hD9⟩, hS.F ht⟩) hS.2.2 dX9_doubt_49
  ·
    try simp only [t_1, t_9999] at hw_1
    refine W_top (y := .int 0) (by rw [hr_2]) ?_
    refine lv_if_ne (tgt := 13) hx hb dX9_doubt_8 (by decide) (fun c_5 => absurd (by decide) c_5) (fun c_5 => ?_)
    refine lv_iconst (v := (-1)) hx hb dX9_doubt_11 (by decide) ?_
    have hP9 := hP.sub (ws' := ([] : va_W)) [] rfl
    have hD9 := hD.sub (ws' := ([] : va_W)) [] (by decide) rfl
    exact W.iret (v := (-1)) hx hb hr (fun t ht hW => ⟨⟨(-1), (), rfl, by first | exact Or.inr ⟨rfl, by omega⟩ | (exfalso; omega), by rw [ht]; exact hP9, hD9⟩, hS.F ht⟩) hS.2.2 dX9_doubt_12
set_option maxHeartbeats 4000000 in
set_option maxRecDepth 100000 in
theorem c_X9_sail (l : Launch) (D : va_G) (E : Nat → Nat) (k0 : Nat) (cm : Nat → Nat) (p0 : Int32) (p1 : Int32) (p2 : Int32) (p3 : Int32) (sz : Nat)  : Met l yX9_sail (wl yX9_sail cX9_sail 10 (some .int)) (RM 3 0 0) (mu_P D E [.ref k0, .int p0, .int p1, .int p2, .int p3] [(k0, .inr (9, mF cm 0 0 0 0 0 0 0 0 0)), ((cm 3), .inl (E 0, 16, .inl (fun _ => -5))), ((cm 58), .inl (E 0, 3, .inl (fun _ => 0)))] sz) (va_Qi (fun (r : Int32) (u : Unit) => (r = (-2) ∧ ((0 ≤ p0.toInt ∧ p0.toInt ≤ 4) ∧ (0 ≤ p1.toInt ∧ p1.toInt ≤ 15) ∧ (0 ≤ p2.toInt ∧ p2.toInt ≤ 15) ∧ (0 ≤ p3.toInt ∧ p3.toInt ≤ 15) ∧ p1.toInt ≠ p2.toInt ∧ p1.toInt ≠ p3.toInt ∧ p2.toInt ≠ p3.toInt)) ∨ (r = (-1) ∧ ¬ ((0 ≤ p0.toInt ∧ p0.toInt ≤ 4) ∧ (0 ≤ p1.toInt ∧ p1.toInt ≤ 15) ∧ (0 ≤ p2.toInt ∧ p2.toInt ≤ 15) ∧ (0 ≤ p3.toInt ∧ p3.toInt ≤ 15) ∧ p1.toInt ≠ p2.toInt ∧ p1.toInt ≠ p3.toInt ∧ p2.toInt ≠ p3.toInt))) (mu_B D (va_A [(k0, .inr (9, mF cm 0 0 0 0 0 0 0 0 0)), ((cm 3), .inl (E 0, 16, .inl (fun _ => -5))), ((cm 58), .inl (E 0, 3, .inl (fun _ => 0)))] sz) (fun (u : Unit) => ([] : va_W))) (va_A [(k0, .inr (9, mF cm 0 0 0 0 0 0 0 0 0)), ((cm 3), .inl (E 0, 16, .inl (fun _ => -5))), ((cm 58), .inl (E 0, 3, .inl (fun _ => 0)))] sz)) 0 0 (va_A [(k0, .inr (9, mF cm 0 0 0 0 0 0 0 0 0)), ((cm 3), .inl (E 0, 16, .inl (fun _ => -5))), ((cm 58), .inl (E 0, 3, .inl (fun _ => 0)))] sz) := by
  refine Met.ofW (cc := cX9_sail) (maxL := 10) (ret := (some .int)) (by decide) rfl ?_
  intro p e s m args below meth c s₁ B hml hv
  obtain ⟨rfl, hsz, hP, hK, hD0⟩ := hv
  have hx := B.exec
  have hb := B.bytes
  have hr := B.returns
  have hts := atoms_spec (ws := wl yX9_sail cX9_sail 10 (some .int)) B.pre
  have htb : ∀ w ∈ tb, w.before _ s = true := fun w h => hts w (List.mem_cons_of_mem _ h)
  have hown : s.vm.findClass RX9 = some m.cls := findClass_of_methodNamed B.named
  have hlocks := B.notSynchronized
  subst hsz
  have hD := hD0.self (sz := s.heap.size)
  generalize hAe : va_A [(k0, .inr (9, mF cm 0 0 0 0 0 0 0 0 0)), ((cm 3), .inl (E 0, 16, .inl (fun _ => -5))), ((cm 58), .inl (E 0, 3, .inl (fun _ => 0)))] s.heap.size = A at hD ⊢
  have hA : ∀ q : Nat, s.heap.size ≤ q → A q := fun q h => by rw [← hAe]; exact Or.inr h
  have hS : va_S A s.heap s.heap [] := va_S.rf
  have hP : va_P D vwCl [(k0, .inr (9, mF cm 0 0 0 0 0 0 0 0 0)), ((cm 3), .inl (E 0, 16, .inl (fun _ => -5))), ((cm 58), .inl (E 0, 3, .inl (fun _ => 0)))] s.heap := hP
  have hl := lv_entry ([.ref k0, .int p0, .int p1, .int p2, .int p3]) (n := 10) (Nat.le_of_ble_eq_true rfl)
  rw [lg_entry_eq]
  generalize (lg_sl ([.ref k0, .int p0, .int p1, .int p2, .int p3]) ++ List.replicate (10 - (lg_sl ([.ref k0, .int p0, .int p1, .int p2, .int p3])).length) Slot.unset).toArray = ls at hl ⊢
  have hl : lv_has ls 10 [(0, .ref k0), (1, .int p0), (2, .int p1), (3, .int p2), (4, .int p3)] := hl
  have lo_p0 := i_lo p0
  have hi_p0 := i_hi p0
  have lo_p1 := i_lo p1
  have hi_p1 := i_hi p1
  have lo_p2 := i_lo p2
  have hi_p2 := i_hi p2
  have lo_p3 := i_lo p3
  have hi_p3 := i_hi p3
  refine lv_iload_n hx hb dX9_sail_0 rfl (lv_at hl 1 rfl) ?_
  refine callRS (rest := []) (As := [.int p0]) hx hb hml hown htb hK (c_X9_isShip l D E p0 ) ok_X9_isShip k_1414 k_1415 k_9 k_1416 ⟨(Nat.le_of_ble_eq_true rfl), (Nat.le_of_ble_eq_true rfl)⟩ ⟨(Nat.le_of_ble_eq_true rfl), (Nat.le_of_ble_eq_true rfl)⟩ hl.1 (Nat.le_of_ble_eq_true rfl) rfl rfl dX9_sail_1 (hP.sub (ws' := ([] : va_W)) [] rfl) (fun r_2 hw_1 => ?_)
  rcases hw_1 with ⟨hr_2, hw_1⟩ | ⟨hr_2, hw_1⟩
  ·
    refine W_top (y := .int 1) (by rw [hr_2]) ?_
    refine lv_if_eq (tgt := 46) hx hb dX9_sail_4 (by decide) (fun c_3 => absurd c_3 (by decide)) (fun c_3 => ?_)
    refine lv_iload_n hx hb dX9_sail_7 rfl (lv_at hl 2 rfl) ?_
    refine callRS (rest := []) (As := [.int p1]) hx hb hml hown htb hK (c_X9_isPlace l D E p1 ) ok_X9_isPlace k_1182 k_1183 k_9 k_1184 ⟨(Nat.le_of_ble_eq_true rfl), (Nat.le_of_ble_eq_true rfl)⟩ ⟨(Nat.le_of_ble_eq_true rfl), (Nat.le_of_ble_eq_true rfl)⟩ hl.1 (Nat.le_of_ble_eq_true rfl) rfl rfl dX9_sail_8 (hP.sub (ws' := ([] : va_W)) [] rfl) (fun r_5 hw_4 => ?_)
    rcases hw_4 with ⟨hr_5, hw_4⟩ | ⟨hr_5, hw_4⟩
    ·
      refine W_top (y := .int 1) (by rw [hr_5]) ?_
      refine lv_if_eq (tgt := 46) hx hb dX9_sail_11 (by decide) (fun c_6 => absurd c_6 (by decide)) (fun c_6 => ?_)
      refine lv_iload_n hx hb dX9_sail_14 rfl (lv_at hl 3 rfl) ?_
      refine callRS (rest := []) (As := [.int p2]) hx hb hml hown htb hK (c_X9_isPlace l D E p2 ) ok_X9_isPlace k_1182 k_1183 k_9 k_1184 ⟨(Nat.le_of_ble_eq_true rfl), (Nat.le_of_ble_eq_true rfl)⟩ ⟨(Nat.le_of_ble_eq_true rfl), (Nat.le_of_ble_eq_true rfl)⟩ hl.1 (Nat.le_of_ble_eq_true rfl) rfl rfl dX9_sail_15 (hP.sub (ws' := ([] : va_W)) [] rfl) (fun r_8 hw_7 => ?_)
      rcases hw_7 with ⟨hr_8, hw_7⟩ | ⟨hr_8, hw_7⟩
      ·
        refine W_top (y := .int 1) (by rw [hr_8]) ?_
        refine lv_if_eq (tgt := 46) hx hb dX9_sail_18 (by decide) (fun c_9 => absurd c_9 (by decide)) (fun c_9 => ?_)
        refine lv_iload hx hb dX9_sail_21 (lv_at hl 4 rfl) ?_
        refine callRS (rest := []) (As := [.int p3]) hx hb hml hown htb hK (c_X9_isPlace l D E p3 ) ok_X9_isPlace k_1182 k_1183 k_9 k_1184 ⟨(Nat.le_of_ble_eq_true rfl), (Nat.le_of_ble_eq_true rfl)⟩ ⟨(Nat.le_of_ble_eq_true rfl), (Nat.le_of_ble_eq_true rfl)⟩ hl.1 (Nat.le_of_ble_eq_true rfl) rfl rfl dX9_sail_23 (hP.sub (ws' := ([] : va_W)) [] rfl) (fun r_11 hw_10 => ?_)
        rcases hw_10 with ⟨hr_11, hw_10⟩ | ⟨hr_11, hw_10⟩
        ·
          refine W_top (y := .int 1) (by rw [hr_11]) ?_
          refine lv_if_eq (tgt := 46) hx hb dX9_sail_26 (by decide) (fun c_12 => absurd c_12 (by decide)) (fun c_12 => ?_)
          refine lv_iload_n hx hb dX9_sail_29 rfl (lv_at hl 2 rfl) ?_
          refine lv_iload_n hx hb dX9_sail_30 rfl (lv_at hl 3 rfl) ?_
          refine lv_icmp_eq (tgt := 46) hx hb dX9_sail_31 (by decide) (fun c_13 => ?_) (fun c_13 => ?_)
          ·
            have ic_13 : p1.toInt = p2.toInt := (g_eq rfl rfl).mp c_13
            refine lv_iconst (v := (-1)) hx hb dX9_sail_46 (by decide) ?_
            have hP9 := hP.sub (ws' := ([] : va_W)) [] rfl
            have hD9 := hD.sub (ws' := ([] : va_W)) [] (by decide) rfl
            exact W.iret (v := (-1)) hx hb hr (fun t ht hW => ⟨⟨(-1), (), rfl, by first | exact Or.inr ⟨rfl, by omega⟩ | (exfalso; omega), by rw [ht]; exact hP9, hD9⟩, hS.F ht⟩) hS.2.2 dX9_sail_47
          ·
            have ic_13 : p1.toInt ≠ p2.toInt := mt (g_eq rfl rfl).mpr c_13
            refine lv_iload_n hx hb dX9_sail_34 rfl (lv_at hl 2 rfl) ?_
            refine lv_iload hx hb dX9_sail_35 (lv_at hl 4 rfl) ?_
            refine lv_icmp_eq (tgt := 46) hx hb dX9_sail_37 (by decide) (fun c_14 => ?_) (fun c_14 => ?_)
            ·
              have ic_14 : p1.toInt = p3.toInt := (g_eq rfl rfl).mp c_14
              refine lv_iconst (v := (-1)) hx hb dX9_sail_46 (by decide) ?_
              have hP9 := hP.sub (ws' := ([] : va_W)) [] rfl
              have hD9 := hD.sub (ws' := ([] : va_W)) [] (by decide) rfl
              exact W.iret (v := (-1)) hx hb hr (fun t ht hW => ⟨⟨(-1), (), rfl, by first | exact Or.inr ⟨rfl, by omega⟩ | (exfalso; omega), by rw [ht]; exact hP9, hD9⟩, hS.F ht⟩) hS.2.2 dX9_sail_47
            ·
              have ic_14 : p1.toInt ≠ p3.toInt := mt (g_eq rfl rfl).mpr c_14
              refine lv_iload_n hx hb dX9_sail_40 rfl (lv_at hl 3 rfl) ?_
              refine lv_iload hx hb dX9_sail_41 (lv_at hl 4 rfl) ?_
              refine lv_icmp_ne (tgt := 48) hx hb dX9_sail_43 (by decide) (fun c_15 => ?_) (fun c_15 => ?_)
              ·
                have ic_15 : p2.toInt ≠ p3.toInt := mt (g_eq rfl rfl).mpr c_15
                refine lv_aload_n hx hb dX9_sail_48 rfl (lv_at hl 0 rfl) ?_
                refine va_get (D := D) (ci := 9) (v := .ref (cm 58)) (C := RX9) (T := TX9) (N := 68) hx hb htb iX9 hown hK.1 hP 0 rfl rfl 58 (by decide) (htb _ k_1016) (fun _ h9 => h9) rfl dX9_sail_49 ?_
                refine lv_iconst (v := 0) hx hb dX9_sail_52 (by decide) ?_
                refine lv_iload_n hx hb dX9_sail_53 rfl (lv_at hl 2 rfl) ?_
                refine va_iast hx hb hK.1 hP hD hS 2 0 rfl rfl (g_in t_0 (by decide) (by decide)) dX9_sail_54 (fun H locs hP hD hS => ?_)
                have hP : va_P D vwCl [(k0, .inr (9, mF cm 0 0 0 0 0 0 0 0 0)), ((cm 3), .inl (E 0, 16, .inl (fun _ => -5))), ((cm 58), .inl (E 0, 3, .inl (upd (fun _ => 0) (0 : Int32).toNatClampNeg p1)))] H := hP
                have hD : va_D A [(k0, .inr (9, mF cm 0 0 0 0 0 0 0 0 0)), ((cm 3), .inl (E 0, 16, .inl (fun _ => -5))), ((cm 58), .inl (E 0, 3, .inl (upd (fun _ => 0) (0 : Int32).toNatClampNeg p1)))] := hD
                refine lv_aload_n hx hb dX9_sail_55 rfl (lv_at hl 0 rfl) ?_
                refine va_get (D := D) (ci := 9) (v := .ref (cm 58)) (C := RX9) (T := TX9) (N := 68) hx hb htb iX9 hown hK.1 hP 0 rfl rfl 58 (by decide) (htb _ k_1016) (fun _ h9 => h9) rfl dX9_sail_56 ?_
                refine lv_iconst (v := 1) hx hb dX9_sail_59 (by decide) ?_
                refine lv_iload_n hx hb dX9_sail_60 rfl (lv_at hl 3 rfl) ?_
                refine va_iast hx hb hK.1 hP hD hS 2 0 rfl rfl (g_in t_1 (by decide) (by decide)) dX9_sail_61 (fun H locs hP hD hS => ?_)
                have hP : va_P D vwCl [(k0, .inr (9, mF cm 0 0 0 0 0 0 0 0 0)), ((cm 3), .inl (E 0, 16, .inl (fun _ => -5))), ((cm 58), .inl (E 0, 3, .inl (upd (upd (fun _ => 0) (0 : Int32).toNatClampNeg p1) (1 : Int32).toNatClampNeg p2)))] H := hP
                have hD : va_D A [(k0, .inr (9, mF cm 0 0 0 0 0 0 0 0 0)), ((cm 3), .inl (E 0, 16, .inl (fun _ => -5))), ((cm 58), .inl (E 0, 3, .inl (upd (upd (fun _ => 0) (0 : Int32).toNatClampNeg p1) (1 : Int32).toNatClampNeg p2)))] := hD
                refine lv_aload_n hx hb dX9_sail_62 rfl (lv_at hl 0 rfl) ?_
                refine va_get (D := D) (ci := 9) (v := .ref (cm 58)) (C := RX9) (T := TX9) (N := 68) hx hb htb iX9 hown hK.1 hP 0 rfl rfl 58 (by decide) (htb _ k_1016) (fun _ h9 => h9) rfl dX9_sail_63 ?_
                refine lv_iconst (v := 2) hx hb dX9_sail_66 (by decide) ?_
                refine lv_iload hx hb dX9_sail_67 (lv_at hl 4 rfl) ?_
                refine va_iast hx hb hK.1 hP hD hS 2 0 rfl rfl (g_in t_2 (by decide) (by decide)) dX9_sail_69 (fun H locs hP hD hS => ?_)
                have hP : va_P D vwCl [(k0, .inr (9, mF cm 0 0 0 0 0 0 0 0 0)), ((cm 3), .inl (E 0, 16, .inl (fun _ => -5))), ((cm 58), .inl (E 0, 3, .inl (upd (upd (upd (fun _ => 0) (0 : Int32).toNatClampNeg p1) (1 : Int32).toNatClampNeg p2) (2 : Int32).toNatClampNeg p3)))] H := hP
                have hD : va_D A [(k0, .inr (9, mF cm 0 0 0 0 0 0 0 0 0)), ((cm 3), .inl (E 0, 16, .inl (fun _ => -5))), ((cm 58), .inl (E 0, 3, .inl (upd (upd (upd (fun _ => 0) (0 : Int32).toNatClampNeg p1) (1 : Int32).toNatClampNeg p2) (2 : Int32).toNatClampNeg p3)))] := hD
                refine lv_iconst (v := 0) hx hb dX9_sail_70 (by decide) ?_
                refine lv_istore (lv' := [(5, .int 0), (0, .ref k0), (1, .int p0), (2, .int p1), (3, .int p2), (4, .int p3)]) hx hb dX9_sail_71 hl (by decide) rfl (fun ls hl => ?_)
                refine lv_iload hx hb dX9_sail_73 (lv_at hl 0 rfl) ?_
                refine lv_iconst (v := 3) hx hb dX9_sail_75 (by decide) ?_
                refine lv_icmp_ge (tgt := 111) hx hb dX9_sail_76 (by decide) (fun c_16 => absurd c_16 (by decide)) (fun c_16 => ?_)
                refine lv_aload_n hx hb dX9_sail_79 rfl (lv_at hl 1 rfl) ?_
                refine lv_aload_n hx hb dX9_sail_80 rfl (lv_at hl 1 rfl) ?_
                refine va_get (D := D) (ci := 9) (v := .ref (cm 58)) (C := RX9) (T := TX9) (N := 68) hx hb htb iX9 hown hK.1 hP 0 rfl rfl 58 (by decide) (htb _ k_1016) (fun _ h9 => h9) rfl dX9_sail_81 ?_
                refine lv_iload hx hb dX9_sail_84 (lv_at hl 0 rfl) ?_
                refine va_iald hx hb hK.1 hP 2 0 rfl rfl (g_in t_0 (by decide) (by decide)) dX9_sail_86 ?_
                refine W_top (y := .int p1) (by first | rfl | simp [upd]) ?_
                refine callRV (rest := []) (As := [.int p1]) hx hb hml hown htb hK (c_X9_watchAt l D E k0 cm p1 ) ok_X9_watchAt k_1212 k_1214 ks_41 k_9 k_1215 ⟨(Nat.le_of_ble_eq_true rfl), (Nat.le_of_ble_eq_true rfl)⟩ ⟨(Nat.le_of_ble_eq_true rfl), (Nat.le_of_ble_eq_true rfl)⟩ hl.1 (Nat.le_of_ble_eq_true rfl) rfl rfl dX9_sail_87 (hP.sub (ws' := [(k0, .inr (9, mF cm 0 0 0 0 0 0 0 0 0)), ((cm 3), .inl (E 0, 16, .inl (fun _ => -5)))]) [0, 1] rfl) rfl rfl 0 rfl (fun r_18 hw_17 => ?_)
                rcases hw_17 with ⟨hr_18, hw_17⟩ | ⟨hr_18, hw_17⟩
                ·
                  refine W_top (y := .int (-2)) (by rw [hr_18]) ?_
                  refine lv_if_ge (tgt := 105) hx hb dX9_sail_90 (by decide) (fun c_19 => absurd c_19 (by decide)) (fun c_19 => ?_)
                  refine lv_aload_n hx hb dX9_sail_93 rfl (lv_at hl 1 rfl) ?_
                  refine lv_aload_n hx hb dX9_sail_94 rfl (lv_at hl 1 rfl) ?_
                  refine va_get (D := D) (ci := 9) (v := .ref (cm 58)) (C := RX9) (T := TX9) (N := 68) hx hb htb iX9 hown hK.1 hP 0 rfl rfl 58 (by decide) (htb _ k_1016) (fun _ h9 => h9) rfl dX9_sail_95 ?_
                  refine lv_iload hx hb dX9_sail_98 (lv_at hl 0 rfl) ?_
                  refine va_iald hx hb hK.1 hP 2 0 rfl rfl (g_in t_0 (by decide) (by decide)) dX9_sail_100 ?_
                  refine W_top (y := .int p1) (by first | rfl | simp [upd]) ?_
                  refine callRV (rest := []) (As := [.int p1]) hx hb hml hown htb hK (c_X9_watchAt l D E k0 cm p1 ) ok_X9_watchAt k_1212 k_1214 ks_41 k_9 k_1215 ⟨(Nat.le_of_ble_eq_true rfl), (Nat.le_of_ble_eq_true rfl)⟩ ⟨(Nat.le_of_ble_eq_true rfl), (Nat.le_of_ble_eq_true rfl)⟩ hl.1 (Nat.le_of_ble_eq_true rfl) rfl rfl dX9_sail_101 (hP.sub (ws' := [(k0, .inr (9, mF cm 0 0 0 0 0 0 0 0 0)), ((cm 3), .inl (E 0, 16, .inl (fun _ => -5)))]) [0, 1] rfl) rfl rfl 0 rfl (fun r_21 hw_20 => ?_)
                  rcases hw_20 with ⟨hr_21, hw_20⟩ | ⟨hr_21, hw_20⟩
                  ·
                    refine W_top (y := .int (-2)) (by rw [hr_21]) ?_
                    have hP9 := hP.sub (ws' := ([] : va_W)) [] rfl
                    have hD9 := hD.sub (ws' := ([] : va_W)) [] (by decide) rfl
                    exact W.iret (v := (-2)) hx hb hr (fun t ht hW => ⟨⟨(-2), (), rfl, by first | exact Or.inl ⟨rfl, by omega⟩ | (exfalso; omega), by rw [ht]; exact hP9, hD9⟩, hS.F ht⟩) hS.2.2 dX9_sail_104
                  ·
                    refine W_top (y := .int (-1)) (by rw [hr_21]) ?_
                    have hP9 := hP.sub (ws' := ([] : va_W)) [] rfl
                    have hD9 := hD.sub (ws' := ([] : va_W)) [] (by decide) rfl
                    exact W.iret (v := (-1)) hx hb hr (fun t ht hW => ⟨⟨(-1), (), rfl, by first | exact Or.inr ⟨rfl, by omega⟩ | (exfalso; omega), by rw [ht]; exact hP9, hD9⟩, hS.F ht⟩) hS.2.2 dX9_sail_104
                ·
                  refine W_top (y := .int (-1)) (by rw [hr_18]) ?_
                  refine lv_if_ge (tgt := 105) hx hb dX9_sail_90 (by decide) (fun c_22 => absurd c_22 (by decide)) (fun c_22 => ?_)
                  refine lv_aload_n hx hb dX9_sail_93 rfl (lv_at hl 1 rfl) ?_
                  refine lv_aload_n hx hb dX9_sail_94 rfl (lv_at hl 1 rfl) ?_
                  refine va_get (D := D) (ci := 9) (v := .ref (cm 58)) (C := RX9) (T := TX9) (N := 68) hx hb htb iX9 hown hK.1 hP 0 rfl rfl 58 (by decide) (htb _ k_1016) (fun _ h9 => h9) rfl dX9_sail_95 ?_
                  refine lv_iload hx hb dX9_sail_98 (lv_at hl 0 rfl) ?_
                  refine va_iald hx hb hK.1 hP 2 0 rfl rfl (g_in t_0 (by decide) (by decide)) dX9_sail_100 ?_
                  refine W_top (y := .int p1) (by first | rfl | simp [upd]) ?_
                  refine callRV (rest := []) (As := [.int p1]) hx hb hml hown htb hK (c_X9_watchAt l D E k0 cm p1 ) ok_X9_watchAt k_1212 k_1214 ks_41 k_9 k_1215 ⟨(Nat.le_of_ble_eq_true rfl), (Nat.le_of_ble_eq_true rfl)⟩ ⟨(Nat.le_of_ble_eq_true rfl), (Nat.le_of_ble_eq_true rfl)⟩ hl.1 (Nat.le_of_ble_eq_true rfl) rfl rfl dX9_sail_101 (hP.sub (ws' := [(k0, .inr (9, mF cm 0 0 0 0 0 0 0 0 0)), ((cm 3), .inl (E 0, 16, .inl (fun _ => -5)))]) [0, 1] rfl) rfl rfl 0 rfl (fun r_24 hw_23 => ?_)
                  rcases hw_23 with ⟨hr_24, hw_23⟩ | ⟨hr_24, hw_23⟩
                  ·
                    refine W_top (y := .int (-2)) (by rw [hr_24]) ?_
                    have hP9 := hP.sub (ws' := ([] : va_W)) [] rfl
                    have hD9 := hD.sub (ws' := ([] : va_W)) [] (by decide) rfl
                    exact W.iret (v := (-2)) hx hb hr (fun t ht hW => ⟨⟨(-2), (), rfl, by first | exact Or.inl ⟨rfl, by omega⟩ | (exfalso; omega), by rw [ht]; exact hP9, hD9⟩, hS.F ht⟩) hS.2.2 dX9_sail_104
                  ·
                    refine W_top (y := .int (-1)) (by rw [hr_24]) ?_
                    have hP9 := hP.sub (ws' := ([] : va_W)) [] rfl
                    have hD9 := hD.sub (ws' := ([] : va_W)) [] (by decide) rfl
                    exact W.iret (v := (-1)) hx hb hr (fun t ht hW => ⟨⟨(-1), (), rfl, by first | exact Or.inr ⟨rfl, by omega⟩ | (exfalso; omega), by rw [ht]; exact hP9, hD9⟩, hS.F ht⟩) hS.2.2 dX9_sail_104
              ·
                have ic_15 : p2.toInt = p3.toInt := (g_eq rfl rfl).mp c_15
                refine lv_iconst (v := (-1)) hx hb dX9_sail_46 (by decide) ?_
                have hP9 := hP.sub (ws' := ([] : va_W)) [] rfl
                have hD9 := hD.sub (ws' := ([] : va_W)) [] (by decide) rfl
                exact W.iret (v := (-1)) hx hb hr (fun t ht hW => ⟨⟨(-1), (), rfl, by first | exact Or.inr ⟨rfl, by omega⟩ | (exfalso; omega), by rw [ht]; exact hP9, hD9⟩, hS.F ht⟩) hS.2.2 dX9_sail_47
        ·
          refine W_top (y := .int 0) (by rw [hr_11]) ?_
          refine lv_if_eq (tgt := 46) hx hb dX9_sail_26 (by decide) (fun c_25 => ?_) (fun c_25 => absurd (by decide) c_25)
          refine lv_iconst (v := (-1)) hx hb dX9_sail_46 (by decide) ?_
          have hP9 := hP.sub (ws' := ([] : va_W)) [] rfl
          have hD9 := hD.sub (ws' := ([] : va_W)) [] (by decide) rfl
          exact W.iret (v := (-1)) hx hb hr (fun t ht hW => ⟨⟨(-1), (), rfl, by first | exact Or.inr ⟨rfl, by omega⟩ | (exfalso; omega), by rw [ht]; exact hP9, hD9⟩, hS.F ht⟩) hS.2.2 dX9_sail_47
      ·
        refine W_top (y := .int 0) (by rw [hr_8]) ?_
        refine lv_if_eq (tgt := 46) hx hb dX9_sail_18 (by decide) (fun c_26 => ?_) (fun c_26 => absurd (by decide) c_26)
        refine lv_iconst (v := (-1)) hx hb dX9_sail_46 (by decide) ?_
        have hP9 := hP.sub (ws' := ([] : va_W)) [] rfl
        have hD9 := hD.sub (ws' := ([] : va_W)) [] (by decide) rfl
        exact W.iret (v := (-1)) hx hb hr (fun t ht hW => ⟨⟨(-1), (), rfl, by first | exact Or.inr ⟨rfl, by omega⟩ | (exfalso; omega), by rw [ht]; exact hP9, hD9⟩, hS.F ht⟩) hS.2.2 dX9_sail_47
    ·
      refine W_top (y := .int 0) (by rw [hr_5]) ?_
      refine lv_if_eq (tgt := 46) hx hb dX9_sail_11 (by decide) (fun c_27 => ?_) (fun c_27 => absurd (by decide) c_27)
      refine lv_iconst (v := (-1)) hx hb dX9_sail_46 (by decide) ?_
      have hP9 := hP.sub (ws' := ([] : va_W)) [] rfl
      have hD9 := hD.sub (ws' := ([] : va_W)) [] (by decide) rfl
      exact W.iret (v := (-1)) hx hb hr (fun t ht hW => ⟨⟨(-1), (), rfl, by first | exact Or.inr ⟨rfl, by omega⟩ | (exfalso; omega), by rw [ht]; exact hP9, hD9⟩, hS.F ht⟩) hS.2.2 dX9_sail_47
  ·
    refine W_top (y := .int 0) (by rw [hr_2]) ?_
    refine lv_if_eq (tgt := 46) hx hb dX9_sail_4 (by decide) (fun c_28 => ?_) (fun c_28 => absurd (by decide) c_28)
    refine lv_iconst (v := (-1)) hx hb dX9_sail_46 (by decide) ?_
    have hP9 := hP.sub (ws' := ([] : va_W)) [] rfl
    have hD9 := hD.sub (ws' := ([] : va_W)) [] (by decide) rfl
    exact W.iret (v := (-1)) hx hb hr (fun t ht hW => ⟨⟨(-1), (), rfl, by first | exact Or.inr ⟨rfl, by omega⟩ | (exfalso; omega), by rw [ht]; exact hP9, hD9⟩, hS.F ht⟩) hS.2.2 dX9_sail_47
set_option maxHeartbeats 4000000 in
set_option maxRecDepth 100000 in
theorem c_X9_advance (l : Launch) (D : va_G) (E : Nat → Nat) (k0 : Nat) (cm : Nat → Nat) (p0 : Int32) (sz : Nat)  : Met l yX9_advance (wl yX9_advance cX9_advance 6 none) (RM 0 0 0) (mu_P D E [.ref k0, .int p0] [(k0, .inr (9, mF cm 0 0 0 0 0 0 0 0 0))] sz) (va_Qv (fun (u : Unit) => True) (mu_B D (va_A [(k0, .inr (9, mF cm 0 0 0 0 0 0 0 0 0))] sz) (fun (u : Unit) => [(k0, .inr (9, mF cm 0 0 0 0 0 0 0 0 0))])) (va_A [(k0, .inr (9, mF cm 0 0 0 0 0 0 0 0 0))] sz)) 0 0 (va_A [(k0, .inr (9, mF cm 0 0 0 0 0 0 0 0 0))] sz) := by
  refine Met.ofW (cc := cX9_advance) (maxL := 6) (ret := none) (by decide) rfl ?_
  intro p e s m args below meth c s₁ B hml hv
  obtain ⟨rfl, hsz, hP, hK, hD0⟩ := hv
  have hx := B.exec
  have hb := B.bytes
  have hr := B.returns
  have hts := atoms_spec (ws := wl yX9_advance cX9_advance 6 none) B.pre
  have htb : ∀ w ∈ tb, w.before _ s = true := fun w h => hts w (List.mem_cons_of_mem _ h)
  have hown : s.vm.findClass RX9 = some m.cls := findClass_of_methodNamed B.named
  have hlocks := B.notSynchronized
  subst hsz
  have hD := hD0.self (sz := s.heap.size)
  generalize hAe : va_A [(k0, .inr (9, mF cm 0 0 0 0 0 0 0 0 0))] s.heap.size = A at hD ⊢
  have hA : ∀ q : Nat, s.heap.size ≤ q → A q := fun q h => by rw [← hAe]; exact Or.inr h
  have hS : va_S A s.heap s.heap [] := va_S.rf
  have hP : va_P D vwCl [(k0, .inr (9, mF cm 0 0 0 0 0 0 0 0 0))] s.heap := hP
  have hl := lv_entry ([.ref k0, .int p0]) (n := 6) (Nat.le_of_ble_eq_true rfl)
  rw [lg_entry_eq]
  generalize (lg_sl ([.ref k0, .int p0]) ++ List.replicate (6 - (lg_sl ([.ref k0, .int p0])).length) Slot.unset).toArray = ls at hl ⊢
  have hl : lv_has ls 6 [(0, .ref k0), (1, .int p0)] := hl
  have lo_p0 := i_lo p0
  have hi_p0 := i_hi p0
  refine lv_aload_n hx hb dX9_advance_0 rfl (lv_at hl 0 rfl) ?_
  refine va_get (D := D) (ci := 9) (v := .int 0) (C := RX9) (T := TX9) (N := 68) hx hb htb iX9 hown hK.1 hP 0 rfl rfl 39 (by decide) (htb _ k_997) (fun _ h9 => h9) rfl dX9_advance_1 ?_
  refine lv_aload_n hx hb dX9_advance_4 rfl (lv_at hl 0 rfl) ?_
  refine va_get (D := D) (ci := 9) (v := .int 0) (C := RX9) (T := TX9) (N := 68) hx hb htb iX9 hown hK.1 hP 0 rfl rfl 33 (by decide) (htb _ k_991) (fun _ h9 => h9) rfl dX9_advance_5 ?_
  refine lv_icmp_ge (tgt := 38) hx hb dX9_advance_8 (by decide) (fun c_1 => ?_) (fun c_1 => absurd (by decide) c_1)
  refine lv_aload_n hx hb dX9_advance_38 rfl (lv_at hl 0 rfl) ?_
  refine lv_aload_n hx hb dX9_advance_39 rfl (lv_at hl 0 rfl) ?_
  refine va_get (D := D) (ci := 9) (v := .int 0) (C := RX9) (T := TX9) (N := 68) hx hb htb iX9 hown hK.1 hP 0 rfl rfl 39 (by decide) (htb _ k_997) (fun _ h9 => h9) rfl dX9_advance_40 ?_
  refine va_put (D := D) (ci := 9) (v := .int 0) (ty := .int) (C := RX9) (T := TX9) (N := 68) hx hb htb iX9 tyX9 tyX9_ok nmX9 hown hK.1 hP hD hS 0 rfl rfl 41 (by decide) (htb _ k_999) (fun _ h9 => h9) rfl (by decide +kernel) rfl rfl (Nat.le_of_ble_eq_true rfl) dX9_advance_43 (fun H locs hP hD hS => ?_)
  have hP : va_P D vwCl [(k0, .inr (9, mF cm 0 0 0 0 0 0 0 0 0))] H := hP
  have hD : va_D A [(k0, .inr (9, mF cm 0 0 0 0 0 0 0 0 0))] := hD
  refine lv_aload_n hx hb dX9_advance_46 rfl (lv_at hl 0 rfl) ?_
  refine va_get (D := D) (ci := 9) (v := .int 0) (C := RX9) (T := TX9) (N := 68) hx hb htb iX9 hown hK.1 hP 0 rfl rfl 39 (by decide) (htb _ k_997) (fun _ h9 => h9) rfl dX9_advance_47 ?_
  refine lv_aload_n hx hb dX9_advance_50 rfl (lv_at hl 0 rfl) ?_
  refine va_get (D := D) (ci := 9) (v := .int 0) (C := RX9) (T := TX9) (N := 68) hx hb htb iX9 hown hK.1 hP 0 rfl rfl 33 (by decide) (htb _ k_991) (fun _ h9 => h9) rfl dX9_advance_51 ?_
  refine lv_icmp_ne (tgt := 63) hx hb dX9_advance_54 (by decide) (fun c_2 => absurd (by decide) c_2) (fun c_2 => ?_)
  refine lv_aload_n hx hb dX9_advance_57 rfl (lv_at hl 0 rfl) ?_
  refine lv_iconst (v := 0) hx hb dX9_advance_58 (by decide) ?_
  refine va_put (D := D) (ci := 9) (v := .int 0) (ty := .int) (C := RX9) (T := TX9) (N := 68) hx hb htb iX9 tyX9 tyX9_ok nmX9 hown hK.1 hP hD hS 0 rfl rfl 40 (by decide) (htb _ k_998) (fun _ h9 => h9) rfl (by decide +kernel) rfl rfl (Nat.le_of_ble_eq_true rfl) dX9_advance_59 (fun H locs hP hD hS => ?_)
  have hP : va_P D vwCl [(k0, .inr (9, mF cm 0 0 0 0 0 0 0 0 0))] H := hP
  have hD : va_D A [(k0, .inr (9, mF cm 0 0 0 0 0 0 0 0 0))] := hD
  have hP9 := hP.sub (ws' := [(k0, .inr (9, mF cm 0 0 0 0 0 0 0 0 0))]) [0] rfl
  have hD9 := hD.sub (ws' := [(k0, .inr (9, mF cm 0 0 0 0 0 0 0 0 0))]) [0] (by decide) rfl
  exact W.vret hx hb hr (fun t ht hW => ⟨⟨(), rfl, trivial, by rw [ht]; exact hP9, hD9⟩, hS.F ht⟩) hS.2.2 dX9_advance_62
set_option maxHeartbeats 4000000 in
set_option maxRecDepth 100000 in
theorem c_X9_readRule (l : Launch) (D : va_G) (E : Nat → Nat) (k0 : Nat) (cm : Nat → Nat) (p0 : Int32) (sz : Nat)  : Met l yX9_readRule (wl yX9_readRule cX9_readRule 5 (some .int)) (RM 1 0 0) (mu_P D E [.ref k0, .int p0] [(k0, .inr (9, mF cm 0 0 0 0 0 0 0 0 0))] sz) (va_Qi (fun (r : Int32) (u : Unit) => (r = 0 ∧ True)) (mu_B D (va_A [(k0, .inr (9, mF cm 0 0 0 0 0 0 0 0 0))] sz) (fun (u : Unit) => [(k0, .inr (9, mF cm 0 0 0 0 0 0 0 0 0))])) (va_A [(k0, .inr (9, mF cm 0 0 0 0 0 0 0 0 0))] sz)) 0 0 (va_A [(k0, .inr (9, mF cm 0 0 0 0 0 0 0 0 0))] sz) := by
  refine Met.ofW (cc := cX9_readRule) (maxL := 5) (ret := (some .int)) (by decide) rfl ?_
  intro p e s m args below meth c s₁ B hml hv
  obtain ⟨rfl, hsz, hP, hK, hD0⟩ := hv
  have hx := B.exec
  have hb := B.bytes
  have hr := B.returns
  have hts := atoms_spec (ws := wl yX9_readRule cX9_readRule 5 (some .int)) B.pre
  have htb : ∀ w ∈ tb, w.before _ s = true := fun w h => hts w (List.mem_cons_of_mem _ h)
  have hown : s.vm.findClass RX9 = some m.cls := findClass_of_methodNamed B.named
  have hlocks := B.notSynchronized
  subst hsz
  have hD := hD0.self (sz := s.heap.size)
  generalize hAe : va_A [(k0, .inr (9, mF cm 0 0 0 0 0 0 0 0 0))] s.heap.size = A at hD ⊢
  have hA : ∀ q : Nat, s.heap.size ≤ q → A q := fun q h => by rw [← hAe]; exact Or.inr h
  have hS : va_S A s.heap s.heap [] := va_S.rf
  have hP : va_P D vwCl [(k0, .inr (9, mF cm 0 0 0 0 0 0 0 0 0))] s.heap := hP
  have hl := lv_entry ([.ref k0, .int p0]) (n := 5) (Nat.le_of_ble_eq_true rfl)
  rw [lg_entry_eq]
  generalize (lg_sl ([.ref k0, .int p0]) ++ List.replicate (5 - (lg_sl ([.ref k0, .int p0])).length) Slot.unset).toArray = ls at hl ⊢
  have hl : lv_has ls 5 [(0, .ref k0), (1, .int p0)] := hl
  have lo_p0 := i_lo p0
  have hi_p0 := i_hi p0
  refine lv_aload_n hx hb dX9_readRule_0 rfl (lv_at hl 0 rfl) ?_
  refine lv_iconst (v := 0) hx hb dX9_readRule_1 (by decide) ?_
  refine va_put (D := D) (ci := 9) (v := .int 0) (ty := .int) (C := RX9) (T := TX9) (N := 68) hx hb htb iX9 tyX9 tyX9_ok nmX9 hown hK.1 hP hD hS 0 rfl rfl 39 (by decide) (htb _ k_997) (fun _ h9 => h9) rfl (by decide +kernel) rfl rfl (Nat.le_of_ble_eq_true rfl) dX9_readRule_2 (fun H locs hP hD hS => ?_)
  have hP : va_P D vwCl [(k0, .inr (9, mF cm 0 0 0 0 0 0 0 0 0))] H := hP
  have hD : va_D A [(k0, .inr (9, mF cm 0 0 0 0 0 0 0 0 0))] := hD
  refine lv_aload_n hx hb dX9_readRule_5 rfl (lv_at hl 0 rfl) ?_
  refine lv_iconst (v := 0) hx hb dX9_readRule_6 (by decide) ?_
  refine va_put (D := D) (ci := 9) (v := .int 0) (ty := .int) (C := RX9) (T := TX9) (N := 68) hx hb htb iX9 tyX9 tyX9_ok nmX9 hown hK.1 hP hD hS 0 rfl rfl 44 (by decide) (htb _ k_1002) (fun _ h9 => h9) rfl (by decide +kernel) rfl rfl (Nat.le_of_ble_eq_true rfl) dX9_readRule_7 (fun H locs hP hD hS => ?_)
  have hP : va_P D vwCl [(k0, .inr (9, mF cm 0 0 0 0 0 0 0 0 0))] H := hP
  have hD : va_D A [(k0, .inr (9, mF cm 0 0 0 0 0 0 0 0 0))] := hD
  refine lv_aload_n hx hb dX9_readRule_10 rfl (lv_at hl 0 rfl) ?_
  refine lv_iconst (v := 0) hx hb dX9_readRule_11 (by decide) ?_
  refine va_put (D := D) (ci := 9) (v := .int 0) (ty := .int) (C := RX9) (T := TX9) (N := 68) hx hb htb iX9 tyX9 tyX9_ok nmX9 hown hK.1 hP hD hS 0 rfl rfl 38 (by decide) (htb _ k_996) (fun _ h9 => h9) rfl (by decide +kernel) rfl rfl (Nat.le_of_ble_eq_true rfl) dX9_readRule_12 (fun H locs hP hD hS => ?_)
  have hP : va_P D vwCl [(k0, .inr (9, mF cm 0 0 0 0 0 0 0 0 0))] H := hP
  have hD : va_D A [(k0, .inr (9, mF cm 0 0 0 0 0 0 0 0 0))] := hD
  refine lv_iconst (v := 1) hx hb dX9_readRule_15 (by decide) ?_
  refine lv_istore_n (lv' := [(2, .int 1), (0, .ref k0), (1, .int p0)]) hx hb dX9_readRule_16 rfl hl (by decide) rfl (fun ls hl => ?_)
  refine lv_iconst (v := 1) hx hb dX9_readRule_17 (by decide) ?_
  refine lv_istore_n (lv' := [(3, .int 1), (2, .int 1), (0, .ref k0), (1, .int p0)]) hx hb dX9_readRule_18 rfl hl (by decide) rfl (fun ls hl => ?_)
  refine lv_aload_n hx hb dX9_readRule_19 rfl (lv_at hl 2 rfl) ?_
  refine lv_iload_n hx hb dX9_readRule_20 rfl (lv_at hl 3 rfl) ?_
  have hPc := hP.sub (ws' := [(k0, .inr (9, mF cm 0 0 0 0 0 0 0 0 0))]) [0] rfl
  have hDc := hD.sub (ws' := [(k0, .inr (9, mF cm 0 0 0 0 0 0 0 0 0))]) [0] (by decide) rfl
  refine aft_v (runMV (rest := []) (As := [.int p0]) hx hb hml hown htb hK (c_X9_advance l D E k0 cm p0 _ ) ok_X9_advance k_1338 k_1340 ks_55 k_9 k_1341 ⟨(Nat.le_of_ble_eq_true rfl), (Nat.le_of_ble_eq_true rfl)⟩ ⟨(Nat.le_of_ble_eq_true rfl), (Nat.le_of_ble_eq_true rfl)⟩ hl.1 (Nat.le_of_ble_eq_true rfl) rfl rfl dX9_readRule_21 hPc hDc rfl rfl 0 rfl) hP hD hS hA [0] [] (wr := ([] : va_W)) rfl rfl (by decide) (by decide) (fun u_1 H locs hw_2 hP hD hS => ?_)
  clear hPc hDc
  have hP : va_P D vwCl [(k0, .inr (9, mF cm 0 0 0 0 0 0 0 0 0))] H := hP
  have hD : va_D A [(k0, .inr (9, mF cm 0 0 0 0 0 0 0 0 0))] := hD
  refine lv_iload_n hx hb dX9_readRule_24 rfl (lv_at hl 1 rfl) ?_
  refine lv_if_eq (tgt := 183) hx hb dX9_readRule_25 (by decide) (fun c_4 => absurd c_4 (by decide)) (fun c_4 => ?_)
  refine lv_aload_n hx hb dX9_readRule_28 rfl (lv_at hl 2 rfl) ?_
  refine va_get (D := D) (ci := 9) (v := .int 0) (C := RX9) (T := TX9) (N := 68) hx hb htb iX9 hown hK.1 hP 0 rfl rfl 40 (by decide) (htb _ k_998) (fun _ h9 => h9) rfl dX9_readRule_29 ?_
  refine lv_bipush (v := 30) hx hb dX9_readRule_32 (by decide) ?_
  refine lv_icmp_ne (tgt := 41) hx hb dX9_readRule_34 (by decide) (fun c_5 => ?_) (fun c_5 => absurd c_5 (by decide))
  refine lv_aload_n hx hb dX9_readRule_41 rfl (lv_at hl 2 rfl) ?_
  refine va_get (D := D) (ci := 9) (v := .int 0) (C := RX9) (T := TX9) (N := 68) hx hb htb iX9 hown hK.1 hP 0 rfl rfl 40 (by decide) (htb _ k_998) (fun _ h9 => h9) rfl dX9_readRule_42 ?_
  refine lv_bipush (v := 51) hx hb dX9_readRule_45 (by decide) ?_
  refine lv_icmp_eq (tgt := 67) hx hb dX9_readRule_47 (by decide) (fun c_6 => absurd c_6 (by decide)) (fun c_6 => ?_)
  refine lv_aload_n hx hb dX9_readRule_50 rfl (lv_at hl 2 rfl) ?_
  refine va_get (D := D) (ci := 9) (v := .int 0) (C := RX9) (T := TX9) (N := 68) hx hb htb iX9 hown hK.1 hP 0 rfl rfl 40 (by decide) (htb _ k_998) (fun _ h9 => h9) rfl dX9_readRule_51 ?_
  refine lv_iconst (v := 5) hx hb dX9_readRule_54 (by decide) ?_
  refine lv_icmp_eq (tgt := 67) hx hb dX9_readRule_55 (by decide) (fun c_7 => absurd c_7 (by decide)) (fun c_7 => ?_)
  refine lv_aload_n hx hb dX9_readRule_58 rfl (lv_at hl 2 rfl) ?_
  refine va_get (D := D) (ci := 9) (v := .int 0) (C := RX9) (T := TX9) (N := 68) hx hb htb iX9 hown hK.1 hP 0 rfl rfl 40 (by decide) (htb _ k_998) (fun _ h9 => h9) rfl dX9_readRule_59 ?_
  refine lv_bipush (v := 71) hx hb dX9_readRule_62 (by decide) ?_
  refine lv_icmp_ne (tgt := 144) hx hb dX9_readRule_64 (by decide) (fun c_8 => ?_) (fun c_8 => absurd c_8 (by decide))
  refine lv_aload_n hx hb dX9_readRule_144 rfl (lv_at hl 2 rfl) ?_
  refine va_get (D := D) (ci := 9) (v := .int 0) (C := RX9) (T := TX9) (N := 68) hx hb htb iX9 hown hK.1 hP 0 rfl rfl 40 (by decide) (htb _ k_998) (fun _ h9 => h9) rfl dX9_readRule_145 ?_
  refine lv_iconst (v := 1) hx hb dX9_readRule_148 (by decide) ?_
  refine lv_icmp_eq (tgt := 161) hx hb dX9_readRule_149 (by decide) (fun c_9 => absurd c_9 (by decide)) (fun c_9 => ?_)
  refine lv_aload_n hx hb dX9_readRule_152 rfl (lv_at hl 2 rfl) ?_
  refine va_get (D := D) (ci := 9) (v := .int 0) (C := RX9) (T := TX9) (N := 68) hx hb htb iX9 hown hK.1 hP 0 rfl rfl 40 (by decide) (htb _ k_998) (fun _ h9 => h9) rfl dX9_readRule_153 ?_
  refine lv_bipush (v := 100) hx hb dX9_readRule_156 (by decide) ?_
  refine lv_icmp_lt (tgt := 178) hx hb dX9_readRule_158 (by decide) (fun c_10 => ?_) (fun c_10 => absurd (by decide) c_10)
  refine lv_aload_n hx hb dX9_readRule_178 rfl (lv_at hl 2 rfl) ?_
  refine va_get (D := D) (ci := 9) (v := .int 0) (C := RX9) (T := TX9) (N := 68) hx hb htb iX9 hown hK.1 hP 0 rfl rfl 41 (by decide) (htb _ k_999) (fun _ h9 => h9) rfl dX9_readRule_179 ?_
  have hP9 := hP.sub (ws' := [(k0, .inr (9, mF cm 0 0 0 0 0 0 0 0 0))]) [0] rfl
  have hD9 := hD.sub (ws' := [(k0, .inr (9, mF cm 0 0 0 0 0 0 0 0 0))]) [0] (by decide) rfl
  exact W.iret (v := 0) hx hb hr (fun t ht hW => ⟨⟨0, (), rfl, ⟨rfl, trivial⟩, by rw [ht]; exact hP9, hD9⟩, hS.F ht⟩) hS.2.2 dX9_readRule_182
set_option maxHeartbeats 4000000 in
set_option maxRecDepth 100000 in
theorem c_X9_rule (l : Launch) (D : va_G) (E : Nat → Nat) (k0 : Nat) (cm : Nat → Nat) (p0 : Int32) (sz : Nat)  : Met l yX9_rule (wl yX9_rule cX9_rule 4 (some .int)) (RM 2 0 0) (mu_P D E [.ref k0, .int p0] [(k0, .inr (9, mF cm 0 0 0 0 0 0 0 0 0))] sz) (va_Qi (fun (r : Int32) (u : Unit) => (r = (-100) ∧ (0 ≤ p0.toInt ∧ p0.toInt ≤ 1)) ∨ (r = (-1) ∧ ¬ (0 ≤ p0.toInt ∧ p0.toInt ≤ 1))) (mu_B D (va_A [(k0, .inr (9, mF cm 0 0 0 0 0 0 0 0 0))] sz) (fun (u : Unit) => ([] : va_W))) (va_A [(k0, .inr (9, mF cm 0 0 0 0 0 0 0 0 0))] sz)) 0 0 (va_A [(k0, .inr (9, mF cm 0 0 0 0 0 0 0 0 0))] sz) := by
  refine Met.ofW (cc := cX9_rule) (maxL := 4) (ret := (some .int)) (by decide) rfl ?_
  intro p e s m args below meth c s₁ B hml hv
  obtain ⟨rfl, hsz, hP, hK, hD0⟩ := hv
  have hx := B.exec
  have hb := B.bytes
  have hr := B.returns
  have hts := atoms_spec (ws := wl yX9_rule cX9_rule 4 (some .int)) B.pre
  have htb : ∀ w ∈ tb, w.before _ s = true := fun w h => hts w (List.mem_cons_of_mem _ h)
  have hown : s.vm.findClass RX9 = some m.cls := findClass_of_methodNamed B.named
  have hlocks := B.notSynchronized
  subst hsz
  have hD := hD0.self (sz := s.heap.size)
  generalize hAe : va_A [(k0, .inr (9, mF cm 0 0 0 0 0 0 0 0 0))] s.heap.size = A at hD ⊢
  have hA : ∀ q : Nat, s.heap.size ≤ q → A q := fun q h => by rw [← hAe]; exact Or.inr h
  have hS : va_S A s.heap s.heap [] := va_S.rf
  have hP : va_P D vwCl [(k0, .inr (9, mF cm 0 0 0 0 0 0 0 0 0))] s.heap := hP
  have hl := lv_entry ([.ref k0, .int p0]) (n := 4) (Nat.le_of_ble_eq_true rfl)
  rw [lg_entry_eq]
  generalize (lg_sl ([.ref k0, .int p0]) ++ List.replicate (4 - (lg_sl ([.ref k0, .int p0])).length) Slot.unset).toArray = ls at hl ⊢
  have hl : lv_has ls 4 [(0, .ref k0), (1, .int p0)] := hl
  have lo_p0 := i_lo p0
  have hi_p0 := i_hi p0
  refine lv_iload_n hx hb dX9_rule_0 rfl (lv_at hl 1 rfl) ?_
  refine lv_iconst (v := 0) hx hb dX9_rule_1 (by decide) ?_
  refine lv_iconst (v := 1) hx hb dX9_rule_2 (by decide) ?_
  refine callRS (rest := []) (As := [.int p0, .int 0, .int 1]) hx hb hml hown htb hK (c_X9_in l D E p0 0 1 ) ok_X9_in k_1168 k_1169 k_9 k_1170 ⟨(Nat.le_of_ble_eq_true rfl), (Nat.le_of_ble_eq_true rfl)⟩ ⟨(Nat.le_of_ble_eq_true rfl), (Nat.le_of_ble_eq_true rfl)⟩ hl.1 (Nat.le_of_ble_eq_true rfl) rfl rfl dX9_rule_3 (hP.sub (ws' := ([] : va_W)) [] rfl) (fun r_2 hw_1 => ?_)
  rcases hw_1 with ⟨hr_2, hw_1⟩ | ⟨hr_2, hw_1⟩
  ·
    try simp only [t_0, t_1] at hw_1
    refine W_top (y := .int 1) (by rw [hr_2]) ?_
    refine lv_if_ne (tgt := 11) hx hb dX9_rule_6 (by decide) (fun c_3 => ?_) (fun c_3 => absurd c_3 (by decide))
    refine lv_aload_n hx hb dX9_rule_11 rfl (lv_at hl 0 rfl) ?_
    refine lv_iload_n hx hb dX9_rule_12 rfl (lv_at hl 1 rfl) ?_
    have hPc := hP.sub (ws' := [(k0, .inr (9, mF cm 0 0 0 0 0 0 0 0 0))]) [0] rfl
    have hDc := hD.sub (ws' := [(k0, .inr (9, mF cm 0 0 0 0 0 0 0 0 0))]) [0] (by decide) rfl
    refine aft_i (runMV (rest := []) (As := [.int p0]) hx hb hml hown htb hK (c_X9_readRule l D E k0 cm p0 _ ) ok_X9_readRule k_1334 k_1336 ks_54 k_9 k_1337 ⟨(Nat.le_of_ble_eq_true rfl), (Nat.le_of_ble_eq_true rfl)⟩ ⟨(Nat.le_of_ble_eq_true rfl), (Nat.le_of_ble_eq_true rfl)⟩ hl.1 (Nat.le_of_ble_eq_true rfl) rfl rfl dX9_rule_13 hPc hDc rfl rfl 0 rfl) hP hD hS hA [0] [] (wr := ([] : va_W)) rfl rfl (by decide) (by decide) (fun r_6 u_4 H locs hw_5 hP hD hS => ?_)
    clear hPc hDc
    have hP : va_P D vwCl [(k0, .inr (9, mF cm 0 0 0 0 0 0 0 0 0))] H := hP
    have hD : va_D A [(k0, .inr (9, mF cm 0 0 0 0 0 0 0 0 0))] := hD
    obtain ⟨hr_6, hw_5⟩ := hw_5
    refine W_top (y := .int 0) (by rw [hr_6]) ?_
    refine lv_istore_n (lv' := [(2, .int 0), (0, .ref k0), (1, .int p0)]) hx hb dX9_rule_16 rfl hl (by decide) rfl (fun ls hl => ?_)
    refine lv_aload_n hx hb dX9_rule_17 rfl (lv_at hl 1 rfl) ?_
    refine lv_iconst (v := 0) hx hb dX9_rule_18 (by decide) ?_
    refine va_put (D := D) (ci := 9) (v := .int 0) (ty := .int) (C := RX9) (T := TX9) (N := 68) hx hb htb iX9 tyX9 tyX9_ok nmX9 hown hK.1 hP hD hS 0 rfl rfl 33 (by decide) (htb _ k_991) (fun _ h9 => h9) rfl (by decide +kernel) rfl rfl (Nat.le_of_ble_eq_true rfl) dX9_rule_19 (fun H locs hP hD hS => ?_)
    have hP : va_P D vwCl [(k0, .inr (9, mF cm 0 0 0 0 0 0 0 0 0))] H := hP
    have hD : va_D A [(k0, .inr (9, mF cm 0 0 0 0 0 0 0 0 0))] := hD
    refine lv_iload_n hx hb dX9_rule_22 rfl (lv_at hl 0 rfl) ?_
    refine lv_if_lt (tgt := 31) hx hb dX9_rule_23 (by decide) (fun c_7 => absurd c_7 (by decide)) (fun c_7 => ?_)
    refine lv_bipush (v := (-100)) hx hb dX9_rule_26 (by decide) ?_
    refine lv_iload_n hx hb dX9_rule_28 rfl (lv_at hl 0 rfl) ?_
    refine lv_isub hx hb dX9_rule_29 ?_
    refine W_top (y := .int (-100)) (by decide) ?_
    have hP9 := hP.sub (ws' := ([] : va_W)) [] rfl
    have hD9 := hD.sub (ws' := ([] : va_W)) [] (by decide) rfl
    exact W.iret (v := (-100)) hx hb hr (fun t ht hW => ⟨⟨(-100), (), rfl, by first | exact Or.inl ⟨rfl, by omega⟩ | (exfalso; omega), by rw [ht]; exact hP9, hD9⟩, hS.F ht⟩) hS.2.2 dX9_rule_30
  ·
    try simp only [t_0, t_1] at hw_1
    refine W_top (y := .int 0) (by rw [hr_2]) ?_
    refine lv_if_ne (tgt := 11) hx hb dX9_rule_6 (by decide) (fun c_8 => absurd (by decide) c_8) (fun c_8 => ?_)
    refine lv_iconst (v := (-1)) hx hb dX9_rule_9 (by decide) ?_
    have hP9 := hP.sub (ws' := ([] : va_W)) [] rfl
    have hD9 := hD.sub (ws' := ([] : va_W)) [] (by decide) rfl
    exact W.iret (v := (-1)) hx hb hr (fun t ht hW => ⟨⟨(-1), (), rfl, by first | exact Or.inr ⟨rfl, by omega⟩ | (exfalso; omega), by rw [ht]; exact hP9, hD9⟩, hS.F ht⟩) hS.2.2 dX9_rule_10
set_option maxHeartbeats 4000000 in
set_option maxRecDepth 100000 in
theorem c_X9_put (l : Launch) (D : va_G) (E : Nat → Nat) (k0 : Nat) (cm : Nat → Nat) (p0 : Int32) (p1 : Int32) (p2 : Int32) (sz : Nat)  : Met l yX9_put (wl yX9_put cX9_put 5 (some .int)) (RM 2 0 0) (mu_P D E [.ref k0, .int p0, .int p1, .int p2] [(k0, .inr (9, mF cm 0 0 0 0 0 0 0 0 0)), ((cm 3), .inl (E 0, 16, .inl (fun _ => -5))), ((cm 4), .inl (E 0, 16, .inl (fun _ => 0))), ((cm 5), .inl (E 1, 6400, .inl (fun _ => 0))), ((cm 8), .inl (E 1, 6400, .inl (fun _ => 0))), ((cm 9), .inl (E 1, 6400, .inl (fun _ => 0))), ((cm 10), .inl (E 0, 6400, .inl (fun _ => 0)))] sz) (va_Qi (fun (r : Int32) (u : Unit) => (r = 1 ∧ ((0 ≤ p0.toInt ∧ p0.toInt ≤ 15) ∧ ((p1.toInt = 0 ∧ p2.toInt = 0) ∨ (p1.toInt = 1 ∧ -50 ≤ p2.toInt ∧ p2.toInt ≤ 50) ∨ p1.toInt = 2))) ∨ (r = (-1) ∧ ¬ ((0 ≤ p0.toInt ∧ p0.toInt ≤ 15) ∧ ((p1.toInt = 0 ∧ p2.toInt = 0) ∨ (p1.toInt = 1 ∧ -50 ≤ p2.toInt ∧ p2.toInt ≤ 50) ∨ p1.toInt = 2)))) (mu_B D (va_A [(k0, .inr (9, mF cm 0 0 0 0 0 0 0 0 0)), ((cm 3), .inl (E 0, 16, .inl (fun _ => -5))), ((cm 4), .inl (E 0, 16, .inl (fun _ => 0))), ((cm 5), .inl (E 1, 6400, .inl (fun _ => 0))), ((cm 8), .inl (E 1, 6400, .inl (fun _ => 0))), ((cm 9), .inl (E 1, 6400, .inl (fun _ => 0))), ((cm 10), .inl (E 0, 6400, .inl (fun _ => 0)))] sz) (fun (u : Unit) => ([] : va_W))) (va_A [(k0, .inr (9, mF cm 0 0 0 0 0 0 0 0 0)), ((cm 3), .inl (E 0, 16, .inl (fun _ => -5))), ((cm 4), .inl (E 0, 16, .inl (fun _ => 0))), ((cm 5), .inl (E 1, 6400, .inl (fun _ => 0))), ((cm 8), .inl (E 1, 6400, .inl (fun _ => 0))), ((cm 9), .inl (E 1, 6400, .inl (fun _ => 0))), ((cm 10), .inl (E 0, 6400, .inl (fun _ => 0)))] sz)) 0 0 (va_A [(k0, .inr (9, mF cm 0 0 0 0 0 0 0 0 0)), ((cm 3), .inl (E 0, 16, .inl (fun _ => -5))), ((cm 4), .inl (E 0, 16, .inl (fun _ => 0))), ((cm 5), .inl (E 1, 6400, .inl (fun _ => 0))), ((cm 8), .inl (E 1, 6400, .inl (fun _ => 0))), ((cm 9), .inl (E 1, 6400, .inl (fun _ => 0))), ((cm 10), .inl (E 0, 6400, .inl (fun _ => 0)))] sz) := by
  refine Met.ofW (cc := cX9_put) (maxL := 5) (ret := (some .int)) (by decide) rfl ?_
  intro p e s m args below meth c s₁ B hml hv
  obtain ⟨rfl, hsz, hP, hK, hD0⟩ := hv
  have hx := B.exec
  have hb := B.bytes
  have hr := B.returns
  have hts := atoms_spec (ws := wl yX9_put cX9_put 5 (some .int)) B.pre
  have htb : ∀ w ∈ tb, w.before _ s = true := fun w h => hts w (List.mem_cons_of_mem _ h)
  have hown : s.vm.findClass RX9 = some m.cls := findClass_of_methodNamed B.named
  have hlocks := B.notSynchronized
  subst hsz
  have hD := hD0.self (sz := s.heap.size)
  generalize hAe : va_A [(k0, .inr (9, mF cm 0 0 0 0 0 0 0 0 0)), ((cm 3), .inl (E 0, 16, .inl (fun _ => -5))), ((cm 4), .inl (E 0, 16, .inl (fun _ => 0))), ((cm 5), .inl (E 1, 6400, .inl (fun _ => 0))), ((cm 8), .inl (E 1, 6400, .inl (fun _ => 0))), ((cm 9), .inl (E 1, 6400, .inl (fun _ => 0))), ((cm 10), .inl (E 0, 6400, .inl (fun _ => 0)))] s.heap.size = A at hD ⊢
  have hA : ∀ q : Nat, s.heap.size ≤ q → A q := fun q h => by rw [← hAe]; exact Or.inr h
  have hS : va_S A s.heap s.heap [] := va_S.rf
  have hP : va_P D vwCl [(k0, .inr (9, mF cm 0 0 0 0 0 0 0 0 0)), ((cm 3), .inl (E 0, 16, .inl (fun _ => -5))), ((cm 4), .inl (E 0, 16, .inl (fun _ => 0))), ((cm 5), .inl (E 1, 6400, .inl (fun _ => 0))), ((cm 8), .inl (E 1, 6400, .inl (fun _ => 0))), ((cm 9), .inl (E 1, 6400, .inl (fun _ => 0))), ((cm 10), .inl (E 0, 6400, .inl (fun _ => 0)))] s.heap := hP
  have hl := lv_entry ([.ref k0, .int p0, .int p1, .int p2]) (n := 5) (Nat.le_of_ble_eq_true rfl)
  rw [lg_entry_eq]
  generalize (lg_sl ([.ref k0, .int p0, .int p1, .int p2]) ++ List.replicate (5 - (lg_sl ([.ref k0, .int p0, .int p1, .int p2])).length) Slot.unset).toArray = ls at hl ⊢
  have hl : lv_has ls 5 [(0, .ref k0), (1, .int p0), (2, .int p1), (3, .int p2)] := hl
  have lo_p0 := i_lo p0
  have hi_p0 := i_hi p0
  have lo_p1 := i_lo p1
  have hi_p1 := i_hi p1
  have lo_p2 := i_lo p2
  have hi_p2 := i_hi p2
  refine lv_iload_n hx hb dX9_put_0 rfl (lv_at hl 1 rfl) ?_
  refine callRS (rest := []) (As := [.int p0]) hx hb hml hown htb hK (c_X9_isPlace l D E p0 ) ok_X9_isPlace k_1182 k_1183 k_9 k_1184 ⟨(Nat.le_of_ble_eq_true rfl), (Nat.le_of_ble_eq_true rfl)⟩ ⟨(Nat.le_of_ble_eq_true rfl), (Nat.le_of_ble_eq_true rfl)⟩ hl.1 (Nat.le_of_ble_eq_true rfl) rfl rfl dX9_put_1 (hP.sub (ws' := ([] : va_W)) [] rfl) (fun r_2 hw_1 => ?_)
  rcases hw_1 with ⟨hr_2, hw_1⟩ | ⟨hr_2, hw_1⟩
  ·
    refine W_top (y := .int 1) (by rw [hr_2]) ?_
    refine lv_if_eq (tgt := 40) hx hb dX9_put_4 (by decide) (fun c_3 => absurd c_3 (by decide)) (fun c_3 => ?_)
    refine lv_iload_n hx hb dX9_put_7 rfl (lv_at hl 2 rfl) ?_
    refine lv_iconst (v := 0) hx hb dX9_put_8 (by decide) ?_
    refine lv_iconst (v := 2) hx hb dX9_put_9 (by decide) ?_
    refine callRS (rest := []) (As := [.int p1, .int 0, .int 2]) hx hb hml hown htb hK (c_X9_in l D E p1 0 2 ) ok_X9_in k_1168 k_1169 k_9 k_1170 ⟨(Nat.le_of_ble_eq_true rfl), (Nat.le_of_ble_eq_true rfl)⟩ ⟨(Nat.le_of_ble_eq_true rfl), (Nat.le_of_ble_eq_true rfl)⟩ hl.1 (Nat.le_of_ble_eq_true rfl) rfl rfl dX9_put_10 (hP.sub (ws' := ([] : va_W)) [] rfl) (fun r_5 hw_4 => ?_)
    rcases hw_4 with ⟨hr_5, hw_4⟩ | ⟨hr_5, hw_4⟩
    ·
      try simp only [t_0, t_2] at hw_4
      refine W_top (y := .int 1) (by rw [hr_5]) ?_
      refine lv_if_eq (tgt := 40) hx hb dX9_put_13 (by decide) (fun c_6 => absurd c_6 (by decide)) (fun c_6 => ?_)
      refine lv_iload_n hx hb dX9_put_16 rfl (lv_at hl 2 rfl) ?_
      refine lv_if_ne (tgt := 24) hx hb dX9_put_17 (by decide) (fun c_7 => ?_) (fun c_7 => ?_)
      ·
        have ic_7 : p1.toInt ≠ 0 := mt (g_eq rfl t_0).mpr c_7
        refine lv_iload_n hx hb dX9_put_24 rfl (lv_at hl 2 rfl) ?_
        refine lv_iconst (v := 1) hx hb dX9_put_25 (by decide) ?_
        refine lv_icmp_ne (tgt := 42) hx hb dX9_put_26 (by decide) (fun c_8 => ?_) (fun c_8 => ?_)
        ·
          have ic_8 : p1.toInt ≠ 1 := mt (g_eq rfl t_1).mpr c_8
          refine lv_aload_n hx hb dX9_put_42 rfl (lv_at hl 0 rfl) ?_
          refine va_get (D := D) (ci := 9) (v := .ref (cm 3)) (C := RX9) (T := TX9) (N := 68) hx hb htb iX9 hown hK.1 hP 0 rfl rfl 3 (by decide) (htb _ k_961) (fun _ h9 => h9) rfl dX9_put_43 ?_
          refine lv_iload_n hx hb dX9_put_46 rfl (lv_at hl 1 rfl) ?_
          refine va_iald hx hb hK.1 hP 1 0 rfl rfl (g_in rfl (by omega) (by omega)) dX9_put_47 ?_
          refine W_top (y := .int (-5)) rfl ?_
          refine lv_bipush (v := (-5)) hx hb dX9_put_48 (by decide) ?_
          refine lv_icmp_eq (tgt := 56) hx hb dX9_put_50 (by decide) (fun c_9 => ?_) (fun c_9 => absurd (by decide) c_9)
          refine lv_aload_n hx hb dX9_put_56 rfl (lv_at hl 0 rfl) ?_
          refine va_get (D := D) (ci := 9) (v := .ref (cm 3)) (C := RX9) (T := TX9) (N := 68) hx hb htb iX9 hown hK.1 hP 0 rfl rfl 3 (by decide) (htb _ k_961) (fun _ h9 => h9) rfl dX9_put_57 ?_
          refine lv_iload_n hx hb dX9_put_60 rfl (lv_at hl 1 rfl) ?_
          refine lv_iload_n hx hb dX9_put_61 rfl (lv_at hl 2 rfl) ?_
          refine va_iast hx hb hK.1 hP hD hS 1 0 rfl rfl (g_in rfl (by omega) (by omega)) dX9_put_62 (fun H locs hP hD hS => ?_)
          have hP : va_P D vwCl [(k0, .inr (9, mF cm 0 0 0 0 0 0 0 0 0)), ((cm 3), .inl (E 0, 16, .inl (upd (fun _ => -5) (p0 : Int32).toNatClampNeg p1))), ((cm 4), .inl (E 0, 16, .inl (fun _ => 0))), ((cm 5), .inl (E 1, 6400, .inl (fun _ => 0))), ((cm 8), .inl (E 1, 6400, .inl (fun _ => 0))), ((cm 9), .inl (E 1, 6400, .inl (fun _ => 0))), ((cm 10), .inl (E 0, 6400, .inl (fun _ => 0)))] H := hP
          have hD : va_D A [(k0, .inr (9, mF cm 0 0 0 0 0 0 0 0 0)), ((cm 3), .inl (E 0, 16, .inl (upd (fun _ => -5) (p0 : Int32).toNatClampNeg p1))), ((cm 4), .inl (E 0, 16, .inl (fun _ => 0))), ((cm 5), .inl (E 1, 6400, .inl (fun _ => 0))), ((cm 8), .inl (E 1, 6400, .inl (fun _ => 0))), ((cm 9), .inl (E 1, 6400, .inl (fun _ => 0))), ((cm 10), .inl (E 0, 6400, .inl (fun _ => 0)))] := hD
          refine lv_aload_n hx hb dX9_put_63 rfl (lv_at hl 0 rfl) ?_
          refine va_get (D := D) (ci := 9) (v := .ref (cm 4)) (C := RX9) (T := TX9) (N := 68) hx hb htb iX9 hown hK.1 hP 0 rfl rfl 4 (by decide) (htb _ k_962) (fun _ h9 => h9) rfl dX9_put_64 ?_
          refine lv_iload_n hx hb dX9_put_67 rfl (lv_at hl 1 rfl) ?_
          refine lv_iload_n hx hb dX9_put_68 rfl (lv_at hl 3 rfl) ?_
          refine va_iast hx hb hK.1 hP hD hS 2 0 rfl rfl (g_in rfl (by omega) (by omega)) dX9_put_69 (fun H locs hP hD hS => ?_)
          have hP : va_P D vwCl [(k0, .inr (9, mF cm 0 0 0 0 0 0 0 0 0)), ((cm 3), .inl (E 0, 16, .inl (upd (fun _ => -5) (p0 : Int32).toNatClampNeg p1))), ((cm 4), .inl (E 0, 16, .inl (upd (fun _ => 0) (p0 : Int32).toNatClampNeg p2))), ((cm 5), .inl (E 1, 6400, .inl (fun _ => 0))), ((cm 8), .inl (E 1, 6400, .inl (fun _ => 0))), ((cm 9), .inl (E 1, 6400, .inl (fun _ => 0))), ((cm 10), .inl (E 0, 6400, .inl (fun _ => 0)))] H := hP
          have hD : va_D A [(k0, .inr (9, mF cm 0 0 0 0 0 0 0 0 0)), ((cm 3), .inl (E 0, 16, .inl (upd (fun _ => -5) (p0 : Int32).toNatClampNeg p1))), ((cm 4), .inl (E 0, 16, .inl (upd (fun _ => 0) (p0 : Int32).toNatClampNeg p2))), ((cm 5), .inl (E 1, 6400, .inl (fun _ => 0))), ((cm 8), .inl (E 1, 6400, .inl (fun _ => 0))), ((cm 9), .inl (E 1, 6400, .inl (fun _ => 0))), ((cm 10), .inl (E 0, 6400, .inl (fun _ => 0)))] := hD
          refine lv_iconst (v := 0) hx hb dX9_put_70 (by decide) ?_
          refine lv_istore (lv' := [(4, .int 0), (0, .ref k0), (1, .int p0), (2, .int p1), (3, .int p2)]) hx hb dX9_put_71 hl (by decide) rfl (fun ls hl => ?_)
          have loop_12 : ∀ (N_11 : Nat) (ix : Int32) (gf73_0 : Nat → Int32) (gf73_1 : Nat → Int32) (gf73_2 : Nat → Int32) (gf73_3 : Nat → Int32) (H : Heap) (locs : List Loc) (ls : Array Slot), 400 - ix.toInt < (N_11 : Int) → (0 ≤ ix.toInt) → (ix.toInt ≤ 400) → va_P D vwCl [(k0, .inr (9, mF cm 0 0 0 0 0 0 0 0 0)), ((cm 3), .inl (E 0, 16, .inl (upd (fun _ => -5) (p0 : Int32).toNatClampNeg p1))), ((cm 4), .inl (E 0, 16, .inl (upd (fun _ => 0) (p0 : Int32).toNatClampNeg p2))), ((cm 5), .inl (E 1, 6400, .inl gf73_0)), ((cm 8), .inl (E 1, 6400, .inl gf73_1)), ((cm 9), .inl (E 1, 6400, .inl gf73_2)), ((cm 10), .inl (E 0, 6400, .inl gf73_3))] H → va_D A [(k0, .inr (9, mF cm 0 0 0 0 0 0 0 0 0)), ((cm 3), .inl (E 0, 16, .inl (upd (fun _ => -5) (p0 : Int32).toNatClampNeg p1))), ((cm 4), .inl (E 0, 16, .inl (upd (fun _ => 0) (p0 : Int32).toNatClampNeg p2))), ((cm 5), .inl (E 1, 6400, .inl gf73_0)), ((cm 8), .inl (E 1, 6400, .inl gf73_1)), ((cm 9), .inl (E 1, 6400, .inl gf73_2)), ((cm 10), .inl (E 0, 6400, .inl gf73_3))] → va_S A s.heap H locs → lv_has ls 5 [(4, .int ix), (0, .ref k0), (1, .int p0), (2, .int p1), (3, .int p2)] → W p l e (headSpec (wl yX9_put cX9_put 5 (some .int)) (RM 2 0 0)).room s m [Value.ref k0, .int p0, .int p1, .int p2].toArray below meth c H locs 0 0 (MQ below (va_Qi (fun (r : Int32) (u : Unit) => (r = 1 ∧ ((0 ≤ p0.toInt ∧ p0.toInt ≤ 15) ∧ ((p1.toInt = 0 ∧ p2.toInt = 0) ∨ (p1.toInt = 1 ∧ -50 ≤ p2.toInt ∧ p2.toInt ≤ 50) ∨ p1.toInt = 2))) ∨ (r = (-1) ∧ ¬ ((0 ≤ p0.toInt ∧ p0.toInt ≤ 15) ∧ ((p1.toInt = 0 ∧ p2.toInt = 0) ∨ (p1.toInt = 1 ∧ -50 ≤ p2.toInt ∧ p2.toInt ≤ 50) ∨ p1.toInt = 2)))) (mu_B D A (fun (u : Unit) => ([] : va_W))) A) [Value.ref k0, .int p0, .int p1, .int p2].toArray s 0 0 A) (F0 m 73 ls []) := by
            intro N_11
            induction N_11 with
            | zero => intro ix gf73_0 gf73_1 gf73_2 gf73_3 H locs ls hm v0_loop_12 v1_loop_12 _ _ _ _; exfalso; omega
            | succ N_11 ih_10 =>
              intro ix gf73_0 gf73_1 gf73_2 gf73_3 H locs ls hm v0_loop_12 v1_loop_12 hP hD hS hl
              refine lv_iload hx hb dX9_put_73 (lv_at hl 0 rfl) ?_
              refine lv_sipush (v := 400) hx hb dX9_put_75 (by decide) ?_
              refine lv_icmp_ge (tgt := 143) hx hb dX9_put_78 (by decide) (fun c_13 => ?_) (fun c_13 => ?_)
              ·
                have ic_13 : 400 ≤ ix.toInt := by first | exact (g_le t_400 rfl).mp c_13 | (have h := mt (g_lt rfl t_400).mpr c_13; omega)
                refine lv_iconst (v := 1) hx hb dX9_put_143 (by decide) ?_
                have hP9 := hP.sub (ws' := ([] : va_W)) [] rfl
                have hD9 := hD.sub (ws' := ([] : va_W)) [] (by decide) rfl
                exact W.iret (v := 1) hx hb hr (fun t ht hW => ⟨⟨1, (), rfl, by first | exact Or.inl ⟨rfl, by omega⟩ | (exfalso; omega), by rw [ht]; exact hP9, hD9⟩, hS.F ht⟩) hS.2.2 dX9_put_144
              ·
                have ic_13 : ix.toInt < 400 := by first | exact (g_lt rfl t_400).mp c_13 | (have h := mt (g_le t_400 rfl).mpr c_13; omega)
                refine lv_aload_n hx hb dX9_put_81 rfl (lv_at hl 1 rfl) ?_
                refine va_get (D := D) (ci := 9) (v := .ref (cm 5)) (C := RX9) (T := TX9) (N := 68) hx hb htb iX9 hown hK.1 hP 0 rfl rfl 5 (by decide) (htb _ k_963) (fun _ h9 => h9) rfl dX9_put_82 ?_
                refine lv_sipush (v := 400) hx hb dX9_put_85 (by decide) ?_
                refine lv_iload_n hx hb dX9_put_88 rfl (lv_at hl 2 rfl) ?_
                refine lv_imul hx hb dX9_put_89 ?_
                refine lv_topi (fun z_14 ez_14 => ?_)
                have jz_14 : z_14.toInt = 400 * p0.toInt := by rw [ez_14]; exact g_mul t_400 rfl (by omega) (by omega)
                refine lv_iload hx hb dX9_put_90 (lv_at hl 0 rfl) ?_
                refine lv_iadd hx hb dX9_put_92 ?_
                refine lv_topi (fun z_15 ez_15 => ?_)
                have jz_15 : z_15.toInt = z_14.toInt + ix.toInt := by rw [ez_15]; exact g_add rfl rfl (by omega) (by omega)
                refine lv_iconst (v := 0) hx hb dX9_put_93 (by decide) ?_
                refine va_zast hx hb hK.1 hP hD hS 3 1 rfl rfl (g_in rfl (by omega) (by omega)) dX9_put_94 (fun H locs hP hD hS => ?_)
                have hP : va_P D vwCl [(k0, .inr (9, mF cm 0 0 0 0 0 0 0 0 0)), ((cm 3), .inl (E 0, 16, .inl (upd (fun _ => -5) (p0 : Int32).toNatClampNeg p1))), ((cm 4), .inl (E 0, 16, .inl (upd (fun _ => 0) (p0 : Int32).toNatClampNeg p2))), ((cm 5), .inl (E 1, 6400, .inl (upd gf73_0 (z_15 : Int32).toNatClampNeg (vp_nar .boolean 0)))), ((cm 8), .inl (E 1, 6400, .inl gf73_1)), ((cm 9), .inl (E 1, 6400, .inl gf73_2)), ((cm 10), .inl (E 0, 6400, .inl gf73_3))] H := hP
                have hD : va_D A [(k0, .inr (9, mF cm 0 0 0 0 0 0 0 0 0)), ((cm 3), .inl (E 0, 16, .inl (upd (fun _ => -5) (p0 : Int32).toNatClampNeg p1))), ((cm 4), .inl (E 0, 16, .inl (upd (fun _ => 0) (p0 : Int32).toNatClampNeg p2))), ((cm 5), .inl (E 1, 6400, .inl (upd gf73_0 (z_15 : Int32).toNatClampNeg (vp_nar .boolean 0)))), ((cm 8), .inl (E 1, 6400, .inl gf73_1)), ((cm 9), .inl (E 1, 6400, .inl gf73_2)), ((cm 10), .inl (E 0, 6400, .inl gf73_3))] := hD
                generalize (upd gf73_0 (z_15 : Int32).toNatClampNeg (vp_nar .boolean 0)) = g_16 at hP hD
                refine lv_aload_n hx hb dX9_put_95 rfl (lv_at hl 1 rfl) ?_
                refine va_get (D := D) (ci := 9) (v := .ref (cm 8)) (C := RX9) (T := TX9) (N := 68) hx hb htb iX9 hown hK.1 hP 0 rfl rfl 8 (by decide) (htb _ k_966) (fun _ h9 => h9) rfl dX9_put_96 ?_
                refine lv_sipush (v := 400) hx hb dX9_put_99 (by decide) ?_
                refine lv_iload_n hx hb dX9_put_102 rfl (lv_at hl 2 rfl) ?_
                refine lv_imul hx hb dX9_put_103 ?_
                refine lv_topi (fun z_17 ez_17 => ?_)
                have jz_17 : z_17.toInt = 400 * p0.toInt := by rw [ez_17]; exact g_mul t_400 rfl (by omega) (by omega)
                refine lv_iload hx hb dX9_put_104 (lv_at hl 0 rfl) ?_
                refine lv_iadd hx hb dX9_put_106 ?_
                refine lv_topi (fun z_18 ez_18 => ?_)
                have jz_18 : z_18.toInt = z_17.toInt + ix.toInt := by rw [ez_18]; exact g_add rfl rfl (by omega) (by omega)
                refine lv_iconst (v := 0) hx hb dX9_put_107 (by decide) ?_
                refine va_zast hx hb hK.1 hP hD hS 4 1 rfl rfl (g_in rfl (by omega) (by omega)) dX9_put_108 (fun H locs hP hD hS => ?_)
                have hP : va_P D vwCl [(k0, .inr (9, mF cm 0 0 0 0 0 0 0 0 0)), ((cm 3), .inl (E 0, 16, .inl (upd (fun _ => -5) (p0 : Int32).toNatClampNeg p1))), ((cm 4), .inl (E 0, 16, .inl (upd (fun _ => 0) (p0 : Int32).toNatClampNeg p2))), ((cm 5), .inl (E 1, 6400, .inl g_16)), ((cm 8), .inl (E 1, 6400, .inl (upd gf73_1 (z_18 : Int32).toNatClampNeg (vp_nar .boolean 0)))), ((cm 9), .inl (E 1, 6400, .inl gf73_2)), ((cm 10), .inl (E 0, 6400, .inl gf73_3))] H := hP
                have hD : va_D A [(k0, .inr (9, mF cm 0 0 0 0 0 0 0 0 0)), ((cm 3), .inl (E 0, 16, .inl (upd (fun _ => -5) (p0 : Int32).toNatClampNeg p1))), ((cm 4), .inl (E 0, 16, .inl (upd (fun _ => 0) (p0 : Int32).toNatClampNeg p2))), ((cm 5), .inl (E 1, 6400, .inl g_16)), ((cm 8), .inl (E 1, 6400, .inl (upd gf73_1 (z_18 : Int32).toNatClampNeg (vp_nar .boolean 0)))), ((cm 9), .inl (E 1, 6400, .inl gf73_2)), ((cm 10), .inl (E 0, 6400, .inl gf73_3))] := hD
                generalize (upd gf73_1 (z_18 : Int32).toNatClampNeg (vp_nar .boolean 0)) = g_19 at hP hD
                refine lv_aload_n hx hb dX9_put_109 rfl (lv_at hl 1 rfl) ?_
                refine va_get (D := D) (ci := 9) (v := .ref (cm 9)) (C := RX9) (T := TX9) (N := 68) hx hb htb iX9 hown hK.1 hP 0 rfl rfl 9 (by decide) (htb _ k_967) (fun _ h9 => h9) rfl dX9_put_110 ?_
                refine lv_sipush (v := 400) hx hb dX9_put_113 (by decide) ?_
                refine lv_iload_n hx hb dX9_put_116 rfl (lv_at hl 2 rfl) ?_
                refine lv_imul hx hb dX9_put_117 ?_
                refine lv_topi (fun z_20 ez_20 => ?_)
                have jz_20 : z_20.toInt = 400 * p0.toInt := by rw [ez_20]; exact g_mul t_400 rfl (by omega) (by omega)
                refine lv_iload hx hb dX9_put_118 (lv_at hl 0 rfl) ?_
                refine lv_iadd hx hb dX9_put_120 ?_
                refine lv_topi (fun z_21 ez_21 => ?_)
                have jz_21 : z_21.toInt = z_20.toInt + ix.toInt := by rw [ez_21]; exact g_add rfl rfl (by omega) (by omega)
                refine lv_iconst (v := 0) hx hb dX9_put_121 (by decide) ?_
                refine va_zast hx hb hK.1 hP hD hS 5 1 rfl rfl (g_in rfl (by omega) (by omega)) dX9_put_122 (fun H locs hP hD hS => ?_)
                have hP : va_P D vwCl [(k0, .inr (9, mF cm 0 0 0 0 0 0 0 0 0)), ((cm 3), .inl (E 0, 16, .inl (upd (fun _ => -5) (p0 : Int32).toNatClampNeg p1))), ((cm 4), .inl (E 0, 16, .inl (upd (fun _ => 0) (p0 : Int32).toNatClampNeg p2))), ((cm 5), .inl (E 1, 6400, .inl g_16)), ((cm 8), .inl (E 1, 6400, .inl g_19)), ((cm 9), .inl (E 1, 6400, .inl (upd gf73_2 (z_21 : Int32).toNatClampNeg (vp_nar .boolean 0)))), ((cm 10), .inl (E 0, 6400, .inl gf73_3))] H := hP
                have hD : va_D A [(k0, .inr (9, mF cm 0 0 0 0 0 0 0 0 0)), ((cm 3), .inl (E 0, 16, .inl (upd (fun _ => -5) (p0 : Int32).toNatClampNeg p1))), ((cm 4), .inl (E 0, 16, .inl (upd (fun _ => 0) (p0 : Int32).toNatClampNeg p2))), ((cm 5), .inl (E 1, 6400, .inl g_16)), ((cm 8), .inl (E 1, 6400, .inl g_19)), ((cm 9), .inl (E 1, 6400, .inl (upd gf73_2 (z_21 : Int32).toNatClampNeg (vp_nar .boolean 0)))), ((cm 10), .inl (E 0, 6400, .inl gf73_3))] := hD
                generalize (upd gf73_2 (z_21 : Int32).toNatClampNeg (vp_nar .boolean 0)) = g_22 at hP hD
                refine lv_aload_n hx hb dX9_put_123 rfl (lv_at hl 1 rfl) ?_
                refine va_get (D := D) (ci := 9) (v := .ref (cm 10)) (C := RX9) (T := TX9) (N := 68) hx hb htb iX9 hown hK.1 hP 0 rfl rfl 10 (by decide) (htb _ k_968) (fun _ h9 => h9) rfl dX9_put_124 ?_
                refine lv_sipush (v := 400) hx hb dX9_put_127 (by decide) ?_
                refine lv_iload_n hx hb dX9_put_130 rfl (lv_at hl 2 rfl) ?_
                refine lv_imul hx hb dX9_put_131 ?_
                refine lv_topi (fun z_23 ez_23 => ?_)
                have jz_23 : z_23.toInt = 400 * p0.toInt := by rw [ez_23]; exact g_mul t_400 rfl (by omega) (by omega)
                refine lv_iload hx hb dX9_put_132 (lv_at hl 0 rfl) ?_
                refine lv_iadd hx hb dX9_put_134 ?_
                refine lv_topi (fun z_24 ez_24 => ?_)
                have jz_24 : z_24.toInt = z_23.toInt + ix.toInt := by rw [ez_24]; exact g_add rfl rfl (by omega) (by omega)
                refine lv_iconst (v := (-1)) hx hb dX9_put_135 (by decide) ?_
                refine va_iast hx hb hK.1 hP hD hS 6 0 rfl rfl (g_in rfl (by omega) (by omega)) dX9_put_136 (fun H locs hP hD hS => ?_)
                have hP : va_P D vwCl [(k0, .inr (9, mF cm 0 0 0 0 0 0 0 0 0)), ((cm 3), .inl (E 0, 16, .inl (upd (fun _ => -5) (p0 : Int32).toNatClampNeg p1))), ((cm 4), .inl (E 0, 16, .inl (upd (fun _ => 0) (p0 : Int32).toNatClampNeg p2))), ((cm 5), .inl (E 1, 6400, .inl g_16)), ((cm 8), .inl (E 1, 6400, .inl g_19)), ((cm 9), .inl (E 1, 6400, .inl g_22)), ((cm 10), .inl (E 0, 6400, .inl (upd gf73_3 (z_24 : Int32).toNatClampNeg (-1))))] H := hP
                have hD : va_D A [(k0, .inr (9, mF cm 0 0 0 0 0 0 0 0 0)), ((cm 3), .inl (E 0, 16, .inl (upd (fun _ => -5) (p0 : Int32).toNatClampNeg p1))), ((cm 4), .inl (E 0, 16, .inl (upd (fun _ => 0) (p0 : Int32).toNatClampNeg p2))), ((cm 5), .inl (E 1, 6400, .inl g_16)), ((cm 8), .inl (E 1, 6400, .inl g_19)), ((cm 9), .inl (E 1, 6400, .inl g_22)), ((cm 10), .inl (E 0, 6400, .inl (upd gf73_3 (z_24 : Int32).toNatClampNeg (-1))))] := hD
                obtain ⟨z_25, ez_25⟩ : ∃ y : Int32, y = ix + 1 := ⟨_, rfl⟩
                have jz_25 : z_25.toInt = ix.toInt + 1 := by rw [ez_25]; exact g_add rfl t_1 (by omega) (by omega)
                refine lv_iinc (v := z_25) (lv' := [(4, .int z_25), (0, .ref k0), (1, .int p0), (2, .int p1), (3, .int p2)]) hx hb dX9_put_137 hl (k := 0) rfl (by rw [ez_25]; rfl) (by decide) rfl (fun ls hl => ?_)
                refine lv_goto (tgt := 73) hx hb dX9_put_140 (by decide) ?_
                exact ih_10 z_25 g_16 g_19 g_22 (upd gf73_3 (z_24 : Int32).toNatClampNeg (-1)) _ _ _ (by omega) (by omega) (by omega) hP hD hS (lv_sub hl [0, 1, 2, 3, 4] rfl)
          exact loop_12 401 0 (fun _ => 0) (fun _ => 0) (fun _ => 0) (fun _ => 0) _ _ _ (by have h0 := t_0; omega) (by have h0 := t_0; omega) (by have h0 := t_0; omega) hP hD hS (lv_sub hl [0, 1, 2, 3, 4] rfl)
        ·
          have ic_8 : p1.toInt = 1 := (g_eq rfl t_1).mp c_8
          refine lv_iload_n hx hb dX9_put_29 rfl (lv_at hl 3 rfl) ?_
          refine lv_bipush (v := (-50)) hx hb dX9_put_30 (by decide) ?_
          refine lv_bipush (v := 50) hx hb dX9_put_32 (by decide) ?_
          refine callRS (rest := []) (As := [.int p2, .int (-50), .int 50]) hx hb hml hown htb hK (c_X9_in l D E p2 (-50) 50 ) ok_X9_in k_1168 k_1169 k_9 k_1170 ⟨(Nat.le_of_ble_eq_true rfl), (Nat.le_of_ble_eq_true rfl)⟩ ⟨(Nat.le_of_ble_eq_true rfl), (Nat.le_of_ble_eq_true rfl)⟩ hl.1 (Nat.le_of_ble_eq_true rfl) rfl rfl dX9_put_34 (hP.sub (ws' := ([] : va_W)) [] rfl) (fun r_27 hw_26 => ?_)
          rcases hw_26 with ⟨hr_27, hw_26⟩ | ⟨hr_27, hw_26⟩
          ·
            try simp only [t_m50, t_50] at hw_26
            refine W_top (y := .int 1) (by rw [hr_27]) ?_
            refine lv_if_ne (tgt := 42) hx hb dX9_put_37 (by decide) (fun c_28 => ?_) (fun c_28 => absurd c_28 (by decide))
            refine lv_aload_n hx hb dX9_put_42 rfl (lv_at hl 0 rfl) ?_
            refine va_get (D := D) (ci := 9) (v := .ref (cm 3)) (C := RX9) (T := TX9) (N := 68) hx hb htb iX9 hown hK.1 hP 0 rfl rfl 3 (by decide) (htb _ k_961) (fun _ h9 => h9) rfl dX9_put_43 ?_
            refine lv_iload_n hx hb dX9_put_46 rfl (lv_at hl 1 rfl) ?_
            refine va_iald hx hb hK.1 hP 1 0 rfl rfl (g_in rfl (by omega) (by omega)) dX9_put_47 ?_
            refine W_top (y := .int (-5)) rfl ?_
            refine lv_bipush (v := (-5)) hx hb dX9_put_48 (by decide) ?_
            refine lv_icmp_eq (tgt := 56) hx hb dX9_put_50 (by decide) (fun c_29 => ?_) (fun c_29 => absurd (by decide) c_29)
            refine lv_aload_n hx hb dX9_put_56 rfl (lv_at hl 0 rfl) ?_
            refine va_get (D := D) (ci := 9) (v := .ref (cm 3)) (C := RX9) (T := TX9) (N := 68) hx hb htb iX9 hown hK.1 hP 0 rfl rfl 3 (by decide) (htb _ k_961) (fun _ h9 => h9) rfl dX9_put_57 ?_
            refine lv_iload_n hx hb dX9_put_60 rfl (lv_at hl 1 rfl) ?_
            refine lv_iload_n hx hb dX9_put_61 rfl (lv_at hl 2 rfl) ?_
            refine va_iast hx hb hK.1 hP hD hS 1 0 rfl rfl (g_in rfl (by omega) (by omega)) dX9_put_62 (fun H locs hP hD hS => ?_)
            have hP : va_P D vwCl [(k0, .inr (9, mF cm 0 0 0 0 0 0 0 0 0)), ((cm 3), .inl (E 0, 16, .inl (upd (fun _ => -5) (p0 : Int32).toNatClampNeg p1))), ((cm 4), .inl (E 0, 16, .inl (fun _ => 0))), ((cm 5), .inl (E 1, 6400, .inl (fun _ => 0))), ((cm 8), .inl (E 1, 6400, .inl (fun _ => 0))), ((cm 9), .inl (E 1, 6400, .inl (fun _ => 0))), ((cm 10), .inl (E 0, 6400, .inl (fun _ => 0)))] H := hP
            have hD : va_D A [(k0, .inr (9, mF cm 0 0 0 0 0 0 0 0 0)), ((cm 3), .inl (E 0, 16, .inl (upd (fun _ => -5) (p0 : Int32).toNatClampNeg p1))), ((cm 4), .inl (E 0, 16, .inl (fun _ => 0))), ((cm 5), .inl (E 1, 6400, .inl (fun _ => 0))), ((cm 8), .inl (E 1, 6400, .inl (fun _ => 0))), ((cm 9), .inl (E 1, 6400, .inl (fun _ => 0))), ((cm 10), .inl (E 0, 6400, .inl (fun _ => 0)))] := hD
            refine lv_aload_n hx hb dX9_put_63 rfl (lv_at hl 0 rfl) ?_
            refine va_get (D := D) (ci := 9) (v := .ref (cm 4)) (C := RX9) (T := TX9) (N := 68) hx hb htb iX9 hown hK.1 hP 0 rfl rfl 4 (by decide) (htb _ k_962) (fun _ h9 => h9) rfl dX9_put_64 ?_
            refine lv_iload_n hx hb dX9_put_67 rfl (lv_at hl 1 rfl) ?_
            refine lv_iload_n hx hb dX9_put_68 rfl (lv_at hl 3 rfl) ?_
            refine va_iast hx hb hK.1 hP hD hS 2 0 rfl rfl (g_in rfl (by omega) (by omega)) dX9_put_69 (fun H locs hP hD hS => ?_)
            have hP : va_P D vwCl [(k0, .inr (9, mF cm 0 0 0 0 0 0 0 0 0)), ((cm 3), .inl (E 0, 16, .inl (upd (fun _ => -5) (p0 : Int32).toNatClampNeg p1))), ((cm 4), .inl (E 0, 16, .inl (upd (fun _ => 0) (p0 : Int32).toNatClampNeg p2))), ((cm 5), .inl (E 1, 6400, .inl (fun _ => 0))), ((cm 8), .inl (E 1, 6400, .inl (fun _ => 0))), ((cm 9), .inl (E 1, 6400, .inl (fun _ => 0))), ((cm 10), .inl (E 0, 6400, .inl (fun _ => 0)))] H := hP
            have hD : va_D A [(k0, .inr (9, mF cm 0 0 0 0 0 0 0 0 0)), ((cm 3), .inl (E 0, 16, .inl (upd (fun _ => -5) (p0 : Int32).toNatClampNeg p1))), ((cm 4), .inl (E 0, 16, .inl (upd (fun _ => 0) (p0 : Int32).toNatClampNeg p2))), ((cm 5), .inl (E 1, 6400, .inl (fun _ => 0))), ((cm 8), .inl (E 1, 6400, .inl (fun _ => 0))), ((cm 9), .inl (E 1, 6400, .inl (fun _ => 0))), ((cm 10), .inl (E 0, 6400, .inl (fun _ => 0)))] := hD
            refine lv_iconst (v := 0) hx hb dX9_put_70 (by decide) ?_
            refine lv_istore (lv' := [(4, .int 0), (0, .ref k0), (1, .int p0), (2, .int p1), (3, .int p2)]) hx hb dX9_put_71 hl (by decide) rfl (fun ls hl => ?_)
            have loop_32 : ∀ (N_31 : Nat) (ix : Int32) (gf73_0 : Nat → Int32) (gf73_1 : Nat → Int32) (gf73_2 : Nat → Int32) (gf73_3 : Nat → Int32) (H : Heap) (locs : List Loc) (ls : Array Slot), 400 - ix.toInt < (N_31 : Int) → (0 ≤ ix.toInt) → (ix.toInt ≤ 400) → va_P D vwCl [(k0, .inr (9, mF cm 0 0 0 0 0 0 0 0 0)), ((cm 3), .inl (E 0, 16, .inl (upd (fun _ => -5) (p0 : Int32).toNatClampNeg p1))), ((cm 4), .inl (E 0, 16, .inl (upd (fun _ => 0) (p0 : Int32).toNatClampNeg p2))), ((cm 5), .inl (E 1, 6400, .inl gf73_0)), ((cm 8), .inl (E 1, 6400, .inl gf73_1)), ((cm 9), .inl (E 1, 6400, .inl gf73_2)), ((cm 10), .inl (E 0, 6400, .inl gf73_3))] H → va_D A [(k0, .inr (9, mF cm 0 0 0 0 0 0 0 0 0)), ((cm 3), .inl (E 0, 16, .inl (upd (fun _ => -5) (p0 : Int32).toNatClampNeg p1))), ((cm 4), .inl (E 0, 16, .inl (upd (fun _ => 0) (p0 : Int32).toNatClampNeg p2))), ((cm 5), .inl (E 1, 6400, .inl gf73_0)), ((cm 8), .inl (E 1, 6400, .inl gf73_1)), ((cm 9), .inl (E 1, 6400, .inl gf73_2)), ((cm 10), .inl (E 0, 6400, .inl gf73_3))] → va_S A s.heap H locs → lv_has ls 5 [(4, .int ix), (0, .ref k0), (1, .int p0), (2, .int p1), (3, .int p2)] → W p l e (headSpec (wl yX9_put cX9_put 5 (some .int)) (RM 2 0 0)).room s m [Value.ref k0, .int p0, .int p1, .int p2].toArray below meth c H locs 0 0 (MQ below (va_Qi (fun (r : Int32) (u : Unit) => (r = 1 ∧ ((0 ≤ p0.toInt ∧ p0.toInt ≤ 15) ∧ ((p1.toInt = 0 ∧ p2.toInt = 0) ∨ (p1.toInt = 1 ∧ -50 ≤ p2.toInt ∧ p2.toInt ≤ 50) ∨ p1.toInt = 2))) ∨ (r = (-1) ∧ ¬ ((0 ≤ p0.toInt ∧ p0.toInt ≤ 15) ∧ ((p1.toInt = 0 ∧ p2.toInt = 0) ∨ (p1.toInt = 1 ∧ -50 ≤ p2.toInt ∧ p2.toInt ≤ 50) ∨ p1.toInt = 2)))) (mu_B D A (fun (u : Unit) => ([] : va_W))) A) [Value.ref k0, .int p0, .int p1, .int p2].toArray s 0 0 A) (F0 m 73 ls []) := by
              intro N_31
              induction N_31 with
              | zero => intro ix gf73_0 gf73_1 gf73_2 gf73_3 H locs ls hm v0_loop_32 v1_loop_32 _ _ _ _; exfalso; omega
              | succ N_31 ih_30 =>
                intro ix gf73_0 gf73_1 gf73_2 gf73_3 H locs ls hm v0_loop_32 v1_loop_32 hP hD hS hl
                refine lv_iload hx hb dX9_put_73 (lv_at hl 0 rfl) ?_
                refine lv_sipush (v := 400) hx hb dX9_put_75 (by decide) ?_
                refine lv_icmp_ge (tgt := 143) hx hb dX9_put_78 (by decide) (fun c_33 => ?_) (fun c_33 => ?_)
                ·
                  have ic_33 : 400 ≤ ix.toInt := by first | exact (g_le t_400 rfl).mp c_33 | (have h := mt (g_lt rfl t_400).mpr c_33; omega)
                  refine lv_iconst (v := 1) hx hb dX9_put_143 (by decide) ?_
                  have hP9 := hP.sub (ws' := ([] : va_W)) [] rfl
                  have hD9 := hD.sub (ws' := ([] : va_W)) [] (by decide) rfl
                  exact W.iret (v := 1) hx hb hr (fun t ht hW => ⟨⟨1, (), rfl, by first | exact Or.inl ⟨rfl, by omega⟩ | (exfalso; omega), by rw [ht]; exact hP9, hD9⟩, hS.F ht⟩) hS.2.2 dX9_put_144
                ·
                  have ic_33 : ix.toInt < 400 := by first | exact (g_lt rfl t_400).mp c_33 | (have h := mt (g_le t_400 rfl).mpr c_33; omega)
                  refine lv_aload_n hx hb dX9_put_81 rfl (lv_at hl 1 rfl) ?_
                  refine va_get (D := D) (ci := 9) (v := .ref (cm 5)) (C := RX9) (T := TX9) (N := 68) hx hb htb iX9 hown hK.1 hP 0 rfl rfl 5 (by decide) (htb _ k_963) (fun _ h9 => h9) rfl dX9_put_82 ?_
                  refine lv_sipush (v := 400) hx hb dX9_put_85 (by decide) ?_
                  refine lv_iload_n hx hb dX9_put_88 rfl (lv_at hl 2 rfl) ?_
                  refine lv_imul hx hb dX9_put_89 ?_
                  refine lv_topi (fun z_34 ez_34 => ?_)
                  have jz_34 : z_34.toInt = 400 * p0.toInt := by rw [ez_34]; exact g_mul t_400 rfl (by omega) (by omega)
                  refine lv_iload hx hb dX9_put_90 (lv_at hl 0 rfl) ?_
                  refine lv_iadd hx hb dX9_put_92 ?_
                  refine lv_topi (fun z_35 ez_35 => ?_)
                  have jz_35 : z_35.toInt = z_34.toInt + ix.toInt := by rw [ez_35]; exact g_add rfl rfl (by omega) (by omega)
                  refine lv_iconst (v := 0) hx hb dX9_put_93 (by decide) ?_
                  refine va_zast hx hb hK.1 hP hD hS 3 1 rfl rfl (g_in rfl (by omega) (by omega)) dX9_put_94 (fun H locs hP hD hS => ?_)
                  have hP : va_P D vwCl [(k0, .inr (9, mF cm 0 0 0 0 0 0 0 0 0)), ((cm 3), .inl (E 0, 16, .inl (upd (fun _ => -5) (p0 : Int32).toNatClampNeg p1))), ((cm 4), .inl (E 0, 16, .inl (upd (fun _ => 0) (p0 : Int32).toNatClampNeg p2))), ((cm 5), .inl (E 1, 6400, .inl (upd gf73_0 (z_35 : Int32).toNatClampNeg (vp_nar .boolean 0)))), ((cm 8), .inl (E 1, 6400, .inl gf73_1)), ((cm 9), .inl (E 1, 6400, .inl gf73_2)), ((cm 10), .inl (E 0, 6400, .inl gf73_3))] H := hP
                  have hD : va_D A [(k0, .inr (9, mF cm 0 0 0 0 0 0 0 0 0)), ((cm 3), .inl (E 0, 16, .inl (upd (fun _ => -5) (p0 : Int32).toNatClampNeg p1))), ((cm 4), .inl (E 0, 16, .inl (upd (fun _ => 0) (p0 : Int32).toNatClampNeg p2))), ((cm 5), .inl (E 1, 6400, .inl (upd gf73_0 (z_35 : Int32).toNatClampNeg (vp_nar .boolean 0)))), ((cm 8), .inl (E 1, 6400, .inl gf73_1)), ((cm 9), .inl (E 1, 6400, .inl gf73_2)), ((cm 10), .inl (E 0, 6400, .inl gf73_3))] := hD
                  generalize (upd gf73_0 (z_35 : Int32).toNatClampNeg (vp_nar .boolean 0)) = g_36 at hP hD
                  refine lv_aload_n hx hb dX9_put_95 rfl (lv_at hl 1 rfl) ?_
                  refine va_get (D := D) (ci := 9) (v := .ref (cm 8)) (C := RX9) (T := TX9) (N := 68) hx hb htb iX9 hown hK.1 hP 0 rfl rfl 8 (by decide) (htb _ k_966) (fun _ h9 => h9) rfl dX9_put_96 ?_
                  refine lv_sipush (v := 400) hx hb dX9_put_99 (by decide) ?_
                  refine lv_iload_n hx hb dX9_put_102 rfl (lv_at hl 2 rfl) ?_
                  refine lv_imul hx hb dX9_put_103 ?_
                  refine lv_topi (fun z_37 ez_37 => ?_)
                  have jz_37 : z_37.toInt = 400 * p0.toInt := by rw [ez_37]; exact g_mul t_400 rfl (by omega) (by omega)
                  refine lv_iload hx hb dX9_put_104 (lv_at hl 0 rfl) ?_
                  refine lv_iadd hx hb dX9_put_106 ?_
                  refine lv_topi (fun z_38 ez_38 => ?_)
                  have jz_38 : z_38.toInt = z_37.toInt + ix.toInt := by rw [ez_38]; exact g_add rfl rfl (by omega) (by omega)
                  refine lv_iconst (v := 0) hx hb dX9_put_107 (by decide) ?_
                  refine va_zast hx hb hK.1 hP hD hS 4 1 rfl rfl (g_in rfl (by omega) (by omega)) dX9_put_108 (fun H locs hP hD hS => ?_)
                  have hP : va_P D vwCl [(k0, .inr (9, mF cm 0 0 0 0 0 0 0 0 0)), ((cm 3), .inl (E 0, 16, .inl (upd (fun _ => -5) (p0 : Int32).toNatClampNeg p1))), ((cm 4), .inl (E 0, 16, .inl (upd (fun _ => 0) (p0 : Int32).toNatClampNeg p2))), ((cm 5), .inl (E 1, 6400, .inl g_36)), ((cm 8), .inl (E 1, 6400, .inl (upd gf73_1 (z_38 : Int32).toNatClampNeg (vp_nar .boolean 0)))), ((cm 9), .inl (E 1, 6400, .inl gf73_2)), ((cm 10), .inl (E 0, 6400, .inl gf73_3))] H := hP
                  have hD : va_D A [(k0, .inr (9, mF cm 0 0 0 0 0 0 0 0 0)), ((cm 3), .inl (E 0, 16, .inl (upd (fun _ => -5) (p0 : Int32).toNatClampNeg p1))), ((cm 4), .inl (E 0, 16, .inl (upd (fun _ => 0) (p0 : Int32).toNatClampNeg p2))), ((cm 5), .inl (E 1, 6400, .inl g_36)), ((cm 8), .inl (E 1, 6400, .inl (upd gf73_1 (z_38 : Int32).toNatClampNeg (vp_nar .boolean 0)))), ((cm 9), .inl (E 1, 6400, .inl gf73_2)), ((cm 10), .inl (E 0, 6400, .inl gf73_3))] := hD
                  generalize (upd gf73_1 (z_38 : Int32).toNatClampNeg (vp_nar .boolean 0)) = g_39 at hP hD
                  refine lv_aload_n hx hb dX9_put_109 rfl (lv_at hl 1 rfl) ?_
                  refine va_get (D := D) (ci := 9) (v := .ref (cm 9)) (C := RX9) (T := TX9) (N := 68) hx hb htb iX9 hown hK.1 hP 0 rfl rfl 9 (by decide) (htb _ k_967) (fun _ h9 => h9) rfl dX9_put_110 ?_
                  refine lv_sipush (v := 400) hx hb dX9_put_113 (by decide) ?_
                  refine lv_iload_n hx hb dX9_put_116 rfl (lv_at hl 2 rfl) ?_
                  refine lv_imul hx hb dX9_put_117 ?_
                  refine lv_topi (fun z_40 ez_40 => ?_)
                  have jz_40 : z_40.toInt = 400 * p0.toInt := by rw [ez_40]; exact g_mul t_400 rfl (by omega) (by omega)
                  refine lv_iload hx hb dX9_put_118 (lv_at hl 0 rfl) ?_
                  refine lv_iadd hx hb dX9_put_120 ?_
                  refine lv_topi (fun z_41 ez_41 => ?_)
                  have jz_41 : z_41.toInt = z_40.toInt + ix.toInt := by rw [ez_41]; exact g_add rfl rfl (by omega) (by omega)
                  refine lv_iconst (v := 0) hx hb dX9_put_121 (by decide) ?_
                  refine va_zast hx hb hK.1 hP hD hS 5 1 rfl rfl (g_in rfl (by omega) (by omega)) dX9_put_122 (fun H locs hP hD hS => ?_)
                  have hP : va_P D vwCl [(k0, .inr (9, mF cm 0 0 0 0 0 0 0 0 0)), ((cm 3), .inl (E 0, 16, .inl (upd (fun _ => -5) (p0 : Int32).toNatClampNeg p1))), ((cm 4), .inl (E 0, 16, .inl (upd (fun _ => 0) (p0 : Int32).toNatClampNeg p2))), ((cm 5), .inl (E 1, 6400, .inl g_36)), ((cm 8), .inl (E 1, 6400, .inl g_39)), ((cm 9), .inl (E 1, 6400, .inl (upd gf73_2 (z_41 : Int32).toNatClampNeg (vp_nar .boolean 0)))), ((cm 10), .inl (E 0, 6400, .inl gf73_3))] H := hP
                  have hD : va_D A [(k0, .inr (9, mF cm 0 0 0 0 0 0 0 0 0)), ((cm 3), .inl (E 0, 16, .inl (upd (fun _ => -5) (p0 : Int32).toNatClampNeg p1))), ((cm 4), .inl (E 0, 16, .inl (upd (fun _ => 0) (p0 : Int32).toNatClampNeg p2))), ((cm 5), .inl (E 1, 6400, .inl g_36)), ((cm 8), .inl (E 1, 6400, .inl g_39)), ((cm 9), .inl (E 1, 6400, .inl (upd gf73_2 (z_41 : Int32).toNatClampNeg (vp_nar .boolean 0)))), ((cm 10), .inl (E 0, 6400, .inl gf73_3))] := hD
                  generalize (upd gf73_2 (z_41 : Int32).toNatClampNeg (vp_nar .boolean 0)) = g_42 at hP hD
                  refine lv_aload_n hx hb dX9_put_123 rfl (lv_at hl 1 rfl) ?_
                  refine va_get (D := D) (ci := 9) (v := .ref (cm 10)) (C := RX9) (T := TX9) (N := 68) hx hb htb iX9 hown hK.1 hP 0 rfl rfl 10 (by decide) (htb _ k_968) (fun _ h9 => h9) rfl dX9_put_124 ?_
                  refine lv_sipush (v := 400) hx hb dX9_put_127 (by decide) ?_
                  refine lv_iload_n hx hb dX9_put_130 rfl (lv_at hl 2 rfl) ?_
                  refine lv_imul hx hb dX9_put_131 ?_
                  refine lv_topi (fun z_43 ez_43 => ?_)
                  have jz_43 : z_43.toInt = 400 * p0.toInt := by rw [ez_43]; exact g_mul t_400 rfl (by omega) (by omega)
                  refine lv_iload hx hb dX9_put_132 (lv_at hl 0 rfl) ?_
                  refine lv_iadd hx hb dX9_put_134 ?_
                  refine lv_topi (fun z_44 ez_44 => ?_)
                  have jz_44 : z_44.toInt = z_43.toInt + ix.toInt := by rw [ez_44]; exact g_add rfl rfl (by omega) (by omega)
                  refine lv_iconst (v := (-1)) hx hb dX9_put_135 (by decide) ?_
                  refine va_iast hx hb hK.1 hP hD hS 6 0 rfl rfl (g_in rfl (by omega) (by omega)) dX9_put_136 (fun H locs hP hD hS => ?_)
                  have hP : va_P D vwCl [(k0, .inr (9, mF cm 0 0 0 0 0 0 0 0 0)), ((cm 3), .inl (E 0, 16, .inl (upd (fun _ => -5) (p0 : Int32).toNatClampNeg p1))), ((cm 4), .inl (E 0, 16, .inl (upd (fun _ => 0) (p0 : Int32).toNatClampNeg p2))), ((cm 5), .inl (E 1, 6400, .inl g_36)), ((cm 8), .inl (E 1, 6400, .inl g_39)), ((cm 9), .inl (E 1, 6400, .inl g_42)), ((cm 10), .inl (E 0, 6400, .inl (upd gf73_3 (z_44 : Int32).toNatClampNeg (-1))))] H := hP
                  have hD : va_D A [(k0, .inr (9, mF cm 0 0 0 0 0 0 0 0 0)), ((cm 3), .inl (E 0, 16, .inl (upd (fun _ => -5) (p0 : Int32).toNatClampNeg p1))), ((cm 4), .inl (E 0, 16, .inl (upd (fun _ => 0) (p0 : Int32).toNatClampNeg p2))), ((cm 5), .inl (E 1, 6400, .inl g_36)), ((cm 8), .inl (E 1, 6400, .inl g_39)), ((cm 9), .inl (E 1, 6400, .inl g_42)), ((cm 10), .inl (E 0, 6400, .inl (upd gf73_3 (z_44 : Int32).toNatClampNeg (-1))))] := hD
                  obtain ⟨z_45, ez_45⟩ : ∃ y : Int32, y = ix + 1 := ⟨_, rfl⟩
                  have jz_45 : z_45.toInt = ix.toInt + 1 := by rw [ez_45]; exact g_add rfl t_1 (by omega) (by omega)
                  refine lv_iinc (v := z_45) (lv' := [(4, .int z_45), (0, .ref k0), (1, .int p0), (2, .int p1), (3, .int p2)]) hx hb dX9_put_137 hl (k := 0) rfl (by rw [ez_45]; rfl) (by decide) rfl (fun ls hl => ?_)
                  refine lv_goto (tgt := 73) hx hb dX9_put_140 (by decide) ?_
                  exact ih_30 z_45 g_36 g_39 g_42 (upd gf73_3 (z_44 : Int32).toNatClampNeg (-1)) _ _ _ (by omega) (by omega) (by omega) hP hD hS (lv_sub hl [0, 1, 2, 3, 4] rfl)
            exact loop_32 401 0 (fun _ => 0) (fun _ => 0) (fun _ => 0) (fun _ => 0) _ _ _ (by have h0 := t_0; omega) (by have h0 := t_0; omega) (by have h0 := t_0; omega) hP hD hS (lv_sub hl [0, 1, 2, 3, 4] rfl)
          ·
            try simp only [t_m50, t_50] at hw_26
            refine W_top (y := .int 0) (by rw [hr_27]) ?_
            refine lv_if_ne (tgt := 42) hx hb dX9_put_37 (by decide) (fun c_46 => absurd (by decide) c_46) (fun c_46 => ?_)
            refine lv_iconst (v := (-1)) hx hb dX9_put_40 (by decide) ?_
            have hP9 := hP.sub (ws' := ([] : va_W)) [] rfl
            have hD9 := hD.sub (ws' := ([] : va_W)) [] (by decide) rfl
            exact W.iret (v := (-1)) hx hb hr (fun t ht hW => ⟨⟨(-1), (), rfl, by first | exact Or.inr ⟨rfl, by omega⟩ | (exfalso; omega), by rw [ht]; exact hP9, hD9⟩, hS.F ht⟩) hS.2.2 dX9_put_41
      ·
        have ic_7 : p1.toInt = 0 := (g_eq rfl t_0).mp c_7
        refine lv_iload_n hx hb dX9_put_20 rfl (lv_at hl 3 rfl) ?_
        refine lv_if_ne (tgt := 40) hx hb dX9_put_21 (by decide) (fun c_47 => ?_) (fun c_47 => ?_)
        ·
          have ic_47 : p2.toInt ≠ 0 := mt (g_eq rfl t_0).mpr c_47
          refine lv_iconst (v := (-1)) hx hb dX9_put_40 (by decide) ?_
          have hP9 := hP.sub (ws' := ([] : va_W)) [] rfl
          have hD9 := hD.sub (ws' := ([] : va_W)) [] (by decide) rfl
          exact W.iret (v := (-1)) hx hb hr (fun t ht hW => ⟨⟨(-1), (), rfl, by first | exact Or.inr ⟨rfl, by omega⟩ | (exfalso; omega), by rw [ht]; exact hP9, hD9⟩, hS.F ht⟩) hS.2.2 dX9_put_41
        ·
          have ic_47 : p2.toInt = 0 := (g_eq rfl t_0).mp c_47
          refine lv_iload_n hx hb dX9_put_24 rfl (lv_at hl 2 rfl) ?_
          refine lv_iconst (v := 1) hx hb dX9_put_25 (by decide) ?_
          refine lv_icmp_ne (tgt := 42) hx hb dX9_put_26 (by decide) (fun c_48 => ?_) (fun c_48 => absurd c_48 (by rw [g_eq rfl t_1]; omega))
          refine lv_aload_n hx hb dX9_put_42 rfl (lv_at hl 0 rfl) ?_
          refine va_get (D := D) (ci := 9) (v := .ref (cm 3)) (C := RX9) (T := TX9) (N := 68) hx hb htb iX9 hown hK.1 hP 0 rfl rfl 3 (by decide) (htb _ k_961) (fun _ h9 => h9) rfl dX9_put_43 ?_
          refine lv_iload_n hx hb dX9_put_46 rfl (lv_at hl 1 rfl) ?_
          refine va_iald hx hb hK.1 hP 1 0 rfl rfl (g_in rfl (by omega) (by omega)) dX9_put_47 ?_
          refine W_top (y := .int (-5)) rfl ?_
          refine lv_bipush (v := (-5)) hx hb dX9_put_48 (by decide) ?_
          refine lv_icmp_eq (tgt := 56) hx hb dX9_put_50 (by decide) (fun c_49 => ?_) (fun c_49 => absurd (by decide) c_49)
          refine lv_aload_n hx hb dX9_put_56 rfl (lv_at hl 0 rfl) ?_
          refine va_get (D := D) (ci := 9) (v := .ref (cm 3)) (C := RX9) (T := TX9) (N := 68) hx hb htb iX9 hown hK.1 hP 0 rfl rfl 3 (by decide) (htb _ k_961) (fun _ h9 => h9) rfl dX9_put_57 ?_
          refine lv_iload_n hx hb dX9_put_60 rfl (lv_at hl 1 rfl) ?_
          refine lv_iload_n hx hb dX9_put_61 rfl (lv_at hl 2 rfl) ?_
          refine va_iast hx hb hK.1 hP hD hS 1 0 rfl rfl (g_in rfl (by omega) (by omega)) dX9_put_62 (fun H locs hP hD hS => ?_)
          have hP : va_P D vwCl [(k0, .inr (9, mF cm 0 0 0 0 0 0 0 0 0)), ((cm 3), .inl (E 0, 16, .inl (upd (fun _ => -5) (p0 : Int32).toNatClampNeg p1))), ((cm 4), .inl (E 0, 16, .inl (fun _ => 0))), ((cm 5), .inl (E 1, 6400, .inl (fun _ => 0))), ((cm 8), .inl (E 1, 6400, .inl (fun _ => 0))), ((cm 9), .inl (E 1, 6400, .inl (fun _ => 0))), ((cm 10), .inl (E 0, 6400, .inl (fun _ => 0)))] H := hP
          have hD : va_D A [(k0, .inr (9, mF cm 0 0 0 0 0 0 0 0 0)), ((cm 3), .inl (E 0, 16, .inl (upd (fun _ => -5) (p0 : Int32).toNatClampNeg p1))), ((cm 4), .inl (E 0, 16, .inl (fun _ => 0))), ((cm 5), .inl (E 1, 6400, .inl (fun _ => 0))), ((cm 8), .inl (E 1, 6400, .inl (fun _ => 0))), ((cm 9), .inl (E 1, 6400, .inl (fun _ => 0))), ((cm 10), .inl (E 0, 6400, .inl (fun _ => 0)))] := hD
          refine lv_aload_n hx hb dX9_put_63 rfl (lv_at hl 0 rfl) ?_
          refine va_get (D := D) (ci := 9) (v := .ref (cm 4)) (C := RX9) (T := TX9) (N := 68) hx hb htb iX9 hown hK.1 hP 0 rfl rfl 4 (by decide) (htb _ k_962) (fun _ h9 => h9) rfl dX9_put_64 ?_
          refine lv_iload_n hx hb dX9_put_67 rfl (lv_at hl 1 rfl) ?_
          refine lv_iload_n hx hb dX9_put_68 rfl (lv_at hl 3 rfl) ?_
          refine va_iast hx hb hK.1 hP hD hS 2 0 rfl rfl (g_in rfl (by omega) (by omega)) dX9_put_69 (fun H locs hP hD hS => ?_)
          have hP : va_P D vwCl [(k0, .inr (9, mF cm 0 0 0 0 0 0 0 0 0)), ((cm 3), .inl (E 0, 16, .inl (upd (fun _ => -5) (p0 : Int32).toNatClampNeg p1))), ((cm 4), .inl (E 0, 16, .inl (upd (fun _ => 0) (p0 : Int32).toNatClampNeg p2))), ((cm 5), .inl (E 1, 6400, .inl (fun _ => 0))), ((cm 8), .inl (E 1, 6400, .inl (fun _ => 0))), ((cm 9), .inl (E 1, 6400, .inl (fun _ => 0))), ((cm 10), .inl (E 0, 6400, .inl (fun _ => 0)))] H := hP
          have hD : va_D A [(k0, .inr (9, mF cm 0 0 0 0 0 0 0 0 0)), ((cm 3), .inl (E 0, 16, .inl (upd (fun _ => -5) (p0 : Int32).toNatClampNeg p1))), ((cm 4), .inl (E 0, 16, .inl (upd (fun _ => 0) (p0 : Int32).toNatClampNeg p2))), ((cm 5), .inl (E 1, 6400, .inl (fun _ => 0))), ((cm 8), .inl (E 1, 6400, .inl (fun _ => 0))), ((cm 9), .inl (E 1, 6400, .inl (fun _ => 0))), ((cm 10), .inl (E 0, 6400, .inl (fun _ => 0)))] := hD
          refine lv_iconst (v := 0) hx hb dX9_put_70 (by decide) ?_
          refine lv_istore (lv' := [(4, .int 0), (0, .ref k0), (1, .int p0), (2, .int p1), (3, .int p2)]) hx hb dX9_put_71 hl (by decide) rfl (fun ls hl => ?_)
          have loop_52 : ∀ (N_51 : Nat) (ix : Int32) (gf73_0 : Nat → Int32) (gf73_1 : Nat → Int32) (gf73_2 : Nat → Int32) (gf73_3 : Nat → Int32) (H : Heap) (locs : List Loc) (ls : Array Slot), 400 - ix.toInt < (N_51 : Int) → (0 ≤ ix.toInt) → (ix.toInt ≤ 400) → va_P D vwCl [(k0, .inr (9, mF cm 0 0 0 0 0 0 0 0 0)), ((cm 3), .inl (E 0, 16, .inl (upd (fun _ => -5) (p0 : Int32).toNatClampNeg p1))), ((cm 4), .inl (E 0, 16, .inl (upd (fun _ => 0) (p0 : Int32).toNatClampNeg p2))), ((cm 5), .inl (E 1, 6400, .inl gf73_0)), ((cm 8), .inl (E 1, 6400, .inl gf73_1)), ((cm 9), .inl (E 1, 6400, .inl gf73_2)), ((cm 10), .inl (E 0, 6400, .inl gf73_3))] H → va_D A [(k0, .inr (9, mF cm 0 0 0 0 0 0 0 0 0)), ((cm 3), .inl (E 0, 16, .inl (upd (fun _ => -5) (p0 : Int32).toNatClampNeg p1))), ((cm 4), .inl (E 0, 16, .inl (upd (fun _ => 0) (p0 : Int32).toNatClampNeg p2))), ((cm 5), .inl (E 1, 6400, .inl gf73_0)), ((cm 8), .inl (E 1, 6400, .inl gf73_1)), ((cm 9), .inl (E 1, 6400, .inl gf73_2)), ((cm 10), .inl (E 0, 6400, .inl gf73_3))] → va_S A s.heap H locs → lv_has ls 5 [(4, .int ix), (0, .ref k0), (1, .int p0), (2, .int p1), (3, .int p2)] → W p l e (headSpec (wl yX9_put cX9_put 5 (some .int)) (RM 2 0 0)).room s m [Value.ref k0, .int p0, .int p1, .int p2].toArray below meth c H locs 0 0 (MQ below (va_Qi (fun (r : Int32) (u : Unit) => (r = 1 ∧ ((0 ≤ p0.toInt ∧ p0.toInt ≤ 15) ∧ ((p1.toInt = 0 ∧ p2.toInt = 0) ∨ (p1.toInt = 1 ∧ -50 ≤ p2.toInt ∧ p2.toInt ≤ 50) ∨ p1.toInt = 2))) ∨ (r = (-1) ∧ ¬ ((0 ≤ p0.toInt ∧ p0.toInt ≤ 15) ∧ ((p1.toInt = 0 ∧ p2.toInt = 0) ∨ (p1.toInt = 1 ∧ -50 ≤ p2.toInt ∧ p2.toInt ≤ 50) ∨ p1.toInt = 2)))) (mu_B D A (fun (u : Unit) => ([] : va_W))) A) [Value.ref k0, .int p0, .int p1, .int p2].toArray s 0 0 A) (F0 m 73 ls []) := by
            intro N_51
            induction N_51 with
            | zero => intro ix gf73_0 gf73_1 gf73_2 gf73_3 H locs ls hm v0_loop_52 v1_loop_52 _ _ _ _; exfalso; omega
            | succ N_51 ih_50 =>
              intro ix gf73_0 gf73_1 gf73_2 gf73_3 H locs ls hm v0_loop_52 v1_loop_52 hP hD hS hl
              refine lv_iload hx hb dX9_put_73 (lv_at hl 0 rfl) ?_
              refine lv_sipush (v := 400) hx hb dX9_put_75 (by decide) ?_
              refine lv_icmp_ge (tgt := 143) hx hb dX9_put_78 (by decide) (fun c_53 => ?_) (fun c_53 => ?_)
              ·
                have ic_53 : 400 ≤ ix.toInt := by first | exact (g_le t_400 rfl).mp c_53 | (have h := mt (g_lt rfl t_400).mpr c_53; omega)
                refine lv_iconst (v := 1) hx hb dX9_put_143 (by decide) ?_
                have hP9 := hP.sub (ws' := ([] : va_W)) [] rfl
                have hD9 := hD.sub (ws' := ([] : va_W)) [] (by decide) rfl
                exact W.iret (v := 1) hx hb hr (fun t ht hW => ⟨⟨1, (), rfl, by first | exact Or.inl ⟨rfl, by omega⟩ | (exfalso; omega), by rw [ht]; exact hP9, hD9⟩, hS.F ht⟩) hS.2.2 dX9_put_144
              ·
                have ic_53 : ix.toInt < 400 := by first | exact (g_lt rfl t_400).mp c_53 | (have h := mt (g_le t_400 rfl).mpr c_53; omega)
                refine lv_aload_n hx hb dX9_put_81 rfl (lv_at hl 1 rfl) ?_
                refine va_get (D := D) (ci := 9) (v := .ref (cm 5)) (C := RX9) (T := TX9) (N := 68) hx hb htb iX9 hown hK.1 hP 0 rfl rfl 5 (by decide) (htb _ k_963) (fun _ h9 => h9) rfl dX9_put_82 ?_
                refine lv_sipush (v := 400) hx hb dX9_put_85 (by decide) ?_
                refine lv_iload_n hx hb dX9_put_88 rfl (lv_at hl 2 rfl) ?_
                refine lv_imul hx hb dX9_put_89 ?_
                refine lv_topi (fun z_54 ez_54 => ?_)
                have jz_54 : z_54.toInt = 400 * p0.toInt := by rw [ez_54]; exact g_mul t_400 rfl (by omega) (by omega)
                refine lv_iload hx hb dX9_put_90 (lv_at hl 0 rfl) ?_
                refine lv_iadd hx hb dX9_put_92 ?_
                refine lv_topi (fun z_55 ez_55 => ?_)
                have jz_55 : z_55.toInt = z_54.toInt + ix.toInt := by rw [ez_55]; exact g_add rfl rfl (by omega) (by omega)
                refine lv_iconst (v := 0) hx hb dX9_put_93 (by decide) ?_
                refine va_zast hx hb hK.1 hP hD hS 3 1 rfl rfl (g_in rfl (by omega) (by omega)) dX9_put_94 (fun H locs hP hD hS => ?_)
                have hP : va_P D vwCl [(k0, .inr (9, mF cm 0 0 0 0 0 0 0 0 0)), ((cm 3), .inl (E 0, 16, .inl (upd (fun _ => -5) (p0 : Int32).toNatClampNeg p1))), ((cm 4), .inl (E 0, 16, .inl (upd (fun _ => 0) (p0 : Int32).toNatClampNeg p2))), ((cm 5), .inl (E 1, 6400, .inl (upd gf73_0 (z_55 : Int32).toNatClampNeg (vp_nar .boolean 0)))), ((cm 8), .inl (E 1, 6400, .inl gf73_1)), ((cm 9), .inl (E 1, 6400, .inl gf73_2)), ((cm 10), .inl (E 0, 6400, .inl gf73_3))] H := hP
                have hD : va_D A [(k0, .inr (9, mF cm 0 0 0 0 0 0 0 0 0)), ((cm 3), .inl (E 0, 16, .inl (upd (fun _ => -5) (p0 : Int32).toNatClampNeg p1))), ((cm 4), .inl (E 0, 16, .inl (upd (fun _ => 0) (p0 : Int32).toNatClampNeg p2))), ((cm 5), .inl (E 1, 6400, .inl (upd gf73_0 (z_55 : Int32).toNatClampNeg (vp_nar .boolean 0)))), ((cm 8), .inl (E 1, 6400, .inl gf73_1)), ((cm 9), .inl (E 1, 6400, .inl gf73_2)), ((cm 10), .inl (E 0, 6400, .inl gf73_3))] := hD
                generalize (upd gf73_0 (z_55 : Int32).toNatClampNeg (vp_nar .boolean 0)) = g_56 at hP hD
                refine lv_aload_n hx hb dX9_put_95 rfl (lv_at hl 1 rfl) ?_
                refine va_get (D := D) (ci := 9) (v := .ref (cm 8)) (C := RX9) (T := TX9) (N := 68) hx hb htb iX9 hown hK.1 hP 0 rfl rfl 8 (by decide) (htb _ k_966) (fun _ h9 => h9) rfl dX9_put_96 ?_
                refine lv_sipush (v := 400) hx hb dX9_put_99 (by decide) ?_
                refine lv_iload_n hx hb dX9_put_102 rfl (lv_at hl 2 rfl) ?_
                refine lv_imul hx hb dX9_put_103 ?_
                refine lv_topi (fun z_57 ez_57 => ?_)
                have jz_57 : z_57.toInt = 400 * p0.toInt := by rw [ez_57]; exact g_mul t_400 rfl (by omega) (by omega)
                refine lv_iload hx hb dX9_put_104 (lv_at hl 0 rfl) ?_
                refine lv_iadd hx hb dX9_put_106 ?_
                refine lv_topi (fun z_58 ez_58 => ?_)
                have jz_58 : z_58.toInt = z_57.toInt + ix.toInt := by rw [ez_58]; exact g_add rfl rfl (by omega) (by omega)
                refine lv_iconst (v := 0) hx hb dX9_put_107 (by decide) ?_
                refine va_zast hx hb hK.1 hP hD hS 4 1 rfl rfl (g_in rfl (by omega) (by omega)) dX9_put_108 (fun H locs hP hD hS => ?_)
                have hP : va_P D vwCl [(k0, .inr (9, mF cm 0 0 0 0 0 0 0 0 0)), ((cm 3), .inl (E 0, 16, .inl (upd (fun _ => -5) (p0 : Int32).toNatClampNeg p1))), ((cm 4), .inl (E 0, 16, .inl (upd (fun _ => 0) (p0 : Int32).toNatClampNeg p2))), ((cm 5), .inl (E 1, 6400, .inl g_56)), ((cm 8), .inl (E 1, 6400, .inl (upd gf73_1 (z_58 : Int32).toNatClampNeg (vp_nar .boolean 0)))), ((cm 9), .inl (E 1, 6400, .inl gf73_2)), ((cm 10), .inl (E 0, 6400, .inl gf73_3))] H := hP
                have hD : va_D A [(k0, .inr (9, mF cm 0 0 0 0 0 0 0 0 0)), ((cm 3), .inl (E 0, 16, .inl (upd (fun _ => -5) (p0 : Int32).toNatClampNeg p1))), ((cm 4), .inl (E 0, 16, .inl (upd (fun _ => 0) (p0 : Int32).toNatClampNeg p2))), ((cm 5), .inl (E 1, 6400, .inl g_56)), ((cm 8), .inl (E 1, 6400, .inl (upd gf73_1 (z_58 : Int32).toNatClampNeg (vp_nar .boolean 0)))), ((cm 9), .inl (E 1, 6400, .inl gf73_2)), ((cm 10), .inl (E 0, 6400, .inl gf73_3))] := hD
                generalize (upd gf73_1 (z_58 : Int32).toNatClampNeg (vp_nar .boolean 0)) = g_59 at hP hD
                refine lv_aload_n hx hb dX9_put_109 rfl (lv_at hl 1 rfl) ?_
                refine va_get (D := D) (ci := 9) (v := .ref (cm 9)) (C := RX9) (T := TX9) (N := 68) hx hb htb iX9 hown hK.1 hP 0 rfl rfl 9 (by decide) (htb _ k_967) (fun _ h9 => h9) rfl dX9_put_110 ?_
                refine lv_sipush (v := 400) hx hb dX9_put_113 (by decide) ?_
                refine lv_iload_n hx hb dX9_put_116 rfl (lv_at hl 2 rfl) ?_
                refine lv_imul hx hb dX9_put_117 ?_
                refine lv_topi (fun z_60 ez_60 => ?_)
                have jz_60 : z_60.toInt = 400 * p0.toInt := by rw [ez_60]; exact g_mul t_400 rfl (by omega) (by omega)
                refine lv_iload hx hb dX9_put_118 (lv_at hl 0 rfl) ?_
                refine lv_iadd hx hb dX9_put_120 ?_
                refine lv_topi (fun z_61 ez_61 => ?_)
                have jz_61 : z_61.toInt = z_60.toInt + ix.toInt := by rw [ez_61]; exact g_add rfl rfl (by omega) (by omega)
                refine lv_iconst (v := 0) hx hb dX9_put_121 (by decide) ?_
                refine va_zast hx hb hK.1 hP hD hS 5 1 rfl rfl (g_in rfl (by omega) (by omega)) dX9_put_122 (fun H locs hP hD hS => ?_)
                have hP : va_P D vwCl [(k0, .inr (9, mF cm 0 0 0 0 0 0 0 0 0)), ((cm 3), .inl (E 0, 16, .inl (upd (fun _ => -5) (p0 : Int32).toNatClampNeg p1))), ((cm 4), .inl (E 0, 16, .inl (upd (fun _ => 0) (p0 : Int32).toNatClampNeg p2))), ((cm 5), .inl (E 1, 6400, .inl g_56)), ((cm 8), .inl (E 1, 6400, .inl g_59)), ((cm 9), .inl (E 1, 6400, .inl (upd gf73_2 (z_61 : Int32).toNatClampNeg (vp_nar .boolean 0)))), ((cm 10), .inl (E 0, 6400, .inl gf73_3))] H := hP
                have hD : va_D A [(k0, .inr (9, mF cm 0 0 0 0 0 0 0 0 0)), ((cm 3), .inl (E 0, 16, .inl (upd (fun _ => -5) (p0 : Int32).toNatClampNeg p1))), ((cm 4), .inl (E 0, 16, .inl (upd (fun _ => 0) (p0 : Int32).toNatClampNeg p2))), ((cm 5), .inl (E 1, 6400, .inl g_56)), ((cm 8), .inl (E 1, 6400, .inl g_59)), ((cm 9), .inl (E 1, 6400, .inl (upd gf73_2 (z_61 : Int32).toNatClampNeg (vp_nar .boolean 0)))), ((cm 10), .inl (E 0, 6400, .inl gf73_3))] := hD
                generalize (upd gf73_2 (z_61 : Int32).toNatClampNeg (vp_nar .boolean 0)) = g_62 at hP hD
                refine lv_aload_n hx hb dX9_put_123 rfl (lv_at hl 1 rfl) ?_
                refine va_get (D := D) (ci := 9) (v := .ref (cm 10)) (C := RX9) (T := TX9) (N := 68) hx hb htb iX9 hown hK.1 hP 0 rfl rfl 10 (by decide) (htb _ k_968) (fun _ h9 => h9) rfl dX9_put_124 ?_
                refine lv_sipush (v := 400) hx hb dX9_put_127 (by decide) ?_
                refine lv_iload_n hx hb dX9_put_130 rfl (lv_at hl 2 rfl) ?_
                refine lv_imul hx hb dX9_put_131 ?_
                refine lv_topi (fun z_63 ez_63 => ?_)
                have jz_63 : z_63.toInt = 400 * p0.toInt := by rw [ez_63]; exact g_mul t_400 rfl (by omega) (by omega)
                refine lv_iload hx hb dX9_put_132 (lv_at hl 0 rfl) ?_
                refine lv_iadd hx hb dX9_put_134 ?_
                refine lv_topi (fun z_64 ez_64 => ?_)
                have jz_64 : z_64.toInt = z_63.toInt + ix.toInt := by rw [ez_64]; exact g_add rfl rfl (by omega) (by omega)
                refine lv_iconst (v := (-1)) hx hb dX9_put_135 (by decide) ?_
                refine va_iast hx hb hK.1 hP hD hS 6 0 rfl rfl (g_in rfl (by omega) (by omega)) dX9_put_136 (fun H locs hP hD hS => ?_)
                have hP : va_P D vwCl [(k0, .inr (9, mF cm 0 0 0 0 0 0 0 0 0)), ((cm 3), .inl (E 0, 16, .inl (upd (fun _ => -5) (p0 : Int32).toNatClampNeg p1))), ((cm 4), .inl (E 0, 16, .inl (upd (fun _ => 0) (p0 : Int32).toNatClampNeg p2))), ((cm 5), .inl (E 1, 6400, .inl g_56)), ((cm 8), .inl (E 1, 6400, .inl g_59)), ((cm 9), .inl (E 1, 6400, .inl g_62)), ((cm 10), .inl (E 0, 6400, .inl (upd gf73_3 (z_64 : Int32).toNatClampNeg (-1))))] H := hP
                have hD : va_D A [(k0, .inr (9, mF cm 0 0 0 0 0 0 0 0 0)), ((cm 3), .inl (E 0, 16, .inl (upd (fun _ => -5) (p0 : Int32).toNatClampNeg p1))), ((cm 4), .inl (E 0, 16, .inl (upd (fun _ => 0) (p0 : Int32).toNatClampNeg p2))), ((cm 5), .inl (E 1, 6400, .inl g_56)), ((cm 8), .inl (E 1, 6400, .inl g_59)), ((cm 9), .inl (E 1, 6400, .inl g_62)), ((cm 10), .inl (E 0, 6400, .inl (upd gf73_3 (z_64 : Int32).toNatClampNeg (-1))))] := hD
                obtain ⟨z_65, ez_65⟩ : ∃ y : Int32, y = ix + 1 := ⟨_, rfl⟩
                have jz_65 : z_65.toInt = ix.toInt + 1 := by rw [ez_65]; exact g_add rfl t_1 (by omega) (by omega)
                refine lv_iinc (v := z_65) (lv' := [(4, .int z_65), (0, .ref k0), (1, .int p0), (2, .int p1), (3, .int p2)]) hx hb dX9_put_137 hl (k := 0) rfl (by rw [ez_65]; rfl) (by decide) rfl (fun ls hl => ?_)
                refine lv_goto (tgt := 73) hx hb dX9_put_140 (by decide) ?_
                exact ih_50 z_65 g_56 g_59 g_62 (upd gf73_3 (z_64 : Int32).toNatClampNeg (-1)) _ _ _ (by omega) (by omega) (by omega) hP hD hS (lv_sub hl [0, 1, 2, 3, 4] rfl)
          exact loop_52 401 0 (fun _ => 0) (fun _ => 0) (fun _ => 0) (fun _ => 0) _ _ _ (by have h0 := t_0; omega) (by have h0 := t_0; omega) (by have h0 := t_0; omega) hP hD hS (lv_sub hl [0, 1, 2, 3, 4] rfl)
    ·
      try simp only [t_0, t_2] at hw_4
      refine W_top (y := .int 0) (by rw [hr_5]) ?_
      refine lv_if_eq (tgt := 40) hx hb dX9_put_13 (by decide) (fun c_66 => ?_) (fun c_66 => absurd (by decide) c_66)
      refine lv_iconst (v := (-1)) hx hb dX9_put_40 (by decide) ?_
      have hP9 := hP.sub (ws' := ([] : va_W)) [] rfl
      have hD9 := hD.sub (ws' := ([] : va_W)) [] (by decide) rfl
      exact W.iret (v := (-1)) hx hb hr (fun t ht hW => ⟨⟨(-1), (), rfl, by first | exact Or.inr ⟨rfl, by omega⟩ | (exfalso; omega), by rw [ht]; exact hP9, hD9⟩, hS.F ht⟩) hS.2.2 dX9_put_41
  ·
    refine W_top (y := .int 0) (by rw [hr_2]) ?_
    refine lv_if_eq (tgt := 40) hx hb dX9_put_4 (by decide) (fun c_67 => ?_) (fun c_67 => absurd (by decide) c_67)
    refine lv_iconst (v := (-1)) hx hb dX9_put_40 (by decide) ?_
    have hP9 := hP.sub (ws' := ([] : va_W)) [] rfl
    have hD9 := hD.sub (ws' := ([] : va_W)) [] (by decide) rfl
    exact W.iret (v := (-1)) hx hb hr (fun t ht hW => ⟨⟨(-1), (), rfl, by first | exact Or.inr ⟨rfl, by omega⟩ | (exfalso; omega), by rw [ht]; exact hP9, hD9⟩, hS.F ht⟩) hS.2.2 dX9_put_41
set_option maxHeartbeats 4000000 in
set_option maxRecDepth 100000 in
theorem c_X9_days (l : Launch) (D : va_G) (E : Nat → Nat) (k0 : Nat) (cm : Nat → Nat) (p0 : Int32) (sz : Nat)  : Met l yX9_days (wl yX9_days cX9_days 4 (some .int)) (RM 1 0 0) (mu_P D E [.ref k0, .int p0] [(k0, .inr (9, mF cm 0 0 0 0 0 0 0 0 0)), ((cm 10), .inl (E 0, 6400, .inl (fun _ => 0)))] sz) (va_Qi (fun (r : Int32) (u : Unit) => (r = p0 ∧ (1 ≤ p0.toInt ∧ p0.toInt ≤ 100)) ∨ (r = (-1) ∧ ¬ (1 ≤ p0.toInt ∧ p0.toInt ≤ 100))) (mu_B D (va_A [(k0, .inr (9, mF cm 0 0 0 0 0 0 0 0 0)), ((cm 10), .inl (E 0, 6400, .inl (fun _ => 0)))] sz) (fun (u : Unit) => ([] : va_W))) (va_A [(k0, .inr (9, mF cm 0 0 0 0 0 0 0 0 0)), ((cm 10), .inl (E 0, 6400, .inl (fun _ => 0)))] sz)) 0 0 (va_A [(k0, .inr (9, mF cm 0 0 0 0 0 0 0 0 0)), ((cm 10), .inl (E 0, 6400, .inl (fun _ => 0)))] sz) := by
  refine Met.ofW (cc := cX9_days) (maxL := 4) (ret := (some .int)) (by decide) rfl ?_
  intro p e s m args below meth c s₁ B hml hv
  obtain ⟨rfl, hsz, hP, hK, hD0⟩ := hv
  have hx := B.exec
  have hb := B.bytes
  have hr := B.returns
  have hts := atoms_spec (ws := wl yX9_days cX9_days 4 (some .int)) B.pre
  have htb : ∀ w ∈ tb, w.before _ s = true := fun w h => hts w (List.mem_cons_of_mem _ h)
  have hown : s.vm.findClass RX9 = some m.cls := findClass_of_methodNamed B.named
  have hlocks := B.notSynchronized
  subst hsz
  have hD := hD0.self (sz := s.heap.size)
  generalize hAe : va_A [(k0, .inr (9, mF cm 0 0 0 0 0 0 0 0 0)), ((cm 10), .inl (E 0, 6400, .inl (fun _ => 0)))] s.heap.size = A at hD ⊢
  have hA : ∀ q : Nat, s.heap.size ≤ q → A q := fun q h => by rw [← hAe]; exact Or.inr h
  have hS : va_S A s.heap s.heap [] := va_S.rf
  have hP : va_P D vwCl [(k0, .inr (9, mF cm 0 0 0 0 0 0 0 0 0)), ((cm 10), .inl (E 0, 6400, .inl (fun _ => 0)))] s.heap := hP
  have hl := lv_entry ([.ref k0, .int p0]) (n := 4) (Nat.le_of_ble_eq_true rfl)
  rw [lg_entry_eq]
  generalize (lg_sl ([.ref k0, .int p0]) ++ List.replicate (4 - (lg_sl ([.ref k0, .int p0])).length) Slot.unset).toArray = ls at hl ⊢
  have hl : lv_has ls 4 [(0, .ref k0), (1, .int p0)] := hl
  have lo_p0 := i_lo p0
  have hi_p0 := i_hi p0
  refine lv_iload_n hx hb dX9_days_0 rfl (lv_at hl 1 rfl) ?_
  refine lv_iconst (v := 1) hx hb dX9_days_1 (by decide) ?_
  refine lv_bipush (v := 100) hx hb dX9_days_2 (by decide) ?_
  refine callRS (rest := []) (As := [.int p0, .int 1, .int 100]) hx hb hml hown htb hK (c_X9_in l D E p0 1 100 ) ok_X9_in k_1168 k_1169 k_9 k_1170 ⟨(Nat.le_of_ble_eq_true rfl), (Nat.le_of_ble_eq_true rfl)⟩ ⟨(Nat.le_of_ble_eq_true rfl), (Nat.le_of_ble_eq_true rfl)⟩ hl.1 (Nat.le_of_ble_eq_true rfl) rfl rfl dX9_days_4 (hP.sub (ws' := ([] : va_W)) [] rfl) (fun r_2 hw_1 => ?_)
  rcases hw_1 with ⟨hr_2, hw_1⟩ | ⟨hr_2, hw_1⟩
  ·
    try simp only [t_1, t_100] at hw_1
    refine W_top (y := .int 1) (by rw [hr_2]) ?_
    refine lv_if_eq (tgt := 22) hx hb dX9_days_7 (by decide) (fun c_3 => absurd c_3 (by decide)) (fun c_3 => ?_)
    refine lv_aload_n hx hb dX9_days_10 rfl (lv_at hl 0 rfl) ?_
    refine va_get (D := D) (ci := 9) (v := .int 0) (C := RX9) (T := TX9) (N := 68) hx hb htb iX9 hown hK.1 hP 0 rfl rfl 1 (by decide) (htb _ k_959) (fun _ h9 => h9) rfl dX9_days_11 ?_
    refine lv_iload_n hx hb dX9_days_14 rfl (lv_at hl 1 rfl) ?_
    refine lv_iadd hx hb dX9_days_15 ?_
    refine W_top (y := .int p0) (congrArg Value.int (Int32.zero_add _)) ?_
    refine lv_sipush (v := 399) hx hb dX9_days_16 (by decide) ?_
    refine lv_icmp_le (tgt := 24) hx hb dX9_days_19 (by decide) (fun c_4 => ?_) (fun c_4 => absurd (by rw [g_le rfl t_399]; omega) c_4)
    refine lv_iconst (v := 0) hx hb dX9_days_24 (by decide) ?_
    refine lv_istore_n (lv' := [(2, .int 0), (0, .ref k0), (1, .int p0)]) hx hb dX9_days_25 rfl hl (by decide) rfl (fun ls hl => ?_)
    have loop_7 : ∀ (N_6 : Nat) (kx : Int32) (tx : Int32) (gd : Nat → Int32) (H : Heap) (locs : List Loc) (ls : Array Slot), p0.toInt - kx.toInt < (N_6 : Int) → (0 ≤ kx.toInt) → (tx.toInt = kx.toInt) → (tx.toInt ≤ p0.toInt) → va_P D vwCl [(k0, .inr (9, mF cm tx 0 0 0 0 0 0 0 0)), ((cm 10), .inl (E 0, 6400, .inl gd))] H → va_D A [(k0, .inr (9, mF cm tx 0 0 0 0 0 0 0 0)), ((cm 10), .inl (E 0, 6400, .inl gd))] → va_S A s.heap H locs → lv_has ls 4 [(2, .int kx), (0, .ref k0), (1, .int p0)] → W p l e (headSpec (wl yX9_days cX9_days 4 (some .int)) (RM 1 0 0)).room s m [Value.ref k0, .int p0].toArray below meth c H locs 0 0 (MQ below (va_Qi (fun (r : Int32) (u : Unit) => (r = p0 ∧ (1 ≤ p0.toInt ∧ p0.toInt ≤ 100)) ∨ (r = (-1) ∧ ¬ (1 ≤ p0.toInt ∧ p0.toInt ≤ 100))) (mu_B D A (fun (u : Unit) => ([] : va_W))) A) [Value.ref k0, .int p0].toArray s 0 0 A) (F0 m 26 ls []) := by
      intro N_6
      induction N_6 with
      | zero => intro kx tx gd H locs ls hm v0_loop_7 v1_loop_7 v2_loop_7 _ _ _ _; exfalso; omega
      | succ N_6 ih_5 =>
        intro kx tx gd H locs ls hm v0_loop_7 v1_loop_7 v2_loop_7 hP hD hS hl
        refine lv_iload_n hx hb dX9_days_26 rfl (lv_at hl 0 rfl) ?_
        refine lv_iload_n hx hb dX9_days_27 rfl (lv_at hl 2 rfl) ?_
        refine lv_icmp_ge (tgt := 93) hx hb dX9_days_28 (by decide) (fun c_8 => ?_) (fun c_8 => ?_)
        ·
          have ic_8 : p0.toInt ≤ kx.toInt := by first | exact (g_le rfl rfl).mp c_8 | (have h := mt (g_lt rfl rfl).mpr c_8; omega)
          refine lv_aload_n hx hb dX9_days_93 rfl (lv_at hl 1 rfl) ?_
          refine va_get (D := D) (ci := 9) (v := .int tx) (C := RX9) (T := TX9) (N := 68) hx hb htb iX9 hown hK.1 hP 0 rfl rfl 1 (by decide) (htb _ k_959) (fun _ h9 => h9) rfl dX9_days_94 ?_
          have hP9 := hP.sub (ws' := ([] : va_W)) [] rfl
          have hD9 := hD.sub (ws' := ([] : va_W)) [] (by decide) rfl
          exact W.iret (v := tx) hx hb hr (fun t ht hW => ⟨⟨tx, (), rfl, by first | exact Or.inl ⟨(g_eq rfl rfl).mpr (by omega), by omega⟩ | exact Or.inr ⟨(g_eq rfl t_m1).mpr (by omega), by omega⟩ | (exfalso; omega), by rw [ht]; exact hP9, hD9⟩, hS.F ht⟩) hS.2.2 dX9_days_97
        ·
          have ic_8 : kx.toInt < p0.toInt := by first | exact (g_lt rfl rfl).mp c_8 | (have h := mt (g_le rfl rfl).mpr c_8; omega)
          refine lv_iconst (v := 0) hx hb dX9_days_31 (by decide) ?_
          refine lv_istore_n (lv' := [(3, .int 0), (2, .int kx), (0, .ref k0), (1, .int p0)]) hx hb dX9_days_32 rfl hl (by decide) rfl (fun ls hl => ?_)
          have loop_11 : ∀ (N_10 : Nat) (px : Int32) (ge : Nat → Int32) (H : Heap) (locs : List Loc) (ls : Array Slot), 16 - px.toInt < (N_10 : Int) → (0 ≤ px.toInt) → (px.toInt ≤ 16) → va_P D vwCl [(k0, .inr (9, mF cm tx 0 0 0 0 0 0 0 0)), ((cm 10), .inl (E 0, 6400, .inl ge))] H → va_D A [(k0, .inr (9, mF cm tx 0 0 0 0 0 0 0 0)), ((cm 10), .inl (E 0, 6400, .inl ge))] → va_S A s.heap H locs → lv_has ls 4 [(3, .int px), (2, .int kx), (0, .ref k0), (1, .int p0)] → W p l e (headSpec (wl yX9_days cX9_days 4 (some .int)) (RM 1 0 0)).room s m [Value.ref k0, .int p0].toArray below meth c H locs 0 0 (MQ below (va_Qi (fun (r : Int32) (u : Unit) => (r = p0 ∧ (1 ≤ p0.toInt ∧ p0.toInt ≤ 100)) ∨ (r = (-1) ∧ ¬ (1 ≤ p0.toInt ∧ p0.toInt ≤ 100))) (mu_B D A (fun (u : Unit) => ([] : va_W))) A) [Value.ref k0, .int p0].toArray s 0 0 A) (F0 m 33 ls []) := by
            intro N_10
            induction N_10 with
            | zero => intro px ge H locs ls hm v0_loop_11 v1_loop_11 _ _ _ _; exfalso; omega
            | succ N_10 ih_9 =>
              intro px ge H locs ls hm v0_loop_11 v1_loop_11 hP hD hS hl
              refine lv_iload_n hx hb dX9_days_33 rfl (lv_at hl 0 rfl) ?_
              refine lv_bipush (v := 16) hx hb dX9_days_34 (by decide) ?_
              refine lv_icmp_ge (tgt := 77) hx hb dX9_days_36 (by decide) (fun c_12 => ?_) (fun c_12 => ?_)
              ·
                have ic_12 : 16 ≤ px.toInt := by first | exact (g_le t_16 rfl).mp c_12 | (have h := mt (g_lt rfl t_16).mpr c_12; omega)
                refine lv_aload_n hx hb dX9_days_77 rfl (lv_at hl 2 rfl) ?_
                refine lv_dup hx hb dX9_days_78 rfl ?_
                refine va_get (D := D) (ci := 9) (v := .int tx) (C := RX9) (T := TX9) (N := 68) hx hb htb iX9 hown hK.1 hP 0 rfl rfl 1 (by decide) (htb _ k_959) (fun _ h9 => h9) rfl dX9_days_79 ?_
                refine lv_iconst (v := 1) hx hb dX9_days_82 (by decide) ?_
                refine lv_iadd hx hb dX9_days_83 ?_
                refine lv_topi (fun z_13 ez_13 => ?_)
                have jz_13 : z_13.toInt = tx.toInt + 1 := by rw [ez_13]; exact g_add rfl t_1 (by omega) (by omega)
                refine va_put (D := D) (ci := 9) (v := .int z_13) (ty := .int) (C := RX9) (T := TX9) (N := 68) hx hb htb iX9 tyX9 tyX9_ok nmX9 hown hK.1 hP hD hS 0 rfl rfl 1 (by decide) (htb _ k_959) (fun _ h9 => h9) rfl (by decide +kernel) rfl rfl (Nat.le_of_ble_eq_true rfl) dX9_days_84 (fun H locs hP hD hS => ?_)
                have hP : va_P D vwCl [(k0, .inr (9, mF cm z_13 0 0 0 0 0 0 0 0)), ((cm 10), .inl (E 0, 6400, .inl ge))] H := hP
                have hD : va_D A [(k0, .inr (9, mF cm z_13 0 0 0 0 0 0 0 0)), ((cm 10), .inl (E 0, 6400, .inl ge))] := hD
                obtain ⟨z_14, ez_14⟩ : ∃ y : Int32, y = kx + 1 := ⟨_, rfl⟩
                have jz_14 : z_14.toInt = kx.toInt + 1 := by rw [ez_14]; exact g_add rfl t_1 (by omega) (by omega)
                refine lv_iinc (v := z_14) (lv' := [(2, .int z_14), (3, .int px), (0, .ref k0), (1, .int p0)]) hx hb dX9_days_87 hl (k := 1) rfl (by rw [ez_14]; rfl) (by decide) rfl (fun ls hl => ?_)
                refine lv_goto (tgt := 26) hx hb dX9_days_90 (by decide) ?_
                exact ih_5 z_14 z_13 ge _ _ _ (by omega) (by omega) (by omega) (by omega) hP hD hS (lv_sub hl [0, 2, 3] rfl)
              ·
                have ic_12 : px.toInt < 16 := by first | exact (g_lt rfl t_16).mp c_12 | (have h := mt (g_le t_16 rfl).mpr c_12; omega)
                refine lv_aload_n hx hb dX9_days_39 rfl (lv_at hl 2 rfl) ?_
                refine va_get (D := D) (ci := 9) (v := .ref (cm 10)) (C := RX9) (T := TX9) (N := 68) hx hb htb iX9 hown hK.1 hP 0 rfl rfl 10 (by decide) (htb _ k_968) (fun _ h9 => h9) rfl dX9_days_40 ?_
                refine lv_sipush (v := 400) hx hb dX9_days_43 (by decide) ?_
                refine lv_iload_n hx hb dX9_days_46 rfl (lv_at hl 0 rfl) ?_
                refine lv_imul hx hb dX9_days_47 ?_
                refine lv_topi (fun z_15 ez_15 => ?_)
                have jz_15 : z_15.toInt = 400 * px.toInt := by rw [ez_15]; exact g_mul t_400 rfl (by omega) (by omega)
                refine lv_aload_n hx hb dX9_days_48 rfl (lv_at hl 2 rfl) ?_
                refine va_get (D := D) (ci := 9) (v := .int tx) (C := RX9) (T := TX9) (N := 68) hx hb htb iX9 hown hK.1 hP 0 rfl rfl 1 (by decide) (htb _ k_959) (fun _ h9 => h9) rfl dX9_days_49 ?_
                refine lv_iadd hx hb dX9_days_52 ?_
                refine lv_topi (fun z_16 ez_16 => ?_)
                have jz_16 : z_16.toInt = z_15.toInt + tx.toInt := by rw [ez_16]; exact g_add rfl rfl (by omega) (by omega)
                refine lv_iconst (v := 1) hx hb dX9_days_53 (by decide) ?_
                refine lv_iadd hx hb dX9_days_54 ?_
                refine lv_topi (fun z_17 ez_17 => ?_)
                have jz_17 : z_17.toInt = z_16.toInt + 1 := by rw [ez_17]; exact g_add rfl t_1 (by omega) (by omega)
                refine lv_aload_n hx hb dX9_days_55 rfl (lv_at hl 2 rfl) ?_
                refine va_get (D := D) (ci := 9) (v := .ref (cm 10)) (C := RX9) (T := TX9) (N := 68) hx hb htb iX9 hown hK.1 hP 0 rfl rfl 10 (by decide) (htb _ k_968) (fun _ h9 => h9) rfl dX9_days_56 ?_
                refine lv_sipush (v := 400) hx hb dX9_days_59 (by decide) ?_
                refine lv_iload_n hx hb dX9_days_62 rfl (lv_at hl 0 rfl) ?_
                refine lv_imul hx hb dX9_days_63 ?_
                refine lv_topi (fun z_18 ez_18 => ?_)
                have jz_18 : z_18.toInt = 400 * px.toInt := by rw [ez_18]; exact g_mul t_400 rfl (by omega) (by omega)
                refine lv_aload_n hx hb dX9_days_64 rfl (lv_at hl 2 rfl) ?_
                refine va_get (D := D) (ci := 9) (v := .int tx) (C := RX9) (T := TX9) (N := 68) hx hb htb iX9 hown hK.1 hP 0 rfl rfl 1 (by decide) (htb _ k_959) (fun _ h9 => h9) rfl dX9_days_65 ?_
                refine lv_iadd hx hb dX9_days_68 ?_
                refine lv_topi (fun z_19 ez_19 => ?_)
                have jz_19 : z_19.toInt = z_18.toInt + tx.toInt := by rw [ez_19]; exact g_add rfl rfl (by omega) (by omega)
                refine va_iald hx hb hK.1 hP 1 0 rfl rfl (g_in rfl (by omega) (by omega)) dX9_days_69 ?_
                refine lv_topi (fun z_20 ez_20 => ?_)
                refine va_iast hx hb hK.1 hP hD hS 1 0 rfl rfl (g_in rfl (by omega) (by omega)) dX9_days_70 (fun H locs hP hD hS => ?_)
                have hP : va_P D vwCl [(k0, .inr (9, mF cm tx 0 0 0 0 0 0 0 0)), ((cm 10), .inl (E 0, 6400, .inl (upd ge (z_17 : Int32).toNatClampNeg z_20)))] H := hP
                have hD : va_D A [(k0, .inr (9, mF cm tx 0 0 0 0 0 0 0 0)), ((cm 10), .inl (E 0, 6400, .inl (upd ge (z_17 : Int32).toNatClampNeg z_20)))] := hD
                obtain ⟨z_21, ez_21⟩ : ∃ y : Int32, y = px + 1 := ⟨_, rfl⟩
                have jz_21 : z_21.toInt = px.toInt + 1 := by rw [ez_21]; exact g_add rfl t_1 (by omega) (by omega)
                refine lv_iinc (v := z_21) (lv' := [(3, .int z_21), (2, .int kx), (0, .ref k0), (1, .int p0)]) hx hb dX9_days_71 hl (k := 0) rfl (by rw [ez_21]; rfl) (by decide) rfl (fun ls hl => ?_)
                refine lv_goto (tgt := 33) hx hb dX9_days_74 (by decide) ?_
                exact ih_9 z_21 (upd ge (z_17 : Int32).toNatClampNeg z_20) _ _ _ (by omega) (by omega) (by omega) hP hD hS (lv_sub hl [0, 1, 2, 3] rfl)
          exact loop_11 17 0 gd _ _ _ (by have h0 := t_0; omega) (by have h0 := t_0; omega) (by have h0 := t_0; omega) hP hD hS (lv_sub hl [0, 1, 2, 3] rfl)
    exact loop_7 101 0 0 (fun _ => 0) _ _ _ (by have h0 := t_0; omega) (by have h0 := t_0; omega) (by have h0 := t_0; omega) (by have h0 := t_0; omega) hP hD hS (lv_sub hl [0, 1, 2] rfl)
  ·
    try simp only [t_1, t_100] at hw_1
    refine W_top (y := .int 0) (by rw [hr_2]) ?_
    refine lv_if_eq (tgt := 22) hx hb dX9_days_7 (by decide) (fun c_22 => ?_) (fun c_22 => absurd (by decide) c_22)
    refine lv_iconst (v := (-1)) hx hb dX9_days_22 (by decide) ?_
    have hP9 := hP.sub (ws' := ([] : va_W)) [] rfl
    have hD9 := hD.sub (ws' := ([] : va_W)) [] (by decide) rfl
    exact W.iret (v := (-1)) hx hb hr (fun t ht hW => ⟨⟨(-1), (), rfl, by first | exact Or.inl ⟨(g_eq t_m1 rfl).mpr (by omega), by omega⟩ | exact Or.inr ⟨rfl, by omega⟩ | (exfalso; omega), by rw [ht]; exact hP9, hD9⟩, hS.F ht⟩) hS.2.2 dX9_days_23
