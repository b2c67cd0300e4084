set_option maxHeartbeats 4000000 in
set_option maxRecDepth 100000 in
/-- the context at the law's start -/
theorem law_K {p : Program} {s : State} {m : MethodId} {meth : Method} {c : Code} {b L : Nat} {xs : Nat → Int32} (C0 : lw_At p s m meth c b L xs) : ∃ (D : va_G) (E : Nat → Nat), KX D E s := by
  obtain ⟨hx, hb, hr, hml, hown, hts, hX, hbl, hlocks, hgv⟩ := C0
  have htb : ∀ w ∈ tb, w.before #[Value.ref b] s = true := fun w h => hts w (tb_in h)
  have hs := flat_of_before _ hgv
  obtain ⟨c0, iS0, hK0⟩ := u_known (C := RX0) (T := TX0) (N := 9) (n := 9) htb iX0 (htb _ k_185)
  obtain ⟨c1, iS1, hK1⟩ := u_known (C := RX1) (T := TX1) (N := 15) (n := 15) htb iX1 (htb _ k_78)
  obtain ⟨c2, iS2, hK2⟩ := u_known (C := RX2) (T := TX2) (N := 6) (n := 6) htb iX2 (htb _ k_29)
  obtain ⟨c3, iS3, hK3⟩ := u_known (C := RX3) (T := TX3) (N := 4) (n := 4) htb iX3 (htb _ k_56)
  obtain ⟨c4, iS4, hK4⟩ := u_known (C := RX4) (T := TX4) (N := 4) (n := 4) htb iX4 (htb _ k_136)
  obtain ⟨c5, iS5, hK5⟩ := u_known (C := RX5) (T := TX5) (N := 11) (n := 11) htb iX5 (htb _ k_223)
  obtain ⟨c6, iS6, hK6⟩ := u_known (C := RX6) (T := TX6) (N := 8) (n := 8) htb iX6 (htb _ k_130)
  obtain ⟨c7, iS7, hK7⟩ := u_known (C := RX7) (T := TX7) (N := 4) (n := 4) htb iX7 (htb _ k_343)
  obtain ⟨c8, iS8, hK8⟩ := u_known (C := RX8) (T := TX8) (N := 14) (n := 14) htb iX8 (htb _ k_17)
  obtain ⟨c9, iS9, hK9⟩ := u_known (C := RX9) (T := TX9) (N := 68) (n := 68) htb iX9 (htb _ k_954)
  obtain ⟨e0, ka0, co0, f0a, f0b, f0c⟩ := Cond.arrayClass_spec (htb _ k_54)
  obtain ⟨e1, ka1, co1, f1a, f1b, f1c⟩ := Cond.arrayClass_spec (htb _ k_1163)
  obtain ⟨e2, ka2, co2, f2a, f2b, f2c⟩ := Cond.arrayClass_spec (htb _ k_183)
  obtain ⟨co3, e3, ka3, f3d, -, f3b, f3c, f3a⟩ := Cond.arrayOver_spec (hts _ ao_0)
  obtain ⟨co4, e4, ka4, f4d, -, f4b, f4c, f4a⟩ := Cond.arrayOver_spec (hts _ ao_1)
  obtain ⟨e5, _, _, _, g0, -⟩ := Cond.exactly_spec (args := #[Value.ref b]) (first := s) (o := none) (s := s) (idx := []) (t := Term.string "SeaWatches$Tape" 26) (cls := "java/lang/String") (hs _ (by decide +kernel))
  obtain ⟨e6, _, _, _, g1, -⟩ := Cond.exactly_spec (args := #[Value.ref b]) (first := s) (o := none) (s := s) (idx := []) (t := Term.string "SeaWatches" 182) (cls := "java/lang/String") (hs _ (by decide +kernel))
  obtain ⟨e7, _, _, _, g2, -⟩ := Cond.exactly_spec (args := #[Value.ref b]) (first := s) (o := none) (s := s) (idx := []) (t := Term.string "SeaWatches" 184) (cls := "java/lang/String") (hs _ (by decide +kernel))
  refine ⟨(fun k => ([c0, c1, c2, c3, c4, c5, c6, c7, c8, c9] : List ClassId).getD k 0, fun k => ([iS0, iS1, iS2, iS3, iS4, iS5, iS6, iS7, iS8, iS9] : List (Nat → Nat)).getD k (fun _ => 0)), fun k => ([e0, e1, e2, e3, e4, e5, e6, e7] : List Nat).getD k 0, ⟨fun k q hq => ?_, fun k q hq => ?_⟩, fun w hw => va_Nw.of (nw_tab (nestW_is w hw)) (hts w (nestW_in w hw)), ⟨va_AO.of (hts _ ao_0), va_AO.of (hts _ ao_1)⟩, vk_R.of (hts _ sr_0) g0, vk_R.of (hts _ sr_1) g1, vk_R.of (hts _ sr_2) g2⟩
  · match k, hq with
    | 0, hq => cases hq; exact hK0
    | 1, hq => cases hq; exact hK1
    | 2, hq => cases hq; exact hK2
    | 3, hq => cases hq; exact hK3
    | 4, hq => cases hq; exact hK4
    | 5, hq => cases hq; exact hK5
    | 6, hq => cases hq; exact hK6
    | 7, hq => cases hq; exact hK7
    | 8, hq => cases hq; exact hK8
    | 9, hq => cases hq; exact hK9
    | k + 10, hq => simp [vwCl] at hq
  · match k, hq with
    | 0, hq => cases hq; exact ⟨fun n z => ⟨fun k h => (by cases h), ka0, f0b, co0, f0c⟩, f0a⟩
    | 1, hq => cases hq; exact ⟨fun n z => ⟨fun k h => (by cases h), ka1, f1b, co1, f1c⟩, f1a⟩
    | 2, hq => cases hq; exact ⟨fun n z => ⟨fun k h => (by cases h), ka2, f2b, co2, f2c⟩, f2a⟩
    | 3, hq => cases hq; exact ⟨fun n z => ⟨fun k h => (by cases h), ka3, f3b, co3, f3c⟩, ka3, co3, f3b, f3c, f3d, f3a⟩
    | 4, hq => cases hq; exact ⟨fun n z => ⟨fun k h => (by cases h), ka4, f4b, co4, f4c⟩, ka4, co4, f4b, f4c, f4d, f4a⟩
    | k + 5, hq => simp [TY] at hq
set_option maxHeartbeats 4000000 in
set_option maxRecDepth 100000 in
/-- THE LAW, from its entry -/
theorem whole_start {p : Program} {e : Env} {s : State} {m : MethodId} {below : List Frame} {meth : Method} {c : Code} (l : Launch) {b L : Nat} {xs : Nat → Int32} (hL : L ≤ 6) (C0 : lw_At p s m meth c b L xs) : W p l e room_1 s m #[Value.ref b] below meth c s.heap [] 0 0 (lw_Z below #[Value.ref b] s) (entryFrame m ([Value.ref b] : List Value).toArray 4) := by
  obtain ⟨D, E, hK⟩ := law_K C0
  obtain ⟨hx, hb, hr, hml, hown, hts, hX, hbl, hlocks, hgv⟩ := C0
  have htb : ∀ w ∈ tb, w.before #[Value.ref b] s = true := fun w h => hts w (tb_in h)
  have hA : ∀ q : Nat, s.heap.size ≤ q → (fun q : Nat => s.heap.size ≤ q) q := fun _ h => h
  have hbA : ¬ (fun q : Nat => s.heap.size ≤ q) b := Nat.not_le.mpr hbl
  have hS : va_S (fun q : Nat => s.heap.size ≤ q) s.heap s.heap [] := va_S.rf
  have hP : va_P D vwCl ([] : va_W) s.heap := fun k q h => by simp at h
  have hD : va_D (fun q : Nat => s.heap.size ≤ q) ([] : va_W) := ⟨fun i j p q h => by simp at h, fun k q h => by simp at h⟩
  have hl := lv_entry ([.ref b]) (n := 4) (Nat.le_of_ble_eq_true rfl)
  rw [lg_entry_eq]
  generalize (lg_sl ([.ref b]) ++ List.replicate (4 - (lg_sl ([.ref b])).length) Slot.unset).toArray = ls at hl ⊢
  have hl : lv_has ls 4 [(0, .ref b)] := hl
  refine va_new (ci := 8) (fs := [.null, .null, .null, .null, .null, .null, .null, .null, .null, .null, .null, .null, .null, .int 0]) (C := RX8) (T := TX8) (N := 14) hx hb htb iX8 tyX8 tyX8_ok hown (htb _ k_16) (htb _ k_17) (htb _ k_1) hK.1 hP hD hS hA rfl (by decide) (Nat.le_of_ble_eq_true rfl) (Nat.le_of_ble_eq_true rfl) dL_law_0 (fun q_1 H hP hD hS => ?_)
  have hP : va_P D vwCl [(q_1, .inr (8, [.null, .null, .null, .null, .null, .null, .null, .null, .null, .null, .null, .null, .null, .int 0]))] H := hP
  have hD : va_D (fun q : Nat => s.heap.size ≤ q) [(q_1, .inr (8, [.null, .null, .null, .null, .null, .null, .null, .null, .null, .null, .null, .null, .null, .int 0]))] := hD
  refine W.widen (k := 1) (n := 14) (Nat.le_of_ble_eq_true rfl) (Nat.le_of_ble_eq_true rfl) ?_
  refine lv_dup hx hb dL_law_3 rfl ?_
  have hPc := hP.sub (ws' := [(q_1, .inr (8, [.null, .null, .null, .null, .null, .null, .null, .null, .null, .null, .null, .null, .null, .int 0]))]) [0] rfl
  have hDc := hD.sub (ws' := [(q_1, .inr (8, [.null, .null, .null, .null, .null, .null, .null, .null, .null, .null, .null, .null, .null, .int 0]))]) [0] (by decide) rfl
  refine aft_v (runMI (rest := [.ref q_1]) (As := []) hx hb hml hown htb hK (c_X8_init l D E q_1 _ ) ok_X8_init rfl k_18 k_19 k_1 k_20 ⟨(Nat.le_of_ble_eq_true rfl), (Nat.le_of_ble_eq_true rfl)⟩ ⟨(Nat.le_of_ble_eq_true rfl), (Nat.le_of_ble_eq_true rfl)⟩ hl.1 (Nat.le_of_ble_eq_true rfl) rfl rfl dL_law_4 hPc hDc) hP hD hS hA [0] [] (wr := ([] : va_W)) rfl rfl (by decide) (by decide) (fun u_2 H locs hw_3 hP hD hS => ?_)
  clear hPc hDc
  have hP : va_P D vwCl [(q_1, .inr (8, xF u_2.1 0)), ((u_2.1 0), .inl (E 0, 400, .inl u_2.2.2)), ((u_2.1 1), .inl (E 0, 16, .inl (fun _ => -5))), ((u_2.1 2), .inl (E 0, 16, .inl (fun _ => 0))), ((u_2.1 3), .inl (E 3, 16, .inr (.inr (.inr (.inr (fun _ => none)))))), ((u_2.1 4), .inl (E 4, 5, .inr (.inr (.inr (.inr (fun j => some (u_2.1 (13 + j)))))))), ((u_2.1 13), .inr (5, sF (u_2.2.1 0))), ((u_2.1 14), .inr (5, sF (u_2.2.1 1))), ((u_2.1 15), .inr (5, sF (u_2.2.1 2))), ((u_2.1 16), .inr (5, sF (u_2.2.1 3))), ((u_2.1 17), .inr (5, sF (u_2.2.1 4))), ((u_2.1 6), .inr (2, [.ref (u_2.1 18), .ref (u_2.1 19), .ref (u_2.1 20), .ref (u_2.1 21), .ref (u_2.1 22), .int 0])), ((u_2.1 18), .inl (E 0, 60, .inl (fun _ => 0))), ((u_2.1 19), .inl (E 0, 60, .inl (fun _ => 0))), ((u_2.1 20), .inl (E 0, 60, .inl (fun _ => 0))), ((u_2.1 21), .inl (E 0, 60, .inl (fun _ => 0))), ((u_2.1 22), .inl (E 0, 60, .inl (fun _ => 0))), ((u_2.1 9), .inr (6, [.ref (u_2.1 23), .int 0, .ref (u_2.1 24), .ref (E 5), .int 0, .int 0, .int 0, .int 0])), ((u_2.1 23), .inl (E 0, 120, .inl (fun _ => 0))), ((u_2.1 24), .inr (4, [.ref (u_2.1 25), .ref (u_2.1 26), .ref (u_2.1 27), .int 0])), ((u_2.1 10), .inr (0, [.ref (u_2.1 28), .ref (u_2.1 29), .ref (u_2.1 30), .ref (u_2.1 31), .ref (u_2.1 32), .int 0, .int 0, .int 0, .int 0])), ((u_2.1 28), .inl (E 0, 9, .inl (fun _ => 0)))] H := hP
  have hD : va_D (fun q : Nat => s.heap.size ≤ q) [(q_1, .inr (8, xF u_2.1 0)), ((u_2.1 0), .inl (E 0, 400, .inl u_2.2.2)), ((u_2.1 1), .inl (E 0, 16, .inl (fun _ => -5))), ((u_2.1 2), .inl (E 0, 16, .inl (fun _ => 0))), ((u_2.1 3), .inl (E 3, 16, .inr (.inr (.inr (.inr (fun _ => none)))))), ((u_2.1 4), .inl (E 4, 5, .inr (.inr (.inr (.inr (fun j => some (u_2.1 (13 + j)))))))), ((u_2.1 13), .inr (5, sF (u_2.2.1 0))), ((u_2.1 14), .inr (5, sF (u_2.2.1 1))), ((u_2.1 15), .inr (5, sF (u_2.2.1 2))), ((u_2.1 16), .inr (5, sF (u_2.2.1 3))), ((u_2.1 17), .inr (5, sF (u_2.2.1 4))), ((u_2.1 6), .inr (2, [.ref (u_2.1 18), .ref (u_2.1 19), .ref (u_2.1 20), .ref (u_2.1 21), .ref (u_2.1 22), .int 0])), ((u_2.1 18), .inl (E 0, 60, .inl (fun _ => 0))), ((u_2.1 19), .inl (E 0, 60, .inl (fun _ => 0))), ((u_2.1 20), .inl (E 0, 60, .inl (fun _ => 0))), ((u_2.1 21), .inl (E 0, 60, .inl (fun _ => 0))), ((u_2.1 22), .inl (E 0, 60, .inl (fun _ => 0))), ((u_2.1 9), .inr (6, [.ref (u_2.1 23), .int 0, .ref (u_2.1 24), .ref (E 5), .int 0, .int 0, .int 0, .int 0])), ((u_2.1 23), .inl (E 0, 120, .inl (fun _ => 0))), ((u_2.1 24), .inr (4, [.ref (u_2.1 25), .ref (u_2.1 26), .ref (u_2.1 27), .int 0])), ((u_2.1 10), .inr (0, [.ref (u_2.1 28), .ref (u_2.1 29), .ref (u_2.1 30), .ref (u_2.1 31), .ref (u_2.1 32), .int 0, .int 0, .int 0, .int 0])), ((u_2.1 28), .inl (E 0, 9, .inl (fun _ => 0)))] := hD
  refine W.widen (k := 78) (n := 3173) (Nat.le_of_ble_eq_true rfl) (Nat.le_of_ble_eq_true rfl) ?_
  refine lv_astore_n (lv' := [(1, .ref q_1), (0, .ref b)]) hx hb dL_law_7 rfl hl (by decide) rfl (fun ls hl => ?_)
  refine va_new (ci := 9) (fs := [.int 0, .int 0, .null, .null, .null, .null, .null, .null, .null, .null, .null, .int 0, .null, .null, .null, .null, .null, .long 0, .long 0, .long 0, .long 0, .long 0, .long 0, .long 0, .long 0, .long 0, .long 0, .long 0, .int 0, .null, .null, .null, .null, .int 0, .null, .null, .null, .null, .int 0, .int 0, .int 0, .int 0, .int 0, .null, .int 0, .null, .null, .null, .null, .null, .null, .null, .null, .null, .null, .null, .null, .null, .null, .null, .null, .int 0, .null, .null, .int 0, .null, .null, .null]) (C := RX9) (T := TX9) (N := 68) hx hb htb iX9 tyX9 tyX9_ok hown (htb _ k_953) (htb _ k_954) (htb _ k_9) hK.1 hP hD hS hA rfl (by decide) (Nat.le_of_ble_eq_true rfl) (Nat.le_of_ble_eq_true rfl) dL_law_8 (fun q_5 H hP hD hS => ?_)
  have hP : va_P D vwCl [(q_1, .inr (8, xF u_2.1 0)), ((u_2.1 0), .inl (E 0, 400, .inl u_2.2.2)), ((u_2.1 1), .inl (E 0, 16, .inl (fun _ => -5))), ((u_2.1 2), .inl (E 0, 16, .inl (fun _ => 0))), ((u_2.1 3), .inl (E 3, 16, .inr (.inr (.inr (.inr (fun _ => none)))))), ((u_2.1 4), .inl (E 4, 5, .inr (.inr (.inr (.inr (fun j => some (u_2.1 (13 + j)))))))), ((u_2.1 13), .inr (5, sF (u_2.2.1 0))), ((u_2.1 14), .inr (5, sF (u_2.2.1 1))), ((u_2.1 15), .inr (5, sF (u_2.2.1 2))), ((u_2.1 16), .inr (5, sF (u_2.2.1 3))), ((u_2.1 17), .inr (5, sF (u_2.2.1 4))), ((u_2.1 6), .inr (2, [.ref (u_2.1 18), .ref (u_2.1 19), .ref (u_2.1 20), .ref (u_2.1 21), .ref (u_2.1 22), .int 0])), ((u_2.1 18), .inl (E 0, 60, .inl (fun _ => 0))), ((u_2.1 19), .inl (E 0, 60, .inl (fun _ => 0))), ((u_2.1 20), .inl (E 0, 60, .inl (fun _ => 0))), ((u_2.1 21), .inl (E 0, 60, .inl (fun _ => 0))), ((u_2.1 22), .inl (E 0, 60, .inl (fun _ => 0))), ((u_2.1 9), .inr (6, [.ref (u_2.1 23), .int 0, .ref (u_2.1 24), .ref (E 5), .int 0, .int 0, .int 0, .int 0])), ((u_2.1 23), .inl (E 0, 120, .inl (fun _ => 0))), ((u_2.1 24), .inr (4, [.ref (u_2.1 25), .ref (u_2.1 26), .ref (u_2.1 27), .int 0])), ((u_2.1 10), .inr (0, [.ref (u_2.1 28), .ref (u_2.1 29), .ref (u_2.1 30), .ref (u_2.1 31), .ref (u_2.1 32), .int 0, .int 0, .int 0, .int 0])), ((u_2.1 28), .inl (E 0, 9, .inl (fun _ => 0))), (q_5, .inr (9, [.int 0, .int 0, .null, .null, .null, .null, .null, .null, .null, .null, .null, .int 0, .null, .null, .null, .null, .null, .long 0, .long 0, .long 0, .long 0, .long 0, .long 0, .long 0, .long 0, .long 0, .long 0, .long 0, .int 0, .null, .null, .null, .null, .int 0, .null, .null, .null, .null, .int 0, .int 0, .int 0, .int 0, .int 0, .null, .int 0, .null, .null, .null, .null, .null, .null, .null, .null, .null, .null, .null, .null, .null, .null, .null, .null, .int 0, .null, .null, .int 0, .null, .null, .null]))] H := hP
  have hD : va_D (fun q : Nat => s.heap.size ≤ q) [(q_1, .inr (8, xF u_2.1 0)), ((u_2.1 0), .inl (E 0, 400, .inl u_2.2.2)), ((u_2.1 1), .inl (E 0, 16, .inl (fun _ => -5))), ((u_2.1 2), .inl (E 0, 16, .inl (fun _ => 0))), ((u_2.1 3), .inl (E 3, 16, .inr (.inr (.inr (.inr (fun _ => none)))))), ((u_2.1 4), .inl (E 4, 5, .inr (.inr (.inr (.inr (fun j => some (u_2.1 (13 + j)))))))), ((u_2.1 13), .inr (5, sF (u_2.2.1 0))), ((u_2.1 14), .inr (5, sF (u_2.2.1 1))), ((u_2.1 15), .inr (5, sF (u_2.2.1 2))), ((u_2.1 16), .inr (5, sF (u_2.2.1 3))), ((u_2.1 17), .inr (5, sF (u_2.2.1 4))), ((u_2.1 6), .inr (2, [.ref (u_2.1 18), .ref (u_2.1 19), .ref (u_2.1 20), .ref (u_2.1 21), .ref (u_2.1 22), .int 0])), ((u_2.1 18), .inl (E 0, 60, .inl (fun _ => 0))), ((u_2.1 19), .inl (E 0, 60, .inl (fun _ => 0))), ((u_2.1 20), .inl (E 0, 60, .inl (fun _ => 0))), ((u_2.1 21), .inl (E 0, 60, .inl (fun _ => 0))), ((u_2.1 22), .inl (E 0, 60, .inl (fun _ => 0))), ((u_2.1 9), .inr (6, [.ref (u_2.1 23), .int 0, .ref (u_2.1 24), .ref (E 5), .int 0, .int 0, .int 0, .int 0])), ((u_2.1 23), .inl (E 0, 120, .inl (fun _ => 0))), ((u_2.1 24), .inr (4, [.ref (u_2.1 25), .ref (u_2.1 26), .ref (u_2.1 27), .int 0])), ((u_2.1 10), .inr (0, [.ref (u_2.1 28), .ref (u_2.1 29), .ref (u_2.1 30), .ref (u_2.1 31), .ref (u_2.1 32), .int 0, .int 0, .int 0, .int 0])), ((u_2.1 28), .inl (E 0, 9, .inl (fun _ => 0))), (q_5, .inr (9, [.int 0, .int 0, .null, .null, .null, .null, .null, .null, .null, .null, .null, .int 0, .null, .null, .null, .null, .null, .long 0, .long 0, .long 0, .long 0, .long 0, .long 0, .long 0, .long 0, .long 0, .long 0, .long 0, .int 0, .null, .null, .null, .null, .int 0, .null, .null, .null, .null, .int 0, .int 0, .int 0, .int 0, .int 0, .null, .int 0, .null, .null, .null, .null, .null, .null, .null, .null, .null, .null, .null, .null, .null, .null, .null, .null, .int 0, .null, .null, .int 0, .null, .null, .null]))] := hD
  refine W.widen (k := 79) (n := 3241) (Nat.le_of_ble_eq_true rfl) (Nat.le_of_ble_eq_true rfl) ?_
  refine lv_dup hx hb dL_law_11 rfl ?_
  have hPc := hP.sub (ws' := [(q_5, .inr (9, [.int 0, .int 0, .null, .null, .null, .null, .null, .null, .null, .null, .null, .int 0, .null, .null, .null, .null, .null, .long 0, .long 0, .long 0, .long 0, .long 0, .long 0, .long 0, .long 0, .long 0, .long 0, .long 0, .int 0, .null, .null, .null, .null, .int 0, .null, .null, .null, .null, .int 0, .int 0, .int 0, .int 0, .int 0, .null, .int 0, .null, .null, .null, .null, .null, .null, .null, .null, .null, .null, .null, .null, .null, .null, .null, .null, .int 0, .null, .null, .int 0, .null, .null, .null]))]) [22] rfl
  have hDc := hD.sub (ws' := [(q_5, .inr (9, [.int 0, .int 0, .null, .null, .null, .null, .null, .null, .null, .null, .null, .int 0, .null, .null, .null, .null, .null, .long 0, .long 0, .long 0, .long 0, .long 0, .long 0, .long 0, .long 0, .long 0, .long 0, .long 0, .int 0, .null, .null, .null, .null, .int 0, .null, .null, .null, .null, .int 0, .int 0, .int 0, .int 0, .int 0, .null, .int 0, .null, .null, .null, .null, .null, .null, .null, .null, .null, .null, .null, .null, .null, .null, .null, .null, .int 0, .null, .null, .int 0, .null, .null, .null]))]) [22] (by decide) rfl
  refine aft_v (runMI (rest := [.ref q_5]) (As := []) hx hb hml hown htb hK (c_X9_init l D E q_5 _ ) ok_X9_init rfl k_955 k_956 k_9 k_957 ⟨(Nat.le_of_ble_eq_true rfl), (Nat.le_of_ble_eq_true rfl)⟩ ⟨(Nat.le_of_ble_eq_true rfl), (Nat.le_of_ble_eq_true rfl)⟩ hl.1 (Nat.le_of_ble_eq_true rfl) rfl rfl dL_law_12 hPc hDc) hP hD hS hA [22] [0, 1, 2, 3, 4, 5, 6, 7, 8, 9, 10, 11, 12, 13, 14, 15, 16, 17, 18, 19, 20, 21] (wr := [(q_1, .inr (8, xF u_2.1 0)), ((u_2.1 0), .inl (E 0, 400, .inl u_2.2.2)), ((u_2.1 1), .inl (E 0, 16, .inl (fun _ => -5))), ((u_2.1 2), .inl (E 0, 16, .inl (fun _ => 0))), ((u_2.1 3), .inl (E 3, 16, .inr (.inr (.inr (.inr (fun _ => none)))))), ((u_2.1 4), .inl (E 4, 5, .inr (.inr (.inr (.inr (fun j => some (u_2.1 (13 + j)))))))), ((u_2.1 13), .inr (5, sF (u_2.2.1 0))), ((u_2.1 14), .inr (5, sF (u_2.2.1 1))), ((u_2.1 15), .inr (5, sF (u_2.2.1 2))), ((u_2.1 16), .inr (5, sF (u_2.2.1 3))), ((u_2.1 17), .inr (5, sF (u_2.2.1 4))), ((u_2.1 6), .inr (2, [.ref (u_2.1 18), .ref (u_2.1 19), .ref (u_2.1 20), .ref (u_2.1 21), .ref (u_2.1 22), .int 0])), ((u_2.1 18), .inl (E 0, 60, .inl (fun _ => 0))), ((u_2.1 19), .inl (E 0, 60, .inl (fun _ => 0))), ((u_2.1 20), .inl (E 0, 60, .inl (fun _ => 0))), ((u_2.1 21), .inl (E 0, 60, .inl (fun _ => 0))), ((u_2.1 22), .inl (E 0, 60, .inl (fun _ => 0))), ((u_2.1 9), .inr (6, [.ref (u_2.1 23), .int 0, .ref (u_2.1 24), .ref (E 5), .int 0, .int 0, .int 0, .int 0])), ((u_2.1 23), .inl (E 0, 120, .inl (fun _ => 0))), ((u_2.1 24), .inr (4, [.ref (u_2.1 25), .ref (u_2.1 26), .ref (u_2.1 27), .int 0])), ((u_2.1 10), .inr (0, [.ref (u_2.1 28), .ref (u_2.1 29), .ref (u_2.1 30), .ref (u_2.1 31), .ref (u_2.1 32), .int 0, .int 0, .int 0, .int 0])), ((u_2.1 28), .inl (E 0, 9, .inl (fun _ => 0)))]) rfl rfl (by decide) (by decide) (fun u_6 H locs hw_7 hP hD hS => ?_)
  clear hPc hDc
  have hP : va_P D vwCl [(q_1, .inr (8, xF u_2.1 0)), ((u_2.1 0), .inl (E 0, 400, .inl u_2.2.2)), ((u_2.1 1), .inl (E 0, 16, .inl (fun _ => -5))), ((u_2.1 2), .inl (E 0, 16, .inl (fun _ => 0))), ((u_2.1 3), .inl (E 3, 16, .inr (.inr (.inr (.inr (fun _ => none)))))), ((u_2.1 4), .inl (E 4, 5, .inr (.inr (.inr (.inr (fun j => some (u_2.1 (13 + j)))))))), ((u_2.1 13), .inr (5, sF (u_2.2.1 0))), ((u_2.1 14), .inr (5, sF (u_2.2.1 1))), ((u_2.1 15), .inr (5, sF (u_2.2.1 2))), ((u_2.1 16), .inr (5, sF (u_2.2.1 3))), ((u_2.1 17), .inr (5, sF (u_2.2.1 4))), ((u_2.1 6), .inr (2, [.ref (u_2.1 18), .ref (u_2.1 19), .ref (u_2.1 20), .ref (u_2.1 21), .ref (u_2.1 22), .int 0])), ((u_2.1 18), .inl (E 0, 60, .inl (fun _ => 0))), ((u_2.1 19), .inl (E 0, 60, .inl (fun _ => 0))), ((u_2.1 20), .inl (E 0, 60, .inl (fun _ => 0))), ((u_2.1 21), .inl (E 0, 60, .inl (fun _ => 0))), ((u_2.1 22), .inl (E 0, 60, .inl (fun _ => 0))), ((u_2.1 9), .inr (6, [.ref (u_2.1 23), .int 0, .ref (u_2.1 24), .ref (E 5), .int 0, .int 0, .int 0, .int 0])), ((u_2.1 23), .inl (E 0, 120, .inl (fun _ => 0))), ((u_2.1 24), .inr (4, [.ref (u_2.1 25), .ref (u_2.1 26), .ref (u_2.1 27), .int 0])), ((u_2.1 10), .inr (0, [.ref (u_2.1 28), .ref (u_2.1 29), .ref (u_2.1 30), .ref (u_2.1 31), .ref (u_2.1 32), .int 0, .int 0, .int 0, .int 0])), ((u_2.1 28), .inl (E 0, 9, .inl (fun _ => 0))), (q_5, .inr (9, mF u_6.1 0 0 0 0 0 0 0 0 0)), ((u_6.1 2), .inl (E 0, 400, .inl u_6.2)), ((u_6.1 3), .inl (E 0, 16, .inl (fun _ => -5))), ((u_6.1 4), .inl (E 0, 16, .inl (fun _ => 0))), ((u_6.1 5), .inl (E 1, 6400, .inl (fun _ => 0))), ((u_6.1 8), .inl (E 1, 6400, .inl (fun _ => 0))), ((u_6.1 9), .inl (E 1, 6400, .inl (fun _ => 0))), ((u_6.1 10), .inl (E 0, 6400, .inl (fun _ => 0))), ((u_6.1 12), .inl (E 0, 60, .inl (fun _ => 0))), ((u_6.1 13), .inl (E 0, 60, .inl (fun _ => 0))), ((u_6.1 14), .inl (E 0, 60, .inl (fun _ => 0))), ((u_6.1 15), .inl (E 0, 60, .inl (fun _ => 0))), ((u_6.1 16), .inl (E 0, 60, .inl (fun _ => 0))), ((u_6.1 32), .inl (E 2, 120, .inl (fun _ => 0))), ((u_6.1 47), .inl (E 0, 5, .inl (fun _ => 0))), ((u_6.1 55), .inl (E 0, 5, .inl (fun _ => 0))), ((u_6.1 58), .inl (E 0, 3, .inl (fun _ => 0))), ((u_6.1 62), .inl (E 0, 9, .inl (fun _ => 0)))] H := hP
  have hD : va_D (fun q : Nat => s.heap.size ≤ q) [(q_1, .inr (8, xF u_2.1 0)), ((u_2.1 0), .inl (E 0, 400, .inl u_2.2.2)), ((u_2.1 1), .inl (E 0, 16, .inl (fun _ => -5))), ((u_2.1 2), .inl (E 0, 16, .inl (fun _ => 0))), ((u_2.1 3), .inl (E 3, 16, .inr (.inr (.inr (.inr (fun _ => none)))))), ((u_2.1 4), .inl (E 4, 5, .inr (.inr (.inr (.inr (fun j => some (u_2.1 (13 + j)))))))), ((u_2.1 13), .inr (5, sF (u_2.2.1 0))), ((u_2.1 14), .inr (5, sF (u_2.2.1 1))), ((u_2.1 15), .inr (5, sF (u_2.2.1 2))), ((u_2.1 16), .inr (5, sF (u_2.2.1 3))), ((u_2.1 17), .inr (5, sF (u_2.2.1 4))), ((u_2.1 6), .inr (2, [.ref (u_2.1 18), .ref (u_2.1 19), .ref (u_2.1 20), .ref (u_2.1 21), .ref (u_2.1 22), .int 0])), ((u_2.1 18), .inl (E 0, 60, .inl (fun _ => 0))), ((u_2.1 19), .inl (E 0, 60, .inl (fun _ => 0))), ((u_2.1 20), .inl (E 0, 60, .inl (fun _ => 0))), ((u_2.1 21), .inl (E 0, 60, .inl (fun _ => 0))), ((u_2.1 22), .inl (E 0, 60, .inl (fun _ => 0))), ((u_2.1 9), .inr (6, [.ref (u_2.1 23), .int 0, .ref (u_2.1 24), .ref (E 5), .int 0, .int 0, .int 0, .int 0])), ((u_2.1 23), .inl (E 0, 120, .inl (fun _ => 0))), ((u_2.1 24), .inr (4, [.ref (u_2.1 25), .ref (u_2.1 26), .ref (u_2.1 27), .int 0])), ((u_2.1 10), .inr (0, [.ref (u_2.1 28), .ref (u_2.1 29), .ref (u_2.1 30), .ref (u_2.1 31), .ref (u_2.1 32), .int 0, .int 0, .int 0, .int 0])), ((u_2.1 28), .inl (E 0, 9, .inl (fun _ => 0))), (q_5, .inr (9, mF u_6.1 0 0 0 0 0 0 0 0 0)), ((u_6.1 2), .inl (E 0, 400, .inl u_6.2)), ((u_6.1 3), .inl (E 0, 16, .inl (fun _ => -5))), ((u_6.1 4), .inl (E 0, 16, .inl (fun _ => 0))), ((u_6.1 5), .inl (E 1, 6400, .inl (fun _ => 0))), ((u_6.1 8), .inl (E 1, 6400, .inl (fun _ => 0))), ((u_6.1 9), .inl (E 1, 6400, .inl (fun _ => 0))), ((u_6.1 10), .inl (E 0, 6400, .inl (fun _ => 0))), ((u_6.1 12), .inl (E 0, 60, .inl (fun _ => 0))), ((u_6.1 13), .inl (E 0, 60, .inl (fun _ => 0))), ((u_6.1 14), .inl (E 0, 60, .inl (fun _ => 0))), ((u_6.1 15), .inl (E 0, 60, .inl (fun _ => 0))), ((u_6.1 16), .inl (E 0, 60, .inl (fun _ => 0))), ((u_6.1 32), .inl (E 2, 120, .inl (fun _ => 0))), ((u_6.1 47), .inl (E 0, 5, .inl (fun _ => 0))), ((u_6.1 55), .inl (E 0, 5, .inl (fun _ => 0))), ((u_6.1 58), .inl (E 0, 3, .inl (fun _ => 0))), ((u_6.1 62), .inl (E 0, 9, .inl (fun _ => 0)))] := hD
  refine W.widen (k := 123) (n := 44666) (Nat.le_of_ble_eq_true rfl) (Nat.le_of_ble_eq_true rfl) ?_
  refine lv_astore_n (lv' := [(2, .ref q_5), (1, .ref q_1), (0, .ref b)]) hx hb dL_law_15 rfl hl (by decide) rfl (fun ls hl => ?_)
  refine lv_iconst (v := 0) hx hb dL_law_16 (by decide) ?_
  refine lv_istore_n (lv' := [(3, .int 0), (2, .ref q_5), (1, .ref q_1), (0, .ref b)]) hx hb dL_law_17 rfl hl (by decide) rfl (fun ls hl => ?_)
  rcases (show L = 0 ∨ L = 1 ∨ L = 2 ∨ L = 3 ∨ L = 4 ∨ L = 5 ∨ L = 6 by omega) with rfl | rfl | rfl | rfl | rfl | rfl | rfl
  ·
    refine lv_iload_n hx hb dL_law_18 rfl (lv_at hl 0 rfl) ?_
    refine lv_aload_n hx hb dL_law_19 rfl (lv_at hl 3 rfl) ?_
    refine va_slen hx hb hX hbl hbA hS dL_law_20 ?_
    refine W_top (y := .int 0) (by decide) ?_
    refine lv_bipush (v := 6) hx hb dL_law_21 (by decide) ?_
    refine lv_isub hx hb dL_law_23 ?_
    refine W_top (y := .int (-6)) (by decide) ?_
    refine lv_icmp_gt (tgt := 1556) hx hb dL_law_24 (by decide) (fun c_9 => ?_) (fun c_9 => absurd (by decide) c_9)
    refine lv_iconst (v := 1) hx hb dL_law_1556 (by decide) ?_
    refine va_forget (fun q hq => hS.2.2 q hq) ?_
    refine W.widen (k := 600000) (n := 7302250) (Nat.le_of_ble_eq_true rfl) (Nat.le_of_ble_eq_true rfl) ?_
    exact lw_ret hx hb hr hlocks dL_law_1557
  ·
    refine lv_iload_n hx hb dL_law_18 rfl (lv_at hl 0 rfl) ?_
    refine lv_aload_n hx hb dL_law_19 rfl (lv_at hl 3 rfl) ?_
    refine va_slen hx hb hX hbl hbA hS dL_law_20 ?_
    refine W_top (y := .int 1) (by decide) ?_
    refine lv_bipush (v := 6) hx hb dL_law_21 (by decide) ?_
    refine lv_isub hx hb dL_law_23 ?_
    refine W_top (y := .int (-5)) (by decide) ?_
    refine lv_icmp_gt (tgt := 1556) hx hb dL_law_24 (by decide) (fun c_10 => ?_) (fun c_10 => absurd (by decide) c_10)
    refine lv_iconst (v := 1) hx hb dL_law_1556 (by decide) ?_
    refine va_forget (fun q hq => hS.2.2 q hq) ?_
    refine W.widen (k := 600000) (n := 7302250) (Nat.le_of_ble_eq_true rfl) (Nat.le_of_ble_eq_true rfl) ?_
    exact lw_ret hx hb hr hlocks dL_law_1557
  ·
    refine lv_iload_n hx hb dL_law_18 rfl (lv_at hl 0 rfl) ?_
    refine lv_aload_n hx hb dL_law_19 rfl (lv_at hl 3 rfl) ?_
    refine va_slen hx hb hX hbl hbA hS dL_law_20 ?_
    refine W_top (y := .int 2) (by decide) ?_
    refine lv_bipush (v := 6) hx hb dL_law_21 (by decide) ?_
    refine lv_isub hx hb dL_law_23 ?_
    refine W_top (y := .int (-4)) (by decide) ?_
    refine lv_icmp_gt (tgt := 1556) hx hb dL_law_24 (by decide) (fun c_11 => ?_) (fun c_11 => absurd (by decide) c_11)
    refine lv_iconst (v := 1) hx hb dL_law_1556 (by decide) ?_
    refine va_forget (fun q hq => hS.2.2 q hq) ?_
    refine W.widen (k := 600000) (n := 7302250) (Nat.le_of_ble_eq_true rfl) (Nat.le_of_ble_eq_true rfl) ?_
    exact lw_ret hx hb hr hlocks dL_law_1557
  ·
    refine lv_iload_n hx hb dL_law_18 rfl (lv_at hl 0 rfl) ?_
    refine lv_aload_n hx hb dL_law_19 rfl (lv_at hl 3 rfl) ?_
    refine va_slen hx hb hX hbl hbA hS dL_law_20 ?_
    refine W_top (y := .int 3) (by decide) ?_
    refine lv_bipush (v := 6) hx hb dL_law_21 (by decide) ?_
    refine lv_isub hx hb dL_law_23 ?_
    refine W_top (y := .int (-3)) (by decide) ?_
    refine lv_icmp_gt (tgt := 1556) hx hb dL_law_24 (by decide) (fun c_12 => ?_) (fun c_12 => absurd (by decide) c_12)
    refine lv_iconst (v := 1) hx hb dL_law_1556 (by decide) ?_
    refine va_forget (fun q hq => hS.2.2 q hq) ?_
    refine W.widen (k := 600000) (n := 7302250) (Nat.le_of_ble_eq_true rfl) (Nat.le_of_ble_eq_true rfl) ?_
    exact lw_ret hx hb hr hlocks dL_law_1557
  ·
    refine lv_iload_n hx hb dL_law_18 rfl (lv_at hl 0 rfl) ?_
    refine lv_aload_n hx hb dL_law_19 rfl (lv_at hl 3 rfl) ?_
    refine va_slen hx hb hX hbl hbA hS dL_law_20 ?_
    refine W_top (y := .int 4) (by decide) ?_
    refine lv_bipush (v := 6) hx hb dL_law_21 (by decide) ?_
    refine lv_isub hx hb dL_law_23 ?_
    refine W_top (y := .int (-2)) (by decide) ?_
    refine lv_icmp_gt (tgt := 1556) hx hb dL_law_24 (by decide) (fun c_13 => ?_) (fun c_13 => absurd (by decide) c_13)
    refine lv_iconst (v := 1) hx hb dL_law_1556 (by decide) ?_
    refine va_forget (fun q hq => hS.2.2 q hq) ?_
    refine W.widen (k := 600000) (n := 7302250) (Nat.le_of_ble_eq_true rfl) (Nat.le_of_ble_eq_true rfl) ?_
    exact lw_ret hx hb hr hlocks dL_law_1557
  ·
    refine lv_iload_n hx hb dL_law_18 rfl (lv_at hl 0 rfl) ?_
    refine lv_aload_n hx hb dL_law_19 rfl (lv_at hl 3 rfl) ?_
    refine va_slen hx hb hX hbl hbA hS dL_law_20 ?_
    refine W_top (y := .int 5) (by decide) ?_
    refine lv_bipush (v := 6) hx hb dL_law_21 (by decide) ?_
    refine lv_isub hx hb dL_law_23 ?_
    refine W_top (y := .int (-1)) (by decide) ?_
    refine lv_icmp_gt (tgt := 1556) hx hb dL_law_24 (by decide) (fun c_14 => ?_) (fun c_14 => absurd (by decide) c_14)
    refine lv_iconst (v := 1) hx hb dL_law_1556 (by decide) ?_
    refine va_forget (fun q hq => hS.2.2 q hq) ?_
    refine W.widen (k := 600000) (n := 7302250) (Nat.le_of_ble_eq_true rfl) (Nat.le_of_ble_eq_true rfl) ?_
    exact lw_ret hx hb hr hlocks dL_law_1557
  ·
    refine lv_iload_n hx hb dL_law_18 rfl (lv_at hl 0 rfl) ?_
    refine lv_aload_n hx hb dL_law_19 rfl (lv_at hl 3 rfl) ?_
    refine va_slen hx hb hX hbl hbA hS dL_law_20 ?_
    refine W_top (y := .int 6) (by decide) ?_
    refine lv_bipush (v := 6) hx hb dL_law_21 (by decide) ?_
    refine lv_isub hx hb dL_law_23 ?_
    refine W_top (y := .int 0) (by decide) ?_
    refine lv_icmp_gt (tgt := 1556) hx hb dL_law_24 (by decide) (fun c_15 => absurd c_15 (by decide)) (fun c_15 => ?_)
    refine lv_aload_n hx hb dL_law_27 rfl (lv_at hl 3 rfl) ?_
    refine lv_iload_n hx hb dL_law_28 rfl (lv_at hl 0 rfl) ?_
    refine va_sld hx hb hX hbl hbA hS (g_in t_0 (by decide) (by decide)) dL_law_29 ?_
    refine W_top (y := .int (xs 0)) (congrArg (fun n => Value.int (xs n)) (by decide : (0 : Int32).toNatClampNeg = 0)) ?_
    refine lv_bipush (v := 63) hx hb dL_law_30 (by decide) ?_
    refine lv_iand hx hb dL_law_32 ?_
    refine lv_topi (fun z_16 ez_16 => ?_)
    by_cases h_17 : z_16.toInt < 0 ∨ 35 < z_16.toInt
    · refine lv_tableOut (tgt := 1550) hx hb dL_law_33 h_17 (by decide) ?_
      exact law_end hx hb hr hml hown htb hX hbl hlocks hS (lv_sub hl [0, 3] rfl) (Nat.le_of_ble_eq_true rfl) (Nat.le_of_ble_eq_true rfl)
    ·
      have hP := hP.sub (ws' := LW E q_1 u_2.1 u_2.2.1 u_2.2.2 q_5 u_6.1 u_6.2) [0, 1, 2, 3, 4, 5, 6, 7, 8, 9, 10, 11, 12, 13, 14, 15, 16, 17, 18, 19, 20, 21, 22, 23, 24, 25, 26, 27, 28, 29, 30, 31, 32, 33, 34, 35, 36, 37, 38, 39] rfl
      have hD := hD.sub (ws' := LW E q_1 u_2.1 u_2.2.1 u_2.2.2 q_5 u_6.1 u_6.2) [0, 1, 2, 3, 4, 5, 6, 7, 8, 9, 10, 11, 12, 13, 14, 15, 16, 17, 18, 19, 20, 21, 22, 23, 24, 25, 26, 27, 28, 29, 30, 31, 32, 33, 34, 35, 36, 37, 38, 39] (by decide) rfl
      have hl := lv_sub hl [0, 1, 2, 3] rfl (l' := [(3, .int 0), (2, .ref q_5), (1, .ref q_1), (0, .ref b)])
      have h_18 : z_16.toInt = 0 ∨ z_16.toInt = 1 ∨ z_16.toInt = 2 ∨ z_16.toInt = 3 ∨ z_16.toInt = 4 ∨ z_16.toInt = 5 ∨ z_16.toInt = 6 ∨ z_16.toInt = 7 ∨ z_16.toInt = 8 ∨ z_16.toInt = 9 ∨ z_16.toInt = 10 ∨ z_16.toInt = 11 ∨ z_16.toInt = 12 ∨ z_16.toInt = 13 ∨ z_16.toInt = 14 ∨ z_16.toInt = 15 ∨ z_16.toInt = 16 ∨ z_16.toInt = 17 ∨ z_16.toInt = 18 ∨ z_16.toInt = 19 ∨ z_16.toInt = 20 ∨ z_16.toInt = 21 ∨ z_16.toInt = 22 ∨ z_16.toInt = 23 ∨ z_16.toInt = 24 ∨ z_16.toInt = 25 ∨ z_16.toInt = 26 ∨ z_16.toInt = 27 ∨ z_16.toInt = 28 ∨ z_16.toInt = 29 ∨ z_16.toInt = 30 ∨ z_16.toInt = 31 ∨ z_16.toInt = 32 ∨ z_16.toInt = 33 ∨ z_16.toInt = 34 ∨ z_16.toInt = 35 := by omega
      rcases h_18 with h_18 | h_18 | h_18 | h_18 | h_18 | h_18 | h_18 | h_18 | h_18 | h_18 | h_18 | h_18 | h_18 | h_18 | h_18 | h_18 | h_18 | h_18 | h_18 | h_18 | h_18 | h_18 | h_18 | h_18 | h_18 | h_18 | h_18 | h_18 | h_18 | h_18 | h_18 | h_18 | h_18 | h_18 | h_18 | h_18
      · refine lv_tableIn (off := 159) (tgt := 192) hx hb dL_law_33 (by omega) (by omega) (by rw [h_18]; decide) (by decide) ?_
        exact law_0 hx hb hr hml hown htb hK hX hbl hlocks hP hD hS hl
      · refine lv_tableIn (off := 182) (tgt := 215) hx hb dL_law_33 (by omega) (by omega) (by rw [h_18]; decide) (by decide) ?_
        exact law_1 hx hb hr hml hown htb hK hX hbl hlocks hP hD hS hl
      · refine lv_tableIn (off := 215) (tgt := 248) hx hb dL_law_33 (by omega) (by omega) (by rw [h_18]; decide) (by decide) ?_
        exact law_2 hx hb hr hml hown htb hK hX hbl hlocks hP hD hS hl
      · refine lv_tableIn (off := 258) (tgt := 291) hx hb dL_law_33 (by omega) (by omega) (by rw [h_18]; decide) (by decide) ?_
        exact law_3 hx hb hr hml hown htb hK hX hbl hlocks hP hD hS hl
      · refine lv_tableIn (off := 281) (tgt := 314) hx hb dL_law_33 (by omega) (by omega) (by rw [h_18]; decide) (by decide) ?_
        exact law_4 hx hb hr hml hown htb hK hX hbl hlocks hP hD hS hl
      · refine lv_tableIn (off := 304) (tgt := 337) hx hb dL_law_33 (by omega) (by omega) (by rw [h_18]; decide) (by decide) ?_
        exact law_5 hx hb hr hml hown htb hK hX hbl hlocks hP hD hS hl
      · refine lv_tableIn (off := 327) (tgt := 360) hx hb dL_law_33 (by omega) (by omega) (by rw [h_18]; decide) (by decide) ?_
        exact law_6 hx hb hr hml hown htb hK hX hbl hlocks hP hD hS hl
      · refine lv_tableIn (off := 380) (tgt := 413) hx hb dL_law_33 (by omega) (by omega) (by rw [h_18]; decide) (by decide) ?_
        exact law_7 hx hb hr hml hown htb hK hX hbl hlocks hP hD hS hl
      · refine lv_tableIn (off := 423) (tgt := 456) hx hb dL_law_33 (by omega) (by omega) (by rw [h_18]; decide) (by decide) ?_
        exact law_8 hx hb hr hml hown htb hK hX hbl hlocks hP hD hS hl
      · refine lv_tableIn (off := 466) (tgt := 499) hx hb dL_law_33 (by omega) (by omega) (by rw [h_18]; decide) (by decide) ?_
        exact law_9 hx hb hr hml hown htb hK hX hbl hlocks hP hD hS hl
      · refine lv_tableIn (off := 499) (tgt := 532) hx hb dL_law_33 (by omega) (by omega) (by rw [h_18]; decide) (by decide) ?_
        exact law_10 hx hb hr hml hown htb hK hX hbl hlocks hP hD hS hl
      · refine lv_tableIn (off := 532) (tgt := 565) hx hb dL_law_33 (by omega) (by omega) (by rw [h_18]; decide) (by decide) ?_
        exact law_11 hx hb hr hml hown htb hK hX hbl hlocks hP hD hS hl
      · refine lv_tableIn (off := 565) (tgt := 598) hx hb dL_law_33 (by omega) (by omega) (by rw [h_18]; decide) (by decide) ?_
        exact law_12 hx hb hr hml hown htb hK hX hbl hlocks hP hD hS hl
      · refine lv_tableIn (off := 618) (tgt := 651) hx hb dL_law_33 (by omega) (by omega) (by rw [h_18]; decide) (by decide) ?_
        exact law_13 hx hb hr hml hown htb hK hX hbl hlocks hP hD hS hl
      · refine lv_tableIn (off := 671) (tgt := 704) hx hb dL_law_33 (by omega) (by omega) (by rw [h_18]; decide) (by decide) ?_
        exact law_14 hx hb hr hml hown htb hK hX hbl hlocks hP hD hS hl
      · refine lv_tableIn (off := 714) (tgt := 747) hx hb dL_law_33 (by omega) (by omega) (by rw [h_18]; decide) (by decide) ?_
        exact law_15 hx hb hr hml hown htb hK hX hbl hlocks hP hD hS hl
      · refine lv_tableIn (off := 757) (tgt := 790) hx hb dL_law_33 (by omega) (by omega) (by rw [h_18]; decide) (by decide) ?_
        exact law_16 hx hb hr hml hown htb hK hX hbl hlocks hP hD hS hl
      · refine lv_tableIn (off := 820) (tgt := 853) hx hb dL_law_33 (by omega) (by omega) (by rw [h_18]; decide) (by decide) ?_
        exact law_17 hx hb hr hml hown htb hK hX hbl hlocks hP hD hS hl
      · refine lv_tableIn (off := 873) (tgt := 906) hx hb dL_law_33 (by omega) (by omega) (by rw [h_18]; decide) (by decide) ?_
        exact law_18 hx hb hr hml hown htb hK hX hbl hlocks hP hD hS hl
      · refine lv_tableIn (off := 906) (tgt := 939) hx hb dL_law_33 (by omega) (by omega) (by rw [h_18]; decide) (by decide) ?_
        exact law_19 hx hb hr hml hown htb hK hX hbl hlocks hP hD hS hl
      · refine lv_tableIn (off := 929) (tgt := 962) hx hb dL_law_33 (by omega) (by omega) (by rw [h_18]; decide) (by decide) ?_
        exact law_20 hx hb hr hml hown htb hK hX hbl hlocks hP hD hS hl
      · refine lv_tableIn (off := 972) (tgt := 1005) hx hb dL_law_33 (by omega) (by omega) (by rw [h_18]; decide) (by decide) ?_
        exact law_21 hx hb hr hml hown htb hK hX hbl hlocks hP hD hS hl
      · refine lv_tableIn (off := 1015) (tgt := 1048) hx hb dL_law_33 (by omega) (by omega) (by rw [h_18]; decide) (by decide) ?_
        exact law_22 hx hb hr hml hown htb hK hX hbl hlocks hP hD hS hl
      · refine lv_tableIn (off := 1068) (tgt := 1101) hx hb dL_law_33 (by omega) (by omega) (by rw [h_18]; decide) (by decide) ?_
        exact law_23 hx hb hr hml hown htb hK hX hbl hlocks hP hD hS hl
      · refine lv_tableIn (off := 1111) (tgt := 1144) hx hb dL_law_33 (by omega) (by omega) (by rw [h_18]; decide) (by decide) ?_
        exact law_24 hx hb hr hml hown htb hK hX hbl hlocks hP hD hS hl
      · refine lv_tableIn (off := 1174) (tgt := 1207) hx hb dL_law_33 (by omega) (by omega) (by rw [h_18]; decide) (by decide) ?_
        exact law_25 hx hb hr hml hown htb hK hX hbl hlocks hP hD hS hl
      · refine lv_tableIn (off := 1217) (tgt := 1250) hx hb dL_law_33 (by omega) (by omega) (by rw [h_18]; decide) (by decide) ?_
        exact law_26 hx hb hr hml hown htb hK hX hbl hlocks hP hD hS hl
      · refine lv_tableIn (off := 1270) (tgt := 1303) hx hb dL_law_33 (by omega) (by omega) (by rw [h_18]; decide) (by decide) ?_
        exact law_27 hx hb hr hml hown htb hK hX hbl hlocks hP hD hS hl
      · refine lv_tableIn (off := 1293) (tgt := 1326) hx hb dL_law_33 (by omega) (by omega) (by rw [h_18]; decide) (by decide) ?_
        exact law_28 hx hb hr hml hown htb hK hX hbl hlocks hP hD hS hl
      · refine lv_tableIn (off := 1316) (tgt := 1349) hx hb dL_law_33 (by omega) (by omega) (by rw [h_18]; decide) (by decide) ?_
        exact law_29 hx hb hr hml hown htb hK hX hbl hlocks hP hD hS hl
      · refine lv_tableIn (off := 1359) (tgt := 1392) hx hb dL_law_33 (by omega) (by omega) (by rw [h_18]; decide) (by decide) ?_
        exact law_30 hx hb hr hml hown htb hK hX hbl hlocks hP hD hS hl
      · refine lv_tableIn (off := 1382) (tgt := 1415) hx hb dL_law_33 (by omega) (by omega) (by rw [h_18]; decide) (by decide) ?_
        exact law_31 hx hb hr hml hown htb hK hX hbl hlocks hP hD hS hl
      · refine lv_tableIn (off := 1415) (tgt := 1448) hx hb dL_law_33 (by omega) (by omega) (by rw [h_18]; decide) (by decide) ?_
        exact law_32 hx hb hr hml hown htb hK hX hbl hlocks hP hD hS hl
      · refine lv_tableIn (off := 1438) (tgt := 1471) hx hb dL_law_33 (by omega) (by omega) (by rw [h_18]; decide) (by decide) ?_
        exact law_33 hx hb hr hml hown htb hK hX hbl hlocks hP hD hS hl
      · refine lv_tableIn (off := 1471) (tgt := 1504) hx hb dL_law_33 (by omega) (by omega) (by rw [h_18]; decide) (by decide) ?_
        exact law_34 hx hb hr hml hown htb hK hX hbl hlocks hP hD hS hl
      · refine lv_tableIn (off := 1494) (tgt := 1527) hx hb dL_law_33 (by omega) (by omega) (by rw [h_18]; decide) (by decide) ?_
        exact law_35 hx hb hr hml hown htb hK hX hbl hlocks hP hD hS hl
