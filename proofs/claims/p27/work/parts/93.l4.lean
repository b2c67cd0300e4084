def tmS (i : Nat) : Term := match i with
  | 0 => .string "SeaWatches" 182
  | _ => .string "SeaWatches" 184
def byS : List (List Int32) := [[111, 114, 32, 97, 110, 100, 32, 110, 111, 116, 32, 97, 98, 115, 32, 100, 97, 121, 115, 32, 108, 101, 97, 115, 116, 32, 109, 111, 115, 116, 32, 115, 112, 97, 110, 32, 103, 97, 112, 115, 32, 106, 117, 109, 112, 32, 100, 114, 105, 102, 116, 32, 115, 117, 109, 32, 119, 97, 114, 109], [111, 114, 32, 97, 110, 100, 32, 110, 111, 116, 32, 97, 98, 115, 32, 111, 102, 102, 32, 100, 111, 117, 98, 116, 32, 100, 97, 121, 115, 32, 119, 104, 105, 99, 104]]
def lnS : List Nat := [60, 35]
set_option maxHeartbeats 4000000 in
set_option maxRecDepth 100000 in
theorem elS0 : ∀ j : Nat, j < 60 → Cond.eq (.elem (.field (tmS 0) "java/lang/String" "value" "[B") (.int (Int32.ofNat j))) (.int ((byS.getD 0 []).getD j 0)) ∈ flatC (Jvm.Cond.and given_1 narrow_1) := by decide +kernel
set_option maxHeartbeats 4000000 in
set_option maxRecDepth 100000 in
theorem elS1 : ∀ j : Nat, j < 35 → Cond.eq (.elem (.field (tmS 1) "java/lang/String" "value" "[B") (.int (Int32.ofNat j))) (.int ((byS.getD 1 []).getD j 0)) ∈ flatC (Jvm.Cond.and given_1 narrow_1) := by decide +kernel
set_option maxHeartbeats 4000000 in
set_option maxRecDepth 100000 in
/-- the context at the law's start -/
theorem law_K {p : Program} {s : State} {m : MethodId} {meth : Method} {c : Code} {b L : Nat} {xs : Nat → Int32} (C0 : lw_At p s m meth c b L xs) : ∃ (D : va_G) (E : Nat → Nat), KX D E s ∧ SGs [((E 6), (E 8), 60, tw6), ((E 7), (E 9), 35, tw7)] (fun q : Nat => s.heap.size ≤ q) s s.heap := by
  obtain ⟨hx, hb, hr, hml, hown, hts, hX, hbl, hlocks, hgv⟩ := C0
  have htb : ∀ w ∈ tb, w.before #[Value.ref b] s = true := fun w h => hts w (tb_in h)
  have hs := flat_of_before _ hgv
  have hA : ∀ a : Nat, a < s.heap.size → ¬ (fun q : Nat => s.heap.size ≤ q) a := fun a h => Nat.not_le.mpr h
  obtain ⟨c0, iS0, hK0⟩ := u_known (C := RX0) (T := TX0) (N := 9) (n := 9) htb iX0 (htb _ k_185)
  obtain ⟨c1, iS1, hK1⟩ := u_known (C := RX1) (T := TX1) (N := 15) (n := 15) htb iX1 (htb _ k_78)
  obtain ⟨c2, iS2, hK2⟩ := u_known (C := RX2) (T := TX2) (N := 6) (n := 6) htb iX2 (htb _ k_29)
  obtain ⟨c3, iS3, hK3⟩ := u_known (C := RX3) (T := TX3) (N := 4) (n := 4) htb iX3 (htb _ k_56)
  obtain ⟨c4, iS4, hK4⟩ := u_known (C := RX4) (T := TX4) (N := 4) (n := 4) htb iX4 (htb _ k_136)
  obtain ⟨c5, iS5, hK5⟩ := u_known (C := RX5) (T := TX5) (N := 11) (n := 11) htb iX5 (htb _ k_223)
  obtain ⟨c6, iS6, hK6⟩ := u_known (C := RX6) (T := TX6) (N := 8) (n := 8) htb iX6 (htb _ k_130)
  obtain ⟨c7, iS7, hK7⟩ := u_known (C := RX7) (T := TX7) (N := 4) (n := 4) htb iX7 (htb _ k_343)
  obtain ⟨c8, iS8, hK8⟩ := u_known (C := RX8) (T := TX8) (N := 14) (n := 14) htb iX8 (htb _ k_17)
  obtain ⟨c9, iS9, hK9⟩ := u_known (C := RX9) (T := TX9) (N := 68) (n := 68) htb iX9 (htb _ k_954)
  obtain ⟨e0, ka0, co0, f0a, f0b, f0c⟩ := Cond.arrayClass_spec (htb _ k_54)
  obtain ⟨e1, ka1, co1, f1a, f1b, f1c⟩ := Cond.arrayClass_spec (htb _ k_1163)
  obtain ⟨e2, ka2, co2, f2a, f2b, f2c⟩ := Cond.arrayClass_spec (htb _ k_183)
  obtain ⟨co3, e3, ka3, f3d, -, f3b, f3c, f3a⟩ := Cond.arrayOver_spec (hts _ ao_0)
  obtain ⟨co4, e4, ka4, f4d, -, f4b, f4c, f4a⟩ := Cond.arrayOver_spec (hts _ ao_1)
  obtain ⟨e5, _, _, _, g0, -⟩ := Cond.exactly_spec (args := #[Value.ref b]) (first := s) (o := none) (s := s) (idx := []) (t := Term.string "SeaWatches$Tape" 26) (cls := "java/lang/String") (hs _ (by decide +kernel))
  obtain ⟨aK, aV, hSt, hev⟩ := vk_Sof (N := 2) (tm := tmS) (len := lnS) (byt := byS) (A := (fun q : Nat => s.heap.size ≤ q)) (args := #[Value.ref b]) (s := s) (by decide)
    (fun i hi => by rcases (show i = 0 ∨ i = 1 by omega) with rfl | rfl; exact hs _ (by decide +kernel); exact hs _ (by decide +kernel)) (fun i hi => by rcases (show i = 0 ∨ i = 1 by omega) with rfl | rfl; exact hs _ (by decide +kernel); exact hs _ (by decide +kernel)) (fun i hi => by rcases (show i = 0 ∨ i = 1 by omega) with rfl | rfl; exact hs _ (by decide +kernel); exact hs _ (by decide +kernel)) (fun i hi => by rcases (show i = 0 ∨ i = 1 by omega) with rfl | rfl; exact hs _ (by decide +kernel); exact hs _ (by decide +kernel))
    (fun i hi j hj => by rcases (show i = 0 ∨ i = 1 by omega) with rfl | rfl; exact hs _ (elS0 j hj); exact hs _ (elS1 j hj))
    (fun i j hi hj hij => by rcases (show (i = 0 ∧ j = 1) ∨ (i = 1 ∧ j = 0) by omega) with ⟨rfl, rfl⟩ | ⟨rfl, rfl⟩ <;> first | exact Or.inl (hs _ (by decide +kernel)) | exact Or.inr (hs _ (by decide +kernel)))
    hA
  have hz1 : va_Z "java/lang/String" "COMPACT_STRINGS" "Z" (.int 1) (fun q : Nat => s.heap.size ≤ q) s s.heap := va_Zof (hts _ (lw_t 615 (by decide +kernel))) (hts _ (lw_t 12 (by decide +kernel))) (va_eqt (hs _ (by decide +kernel))) hA
  have hz2 : va_Zq "jdk/internal/util/Preconditions" "SIOOBE_FORMATTER" "Ljava/util/function/BiFunction;" (fun q : Nat => s.heap.size ≤ q) s s.heap := va_Zqof (hts _ (lw_t 631 (by decide +kernel))) (hts _ (lw_t 14 (by decide +kernel))) (hs _ (by decide +kernel)) hA
  refine ⟨(fun k => ([c0, c1, c2, c3, c4, c5, c6, c7, c8, c9] : List ClassId).getD k 0, fun k => ([iS0, iS1, iS2, iS3, iS4, iS5, iS6, iS7, iS8, iS9] : List (Nat → Nat)).getD k (fun _ => 0)), fun k => ([e0, e1, e2, e3, e4, e5, aK 0, aK 1, aV 0, aV 1] : List Nat).getD k 0, ⟨⟨fun k q hq => ?_, fun k q hq => ?_⟩, fun w hw => va_Nw.of (nw_tab (nestW_is w hw)) (hts w (nestW_in w hw)), ⟨va_AO.of (hts _ ao_0), va_AO.of (hts _ ao_1)⟩, vk_R.of (hts _ sr_0) g0, vk_R.of (hts _ sr_1) (hev 0 (by decide)), vk_R.of (hts _ sr_2) (hev 1 (by decide))⟩, fun q hq => ?_⟩
  · match k, hq with
    | 0, hq => cases hq; exact hK0
    | 1, hq => cases hq; exact hK1
    | 2, hq => cases hq; exact hK2
    | 3, hq => cases hq; exact hK3
    | 4, hq => cases hq; exact hK4
    | 5, hq => cases hq; exact hK5
    | 6, hq => cases hq; exact hK6
    | 7, hq => cases hq; exact hK7
    | 8, hq => cases hq; exact hK8
    | 9, hq => cases hq; exact hK9
    | k + 10, hq => simp [vwCl] at hq
  · match k, hq with
    | 0, hq => cases hq; exact ⟨fun n z => ⟨fun k h => (by cases h), ka0, f0b, co0, f0c⟩, f0a⟩
    | 1, hq => cases hq; exact ⟨fun n z => ⟨fun k h => (by cases h), ka1, f1b, co1, f1c⟩, f1a⟩
    | 2, hq => cases hq; exact ⟨fun n z => ⟨fun k h => (by cases h), ka2, f2b, co2, f2c⟩, f2a⟩
    | 3, hq => cases hq; exact ⟨fun n z => ⟨fun k h => (by cases h), ka3, f3b, co3, f3c⟩, ka3, co3, f3b, f3c, f3d, f3a⟩
    | 4, hq => cases hq; exact ⟨fun n z => ⟨fun k h => (by cases h), ka4, f4b, co4, f4c⟩, ka4, co4, f4b, f4c, f4d, f4a⟩
    | k + 5, hq => simp [TY] at hq
  · rcases List.mem_cons.mp hq with rfl | hq2
    · have h0 := hSt.1 0 (by decide)
      exact ⟨hz1, hz2, h0.1, h0.2.1, h0.2.2.1, h0.2.2.2⟩
    · rw [List.mem_singleton] at hq2
      subst hq2
      have h1 := hSt.1 1 (by decide)
      exact ⟨hz1, hz2, h1.1, h1.2.1, h1.2.2.1, h1.2.2.2⟩
