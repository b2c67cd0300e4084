/- words of a rule, one after the other -/
theorem plcF_b {sf : Nat → Int32} {n : Nat} {M : Nat → Nat → Bool} {k i p st : Nat} {X : Int} (c : i = n ∨ (sf i &&& 255 : Int32) = 32) (h : plcF sf n M k (i + 1) (p + 1) (i + 1) = X) : plcF sf n M (k + 1) i p st = if M st i = true then (p : Int) else X := by
  conv => lhs; unfold plcF
  rw [if_pos c, h]
theorem plcF_c {sf : Nat → Int32} {n : Nat} {M : Nat → Nat → Bool} {k i p st : Nat} {X : Int} (c : ¬ (i = n ∨ (sf i &&& 255 : Int32) = 32)) (h : plcF sf n M k (i + 1) p st = X) : plcF sf n M (k + 1) i p st = X := by
  conv => lhs; unfold plcF
  rw [if_neg c, h]
theorem encW_eq {f g : Nat → Int32} {s : Nat} : ∀ k : Nat, (∀ i, i < k → (f (s + i)).toInt = (g (s + i)).toInt) → encW f s k = encW g s k
  | 0, _ => rfl
  | k + 1, h => by unfold encW; rw [encW_eq k (fun i hi => h i (by omega)), h k (by omega)]
set_option maxRecDepth 10000 in
theorem plcA (M : Nat → Nat → Bool) : plcF tw6 60 M (60 + 1) 0 0 0 = if M 0 2 = true then (0 : Int) else if M 3 6 = true then (1 : Int) else if M 7 10 = true then (2 : Int) else if M 11 14 = true then (3 : Int) else if M 15 19 = true then (4 : Int) else if M 20 25 = true then (5 : Int) else if M 26 30 = true then (6 : Int) else if M 31 35 = true then (7 : Int) else if M 36 40 = true then (8 : Int) else if M 41 45 = true then (9 : Int) else if M 46 51 = true then (10 : Int) else if M 52 55 = true then (11 : Int) else if M 56 60 = true then (12 : Int) else -1 := (plcF_c (by decide +kernel) (plcF_c (by decide +kernel) (plcF_b (by decide +kernel) (plcF_c (by decide +kernel) (plcF_c (by decide +kernel) (plcF_c (by decide +kernel) (plcF_b (by decide +kernel) (plcF_c (by decide +kernel) (plcF_c (by decide +kernel) (plcF_c (by decide +kernel) (plcF_b (by decide +kernel) (plcF_c (by decide +kernel) (plcF_c (by decide +kernel) (plcF_c (by decide +kernel) (plcF_b (by decide +kernel) (plcF_c (by decide +kernel) (plcF_c (by decide +kernel) (plcF_c (by decide +kernel) (plcF_c (by decide +kernel) (plcF_b (by decide +kernel) (plcF_c (by decide +kernel) (plcF_c (by decide +kernel) (plcF_c (by decide +kernel) (plcF_c (by decide +kernel) (plcF_c (by decide +kernel) (plcF_b (by decide +kernel) (plcF_c (by decide +kernel) (plcF_c (by decide +kernel) (plcF_c (by decide +kernel) (plcF_c (by decide +kernel) (plcF_b (by decide +kernel) (plcF_c (by decide +kernel) (plcF_c (by decide +kernel) (plcF_c (by decide +kernel) (plcF_c (by decide +kernel) (plcF_b (by decide +kernel) (plcF_c (by decide +kernel) (plcF_c (by decide +kernel) (plcF_c (by decide +kernel) (plcF_c (by decide +kernel) (plcF_b (by decide +kernel) (plcF_c (by decide +kernel) (plcF_c (by decide +kernel) (plcF_c (by decide +kernel) (plcF_c (by decide +kernel) (plcF_b (by decide +kernel) (plcF_c (by decide +kernel) (plcF_c (by decide +kernel) (plcF_c (by decide +kernel) (plcF_c (by decide +kernel) (plcF_c (by decide +kernel) (plcF_b (by decide +kernel) (plcF_c (by decide +kernel) (plcF_c (by decide +kernel) (plcF_c (by decide +kernel) (plcF_b (by decide +kernel) (plcF_c (by decide +kernel) (plcF_c (by decide +kernel) (plcF_c (by decide +kernel) (plcF_c (by decide +kernel) (plcF_b (by decide +kernel) rfl)))))))))))))))))))))))))))))))))))))))))))))))))))))))))))))
set_option maxRecDepth 10000 in
theorem wdA {f : Nat → Int32} {s k : Nat} (hf : ∀ i, i < k → 97 ≤ (f (s + i)).toInt ∧ (f (s + i)).toInt ≤ 122) : wdC 60 tw6 f s k = wdK 0 f s k := by
  unfold wdC plcW wdK
  rw [plcA]
  by_cases k6 : 6 < k
  · rw [if_pos k6, if_neg (fun h => by have := (mtE_iff.mp h).1; omega), if_neg (fun h => by have := (mtE_iff.mp h).1; omega), if_neg (fun h => by have := (mtE_iff.mp h).1; omega), if_neg (fun h => by have := (mtE_iff.mp h).1; omega), if_neg (fun h => by have := (mtE_iff.mp h).1; omega), if_neg (fun h => by have := (mtE_iff.mp h).1; omega), if_neg (fun h => by have := (mtE_iff.mp h).1; omega), if_neg (fun h => by have := (mtE_iff.mp h).1; omega), if_neg (fun h => by have := (mtE_iff.mp h).1; omega), if_neg (fun h => by have := (mtE_iff.mp h).1; omega), if_neg (fun h => by have := (mtE_iff.mp h).1; omega), if_neg (fun h => by have := (mtE_iff.mp h).1; omega), if_neg (fun h => by have := (mtE_iff.mp h).1; omega)]; rfl
  · rw [if_neg k6]
    have m0 : (mtE tw6 f s k 0 2 = true) ↔ encW f s k = 423 := mtE_enc (st := 0) (j := 2) hf (by decide +kernel) (by decide +kernel)
    have m1 : (mtE tw6 f s k 3 6 = true) ↔ encW f s k = 1111 := mtE_enc (st := 3) (j := 3) hf (by decide +kernel) (by decide +kernel)
    have m2 : (mtE tw6 f s k 7 10 = true) ↔ encW f s k = 10631 := mtE_enc (st := 7) (j := 3) hf (by decide +kernel) (by decide +kernel)
    have m3 : (mtE tw6 f s k 11 14 = true) ↔ encW f s k = 802 := mtE_enc (st := 11) (j := 3) hf (by decide +kernel) (by decide +kernel)
    have m4 : (mtE tw6 f s k 15 19 = true) ↔ encW f s k = 80155 := mtE_enc (st := 15) (j := 4) hf (by decide +kernel) (by decide +kernel)
    have m5 : (mtE tw6 f s k 20 25 = true) ↔ encW f s k = 6476969 := mtE_enc (st := 20) (j := 5) hf (by decide +kernel) (by decide +kernel)
    have m6 : (mtE tw6 f s k 26 30 = true) ↔ encW f s k = 267347 := mtE_enc (st := 26) (j := 4) hf (by decide +kernel) (by decide +kernel)
    have m7 : (mtE tw6 f s k 31 35 = true) ↔ encW f s k = 385682 := mtE_enc (st := 31) (j := 4) hf (by decide +kernel) (by decide +kernel)
    have m8 : (mtE tw6 f s k 36 40 = true) ↔ encW f s k = 138961 := mtE_enc (st := 36) (j := 4) hf (by decide +kernel) (by decide +kernel)
    have m9 : (mtE tw6 f s k 41 45 = true) ↔ encW f s k = 212506 := mtE_enc (st := 41) (j := 4) hf (by decide +kernel) (by decide +kernel)
    have m10 : (mtE tw6 f s k 46 51 = true) ↔ encW f s k = 2486801 := mtE_enc (st := 46) (j := 5) hf (by decide +kernel) (by decide +kernel)
    have m11 : (mtE tw6 f s k 52 55 = true) ↔ encW f s k = 14431 := mtE_enc (st := 52) (j := 3) hf (by decide +kernel) (by decide +kernel)
    have m12 : (mtE tw6 f s k 56 60 = true) ↔ encW f s k = 453937 := mtE_enc (st := 56) (j := 4) hf (by decide +kernel) (by decide +kernel)
    simp only [m0, m1, m2, m3, m4, m5, m6, m7, m8, m9, m10, m11, m12]
    clear m0 m1 m2 m3 m4 m5 m6 m7 m8 m9 m10 m11 m12
    generalize encW f s k = E
    by_cases c0 : E = 423
    · subst c0; decide +kernel
    by_cases c1 : E = 1111
    · subst c1; decide +kernel
    by_cases c2 : E = 10631
    · subst c2; decide +kernel
    by_cases c3 : E = 802
    · subst c3; decide +kernel
    by_cases c4 : E = 80155
    · subst c4; decide +kernel
    by_cases c5 : E = 6476969
    · subst c5; decide +kernel
    by_cases c6 : E = 267347
    · subst c6; decide +kernel
    by_cases c7 : E = 385682
    · subst c7; decide +kernel
    by_cases c8 : E = 138961
    · subst c8; decide +kernel
    by_cases c9 : E = 212506
    · subst c9; decide +kernel
    by_cases c10 : E = 2486801
    · subst c10; decide +kernel
    by_cases c11 : E = 14431
    · subst c11; decide +kernel
    by_cases c12 : E = 453937
    · subst c12; decide +kernel
    rw [if_neg c0, if_neg c1, if_neg c2, if_neg c3, if_neg c4, if_neg c5, if_neg c6, if_neg c7, if_neg c8, if_neg c9, if_neg c10, if_neg c11, if_neg c12]
    unfold wdF cKd
    simp [c0, c1, c2, c3, c4, c5, c6, c7, c8, c9, c10, c11, c12]
set_option maxRecDepth 10000 in
theorem plcB (M : Nat → Nat → Bool) : plcF tw7 35 M (35 + 1) 0 0 0 = if M 0 2 = true then (0 : Int) else if M 3 6 = true then (1 : Int) else if M 7 10 = true then (2 : Int) else if M 11 14 = true then (3 : Int) else if M 15 18 = true then (4 : Int) else if M 19 24 = true then (5 : Int) else if M 25 29 = true then (6 : Int) else if M 30 35 = true then (7 : Int) else -1 := (plcF_c (by decide +kernel) (plcF_c (by decide +kernel) (plcF_b (by decide +kernel) (plcF_c (by decide +kernel) (plcF_c (by decide +kernel) (plcF_c (by decide +kernel) (plcF_b (by decide +kernel) (plcF_c (by decide +kernel) (plcF_c (by decide +kernel) (plcF_c (by decide +kernel) (plcF_b (by decide +kernel) (plcF_c (by decide +kernel) (plcF_c (by decide +kernel) (plcF_c (by decide +kernel) (plcF_b (by decide +kernel) (plcF_c (by decide +kernel) (plcF_c (by decide +kernel) (plcF_c (by decide +kernel) (plcF_b (by decide +kernel) (plcF_c (by decide +kernel) (plcF_c (by decide +kernel) (plcF_c (by decide +kernel) (plcF_c (by decide +kernel) (plcF_c (by decide +kernel) (plcF_b (by decide +kernel) (plcF_c (by decide +kernel) (plcF_c (by decide +kernel) (plcF_c (by decide +kernel) (plcF_c (by decide +kernel) (plcF_b (by decide +kernel) (plcF_c (by decide +kernel) (plcF_c (by decide +kernel) (plcF_c (by decide +kernel) (plcF_c (by decide +kernel) (plcF_c (by decide +kernel) (plcF_b (by decide +kernel) rfl))))))))))))))))))))))))))))))))))))
set_option maxRecDepth 10000 in
theorem wdB {f : Nat → Int32} {s k : Nat} (hf : ∀ i, i < k → 97 ≤ (f (s + i)).toInt ∧ (f (s + i)).toInt ≤ 122) : wdC 35 tw7 f s k = wdK 1 f s k := by
  unfold wdC plcW wdK
  rw [plcB]
  by_cases k6 : 6 < k
  · rw [if_pos k6, if_neg (fun h => by have := (mtE_iff.mp h).1; omega), if_neg (fun h => by have := (mtE_iff.mp h).1; omega), if_neg (fun h => by have := (mtE_iff.mp h).1; omega), if_neg (fun h => by have := (mtE_iff.mp h).1; omega), if_neg (fun h => by have := (mtE_iff.mp h).1; omega), if_neg (fun h => by have := (mtE_iff.mp h).1; omega), if_neg (fun h => by have := (mtE_iff.mp h).1; omega), if_neg (fun h => by have := (mtE_iff.mp h).1; omega)]; rfl
  · rw [if_neg k6]
    have m0 : (mtE tw7 f s k 0 2 = true) ↔ encW f s k = 423 := mtE_enc (st := 0) (j := 2) hf (by decide +kernel) (by decide +kernel)
    have m1 : (mtE tw7 f s k 3 6 = true) ↔ encW f s k = 1111 := mtE_enc (st := 3) (j := 3) hf (by decide +kernel) (by decide +kernel)
    have m2 : (mtE tw7 f s k 7 10 = true) ↔ encW f s k = 10631 := mtE_enc (st := 7) (j := 3) hf (by decide +kernel) (by decide +kernel)
    have m3 : (mtE tw7 f s k 11 14 = true) ↔ encW f s k = 802 := mtE_enc (st := 11) (j := 3) hf (by decide +kernel) (by decide +kernel)
    have m4 : (mtE tw7 f s k 15 18 = true) ↔ encW f s k = 11103 := mtE_enc (st := 15) (j := 3) hf (by decide +kernel) (by decide +kernel)
    have m5 : (mtE tw7 f s k 19 24 = true) ↔ encW f s k = 2436392 := mtE_enc (st := 19) (j := 5) hf (by decide +kernel) (by decide +kernel)
    have m6 : (mtE tw7 f s k 25 29 = true) ↔ encW f s k = 80155 := mtE_enc (st := 25) (j := 4) hf (by decide +kernel) (by decide +kernel)
    have m7 : (mtE tw7 f s k 30 35 = true) ↔ encW f s k = 12387257 := mtE_enc (st := 30) (j := 5) hf (by decide +kernel) (by decide +kernel)
    simp only [m0, m1, m2, m3, m4, m5, m6, m7]
    clear m0 m1 m2 m3 m4 m5 m6 m7
    generalize encW f s k = E
    by_cases c0 : E = 423
    · subst c0; decide +kernel
    by_cases c1 : E = 1111
    · subst c1; decide +kernel
    by_cases c2 : E = 10631
    · subst c2; decide +kernel
    by_cases c3 : E = 802
    · subst c3; decide +kernel
    by_cases c4 : E = 11103
    · subst c4; decide +kernel
    by_cases c5 : E = 2436392
    · subst c5; decide +kernel
    by_cases c6 : E = 80155
    · subst c6; decide +kernel
    by_cases c7 : E = 12387257
    · subst c7; decide +kernel
    rw [if_neg c0, if_neg c1, if_neg c2, if_neg c3, if_neg c4, if_neg c5, if_neg c6, if_neg c7]
    unfold wdF cKd
    simp [c0, c1, c2, c3, c4, c5, c6, c7]
theorem wd_both {wh : Int} {sn : Nat} {sf f g : Nat → Int32} {n : Nat} (h : SBY f g n) (hw : ∀ {s k : Nat}, (∀ i, i < k → 97 ≤ (g (s + i)).toInt ∧ (g (s + i)).toInt ≤ 122) → wdC sn sf g s k = wdK wh g s k) {a : Nat} (ha : a ≤ n) : tkK (wdK wh f) f n a = tkK (wdC sn sf g) g n a := by
  refine tkK_eq h ha (fun s hs hc => ?_)
  have hle := skp_le (lo := 97) (hi := 122) (f := f) (n - s) s
  have hge := skp_ge (lo := 97) (hi := 122) (f := f) (n - s) s
  have hi : ∀ i, i < skp 97 122 f (n - s) s - s → (f (s + i)).toInt = (g (s + i)).toInt ∧ 97 ≤ (f (s + i)).toInt ∧ (f (s + i)).toInt ≤ 122 := fun i hi => by
    have h1 := skp_in (lo := 97) (hi := 122) (f := f) (n - s) s (s + i) (by omega) (by omega)
    rcases h (s + i) (by omega) with q | q
    · exact ⟨q, h1⟩
    · omega
  rw [hw (fun i h1 => by have := hi i h1; omega)]
  unfold wdK
  rw [encW_eq _ (fun i h1 => (hi i h1).1)]
theorem RUN_congr {K V K' V' : Nat → Int} {s e s' e' : Nat → Nat} {n : Nat} (hK : ∀ a, a ≤ n → K a = K' a) (hV : ∀ a, a ≤ n → K a = 1 → V a = V' a) (hs : ∀ a, a ≤ n → s a = s' a) (he : ∀ a, a ≤ n → e a = e' a ∧ e a ≤ n) :
    ∀ (F : Nat) (w m : Bool) (S : List Int) (O : List (Int × Int)) (a : Nat) (res : Int × List (Int × Int)), a ≤ n → RUN K V s e F w m S O a res → RUN K' V' s' e' F w m S O a res
  | 0, _, _, _, _, _, _, _, h => h.elim
  | F + 1, w, m, S, O, a, res, ha, h => by
    have ih := fun w m S O res hr => RUN_congr hK hV hs he F w m S O (e a) res (he a ha).2 hr
    have ev : (if K a = 1 then V a else 0) = (if K a = 1 then V' a else 0) := by
      by_cases c : K a = 1
      · rw [if_pos c, if_pos c, hV a ha c]
      · rw [if_neg c, if_neg c]
    unfold RUN at h ⊢
    rw [← hK a ha, ← hs a ha, ← (he a ha).1]
    split at h
    · rename_i c1
      rw [if_pos c1]
      split at h
      · rename_i c2
        rw [if_pos c2]
        split at h
        · rename_i c3
          rw [if_pos c3]; exact h
        · rename_i c3
          rw [if_neg c3]; exact ih _ _ _ _ _ h
      · rename_i c2
        rw [if_neg c2]
        split at h
        · rename_i c3
          rw [if_pos c3, ← ev]; exact ih _ _ _ _ _ h
        · rename_i c3
          rw [if_neg c3]; exact h
    · rename_i c1
      rw [if_neg c1]
      split at h
      · rename_i c2
        rw [if_pos c2]
        split at h
        · rename_i c3
          rw [if_pos c3]; exact h
        · rename_i c3
          rw [if_neg c3]; exact ih _ _ _ _ _ h
      · rename_i c2
        rw [if_neg c2]
        split at h
        · rename_i c3
          rw [if_pos c3]; exact h
        · rename_i c3
          rw [if_neg c3]
          split at h
          · rename_i c4
            rw [if_pos c4]; exact h
          · rename_i c4
            rw [if_neg c4]
            split at h
            · rename_i c5
              rw [if_pos c5]; exact h
            · rename_i c5
              rw [if_neg c5]; exact ih _ _ _ _ _ h
/-- both read the same text: one answer -/
theorem READ_eq {wh : Int} {sn : Nat} {sf f g : Nat → Int32} {n : Nat} (h : SBY f g n) (hw : ∀ {s k : Nat}, (∀ i, i < k → 97 ≤ (g (s + i)).toInt ∧ (g (s + i)).toInt ≤ 122) → wdC sn sf g s k = wdK wh g s k) {r r' : Int × List (Int × Int)} {F F' : Nat} (h1 : RR f n wh F true true [] [] 0 r) (h2 : RUN (KC sn sf g n) (tkV g n) (tkS g n) (tkE g n) F' true true [] [] 0 r') : r = r' := by
  refine RUN_det F F' _ _ _ _ _ _ _ (RUN_congr (fun a ha => wd_both h hw ha) (fun a ha h1 => tkV_eq (wdK_ok wh f) h ha h1) (fun a ha => tkS_eq h ha) (fun a ha => ⟨tkE_eq h ha, (tk_b ha).2.2.1⟩) F _ _ _ _ _ _ (Nat.zero_le n) h1) h2
/- what is fed, on both tapes -/
theorem and255 (x : Int32) : (x &&& 255 : Int32).toInt = x.toInt % 256 := by
  have h1 : (x &&& 255 : Int32).toBitVec.toNat = x.toBitVec.toNat % 256 := by
    show (x.toBitVec &&& 255#32).toNat = _
    rw [BitVec.toNat_and]
    exact Nat.and_two_pow_sub_one_eq_mod _ 8
  show (x &&& 255 : Int32).toBitVec.toInt = x.toBitVec.toInt % 256
  rw [BitVec.toInt_eq_toNat_cond, BitVec.toInt_eq_toNat_cond, h1]
  have := x.toBitVec.isLt
  split <;> split <;> omega
theorem by_rel (x : Int32) : (vp_nar .byte x.toInt8.toInt32).toInt = (x &&& 255 : Int32).toInt ∨ ((vp_nar .byte x.toInt8.toInt32).toInt < 0 ∧ 128 ≤ (x &&& 255 : Int32).toInt) := by
  have h1 : (vp_nar .byte x.toInt8.toInt32).toInt = x.toInt.bmod 256 := by
    show ((x.toInt8.toInt32).toInt8.toInt32).toInt = _
    rw [Int8.toInt_toInt32, Int32.toInt_toInt8, Int8.toInt_toInt32, Int32.toInt_toInt8]
    rw [show (2 : Nat) ^ 8 = 256 from rfl, Int.bmod_bmod]
  have h2 : (x &&& 255 : Int32).toInt = x.toInt % 256 := and255 x
  rw [h1, h2, Int.bmod_def]
  omega
theorem SBY_fed {f g f' g' : Nat → Int32} {n m : Nat} {v : Int32} (h : SBY f g n) (hm : FEDM f f' n m v) (hx : FEDX g g' n m v) : SBY f' g' (n + m) := by
  intro i hi
  by_cases q : i < n
  · rw [hm.1 i q, hx.1 i q]; exact h i q
  · obtain ⟨k, rfl⟩ : ∃ k, i = n + k := ⟨i - n, by omega⟩
    obtain ⟨s, e1, e2⟩ := hm.2 k (by omega)
    obtain ⟨t, e3, e4⟩ := hx.2 k (by omega)
    rw [e2, e4, i_eq.mpr (e3.trans e1.symm)]
    exact by_rel _
