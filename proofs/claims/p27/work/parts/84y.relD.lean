/-! ===== dealing: all ways in their order ===== -/
/-- second least, in whole numbers -/
def scM (v : Nat → Int) (w : Nat → Nat) (s : Nat) : Nat → Int × Int
  | 0 => (10000, 10000)
  | n + 1 => if w n = s then (if v n < (scM v w s n).1 then (v n, (scM v w s n).1) else if v n < (scM v w s n).2 then ((scM v w s n).1, v n) else scM v w s n) else scM v w s n
/-- as the class finds it: sum, least, most -/
def scX (v : Nat → Int) (w : Nat → Nat) (s : Nat) : Nat → Int × Int × Int
  | 0 => (0, 9999, 0)
  | n + 1 => if w n = s then ((scX v w s n).1 + v n, (if v n < (scX v w s n).2.1 then v n else (scX v w s n).2.1), (if (scX v w s n).2.2 < v n then v n else (scX v w s n).2.2)) else scX v w s n
theorem sc_rel {v : Nat → Int} {w : Nat → Nat} {s : Nat} : ∀ n : Nat, (∀ i : Nat, i < n → 1 ≤ v i ∧ v i ≤ 9999) →
    (cntW w s n = 0 ∧ scM v w s n = (10000, 10000) ∧ scX v w s n = (0, 9999, 0)) ∨
    (cntW w s n = 1 ∧ (1 ≤ (scM v w s n).1 ∧ (scM v w s n).1 ≤ 9999) ∧ (scM v w s n).2 = 10000 ∧ scX v w s n = ((scM v w s n).1, (scM v w s n).1, (scM v w s n).1)) ∨
    (cntW w s n = 2 ∧ (1 ≤ (scM v w s n).1 ∧ (scM v w s n).1 ≤ (scM v w s n).2 ∧ (scM v w s n).2 ≤ 9999) ∧ scX v w s n = ((scM v w s n).1 + (scM v w s n).2, (scM v w s n).1, (scM v w s n).2)) ∨
    (cntW w s n = 3 ∧ (1 ≤ (scM v w s n).1 ∧ (scM v w s n).1 ≤ (scM v w s n).2 ∧ (scM v w s n).2 ≤ (scX v w s n).2.2 ∧ (scX v w s n).2.2 ≤ 9999) ∧ (scX v w s n).2.1 = (scM v w s n).1 ∧ (scX v w s n).1 = (scM v w s n).1 + (scM v w s n).2 + (scX v w s n).2.2) ∨ 4 ≤ cntW w s n
  | 0, _ => Or.inl ⟨rfl, rfl, rfl⟩
  | n + 1, h => by
    have ih := sc_rel (v := v) (w := w) (s := s) n (fun i hi => h i (by omega))
    have hv := h n (by omega)
    have e1 : cntW w s (n + 1) = cntW w s n + (if w n = s then 1 else 0) := rfl
    have e2 : scM v w s (n + 1) = if w n = s then (if v n < (scM v w s n).1 then (v n, (scM v w s n).1) else if v n < (scM v w s n).2 then ((scM v w s n).1, v n) else scM v w s n) else scM v w s n := rfl
    have e3 : scX v w s (n + 1) = if w n = s then ((scX v w s n).1 + v n, (if v n < (scX v w s n).2.1 then v n else (scX v w s n).2.1), (if (scX v w s n).2.2 < v n then v n else (scX v w s n).2.2)) else scX v w s n := rfl
    by_cases c : w n = s
    · rw [if_pos c] at e1 e2 e3
      rw [e1, e2, e3]
      rcases ih with ⟨a, b, d⟩ | ⟨a, b, d, f⟩ | ⟨a, b, d⟩ | ⟨a, b, d, f⟩ | a
      · refine Or.inr (Or.inl ⟨by omega, ?_⟩)
        rw [b, d]
        (try dsimp only)
        rw [if_pos (show v n < 10000 by omega)]
        refine ⟨hv, rfl, ?_⟩
        (try dsimp only)
        rw [show (0 : Int) + v n = v n by omega, if_pos (show (0 : Int) < v n by omega)]
        split
        · rfl
        · rw [show v n = 9999 by omega]
      · refine Or.inr (Or.inr (Or.inl ⟨by omega, ?_⟩))
        rw [d, f]
        (try dsimp only)
        by_cases q : v n < (scM v w s n).1
        · rw [if_pos q, if_pos q, if_neg (by omega)]
          refine ⟨by (try dsimp only); omega, ?_⟩
          (try dsimp only)
          rw [show (scM v w s n).1 + v n = v n + (scM v w s n).1 by omega]
        · rw [if_neg q, if_pos (show v n < 10000 by omega), if_neg q]
          refine ⟨by (try dsimp only); omega, ?_⟩
          (try dsimp only)
          by_cases q2 : (scM v w s n).1 < v n
          · rw [if_pos q2]
          · rw [if_neg q2, show v n = (scM v w s n).1 by omega]
      · refine Or.inr (Or.inr (Or.inr (Or.inl ⟨by omega, ?_⟩)))
        rw [d]
        (try dsimp only)
        by_cases q : v n < (scM v w s n).1
        · rw [if_pos q, if_pos q, if_neg (by omega)]
          (try dsimp only)
          refine ⟨by omega, rfl, by omega⟩
        · rw [if_neg q, if_neg q]
          by_cases q2 : v n < (scM v w s n).2
          · rw [if_pos q2, if_neg (by omega)]
            (try dsimp only)
            refine ⟨by omega, rfl, by omega⟩
          · rw [if_neg q2]
            by_cases q3 : (scM v w s n).2 < v n
            · rw [if_pos q3]
              refine ⟨by omega, rfl, by omega⟩
            · rw [if_neg q3]
              refine ⟨by omega, rfl, by omega⟩
      · exact Or.inr (Or.inr (Or.inr (Or.inr (by omega))))
      · exact Or.inr (Or.inr (Or.inr (Or.inr (by omega))))
    · rw [if_neg c] at e1 e2 e3
      rw [e1, e2, e3]
      exact ih
/-- of three the one between -/
theorem sc_three {v : Nat → Int} {w : Nat → Nat} {s n : Nat} (hv : ∀ i : Nat, i < n → 1 ≤ v i ∧ v i ≤ 9999) (hc : cntW w s n = 3) : (scX v w s n).1 - (scX v w s n).2.1 - (scX v w s n).2.2 = (scM v w s n).2 ∧ 1 ≤ (scM v w s n).2 ∧ (scM v w s n).2 ≤ 9999 := by
  rcases sc_rel (w := w) (s := s) n hv with h | h | h | h | h
  · omega
  · omega
  · omega
  · obtain ⟨-, h2, h3, h4⟩ := h
    omega
  · omega
/-- digits of a number with a given beginning -/
theorem dgr_pre : ∀ (k n P r i : Nat), r < 4 ^ k → i < n → dgr (n + k) (P * 4 ^ k + r) i = dgr n P i
  | 0, n, P, r, i, hr, hi => by
    rw [Nat.pow_zero] at hr
    rw [Nat.pow_zero, Nat.mul_one, show r = 0 by omega, Nat.add_zero, Nat.add_zero]
  | k + 1, n, P, r, i, hr, hi => by
    have e : 4 ^ (k + 1) = 4 ^ k * 4 := Nat.pow_succ ..
    show (if i = n + k then (P * 4 ^ (k + 1) + r) % 4 else dgr (n + k) ((P * 4 ^ (k + 1) + r) / 4) i) = _
    rw [if_neg (by omega)]
    have e2 : (P * 4 ^ (k + 1) + r) / 4 = P * 4 ^ k + r / 4 := by
      rw [e, ← Nat.mul_assoc]
      omega
    rw [e2]
    exact dgr_pre k n P (r / 4) i (by omega) hi
theorem dgr_new (n P q : Nat) (hq : q < 4) : dgr (n + 1) (4 * P + q) n = q ∧ ∀ i : Nat, i < n → dgr (n + 1) (4 * P + q) i = dgr n P i := by
  constructor
  · show (if n = n then (4 * P + q) % 4 else _) = q
    rw [if_pos rfl]
    omega
  · intro i hi
    show (if i = n then (4 * P + q) % 4 else dgr n ((4 * P + q) / 4) i) = dgr n P i
    rw [if_neg (by omega), show (4 * P + q) / 4 = P by omega]
theorem cntW_mono (w : Nat → Nat) (s n : Nat) : ∀ m : Nat, cntW w s n ≤ cntW w s (n + m)
  | 0 => Nat.le_refl _
  | m + 1 => by
    have h := cntW_mono w s n m
    show cntW w s n ≤ cntW w s (n + m) + _
    omega
/-- how many are of none -/
def totC (w : Nat → Nat) (n : Nat) : Nat → Nat
  | 0 => 0
  | S + 1 => totC w n S + cntW w S n
theorem totC_s {w : Nat → Nat} {n : Nat} : ∀ S : Nat, totC w (n + 1) S = totC w n S + (if w n < S then 1 else 0)
  | 0 => by simp [totC]
  | S + 1 => by
    have h := totC_s (w := w) (n := n) S
    have e : cntW w S (n + 1) = cntW w S n + (if w n = S then 1 else 0) := rfl
    show totC w (n + 1) S + cntW w S (n + 1) = totC w n S + cntW w S n + _
    rw [h, e]
    by_cases a : w n < S
    · rw [if_pos a, if_neg (by omega), if_pos (by omega)]; omega
    · by_cases b : w n = S
      · rw [if_neg a, if_pos b, if_pos (by omega)]; omega
      · rw [if_neg a, if_neg b, if_neg (by omega)]; omega
theorem tot_ok {S : Nat} {w : Nat → Nat} (hS : S ≤ 3) : ∀ n : Nat, okW S w n = true → n = totC w n S + cntW w 3 n
  | 0, _ => by
    have : ∀ S : Nat, totC w 0 S = 0 := fun S => by
      induction S with
      | zero => rfl
      | succ S ih => show totC w 0 S + 0 = 0; rw [ih]
    rw [this]; rfl
  | n + 1, e => by
    have e2 : (okW S w n && (decide (w n < S) || decide (w n = 3))) = true := e
    rw [Bool.and_eq_true] at e2
    have ih := tot_ok hS n e2.1
    have hd := okW_at (n + 1) (Nat.lt_succ_self n) e
    have e3 : cntW w 3 (n + 1) = cntW w 3 n + (if w n = 3 then 1 else 0) := rfl
    rw [totC_s, e3]
    by_cases a : w n < S
    · rw [if_pos a, if_neg (by omega)]; omega
    · rw [if_neg a, if_pos (by omega)]; omega
theorem tot_3 {w : Nat → Nat} {L : Nat} : ∀ S : Nat, allC w L S = true → totC w L S = 3 * S
  | 0, _ => rfl
  | S + 1, e => by
    have e2 : (allC w L S && decide (cntW w S L = 3)) = true := e
    rw [Bool.and_eq_true] at e2
    have := of_decide_eq_true e2.2
    show totC w L S + cntW w S L = _
    rw [tot_3 S e2.1, this]
    omega
/-- a beginning that no way has -/
theorem bad_pre {S L n k P : Nat} (hL : L = n + k) (hS : S ≤ 3) (hb : (∃ s : Nat, s < S ∧ 4 ≤ cntW (dgr n P) s n) ∨ (∃ i : Nat, i < n ∧ ¬ (dgr n P i < S ∨ dgr n P i = 3)) ∨ L < 3 * S + cntW (dgr n P) 3 n) : ∀ c : Nat, P * 4 ^ k ≤ c → c < P * 4 ^ k + 4 ^ k → vldW S L (dgr L c) = false := by
  intro c h1 h2
  obtain ⟨r, rfl⟩ : ∃ r, c = P * 4 ^ k + r := ⟨c - P * 4 ^ k, by omega⟩
  subst hL
  have hd : ∀ i : Nat, i < n → dgr (n + k) (P * 4 ^ k + r) i = dgr n P i := fun i hi => dgr_pre k n P r i (by omega) hi
  rcases Bool.eq_false_or_eq_true (vldW S (n + k) (dgr (n + k) (P * 4 ^ k + r))) with e | e
  · exfalso
    unfold vldW at e
    rw [Bool.and_eq_true] at e
    rcases hb with ⟨s, hs, h4⟩ | ⟨i, hi, hn⟩ | h3
    · have a := allC_at S hs e.2
      have b := cntW_mono (dgr (n + k) (P * 4 ^ k + r)) s n k
      rw [cntW_congr n hd] at b
      omega
    · have a := okW_at (n + k) (show i < n + k by omega) e.1
      rw [hd i hi] at a
      exact hn a
    · have a := tot_ok hS (n + k) e.1
      rw [tot_3 S e.2] at a
      have b := cntW_mono (dgr (n + k) (P * 4 ^ k + r)) 3 n k
      rw [cntW_congr n hd] at b
      omega
  · exact e
/-- n ways from a on -/
def fldG (f : SM → Nat → SM) : Nat → Nat → SM → SM
  | _, 0, z => z
  | a, n + 1, z => fldG f (a + 1) n (f z a)
theorem fldG_add (f : SM → Nat → SM) : ∀ (m a n : Nat) (z : SM), fldG f a (m + n) z = fldG f (a + m) n (fldG f a m z)
  | 0, a, n, z => by rw [Nat.zero_add, Nat.add_zero]; rfl
  | m + 1, a, n, z => by
    rw [show m + 1 + n = (m + n) + 1 by omega]
    show fldG f (a + 1) (m + n) (f z a) = fldG f (a + (m + 1)) n (fldG f (a + 1) m (f z a))
    rw [fldG_add f m (a + 1) n, show a + 1 + m = a + (m + 1) by omega]
theorem fldG_s (f : SM → Nat → SM) (a n : Nat) (z : SM) : fldG f a (n + 1) z = f (fldG f a n z) (a + n) := by
  rw [fldG_add f n a 1 z]
  rfl
theorem fldG_none {f : SM → Nat → SM} : ∀ (n a : Nat) (z : SM), (∀ c : Nat, a ≤ c → c < a + n → ∀ y : SM, f y c = y) → fldG f a n z = z
  | 0, a, z, _ => rfl
  | n + 1, a, z, h => by
    show fldG f (a + 1) n (f z a) = z
    rw [h a (Nat.le_refl _) (by omega)]
    exact fldG_none n (a + 1) z (fun c h1 h2 => h c (by omega) (by omega))
/-- what the reference does with the way of a number -/
def FD (S L : Nat) (d v : Nat → Int32) : SM → Nat → SM := fun z c => stM S L d v z (dgI L c)
theorem fdM_G (S L : Nat) (d v : Nat → Int32) (z : SM) : ∀ n : Nat, fdM S L d v z n = fldG (FD S L d v) 0 n z
  | 0 => rfl
  | n + 1 => by
    rw [fldG_s, fdM_s, fdM_G S L d v z n, Nat.zero_add]
    rfl
def treG (f : SM → Nat → SM) (k P : Nat) (z : SM) : SM := fldG f (P * 4 ^ k) (4 ^ k) z
theorem treG_0 (f : SM → Nat → SM) (P : Nat) (z : SM) : treG f 0 P z = f z P := by
  unfold treG
  rw [Nat.pow_zero, Nat.mul_one]
  rfl
/-- the first q of the four branches -/
def brG (f : SM → Nat → SM) (k P : Nat) (z : SM) : Nat → SM
  | 0 => z
  | q + 1 => treG f k (4 * P + q) (brG f k P z q)
theorem treG_s (f : SM → Nat → SM) (k P : Nat) (z : SM) : treG f (k + 1) P z = brG f k P z 4 := by
  have e : 4 ^ (k + 1) = 4 ^ k + (4 ^ k + (4 ^ k + 4 ^ k)) := by rw [Nat.pow_succ]; omega
  have s0 : P * 4 ^ (k + 1) = 4 * P * 4 ^ k := by rw [Nat.pow_succ]; grind
  have s1 : 4 * P * 4 ^ k + 4 ^ k = (4 * P + 1) * 4 ^ k := by grind
  have s2 : (4 * P + 1) * 4 ^ k + 4 ^ k = (4 * P + 2) * 4 ^ k := by grind
  have s3 : (4 * P + 2) * 4 ^ k + 4 ^ k = (4 * P + 3) * 4 ^ k := by grind
  show fldG f (P * 4 ^ (k + 1)) (4 ^ (k + 1)) z = treG f k (4 * P + 3) (treG f k (4 * P + 2) (treG f k (4 * P + 1) (treG f k (4 * P + 0) z)))
  unfold treG
  rw [s0, e, fldG_add, s1, fldG_add, s2, fldG_add, s3]
  rfl
theorem wN_dgI (L c : Nat) : wN (dgI L c) = dgr L c := by
  funext i
  unfold wN dgI
  have h := dgr_lt L c i
  rw [Int32.toInt_ofNat_of_lt (by omega)]
  omega
theorem dgI_int (L c i : Nat) : (dgI L c i).toInt = (dgr L c i : Nat) := by
  unfold dgI
  have h := dgr_lt L c i
  rw [Int32.toInt_ofNat_of_lt (by omega)]
theorem treG_bad {S L n k P : Nat} {d v : Nat → Int32} {z : SM} (hL : L = n + k) (hS : S ≤ 3) (hb : (∃ s : Nat, s < S ∧ 4 ≤ cntW (dgr n P) s n) ∨ (∃ i : Nat, i < n ∧ ¬ (dgr n P i < S ∨ dgr n P i = 3)) ∨ L < 3 * S + cntW (dgr n P) 3 n) : treG (FD S L d v) k P z = z := fldG_none _ _ z (fun c h1 h2 y => stM_no (by rw [wN_dgI]; exact bad_pre hL hS hb c h1 h2))
/-- a mark of the class, of the reference -/
def DG (x y : Int32) : Prop := (y.toInt = 3 ∧ x.toInt = -1) ∨ (y.toInt ≠ 3 ∧ x = y)
def RZ (L : Nat) (lw : Int32) (b : Nat → Int32) (z : SM) : Prop := (z.1.toInt < 0 ∧ lw.toInt = 2000000000) ∨ (0 ≤ z.1.toInt ∧ z.1.toInt ≤ 3999600 ∧ lw = z.1 ∧ ∀ i : Nat, i < L → DG (b i) (z.2 i))
theorem so_sc {v w : Nat → Int32} {u : Nat → Nat} {s : Nat} : ∀ n : Nat, (∀ i : Nat, i < n → (w i = Int32.ofNat s ↔ u i = s)) → (soI v w (Int32.ofNat s) n).1.toInt = (scM (vI v) u s n).1 ∧ (soI v w (Int32.ofNat s) n).2.toInt = (scM (vI v) u s n).2
  | 0, _ => ⟨(by decide : (10000 : Int32).toInt = 10000), (by decide : (10000 : Int32).toInt = 10000)⟩
  | n + 1, h => by
    have ih := so_sc (v := v) (w := w) (u := u) (s := s) n (fun i hi => h i (by omega))
    have hn := h n (by omega)
    have e2 : scM (vI v) u s (n + 1) = if u n = s then (if vI v n < (scM (vI v) u s n).1 then (vI v n, (scM (vI v) u s n).1) else if vI v n < (scM (vI v) u s n).2 then ((scM (vI v) u s n).1, vI v n) else scM (vI v) u s n) else scM (vI v) u s n := rfl
    have ev : vI v n = (v n).toInt := rfl
    rw [soI_s, e2, ← ih.1, ← ih.2, ev]
    by_cases q : u n = s
    · rw [if_pos (hn.mpr q), if_pos q]
      by_cases a : v n < (soI v w (Int32.ofNat s) n).1
      · rw [if_pos a, if_pos (i_lt.mp a)]
        exact ⟨rfl, rfl⟩
      · rw [if_neg a, if_neg (fun h9 => a (i_lt.mpr h9))]
        by_cases b : v n < (soI v w (Int32.ofNat s) n).2
        · rw [if_pos b, if_pos (i_lt.mp b)]
          exact ⟨rfl, rfl⟩
        · rw [if_neg b, if_neg (fun h9 => b (i_lt.mpr h9))]
          exact ih
    · rw [if_neg (fun h9 => q (hn.mp h9)), if_neg q]
      exact ih
theorem sl_sc {d w : Nat → Int32} {u : Nat → Nat} {s : Nat} : ∀ n : Nat, n ≤ 9 → (∀ i : Nat, i < n → (w i = Int32.ofNat s ↔ u i = s)) → (∀ i : Nat, i < n → 1 ≤ (d i).toInt ∧ (d i).toInt ≤ 9999) → ((slX d w (Int32.ofNat s) n).1.toInt = (scX (vI d) u s n).1 ∧ (slX d w (Int32.ofNat s) n).2.1.toInt = (scX (vI d) u s n).2.1 ∧ (slX d w (Int32.ofNat s) n).2.2.toInt = (scX (vI d) u s n).2.2) ∧ 0 ≤ (scX (vI d) u s n).1 ∧ (scX (vI d) u s n).1 ≤ 9999 * (n : Int) ∧ 0 ≤ (scX (vI d) u s n).2.1 ∧ (scX (vI d) u s n).2.1 ≤ 9999 ∧ 0 ≤ (scX (vI d) u s n).2.2 ∧ (scX (vI d) u s n).2.2 ≤ 9999
  | 0, _, _, _ => ⟨⟨(by decide : (0 : Int32).toInt = 0), (by decide : (9999 : Int32).toInt = 9999), (by decide : (0 : Int32).toInt = 0)⟩, (by decide : (0 : Int) ≤ 0), (by decide : (0 : Int) ≤ 9999 * ((0 : Nat) : Int)), (by decide : (0 : Int) ≤ 9999), (by decide : (9999 : Int) ≤ 9999), (by decide : (0 : Int) ≤ 0), (by decide : (0 : Int) ≤ 9999)⟩
  | n + 1, h9, h, hd => by
    have ih := sl_sc (d := d) (w := w) (u := u) (s := s) n (by omega) (fun i hi => h i (by omega)) (fun i hi => hd i (by omega))
    have hn := h n (by omega)
    have hv := hd n (by omega)
    have e3 : scX (vI d) u s (n + 1) = if u n = s then ((scX (vI d) u s n).1 + vI d n, (if vI d n < (scX (vI d) u s n).2.1 then vI d n else (scX (vI d) u s n).2.1), (if (scX (vI d) u s n).2.2 < vI d n then vI d n else (scX (vI d) u s n).2.2)) else scX (vI d) u s n := rfl
    have ev : vI d n = (d n).toInt := rfl
    obtain ⟨⟨i1, i2, i3⟩, b1, b2, b3, b4, b5, b6⟩ := ih
    rw [slX_s, e3]
    by_cases q : u n = s
    · rw [if_pos (hn.mpr q), if_pos q]
      refine ⟨⟨?_, ?_, ?_⟩, ?_, ?_, ?_, ?_, ?_, ?_⟩ <;> (try dsimp only)
      · rw [i_add (by omega) (by omega), i1, ev]
      · rw [ev, ← i2]
        by_cases a : d n < (slX d w (Int32.ofNat s) n).2.1
        · rw [if_pos a, if_pos (i_lt.mp a)]
        · rw [if_neg a, if_neg (fun h9 => a (i_lt.mpr h9))]
      · rw [ev, ← i3]
        by_cases a : (slX d w (Int32.ofNat s) n).2.2 < d n
        · rw [if_pos a, if_pos (i_lt.mp a)]
        · rw [if_neg a, if_neg (fun h9 => a (i_lt.mpr h9))]
      · omega
      · omega
      · split <;> omega
      · split <;> omega
      · split <;> omega
      · split <;> omega
    · rw [if_neg (fun h9 => q (hn.mp h9)), if_neg q]
      exact ⟨⟨i1, i2, i3⟩, b1, by omega, b3, b4, b5, b6⟩
theorem i_sub' {a b : Int32} (h1 : -2147483648 ≤ a.toInt - b.toInt) (h2 : a.toInt - b.toInt ≤ 2147483647) : (a - b).toInt = a.toInt - b.toInt := g_sub rfl rfl h1 h2
theorem scM_0 (v : Nat → Int) (u : Nat → Nat) (s : Nat) : scM v u s 0 = (10000, 10000) := rfl
theorem slV_d (d w : Nat → Int32) (s : Int32) (n : Nat) : slV d w s n = (slX d w s n).1 - (slX d w s n).2.1 - (slX d w s n).2.2 := rfl
theorem slV_eq {d li w r : Nat → Int32} {u : Nat → Nat} {s n : Nat} (h9 : n ≤ 9) (hd : ∀ i : Nat, i < n → d i = li i ∧ 1 ≤ (li i).toInt ∧ (li i).toInt ≤ 9999) (hw : ∀ i : Nat, i < n → (w i = Int32.ofNat s ↔ u i = s)) (hr : ∀ i : Nat, i < n → (r i = Int32.ofNat s ↔ u i = s)) (hc : cntW u s n = 3) : slV d w (Int32.ofNat s) n = (soI li r (Int32.ofNat s) n).2 ∧ 1 ≤ (soI li r (Int32.ofNat s) n).2.toInt ∧ (soI li r (Int32.ofNat s) n).2.toInt ≤ 9999 := by
  have e0 : ∀ m : Nat, m ≤ n → scM (vI li) u s m = scM (vI d) u s m := by
    intro m
    induction m with
    | zero => intro _; rw [scM_0, scM_0]
    | succ m ih =>
      intro hm
      have ev : vI li m = vI d m := by unfold vI; rw [(hd m (by omega)).1]
      show (if u m = s then _ else _) = (if u m = s then _ else _)
      rw [ih (by omega), ev]
  have hb : ∀ i : Nat, i < n → 1 ≤ (d i).toInt ∧ (d i).toInt ≤ 9999 := fun i hi => by rw [(hd i hi).1]; exact (hd i hi).2
  obtain ⟨⟨i1, i2, i3⟩, b1, b2, b3, b4, b5, b6⟩ := sl_sc (d := d) (w := w) (u := u) (s := s) n h9 hw hb
  have h3 := sc_three (v := vI d) (w := u) (s := s) (n := n) (fun i hi => hb i hi) hc
  have hs := so_sc (v := li) (w := r) (u := u) (s := s) n hr
  rw [e0 n (Nat.le_refl _)] at hs
  refine ⟨i_eq.mpr ?_, by omega, by omega⟩
  have q1 := i_sub' (a := (slX d w (Int32.ofNat s) n).1) (b := (slX d w (Int32.ofNat s) n).2.1) (by omega) (by omega)
  have q2 := i_sub' (a := (slX d w (Int32.ofNat s) n).1 - (slX d w (Int32.ofNat s) n).2.1) (b := (slX d w (Int32.ofNat s) n).2.2) (by omega) (by omega)
  rw [slV_d, q2, q1, i1, i2, i3, hs.2]
  exact h3.1
/-- the worst of a way is the same on both sides -/
theorem ws_eq {d li vo dd w r : Nat → Int32} {u : Nat → Nat} {n S : Nat} (h9 : n ≤ 9) (hS : S ≤ 3) (hd : ∀ i : Nat, i < n → d i = li i ∧ 1 ≤ (li i).toInt ∧ (li i).toInt ≤ 9999) (hv : ∀ s : Nat, s < 3 → vo s = dd s ∧ 0 ≤ (dd s).toInt ∧ (dd s).toInt ≤ 400) (hw : ∀ s i : Nat, s < 3 → i < n → (w i = Int32.ofNat s ↔ u i = s)) (hr : ∀ s i : Nat, s < 3 → i < n → (r i = Int32.ofNat s ↔ u i = s)) (hc : ∀ s : Nat, s < S → cntW u s n = 3) : ∀ k : Nat, k ≤ S → kbX d w vo n k = wsI dd li r n k ∧ 0 ≤ (wsI dd li r n k).toInt ∧ (wsI dd li r n k).toInt ≤ 3999600
  | 0, _ => ⟨rfl, (by decide : 0 ≤ (0 : Int32).toInt), (by decide : (0 : Int32).toInt ≤ 3999600)⟩
  | k + 1, hk => by
    have ih := ws_eq h9 hS hd hv hw hr hc k (by omega)
    have hs := slV_eq h9 hd (fun i hi => hw k i (by omega) hi) (fun i hi => hr k i (by omega) hi) (hc k (by omega))
    have hvk := hv k (by omega)
    have hm : 0 ≤ (dd k * (soI li r (Int32.ofNat k) n).2).toInt ∧ (dd k * (soI li r (Int32.ofNat k) n).2).toInt ≤ 3999600 := by
      have h1 : 0 ≤ (dd k).toInt * (soI li r (Int32.ofNat k) n).2.toInt := Int.mul_nonneg hvk.2.1 (by omega)
      have h2 : (dd k).toInt * (soI li r (Int32.ofNat k) n).2.toInt ≤ 400 * 9999 := Int.mul_le_mul hvk.2.2 hs.2.2 (by omega) (by omega)
      rw [i_mul (by omega) (by omega)]
      omega
    rw [kbX_s, wsI_s, ih.1, hs.1, hvk.1]
    refine ⟨rfl, ?_⟩
    split
    · exact hm
    · exact ih.2
theorem DG_dig {x : Int32} {L c i : Nat} (h : DG x (dgI L c i)) (s : Nat) (hs : s < 3) : x = Int32.ofNat s ↔ dgr L c i = s := by
  have h4 := dgr_lt L c i
  have hi := dgI_int L c i
  have hs2 : (Int32.ofNat s).toInt = (s : Nat) := Int32.toInt_ofNat_of_lt (by omega)
  rcases h with ⟨a, b⟩ | ⟨a, b⟩
  · constructor
    · intro e; rw [e] at b; omega
    · intro e; omega
  · constructor
    · intro e; rw [b] at e; have := i_eq.mp e; omega
    · intro e; rw [b]; exact i_eq.mpr (by omega)
theorem dgI_dig {L c i : Nat} (s : Nat) (hs : s < 3) : dgI L c i = Int32.ofNat s ↔ dgr L c i = s := by
  have h4 := dgr_lt L c i
  have hi := dgI_int L c i
  have hs2 : (Int32.ofNat s).toInt = (s : Nat) := Int32.toInt_ofNat_of_lt (by omega)
  constructor
  · intro e; have := i_eq.mp e; omega
  · intro e; exact i_eq.mpr (by omega)
theorem cpX_at {w b : Nat → Int32} {i : Nat} : ∀ n : Nat, i < n → cpX w b n i = w i
  | 0, h => by omega
  | n + 1, h => by
    rw [cpX_s]
    by_cases q : i = n
    · subst q; simp only [upd, if_pos]
    · simp only [upd, if_neg q]; exact cpX_at n (by omega)
/-- all counts are three -/
theorem cnt_three {S L P : Nat} (hS : S ≤ 3) (hok : okW S (dgr L P) L = true) (h3 : ∀ s : Nat, s < S → cntW (dgr L P) s L ≤ 3) (hsp : 3 * S + cntW (dgr L P) 3 L ≤ L) : ∀ s : Nat, s < S → cntW (dgr L P) s L = 3 := by
  have ht := tot_ok hS L hok
  have hle : ∀ T : Nat, T ≤ S → totC (dgr L P) L T ≤ 3 * T := by
    intro T
    induction T with
    | zero => intro _; exact Nat.le_refl _
    | succ T ih =>
      intro hT
      have h1 := ih (by omega)
      have h2 := h3 T (by omega)
      show totC (dgr L P) L T + cntW (dgr L P) T L ≤ _
      omega
  intro s hs
  have key : ∀ T : Nat, s < T → T ≤ S → totC (dgr L P) L T ≤ 3 * T - 3 + cntW (dgr L P) s L := by
    intro T
    induction T with
    | zero => intro h _; omega
    | succ T ih =>
      intro h1 h2
      show totC (dgr L P) L T + cntW (dgr L P) T L ≤ _
      by_cases q : s = T
      · subst q
        have := hle s (by omega)
        omega
      · have h5 := ih (by omega) (by omega)
        have h6 := h3 T (by omega)
        omega
  have h7 := key S hs (Nat.le_refl _)
  have h8 := h3 s hs
  omega
theorem allC_of {w : Nat → Nat} {L : Nat} : ∀ S : Nat, (∀ s : Nat, s < S → cntW w s L = 3) → allC w L S = true
  | 0, _ => rfl
  | S + 1, h => allC_s (allC_of S (fun s hs => h s (by omega))) (h S (by omega))
/-- a whole way -/
theorem leaf_D {S L P : Nat} {d li vo dd w g b : Nat → Int32} {lw n SI : Int32} {z : SM} (hn : n.toInt = (L : Nat)) (hSI : SI.toInt = (S : Nat)) (hS : S ≤ 3) (hL : L ≤ 9) (hd : ∀ i : Nat, i < L → d i = li i ∧ 1 ≤ (li i).toInt ∧ (li i).toInt ≤ 9999) (hv : ∀ s : Nat, s < 3 → vo s = dd s ∧ 0 ≤ (dd s).toInt ∧ (dd s).toInt ≤ 400) (hw : ∀ j : Nat, j < L → DG (w j) (dgI L P j)) (hok : okW S (dgr L P) L = true) (h3 : ∀ s : Nat, s < S → cntW (dgr L P) s L ≤ 3) (hsp : 3 * S + cntW (dgr L P) 3 L ≤ L) (hz : RZ L lw b z) : ∃ lw' b', kpX d vo n SI (w, g, lw, b) = (w, g, lw', b') ∧ RZ L lw' b' (FD S L dd li z P) := by
  have hc := cnt_three hS hok h3 hsp
  have hnc : n.toNatClampNeg = L := by have := i_clamp0 (x := n) (by omega); omega
  have hSc : SI.toNatClampNeg = S := by have := i_clamp0 (x := SI) (by omega); omega
  have he := ws_eq (vo := vo) (dd := dd) (w := w) (r := dgI L P) (u := dgr L P) hL hS hd hv (fun s i hs hi => DG_dig (hw i hi) s hs) (fun s i hs hi => dgI_dig s hs) hc S (Nat.le_refl _)
  have hvl : vldW S L (wN (dgI L P)) = true := by rw [wN_dgI]; exact vld_yes hok (allC_of S hc)
  refine ⟨(kqX d vo n SI w lw b).1, (kqX d vo n SI w lw b).2, rfl, ?_⟩
  unfold kqX FD
  rw [hnc, hSc, he.1]
  by_cases q : z.1.toInt < 0 ∨ (wsI dd li (dgI L P) L S).toInt < z.1.toInt
  · rw [stM_yes hvl q, if_pos (by rcases hz with ⟨a, a2⟩ | ⟨a, a2, a3, a4⟩ <;> (try rw [a3]) <;> omega)]
    refine Or.inr ⟨he.2.1, he.2.2, rfl, fun i hi => ?_⟩
    (try dsimp only)
    rw [cpX_at 9 (by omega), cpX_at L hi]
    exact hw i hi
  · rw [stM_not q, if_neg (by rcases hz with ⟨a, a2⟩ | ⟨a, a2, a3, a4⟩ <;> (try rw [a3]) <;> omega)]
    exact hz
theorem cnt_new {n P q s : Nat} (hq : q < 4) : cntW (dgr (n + 1) (4 * P + q)) s (n + 1) = cntW (dgr n P) s n + (if q = s then 1 else 0) := by
  have h := dgr_new n P q hq
  rw [cntW_s, h.1, cntW_congr n h.2]
theorem ok_new {S n P q : Nat} (hq : q < 4) (h : okW S (dgr n P) n = true) (hs : q < S ∨ q = 3) : okW S (dgr (n + 1) (4 * P + q)) (n + 1) = true := by
  have e := dgr_new n P q hq
  exact okW_s (by rw [okW_congr n e.2]; exact h) (by rw [e.1]; exact hs)
theorem DG_new {n P q : Nat} {w : Nat → Int32} {x i : Int32} (hq : q < 4) (hi : i.toNatClampNeg = n) (h : ∀ j : Nat, j < n → DG (w j) (dgI n P j)) (hx : DG x (Int32.ofNat q)) : ∀ j : Nat, j < n + 1 → DG (upd w i.toNatClampNeg x j) (dgI (n + 1) (4 * P + q) j) := fun j hj => by
  have e := dgr_new n P q hq
  rw [hi]
  by_cases c : j = n
  · subst c
    simp only [upd, if_pos]
    unfold dgI
    rw [e.1]
    exact hx
  · simp only [upd, if_neg c]
    unfold dgI
    rw [e.2 j (by omega)]
    exact h j (by omega)
theorem upd_at {f : Nat → Int32} {i : Nat} {v : Int32} : upd f i v i = v := by simp only [upd, if_pos]
theorem upd_ne {f : Nat → Int32} {i j : Nat} {v : Int32} (h : j ≠ i) : upd f i v j = f j := by simp only [upd, if_neg h]
theorem tree {S L : Nat} {d li vo dd : Nat → Int32} {n SI : Int32} (hn : n.toInt = (L : Nat)) (hSI : SI.toInt = (S : Nat)) (hS : S ≤ 3) (hL : L ≤ 9) (hd : ∀ i : Nat, i < L → d i = li i ∧ 1 ≤ (li i).toInt ∧ (li i).toInt ≤ 9999) (hv : ∀ s : Nat, s < 3 → vo s = dd s ∧ 0 ≤ (dd s).toInt ∧ (dd s).toInt ≤ 400) (l : Nat) : ∀ (p : Nat) (i sp : Int32) (P : Nat) (w g b : Nat → Int32) (lw : Int32) (z : SM), 9 ≤ l + p → p ≤ L → i.toInt = (p : Nat) → (∀ j : Nat, j < p → DG (w j) (dgI p P j)) → okW S (dgr p P) p = true → (∀ s : Nat, s < S → (g s).toInt = (cntW (dgr p P) s p : Nat) ∧ cntW (dgr p P) s p ≤ 3) → 0 ≤ sp.toInt → sp.toInt + 3 * (S : Int) + (cntW (dgr p P) 3 p : Nat) = (L : Nat) → RZ L lw b z → ∃ (w' g' b' : Nat → Int32) (lw' : Int32), tfX d vo n SI l i sp (w, g, lw, b) = (w', g', lw', b') ∧ (∀ j : Nat, j < p → w' j = w j) ∧ (∀ s : Nat, s < S → g' s = g s) ∧ RZ L lw' b' (treG (FD S L dd li) (L - p) P z) := by
  have fin : ∀ (l p : Nat) (i sp : Int32) (P : Nat) (w g b : Nat → Int32) (lw : Int32) (z : SM), p = L → i.toInt = (p : Nat) → (∀ j : Nat, j < p → DG (w j) (dgI p P j)) → okW S (dgr p P) p = true → (∀ s : Nat, s < S → (g s).toInt = (cntW (dgr p P) s p : Nat) ∧ cntW (dgr p P) s p ≤ 3) → 0 ≤ sp.toInt → sp.toInt + 3 * (S : Int) + (cntW (dgr p P) 3 p : Nat) = (L : Nat) → RZ L lw b z → ∃ (w' g' b' : Nat → Int32) (lw' : Int32), tfX d vo n SI l i sp (w, g, lw, b) = (w', g', lw', b') ∧ (∀ j : Nat, j < p → w' j = w j) ∧ (∀ s : Nat, s < S → g' s = g s) ∧ RZ L lw' b' (treG (FD S L dd li) (L - p) P z) := by
    intro l p i sp P w g b lw z hE hi hw hok hg hsp hsum hz
    subst hE
    obtain ⟨lw', b', e, hr⟩ := leaf_D (g := g) hn hSI hS hL hd hv hw hok (fun s hs => (hg s hs).2) (by omega) hz
    refine ⟨w, g, b', lw', ?_, fun _ _ => rfl, fun _ _ => rfl, ?_⟩
    · rw [tfX_end (Or.inl (by omega))]; exact e
    · rw [Nat.sub_self, treG_0]; exact hr
  induction l with
  | zero =>
    intro p i sp P w g b lw z hl hp hi hw hok hg hsp hsum hz
    exact fin 0 p i sp P w g b lw z (by omega) hi hw hok hg hsp hsum hz
  | succ l ih =>
    intro p i sp P w g b lw z hl hp hi hw hok hg hsp hsum hz
    by_cases hE : p = L
    · exact fin (l + 1) p i sp P w g b lw z hE hi hw hok hg hsp hsum hz
    · have h1 : (1 : Int32).toInt = 1 := by decide
      have hic : i.toNatClampNeg = p := by have := i_clamp0 (x := i) (by omega); omega
      have hj : (i + 1).toInt = (p : Int) + 1 := by rw [i_add (by omega) (by omega)]; omega
      have hne : ¬ (n.toInt ≤ i.toInt ∨ 9 ≤ i.toInt) := by omega
      have hSc : SI.toNatClampNeg = S := by have := i_clamp0 (x := SI) (by omega); omega
      have hk1 : L - p = (L - (p + 1)) + 1 := by omega
      have loop : ∀ k : Nat, k ≤ S → ∃ (w' g' b' : Nat → Int32) (lw' : Int32), lpX (tfX d vo n SI l) i sp (w, g, lw, b) k = (w', g', lw', b') ∧ (∀ j : Nat, j < p → w' j = w j) ∧ (∀ s : Nat, s < S → g' s = g s) ∧ RZ L lw' b' (brG (FD S L dd li) (L - (p + 1)) P z k) := by
        intro k
        induction k with
        | zero => intro _; exact ⟨w, g, b, lw, rfl, fun _ _ => rfl, fun _ _ => rfl, hz⟩
        | succ k ihk =>
          intro hk
          obtain ⟨w1, g1, b1, lw1, e1, hw1, hg1, hz1⟩ := ihk (by omega)
          rw [lpX_s, e1]
          have hgk := hg k (by omega)
          have hgk1 := hg1 k (by omega)
          by_cases c : (g1 k).toInt < 3
          · have hk3 : (Int32.ofNat k).toInt = (k : Nat) := Int32.toInt_ofNat_of_lt (by omega)
            obtain ⟨w2, g2, b2, lw2, e2, hw2, hg2, hz2⟩ := ih (p + 1) (i + 1) sp (4 * P + k) (upd w1 i.toNatClampNeg (Int32.ofNat k)) (upd g1 k (g1 k + 1)) b1 lw1 (brG (FD S L dd li) (L - (p + 1)) P z k) (by omega) (by omega) (by rw [hj]; omega) (DG_new (by omega) hic (fun j hj => by rw [hw1 j hj]; exact hw j hj) (Or.inr ⟨by omega, rfl⟩)) (ok_new (by omega) hok (Or.inl (by omega))) (fun s hs => by
              rw [cnt_new (by omega)]
              have hgs := hg s hs
              by_cases q : s = k
              · subst q
                rw [upd_at, if_pos rfl, i_add (by rw [hgk1]; omega) (by rw [hgk1]; omega), hgk1, hgs.1, h1]
                rw [hgk1] at c
                omega
              · rw [upd_ne q, if_neg (fun e => q e.symm), hg1 s hs]
                omega) hsp (by rw [cnt_new (by omega), if_neg (by omega)]; omega) hz1
            refine ⟨w2, upd g2 k (g2 k - 1), b2, lw2, (shX_go c e2.symm rfl).symm, fun j hj => ?_, fun s hs => ?_, hz2⟩
            · rw [hw2 j (by omega), hic, upd_ne (by omega)]
              exact hw1 j hj
            · by_cases q : s = k
              · subst q
                rw [upd_at, hg2 s hs, upd_at, Int32.add_sub_cancel]
                exact hg1 s hs
              · rw [upd_ne q, hg2 s hs, upd_ne q]
                exact hg1 s hs
          · refine ⟨w1, g1, b1, lw1, shX_no (z := (w1, g1, lw1, b1)) c, hw1, hg1, ?_⟩
            show RZ L lw1 b1 (treG (FD S L dd li) (L - (p + 1)) (4 * P + k) (brG (FD S L dd li) (L - (p + 1)) P z k))
            rw [treG_bad (n := p + 1) (k := L - (p + 1)) (by omega) hS (Or.inl ⟨k, by omega, by rw [cnt_new (by omega), if_pos rfl]; rw [hgk1] at c; omega⟩)]
            exact hz1
      obtain ⟨w1, g1, b1, lw1, e1, hw1, hg1, hz1⟩ := loop S (Nat.le_refl _)
      have hb : ∀ m : Nat, S ≤ m → m ≤ 3 → brG (FD S L dd li) (L - (p + 1)) P z m = brG (FD S L dd li) (L - (p + 1)) P z S := by
        intro m
        induction m with
        | zero => intro h _; rw [show S = 0 by omega]
        | succ m ihm =>
          intro h h3
          by_cases q : S = m + 1
          · rw [q]
          · rw [← ihm (by omega) (by omega)]
            show treG (FD S L dd li) (L - (p + 1)) (4 * P + m) _ = _
            exact treG_bad (n := p + 1) (k := L - (p + 1)) (by omega) hS (Or.inr (Or.inl ⟨p, by omega, by rw [(dgr_new p P m (by omega)).1]; omega⟩))
      rw [hk1, treG_s]
      show ∃ (w' g' b' : Nat → Int32) (lw' : Int32), _ ∧ _ ∧ _ ∧ RZ L lw' b' (treG (FD S L dd li) (L - (p + 1)) (4 * P + 3) (brG (FD S L dd li) (L - (p + 1)) P z 3))
      rw [hb 3 hS (Nat.le_refl _)]
      by_cases hs0 : 0 < sp.toInt
      · have hs1 : (sp - 1).toInt = sp.toInt - 1 := by rw [i_sub' (by omega) (by omega), h1]
        obtain ⟨w2, g2, b2, lw2, e2, hw2, hg2, hz2⟩ := ih (p + 1) (i + 1) (sp - 1) (4 * P + 3) (upd w1 i.toNatClampNeg (-1)) g1 b1 lw1 (brG (FD S L dd li) (L - (p + 1)) P z S) (by omega) (by omega) (by rw [hj]; omega) (DG_new (by omega) hic (fun j hj => by rw [hw1 j hj]; exact hw j hj) (Or.inl ⟨by decide, by decide⟩)) (ok_new (by omega) hok (Or.inr rfl)) (fun s hs => by
          rw [cnt_new (by omega), if_neg (by omega), hg1 s hs]
          exact hg s hs) (by omega) (by rw [cnt_new (by omega), if_pos rfl]; omega) hz1
        refine ⟨w2, g2, b2, lw2, ?_, fun j hj => ?_, fun s hs => ?_, hz2⟩
        · rw [tfX_go hne hs0, hSc, e1]
          exact e2
        · rw [hw2 j (by omega), hic, upd_ne (by omega)]
          exact hw1 j hj
        · rw [hg2 s hs]
          exact hg1 s hs
      · refine ⟨w1, g1, b1, lw1, ?_, hw1, hg1, ?_⟩
        · rw [tfX_no hne hs0, hSc]
          exact e1
        · rw [treG_bad (n := p + 1) (k := L - (p + 1)) (by omega) hS (Or.inr (Or.inr (by rw [cnt_new (by omega), if_pos rfl]; omega)))]
          exact hz1
theorem wsI_nn {d v w : Nat → Int32} {n : Nat} : ∀ s : Nat, 0 ≤ (wsI d v w n s).toInt
  | 0 => (by decide : 0 ≤ (0 : Int32).toInt)
  | s + 1 => by
    have ih := wsI_nn (d := d) (v := v) (w := w) (n := n) s
    rw [wsI_s]
    split
    · rename_i h
      have := i_lt.mp h
      omega
    · exact ih
theorem stM_nn {S L : Nat} {d v w : Nat → Int32} {z : SM} (h : 0 ≤ z.1.toInt ∨ vldW S L (wN w) = true) : 0 ≤ (stM S L d v z w).1.toInt := by
  unfold stM
  split
  · exact wsI_nn S
  · rename_i q
    rcases h with h | h
    · exact h
    · by_cases a : z.1.toInt < 0
      · exact absurd ⟨h, Or.inl a⟩ q
      · omega
theorem fdM_nn {S L : Nat} {d v : Nat → Int32} {z : SM} {c : Nat} (h : vldW S L (dgr L c) = true) : ∀ m : Nat, 0 ≤ (fdM S L d v z (c + 1 + m)).1.toInt
  | 0 => by
    rw [Nat.add_zero, fdM_s]
    exact stM_nn (Or.inr (by rw [wN_dgI]; exact h))
  | m + 1 => by
    rw [show c + 1 + (m + 1) = (c + 1 + m) + 1 by omega, fdM_s]
    exact stM_nn (Or.inl (fdM_nn h m))
set_option maxRecDepth 100000 in
theorem ex_way {S L : Nat} (h1 : 1 ≤ S) (h3 : S ≤ 3) (hL : 3 * S ≤ L) (h9 : L ≤ 9) : ∃ c : Nat, c < 4 ^ L ∧ vldW S L (dgr L c) = true := by
  have h : (S = 1 ∧ (L = 3 ∨ L = 4 ∨ L = 5 ∨ L = 6 ∨ L = 7 ∨ L = 8 ∨ L = 9)) ∨ (S = 2 ∧ (L = 6 ∨ L = 7 ∨ L = 8 ∨ L = 9)) ∨ (S = 3 ∧ L = 9) := by omega
  rcases h with ⟨rfl, rfl | rfl | rfl | rfl | rfl | rfl | rfl⟩ | ⟨rfl, rfl | rfl | rfl | rfl⟩ | ⟨rfl, rfl⟩
  · exact ⟨0, by decide, by decide⟩
  · exact ⟨3, by decide, by decide⟩
  · exact ⟨15, by decide, by decide⟩
  · exact ⟨63, by decide, by decide⟩
  · exact ⟨255, by decide, by decide⟩
  · exact ⟨1023, by decide, by decide⟩
  · exact ⟨4095, by decide, by decide⟩
  · exact ⟨21, by decide, by decide⟩
  · exact ⟨87, by decide, by decide⟩
  · exact ⟨351, by decide, by decide⟩
  · exact ⟨1407, by decide, by decide⟩
  · exact ⟨1386, by decide, by decide⟩
theorem DEAL {S L : Nat} {d li vo dd w b b' dt dt' : Nat → Int32} {n SI rx rm : Int32} (hn : n.toInt = (L : Nat)) (hSI : SI.toInt = (S : Nat)) (h1 : 1 ≤ S) (hS : S ≤ 3) (hL3 : 3 * S ≤ L) (hL : L ≤ 9) (hd : ∀ i : Nat, i < L → d i = li i ∧ 1 ≤ (li i).toInt ∧ (li i).toInt ≤ 9999) (hv : ∀ s : Nat, s < 3 → vo s = dd s ∧ 0 ≤ (dd s).toInt ∧ (dd s).toInt ≤ 400) (hx : SHX d vo w b n SI rx b') (hm : ((rm, dt') : SM) = fdM S L dd li ((-1), dt) (4 ^ L)) : rx = rm ∧ ∀ i : Nat, i < L → DG (b' i) (dt' i) := by
  obtain ⟨g, w', g', hg0, e⟩ := hx
  have h0 : (0 : Int32).toInt = 0 := by decide
  have h3 : (3 : Int32).toInt = 3 := by decide
  have hsp : (n - 3 * SI).toInt = (L : Int) - 3 * (S : Int) := by
    have hm3 : (3 * SI).toInt = 3 * (S : Int) := g_mul h3 hSI (by omega) (by omega)
    exact g_sub hn hm3 (by omega) (by omega)
  obtain ⟨w2, g2, b2, lw2, e2, -, -, hz⟩ := tree (li := li) (dd := dd) hn hSI hS hL hd hv 9 0 0 (n - 3 * SI) 0 w g b 2000000000 ((-1), dt) (by omega) (by omega) h0 (fun j hj => by omega) rfl (fun s hs => ⟨hg0 s (by omega), by show 0 ≤ 3; omega⟩) (by omega) (by show (n - 3 * SI).toInt + 3 * (S : Int) + ((0 : Nat) : Int) = _; omega) (Or.inl ⟨(by decide : (-1 : Int32).toInt < 0), by decide⟩)
  rw [e2] at e
  have e3 : rx = lw2 ∧ b' = b2 := by
    have q1 := congrArg (fun t : TS => t.2.2.1) e
    have q2 := congrArg (fun t : TS => t.2.2.2) e
    exact ⟨q1, q2⟩
  rw [Nat.sub_zero] at hz
  have e4 : treG (FD S L dd li) L 0 ((-1), dt) = (rm, dt') := by
    rw [hm, fdM_G]
    unfold treG
    rw [Nat.zero_mul]
  rw [e4] at hz
  obtain ⟨c, hc, hvl⟩ := ex_way h1 hS hL3 hL
  have hnn := fdM_nn (d := dd) (v := li) (z := ((-1), dt)) hvl (4 ^ L - (c + 1))
  rw [show c + 1 + (4 ^ L - (c + 1)) = 4 ^ L by omega, ← hm] at hnn
  rw [e3.1, e3.2]
  rcases hz with ⟨a, a2⟩ | ⟨a, a2, a3, a4⟩
  · exfalso
    have : (((rm, dt') : SM).1).toInt = rm.toInt := rfl
    have a' : rm.toInt < 0 := a
    have hnn' : 0 ≤ rm.toInt := hnn
    omega
  · exact ⟨a3, a4⟩
