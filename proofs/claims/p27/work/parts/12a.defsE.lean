/-! ===== what the class's parts answer, as functions ===== -/
def offS (sg fr to bv od : Nat → Int32) (src day k : Int32) : Nat → Int32
  | 0 => 0
  | i + 1 => if (sg i).toInt = src.toInt ∧ ((fr i).toInt ≤ day.toInt ∧ day.toInt ≤ (to i).toInt) ∧ (k.toInt = -1 ∨ (od i).toInt ≤ k.toInt) then offS sg fr to bv od src day k i + bv i else offS sg fr to bv od src day k i
theorem offS_succ (sg fr to bv od : Nat → Int32) (src day k : Int32) (i : Nat) : offS sg fr to bv od src day k (i + 1) = if (sg i).toInt = src.toInt ∧ ((fr i).toInt ≤ day.toInt ∧ day.toInt ≤ (to i).toInt) ∧ (k.toInt = -1 ∨ (od i).toInt ≤ k.toInt) then offS sg fr to bv od src day k i + bv i else offS sg fr to bv od src day k i := rfl
def sumF (sg fr to bv od : Nat → Int32) (n src day k : Int32) : Int32 := if src.toInt = 0 then 0 else offS sg fr to bv od src day k n.toNatClampNeg
def eX (f0 f1 sg fr to bv od : Nat → Int32) (n day k : Int32) : Int32 :=
  if (0 ≤ day.toInt ∧ day.toInt ≤ 399) ∧ (f1 day.toNatClampNeg).toInt ≠ -1 then f0 day.toNatClampNeg - sumF sg fr to bv od n (f1 day.toNatClampNeg) day k else -2000000000
def mkX (f2 : Nat → Int32) (day m : Int32) : Prop := (0 ≤ day.toInt ∧ day.toInt ≤ 399) ∧ (f2 day.toNatClampNeg &&& m).toInt ≠ 0
def rbX (f2 : Nat → Int32) (day e e2 : Int32) : Int32 :=
  if e.toInt = -2000000000 ∨ e2.toInt = -2000000000 ∨ ¬ (-999 ≤ (e2 - e).toInt ∧ (e2 - e).toInt ≤ 999) then -2000000000
  else if ((0 ≤ day.toInt ∧ day.toInt ≤ 399) ∧ (f2 day.toNatClampNeg &&& 2).toInt ≠ 0) ∨ ((0 ≤ (day + 1).toInt ∧ (day + 1).toInt ≤ 399) ∧ (f2 (day + 1).toNatClampNeg &&& 3).toInt ≠ 0) then -2000000000 else e2 - e
def rX (f0 f1 f2 sg fr to bv od : Nat → Int32) (n day k : Int32) : Int32 := rbX f2 day (eX f0 f1 sg fr to bv od n day k) (eX f0 f1 sg fr to bv od n (day + 1) k)
def ageN (f : Nat → Int32) : Nat → Int
  | 0 => 0
  | d + 1 => if (f (d + 1) &&& 1).toInt ≠ 0 then 0 else ageN f d + 1
theorem ageN_succ (f : Nat → Int32) (d : Nat) : ageN f (d + 1) = if (f (d + 1) &&& 1).toInt ≠ 0 then 0 else ageN f d + 1 := rfl
def awN (f : Nat → Int32) : Nat → Int
  | 0 => 0
  | d + 1 => awN f d + (if (f d).toInt = -1 then 0 else 1)
theorem awN_succ (f : Nat → Int32) (d : Nat) : awN f (d + 1) = awN f d + (if (f d).toInt = -1 then 0 else 1) := rfl
/-- from day a on another holder -/
def GIV (f g : Nat → Int32) (a : Int) (v : Int32) : Prop := ∀ k : Nat, k < 400 → g k = if a ≤ (k : Int) then v else f k
def GIVl (f g : Nat → Int32) (a b : Int) (v : Int32) : Prop := ∀ k : Nat, k < 400 → g k = if a ≤ (k : Int) ∧ (k : Int) < b then v else f k
theorem GIVl_0 {f : Nat → Int32} {a b : Int} {v : Int32} (h : a = b) : GIVl f f a b v := fun k _ => by rw [if_neg (by omega)]
theorem GIVl_s {f g : Nat → Int32} {a b b2 : Int} {v i : Int32} (h : GIVl f g a b v) (h0 : 0 ≤ i.toInt) (hab : a ≤ b) (hi : i.toInt = b) (hb : b2 = b + 1) : GIVl f (upd g i.toNatClampNeg v) a b2 v := fun k hk => by
  have hc := i_clamp0 h0
  unfold upd
  by_cases e : k = i.toNatClampNeg
  · rw [if_pos e, if_pos (by omega)]
  · rw [if_neg e, h k hk]
    by_cases q : a ≤ (k : Int) ∧ (k : Int) < b
    · rw [if_pos q, if_pos (by omega)]
    · rw [if_neg q, if_neg (by omega)]
theorem GIVl_e {f g : Nat → Int32} {a b : Int} {v : Int32} (h : GIVl f g a b v) (hb : 400 ≤ b) : GIV f g a v := fun k hk => by
  rw [h k hk]
  by_cases q : a ≤ (k : Int)
  · rw [if_pos q, if_pos (by omega)]
  · rw [if_neg q, if_neg (by omega)]
/-- as new -/
def NEW4 (a b c d : Nat → Int32) (n : Int) : Prop := ∀ k : Nat, (k : Int) < n → a k = 0 ∧ b k = -1 ∧ c k = 0 ∧ d k = -1
theorem NEW4_0 {a b c d : Nat → Int32} {n : Int} (h : n ≤ 0) : NEW4 a b c d n := fun k hk => by omega
theorem NEW4_s {a b c d : Nat → Int32} {n n2 : Int} {i : Int32} (h : NEW4 a b c d n) (h0 : 0 ≤ i.toInt) (hi : i.toInt = n) (hn : n2 = n + 1) : NEW4 (upd a i.toNatClampNeg 0) (upd b i.toNatClampNeg (-1)) (upd c i.toNatClampNeg 0) (upd d i.toNatClampNeg (-1)) n2 := fun k hk => by
  have hc := i_clamp0 h0
  unfold upd
  by_cases e : k = i.toNatClampNeg
  · simp [e]
  · simp only [if_neg e]
    exact h k (by omega)
theorem age_back {f : Nat → Int32} {a : Int} {m : Int32} {n : Nat} (hn : (n : Int) = m.toInt) (h1 : 1 ≤ m.toInt) (ha : a = ageN f n) (hz : (f m.toNatClampNeg &&& 1).toInt = 0) : a - 1 = ageN f (n - 1) := by
  have hc := i_clamp0 (x := m) (by omega)
  obtain ⟨k, rfl⟩ : ∃ k, n = k + 1 := ⟨n - 1, by omega⟩
  rw [ageN_succ, show k + 1 = m.toNatClampNeg by omega, if_neg (by rw [hz]; simp)] at ha
  have e : k + 1 - 1 = k := by omega
  rw [e]
  omega
theorem age_here {f : Nat → Int32} {m : Int32} {n : Nat} (hn : (n : Int) = m.toInt) (h1 : 1 ≤ m.toInt) (hz : (f m.toNatClampNeg &&& 1).toInt ≠ 0) : ageN f n = 0 := by
  have hc := i_clamp0 (x := m) (by omega)
  obtain ⟨k, rfl⟩ : ∃ k, n = k + 1 := ⟨n - 1, by omega⟩
  rw [ageN_succ, show k + 1 = m.toNatClampNeg by omega, if_pos hz]
/-- the rates of days p, p + 1 .. , in their order: day and rate -/
def rateL (R : Int32 → Int32) (p : Int32) : Nat → List (Int32 × Int32)
  | 0 => []
  | j + 1 => if (R (p + nI j)).toInt = -2000000000 then rateL R p j else rateL R p j ++ [(p + nI j, R (p + nI j))]
theorem rateL_succ (R : Int32 → Int32) (p : Int32) (j : Nat) : rateL R p (j + 1) = if (R (p + nI j)).toInt = -2000000000 then rateL R p j else rateL R p j ++ [(p + nI j, R (p + nI j))] := rfl
/-- two rows hold a list -/
def HOLDS (d v : Nat → Int32) (n : Int32) (l : List (Int32 × Int32)) : Prop := n.toInt = l.length ∧ ∀ i : Nat, i < l.length → l[i]? = some (d i, v i)
theorem HOLDS_0 {d v : Nat → Int32} {n : Int32} (h : n.toInt = 0) : HOLDS d v n [] := ⟨by rw [h]; rfl, fun i hi => absurd hi (Nat.not_lt_zero i)⟩
theorem HOLDS_s {d v : Nat → Int32} {n n2 x y : Int32} {l : List (Int32 × Int32)} (h : HOLDS d v n l) (h0 : 0 ≤ n.toInt) (hn : n2.toInt = n.toInt + 1) : HOLDS (upd d n.toNatClampNeg x) (upd v n.toNatClampNeg y) n2 (l ++ [(x, y)]) := by
  have hc := i_clamp0 h0
  have hl := h.1
  refine ⟨by rw [List.length_append]; simp; omega, fun i hi => ?_⟩
  rw [List.length_append] at hi
  simp at hi
  unfold upd
  by_cases e : i = n.toNatClampNeg
  · subst e
    rw [if_pos rfl, if_pos rfl, List.getElem?_append_right (by omega), show n.toNatClampNeg - l.length = 0 by omega]
    rfl
  · rw [if_neg e, if_neg e, List.getElem?_append_left (by omega)]
    exact h.2 i (by omega)
theorem rate_step {R : Int32 → Int32} {p L z : Int32} (h0 : 0 ≤ p.toInt) (h1 : p.toInt ≤ L.toInt) (h2 : z.toInt = L.toInt + 1) : rateL R p (z.toInt - p.toInt).toNat = if (R L).toInt = -2000000000 then rateL R p (L.toInt - p.toInt).toNat else rateL R p (L.toInt - p.toInt).toNat ++ [(L, R L)] := by
  have e : (z.toInt - p.toInt).toNat = (L.toInt - p.toInt).toNat + 1 := by omega
  rw [e, rateL_succ, day_at h1 h0]
theorem rateL_len (R : Int32 → Int32) (p : Int32) : ∀ j : Nat, (rateL R p j).length ≤ j
  | 0 => Nat.le_refl 0
  | j + 1 => by
    have h := rateL_len R p j
    rw [rateL_succ]
    split
    · omega
    · rw [List.length_append]; simp; omega
def rXn (f0 f1 f2 sg fr to bv od : Nat → Int32) (n : Int32) : Int32 → Int32 := fun d => rX f0 f1 f2 sg fr to bv od n d (-1)
def minF (f : Nat → Int32) : Nat → Int
  | 0 => 999
  | k + 1 => if (f k).toInt < minF f k then (f k).toInt else minF f k
theorem minF_succ (f : Nat → Int32) (k : Nat) : minF f (k + 1) = if (f k).toInt < minF f k then (f k).toInt else minF f k := rfl
def maxF (f : Nat → Int32) : Nat → Int
  | 0 => -999
  | k + 1 => if maxF f k < (f k).toInt then (f k).toInt else maxF f k
theorem maxF_succ (f : Nat → Int32) (k : Nat) : maxF f (k + 1) = if maxF f k < (f k).toInt then (f k).toInt else maxF f k := rfl
def sumI (f : Nat → Int32) : Nat → Int32
  | 0 => 0
  | k + 1 => sumI f k + f k
theorem sumI_succ (f : Nat → Int32) (k : Nat) : sumI f (k + 1) = sumI f k + f k := rfl
/-- the reference: a row's stretch is filled -/
def FIL (f g : Nat → Int32) (a b : Int) (v : Int32) : Prop := ∀ k : Nat, g k = if a ≤ (k : Int) ∧ (k : Int) < b then v else f k
theorem FIL_0 {f : Nat → Int32} {a b : Int} {v : Int32} (h : b ≤ a) : FIL f f a b v := fun k => by rw [if_neg (by omega)]
theorem FIL_s {f g : Nat → Int32} {a b b2 : Int} {v w i : Int32} (h : FIL f g a b v) (h0 : 0 ≤ i.toInt) (hab : a ≤ b) (hi : i.toInt = b) (hb : b2 = b + 1) (hw : w = v) : FIL f (upd g i.toNatClampNeg w) a b2 v := fun k => by
  have hc := i_clamp0 h0
  unfold upd
  by_cases e : k = i.toNatClampNeg
  · rw [if_pos e, if_pos (by omega), hw]
  · rw [if_neg e, h k]
    by_cases q : a ≤ (k : Int) ∧ (k : Int) < b
    · rw [if_pos q, if_pos (by omega)]
    · rw [if_neg q, if_neg (by omega)]
theorem FIL_c {f g : Nat → Int32} {a b c : Int} {v : Int32} (h : FIL f g a b v) (hc : b = c) : FIL f g a c v := by subst hc; exact h
/-- days go by: holders of days t0 + 1 .. t1 (of the first n places one more) are those of t0 -/
def HD2 (f g : Nat → Int32) (t0 t1 n : Int) : Prop := ∀ p d : Nat, p < 16 → d < 400 → g (400 * p + d) = if t0 < (d : Int) ∧ ((d : Int) ≤ t1 ∨ ((d : Int) = t1 + 1 ∧ (p : Int) < n)) then f (400 * p + t0.toNat) else f (400 * p + d)
theorem HD2_0 {f : Nat → Int32} {t0 t1 : Int} (h : t0 = t1) : HD2 f f t0 t1 0 := fun p d hp hd => by rw [if_neg (by omega)]
theorem HD2_e {f g : Nat → Int32} {t0 t1 t2 n : Int} (h : HD2 f g t0 t1 n) (hn : 16 ≤ n) (ht : t2 = t1 + 1) : HD2 f g t0 t2 0 := fun p d hp hd => by
  rw [h p d hp hd]
  by_cases q : t0 < (d : Int) ∧ ((d : Int) ≤ t1 ∨ ((d : Int) = t1 + 1 ∧ (p : Int) < n))
  · rw [if_pos q, if_pos (by omega)]
  · rw [if_neg q, if_neg (by omega)]
theorem HD2_s {f g : Nat → Int32} {t0 : Int} {t1 : Int32} {n n2 : Int} {i : Nat} {v : Int32} (h : HD2 f g t0 t1.toInt n) (h0 : 0 ≤ t0) (h01 : t0 ≤ t1.toInt) (ht : t1.toInt < 399) (hn : 0 ≤ n ∧ n < 16) (hi : (i : Int) = 400 * n + t1.toInt + 1) (hv : v = g (400 * n + t1.toInt).toNat) (hn2 : n2 = n + 1) : HD2 f (upd g i v) t0 t1.toInt n2 := fun p d hp hd => by
  unfold upd
  have hg := h n.toNat t1.toInt.toNat (by omega) (by omega)
  rw [show 400 * n.toNat + t1.toInt.toNat = (400 * n + t1.toInt).toNat by omega, ← hv] at hg
  by_cases e : 400 * p + d = i
  · rw [if_pos e, if_pos (by omega), hg]
    by_cases q : t0 = t1.toInt
    · rw [if_neg (by omega)]
      congr 1
      omega
    · rw [if_pos (by omega)]
      congr 1
      omega
  · rw [if_neg e, h p d hp hd]
    by_cases q : t0 < (d : Int) ∧ ((d : Int) ≤ t1.toInt ∨ ((d : Int) = t1.toInt + 1 ∧ (p : Int) < n))
    · rw [if_pos q, if_pos (by omega)]
    · rw [if_neg q, if_neg (by omega)]
def agM (f : Nat → Int32) (b : Nat) : Nat → Int
  | 0 => 0
  | d + 1 => if (f (b + (d + 1))).toInt ≠ 0 then 0 else agM f b d + 1
theorem agM_succ (f : Nat → Int32) (b d : Nat) : agM f b (d + 1) = if (f (b + (d + 1))).toInt ≠ 0 then 0 else agM f b d + 1 := rfl
theorem agm_here {f : Nat → Int32} {b n : Nat} (hz : (f (b + n)).toInt ≠ 0) : agM f b n = 0 := by
  cases n with
  | zero => rfl
  | succ d => rw [agM_succ, if_pos hz]
theorem agm_back {f : Nat → Int32} {b : Nat} {p x y : Int32} (h : (0 ≤ x.toInt ∧ agM f b p.toInt.toNat - (p.toInt - x.toInt) = agM f b x.toInt.toNat) ∨ (x.toInt = -1 ∧ agM f b p.toInt.toNat = p.toInt)) (h0 : 0 ≤ x.toInt) (hx : x.toInt ≤ 399) (hz : (f (b + x.toInt.toNat)).toInt = 0) (hy : y.toInt = x.toInt - 1) : (0 ≤ y.toInt ∧ agM f b p.toInt.toNat - (p.toInt - y.toInt) = agM f b y.toInt.toNat) ∨ (y.toInt = -1 ∧ agM f b p.toInt.toNat = p.toInt) := by
  have h1 : agM f b p.toInt.toNat - (p.toInt - x.toInt) = agM f b x.toInt.toNat := by omega
  by_cases q : x.toInt = 0
  · refine Or.inr ⟨by omega, ?_⟩
    rw [q] at h1
    have e : agM f b (0 : Int).toNat = 0 := rfl
    omega
  · obtain ⟨k, hk⟩ : ∃ k : Nat, x.toInt.toNat = k + 1 := ⟨x.toInt.toNat - 1, by omega⟩
    rw [hk, agM_succ, ← hk, if_neg (by omega)] at h1
    refine Or.inl ⟨by omega, ?_⟩
    rw [show y.toInt.toNat = k by omega]
    omega
/-- how many rates differ -/
def chN (A B : Int32 → Int32) (p : Int32) : Nat → Int
  | 0 => 0
  | j + 1 => chN A B p j + (if (A (p + nI j)).toInt = (B (p + nI j)).toInt then 0 else 1)
theorem chN_succ (A B : Int32 → Int32) (p : Int32) (j : Nat) : chN A B p (j + 1) = chN A B p j + (if (A (p + nI j)).toInt = (B (p + nI j)).toInt then 0 else 1) := rfl
theorem chN_step {A B : Int32 → Int32} {p L z : Int32} (h0 : 0 ≤ p.toInt) (h1 : p.toInt ≤ L.toInt) (h2 : z.toInt = L.toInt + 1) : chN A B p (z.toInt - p.toInt).toNat = chN A B p (L.toInt - p.toInt).toNat + (if (A L).toInt = (B L).toInt then 0 else 1) := by
  have e : (z.toInt - p.toInt).toNat = (L.toInt - p.toInt).toNat + 1 := by omega
  rw [e, chN_succ, day_at h1 h0]
def awM (f : Nat → Int32) (b : Nat) : Nat → Int
  | 0 => 0
  | d + 1 => awM f b d + (if (f (b + d)).toInt = -1 then 0 else 1)
theorem awM_succ (f : Nat → Int32) (b d : Nat) : awM f b (d + 1) = awM f b d + (if (f (b + d)).toInt = -1 then 0 else 1) := rfl
def cnW (f : Nat → Int32) : Nat → Int
  | 0 => 0
  | d + 1 => cnW f d + (if (f d).toInt = 0 ∨ (f d).toInt = 1 then 1 else 0)
theorem cnW_succ (f : Nat → Int32) (d : Nat) : cnW f (d + 1) = cnW f d + (if (f d).toInt = 0 ∨ (f d).toInt = 1 then 1 else 0) := rfl
def cnS (f : Nat → Int32) : Nat → Int
  | 0 => 0
  | d + 1 => cnS f d + (if (f d).toInt = 1 then 1 else 0)
theorem cnS_succ (f : Nat → Int32) (d : Nat) : cnS f (d + 1) = cnS f d + (if (f d).toInt = 1 then 1 else 0) := rfl
def cnG (f : Nat → Int32) : Nat → Int
  | 0 => 0
  | d + 1 => cnG f d + (if (f d).toInt = 2 then 1 else 0)
theorem cnG_succ (f : Nat → Int32) (d : Nat) : cnG f (d + 1) = cnG f d + (if (f d).toInt = 2 then 1 else 0) := rfl
def cnK (f : Nat → Int32) (v : Int) : Nat → Int
  | 0 => 0
  | d + 1 => cnK f v d + (if (f d).toInt = v then 1 else 0)
theorem cnK_succ (f : Nat → Int32) (v : Int) (d : Nat) : cnK f v (d + 1) = cnK f v d + (if (f d).toInt = v then 1 else 0) := rfl
def ask3 (a b c : Int32) : Nat → Int32
  | 0 => a
  | 1 => b
  | _ => c
theorem ask_u {f : Nat → Int32} {a b c : Int32} : ∀ k : Nat, k < 3 → upd (upd (upd f (0 : Int32).toNatClampNeg a) (1 : Int32).toNatClampNeg b) (2 : Int32).toNatClampNeg c k = ask3 a b c k := by
  intro k hk
  have e0 : (0 : Int32).toNatClampNeg = 0 := by decide
  have e1 : (1 : Int32).toNatClampNeg = 1 := by decide
  have e2 : (2 : Int32).toNatClampNeg = 2 := by decide
  rw [e0, e1, e2]
  unfold upd
  rcases (show k = 0 ∨ k = 1 ∨ k = 2 by omega) with rfl | rfl | rfl
  · rfl
  · rfl
  · rfl
/-- the holders of places g 0, g 1 .. on day t are v -/
def hseq (f g : Nat → Int32) (t v : Int32) : Nat → Nat → Int32
  | 0 => f
  | i + 1 => upd (hseq f g t v i) (400 * g i + t).toNatClampNeg v
theorem hseq_succ (f g : Nat → Int32) (t v : Int32) (i : Nat) : hseq f g t v (i + 1) = upd (hseq f g t v i) (400 * g i + t).toNatClampNeg v := rfl
theorem hseq_congr {f g g' : Nat → Int32} {t v : Int32} {m : Nat} (h : ∀ k : Nat, k < m → g k = g' k) : ∀ n : Nat, n ≤ m → hseq f g t v n = hseq f g' t v n
  | 0, _ => rfl
  | n + 1, hn => by rw [hseq_succ, hseq_succ, hseq_congr h n (by omega), h n (by omega)]
def cseq (f g : Nat → Int32) (s : Int32) : Nat → Nat → Int32
  | 0 => f
  | i + 1 => upd (cseq f g s i) (3 * (s).toNatClampNeg + i) (g i)
theorem cseq_succ (f g : Nat → Int32) (s : Int32) (i : Nat) : cseq f g s (i + 1) = upd (cseq f g s i) (3 * (s).toNatClampNeg + i) (g i) := rfl
theorem cseq_congr {f g g' : Nat → Int32} {s : Int32} {m : Nat} (h : ∀ k : Nat, k < m → g k = g' k) : ∀ n : Nat, n ≤ m → cseq f g s n = cseq f g' s n
  | 0, _ => rfl
  | n + 1, hn => by rw [cseq_succ, cseq_succ, cseq_congr h n (by omega), h n (by omega)]
theorem u_at {f : Nat → Int32} {i : Nat} {v : Int32} : upd f i v i = v := by unfold upd; rw [if_pos rfl]
theorem u_ne {f : Nat → Int32} {i k : Nat} {v : Int32} (h : k ≠ i) : upd f i v k = f k := by unfold upd; rw [if_neg h]
/-! ===== rows in their order ===== -/
def insA (r : Int32) : Nat → (Nat → Int32) → Nat → Int32
  | 0, f => upd f 0 r
  | k + 1, f => if r.toInt < (f k).toInt then insA r k (upd f (k + 1) (f k)) else upd f (k + 1) r
theorem insA_0 (r : Int32) (f : Nat → Int32) : insA r 0 f = upd f 0 r := rfl
theorem insA_s (r : Int32) (k : Nat) (f : Nat → Int32) : insA r (k + 1) f = if r.toInt < (f k).toInt then insA r k (upd f (k + 1) (f k)) else upd f (k + 1) r := rfl
def srtA (v f : Nat → Int32) : Nat → Nat → Int32
  | 0 => f
  | i + 1 => insA (v i) i (srtA v f i)
theorem srtA_s (v f : Nat → Int32) (i : Nat) : srtA v f (i + 1) = insA (v i) i (srtA v f i) := rfl
theorem insA_above {r : Int32} : ∀ (k : Nat) (f : Nat → Int32) (j : Nat), k < j → insA r k f j = f j
  | 0, f, j, h => by rw [insA_0, u_ne (by omega)]
  | k + 1, f, j, h => by
    rw [insA_s]
    split
    · rw [insA_above k _ j (by omega), u_ne (by omega)]
    · rw [u_ne (by omega)]
theorem insA_congr {r : Int32} : ∀ (k : Nat) (f g : Nat → Int32), (∀ i : Nat, i < k → f i = g i) → ∀ i : Nat, i ≤ k → insA r k f i = insA r k g i
  | 0, f, g, _, i, hi => by rw [insA_0, insA_0, show i = 0 by omega, u_at, u_at]
  | k + 1, f, g, h, i, hi => by
    rw [insA_s, insA_s, ← h k (by omega)]
    split
    · by_cases e : i = k + 1
      · subst e
        rw [insA_above k _ _ (by omega), insA_above k _ _ (by omega), u_at, u_at]
      · exact insA_congr k _ _ (fun j hj => by rw [u_ne (by omega), u_ne (by omega)]; exact h j (by omega)) i (by omega)
    · by_cases e : i = k + 1
      · subst e
        rw [u_at, u_at]
      · rw [u_ne e, u_ne e]
        exact h i (by omega)
theorem srtA_congr {v w f g : Nat → Int32} : ∀ (n : Nat), (∀ i : Nat, i < n → v i = w i) → ∀ i : Nat, i < n → srtA v f n i = srtA w g n i
  | 0, _, i, hi => by omega
  | n + 1, h, i, hi => by
    rw [srtA_s, srtA_s, h n (by omega)]
    exact insA_congr n _ _ (srtA_congr n (fun j hj => h j (by omega))) i (by omega)
def SRT (f : Nat → Int32) (n : Nat) : Prop := ∀ i : Nat, i + 1 < n → (f i).toInt ≤ (f (i + 1)).toInt
theorem SRT_le {f : Nat → Int32} {n : Nat} (h : SRT f n) : ∀ j : Nat, j < n → (f 0).toInt ≤ (f j).toInt
  | 0, _ => Int.le_refl _
  | j + 1, hj => Int.le_trans (SRT_le h j (by omega)) (h j hj)
theorem insA_srt {r : Int32} : ∀ (k : Nat) (f : Nat → Int32), SRT f k → SRT (insA r k f) (k + 1) ∧ (k = 0 → (insA r k f 0).toInt = r.toInt ∧ (insA r k f k).toInt = r.toInt) ∧ (∀ j : Nat, k = j + 1 → (insA r k f k).toInt = (if r.toInt < (f j).toInt then (f j).toInt else r.toInt) ∧ (insA r k f 0).toInt = (if r.toInt < (f 0).toInt then r.toInt else (f 0).toInt))
  | 0, f, _ => by
    refine ⟨fun i hi => by omega, fun _ => ?_, fun j hj => by omega⟩
    rw [insA_0, u_at]
    exact ⟨rfl, rfl⟩
  | k + 1, f, h => by
    have hk : SRT f k := fun i hi => h i (by omega)
    have hk' : SRT (upd f (k + 1) (f k)) k := fun i hi => by
      rw [u_ne (by omega), u_ne (by omega)]; exact h i (by omega)
    obtain ⟨a1, a2, a3⟩ := insA_srt (r := r) k (upd f (k + 1) (f k)) hk'
    rw [insA_s]
    by_cases c : r.toInt < (f k).toInt
    · rw [if_pos c]
      have top : (insA r k (upd f (k + 1) (f k)) (k + 1)).toInt = (f k).toInt := by rw [insA_above k _ _ (by omega), u_at]
      refine ⟨fun i hi => ?_, fun e => by omega, fun j hj => ?_⟩
      · by_cases e : i + 1 = k + 1
        · have e2 : i = k := by omega
          subst e2
          rw [top]
          rcases Nat.eq_zero_or_pos i with z | z
          · rw [z]
            have := (a2 z).1
            rw [z] at this c
            omega
          · obtain ⟨m, rfl⟩ : ∃ m, i = m + 1 := ⟨i - 1, by omega⟩
            have b := (a3 m rfl).1
            rw [u_ne (by omega)] at b
            have g := h m (by omega)
            rw [b]
            split <;> omega
        · exact a1 i (by omega)
      · have e : j = k := by omega
        subst e
        refine ⟨by rw [top, if_pos c], ?_⟩
        rcases Nat.eq_zero_or_pos j with z | z
        · subst z
          rw [if_pos c]
          exact (a2 rfl).1
        · obtain ⟨m, rfl⟩ : ∃ m, j = m + 1 := ⟨j - 1, by omega⟩
          have b := (a3 m rfl).2
          rw [u_ne (by omega)] at b
          exact b
    · rw [if_neg c]
      refine ⟨fun i hi => ?_, fun e => by omega, fun j hj => ?_⟩
      · rw [u_ne (show i ≠ k + 1 by omega)]
        by_cases e : i + 1 = k + 1
        · rw [e, u_at, show i = k by omega]; omega
        · rw [u_ne e]; exact h i (by omega)
      · have e : j = k := by omega
        subst e
        rw [u_at, u_ne (by omega), if_neg c]
        refine ⟨rfl, ?_⟩
        have g := SRT_le h j (by omega)
        rw [if_neg (by omega)]
theorem srtA_srt {v f : Nat → Int32} : ∀ n : Nat, SRT (srtA v f n) n
  | 0 => fun i hi => by omega
  | n + 1 => (insA_srt n _ (srtA_srt n)).1
theorem srtA_min {v f : Nat → Int32} : ∀ n : Nat, (∀ i : Nat, i < n + 1 → (v i).toInt ≤ 999) → (srtA v f (n + 1) 0).toInt = minF v (n + 1)
  | 0, h => by
    have := h 0 (by omega)
    rw [srtA_s, minF_succ]
    show (insA (v 0) 0 _ 0).toInt = if (v 0).toInt < 999 then (v 0).toInt else 999
    rw [insA_0, u_at]
    split <;> omega
  | n + 1, h => by
    have ih := srtA_min (v := v) (f := f) n (fun i hi => h i (by omega))
    rw [srtA_s, minF_succ, ((insA_srt (r := v (n + 1)) (n + 1) _ (srtA_srt (v := v) (f := f) (n + 1))).2.2 n rfl).2, ih]
theorem srtA_max {v f : Nat → Int32} : ∀ n : Nat, (∀ i : Nat, i < n + 1 → -999 ≤ (v i).toInt) → (srtA v f (n + 1) n).toInt = maxF v (n + 1)
  | 0, h => by
    have := h 0 (by omega)
    rw [srtA_s, maxF_succ]
    show (insA (v 0) 0 _ 0).toInt = if -999 < (v 0).toInt then (v 0).toInt else -999
    rw [insA_0, u_at]
    split <;> omega
  | n + 1, h => by
    have ih := srtA_max (v := v) (f := f) n (fun i hi => h i (by omega))
    rw [srtA_s, maxF_succ, ((insA_srt (r := v (n + 1)) (n + 1) _ (srtA_srt (v := v) (f := f) (n + 1))).2.2 n rfl).1, ih]
    split
    · rw [if_neg (by omega)]
    · split <;> omega
theorem insA_go {g : Nat → Int32} {r v : Int32} {k j : Nat} (hk : k = j + 1) (hv : v = g j) (hc : r.toInt < (g j).toInt) : insA r j (upd g k v) = insA r k g := by
  subst hk
  rw [hv, insA_s, if_pos hc]
theorem insA_end {g : Nat → Int32} {r : Int32} {k : Nat} (h : k = 0 ∨ ∃ j : Nat, k = j + 1 ∧ ¬ r.toInt < (g j).toInt) : upd g k r = insA r k g := by
  rcases h with h | ⟨j, h, hc⟩
  · subst h; rfl
  · subst h
    rw [insA_s, if_neg hc]
theorem srtA_ext {v w f : Nat → Int32} : ∀ (n : Nat), (∀ i : Nat, i < n → v i = w i) → srtA v f n = srtA w f n
  | 0, _ => rfl
  | n + 1, h => by rw [srtA_s, srtA_s, srtA_ext n (fun i hi => h i (by omega)), h n (by omega)]
/-- the farthest from the middle so far, and its day -/
def farF (d v : Nat → Int32) (m b d0 : Int32) : Nat → Int32 × Int32
  | 0 => (b, d0)
  | k + 1 => if (farF d v m b d0 k).1.toInt < (szF (v k - m)).toInt then (szF (v k - m), d k) else farF d v m b d0 k
theorem farF_s (d v : Nat → Int32) (m b d0 : Int32) (k : Nat) : farF d v m b d0 (k + 1) = if (farF d v m b d0 k).1.toInt < (szF (v k - m)).toInt then (szF (v k - m), d k) else farF d v m b d0 k := rfl
theorem farF_rel {d v d' v' : Nat → Int32} {m b : Int32} : ∀ n : Nat, (∀ i : Nat, i < n → d i = d' i ∧ v i = v' i ∧ 0 ≤ (d i).toInt) → (farF d v m b (-1) n).1 = (farF d' v' m b (-4) n).1 ∧ (((farF d v m b (-1) n).2.toInt = -1 ∧ (farF d' v' m b (-4) n).2.toInt = -4) ∨ ((farF d v m b (-1) n).2 = (farF d' v' m b (-4) n).2 ∧ 0 ≤ (farF d v m b (-1) n).2.toInt))
  | 0, _ => ⟨rfl, Or.inl ⟨by show (-1 : Int32).toInt = -1; decide, by show (-4 : Int32).toInt = -4; decide⟩⟩
  | n + 1, h => by
    obtain ⟨a, b⟩ := farF_rel (m := m) (b := b) n (fun i hi => h i (by omega))
    obtain ⟨h1, h2, h3⟩ := h n (by omega)
    rw [farF_s, farF_s, ← a, h1, h2]
    split
    · exact ⟨rfl, Or.inr ⟨rfl, by rw [← h1]; exact h3⟩⟩
    · exact ⟨a, b⟩
theorem abs_sz {x z : Int32} (e : z = if 0 ≤ x then x else 0 - x) : z = szF x := by
  subst e
  unfold szF
  by_cases h : x.toInt < 0
  · rw [if_pos h, if_neg (fun q => by have q2 := Int32.le_iff_toInt_le.mp q; have h0 : (0 : Int32).toInt = 0 := (by decide); omega), Int32.zero_sub]
  · rw [if_neg h, if_pos (Int32.le_iff_toInt_le.mpr (by have h0 : (0 : Int32).toInt = 0 := (by decide); omega))]
def dL (l : List (Int32 × Int32)) (i : Nat) : Int32 := (l.getD i (0, 0)).1
def vL (l : List (Int32 × Int32)) (i : Nat) : Int32 := (l.getD i (0, 0)).2
theorem HOLDS_dv {d v : Nat → Int32} {n : Int32} {l : List (Int32 × Int32)} (h : HOLDS d v n l) : ∀ i : Nat, i < l.length → d i = dL l i ∧ v i = vL l i := fun i hi => by
  have h1 := h.2 i hi
  unfold dL vL
  rw [List.getD_eq_getElem?_getD, h1]
  exact ⟨rfl, rfl⟩
theorem farF_congr {d v d' v' : Nat → Int32} {m b d0 : Int32} : ∀ n : Nat, (∀ i : Nat, i < n → d i = d' i ∧ v i = v' i) → farF d v m b d0 n = farF d' v' m b d0 n
  | 0, _ => rfl
  | n + 1, h => by rw [farF_s, farF_s, farF_congr n (fun i hi => h i (by omega)), (h n (by omega)).1, (h n (by omega)).2]
def midL (l : List (Int32 × Int32)) : Int32 := srtA (vL l) (fun _ => 0) l.length ((l.length - 1) / 2)
def jmpR (l : List (Int32 × Int32)) (b : Int32) : Int := if l.length = 0 then -4 else if (farF (dL l) (vL l) (midL l) b (-1) l.length).2.toInt < 0 then -4 else (farF (dL l) (vL l) (midL l) b (-1) l.length).2.toInt
theorem half_ix {n : Int32} {m : Nat} (h : n.toInt = m) (hm : 1 ≤ m) : ((n - 1) / 2).toNatClampNeg = (m - 1) / 2 := by
  have h1 : (1 : Int32).toInt = 1 := by decide
  have h2 : (2 : Int32).toInt = 2 := by decide
  have hb := i_hi n
  have e1 : (n - 1).toInt = (m : Int) - 1 := g_sub h h1 (by omega) (by omega)
  have e2 : ((n - 1) / 2).toInt = ((m : Int) - 1) / 2 := g_div e1 h2 (by omega) (by decide)
  have c := i_clamp0 (x := (n - 1) / 2) (by omega)
  omega
theorem mid_of {d v s s0 : Nat → Int32} {n : Int32} {l : List (Int32 × Int32)} (hH : HOLDS d v n l) (hn : 1 ≤ n.toInt) (hs : s = srtA v s0 n.toNatClampNeg) : s ((n - 1) / 2).toNatClampNeg = midL l := by
  have hc := i_clamp0 (x := n) (by omega)
  have hl := hH.1
  have e : n.toNatClampNeg = l.length := by omega
  rw [hs, half_ix hl (by omega), e]
  exact srtA_congr l.length (fun i hi => (HOLDS_dv hH i hi).2) _ (by omega)
theorem jmp_of {d v s s0 : Nat → Int32} {n b best r : Int32} {l : List (Int32 × Int32)} (hH : HOLDS d v n l) (hn : 0 ≤ n.toInt) (hs : s = srtA v s0 n.toNatClampNeg) (hb : best = (farF d v (s ((n - 1) / 2).toNatClampNeg) b (-1) n.toNatClampNeg).2) (hr : (best.toInt < 0 ∧ r.toInt = -4) ∨ (0 ≤ best.toInt ∧ r = best)) : r.toInt = jmpR l b := by
  have hc := i_clamp0 hn
  have hl := hH.1
  unfold jmpR
  by_cases z : l.length = 0
  · rw [if_pos z]
    have e : n.toNatClampNeg = 0 := by omega
    rw [e] at hb
    have e2 : best = -1 := hb
    have e3 : (-1 : Int32).toInt = -1 := by decide
    rw [e2] at hr
    omega
  · rw [if_neg z]
    have e : n.toNatClampNeg = l.length := by omega
    rw [mid_of hH (by omega) hs, e, farF_congr l.length (HOLDS_dv hH)] at hb
    rw [← hb]
    rcases hr with ⟨h1, h2⟩ | ⟨h1, h2⟩
    · rw [if_pos h1, h2]
    · rw [if_neg (by omega), h2]
theorem jmp_ofX {d v : Nat → Int32} {n b m r : Int32} {l : List (Int32 × Int32)} (hH : HOLDS d v n l) (hn : 0 ≤ n.toInt) (hd : ∀ i : Nat, i < l.length → 0 ≤ (d i).toInt) (hr : (n.toInt = 0 ∧ r.toInt = -4) ∨ (1 ≤ n.toInt ∧ m = midL l ∧ r = (farF d v m b (-4) n.toNatClampNeg).2)) : r.toInt = jmpR l b := by
  have hc := i_clamp0 hn
  have hl := hH.1
  unfold jmpR
  rcases hr with ⟨h1, h2⟩ | ⟨h1, h2, h3⟩
  · rw [if_pos (by omega), h2]
  · rw [if_neg (by omega)]
    have e : n.toNatClampNeg = l.length := by omega
    rw [h2, e] at h3
    have hdv := HOLDS_dv hH
    have hf := farF_rel (d := dL l) (v := vL l) (d' := d) (v' := v) (m := midL l) (b := b) l.length (fun i hi => ⟨(hdv i hi).1.symm, (hdv i hi).2.symm, by rw [← (hdv i hi).1]; exact hd i hi⟩)
    rw [← h3] at hf
    rcases hf.2 with ⟨g1, g2⟩ | ⟨g1, g2⟩
    · rw [if_pos (by omega), g2]
    · rw [if_neg (by omega), g1]
theorem rateL_congr {A B : Int32 → Int32} {p : Int32} : ∀ n : Nat, (∀ j : Nat, j < n → A (p + nI j) = B (p + nI j)) → rateL A p n = rateL B p n
  | 0, _ => rfl
  | n + 1, h => by rw [rateL_succ, rateL_succ, rateL_congr n (fun j hj => h j (by omega)), h n (by omega)]
/-! ===== the nine sums ===== -/
abbrev S9 : Type := Int64 × Int64 × Int64 × Int64 × Int64 × Int64 × Int64 × Int64 × Int64
def add9 (s : S9) (r w a : Int64) : S9 := (s.1 + 1, s.2.1 + r, s.2.2.1 + w, s.2.2.2.1 + a, s.2.2.2.2.1 + w * w, s.2.2.2.2.2.1 + a * a, s.2.2.2.2.2.2.1 + w * a, s.2.2.2.2.2.2.2.1 + w * r, s.2.2.2.2.2.2.2.2 + a * r)
def step9 (wm ag : Int32 → Int32) (nw : Int) (s : S9) (x : Int32 × Int32) : S9 := if (wm x.1).toInt = nw then s else add9 s x.2.toInt64 (wm x.1).toInt64 (ag x.1).toInt64
def fold9 (wm ag : Int32 → Int32) (nw : Int) (l : List (Int32 × Int32)) : S9 := l.foldl (step9 wm ag nw) (0, 0, 0, 0, 0, 0, 0, 0, 0)
theorem fold9_snoc (wm ag : Int32 → Int32) (nw : Int) (l : List (Int32 × Int32)) (x : Int32 × Int32) : fold9 wm ag nw (l ++ [x]) = step9 wm ag nw (fold9 wm ag nw l) x := by
  unfold fold9
  rw [List.foldl_append]
  rfl
theorem fold9_step {wm ag : Int32 → Int32} {nw : Int} {R : Int32 → Int32} {p L z : Int32} (h0 : 0 ≤ p.toInt) (h1 : p.toInt ≤ L.toInt) (h2 : z.toInt = L.toInt + 1) : fold9 wm ag nw (rateL R p (z.toInt - p.toInt).toNat) = if (R L).toInt = -2000000000 then fold9 wm ag nw (rateL R p (L.toInt - p.toInt).toNat) else step9 wm ag nw (fold9 wm ag nw (rateL R p (L.toInt - p.toInt).toNat)) (L, R L) := by
  rw [rate_step h0 h1 h2]
  split
  · rfl
  · rw [fold9_snoc]
theorem l_eqc {x : Int32} {z c : Int64} {n : Int} (e : x.toInt64 = z) (hc : c.toInt = n) : z = c ↔ x.toInt = n := by
  subst e
  constructor
  · intro h
    have h2 := congrArg Int64.toInt h
    rw [Int32.toInt_toInt64, hc] at h2
    exact h2
  · intro h
    exact Int64.toInt_inj.mp (by rw [Int32.toInt_toInt64, hc, h])
def wmF (k mk ws : Nat → Int32) (p d : Int32) : Int32 := if (k p.toNatClampNeg).toInt = 1 then mk p.toNatClampNeg else ws d.toNatClampNeg
def agI (f : Nat → Int32) (b : Nat) (d : Int32) : Int32 := nI (agM f b d.toInt.toNat).toNat
theorem agM_r (f : Nat → Int32) (b : Nat) : ∀ d : Nat, 0 ≤ agM f b d ∧ agM f b d ≤ d
  | 0 => ⟨Int.le_refl 0, Int.le_refl 0⟩
  | d + 1 => by
    have h := agM_r f b d
    rw [agM_succ]
    split <;> omega
theorem agI_of {f : Nat → Int32} {b : Nat} {r d : Int32} (h : r.toInt = agM f b d.toInt.toNat) (hd : 0 ≤ d.toInt ∧ d.toInt ≤ 399) : r = agI f b d := by
  have h1 := agM_r f b d.toInt.toNat
  unfold agI
  exact i_eq.mpr (by rw [nI_toInt (by omega)]; omega)
def agX (f : Nat → Int32) (d : Int32) : Int32 := nI (ageN f d.toInt.toNat).toNat
theorem ageN_r (f : Nat → Int32) : ∀ d : Nat, 0 ≤ ageN f d ∧ ageN f d ≤ d
  | 0 => ⟨Int.le_refl 0, Int.le_refl 0⟩
  | d + 1 => by
    have h := ageN_r f d
    rw [ageN_succ]
    split <;> omega
theorem agX_of {f : Nat → Int32} {r d : Int32} (h : r.toInt = ageN f d.toInt.toNat) (hd : 0 ≤ d.toInt ∧ d.toInt ≤ 399) : r = agX f d := by
  have h1 := ageN_r f d.toInt.toNat
  unfold agX
  exact i_eq.mpr (by rw [nI_toInt (by omega)]; omega)
theorem fold9_take {wm ag : Int32 → Int32} {nw : Int} {d v : Nat → Int32} {n : Int32} {l : List (Int32 × Int32)} (h : HOLDS d v n l) {i : Nat} (hi : (i : Int) < n.toInt) : fold9 wm ag nw (l.take (i + 1)) = step9 wm ag nw (fold9 wm ag nw (l.take i)) (d i, v i) := by
  have hl := h.1
  rw [List.take_succ, h.2 i (by omega)]
  exact fold9_snoc wm ag nw (l.take i) (d i, v i)
theorem fold9_all {wm ag : Int32 → Int32} {nw : Int} {d v : Nat → Int32} {n : Int32} {l : List (Int32 × Int32)} (h : HOLDS d v n l) {i : Nat} (hi : n.toInt ≤ (i : Int)) : fold9 wm ag nw (l.take i) = fold9 wm ag nw l := by
  have hl := h.1
  rw [List.take_of_length_le (by omega)]
theorem step9_p {wm ag : Int32 → Int32} {nw : Int} {s : S9} {x : Int32 × Int32} (h : (wm x.1).toInt = nw) : step9 wm ag nw s x = s := by
  unfold step9
  exact if_pos h
theorem step9_n {wm ag : Int32 → Int32} {nw : Int} {s : S9} {x : Int32 × Int32} (h : (wm x.1).toInt ≠ nw) : step9 wm ag nw s x = add9 s x.2.toInt64 (wm x.1).toInt64 (ag x.1).toInt64 := by
  unfold step9
  exact if_neg h
/-- both sides' sums -/
theorem fold9_rel {wm ag wm' ag' : Int32 → Int32} {nw nw' : Int} : ∀ (l : List (Int32 × Int32)) (s : S9), (∀ x ∈ l, (((wm x.1).toInt = nw ∧ (wm' x.1).toInt = nw') ∨ ((wm x.1).toInt ≠ nw ∧ (wm' x.1).toInt ≠ nw' ∧ wm x.1 = wm' x.1)) ∧ ag x.1 = ag' x.1) → l.foldl (step9 wm ag nw) s = l.foldl (step9 wm' ag' nw') s := by
  intro l
  induction l with
  | nil => intro s _; rw [List.foldl_nil, List.foldl_nil]
  | cons x l ih =>
    intro s h
    have hx := h x (List.mem_cons_self)
    rw [List.foldl_cons, List.foldl_cons]
    have e : step9 wm ag nw s x = step9 wm' ag' nw' s x := by
      rcases hx.1 with ⟨a, b⟩ | ⟨a, b, c⟩
      · exact (step9_p a).trans (step9_p b).symm
      · refine (step9_n a).trans (Eq.trans ?_ (step9_n b).symm)
        rw [c, hx.2]
    rw [e]
    exact ih _ (fun y hy => h y (List.mem_cons_of_mem _ hy))
/-- the days of a list of rates -/
theorem rateL_days {R : Int32 → Int32} {p : Int32} : ∀ (n : Nat) (x : Int32 × Int32), x ∈ rateL R p n → ∃ j : Nat, j < n ∧ x.1 = p + nI j
  | 0, x, h => by cases h
  | n + 1, x, h => by
    rw [rateL_succ] at h
    split at h
    · obtain ⟨j, h1, h2⟩ := rateL_days n x h
      exact ⟨j, by omega, h2⟩
    · rcases List.mem_append.mp h with h | h
      · obtain ⟨j, h1, h2⟩ := rateL_days n x h
        exact ⟨j, by omega, h2⟩
      · rw [List.mem_singleton] at h
        exact ⟨n, by omega, by rw [h]⟩
/-- what the class makes of the nine sums: terms, divisor, by warmth, by age -/
def solX (s : S9) : Int32 × Int64 × Int64 × Int64 := if 0 < ((s.1 * s.2.2.2.2.1 - s.2.2.1 * s.2.2.1) * (s.1 * s.2.2.2.2.2.1 - s.2.2.2.1 * s.2.2.2.1) - (s.1 * s.2.2.2.2.2.2.1 - s.2.2.1 * s.2.2.2.1) * (s.1 * s.2.2.2.2.2.2.1 - s.2.2.1 * s.2.2.2.1)).toInt then (3, (s.1 * s.2.2.2.2.1 - s.2.2.1 * s.2.2.1) * (s.1 * s.2.2.2.2.2.1 - s.2.2.2.1 * s.2.2.2.1) - (s.1 * s.2.2.2.2.2.2.1 - s.2.2.1 * s.2.2.2.1) * (s.1 * s.2.2.2.2.2.2.1 - s.2.2.1 * s.2.2.2.1), (s.1 * s.2.2.2.2.2.2.2.1 - s.2.2.1 * s.2.1) * (s.1 * s.2.2.2.2.2.1 - s.2.2.2.1 * s.2.2.2.1) - (s.1 * s.2.2.2.2.2.2.2.2 - s.2.2.2.1 * s.2.1) * (s.1 * s.2.2.2.2.2.2.1 - s.2.2.1 * s.2.2.2.1), (s.1 * s.2.2.2.2.2.2.2.2 - s.2.2.2.1 * s.2.1) * (s.1 * s.2.2.2.2.1 - s.2.2.1 * s.2.2.1) - (s.1 * s.2.2.2.2.2.2.2.1 - s.2.2.1 * s.2.1) * (s.1 * s.2.2.2.2.2.2.1 - s.2.2.1 * s.2.2.2.1)) else if 0 < (s.1 * s.2.2.2.2.1 - s.2.2.1 * s.2.2.1).toInt then (2, s.1 * s.2.2.2.2.1 - s.2.2.1 * s.2.2.1, s.1 * s.2.2.2.2.2.2.2.1 - s.2.2.1 * s.2.1, 0) else if 0 < (s.1 * s.2.2.2.2.2.1 - s.2.2.2.1 * s.2.2.2.1).toInt then (4, s.1 * s.2.2.2.2.2.1 - s.2.2.2.1 * s.2.2.2.1, 0, s.1 * s.2.2.2.2.2.2.2.2 - s.2.2.2.1 * s.2.1) else (1, 1, 0, 0)
def frmM (s : S9) : Int := if thrF s.1 s.2.2.1 s.2.2.2.1 s.2.2.2.2.1 s.2.2.2.2.2.2.1 s.2.2.2.2.2.1 = 0 then (if twoF s.1 s.2.2.1 s.2.2.2.2.1 = 0 then (if twoF s.1 s.2.2.2.1 s.2.2.2.2.2.1 = 0 then 1 else 4) else 2) else 3
theorem lc_gtI {x y : Int64} (h : 0 < lg_cmp x y ∨ ¬ lg_cmp x y ≤ 0) : y.toInt < x.toInt := by
  rcases (show y.toInt < x.toInt ∨ x.toInt ≤ y.toInt by omega) with g | g
  · exact g
  · exfalso
    have h1 : ¬ x > y := fun k => by have := Int64.lt_iff_toInt_lt.mp k; omega
    unfold lg_cmp at h
    rw [if_neg h1] at h
    split at h
    · revert h; decide
    · revert h; decide
theorem lc_leI {x y : Int64} (h : lg_cmp x y ≤ 0 ∨ ¬ 0 < lg_cmp x y) : x.toInt ≤ y.toInt := by
  rcases (show y.toInt < x.toInt ∨ x.toInt ≤ y.toInt by omega) with g | g
  · exfalso
    have h1 : x > y := Int64.lt_iff_toInt_lt.mpr g
    unfold lg_cmp at h
    rw [if_pos h1] at h
    revert h; decide
  · exact g
theorem lc_ltI {x y : Int64} (h : lg_cmp x y < 0 ∨ ¬ 0 ≤ lg_cmp x y) : x.toInt < y.toInt := by
  rcases (show x.toInt < y.toInt ∨ y.toInt ≤ x.toInt by omega) with g | g
  · exact g
  · exfalso
    unfold lg_cmp at h
    by_cases h1 : x > y
    · rw [if_pos h1] at h
      revert h; decide
    · rw [if_neg h1] at h
      have e : x = y := by
        have h2 : ¬ y.toInt < x.toInt := fun k => h1 (Int64.lt_iff_toInt_lt.mpr k)
        exact Int64.toInt_inj.mp (by omega)
      rw [if_pos e] at h
      revert h; decide
theorem lc_geI {x y : Int64} (h : 0 ≤ lg_cmp x y ∨ ¬ lg_cmp x y < 0) : y.toInt ≤ x.toInt := by
  rcases (show x.toInt < y.toInt ∨ y.toInt ≤ x.toInt by omega) with g | g
  · exfalso
    have h1 : ¬ x > y := fun k => by have := Int64.lt_iff_toInt_lt.mp k; omega
    have h2 : ¬ x = y := fun k => by subst k; omega
    unfold lg_cmp at h
    rw [if_neg h1, if_neg h2] at h
    revert h; decide
  · exact g
theorem fl_eq {x y : Int} (hy : 0 < y) : x.tdiv y = x / y + (if 0 ≤ x ∨ y ∣ x then 0 else 1) := by
  rw [Int.tdiv_eq_ediv, Int.sign_eq_one_of_pos hy]
theorem fl_exact {x y : Int} (hy : 0 < y) (h : x.tdiv y * y = x) : x.tdiv y = x / y := by
  rw [fl_eq hy, if_pos (Or.inr ⟨x.tdiv y, by rw [Int.mul_comm]; exact h.symm⟩), Int.add_zero]
theorem fl_down {x y : Int} (hy : 0 < y) (hx : x < 0) (h : x.tdiv y * y ≠ x) : x.tdiv y - 1 = x / y := by
  have hn : ¬ (0 ≤ x ∨ y ∣ x) := by
    intro g
    have e := fl_eq (x := x) hy
    rw [if_pos g, Int.add_zero] at e
    rcases g with g | g
    · omega
    · rw [e] at h
      exact h (Int.ediv_mul_cancel g)
  have e := fl_eq (x := x) hy
  rw [if_neg hn] at e
  omega
theorem xor_sgn (x y : Int32) : (x ^^^ y).toInt < 0 ↔ ¬ (x.toInt < 0 ↔ y.toInt < 0) := by
  have h1 := BitVec.msb_eq_toInt (x := x.toBitVec ^^^ y.toBitVec)
  rw [BitVec.msb_xor, BitVec.msb_eq_toInt, BitVec.msb_eq_toInt] at h1
  have h2 : (decide (x.toInt < 0) ^^ decide (y.toInt < 0)) = decide ((x ^^^ y).toInt < 0) := h1
  clear h1
  generalize (x ^^^ y).toInt = u at h2 ⊢
  generalize x.toInt = v at h2 ⊢
  generalize y.toInt = w at h2 ⊢
  by_cases a : v < 0 <;> by_cases b : w < 0 <;> by_cases c : u < 0 <;> simp_all <;> omega
theorem fdv_q {a b : Int32} (hb : 0 < b.toInt) : (a / b).toInt = a.toInt.tdiv b.toInt := by
  rw [Int32.toInt_div]
  have h := Int.natAbs_tdiv_le_natAbs a.toInt b.toInt
  have l := i_lo a
  have u := i_hi a
  by_cases g : a.toInt.tdiv b.toInt ≤ 2147483647
  · exact i_bmod (by omega) g
  · exfalso
    have e := fl_eq (x := a.toInt) hb
    by_cases k : 0 ≤ a.toInt ∨ b.toInt ∣ a.toInt
    · rw [if_pos k] at e
      have : a.toInt / b.toInt < 2147483648 := Int.ediv_lt_of_lt_mul hb (by have := Int.mul_le_mul_of_nonneg_left (show (1 : Int) ≤ b.toInt by omega) (show (0 : Int) ≤ 2147483648 by omega); omega)
      omega
    · rw [if_neg k] at e
      have hn : a.toInt < 0 := by omega
      have : a.toInt / b.toInt < 0 := Int.ediv_lt_of_lt_mul hb (by omega)
      omega
theorem fdv_a {a b : Int32} (hb : 0 < b.toInt) (h : 0 ≤ (a ^^^ b).toInt) : (a / b).toInt = a.toInt / b.toInt := by
  have hs := xor_sgn a b
  rw [fdv_q hb, fl_eq hb, if_pos (Or.inl (by omega)), Int.add_zero]
theorem tm_lo {a b : Int} (hb : 0 < b) (ha : a < 0) : a ≤ a.tdiv b * b := by
  have e := fl_eq (x := a) hb
  by_cases k : 0 ≤ a ∨ b ∣ a
  · rw [if_pos k, Int.add_zero] at e
    rw [e]
    rcases k with k | k
    · omega
    · rw [Int.ediv_mul_cancel k]; exact Int.le_refl _
  · rw [if_neg k] at e
    rw [e]
    exact Int.le_of_lt (Int.lt_ediv_add_one_mul_self a hb)
theorem fdv_mul {a b : Int32} (hb : 0 < b.toInt) : ((a / b) * b).toInt = a.toInt.tdiv b.toInt * b.toInt := by
  have hm := Int.tdiv_mul_add_tmod a.toInt b.toInt
  have l := i_lo a
  have u := i_hi a
  rw [Int32.toInt_mul, fdv_q hb]
  refine i_bmod ?_ ?_
  · by_cases k : 0 ≤ a.toInt
    · have := Int.mul_nonneg (Int.tdiv_nonneg k (Int.le_of_lt hb)) (Int.le_of_lt hb)
      omega
    · have h2 := tm_lo hb (show a.toInt < 0 by omega)
      omega
  · by_cases k : 0 ≤ a.toInt
    · have h2 := Int.tmod_nonneg (a := a.toInt) b.toInt k
      omega
    · have h3 := fl_eq (x := a.toInt) hb
      have h4 : a.toInt.tdiv b.toInt ≤ 0 := by
        have : a.toInt / b.toInt < 0 := Int.ediv_lt_of_lt_mul hb (by omega)
        split at h3 <;> omega
      have := Int.mul_nonpos_of_nonpos_of_nonneg h4 (Int.le_of_lt hb)
      omega
theorem fdv_b {a b : Int32} (hb : 0 < b.toInt) (h : ((a / b) * b).toInt = a.toInt) : (a / b).toInt = a.toInt / b.toInt := by
  rw [fdv_mul hb] at h
  rw [fdv_q hb]
  exact fl_exact hb h
theorem fdv_c {a b : Int32} (hb : 0 < b.toInt) (hx : (a ^^^ b).toInt < 0) (h : ((a / b) * b).toInt ≠ a.toInt) : (a / b - 1).toInt = a.toInt / b.toInt := by
  have hs := (xor_sgn a b).mp hx
  have ha : a.toInt < 0 := by omega
  rw [fdv_mul hb] at h
  have e := fl_down hb ha h
  have h1 : (1 : Int32).toInt = 1 := by decide
  have l := i_lo a
  have k : a.toInt ≤ a.toInt / b.toInt := Int.le_ediv_of_mul_le hb (by have := Int.mul_le_mul_of_nonpos_left (show a.toInt ≤ 0 by omega) (show (1 : Int) ≤ b.toInt by omega); omega)
  have k2 : a.toInt / b.toInt < 0 := Int.ediv_lt_of_lt_mul hb (by omega)
  rw [i_sub (by rw [fdv_q hb, h1]; omega) (by rw [fdv_q hb, h1]; omega), fdv_q hb, h1]
  exact e
theorem ll_lo (a : Int64) : -9223372036854775808 ≤ a.toInt := by have := Int64.le_toInt a; simpa using this
theorem ll_hi (a : Int64) : a.toInt ≤ 9223372036854775807 := by
  have h := Int64.toInt_lt a
  have : a.toInt < 9223372036854775808 := by simpa using h
  omega
theorem lq_bmod {x : Int} (h1 : -9223372036854775808 ≤ x) (h2 : x ≤ 9223372036854775807) : x.bmod (2 ^ 64) = x := by
  rw [Int.bmod_def]
  have : ((2 ^ 64 : Nat) : Int) = 18446744073709551616 := by decide
  rw [this]
  split <;> omega
theorem ldv_q {a b : Int64} (hb : 0 < b.toInt) : (a / b).toInt = a.toInt.tdiv b.toInt := by
  rw [Int64.toInt_div]
  have h := Int.natAbs_tdiv_le_natAbs a.toInt b.toInt
  have l := ll_lo a
  have u := ll_hi a
  by_cases g : a.toInt.tdiv b.toInt ≤ 9223372036854775807
  · exact lq_bmod (by omega) g
  · exfalso
    have e := fl_eq (x := a.toInt) hb
    by_cases k : 0 ≤ a.toInt ∨ b.toInt ∣ a.toInt
    · rw [if_pos k] at e
      have : a.toInt / b.toInt < 9223372036854775808 := Int.ediv_lt_of_lt_mul hb (by have := Int.mul_le_mul_of_nonneg_left (show (1 : Int) ≤ b.toInt by omega) (show (0 : Int) ≤ 9223372036854775808 by omega); omega)
      omega
    · rw [if_neg k] at e
      have : a.toInt / b.toInt < 0 := Int.ediv_lt_of_lt_mul hb (by omega)
      omega
theorem ldv_rng {a b : Int64} (hb : 0 < b.toInt) : (0 ≤ a.toInt → 0 ≤ a.toInt.tdiv b.toInt * b.toInt ∧ a.toInt.tdiv b.toInt * b.toInt ≤ a.toInt) ∧ (a.toInt < 0 → a.toInt ≤ a.toInt.tdiv b.toInt * b.toInt ∧ a.toInt.tdiv b.toInt * b.toInt ≤ 0) := by
  have hm := Int.tdiv_mul_add_tmod a.toInt b.toInt
  constructor
  · intro k
    have h2 := Int.tmod_nonneg (a := a.toInt) b.toInt k
    have := Int.mul_nonneg (Int.tdiv_nonneg k (Int.le_of_lt hb)) (Int.le_of_lt hb)
    omega
  · intro k
    have h2 := tm_lo hb k
    have h3 := fl_eq (x := a.toInt) hb
    have h4 : a.toInt.tdiv b.toInt ≤ 0 := by
      have : a.toInt / b.toInt < 0 := Int.ediv_lt_of_lt_mul hb (by omega)
      split at h3 <;> omega
    have := Int.mul_nonpos_of_nonpos_of_nonneg h4 (Int.le_of_lt hb)
    omega
theorem ldv_rem {a b : Int64} (hb : 0 < b.toInt) : (a - a / b * b).toInt = a.toInt - a.toInt.tdiv b.toInt * b.toInt := by
  have hr := ldv_rng (a := a) hb
  have l := ll_lo a
  have u := ll_hi a
  have hm : (a / b * b).toInt = a.toInt.tdiv b.toInt * b.toInt := by
    rw [Int64.toInt_mul, ldv_q hb]
    exact lq_bmod (by omega) (by omega)
  rw [Int64.toInt_sub, hm]
  exact lq_bmod (by omega) (by omega)
theorem lrm_0 {a b : Int64} (hb : 0 < b.toInt) : a - a / b * b = 0 ↔ a.toInt.tdiv b.toInt * b.toInt = a.toInt := by
  have h0 : (0 : Int64).toInt = 0 := by decide
  rw [← Int64.toInt_inj, ldv_rem hb, h0]
  omega
theorem lfl_1 {a b : Int64} (hb : 0 < b.toInt) (h : a - a / b * b = 0) : (a / b - 0).toInt = a.toInt / b.toInt := by
  rw [Int64.sub_zero, ldv_q hb]
  exact fl_exact hb ((lrm_0 hb).mp h)
theorem lfl_3 {a b : Int64} (hb : 0 < b.toInt) (h : 0 ≤ a.toInt) : (a / b - 0).toInt = a.toInt / b.toInt := by
  rw [Int64.sub_zero, ldv_q hb, fl_eq hb, if_pos (Or.inl h), Int.add_zero]
theorem lfl_2 {a b : Int64} (hb : 0 < b.toInt) (hx : a.toInt < 0) (h : ¬ a - a / b * b = 0) : (a / b - 1).toInt = a.toInt / b.toInt := by
  have e := fl_down hb hx (fun k => h ((lrm_0 hb).mpr k))
  have h1 : (1 : Int64).toInt = 1 := by decide
  have l := ll_lo a
  have k : a.toInt ≤ a.toInt / b.toInt := Int.le_ediv_of_mul_le hb (by have := Int.mul_le_mul_of_nonpos_left (show a.toInt ≤ 0 by omega) (show (1 : Int) ≤ b.toInt by omega); omega)
  have k2 : a.toInt / b.toInt < 0 := Int.ediv_lt_of_lt_mul hb (by omega)
  rw [Int64.toInt_sub, ldv_q hb, h1, e]
  exact lq_bmod (by omega) (by omega)
/-! ===== what is kept of a watch that sails ===== -/
def s64 (v : Nat → Int32) : Nat → Int64
  | 0 => 0
  | k + 1 => s64 v k + (v k).toInt64
theorem s64_s (v : Nat → Int32) (k : Nat) : s64 v (k + 1) = s64 v k + (v k).toInt64 := rfl
theorem s64_congr {v w : Nat → Int32} : ∀ n : Nat, (∀ i : Nat, i < n → v i = w i) → s64 v n = s64 w n
  | 0, _ => rfl
  | n + 1, h => by rw [s64_s, s64_s, s64_congr n (fun i hi => h i (by omega)), h n (by omega)]
def goM (l : List (Int32 × Int32)) : Int32 := Int32.ofInt ((s64 (vL l) l.length).toInt / (l.length : Int))
def duM (l : List (Int32 × Int32)) : Int32 := 1 + (srtA (vL l) (fun _ => 0) l.length (l.length - 1) - srtA (vL l) (fun _ => 0) l.length 0) / 2
theorem goM_of {d v : Nat → Int32} {n z : Int32} {s q m : Int64} {l : List (Int32 × Int32)} (hH : HOLDS d v n l) (hn : 1 ≤ n.toInt) (hs : s = s64 v n.toNatClampNeg) (hm : n.toInt64 = m) (hq : 0 < m.toInt → q.toInt = s.toInt / m.toInt) (hz : q.toInt32 = z) : z = goM l := by
  have hc := i_clamp0 (x := n) (by omega)
  have hl := hH.1
  have e : n.toNatClampNeg = l.length := by omega
  have em : m.toInt = n.toInt := by rw [← hm]; exact Int32.toInt_toInt64 n
  have hq' := hq (by omega)
  rw [em, hl, hs, e, s64_congr l.length (fun i hi => (HOLDS_dv hH i hi).2)] at hq'
  unfold goM
  rw [← hz]
  refine Int32.toInt_inj.mp ?_
  rw [Int64.toInt_toInt32, hq']
  exact Int32.toInt_ofInt.symm
theorem duM_of {d v s s0 : Nat → Int32} {n z a b : Int32} {l : List (Int32 × Int32)} (hH : HOLDS d v n l) (hn : 1 ≤ n.toInt) (hs : s = srtA v s0 n.toNatClampNeg) (ha : a = s (n - 1).toNatClampNeg) (hb : b = s 0) (hz : z = 1 + (a - b) / 2) : z = duM l := by
  have h1 : (1 : Int32).toInt = 1 := by decide
  have hh := i_hi n
  have hc := i_clamp0 (x := n) (by omega)
  have hl := hH.1
  have e : n.toNatClampNeg = l.length := by omega
  have e1 : (n - 1).toInt = n.toInt - 1 := g_sub rfl h1 (by omega) (by omega)
  have c1 := i_clamp0 (x := n - 1) (by omega)
  have e2 : (n - 1).toNatClampNeg = l.length - 1 := by omega
  have hg : ∀ i : Nat, i < l.length → s i = srtA (vL l) (fun _ => 0) l.length i := fun i hi => by
    rw [hs, e]
    exact srtA_congr l.length (fun i hi => (HOLDS_dv hH i hi).2) i hi
  unfold duM
  rw [hz, ha, hb, e2, hg _ (by omega), hg _ (by omega)]
/-- three numbers of a ship are set one after the other -/
def vseq (f : Nat → Int32) (p : Int32) (v : Nat → Int32) : Nat → Nat → Int32
  | 0 => f
  | k + 1 => upd (vseq f p v k) (3 * p.toNatClampNeg + k) (v k)
theorem vseq_s (f : Nat → Int32) (p : Int32) (v : Nat → Int32) (k : Nat) : vseq f p v (k + 1) = upd (vseq f p v k) (3 * p.toNatClampNeg + k) (v k) := rfl
theorem vseq_congr {f v w : Nat → Int32} {p : Int32} : ∀ n : Nat, (∀ k : Nat, k < n → v k = w k) → vseq f p v n = vseq f p w n
  | 0, _ => rfl
  | n + 1, h => by rw [vseq_s, vseq_s, vseq_congr n (fun i hi => h i (by omega)), h n (by omega)]
theorem vseq_at {f v : Nat → Int32} {p : Int32} {k : Nat} : ∀ n : Nat, k < n → vseq f p v n (3 * p.toNatClampNeg + k) = v k
  | 0, h => by omega
  | n + 1, h => by
    rw [vseq_s]
    by_cases e : k = n
    · subst e; rw [u_at]
    · rw [u_ne (by omega)]; exact vseq_at n (by omega)
theorem vseq_ne {f v : Nat → Int32} {p : Int32} {i : Nat} : ∀ n : Nat, (∀ k : Nat, k < n → i ≠ 3 * p.toNatClampNeg + k) → vseq f p v n i = f i
  | 0, _ => rfl
  | n + 1, h => by rw [vseq_s, u_ne (h n (by omega))]; exact vseq_ne n (fun k hk => h k (by omega))
def goX (l : List (Int32 × Int32)) : Int32 := Int32.ofInt ((sumI (vL l) l.length).toInt / (l.length : Int))
def duX (l : List (Int32 × Int32)) : Int32 := 1 + (Int32.ofInt (maxF (vL l) l.length) - Int32.ofInt (minF (vL l) l.length)) / 2
theorem sumI_congr {v w : Nat → Int32} : ∀ n : Nat, (∀ i : Nat, i < n → v i = w i) → sumI v n = sumI w n
  | 0, _ => rfl
  | n + 1, h => by rw [sumI_succ, sumI_succ, sumI_congr n (fun i hi => h i (by omega)), h n (by omega)]
theorem minF_congr {v w : Nat → Int32} : ∀ n : Nat, (∀ i : Nat, i < n → v i = w i) → minF v n = minF w n
  | 0, _ => rfl
  | n + 1, h => by rw [minF_succ, minF_succ, minF_congr n (fun i hi => h i (by omega)), h n (by omega)]
theorem maxF_congr {v w : Nat → Int32} : ∀ n : Nat, (∀ i : Nat, i < n → v i = w i) → maxF v n = maxF w n
  | 0, _ => rfl
  | n + 1, h => by rw [maxF_succ, maxF_succ, maxF_congr n (fun i hi => h i (by omega)), h n (by omega)]
theorem goX_of {d v : Nat → Int32} {n s z : Int32} {l : List (Int32 × Int32)} (hH : HOLDS d v n l) (hn : 1 ≤ n.toInt) (hs : s = sumI v n.toNatClampNeg) (hq : 0 < n.toInt → z.toInt = s.toInt / n.toInt) : z = goX l := by
  have hc := i_clamp0 (x := n) (by omega)
  have hl := hH.1
  have e : n.toNatClampNeg = l.length := by omega
  have hq' := hq (by omega)
  rw [hl, hs, e, sumI_congr l.length (fun i hi => (HOLDS_dv hH i hi).2)] at hq'
  unfold goX
  rw [← hq']
  exact (Int32.ofInt_toInt z).symm
theorem duX_of {d v : Nat → Int32} {n z a b : Int32} {l : List (Int32 × Int32)} (hH : HOLDS d v n l) (hn : 1 ≤ n.toInt) (ha : a.toInt = maxF v n.toNatClampNeg) (hb : b.toInt = minF v n.toNatClampNeg) (hz : z = 1 + (a - b) / 2) : z = duX l := by
  have hc := i_clamp0 (x := n) (by omega)
  have hl := hH.1
  have e : n.toNatClampNeg = l.length := by omega
  rw [e, maxF_congr l.length (fun i hi => (HOLDS_dv hH i hi).2)] at ha
  rw [e, minF_congr l.length (fun i hi => (HOLDS_dv hH i hi).2)] at hb
  unfold duX
  rw [← ha, ← hb, Int32.ofInt_toInt, Int32.ofInt_toInt]
  exact hz
/-- both sides' numbers of a watch that sails are the same -/
theorem sums_eq {v : Nat → Int32} : ∀ n : Nat, n ≤ 60 → (∀ i : Nat, i < n → -999 ≤ (v i).toInt ∧ (v i).toInt ≤ 999) → (s64 v n).toInt = (sumI v n).toInt ∧ -(999 * (n : Int)) ≤ (sumI v n).toInt ∧ (sumI v n).toInt ≤ 999 * (n : Int)
  | 0, _, _ => by
    have a : (0 : Int64).toInt = 0 := by decide
    have b : (0 : Int32).toInt = 0 := by decide
    show (0 : Int64).toInt = (0 : Int32).toInt ∧ _ ≤ (0 : Int32).toInt ∧ (0 : Int32).toInt ≤ _
    rw [a, b]
    exact ⟨rfl, by omega, by omega⟩
  | n + 1, hn, h => by
    obtain ⟨h1, h2, h3⟩ := sums_eq (v := v) n (by omega) (fun i hi => h i (by omega))
    have hv := h n (by omega)
    have e : (sumI v n + v n).toInt = (sumI v n).toInt + (v n).toInt := i_add (by omega) (by omega)
    rw [s64_s, sumI_succ, Int64.toInt_add, h1, Int32.toInt_toInt64, e]
    exact ⟨lq_bmod (by omega) (by omega), by omega, by omega⟩
theorem go_eq {l : List (Int32 × Int32)} (hl : l.length ≤ 60) (hv : ∀ i : Nat, i < l.length → -999 ≤ (vL l i).toInt ∧ (vL l i).toInt ≤ 999) : goM l = goX l := by
  unfold goM goX
  rw [(sums_eq l.length hl hv).1]
theorem du_eq {l : List (Int32 × Int32)} (h1 : 1 ≤ l.length) (hv : ∀ i : Nat, i < l.length → -999 ≤ (vL l i).toInt ∧ (vL l i).toInt ≤ 999) : duM l = duX l := by
  obtain ⟨n, hn⟩ : ∃ n, l.length = n + 1 := ⟨l.length - 1, by omega⟩
  have a := srtA_max (v := vL l) (f := fun _ => 0) n (fun i hi => (hv i (by omega)).1)
  have b := srtA_min (v := vL l) (f := fun _ => 0) n (fun i hi => (hv i (by omega)).2)
  unfold duM duX
  rw [hn, ← a, ← b, Int32.ofInt_toInt, Int32.ofInt_toInt, show n + 1 - 1 = n from rfl]
theorem vL_mem {l : List (Int32 × Int32)} {i : Nat} (hi : i < l.length) : (dL l i, vL l i) ∈ l := by
  unfold dL vL
  have e : l.getD i (0, 0) = l[i] := by rw [List.getD_eq_getElem?_getD, List.getElem?_eq_getElem hi]; rfl
  rw [e]
  exact List.getElem_mem hi
/-- the reference: what is divided, and by what -/
def up2F (n r s q m x : Int64) : Int64 := r * q - s * m + (n * m - s * r) * x
def up3F (s : S9) (w g : Int64) : Int64 := (s.2.1 * (s.2.2.2.2.1 * s.2.2.2.2.2.1 - s.2.2.2.2.2.2.1 * s.2.2.2.2.2.2.1) - s.2.2.1 * (s.2.2.2.2.2.2.2.1 * s.2.2.2.2.2.1 - s.2.2.2.2.2.2.1 * s.2.2.2.2.2.2.2.2) + s.2.2.2.1 * (s.2.2.2.2.2.2.2.1 * s.2.2.2.2.2.2.1 - s.2.2.2.2.1 * s.2.2.2.2.2.2.2.2)) + (s.1 * (s.2.2.2.2.2.2.2.1 * s.2.2.2.2.2.1 - s.2.2.2.2.2.2.1 * s.2.2.2.2.2.2.2.2) - s.2.1 * (s.2.2.1 * s.2.2.2.2.2.1 - s.2.2.2.2.2.2.1 * s.2.2.2.1) + s.2.2.2.1 * (s.2.2.1 * s.2.2.2.2.2.2.2.2 - s.2.2.2.2.2.2.2.1 * s.2.2.2.1)) * w + (s.1 * (s.2.2.2.2.1 * s.2.2.2.2.2.2.2.2 - s.2.2.2.2.2.2.2.1 * s.2.2.2.2.2.2.1) - s.2.2.1 * (s.2.2.1 * s.2.2.2.2.2.2.2.2 - s.2.2.2.2.2.2.2.1 * s.2.2.2.1) + s.2.1 * (s.2.2.1 * s.2.2.2.2.2.2.1 - s.2.2.2.2.1 * s.2.2.2.1)) * g
def uplM (s : S9) (w g : Int32) : Int64 × Int64 := if thrF s.1 s.2.2.1 s.2.2.2.1 s.2.2.2.2.1 s.2.2.2.2.2.2.1 s.2.2.2.2.2.1 = 0 then (if twoF s.1 s.2.2.1 s.2.2.2.2.1 = 0 then (if twoF s.1 s.2.2.2.1 s.2.2.2.2.2.1 = 0 then (s.1, s.2.1) else (twoF s.1 s.2.2.2.1 s.2.2.2.2.2.1, up2F s.1 s.2.1 s.2.2.2.1 s.2.2.2.2.2.1 s.2.2.2.2.2.2.2.2 g.toInt64)) else (twoF s.1 s.2.2.1 s.2.2.2.2.1, up2F s.1 s.2.1 s.2.2.1 s.2.2.2.2.1 s.2.2.2.2.2.2.2.1 w.toInt64)) else (thrF s.1 s.2.2.1 s.2.2.2.1 s.2.2.2.2.1 s.2.2.2.2.2.2.1 s.2.2.2.2.2.1, up3F s w.toInt64 g.toInt64)
def RESM (lo up : Int64) (r : Int32) : Prop := ∃ wh : Int64, wh.toInt = up.toInt / lo.toInt ∧ ((¬ (-3000000 ≤ wh.toInt ∧ wh.toInt ≤ 3000000) ∧ r.toInt = -2000000000) ∨ ((-3000000 ≤ wh.toInt ∧ wh.toInt ≤ 3000000) ∧ ∃ v : Int64, v = 1000 * wh + 1000 * (up - wh * lo) / lo ∧ ((¬ (-2000000000 ≤ v.toInt ∧ v.toInt ≤ 2000000000) ∧ r.toInt = -2000000000) ∨ ((-2000000000 ≤ v.toInt ∧ v.toInt ≤ 2000000000) ∧ r = v.toInt32))))
def FRM (s : S9) (w g r : Int32) : Prop := 0 < (uplM s w g).1.toInt → RESM (uplM s w g).1 (uplM s w g).2 r
/-! ===== the class's long division, as it is done ===== -/
def absL (a : Int64) : Int64 := if a.toInt < 0 then -a else a
def fdvL (x y : Int64) : Int64 := if 0 ≤ (x ^^^ y).toInt then x / y else if x / y * y = x then x / y else x / y - 1
def fmdL (x y : Int64) : Int64 := if 0 ≤ (x ^^^ y).toInt then x - x / y * y else if x - x / y * y = 0 then x - x / y * y else x - x / y * y + y
def adG (wd rem t : Int64) (b : Int32) (s : Int64 × Int64) : Int64 × Int64 := (2 * s.1 + (t >>> (b.toInt64 &&& 63) &&& 1) * rem - (2 * s.1 + (t >>> (b.toInt64 &&& 63) &&& 1) * rem) / wd * wd, 2 * s.2 + (2 * s.1 + (t >>> (b.toInt64 &&& 63) &&& 1) * rem) / wd)
def adS (wd rem t : Int64) : Nat → Int64 × Int64
  | 0 => (0, 0)
  | j + 1 => adG wd rem t (Int32.ofInt (30 - (j : Int))) (adS wd rem t j)
theorem adS_s (wd rem t : Int64) (j : Nat) : adS wd rem t (j + 1) = adG wd rem t (Int32.ofInt (30 - (j : Int))) (adS wd rem t j) := rfl
theorem bit_ix {b : Int32} (h : 0 ≤ b.toInt ∧ b.toInt ≤ 30) : Int32.ofInt (30 - (((30 - b.toInt).toNat : Nat) : Int)) = b := by
  rw [show 30 - (((30 - b.toInt).toNat : Nat) : Int) = b.toInt by omega]
  exact Int32.ofInt_toInt b
def adPr (wd wh rs a b : Int64) : Int64 × Int64 := if wd.toInt ≤ 0 then (wh, rs) else if 0 ≤ b.toInt then (wh + fdvL a wd * absL b + ((adS wd (fmdL a wd) (absL b) 31).2 + (rs + (adS wd (fmdL a wd) (absL b) 31).1) / wd), (rs + (adS wd (fmdL a wd) (absL b) 31).1) - (rs + (adS wd (fmdL a wd) (absL b) 31).1) / wd * wd) else (wh + fdvL (-a) wd * absL b + ((adS wd (fmdL (-a) wd) (absL b) 31).2 + (rs + (adS wd (fmdL (-a) wd) (absL b) 31).1) / wd), (rs + (adS wd (fmdL (-a) wd) (absL b) 31).1) - (rs + (adS wd (fmdL (-a) wd) (absL b) 31).1) / wd * wd)
def thoX (s : S9) (d bw ba : Int64) (w g : Int32) : Int64 := (adPr (s.1 * d) (adPr (s.1 * d) (adPr (s.1 * d) 0 0 d (1000 * s.2.1)).1 (adPr (s.1 * d) 0 0 d (1000 * s.2.1)).2 bw (1000 * (s.1 * w.toInt64 - s.2.2.1))).1 (adPr (s.1 * d) (adPr (s.1 * d) 0 0 d (1000 * s.2.1)).1 (adPr (s.1 * d) 0 0 d (1000 * s.2.1)).2 bw (1000 * (s.1 * w.toInt64 - s.2.2.1))).2 ba (1000 * (s.1 * g.toInt64 - s.2.2.2.1))).1
def FRX (s : S9) (w g r : Int32) : Prop := (¬ (-2000000000 ≤ (thoX s (solX s).2.1 (solX s).2.2.1 (solX s).2.2.2 w g).toInt ∧ (thoX s (solX s).2.1 (solX s).2.2.1 (solX s).2.2.2 w g).toInt ≤ 2000000000) ∧ r.toInt = -2000000000) ∨ ((-2000000000 ≤ (thoX s (solX s).2.1 (solX s).2.2.1 (solX s).2.2.2 w g).toInt ∧ (thoX s (solX s).2.1 (solX s).2.2.1 (solX s).2.2.2 w g).toInt ≤ 2000000000) ∧ r = (thoX s (solX s).2.1 (solX s).2.2.1 (solX s).2.2.2 w g).toInt32)
/-! ===== dealing ===== -/
theorem ofN_c {i : Int32} (h : 0 ≤ i.toInt) : Int32.ofNat i.toNatClampNeg = i := by
  have hc := i_clamp0 h
  have hh := i_hi i
  refine i_eq.mpr ?_
  rw [Int32.toInt_ofNat_of_lt (by omega)]
  exact hc
def vI (f : Nat → Int32) : Nat → Int := fun i => (f i).toInt
def wN (f : Nat → Int32) : Nat → Nat := fun i => (f i).toInt.toNat
/-- second least, as the reference finds it -/
def soI (v w : Nat → Int32) (s : Int32) : Nat → Int32 × Int32
  | 0 => (10000, 10000)
  | n + 1 => if w n = s then (if v n < (soI v w s n).1 then (v n, (soI v w s n).1) else if v n < (soI v w s n).2 then ((soI v w s n).1, v n) else soI v w s n) else soI v w s n
theorem soI_s (v w : Nat → Int32) (s : Int32) (n : Nat) : soI v w s (n + 1) = if w n = s then (if v n < (soI v w s n).1 then (v n, (soI v w s n).1) else if v n < (soI v w s n).2 then ((soI v w s n).1, v n) else soI v w s n) else soI v w s n := rfl
/-- the worst of the first ships -/
def wsI (d v w : Nat → Int32) (n : Nat) : Nat → Int32
  | 0 => 0
  | s + 1 => if wsI d v w n s < d s * (soI v w (Int32.ofNat s) n).2 then d s * (soI v w (Int32.ofNat s) n).2 else wsI d v w n s
theorem wsI_s (d v w : Nat → Int32) (n s : Nat) : wsI d v w n (s + 1) = if wsI d v w n s < d s * (soI v w (Int32.ofNat s) n).2 then d s * (soI v w (Int32.ofNat s) n).2 else wsI d v w n s := rfl
/-- the first ones copied -/
def cpX (w b : Nat → Int32) : Nat → Nat → Int32
  | 0 => b
  | n + 1 => upd (cpX w b n) n (w n)
theorem cpX_s (w b : Nat → Int32) (n : Nat) : cpX w b (n + 1) = upd (cpX w b n) n (w n) := rfl
/-- the digits of a way's number, the first one the highest: 0, 1, 2 a ship, 3 none -/
def dgr : Nat → Nat → Nat → Nat
  | 0, _, _ => 0
  | n + 1, c, i => if i = n then c % 4 else dgr n (c / 4) i
/-- how many of the first n are of ship s -/
def cntW (w : Nat → Nat) (s : Nat) : Nat → Nat
  | 0 => 0
  | n + 1 => cntW w s n + (if w n = s then 1 else 0)
theorem cntW_s (w : Nat → Nat) (s n : Nat) : cntW w s (n + 1) = cntW w s n + (if w n = s then 1 else 0) := rfl
/-- each of the first n is of one of S ships, or of none -/
def okW (S : Nat) (w : Nat → Nat) : Nat → Bool
  | 0 => true
  | n + 1 => okW S w n && (decide (w n < S) || decide (w n = 3))
def allC (w : Nat → Nat) (L : Nat) : Nat → Bool
  | 0 => true
  | s + 1 => allC w L s && decide (cntW w s L = 3)
def vldW (S L : Nat) (w : Nat → Nat) : Bool := okW S w L && allC w L S
theorem okW_s {S : Nat} {w : Nat → Nat} {n : Nat} (h : okW S w n = true) (hn : w n < S ∨ w n = 3) : okW S w (n + 1) = true := by
  show (okW S w n && (decide (w n < S) || decide (w n = 3))) = true
  rw [h]
  rcases hn with e | e
  · rw [decide_eq_true e]; rfl
  · rw [decide_eq_true e, Bool.or_true]; rfl
theorem allC_s {w : Nat → Nat} {L s : Nat} (h : allC w L s = true) (hn : cntW w s L = 3) : allC w L (s + 1) = true := by
  show (allC w L s && decide (cntW w s L = 3)) = true
  rw [h, decide_eq_true hn]; rfl
theorem allC_at {w : Nat → Nat} {L s : Nat} : ∀ S : Nat, s < S → allC w L S = true → cntW w s L = 3
  | 0, h, _ => by omega
  | S + 1, h, e => by
    have e2 : (allC w L S && decide (cntW w S L = 3)) = true := e
    rw [Bool.and_eq_true] at e2
    by_cases q : s = S
    · subst q; exact of_decide_eq_true e2.2
    · exact allC_at S (by omega) e2.1
theorem okW_at {S : Nat} {w : Nat → Nat} {i : Nat} : ∀ n : Nat, i < n → okW S w n = true → w i < S ∨ w i = 3
  | 0, h, _ => by omega
  | n + 1, h, e => by
    have e2 : (okW S w n && (decide (w n < S) || decide (w n = 3))) = true := e
    rw [Bool.and_eq_true, Bool.or_eq_true] at e2
    by_cases q : i = n
    · subst q
      rcases e2.2 with k | k
      · exact Or.inl (of_decide_eq_true k)
      · exact Or.inr (of_decide_eq_true k)
    · exact okW_at n (by omega) e2.1
theorem vld_no1 {S L : Nat} {w : Nat → Nat} {i : Nat} (hi : i < L) (h : ¬ (w i < S ∨ w i = 3)) : vldW S L w = false := by
  rcases Bool.eq_false_or_eq_true (vldW S L w) with e | e
  · unfold vldW at e
    rw [Bool.and_eq_true] at e
    exact absurd (okW_at L hi e.1) h
  · exact e
theorem vld_no2 {S L : Nat} {w : Nat → Nat} {s : Nat} (hs : s < S) (h : cntW w s L ≠ 3) : vldW S L w = false := by
  rcases Bool.eq_false_or_eq_true (vldW S L w) with e | e
  · unfold vldW at e
    rw [Bool.and_eq_true] at e
    exact absurd (allC_at S hs e.2) h
  · exact e
theorem vld_yes {S L : Nat} {w : Nat → Nat} (h1 : okW S w L = true) (h2 : allC w L S = true) : vldW S L w = true := by
  unfold vldW
  rw [h1, h2]; rfl
/-- how many of each ship are counted -/
def GV (g : Nat → Int32) (w : Nat → Int32) (n : Nat) : Prop := ∀ s : Nat, s < 3 → (g s).toInt = (cntW (wN w) s n : Nat)
theorem GV_0 {g w : Nat → Int32} (h : ∀ s : Nat, s < 3 → (g s).toInt = 0) : GV g w 0 := fun s hs => by rw [h s hs]; rfl
theorem GV_3 {g w : Nat → Int32} {i : Nat} (h : GV g w i) (e : (w i).toInt = 3) : GV g w (i + 1) := fun s hs => by
  rw [cntW_s, if_neg (show ¬ wN w i = s by unfold wN; omega), Nat.add_zero]
  exact h s hs
theorem cntW_le (w : Nat → Nat) (s : Nat) : ∀ n : Nat, cntW w s n ≤ n
  | 0 => Nat.le_refl _
  | n + 1 => by
    have := cntW_le w s n
    rw [cntW_s]
    split <;> omega
theorem GV_up {g w : Nat → Int32} {i : Nat} {z : Int32} (h : GV g w i) (hi : i ≤ 100) (hw : 0 ≤ (w i).toInt ∧ (w i).toInt < 3) (e : z = g (w i).toNatClampNeg + 1) : GV (upd g (w i).toNatClampNeg z) w (i + 1) := fun s hs => by
  have hc := i_clamp0 hw.1
  rw [cntW_s]
  by_cases q : s = (w i).toNatClampNeg
  · subst q
    have h2 := h _ hs
    have h3 := cntW_le (wN w) (w i).toNatClampNeg i
    rw [if_pos (show wN w i = (w i).toNatClampNeg by unfold wN; omega)]
    simp only [upd, if_pos]
    rw [e, i_add (by rw [h2, show (1 : Int32).toInt = 1 by decide]; omega) (by rw [h2, show (1 : Int32).toInt = 1 by decide]; omega), h2, show (1 : Int32).toInt = 1 by decide]
    omega
  · rw [if_neg (show ¬ wN w i = s by unfold wN; omega)]
    simp only [upd, if_neg q]
    exact h s hs
theorem GZ_s {f : Nat → Int32} {n : Nat} (h : ∀ s : Nat, s < n → (f s).toInt = 0) : ∀ s : Nat, s < n + 1 → (upd f n 0 s).toInt = 0 := fun s hs => by
  by_cases q : s = n
  · subst q
    simp only [upd, if_pos]
    decide
  · simp only [upd, if_neg q]
    exact h s (by omega)
theorem val4_z {f : Nat → Int32} {n : Nat} (h : val4 f n = 0) : val4 (upd f n 0) (n + 1) = 0 := by
  rw [val4_succ, val4_out n (Nat.le_refl n), h]
  simp only [upd, if_pos]
  decide
def shN (b c : Int32) : Nat := if b.toInt = 0 then 1 else if c.toInt = 0 then 2 else 3
/-- the reference goes on from one way to the next -/
abbrev SM : Type := Int32 × (Nat → Int32)
def stM (S L : Nat) (d v : Nat → Int32) (z : SM) (w : Nat → Int32) : SM := if vldW S L (wN w) = true ∧ (z.1.toInt < 0 ∨ (wsI d v w L S).toInt < z.1.toInt) then (wsI d v w L S, cpX w z.2 L) else z
def dgI (L c : Nat) : Nat → Int32 := fun i => Int32.ofNat (dgr L c i)
def fdM (S L : Nat) (d v : Nat → Int32) (z : SM) : Nat → SM
  | 0 => z
  | c + 1 => stM S L d v (fdM S L d v z c) (dgI L c)
theorem fdM_s (S L : Nat) (d v : Nat → Int32) (z : SM) (c : Nat) : fdM S L d v z (c + 1) = stM S L d v (fdM S L d v z c) (dgI L c) := rfl
theorem soI_congr {v w u : Nat → Int32} {s : Int32} : ∀ n : Nat, (∀ i : Nat, i < n → w i = u i) → soI v w s n = soI v u s n
  | 0, _ => rfl
  | n + 1, h => by rw [soI_s, soI_s, soI_congr n (fun i hi => h i (by omega)), h n (by omega)]
theorem wsI_congr {d v w u : Nat → Int32} {n : Nat} (h : ∀ i : Nat, i < n → w i = u i) : ∀ s : Nat, wsI d v w n s = wsI d v u n s
  | 0 => rfl
  | s + 1 => by rw [wsI_s, wsI_s, wsI_congr h s, soI_congr n h]
theorem cpX_congr {w u b : Nat → Int32} : ∀ n : Nat, (∀ i : Nat, i < n → w i = u i) → cpX w b n = cpX u b n
  | 0, _ => rfl
  | n + 1, h => by rw [cpX_s, cpX_s, cpX_congr n (fun i hi => h i (by omega)), h n (by omega)]
theorem cntW_congr {w u : Nat → Nat} {s : Nat} : ∀ n : Nat, (∀ i : Nat, i < n → w i = u i) → cntW w s n = cntW u s n
  | 0, _ => rfl
  | n + 1, h => by rw [cntW_s, cntW_s, cntW_congr n (fun i hi => h i (by omega)), h n (by omega)]
theorem okW_congr {S : Nat} {w u : Nat → Nat} : ∀ n : Nat, (∀ i : Nat, i < n → w i = u i) → okW S w n = okW S u n
  | 0, _ => rfl
  | n + 1, h => by
    show (okW S w n && (decide (w n < S) || decide (w n = 3))) = (okW S u n && (decide (u n < S) || decide (u n = 3)))
    rw [okW_congr n (fun i hi => h i (by omega)), h n (by omega)]
theorem allC_congr {w u : Nat → Nat} {L : Nat} (h : ∀ i : Nat, i < L → w i = u i) : ∀ s : Nat, allC w L s = allC u L s
  | 0 => rfl
  | s + 1 => by
    show (allC w L s && decide (cntW w s L = 3)) = (allC u L s && decide (cntW u s L = 3))
    rw [allC_congr h s, cntW_congr L h]
theorem vldW_congr {S L : Nat} {w u : Nat → Nat} (h : ∀ i : Nat, i < L → w i = u i) : vldW S L w = vldW S L u := by
  unfold vldW
  rw [okW_congr L h, allC_congr h S]
theorem stM_congr {S L : Nat} {d v w u : Nat → Int32} {z : SM} (h : ∀ i : Nat, i < L → w i = u i) : stM S L d v z w = stM S L d v z u := by
  unfold stM
  rw [vldW_congr (w := wN w) (u := wN u) (fun i hi => by unfold wN; rw [h i hi]), wsI_congr h, cpX_congr L h]
theorem dgr_lt : ∀ (n c i : Nat), dgr n c i < 4
  | 0, _, _ => (by decide : (0 : Nat) < 4)
  | n + 1, c, i => by
    show (if i = n then c % 4 else dgr n (c / 4) i) < 4
    split
    · omega
    · exact dgr_lt n (c / 4) i
theorem dg_val {w : Nat → Int32} (hr : ∀ k : Nat, k < 9 → 0 ≤ (w k).toInt ∧ (w k).toInt ≤ 3) : ∀ n : Nat, n ≤ 9 → ∀ i : Nat, i < n → dgr n (val4 w n).toNat i = (w i).toInt.toNat
  | 0, _, i, hi => by omega
  | n + 1, hn, i, hi => by
    have h1 := hr n (by omega)
    have h2 := (val4_rng hr n (by omega)).1
    have e := val4_succ w n
    show (if i = n then (val4 w (n + 1)).toNat % 4 else dgr n ((val4 w (n + 1)).toNat / 4) i) = _
    by_cases q : i = n
    · rw [if_pos q, q, e]; omega
    · rw [if_neg q, show (val4 w (n + 1)).toNat / 4 = (val4 w n).toNat by omega]
      exact dg_val hr n (by omega) i (by omega)
theorem stM_way {S : Nat} {n : Int32} {d v w : Nat → Int32} {z : SM} (hr : ∀ k : Nat, k < 9 → 0 ≤ (w k).toInt ∧ (w k).toInt ≤ 3) (h0 : 0 ≤ n.toInt) (h9 : n.toInt ≤ 9) : stM S n.toNatClampNeg d v z (dgI n.toNatClampNeg (val4 w n.toNatClampNeg).toNat) = stM S n.toNatClampNeg d v z w := stM_congr (fun i hi => by
  have hc := i_clamp0 h0
  have h1 := hr i (by omega)
  unfold dgI
  rw [dg_val hr _ (by omega) i hi]
  exact ofN_c h1.1)
theorem fd_step {S : Nat} {n : Int32} {d v w : Nat → Int32} {z y : SM} {c : Nat} (hr : ∀ k : Nat, k < 9 → 0 ≤ (w k).toInt ∧ (w k).toInt ≤ 3) (h0 : 0 ≤ n.toInt) (h9 : n.toInt ≤ 9) (hz : y = fdM S n.toNatClampNeg d v z (val4 w n.toNatClampNeg).toNat) (hc : (c : Int) = val4 w n.toNatClampNeg + 1) : fdM S n.toNatClampNeg d v z c = stM S n.toNatClampNeg d v y w := by
  have h1 := val4_max hr h0 h9
  rw [show c = (val4 w n.toNatClampNeg).toNat + 1 by omega, fdM_s, ← hz, stM_way hr h0 h9]
theorem stM_no {S L : Nat} {d v w : Nat → Int32} {z : SM} (h : vldW S L (wN w) = false) : stM S L d v z w = z := by
  unfold stM
  rw [if_neg (fun q => by rw [h] at q; exact absurd q.1 (by decide))]
theorem stM_not {S L : Nat} {d v w : Nat → Int32} {z : SM} (h : ¬ (z.1.toInt < 0 ∨ (wsI d v w L S).toInt < z.1.toInt)) : stM S L d v z w = z := by
  unfold stM
  rw [if_neg (fun q => h q.2)]
theorem stM_yes {S L : Nat} {d v w : Nat → Int32} {z : SM} (h1 : vldW S L (wN w) = true) (h : z.1.toInt < 0 ∨ (wsI d v w L S).toInt < z.1.toInt) : stM S L d v z w = (wsI d v w L S, cpX w z.2 L) := by
  unfold stM
  rw [if_pos ⟨h1, h⟩]
theorem val4_end {f : Nat → Int32} {n i : Int32} (h0 : 0 ≤ n.toInt) (h9 : n.toInt ≤ 9) (hi : i.toInt = -1) (hf : ∀ k : Nat, k < 9 → 0 ≤ (f k).toInt ∧ (f k).toInt ≤ 3) {V : Int} (hV : V ≤ 4 ^ n.toNatClampNeg - 1) (h : val4 f n.toNatClampNeg + 4 ^ (n.toInt - 1 - i.toInt).toNat = V + 1) : ((4 ^ n.toNatClampNeg : Nat) : Int) = V + 1 := by
  have hc := i_clamp0 h0
  have h1 := val4_rng hf n.toNatClampNeg (by omega)
  rw [show (n.toInt - 1 - i.toInt).toNat = n.toNatClampNeg by omega] at h
  rw [Int.natCast_pow]
  have e : ((4 : Nat) : Int) = 4 := rfl
  rw [e]
  omega
/-! the class's side, as it is done -/
/-- a ship's doubts: sum, least, most -/
def slX (d w : Nat → Int32) (s : Int32) : Nat → Int32 × Int32 × Int32
  | 0 => (0, 9999, 0)
  | n + 1 => if w n = s then ((slX d w s n).1 + d n, (if d n < (slX d w s n).2.1 then d n else (slX d w s n).2.1), (if (slX d w s n).2.2 < d n then d n else (slX d w s n).2.2)) else slX d w s n
theorem slX_s (d w : Nat → Int32) (s : Int32) (n : Nat) : slX d w s (n + 1) = if w n = s then ((slX d w s n).1 + d n, (if d n < (slX d w s n).2.1 then d n else (slX d w s n).2.1), (if (slX d w s n).2.2 < d n then d n else (slX d w s n).2.2)) else slX d w s n := rfl
def slV (d w : Nat → Int32) (s : Int32) (n : Nat) : Int32 := (slX d w s n).1 - (slX d w s n).2.1 - (slX d w s n).2.2
def kbX (d w vo : Nat → Int32) (n : Nat) : Nat → Int32
  | 0 => 0
  | k + 1 => if kbX d w vo n k < vo k * slV d w (Int32.ofNat k) n then vo k * slV d w (Int32.ofNat k) n else kbX d w vo n k
theorem kbX_s (d w vo : Nat → Int32) (n k : Nat) : kbX d w vo n (k + 1) = if kbX d w vo n k < vo k * slV d w (Int32.ofNat k) n then vo k * slV d w (Int32.ofNat k) n else kbX d w vo n k := rfl
def kqX (d vo : Nat → Int32) (n S : Int32) (w : Nat → Int32) (lw : Int32) (b : Nat → Int32) : SM := if (kbX d w vo n.toNatClampNeg S.toNatClampNeg).toInt < lw.toInt then (kbX d w vo n.toNatClampNeg S.toNatClampNeg, cpX w b 9) else (lw, b)
/-- way, given, least worst, best -/
abbrev TS : Type := (Nat → Int32) × (Nat → Int32) × Int32 × (Nat → Int32)
def kpX (d vo : Nat → Int32) (n S : Int32) (z : TS) : TS := (z.1, z.2.1, kqX d vo n S z.1 z.2.2.1 z.2.2.2)
def shX (T : Int32 → Int32 → TS → TS) (i sp : Int32) (k : Nat) (z : TS) : TS := if (z.2.1 k).toInt < 3 then ((T (i + 1) sp (upd z.1 i.toNatClampNeg (Int32.ofNat k), upd z.2.1 k (z.2.1 k + 1), z.2.2)).1, upd (T (i + 1) sp (upd z.1 i.toNatClampNeg (Int32.ofNat k), upd z.2.1 k (z.2.1 k + 1), z.2.2)).2.1 k ((T (i + 1) sp (upd z.1 i.toNatClampNeg (Int32.ofNat k), upd z.2.1 k (z.2.1 k + 1), z.2.2)).2.1 k - 1), (T (i + 1) sp (upd z.1 i.toNatClampNeg (Int32.ofNat k), upd z.2.1 k (z.2.1 k + 1), z.2.2)).2.2) else z
def lpX (T : Int32 → Int32 → TS → TS) (i sp : Int32) (z : TS) : Nat → TS
  | 0 => z
  | k + 1 => shX T i sp k (lpX T i sp z k)
theorem lpX_s (T : Int32 → Int32 → TS → TS) (i sp : Int32) (z : TS) (k : Nat) : lpX T i sp z (k + 1) = shX T i sp k (lpX T i sp z k) := rfl
theorem shX_no {T : Int32 → Int32 → TS → TS} {i sp : Int32} {k : Nat} {z : TS} (h : ¬ (z.2.1 k).toInt < 3) : shX T i sp k z = z := by
  unfold shX
  rw [if_neg h]
theorem shX_go {T : Int32 → Int32 → TS → TS} {i sp j : Int32} {k : Nat} {w g b w' g' b' : Nat → Int32} {lw lw' : Int32} (h : (g k).toInt < 3) (hT : ((w', g', lw', b') : TS) = T j sp (upd w i.toNatClampNeg (Int32.ofNat k), upd g k (g k + 1), lw, b)) (hj : j = i + 1) : ((w', upd g' k (g' k - 1), lw', b') : TS) = shX T i sp k (w, g, lw, b) := by
  subst hj
  unfold shX
  rw [if_pos h, ← hT]
def tfX (d vo : Nat → Int32) (n S : Int32) : Nat → Int32 → Int32 → TS → TS
  | 0, _, _, z => kpX d vo n S z
  | l + 1, i, sp, z => if n.toInt ≤ i.toInt ∨ 9 ≤ i.toInt then kpX d vo n S z else if 0 < sp.toInt then tfX d vo n S l (i + 1) (sp - 1) (upd (lpX (tfX d vo n S l) i sp z S.toNatClampNeg).1 i.toNatClampNeg (-1), (lpX (tfX d vo n S l) i sp z S.toNatClampNeg).2) else lpX (tfX d vo n S l) i sp z S.toNatClampNeg
theorem tfX_end {d vo : Nat → Int32} {n S : Int32} {l : Nat} {i sp : Int32} {z : TS} (h : n.toInt ≤ i.toInt ∨ 9 ≤ i.toInt) : tfX d vo n S l i sp z = kpX d vo n S z := by
  cases l with
  | zero => rfl
  | succ l => show (if n.toInt ≤ i.toInt ∨ 9 ≤ i.toInt then _ else _) = _; rw [if_pos h]
theorem tfX_no {d vo : Nat → Int32} {n S : Int32} {l : Nat} {i sp : Int32} {z : TS} (h : ¬ (n.toInt ≤ i.toInt ∨ 9 ≤ i.toInt)) (hs : ¬ 0 < sp.toInt) : tfX d vo n S (l + 1) i sp z = lpX (tfX d vo n S l) i sp z S.toNatClampNeg := by
  show (if n.toInt ≤ i.toInt ∨ 9 ≤ i.toInt then _ else if 0 < sp.toInt then _ else _) = _
  rw [if_neg h, if_neg hs]
theorem tfX_go {d vo : Nat → Int32} {n S : Int32} {l : Nat} {i sp : Int32} {z : TS} (h : ¬ (n.toInt ≤ i.toInt ∨ 9 ≤ i.toInt)) (hs : 0 < sp.toInt) : tfX d vo n S (l + 1) i sp z = tfX d vo n S l (i + 1) (sp - 1) (upd (lpX (tfX d vo n S l) i sp z S.toNatClampNeg).1 i.toNatClampNeg (-1), (lpX (tfX d vo n S l) i sp z S.toNatClampNeg).2) := by
  show (if n.toInt ≤ i.toInt ∨ 9 ≤ i.toInt then _ else if 0 < sp.toInt then _ else _) = _
  rw [if_neg h, if_pos hs]
theorem tf_go {d vo : Nat → Int32} {n S : Int32} {l : Nat} {i sp j k : Int32} {z : TS} {w g b : Nat → Int32} {lw : Int32} {y : TS} (h : ¬ (n.toInt ≤ i.toInt ∨ 9 ≤ i.toInt)) (hs : 0 < sp.toInt) (hl : ((w, g, lw, b) : TS) = lpX (tfX d vo n S l) i sp z S.toNatClampNeg) (hj : j = i + 1) (hk : k = sp - 1) (hy : y = tfX d vo n S l j k (upd w i.toNatClampNeg (-1), g, lw, b)) : y = tfX d vo n S (l + 1) i sp z := by
  rw [tfX_go h hs, ← hl, hy, hj, hk]
/-- what sharing out amounts to -/
def SHX (d vo w b : Nat → Int32) (n S r : Int32) (b' : Nat → Int32) : Prop := ∃ g w' g' : Nat → Int32, (∀ s : Nat, s < 3 → (g s).toInt = 0) ∧ ((w', g', r, b') : TS) = tfX d vo n S 9 0 (n - 3 * S) (w, g, 2000000000, b)
def shI (b c : Int32) : Int32 := if b.toInt = 0 then 1 else if c.toInt = 0 then 2 else 3
