/-! ===== what the class's parts answer, as functions ===== -/
def offS (sg fr to bv od : Nat → Int32) (src day k : Int32) : Nat → Int32
  | 0 => 0
  | i + 1 => if (sg i).toInt = src.toInt ∧ ((fr i).toInt ≤ day.toInt ∧ day.toInt ≤ (to i).toInt) ∧ (k.toInt = -1 ∨ (od i).toInt ≤ k.toInt) then offS sg fr to bv od src day k i + bv i else offS sg fr to bv od src day k i
theorem offS_succ (sg fr to bv od : Nat → Int32) (src day k : Int32) (i : Nat) : offS sg fr to bv od src day k (i + 1) = if (sg i).toInt = src.toInt ∧ ((fr i).toInt ≤ day.toInt ∧ day.toInt ≤ (to i).toInt) ∧ (k.toInt = -1 ∨ (od i).toInt ≤ k.toInt) then offS sg fr to bv od src day k i + bv i else offS sg fr to bv od src day k i := rfl
def sumF (sg fr to bv od : Nat → Int32) (n src day k : Int32) : Int32 := if src.toInt = 0 then 0 else offS sg fr to bv od src day k n.toNatClampNeg
def eX (f0 f1 sg fr to bv od : Nat → Int32) (n day k : Int32) : Int32 :=
  if (0 ≤ day.toInt ∧ day.toInt ≤ 399) ∧ (f1 day.toNatClampNeg).toInt ≠ -1 then f0 day.toNatClampNeg - sumF sg fr to bv od n (f1 day.toNatClampNeg) day k else -2000000000
def mkX (f2 : Nat → Int32) (day m : Int32) : Prop := (0 ≤ day.toInt ∧ day.toInt ≤ 399) ∧ (f2 day.toNatClampNeg &&& m).toInt ≠ 0
def rbX (f2 : Nat → Int32) (day e e2 : Int32) : Int32 :=
  if e.toInt = -2000000000 ∨ e2.toInt = -2000000000 ∨ ¬ (-999 ≤ (e2 - e).toInt ∧ (e2 - e).toInt ≤ 999) then -2000000000
  else if ((0 ≤ day.toInt ∧ day.toInt ≤ 399) ∧ (f2 day.toNatClampNeg &&& 2).toInt ≠ 0) ∨ ((0 ≤ (day + 1).toInt ∧ (day + 1).toInt ≤ 399) ∧ (f2 (day + 1).toNatClampNeg &&& 3).toInt ≠ 0) then -2000000000 else e2 - e
def rX (f0 f1 f2 sg fr to bv od : Nat → Int32) (n day k : Int32) : Int32 := rbX f2 day (eX f0 f1 sg fr to bv od n day k) (eX f0 f1 sg fr to bv od n (day + 1) k)
def ageN (f : Nat → Int32) : Nat → Int
  | 0 => 0
  | d + 1 => if (f (d + 1) &&& 1).toInt ≠ 0 then 0 else ageN f d + 1
theorem ageN_succ (f : Nat → Int32) (d : Nat) : ageN f (d + 1) = if (f (d + 1) &&& 1).toInt ≠ 0 then 0 else ageN f d + 1 := rfl
def awN (f : Nat → Int32) : Nat → Int
  | 0 => 0
  | d + 1 => awN f d + (if (f d).toInt = -1 then 0 else 1)
theorem awN_succ (f : Nat → Int32) (d : Nat) : awN f (d + 1) = awN f d + (if (f d).toInt = -1 then 0 else 1) := rfl
/-- from day a on another holder -/
def GIV (f g : Nat → Int32) (a : Int) (v : Int32) : Prop := ∀ k : Nat, k < 400 → g k = if a ≤ (k : Int) then v else f k
def GIVl (f g : Nat → Int32) (a b : Int) (v : Int32) : Prop := ∀ k : Nat, k < 400 → g k = if a ≤ (k : Int) ∧ (k : Int) < b then v else f k
theorem GIVl_0 {f : Nat → Int32} {a b : Int} {v : Int32} (h : a = b) : GIVl f f a b v := fun k _ => by rw [if_neg (by omega)]
theorem GIVl_s {f g : Nat → Int32} {a b b2 : Int} {v i : Int32} (h : GIVl f g a b v) (h0 : 0 ≤ i.toInt) (hab : a ≤ b) (hi : i.toInt = b) (hb : b2 = b + 1) : GIVl f (upd g i.toNatClampNeg v) a b2 v := fun k hk => by
  have hc := i_clamp0 h0
  unfold upd
  by_cases e : k = i.toNatClampNeg
  · rw [if_pos e, if_pos (by omega)]
  · rw [if_neg e, h k hk]
    by_cases q : a ≤ (k : Int) ∧ (k : Int) < b
    · rw [if_pos q, if_pos (by omega)]
    · rw [if_neg q, if_neg (by omega)]
theorem GIVl_e {f g : Nat → Int32} {a b : Int} {v : Int32} (h : GIVl f g a b v) (hb : 400 ≤ b) : GIV f g a v := fun k hk => by
  rw [h k hk]
  by_cases q : a ≤ (k : Int)
  · rw [if_pos q, if_pos (by omega)]
  · rw [if_neg q, if_neg (by omega)]
/-- as new -/
def NEW4 (a b c d : Nat → Int32) (n : Int) : Prop := ∀ k : Nat, (k : Int) < n → a k = 0 ∧ b k = -1 ∧ c k = 0 ∧ d k = -1
theorem NEW4_0 {a b c d : Nat → Int32} {n : Int} (h : n ≤ 0) : NEW4 a b c d n := fun k hk => by omega
theorem NEW4_s {a b c d : Nat → Int32} {n n2 : Int} {i : Int32} (h : NEW4 a b c d n) (h0 : 0 ≤ i.toInt) (hi : i.toInt = n) (hn : n2 = n + 1) : NEW4 (upd a i.toNatClampNeg 0) (upd b i.toNatClampNeg (-1)) (upd c i.toNatClampNeg 0) (upd d i.toNatClampNeg (-1)) n2 := fun k hk => by
  have hc := i_clamp0 h0
  unfold upd
  by_cases e : k = i.toNatClampNeg
  · simp [e]
  · simp only [if_neg e]
    exact h k (by omega)
theorem age_back {f : Nat → Int32} {a : Int} {m : Int32} {n : Nat} (hn : (n : Int) = m.toInt) (h1 : 1 ≤ m.toInt) (ha : a = ageN f n) (hz : (f m.toNatClampNeg &&& 1).toInt = 0) : a - 1 = ageN f (n - 1) := by
  have hc := i_clamp0 (x := m) (by omega)
  obtain ⟨k, rfl⟩ : ∃ k, n = k + 1 := ⟨n - 1, by omega⟩
  rw [ageN_succ, show k + 1 = m.toNatClampNeg by omega, if_neg (by rw [hz]; simp)] at ha
  have e : k + 1 - 1 = k := by omega
  rw [e]
  omega
theorem age_here {f : Nat → Int32} {m : Int32} {n : Nat} (hn : (n : Int) = m.toInt) (h1 : 1 ≤ m.toInt) (hz : (f m.toNatClampNeg &&& 1).toInt ≠ 0) : ageN f n = 0 := by
  have hc := i_clamp0 (x := m) (by omega)
  obtain ⟨k, rfl⟩ : ∃ k, n = k + 1 := ⟨n - 1, by omega⟩
  rw [ageN_succ, show k + 1 = m.toNatClampNeg by omega, if_pos hz]
/-- the rates of days p, p + 1 .. , in their order: day and rate -/
def rateL (R : Int32 → Int32) (p : Int32) : Nat → List (Int32 × Int32)
  | 0 => []
  | j + 1 => if (R (p + nI j)).toInt = -2000000000 then rateL R p j else rateL R p j ++ [(p + nI j, R (p + nI j))]
theorem rateL_succ (R : Int32 → Int32) (p : Int32) (j : Nat) : rateL R p (j + 1) = if (R (p + nI j)).toInt = -2000000000 then rateL R p j else rateL R p j ++ [(p + nI j, R (p + nI j))] := rfl
/-- two rows hold a list -/
def HOLDS (d v : Nat → Int32) (n : Int32) (l : List (Int32 × Int32)) : Prop := n.toInt = l.length ∧ ∀ i : Nat, i < l.length → l[i]? = some (d i, v i)
theorem HOLDS_0 {d v : Nat → Int32} {n : Int32} (h : n.toInt = 0) : HOLDS d v n [] := ⟨by rw [h]; rfl, fun i hi => absurd hi (Nat.not_lt_zero i)⟩
theorem HOLDS_s {d v : Nat → Int32} {n n2 x y : Int32} {l : List (Int32 × Int32)} (h : HOLDS d v n l) (h0 : 0 ≤ n.toInt) (hn : n2.toInt = n.toInt + 1) : HOLDS (upd d n.toNatClampNeg x) (upd v n.toNatClampNeg y) n2 (l ++ [(x, y)]) := by
  have hc := i_clamp0 h0
  have hl := h.1
  refine ⟨by rw [List.length_append]; simp; omega, fun i hi => ?_⟩
  rw [List.length_append] at hi
  simp at hi
  unfold upd
  by_cases e : i = n.toNatClampNeg
  · subst e
    rw [if_pos rfl, if_pos rfl, List.getElem?_append_right (by omega), show n.toNatClampNeg - l.length = 0 by omega]
    rfl
  · rw [if_neg e, if_neg e, List.getElem?_append_left (by omega)]
    exact h.2 i (by omega)
theorem rate_step {R : Int32 → Int32} {p L z : Int32} (h0 : 0 ≤ p.toInt) (h1 : p.toInt ≤ L.toInt) (h2 : z.toInt = L.toInt + 1) : rateL R p (z.toInt - p.toInt).toNat = if (R L).toInt = -2000000000 then rateL R p (L.toInt - p.toInt).toNat else rateL R p (L.toInt - p.toInt).toNat ++ [(L, R L)] := by
  have e : (z.toInt - p.toInt).toNat = (L.toInt - p.toInt).toNat + 1 := by omega
  rw [e, rateL_succ, day_at h1 h0]
theorem rateL_len (R : Int32 → Int32) (p : Int32) : ∀ j : Nat, (rateL R p j).length ≤ j
  | 0 => Nat.le_refl 0
  | j + 1 => by
    have h := rateL_len R p j
    rw [rateL_succ]
    split
    · omega
    · rw [List.length_append]; simp; omega
def rXn (f0 f1 f2 sg fr to bv od : Nat → Int32) (n : Int32) : Int32 → Int32 := fun d => rX f0 f1 f2 sg fr to bv od n d (-1)
def minF (f : Nat → Int32) : Nat → Int
  | 0 => 999
  | k + 1 => if (f k).toInt < minF f k then (f k).toInt else minF f k
theorem minF_succ (f : Nat → Int32) (k : Nat) : minF f (k + 1) = if (f k).toInt < minF f k then (f k).toInt else minF f k := rfl
def maxF (f : Nat → Int32) : Nat → Int
  | 0 => -999
  | k + 1 => if maxF f k < (f k).toInt then (f k).toInt else maxF f k
theorem maxF_succ (f : Nat → Int32) (k : Nat) : maxF f (k + 1) = if maxF f k < (f k).toInt then (f k).toInt else maxF f k := rfl
def sumI (f : Nat → Int32) : Nat → Int32
  | 0 => 0
  | k + 1 => sumI f k + f k
theorem sumI_succ (f : Nat → Int32) (k : Nat) : sumI f (k + 1) = sumI f k + f k := rfl
/-- the reference: a row's stretch is filled -/
def FIL (f g : Nat → Int32) (a b : Int) (v : Int32) : Prop := ∀ k : Nat, g k = if a ≤ (k : Int) ∧ (k : Int) < b then v else f k
theorem FIL_0 {f : Nat → Int32} {a b : Int} {v : Int32} (h : b ≤ a) : FIL f f a b v := fun k => by rw [if_neg (by omega)]
theorem FIL_s {f g : Nat → Int32} {a b b2 : Int} {v w i : Int32} (h : FIL f g a b v) (h0 : 0 ≤ i.toInt) (hab : a ≤ b) (hi : i.toInt = b) (hb : b2 = b + 1) (hw : w = v) : FIL f (upd g i.toNatClampNeg w) a b2 v := fun k => by
  have hc := i_clamp0 h0
  unfold upd
  by_cases e : k = i.toNatClampNeg
  · rw [if_pos e, if_pos (by omega), hw]
  · rw [if_neg e, h k]
    by_cases q : a ≤ (k : Int) ∧ (k : Int) < b
    · rw [if_pos q, if_pos (by omega)]
    · rw [if_neg q, if_neg (by omega)]
theorem FIL_c {f g : Nat → Int32} {a b c : Int} {v : Int32} (h : FIL f g a b v) (hc : b = c) : FIL f g a c v := by subst hc; exact h
/-- days go by: holders of days t0 + 1 .. t1 (of the first n places one more) are those of t0 -/
def HD2 (f g : Nat → Int32) (t0 t1 n : Int) : Prop := ∀ p d : Nat, p < 16 → d < 400 → g (400 * p + d) = if t0 < (d : Int) ∧ ((d : Int) ≤ t1 ∨ ((d : Int) = t1 + 1 ∧ (p : Int) < n)) then f (400 * p + t0.toNat) else f (400 * p + d)
theorem HD2_0 {f : Nat → Int32} {t0 t1 : Int} (h : t0 = t1) : HD2 f f t0 t1 0 := fun p d hp hd => by rw [if_neg (by omega)]
theorem HD2_e {f g : Nat → Int32} {t0 t1 t2 n : Int} (h : HD2 f g t0 t1 n) (hn : 16 ≤ n) (ht : t2 = t1 + 1) : HD2 f g t0 t2 0 := fun p d hp hd => by
  rw [h p d hp hd]
  by_cases q : t0 < (d : Int) ∧ ((d : Int) ≤ t1 ∨ ((d : Int) = t1 + 1 ∧ (p : Int) < n))
  · rw [if_pos q, if_pos (by omega)]
  · rw [if_neg q, if_neg (by omega)]
theorem HD2_s {f g : Nat → Int32} {t0 : Int} {t1 : Int32} {n n2 : Int} {i : Nat} {v : Int32} (h : HD2 f g t0 t1.toInt n) (h0 : 0 ≤ t0) (h01 : t0 ≤ t1.toInt) (ht : t1.toInt < 399) (hn : 0 ≤ n ∧ n < 16) (hi : (i : Int) = 400 * n + t1.toInt + 1) (hv : v = g (400 * n + t1.toInt).toNat) (hn2 : n2 = n + 1) : HD2 f (upd g i v) t0 t1.toInt n2 := fun p d hp hd => by
  unfold upd
  have hg := h n.toNat t1.toInt.toNat (by omega) (by omega)
  rw [show 400 * n.toNat + t1.toInt.toNat = (400 * n + t1.toInt).toNat by omega, ← hv] at hg
  by_cases e : 400 * p + d = i
  · rw [if_pos e, if_pos (by omega), hg]
    by_cases q : t0 = t1.toInt
    · rw [if_neg (by omega)]
      congr 1
      omega
    · rw [if_pos (by omega)]
      congr 1
      omega
  · rw [if_neg e, h p d hp hd]
    by_cases q : t0 < (d : Int) ∧ ((d : Int) ≤ t1.toInt ∨ ((d : Int) = t1.toInt + 1 ∧ (p : Int) < n))
    · rw [if_pos q, if_pos (by omega)]
    · rw [if_neg q, if_neg (by omega)]
def agM (f : Nat → Int32) (b : Nat) : Nat → Int
  | 0 => 0
  | d + 1 => if (f (b + (d + 1))).toInt ≠ 0 then 0 else agM f b d + 1
theorem agM_succ (f : Nat → Int32) (b d : Nat) : agM f b (d + 1) = if (f (b + (d + 1))).toInt ≠ 0 then 0 else agM f b d + 1 := rfl
theorem agm_here {f : Nat → Int32} {b n : Nat} (hz : (f (b + n)).toInt ≠ 0) : agM f b n = 0 := by
  cases n with
  | zero => rfl
  | succ d => rw [agM_succ, if_pos hz]
theorem agm_back {f : Nat → Int32} {b : Nat} {p x y : Int32} (h : (0 ≤ x.toInt ∧ agM f b p.toInt.toNat - (p.toInt - x.toInt) = agM f b x.toInt.toNat) ∨ (x.toInt = -1 ∧ agM f b p.toInt.toNat = p.toInt)) (h0 : 0 ≤ x.toInt) (hx : x.toInt ≤ 399) (hz : (f (b + x.toInt.toNat)).toInt = 0) (hy : y.toInt = x.toInt - 1) : (0 ≤ y.toInt ∧ agM f b p.toInt.toNat - (p.toInt - y.toInt) = agM f b y.toInt.toNat) ∨ (y.toInt = -1 ∧ agM f b p.toInt.toNat = p.toInt) := by
  have h1 : agM f b p.toInt.toNat - (p.toInt - x.toInt) = agM f b x.toInt.toNat := by omega
  by_cases q : x.toInt = 0
  · refine Or.inr ⟨by omega, ?_⟩
    rw [q] at h1
    have e : agM f b (0 : Int).toNat = 0 := rfl
    omega
  · obtain ⟨k, hk⟩ : ∃ k : Nat, x.toInt.toNat = k + 1 := ⟨x.toInt.toNat - 1, by omega⟩
    rw [hk, agM_succ, ← hk, if_neg (by omega)] at h1
    refine Or.inl ⟨by omega, ?_⟩
    rw [show y.toInt.toNat = k by omega]
    omega
/-- how many rates differ -/
def chN (A B : Int32 → Int32) (p : Int32) : Nat → Int
  | 0 => 0
  | j + 1 => chN A B p j + (if (A (p + nI j)).toInt = (B (p + nI j)).toInt then 0 else 1)
theorem chN_succ (A B : Int32 → Int32) (p : Int32) (j : Nat) : chN A B p (j + 1) = chN A B p j + (if (A (p + nI j)).toInt = (B (p + nI j)).toInt then 0 else 1) := rfl
theorem chN_step {A B : Int32 → Int32} {p L z : Int32} (h0 : 0 ≤ p.toInt) (h1 : p.toInt ≤ L.toInt) (h2 : z.toInt = L.toInt + 1) : chN A B p (z.toInt - p.toInt).toNat = chN A B p (L.toInt - p.toInt).toNat + (if (A L).toInt = (B L).toInt then 0 else 1) := by
  have e : (z.toInt - p.toInt).toNat = (L.toInt - p.toInt).toNat + 1 := by omega
  rw [e, chN_succ, day_at h1 h0]
def awM (f : Nat → Int32) (b : Nat) : Nat → Int
  | 0 => 0
  | d + 1 => awM f b d + (if (f (b + d)).toInt = -1 then 0 else 1)
theorem awM_succ (f : Nat → Int32) (b d : Nat) : awM f b (d + 1) = awM f b d + (if (f (b + d)).toInt = -1 then 0 else 1) := rfl
def cnW (f : Nat → Int32) : Nat → Int
  | 0 => 0
  | d + 1 => cnW f d + (if (f d).toInt = 0 ∨ (f d).toInt = 1 then 1 else 0)
theorem cnW_succ (f : Nat → Int32) (d : Nat) : cnW f (d + 1) = cnW f d + (if (f d).toInt = 0 ∨ (f d).toInt = 1 then 1 else 0) := rfl
def cnS (f : Nat → Int32) : Nat → Int
  | 0 => 0
  | d + 1 => cnS f d + (if (f d).toInt = 1 then 1 else 0)
theorem cnS_succ (f : Nat → Int32) (d : Nat) : cnS f (d + 1) = cnS f d + (if (f d).toInt = 1 then 1 else 0) := rfl
def cnG (f : Nat → Int32) : Nat → Int
  | 0 => 0
  | d + 1 => cnG f d + (if (f d).toInt = 2 then 1 else 0)
theorem cnG_succ (f : Nat → Int32) (d : Nat) : cnG f (d + 1) = cnG f d + (if (f d).toInt = 2 then 1 else 0) := rfl
def cnK (f : Nat → Int32) (v : Int) : Nat → Int
  | 0 => 0
  | d + 1 => cnK f v d + (if (f d).toInt = v then 1 else 0)
theorem cnK_succ (f : Nat → Int32) (v : Int) (d : Nat) : cnK f v (d + 1) = cnK f v d + (if (f d).toInt = v then 1 else 0) := rfl
def ask3 (a b c : Int32) : Nat → Int32
  | 0 => a
  | 1 => b
  | _ => c
theorem ask_u {f : Nat → Int32} {a b c : Int32} : ∀ k : Nat, k < 3 → upd (upd (upd f (0 : Int32).toNatClampNeg a) (1 : Int32).toNatClampNeg b) (2 : Int32).toNatClampNeg c k = ask3 a b c k := by
  intro k hk
  have e0 : (0 : Int32).toNatClampNeg = 0 := by decide
  have e1 : (1 : Int32).toNatClampNeg = 1 := by decide
  have e2 : (2 : Int32).toNatClampNeg = 2 := by decide
  rw [e0, e1, e2]
  unfold upd
  rcases (show k = 0 ∨ k = 1 ∨ k = 2 by omega) with rfl | rfl | rfl
  · rfl
  · rfl
  · rfl
/-- the holders of places g 0, g 1 .. on day t are v -/
def hseq (f g : Nat → Int32) (t v : Int32) : Nat → Nat → Int32
  | 0 => f
  | i + 1 => upd (hseq f g t v i) (400 * g i + t).toNatClampNeg v
theorem hseq_succ (f g : Nat → Int32) (t v : Int32) (i : Nat) : hseq f g t v (i + 1) = upd (hseq f g t v i) (400 * g i + t).toNatClampNeg v := rfl
theorem hseq_congr {f g g' : Nat → Int32} {t v : Int32} {m : Nat} (h : ∀ k : Nat, k < m → g k = g' k) : ∀ n : Nat, n ≤ m → hseq f g t v n = hseq f g' t v n
  | 0, _ => rfl
  | n + 1, hn => by rw [hseq_succ, hseq_succ, hseq_congr h n (by omega), h n (by omega)]
def cseq (f g : Nat → Int32) (s : Int32) : Nat → Nat → Int32
  | 0 => f
  | i + 1 => upd (cseq f g s i) (3 * (s).toNatClampNeg + i) (g i)
theorem cseq_succ (f g : Nat → Int32) (s : Int32) (i : Nat) : cseq f g s (i + 1) = upd (cseq f g s i) (3 * (s).toNatClampNeg + i) (g i) := rfl
theorem cseq_congr {f g g' : Nat → Int32} {s : Int32} {m : Nat} (h : ∀ k : Nat, k < m → g k = g' k) : ∀ n : Nat, n ≤ m → cseq f g s n = cseq f g' s n
  | 0, _ => rfl
  | n + 1, hn => by rw [cseq_succ, cseq_succ, cseq_congr h n (by omega), h n (by omega)]
