section
/-! ===== a law in whole numbers: its sums, its determinants ===== -/
theorem sq_nn (a : Int) : 0 ≤ a * a := by
  rcases Int.le_total 0 a with h | h
  · exact Int.mul_nonneg h h
  · have h1 : 0 ≤ (-a) * (-a) := Int.mul_nonneg (by omega) (by omega)
    rw [Int.neg_mul_neg] at h1
    exact h1
def s1I : List Int → Int
  | [] => 0
  | x :: t => x + s1I t
def s2I : List Int → Int
  | [] => 0
  | x :: t => x * x + s2I t
theorem dev_nn (u : Int) : ∀ t : List Int, 0 ≤ s2I t - 2 * (u * s1I t) + (t.length : Int) * (u * u)
  | [] => by simp [s1I, s2I]
  | x :: t => by
    have h := dev_nn u t
    have hs := sq_nn (x - u)
    have e : (x - u) * (x - u) = x * x - 2 * (u * x) + u * u := by grind
    have e2 : ((x :: t).length : Int) * (u * u) = (t.length : Int) * (u * u) + u * u := by
      rw [List.length_cons]; push_cast; grind
    have e3 : u * s1I (x :: t) = u * x + u * s1I t := by
      show u * (x + s1I t) = _
      exact Int.mul_add ..
    show 0 ≤ (x * x + s2I t) - 2 * (u * s1I (x :: t)) + _
    rw [e2, e3]
    rw [e] at hs
    omega
theorem var_nn : ∀ t : List Int, 0 ≤ (t.length : Int) * s2I t - s1I t * s1I t
  | [] => by simp [s1I, s2I]
  | x :: t => by
    have h := var_nn t
    have hd := dev_nn x t
    have e : ((x :: t).length : Int) * s2I (x :: t) - s1I (x :: t) * s1I (x :: t) = ((t.length : Int) * s2I t - s1I t * s1I t) + (s2I t - 2 * (x * s1I t) + (t.length : Int) * (x * x)) := by
      rw [List.length_cons]
      show (((t.length + 1 : Nat) : Int)) * (x * x + s2I t) - (x + s1I t) * (x + s1I t) = _
      push_cast
      grind
    omega
/-- the sum of something over the days of a law: rate, warmth, age -/
def sI (f : Int × Int × Int → Int) : List (Int × Int × Int) → Int
  | [] => 0
  | x :: t => f x + sI f t
theorem sI_c (f : Int × Int × Int → Int) (x : Int × Int × Int) (t : List (Int × Int × Int)) : sI f (x :: t) = f x + sI f t := rfl
theorem sI_1 (x y : Int) : ∀ t : List (Int × Int × Int), s1I (t.map (fun z => x * z.2.1 + y * z.2.2)) = x * sI (fun z => z.2.1) t + y * sI (fun z => z.2.2) t
  | [] => by simp [s1I, sI]
  | z :: t => by
    have h := sI_1 x y t
    show (x * z.2.1 + y * z.2.2) + s1I (t.map (fun z => x * z.2.1 + y * z.2.2)) = x * (z.2.1 + sI (fun z => z.2.1) t) + y * (z.2.2 + sI (fun z => z.2.2) t)
    rw [h]
    grind
theorem sI_2 (x y : Int) : ∀ t : List (Int × Int × Int), s2I (t.map (fun z => x * z.2.1 + y * z.2.2)) = x * x * sI (fun z => z.2.1 * z.2.1) t + 2 * (x * y) * sI (fun z => z.2.1 * z.2.2) t + y * y * sI (fun z => z.2.2 * z.2.2) t
  | [] => by simp [s2I, sI]
  | z :: t => by
    have h := sI_2 x y t
    show (x * z.2.1 + y * z.2.2) * (x * z.2.1 + y * z.2.2) + s2I (t.map (fun z => x * z.2.1 + y * z.2.2)) = x * x * (z.2.1 * z.2.1 + sI (fun z => z.2.1 * z.2.1) t) + 2 * (x * y) * (z.2.1 * z.2.2 + sI (fun z => z.2.1 * z.2.2) t) + y * y * (z.2.2 * z.2.2 + sI (fun z => z.2.2 * z.2.2) t)
    rw [h]
    grind
theorem quad_nn {a b c : Int} (h : ∀ x y : Int, 0 ≤ x * x * a + 2 * (x * y) * b + y * y * c) : 0 ≤ a ∧ 0 ≤ c ∧ 0 ≤ a * c - b * b := by
  have ha : 0 ≤ a := by have := h 1 0; omega
  have hc : 0 ≤ c := by have := h 0 1; omega
  refine ⟨ha, hc, ?_⟩
  rcases Int.lt_or_eq_of_le hc with g | g
  · have h1 := h c (-b)
    have e : c * c * a + 2 * (c * -b) * b + -b * -b * c = c * (a * c - b * b) := by grind
    rw [e] at h1
    rcases (show (a * c - b * b) < 0 ∨ 0 ≤ (a * c - b * b) by omega) with k | k
    · have := Int.mul_neg_of_pos_of_neg g k
      omega
    · exact k
  · subst g
    have hb : b = 0 := by
      have h1 := h 1 (-(b * (a + 1)))
      have e : 1 * 1 * a + 2 * (1 * -(b * (a + 1))) * b + -(b * (a + 1)) * -(b * (a + 1)) * 0 = a - 2 * ((a + 1) * (b * b)) := by grind
      rw [e] at h1
      rcases Int.lt_trichotomy b 0 with k | k | k
      · exfalso
        have q : 1 ≤ b * b := by have := Int.mul_pos (show 0 < -b by omega) (show 0 < -b by omega); rw [Int.neg_mul_neg] at this; omega
        have q2 : (a + 1) * 1 ≤ (a + 1) * (b * b) := Int.mul_le_mul_of_nonneg_left q (by omega)
        omega
      · exact k
      · exfalso
        have q : 1 ≤ b * b := by have := Int.mul_pos k k; omega
        have q2 : (a + 1) * 1 ≤ (a + 1) * (b * b) := Int.mul_le_mul_of_nonneg_left q (by omega)
        omega
    subst hb
    simp
/-- spreads of a law -/
theorem spread_nn (t : List (Int × Int × Int)) (hn : 1 ≤ t.length) {n W A WW WA AA : Int} (e0 : n = t.length) (e1 : W = sI (fun z => z.2.1) t) (e2 : A = sI (fun z => z.2.2) t) (e3 : WW = sI (fun z => z.2.1 * z.2.1) t) (e4 : WA = sI (fun z => z.2.1 * z.2.2) t) (e5 : AA = sI (fun z => z.2.2 * z.2.2) t) :
    0 ≤ n * WW - W * W ∧ 0 ≤ n * AA - A * A ∧ 0 ≤ (n * WW - W * W) * (n * AA - A * A) - (n * WA - W * A) * (n * WA - W * A) := by
  apply quad_nn
  intro x y
  have h := var_nn (t.map (fun z => x * z.2.1 + y * z.2.2))
  rw [List.length_map, sI_1, sI_2, ← e0, ← e1, ← e2, ← e3, ← e4, ← e5] at h
  have e : x * x * (n * WW - W * W) + 2 * (x * y) * (n * WA - W * A) + y * y * (n * AA - A * A) = n * (x * x * WW + 2 * (x * y) * WA + y * y * AA) - (x * W + y * A) * (x * W + y * A) := by grind
  rw [e]
  exact h
def thrI (n W A WW WA AA : Int) : Int := n * (WW * AA - WA * WA) - W * (W * AA - WA * A) + A * (W * WA - WW * A)
theorem both_thr (n W A WW WA AA : Int) : (n * WW - W * W) * (n * AA - A * A) - (n * WA - W * A) * (n * WA - W * A) = n * thrI n W A WW WA AA := by
  unfold thrI
  grind
theorem thr_pos {n d : Int} (hn : 1 ≤ n) (h : 0 ≤ n * d) : (0 < n * d ↔ d ≠ 0) := by
  constructor
  · intro k e
    subst e
    simp at k
  · intro k
    rcases (show 0 < (n * d) ∨ (n * d) ≤ 0 by omega) with g | g
    · exact g
    · exfalso
      have e : n * d = 0 := by omega
      rcases Int.mul_eq_zero.mp e with q | q <;> omega
/-- a long that is a number, and its bound -/
def lb (z : Int64) (v B : Int) : Prop := z.toInt = v ∧ -B ≤ v ∧ v ≤ B
theorem l_bmod {x : Int} (h1 : -9223372036854775808 ≤ x) (h2 : x ≤ 9223372036854775807) : x.bmod (2 ^ 64) = x := by
  rw [Int.bmod_def]
  have : ((2 ^ 64 : Nat) : Int) = 18446744073709551616 := by decide
  rw [this]
  split <;> omega
theorem lb_add {a b : Int64} {x y A B : Int} (h : lb a x A) (k : lb b y B) (hs : A + B ≤ 9000000000000000000) : lb (a + b) (x + y) (A + B) := by
  obtain ⟨h1, h2, h3⟩ := h
  obtain ⟨k1, k2, k3⟩ := k
  refine ⟨?_, by omega, by omega⟩
  rw [Int64.toInt_add, h1, k1]
  exact l_bmod (by omega) (by omega)
theorem lb_sub {a b : Int64} {x y A B : Int} (h : lb a x A) (k : lb b y B) (hs : A + B ≤ 9000000000000000000) : lb (a - b) (x - y) (A + B) := by
  obtain ⟨h1, h2, h3⟩ := h
  obtain ⟨k1, k2, k3⟩ := k
  refine ⟨?_, by omega, by omega⟩
  rw [Int64.toInt_sub, h1, k1]
  exact l_bmod (by omega) (by omega)
theorem ab_mul {x y A B : Int} (h2 : -A ≤ x) (h3 : x ≤ A) (k2 : -B ≤ y) (k3 : y ≤ B) : -(A * B) ≤ x * y ∧ x * y ≤ A * B := by
  have hA : 0 ≤ A := by omega
  have hB : 0 ≤ B := by omega
  have p1 := Int.mul_nonneg (show 0 ≤ A - x by omega) (show 0 ≤ B - y by omega)
  have p2 := Int.mul_nonneg (show 0 ≤ A + x by omega) (show 0 ≤ B + y by omega)
  have p3 := Int.mul_nonneg (show 0 ≤ A - x by omega) (show 0 ≤ B + y by omega)
  have p4 := Int.mul_nonneg (show 0 ≤ A + x by omega) (show 0 ≤ B - y by omega)
  have q1 : (A - x) * (B - y) = A * B - A * y - x * B + x * y := by grind
  have q2 : (A + x) * (B + y) = A * B + A * y + x * B + x * y := by grind
  have q3 : (A - x) * (B + y) = A * B + A * y - x * B - x * y := by grind
  have q4 : (A + x) * (B - y) = A * B - A * y + x * B - x * y := by grind
  rw [q1] at p1
  rw [q2] at p2
  rw [q3] at p3
  rw [q4] at p4
  constructor <;> omega
theorem lb_mul {a b : Int64} {x y A B : Int} (h : lb a x A) (k : lb b y B) (hs : A * B ≤ 9000000000000000000) : lb (a * b) (x * y) (A * B) := by
  obtain ⟨h1, h2, h3⟩ := h
  obtain ⟨k1, k2, k3⟩ := k
  have hb := ab_mul h2 h3 k2 k3
  refine ⟨?_, hb.1, hb.2⟩
  rw [Int64.toInt_mul, h1, k1]
  exact l_bmod (by omega) (by omega)
theorem lb_w {z : Int64} {v B C : Int} (h : lb z v B) (hc : B ≤ C) : lb z v C := ⟨h.1, by have := h.2.1; omega, by have := h.2.2; omega⟩
theorem lb_i {x : Int32} {B : Int} (h1 : -B ≤ x.toInt) (h2 : x.toInt ≤ B) : lb x.toInt64 x.toInt B := ⟨Int32.toInt_toInt64 x, h1, h2⟩
/-- the nine sums are those of whole numbers -/
def okT (t : List (Int × Int × Int)) : Prop := ∀ z ∈ t, (-999 ≤ z.1 ∧ z.1 ≤ 999) ∧ (-50 ≤ z.2.1 ∧ z.2.1 ≤ 50) ∧ (0 ≤ z.2.2 ∧ z.2.2 ≤ 399)
def R9 (s : S9) (t : List (Int × Int × Int)) : Prop := ∃ k : Int, k = t.length ∧ lb s.1 k k ∧ lb s.2.1 (sI (fun z => z.1) t) (999 * k) ∧ lb s.2.2.1 (sI (fun z => z.2.1) t) (50 * k) ∧ lb s.2.2.2.1 (sI (fun z => z.2.2) t) (399 * k) ∧ lb s.2.2.2.2.1 (sI (fun z => z.2.1 * z.2.1) t) (2500 * k) ∧ lb s.2.2.2.2.2.1 (sI (fun z => z.2.2 * z.2.2) t) (159201 * k) ∧ lb s.2.2.2.2.2.2.1 (sI (fun z => z.2.1 * z.2.2) t) (19950 * k) ∧ lb s.2.2.2.2.2.2.2.1 (sI (fun z => z.2.1 * z.1) t) (49950 * k) ∧ lb s.2.2.2.2.2.2.2.2 (sI (fun z => z.2.2 * z.1) t) (398601 * k)
theorem lb_acc {a b : Int64} {x y A B C : Int} (h : lb a x A) (k : lb b y B) (hs : A + B ≤ 9000000000000000000) (hC : C = A + B) : lb (a + b) (y + x) C := by
  have := lb_add h k hs
  rw [Int.add_comm y x, hC]
  exact this
theorem R9_add {s : S9} {t : List (Int × Int × Int)} {r w a : Int32} (h : R9 s t) (hl : t.length ≤ 59) (hr : -999 ≤ r.toInt ∧ r.toInt ≤ 999) (hw : -50 ≤ w.toInt ∧ w.toInt ≤ 50) (ha : 0 ≤ a.toInt ∧ a.toInt ≤ 399) : R9 (add9 s r.toInt64 w.toInt64 a.toInt64) ((r.toInt, w.toInt, a.toInt) :: t) := by
  obtain ⟨k, hk, h0, h1, h2, h3, h4, h5, h6, h7, h8⟩ := h
  have lr : lb r.toInt64 r.toInt 999 := lb_i hr.1 hr.2
  have lw : lb w.toInt64 w.toInt 50 := lb_i hw.1 hw.2
  have la : lb a.toInt64 a.toInt 399 := lb_i (by omega) ha.2
  have l1 : lb (1 : Int64) 1 1 := ⟨by decide, by decide, by decide⟩
  have lww := lb_mul lw lw (by decide)
  have laa := lb_mul la la (by decide)
  have lwa := lb_mul lw la (by decide)
  have lwr := lb_mul lw lr (by decide)
  have lar := lb_mul la lr (by decide)
  refine ⟨k + 1, by rw [List.length_cons]; push_cast; omega, ?_, ?_, ?_, ?_, ?_, ?_, ?_, ?_, ?_⟩
  · have := lb_add h0 l1 (by omega); exact this
  · exact lb_acc h1 lr (by omega) (by omega)
  · exact lb_acc h2 lw (by omega) (by omega)
  · exact lb_acc h3 la (by omega) (by omega)
  · exact lb_acc h4 lww (by omega) (by omega)
  · exact lb_acc h5 laa (by omega) (by omega)
  · exact lb_acc h6 lwa (by omega) (by omega)
  · exact lb_acc h7 lwr (by omega) (by omega)
  · exact lb_acc h8 lar (by omega) (by omega)
theorem R9_0 : R9 (0, 0, 0, 0, 0, 0, 0, 0, 0) [] := by
  have l0 : lb (0 : Int64) 0 0 := ⟨by decide, by decide, by decide⟩
  exact ⟨0, rfl, l0, l0, l0, l0, l0, l0, l0, l0, l0⟩
theorem R9_foldl {wm ag : Int32 → Int32} {nw : Int} : ∀ (l : List (Int32 × Int32)) (s : S9) (t : List (Int × Int × Int)), R9 s t → okT t → t.length + l.length ≤ 60 → (∀ x ∈ l, (-999 ≤ x.2.toInt ∧ x.2.toInt ≤ 999) ∧ ((wm x.1).toInt = nw ∨ (-50 ≤ (wm x.1).toInt ∧ (wm x.1).toInt ≤ 50)) ∧ (0 ≤ (ag x.1).toInt ∧ (ag x.1).toInt ≤ 399)) → ∃ t', R9 (l.foldl (step9 wm ag nw) s) t' ∧ okT t' ∧ t'.length ≤ 60
  | [], s, t, h, ho, hl, _ => ⟨t, h, ho, by simp at hl; omega⟩
  | x :: l, s, t, h, ho, hl, hx => by
    have hx0 := hx x (List.mem_cons_self ..)
    have hl2 : t.length + (l.length + 1) ≤ 60 := by rw [List.length_cons] at hl; exact hl
    show ∃ t', R9 (l.foldl (step9 wm ag nw) (step9 wm ag nw s x)) t' ∧ _
    by_cases c : (wm x.1).toInt = nw
    · have e : step9 wm ag nw s x = s := by unfold step9; rw [if_pos c]
      rw [e]
      exact R9_foldl l s t h ho (by omega) (fun y hy => hx y (List.mem_cons_of_mem _ hy))
    · have e : step9 wm ag nw s x = add9 s x.2.toInt64 (wm x.1).toInt64 (ag x.1).toInt64 := by unfold step9; rw [if_neg c]
      rw [e]
      have hw : -50 ≤ (wm x.1).toInt ∧ (wm x.1).toInt ≤ 50 := by rcases hx0.2.1 with q | q; { exact absurd q c }; { exact q }
      refine R9_foldl l _ ((x.2.toInt, (wm x.1).toInt, (ag x.1).toInt) :: t) (R9_add h (by omega) hx0.1 hw hx0.2.2) ?_ (by rw [List.length_cons]; omega) (fun y hy => hx y (List.mem_cons_of_mem _ hy))
      intro z hz
      rcases List.mem_cons.mp hz with q | q
      · subst q; exact ⟨hx0.1, hw, hx0.2.2⟩
      · exact ho z q
theorem R9_fold {wm ag : Int32 → Int32} {nw : Int} {l : List (Int32 × Int32)} (hl : l.length ≤ 60) (hx : ∀ x ∈ l, (-999 ≤ x.2.toInt ∧ x.2.toInt ≤ 999) ∧ ((wm x.1).toInt = nw ∨ (-50 ≤ (wm x.1).toInt ∧ (wm x.1).toInt ≤ 50)) ∧ (0 ≤ (ag x.1).toInt ∧ (ag x.1).toInt ≤ 399)) : ∃ t, R9 (fold9 wm ag nw l) t ∧ okT t ∧ t.length ≤ 60 := by
  unfold fold9
  exact R9_foldl l _ [] R9_0 (fun z hz => by cases hz) (by simp; exact hl) hx
theorem lz {x : Int64} {v B : Int} (h : lb x v B) : x = 0 ↔ v = 0 := by
  have h0 : (0 : Int64).toInt = 0 := by decide
  constructor
  · intro e
    subst e
    rw [← h.1, h0]
  · intro e
    exact Int64.toInt_inj.mp (by rw [h.1, h0, e])
/-- terms of a law: class and reference -/
theorem frm_eq {s : S9} {t : List (Int × Int × Int)} (h : R9 s t) (h1 : 1 ≤ t.length) (h60 : t.length ≤ 60) : (solX s).1.toInt = frmM s := by
  obtain ⟨k, hk, q0, q1, q2, q3, q4, q5, q6, q7, q8⟩ := h
  have hk1 : 1 ≤ k ∧ k ≤ 60 := by omega
  have n := lb_w q0 (show k ≤ 60 by omega)
  have W := lb_w q2 (show 50 * k ≤ 3000 by omega)
  have A := lb_w q3 (show 399 * k ≤ 23940 by omega)
  have WW := lb_w q4 (show 2500 * k ≤ 150000 by omega)
  have AA := lb_w q5 (show 159201 * k ≤ 9552060 by omega)
  have WA := lb_w q6 (show 19950 * k ≤ 1197000 by omega)
  have SW := lb_sub (lb_mul n WW (by decide)) (lb_mul W W (by decide)) (by decide)
  have SA := lb_sub (lb_mul n AA (by decide)) (lb_mul A A (by decide)) (by decide)
  have J := lb_sub (lb_mul n WA (by decide)) (lb_mul W A (by decide)) (by decide)
  have BO := lb_sub (lb_mul SW SA (by decide)) (lb_mul J J (by decide)) (by decide)
  have TH := lb_add (lb_sub (lb_mul n (lb_sub (lb_mul WW AA (by decide)) (lb_mul WA WA (by decide)) (by decide)) (by decide)) (lb_mul W (lb_sub (lb_mul W AA (by decide)) (lb_mul WA A (by decide)) (by decide)) (by decide)) (by decide)) (lb_mul A (lb_sub (lb_mul W WA (by decide)) (lb_mul WW A (by decide)) (by decide)) (by decide)) (by decide)
  obtain ⟨n1, n2, n3⟩ := spread_nn t h1 hk rfl rfl rfl rfl rfl
  rw [both_thr] at n3
  have hp := thr_pos hk1.1 n3
  have zT := lz TH
  have zW := lz SW
  have zA := lz SA
  have i3 : (3 : Int32).toInt = 3 := by decide
  have i2 : (2 : Int32).toInt = 2 := by decide
  have i4 : (4 : Int32).toInt = 4 := by decide
  have i1 : (1 : Int32).toInt = 1 := by decide
  unfold solX frmM thrF twoF
  rw [SW.1, SA.1, BO.1, both_thr]
  by_cases c : thrI k (sI (fun z => z.2.1) t) (sI (fun z => z.2.2) t) (sI (fun z => z.2.1 * z.2.1) t) (sI (fun z => z.2.1 * z.2.2) t) (sI (fun z => z.2.2 * z.2.2) t) = 0
  · rw [if_neg (fun g => hp.mp g c), if_pos (zT.mpr c)]
    by_cases c2 : k * sI (fun z => z.2.1 * z.2.1) t - sI (fun z => z.2.1) t * sI (fun z => z.2.1) t = 0
    · rw [if_neg (by omega), if_pos (zW.mpr c2)]
      by_cases c3 : k * sI (fun z => z.2.2 * z.2.2) t - sI (fun z => z.2.2) t * sI (fun z => z.2.2) t = 0
      · rw [if_neg (by omega), if_pos (zA.mpr c3)]; exact i1
      · rw [if_pos (by omega), if_neg (fun g => c3 (zA.mp g))]; exact i4
    · rw [if_pos (by omega), if_neg (fun g => c2 (zW.mp g))]; exact i2
  · rw [if_pos (hp.mpr c), if_neg (fun g => c (zT.mp g))]; exact i3
/-- how many there are: as an int, as a long -/
theorem cnt9 {s : S9} {t : List (Int × Int × Int)} (h : R9 s t) (h60 : t.length ≤ 60) : (s.1.toInt32.toInt = 0 ↔ s.1 = 0) ∧ (¬ s.1 = 0 → 1 ≤ t.length) := by
  obtain ⟨k, hk, q0, -⟩ := h
  have e : s.1.toInt32.toInt = k := by
    rw [Int64.toInt_toInt32, q0.1]
    exact i_bmod (by omega) (by omega)
  have z := lz q0
  constructor
  · rw [e]; exact z.symm
  · intro g
    rcases Nat.eq_zero_or_pos t.length with q | q
    · exact absurd (z.mpr (by omega)) g
    · exact q
end
section
/-! ===== the class and the reference, tied: what is tied, and how it goes on ===== -/
def isW (k : Int32) : Prop := k.toInt = 0 ∨ k.toInt = 1
def KK1 (X1 X2 M1 M2 : Nat → Int32) : Prop := ∀ k : Nat, k < 16 → X1 k = M1 k ∧ ((X1 k).toInt = -5 ∨ (X1 k).toInt = 0 ∨ (X1 k).toInt = 1 ∨ (X1 k).toInt = 2) ∧ X2 k = M2 k ∧ ((X1 k).toInt = 1 → -50 ≤ (X2 k).toInt ∧ (X2 k).toInt ≤ 50)
theorem KK1_put {X1 X2 M1 M2 : Nat → Int32} (h : KK1 X1 X2 M1 M2) {a v : Int32} {p : Nat} (ha : a.toInt = -5 ∨ a.toInt = 0 ∨ a.toInt = 1 ∨ a.toInt = 2) (hv : a.toInt = 1 → -50 ≤ v.toInt ∧ v.toInt ≤ 50) : KK1 (upd X1 p a) (upd X2 p v) (upd M1 p a) (upd M2 p v) := fun k hk => by
  by_cases e : k = p
  · subst e
    rw [u_at, u_at, u_at, u_at]
    exact ⟨rfl, ha, rfl, hv⟩
  · rw [u_ne e, u_ne e, u_ne e, u_ne e]
    exact h k hk
theorem KK1_take {X1 X2 M1 M2 : Nat → Int32} (h : KK1 X1 X2 M1 M2) {p : Nat} : KK1 (upd X1 p (-5)) X2 (upd M1 p (-5)) M2 := fun k hk => by
  by_cases e : k = p
  · subst e
    rw [u_at, u_at]
    exact ⟨rfl, Or.inl (by decide), (h k hk).2.2.1, fun q => absurd q (by decide)⟩
  · rw [u_ne e, u_ne e]
    exact h k hk
def WR (a b : Int32) : Prop := (a.toInt = -100 ∧ b.toInt = -1000) ∨ (a = b ∧ -50 ≤ a.toInt ∧ a.toInt ≤ 50)
def KK2 (X0 M0 : Nat → Int32) : Prop := ∀ d : Nat, d < 400 → WR (X0 d) (M0 d)
theorem KK2_w {X0 M0 : Nat → Int32} (h : KK2 X0 M0) {a b : Int32} {p : Nat} (hab : WR a b) : KK2 (upd X0 p a) (upd M0 p b) := fun k hk => by
  by_cases e : k = p
  · subst e
    rw [u_at, u_at]
    exact hab
  · rw [u_ne e, u_ne e]
    exact h k hk
def KK3 (n : Int32) (X4 X5 X6 X7 X8 M9 M10 M11 M12 M13 : Nat → Int32) : Prop := ∀ i : Nat, (i : Int) < n.toInt → X4 i = M9 i ∧ X5 i = M10 i ∧ X6 i = M11 i ∧ X7 i = M12 i ∧ X8 i = M13 i ∧ (1 ≤ (X4 i).toInt ∧ (X4 i).toInt ≤ 5) ∧ (-10000 ≤ (X7 i).toInt ∧ (X7 i).toInt ≤ 10000)
theorem KK3_off {n n' a b c v t : Int32} {X4 X5 X6 X7 X8 M9 M10 M11 M12 M13 : Nat → Int32} (h : KK3 n X4 X5 X6 X7 X8 M9 M10 M11 M12 M13) (h0 : 0 ≤ n.toInt) (hn : n'.toInt = n.toInt + 1) (ha : 1 ≤ a.toInt ∧ a.toInt ≤ 5) (hv : -10000 ≤ v.toInt ∧ v.toInt ≤ 10000) :
    KK3 n' (upd X4 n.toNatClampNeg a) (upd X5 n.toNatClampNeg b) (upd X6 n.toNatClampNeg c) (upd X7 n.toNatClampNeg v) (upd X8 n.toNatClampNeg t) (upd M9 n.toNatClampNeg a) (upd M10 n.toNatClampNeg b) (upd M11 n.toNatClampNeg c) (upd M12 n.toNatClampNeg v) (upd M13 n.toNatClampNeg t) := fun i hi => by
  have hc := i_clamp0 h0
  by_cases e : i = n.toNatClampNeg
  · subst e
    exact ⟨by rw [u_at, u_at], by rw [u_at, u_at], by rw [u_at, u_at], by rw [u_at, u_at], by rw [u_at, u_at], by rw [u_at]; exact ha, by rw [u_at]; exact hv⟩
  · simp only [u_ne e]
    exact h i (by omega)
theorem KK3_n {n n' : Int32} {X4 X5 X6 X7 X8 M9 M10 M11 M12 M13 : Nat → Int32} (h : KK3 n X4 X5 X6 X7 X8 M9 M10 M11 M12 M13) (hn : n'.toInt = n.toInt) : KK3 n' X4 X5 X6 X7 X8 M9 M10 M11 M12 M13 := fun i hi => h i (by omega)
/-- one day of one watch -/
def WD (wf : Nat → Nat → Int32) (M3 M4 M5 M6 M7 : Nat → Int32) (p d : Nat) : Prop :=
  (((wf 1 d).toInt = -1 ∧ (M3 (400 * p + d)).toInt = 0) ∨ ((M3 (400 * p + d)).toInt ≠ 0 ∧ wf 1 d = M5 (400 * p + d) ∧ (0 ≤ (wf 1 d).toInt ∧ (wf 1 d).toInt ≤ 5) ∧ wf 0 d = M4 (400 * p + d) ∧ (-100000 ≤ (wf 0 d).toInt ∧ (wf 0 d).toInt ≤ 100000)))
  ∧ ((wf 2 d &&& 1).toInt ≠ 0 ↔ (M6 (400 * p + d)).toInt ≠ 0) ∧ ((wf 2 d &&& 2).toInt ≠ 0 ↔ (M7 (400 * p + d)).toInt ≠ 0)
def WHd (wf : Nat → Nat → Int32) (M8 : Nat → Int32) (t : Int) (p : Nat) : Prop :=
  (∀ d : Nat, (d : Int) ≤ t → d < 400 → wf 3 d = M8 (400 * p + d)) ∧ (∀ d : Nat, d < 400 → t ≤ (d : Int) → wf 3 d = wf 3 t.toNat)
def KK4 (t : Int32) (X1 : Nat → Int32) (wf : Nat → Nat → Nat → Int32) (M3 M4 M5 M6 M7 M8 : Nat → Int32) : Prop := ∀ p : Nat, p < 16 → isW (X1 p) → (∀ d : Nat, d < 400 → WD (wf p) M3 M4 M5 M6 M7 p d) ∧ WHd (wf p) M8 t.toInt p
theorem KK4_days {t t' : Int32} {X1 : Nat → Int32} {wf : Nat → Nat → Nat → Int32} {M3 M4 M5 M6 M7 M8 M8' : Nat → Int32} (h : KK4 t X1 wf M3 M4 M5 M6 M7 M8) (h0 : 0 ≤ t.toInt) (h1 : t.toInt ≤ t'.toInt) (h2 : t'.toInt ≤ 399) (hd : HD2 M8 M8' t.toInt t'.toInt 0) : KK4 t' X1 wf M3 M4 M5 M6 M7 M8' := fun p hp hw => by
  obtain ⟨a1, a2, a3⟩ := h p hp hw
  refine ⟨a1, fun d hd1 hd2 => ?_, fun d hd1 hd2 => ?_⟩
  · rw [hd p d hp hd2]
    by_cases q : t.toInt < (d : Int)
    · rw [if_pos (by omega), a3 d hd2 (by omega)]
      exact a2 t.toInt.toNat (by omega) (by omega)
    · rw [if_neg (by omega)]
      exact a2 d (by omega) hd2
  · rw [a3 d hd1 (by omega), a3 t'.toInt.toNat (by omega) (by omega)]
/-- the same rows elsewhere -/
theorem WD_eq {wf : Nat → Nat → Int32} {M3 M4 M5 M6 M7 N3 N4 N5 N6 N7 : Nat → Int32} {p d : Nat} (h : WD wf M3 M4 M5 M6 M7 p d) (h3 : N3 (400 * p + d) = M3 (400 * p + d)) (h4 : N4 (400 * p + d) = M4 (400 * p + d)) (h5 : N5 (400 * p + d) = M5 (400 * p + d)) (h6 : N6 (400 * p + d) = M6 (400 * p + d)) (h7 : N7 (400 * p + d) = M7 (400 * p + d)) : WD wf N3 N4 N5 N6 N7 p d := by
  unfold WD
  rw [h3, h4, h5, h6, h7]
  exact h
/-- one place changes -/
theorem KK4_at {t : Int32} {X1 Y1 : Nat → Int32} {wf : Nat → Nat → Nat → Int32} {gw : Nat → Nat → Int32} {M3 M4 M5 M6 M7 M8 N3 N4 N5 N6 N7 N8 : Nat → Int32} {p : Nat} (h : KK4 t X1 wf M3 M4 M5 M6 M7 M8) (hX : ∀ q : Nat, q ≠ p → Y1 q = X1 q)
    (hs : ∀ q d : Nat, q ≠ p → d < 400 → N3 (400 * q + d) = M3 (400 * q + d) ∧ N4 (400 * q + d) = M4 (400 * q + d) ∧ N5 (400 * q + d) = M5 (400 * q + d) ∧ N6 (400 * q + d) = M6 (400 * q + d) ∧ N7 (400 * q + d) = M7 (400 * q + d) ∧ N8 (400 * q + d) = M8 (400 * q + d))
    (hn : isW (Y1 p) → (∀ d : Nat, d < 400 → WD gw N3 N4 N5 N6 N7 p d) ∧ WHd gw N8 t.toInt p) : KK4 t Y1 (va_up wf p gw) N3 N4 N5 N6 N7 N8 := fun q hq hw => by
  by_cases e : q = p
  · subst e
    rw [up_at]
    exact hn hw
  · rw [up_ne e]
    rw [hX q e] at hw
    obtain ⟨a1, a2, a3⟩ := h q hq hw
    refine ⟨fun d hd => ?_, fun d hd1 hd2 => ?_, a3⟩
    · obtain ⟨b3, b4, b5, b6, b7, b8⟩ := hs q d e hd
      exact WD_eq (a1 d hd) b3 b4 b5 b6 b7
    · rw [(hs q d e hd2).2.2.2.2.2]
      exact a2 d hd1 hd2
/-- no watch there, behind it -/
theorem KK4_no {t : Int32} {X1 Y1 : Nat → Int32} {wf : Nat → Nat → Nat → Int32} {M3 M4 M5 M6 M7 M8 N3 N4 N5 N6 N7 N8 : Nat → Int32} {p : Nat} (h : KK4 t X1 wf M3 M4 M5 M6 M7 M8) (hX : ∀ q : Nat, q ≠ p → Y1 q = X1 q)
    (hs : ∀ q d : Nat, q ≠ p → d < 400 → N3 (400 * q + d) = M3 (400 * q + d) ∧ N4 (400 * q + d) = M4 (400 * q + d) ∧ N5 (400 * q + d) = M5 (400 * q + d) ∧ N6 (400 * q + d) = M6 (400 * q + d) ∧ N7 (400 * q + d) = M7 (400 * q + d) ∧ N8 (400 * q + d) = M8 (400 * q + d))
    (hn : ¬ isW (Y1 p)) : KK4 t Y1 wf N3 N4 N5 N6 N7 N8 := fun q hq hw => by
  by_cases e : q = p
  · subst e
    exact absurd hw hn
  · rw [hX q e] at hw
    obtain ⟨a1, a2, a3⟩ := h q hq hw
    refine ⟨fun d hd => ?_, fun d hd1 hd2 => ?_, a3⟩
    · obtain ⟨b3, b4, b5, b6, b7, b8⟩ := hs q d e hd
      exact WD_eq (a1 d hd) b3 b4 b5 b6 b7
    · rw [(hs q d e hd2).2.2.2.2.2]
      exact a2 d hd1 hd2
theorem fil_ne {f g : Nat → Int32} {p q d : Nat} {v : Int32} (h : FIL f g (400 * (p : Int)) (400 * (p : Int) + 400) v) (e : q ≠ p) (hd : d < 400) : g (400 * q + d) = f (400 * q + d) := by
  rw [h (400 * q + d), if_neg (by omega)]
theorem fil_at {f g : Nat → Int32} {p d : Nat} {v : Int32} (h : FIL f g (400 * (p : Int)) (400 * (p : Int) + 400) v) (hd : d < 400) : g (400 * p + d) = v := by
  rw [h (400 * p + d), if_pos (by omega)]
theorem KK4_put {t a : Int32} {X1 : Nat → Int32} {wf : Nat → Nat → Nat → Int32} {gw : Nat → Nat → Int32} {M3 M4 M5 M6 M7 M8 N3 N6 N7 N8 : Nat → Int32} {p : Nat} (h : KK4 t X1 wf M3 M4 M5 M6 M7 M8) (ht : 0 ≤ t.toInt ∧ t.toInt ≤ 399) (hN : NEW4 (gw 0) (gw 1) (gw 2) (gw 3) 400)
    (f3 : FIL M3 N3 (400 * (p : Int)) (400 * (p : Int) + 400) 0) (f6 : FIL M6 N6 (400 * (p : Int)) (400 * (p : Int) + 400) 0) (f7 : FIL M7 N7 (400 * (p : Int)) (400 * (p : Int) + 400) 0) (f8 : FIL M8 N8 (400 * (p : Int)) (400 * (p : Int) + 400) (-1)) : KK4 t (upd X1 p a) (va_up wf p gw) N3 M4 M5 N6 N7 N8 := by
  refine KK4_at h (fun q e => u_ne e) (fun q d e hd => ⟨fil_ne f3 e hd, rfl, rfl, fil_ne f6 e hd, fil_ne f7 e hd, fil_ne f8 e hd⟩) (fun _ => ⟨fun d hd => ?_, fun d h1 hd => ?_, fun d hd h1 => ?_⟩)
  · obtain ⟨n0, n1, n2, n3⟩ := hN d (by omega)
    refine ⟨Or.inl ⟨by rw [n1]; decide, by rw [fil_at f3 hd]; decide⟩, ?_, ?_⟩
    · rw [n2, fil_at f6 hd]; decide
    · rw [n2, fil_at f7 hd]; decide
  · rw [(hN d (by omega)).2.2.2, fil_at f8 hd]
  · rw [(hN d (by omega)).2.2.2, (hN t.toInt.toNat (by omega)).2.2.2]
theorem KK4_glass {t a : Int32} {X1 : Nat → Int32} {wf : Nat → Nat → Nat → Int32} {M3 M4 M5 M6 M7 M8 N3 N6 N7 N8 : Nat → Int32} {p : Nat} (h : KK4 t X1 wf M3 M4 M5 M6 M7 M8) (ha : a.toInt = 2)
    (f3 : FIL M3 N3 (400 * (p : Int)) (400 * (p : Int) + 400) 0) (f6 : FIL M6 N6 (400 * (p : Int)) (400 * (p : Int) + 400) 0) (f7 : FIL M7 N7 (400 * (p : Int)) (400 * (p : Int) + 400) 0) (f8 : FIL M8 N8 (400 * (p : Int)) (400 * (p : Int) + 400) (-1)) : KK4 t (upd X1 p a) wf N3 M4 M5 N6 N7 N8 := by
  refine KK4_no h (fun q e => u_ne e) (fun q d e hd => ⟨fil_ne f3 e hd, rfl, rfl, fil_ne f6 e hd, fil_ne f7 e hd, fil_ne f8 e hd⟩) (fun hw => ?_)
  rw [u_at] at hw
  unfold isW at hw
  omega
theorem KK4_take {t : Int32} {X1 : Nat → Int32} {wf : Nat → Nat → Nat → Int32} {M3 M4 M5 M6 M7 M8 : Nat → Int32} {p : Nat} (h : KK4 t X1 wf M3 M4 M5 M6 M7 M8) : KK4 t (upd X1 p (-5)) wf M3 M4 M5 M6 M7 M8 := by
  refine KK4_no h (fun q e => u_ne e) (fun q d e hd => ⟨rfl, rfl, rfl, rfl, rfl, rfl⟩) (fun hw => ?_)
  rw [u_at] at hw
  exact absurd hw (by unfold isW; decide)
theorem u_row {f : Nat → Int32} {p q d e : Nat} {v : Int32} (h : q ≠ p) (hd : d < 400) (he : e < 400) : upd f (400 * p + e) v (400 * q + d) = f (400 * q + d) := u_ne (by omega)
theorem KK4_compare {t er sr : Int32} {X1 : Nat → Int32} {wf : Nat → Nat → Nat → Int32} {gw : Nat → Nat → Int32} {M3 M4 M5 M6 M7 M8 : Nat → Int32} {p e : Nat} (h : KK4 t X1 wf M3 M4 M5 M6 M7 M8) (hp : p < 16) (he : e < 400) (hsr : 0 ≤ sr.toInt ∧ sr.toInt ≤ 5) (her : -100000 ≤ er.toInt ∧ er.toInt ≤ 100000)
    (g0 : gw 0 = upd (wf p 0) e er) (g1 : gw 1 = upd (wf p 1) e sr) (g2 : gw 2 = wf p 2) (g3 : gw 3 = wf p 3) : KK4 t X1 (va_up wf p gw) (upd M3 (400 * p + e) 1) (upd M4 (400 * p + e) er) (upd M5 (400 * p + e) sr) M6 M7 M8 := by
  refine KK4_at h (fun q _ => rfl) (fun q d hq hd => ⟨u_row hq hd he, u_row hq hd he, u_row hq hd he, rfl, rfl, rfl⟩) (fun hw => ?_)
  obtain ⟨a1, a2, a3⟩ := h p hp hw
  refine ⟨fun d hd => ?_, ?_⟩
  · obtain ⟨b1, b2, b3⟩ := a1 d hd
    unfold WD
    rw [g0, g1, g2]
    refine ⟨?_, b2, b3⟩
    by_cases q : d = e
    · subst q
      exact Or.inr ⟨by rw [u_at]; decide, by rw [u_at, u_at], by rw [u_at]; exact hsr, by rw [u_at, u_at], by rw [u_at]; exact her⟩
    · have q2 : 400 * p + d ≠ 400 * p + e := by omega
      rw [u_ne q, u_ne q, u_ne q2, u_ne q2, u_ne q2]
      exact b1
  · unfold WHd
    rw [g3]
    exact ⟨a2, a3⟩
theorem a_or_r (x y z : Int32) : (x ||| y) &&& z = (x &&& z) ||| (y &&& z) := Int32.toBitVec_inj.1 BitVec.and_or_distrib_right
theorem or_same {x m : Int32} (hm : ¬ m = 0) : ((x ||| m) &&& m).toInt ≠ 0 := by
  rw [a_or_r, Int32.and_self]
  intro h
  have h2 : (x &&& m) ||| m = 0 := i_eq.mpr (by rw [h]; rfl)
  rw [Int32.or_eq_zero_iff] at h2
  exact hm h2.2
theorem or_other {x m k : Int32} (hk : m &&& k = 0) : (x ||| m) &&& k = x &&& k := by rw [a_or_r, hk, Int32.or_zero]
/-- a mark that is new -/
theorem KK4_repair {t : Int32} {X1 : Nat → Int32} {wf : Nat → Nat → Nat → Int32} {gw : Nat → Nat → Int32} {M3 M4 M5 M6 M7 M8 : Nat → Int32} {p e : Nat} (h : KK4 t X1 wf M3 M4 M5 M6 M7 M8) (hp : p < 16) (he : e < 400)
    (g2 : gw 2 = upd (wf p 2) e (wf p 2 e ||| 1) ∨ ((wf p 2 e &&& 1).toInt ≠ 0 ∧ gw 2 = wf p 2)) (g0 : gw 0 = wf p 0) (g1 : gw 1 = wf p 1) (g3 : gw 3 = wf p 3) : KK4 t X1 (va_up wf p gw) M3 M4 M5 (upd M6 (400 * p + e) 1) M7 M8 := by
  refine KK4_at h (fun q _ => rfl) (fun q d hq hd => ⟨rfl, rfl, rfl, u_row hq hd he, rfl, rfl⟩) (fun hw => ?_)
  obtain ⟨a1, a2, a3⟩ := h p hp hw
  refine ⟨fun d hd => ?_, ?_⟩
  · obtain ⟨b1, b2, b3⟩ := a1 d hd
    unfold WD
    rw [g0, g1]
    refine ⟨b1, ?_, ?_⟩
    · by_cases q : d = e
      · subst q
        rw [u_at]
        refine ⟨fun _ => by decide, fun _ => ?_⟩
        rcases g2 with g2 | ⟨g4, g2⟩
        · rw [g2, u_at]; exact or_same (by decide)
        · rw [g2]; exact g4
      · rw [u_ne (show 400 * p + d ≠ 400 * p + e by omega)]
        rcases g2 with g2 | ⟨g4, g2⟩
        · rw [g2, u_ne q]; exact b2
        · rw [g2]; exact b2
    · rcases g2 with g2 | ⟨g4, g2⟩
      · by_cases q : d = e
        · subst q
          rw [g2, u_at, or_other (by decide)]; exact b3
        · rw [g2, u_ne q]; exact b3
      · rw [g2]; exact b3
  · unfold WHd
    rw [g3]
    exact ⟨a2, a3⟩
theorem KK4_late {t : Int32} {X1 : Nat → Int32} {wf : Nat → Nat → Nat → Int32} {gw : Nat → Nat → Int32} {M3 M4 M5 M6 M7 M8 : Nat → Int32} {p e : Nat} (h : KK4 t X1 wf M3 M4 M5 M6 M7 M8) (hp : p < 16) (he : e < 400)
    (g2 : gw 2 = upd (wf p 2) e (wf p 2 e ||| 2) ∨ ((wf p 2 e &&& 2).toInt ≠ 0 ∧ gw 2 = wf p 2)) (g0 : gw 0 = wf p 0) (g1 : gw 1 = wf p 1) (g3 : gw 3 = wf p 3) : KK4 t X1 (va_up wf p gw) M3 M4 M5 M6 (upd M7 (400 * p + e) 1) M8 := by
  refine KK4_at h (fun q _ => rfl) (fun q d hq hd => ⟨rfl, rfl, rfl, rfl, u_row hq hd he, rfl⟩) (fun hw => ?_)
  obtain ⟨a1, a2, a3⟩ := h p hp hw
  refine ⟨fun d hd => ?_, ?_⟩
  · obtain ⟨b1, b2, b3⟩ := a1 d hd
    unfold WD
    rw [g0, g1]
    refine ⟨b1, ?_, ?_⟩
    · rcases g2 with g2 | ⟨g4, g2⟩
      · by_cases q : d = e
        · subst q
          rw [g2, u_at, or_other (by decide)]; exact b2
        · rw [g2, u_ne q]; exact b2
      · rw [g2]; exact b2
    · by_cases q : d = e
      · subst q
        rw [u_at]
        refine ⟨fun _ => by decide, fun _ => ?_⟩
        rcases g2 with g2 | ⟨g4, g2⟩
        · rw [g2, u_at]; exact or_same (by decide)
        · rw [g2]; exact g4
      · rw [u_ne (show 400 * p + d ≠ 400 * p + e by omega)]
        rcases g2 with g2 | ⟨g4, g2⟩
        · rw [g2, u_ne q]; exact b3
        · rw [g2]; exact b3
  · unfold WHd
    rw [g3]
    exact ⟨a2, a3⟩
/-- nothing of the watch's rows but where it stands has changed -/
theorem va_self {α : Type} {f : Nat → α} {i : Nat} {x : α} (h : x = f i) : va_up f i x = f := by
  funext j
  by_cases e : j = i
  · subst e; rw [up_at, h]
  · rw [up_ne e]
theorem wf_ext {g h : Nat → Nat → Int32} (e0 : g 0 = h 0) (e1 : g 1 = h 1) (e2 : g 2 = h 2) (e3 : g 3 = h 3) : ∀ k : Nat, k < 4 → g k = h k := fun k hk => by
  rcases (show k = 0 ∨ k = 1 ∨ k = 2 ∨ k = 3 by omega) with rfl | rfl | rfl | rfl
  · exact e0
  · exact e1
  · exact e2
  · exact e3
theorem WD_wf {g h : Nat → Nat → Int32} {M3 M4 M5 M6 M7 : Nat → Int32} {p d : Nat} (hw : WD h M3 M4 M5 M6 M7 p d) (e : ∀ k : Nat, k < 4 → g k = h k) : WD g M3 M4 M5 M6 M7 p d := by
  unfold WD
  rw [e 0 (by decide), e 1 (by decide), e 2 (by decide)]
  exact hw
theorem WH_wf {g h : Nat → Nat → Int32} {M8 : Nat → Int32} {p : Nat} {t : Int} (hw : WHd h M8 t p) (e : ∀ k : Nat, k < 4 → g k = h k) : WHd g M8 t p := by
  unfold WHd
  rw [e 3 (by decide)]
  exact hw
theorem KK4_same {t : Int32} {X1 : Nat → Int32} {wf : Nat → Nat → Nat → Int32} {gw : Nat → Nat → Int32} {M3 M4 M5 M6 M7 M8 : Nat → Int32} {p : Nat} (h : KK4 t X1 wf M3 M4 M5 M6 M7 M8) (hp : p < 16) (e : ∀ k : Nat, k < 4 → gw k = wf p k) : KK4 t X1 (va_up wf p gw) M3 M4 M5 M6 M7 M8 :=
  KK4_at h (fun _ _ => rfl) (fun _ _ _ _ => ⟨rfl, rfl, rfl, rfl, rfl, rfl⟩) (fun hw => ⟨fun d hd => WD_wf ((h p hp hw).1 d hd) e, WH_wf (h p hp hw).2 e⟩)
/-- another holder from today on -/
theorem WH_give {t : Int32} {g h : Nat → Nat → Int32} {M8 : Nat → Int32} {v : Int32} {p : Nat} (ht : 0 ≤ t.toInt ∧ t.toInt ≤ 399) (hw : WHd h M8 t.toInt p) (hg : GIV (h 3) (g 3) t.toInt v) {N8 : Nat → Int32} (h1 : N8 (400 * p + t.toInt.toNat) = v) (h2 : ∀ d : Nat, d < 400 → d ≠ t.toInt.toNat → N8 (400 * p + d) = M8 (400 * p + d)) : WHd g N8 t.toInt p := by
  refine ⟨fun d hd1 hd2 => ?_, fun d hd1 hd2 => ?_⟩
  · rw [hg d hd2]
    by_cases q : d = t.toInt.toNat
    · subst q
      rw [if_pos (by omega), h1]
    · rw [if_neg (by omega), h2 d hd2 q]
      exact hw.1 d hd1 hd2
  · rw [hg d hd1, hg t.toInt.toNat (by omega), if_pos (by omega), if_pos (by omega)]
theorem KK4_give {t v : Int32} {X1 : Nat → Int32} {wf : Nat → Nat → Nat → Int32} {gw : Nat → Nat → Int32} {M3 M4 M5 M6 M7 M8 : Nat → Int32} {p : Nat} (h : KK4 t X1 wf M3 M4 M5 M6 M7 M8) (hp : p < 16) (ht : 0 ≤ t.toInt ∧ t.toInt ≤ 399)
    (g0 : gw 0 = wf p 0) (g1 : gw 1 = wf p 1) (g2 : gw 2 = wf p 2) (g3 : GIV (wf p 3) (gw 3) t.toInt v) : KK4 t X1 (va_up wf p gw) M3 M4 M5 M6 M7 (upd M8 (400 * p + t.toInt.toNat) v) := by
  refine KK4_at h (fun q _ => rfl) (fun q d hq hd => ⟨rfl, rfl, rfl, rfl, rfl, u_row hq hd (by omega)⟩) (fun hw => ?_)
  obtain ⟨a1, a2⟩ := h p hp hw
  refine ⟨fun d hd => ?_, WH_give ht a2 g3 u_at (fun d hd hq => u_ne (by omega))⟩
  have b := a1 d hd
  unfold WD at b ⊢
  rw [g0, g1, g2]
  exact b
/-- ships -/
def SP (t : Int) (X1 : Nat → Int32) (wf : Nat → Nat → Nat → Int32) (j : Nat) (x : Int32) : Prop := (0 ≤ x.toInt ∧ x.toInt ≤ 15) ∧ isW (X1 x.toNatClampNeg) ∧ (wf x.toNatClampNeg 3 t.toNat).toInt = 100 + (j : Int)
def SR (t : Int) (X1 : Nat → Int32) (wf : Nat → Nat → Nat → Int32) (gv : Nat → Int32) (g0 : Nat → Int32) (M25 M26 M28 : Nat → Int32) (j : Nat) : Prop :=
  gv 1 = M25 j ∧ ((gv 1).toInt = 0 ∨ (gv 1).toInt = 1 ∨ (gv 1).toInt = 2) ∧ ((gv 1).toInt ≠ 0 → gv 2 = M26 j ∧ ∀ i : Nat, i < 3 → g0 i = M28 (3 * j + i))
  ∧ ((gv 1).toInt = 1 → (0 ≤ (gv 2).toInt ∧ (gv 2).toInt ≤ t) ∧ (∀ i : Nat, i < 3 → SP t X1 wf j (g0 i)) ∧ (g0 0).toInt ≠ (g0 1).toInt ∧ (g0 0).toInt ≠ (g0 2).toInt ∧ (g0 1).toInt ≠ (g0 2).toInt)
def KK5 (t : Int32) (X1 : Nat → Int32) (wf : Nat → Nat → Nat → Int32) (yv : Nat → Nat → Int32) (yf : Nat → Nat → Nat → Int32) (M25 M26 M28 : Nat → Int32) : Prop := ∀ j : Nat, j < 5 → SR t.toInt X1 wf (yv j) (yf j 0) M25 M26 M28 j
theorem KK5_mono {t t' : Int32} {X1 Y1 : Nat → Int32} {wf wf' : Nat → Nat → Nat → Int32} {yv : Nat → Nat → Int32} {yf : Nat → Nat → Nat → Int32} {M25 M26 M28 : Nat → Int32} (h : KK5 t X1 wf yv yf M25 M26 M28) (ht : t.toInt ≤ t'.toInt) (hs : ∀ (j : Nat) (x : Int32), j < 5 → SP t.toInt X1 wf j x → SP t'.toInt Y1 wf' j x) : KK5 t' Y1 wf' yv yf M25 M26 M28 := fun j hj => by
  obtain ⟨a1, a2, a3, a4⟩ := h j hj
  refine ⟨a1, a2, a3, fun q => ?_⟩
  obtain ⟨b1, b2, b3⟩ := a4 q
  exact ⟨by omega, fun i hi => hs j _ hj (b2 i hi), b3⟩
theorem SP_days {t t' : Int32} {X1 : Nat → Int32} {wf : Nat → Nat → Nat → Int32} {M3 M4 M5 M6 M7 M8 : Nat → Int32} (h : KK4 t X1 wf M3 M4 M5 M6 M7 M8) (h1 : t.toInt ≤ t'.toInt) (h2 : 0 ≤ t.toInt ∧ t'.toInt ≤ 399) (j : Nat) (x : Int32) (hj : j < 5) (hx : SP t.toInt X1 wf j x) : SP t'.toInt X1 wf j x := by
  obtain ⟨a1, a2, a3⟩ := hx
  have hc := i_clamp0 a1.1
  refine ⟨a1, a2, ?_⟩
  rw [(h x.toNatClampNeg (by omega) a2).2.2 t'.toInt.toNat (by omega) (by omega)]
  exact a3
theorem SP_ne {t : Int} {X1 Y1 : Nat → Int32} {wf : Nat → Nat → Nat → Int32} {gw : Nat → Nat → Int32} {p j : Nat} {x : Int32} (hx : SP t X1 wf j x) (hn : x.toNatClampNeg ≠ p) (hX : ∀ q : Nat, q ≠ p → Y1 q = X1 q) : SP t Y1 (va_up wf p gw) j x := by
  obtain ⟨a1, a2, a3⟩ := hx
  refine ⟨a1, ?_, ?_⟩
  · rw [hX _ hn]; exact a2
  · rw [up_ne hn]; exact a3
theorem SP_nx {t : Int} {X1 Y1 : Nat → Int32} {wf : Nat → Nat → Nat → Int32} {p j : Nat} {x : Int32} (hx : SP t X1 wf j x) (hn : x.toNatClampNeg ≠ p) (hX : ∀ q : Nat, q ≠ p → Y1 q = X1 q) : SP t Y1 wf j x := by
  obtain ⟨a1, a2, a3⟩ := hx
  refine ⟨a1, ?_, a3⟩
  rw [hX _ hn]; exact a2
theorem SP_w3 {t : Int} {X1 : Nat → Int32} {wf : Nat → Nat → Nat → Int32} {gw : Nat → Nat → Int32} {p j : Nat} {x : Int32} (hx : SP t X1 wf j x) (hg : gw 3 = wf p 3) : SP t X1 (va_up wf p gw) j x := by
  obtain ⟨a1, a2, a3⟩ := hx
  refine ⟨a1, a2, ?_⟩
  by_cases e : x.toNatClampNeg = p
  · rw [e, up_at, hg, ← e]; exact a3
  · rw [up_ne e]; exact a3
theorem SP_k {t : Int} {X1 : Nat → Int32} {wf : Nat → Nat → Nat → Int32} {p j : Nat} {x : Int32} (hx : SP t X1 wf j x) (hn : ¬ isW (X1 p)) : x.toNatClampNeg ≠ p := fun e => by
  obtain ⟨a1, a2, a3⟩ := hx
  rw [e] at a2
  exact hn a2
theorem SP_h {t : Int} {X1 : Nat → Int32} {wf : Nat → Nat → Nat → Int32} {p j : Nat} {x : Int32} (hx : SP t X1 wf j x) (hn : (wf p 3 t.toNat).toInt ≤ 99) : x.toNatClampNeg ≠ p := fun e => by
  obtain ⟨a1, a2, a3⟩ := hx
  rw [e] at a3
  omega
/-! ===== errors and rates of both sides ===== -/
theorem errS_off {sg fr to bz od : Nat → Int32} {src day k v0 : Int32} (hk : -1 ≤ k.toInt) : ∀ n : Nat, errS sg fr to bz od src day k v0 n = v0 - offS sg fr to bz od src day k n
  | 0 => by show v0 = v0 - 0; simp
  | n + 1 => by
    rw [errS_succ, offS_succ, errS_off hk n]
    by_cases h : (sg n).toInt = src.toInt ∧ ((fr n).toInt ≤ day.toInt ∧ day.toInt ≤ (to n).toInt) ∧ (k.toInt = -1 ∨ (od n).toInt ≤ k.toInt)
    · rw [if_pos h, if_pos (by omega)]
      generalize offS sg fr to bz od src day k n = x
      generalize bz n = y
      rw [Int32.sub_eq_add_neg, Int32.sub_eq_add_neg, Int32.sub_eq_add_neg, Int32.neg_add, Int32.add_assoc, show -x - y = -x + -y from Int32.sub_eq_add_neg _ _]
    · rw [if_neg h, if_neg (by omega)]
theorem offS_congr {sg fr to bz od sg' fr' to' bz' od' : Nat → Int32} {src day k : Int32} : ∀ n : Nat, (∀ i, i < n → sg i = sg' i ∧ fr i = fr' i ∧ to i = to' i ∧ bz i = bz' i ∧ od i = od' i) → offS sg fr to bz od src day k n = offS sg' fr' to' bz' od' src day k n
  | 0, _ => rfl
  | n + 1, h => by
    obtain ⟨h1, h2, h3, h4, h5⟩ := h n (by omega)
    rw [offS_succ, offS_succ, offS_congr n (fun i hi => h i (by omega)), h1, h2, h3, h4, h5]
theorem offS_none {sg fr to bz od : Nat → Int32} {src day k : Int32} : ∀ n : Nat, (∀ i, i < n → (sg i).toInt ≠ src.toInt) → offS sg fr to bz od src day k n = 0
  | 0, _ => rfl
  | n + 1, h => by
    rw [offS_succ, if_neg (fun q => h n (by omega) q.1), offS_none n (fun i hi => h i (by omega))]
/-- how far offs can go -/
theorem offS_abs {sg fr to bz od : Nat → Int32} {src day k : Int32} : ∀ n : Nat, n ≤ 60 → (∀ i, i < n → -10000 ≤ (bz i).toInt ∧ (bz i).toInt ≤ 10000) → -(10000 * (n : Int)) ≤ (offS sg fr to bz od src day k n).toInt ∧ (offS sg fr to bz od src day k n).toInt ≤ 10000 * (n : Int)
  | 0, _, _ => by show -(10000 * ((0 : Nat) : Int)) ≤ (0 : Int32).toInt ∧ (0 : Int32).toInt ≤ 10000 * ((0 : Nat) : Int); decide
  | n + 1, hn, h => by
    have ih := offS_abs (sg := sg) (fr := fr) (to := to) (od := od) (src := src) (day := day) (k := k) n (by omega) (fun i hi => h i (by omega))
    have hb := h n (by omega)
    rw [offS_succ]
    split
    · rw [i_add (by omega) (by omega)]
      omega
    · omega
theorem ix400 {p d : Int32} (hp : 0 ≤ p.toInt ∧ p.toInt ≤ 15) (hd : 0 ≤ d.toInt ∧ d.toInt ≤ 399) : (400 * p + d).toNatClampNeg = 400 * p.toNatClampNeg + d.toNatClampNeg := by
  have h4 : (400 : Int32).toInt = 400 := by decide
  have e1 : (400 * p).toInt = 400 * p.toInt := g_mul h4 rfl (by omega) (by omega)
  have e2 : (400 * p + d).toInt = 400 * p.toInt + d.toInt := g_add e1 rfl (by omega) (by omega)
  have c0 := i_clamp0 (x := 400 * p + d) (by omega)
  have c1 := i_clamp0 hp.1
  have c2 := i_clamp0 hd.1
  omega
theorem and3 (x : Int32) : (x &&& 3).toInt ≠ 0 ↔ (x &&& 1).toInt ≠ 0 ∨ (x &&& 2).toInt ≠ 0 := by
  have e0 : ∀ y : Int32, y.toInt = 0 ↔ y = 0 := fun y => ⟨fun h => i_eq.mpr (by rw [h]; rfl), fun h => by rw [h]; rfl⟩
  rw [Ne, Ne, Ne, e0, e0, e0]
  have key : x &&& 3 = 0 ↔ (x &&& 1 = 0 ∧ x &&& 2 = 0) := by
    constructor
    · intro h
      constructor
      · have : x &&& 1 = (x &&& 3) &&& 1 := by rw [Int32.and_assoc]; rfl
        rw [this, h]; rfl
      · have : x &&& 2 = (x &&& 3) &&& 2 := by rw [Int32.and_assoc]; rfl
        rw [this, h]; rfl
    · intro h
      have : x &&& 3 = (x &&& 1) ||| (x &&& 2) := by rw [show (3 : Int32) = 1 ||| 2 by decide]; exact Int32.toBitVec_inj.1 BitVec.and_or_distrib_left
      rw [this, h.1, h.2]; rfl
  rw [key]
  constructor
  · intro h
    by_cases q : x &&& 1 = 0
    · exact Or.inr (fun q2 => h ⟨q, q2⟩)
    · exact Or.inl q
  · intro h q
    rcases h with h | h
    · exact h q.1
    · exact h q.2
theorem eX_err {wf : Nat → Nat → Int32} {X4 X5 X6 X7 X8 M3 M4 M5 M6 M7 M9 M10 M11 M12 M13 : Nat → Int32} {n n' p d k : Int32} (hp : 0 ≤ p.toInt ∧ p.toInt ≤ 15) (hd : 0 ≤ d.toInt ∧ d.toInt ≤ 399) (hk : -1 ≤ k.toInt) (hn : n.toInt = n'.toInt) (hn0 : 0 ≤ n.toInt) (h3 : KK3 n X4 X5 X6 X7 X8 M9 M10 M11 M12 M13) (hw : WD wf M3 M4 M5 M6 M7 p.toNatClampNeg d.toNatClampNeg) :
    eX (wf 0) (wf 1) X4 X5 X6 X7 X8 n d k = errF M3 M4 M5 M9 M10 M11 M12 M13 n' p d k := by
  have hc := i_clamp0 hn0
  have e1 := i_eq.mpr hn
  subst e1
  unfold eX errF
  rw [ix400 hp hd]
  rcases hw.1 with ⟨a1, a2⟩ | ⟨a1, a2, a3, a4, a5⟩
  · rw [if_neg (by omega), if_pos a2]
  · rw [if_pos (by omega), if_neg a1, errS_off hk, a4]
    congr 1
    unfold sumF
    have hcg := offS_congr (src := wf 1 d.toNatClampNeg) (day := d) (k := k) n.toNatClampNeg (fun i hi => (fun q => ⟨q.1, q.2.1, q.2.2.1, q.2.2.2.1, q.2.2.2.2.1⟩) (h3 i (by omega)))
    by_cases q : (wf 1 d.toNatClampNeg).toInt = 0
    · rw [if_pos q, ← a2, ← hcg, offS_none _ (fun i hi => by have := (h3 i (by omega)).2.2.2.2.2.1; omega)]
    · rw [if_neg q, ← a2, hcg]
theorem szF_le {x : Int32} (h : -2147483647 ≤ x.toInt) : 999 < (szF x).toInt ↔ ¬ (-999 ≤ x.toInt ∧ x.toInt ≤ 999) := by
  unfold szF
  split
  · rw [i_neg h]; omega
  · omega
theorem sub_small {a b : Int32} (ha : -700000 ≤ a.toInt ∧ a.toInt ≤ 700000) (hb : -700000 ≤ b.toInt ∧ b.toInt ≤ 700000) : (b - a).toInt = b.toInt - a.toInt := i_sub (by omega) (by omega)
theorem szF_small {a b : Int32} (ha : -700000 ≤ a.toInt ∧ a.toInt ≤ 700000) (hb : -700000 ≤ b.toInt ∧ b.toInt ≤ 700000) : 999 < (szF (b - a)).toInt ↔ ¬ (-999 ≤ (b - a).toInt ∧ (b - a).toInt ≤ 999) := szF_le (by rw [sub_small ha hb]; omega)
/-- an error that is there is not far -/
theorem eX_abs {wf : Nat → Nat → Int32} {X4 X5 X6 X7 X8 M3 M4 M5 M6 M7 M9 M10 M11 M12 M13 : Nat → Int32} {n d k : Int32} {p : Nat} (hd : 0 ≤ d.toInt ∧ d.toInt ≤ 399) (hn : 0 ≤ n.toInt ∧ n.toInt ≤ 60) (h3 : KK3 n X4 X5 X6 X7 X8 M9 M10 M11 M12 M13) (hw : WD wf M3 M4 M5 M6 M7 p d.toNatClampNeg) :
    (eX (wf 0) (wf 1) X4 X5 X6 X7 X8 n d k).toInt = -2000000000 ∨ (-700000 ≤ (eX (wf 0) (wf 1) X4 X5 X6 X7 X8 n d k).toInt ∧ (eX (wf 0) (wf 1) X4 X5 X6 X7 X8 n d k).toInt ≤ 700000) := by
  have hc := i_clamp0 hn.1
  unfold eX
  rcases hw.1 with ⟨a1, a2⟩ | ⟨a1, a2, a3, a4, a5⟩
  · rw [if_neg (by omega)]; exact Or.inl (by decide)
  · rw [if_pos (by omega)]
    have hs : -600000 ≤ (sumF X4 X5 X6 X7 X8 n (wf 1 d.toNatClampNeg) d k).toInt ∧ (sumF X4 X5 X6 X7 X8 n (wf 1 d.toNatClampNeg) d k).toInt ≤ 600000 := by
      unfold sumF
      split
      · decide
      · have h9 := offS_abs (sg := X4) (fr := X5) (to := X6) (bz := X7) (od := X8) (src := wf 1 d.toNatClampNeg) (day := d) (k := k) n.toNatClampNeg (by omega) (fun i hi => (h3 i (by omega)).2.2.2.2.2.2)
        omega
    generalize sumF X4 X5 X6 X7 X8 n (wf 1 d.toNatClampNeg) d k = x at hs ⊢
    rw [i_sub (by omega) (by omega)]
    omega
theorem rX_rat {wf : Nat → Nat → Int32} {X4 X5 X6 X7 X8 M3 M4 M5 M6 M7 M9 M10 M11 M12 M13 : Nat → Int32} {n n' p d k : Int32} (hp : 0 ≤ p.toInt ∧ p.toInt ≤ 15) (hd : 0 ≤ d.toInt ∧ d.toInt ≤ 398) (hk : -1 ≤ k.toInt) (hn : n.toInt = n'.toInt) (hn0 : 0 ≤ n.toInt ∧ n.toInt ≤ 60) (h3 : KK3 n X4 X5 X6 X7 X8 M9 M10 M11 M12 M13) (hw : ∀ e : Nat, e < 400 → WD wf M3 M4 M5 M6 M7 p.toNatClampNeg e) :
    rX (wf 0) (wf 1) (wf 2) X4 X5 X6 X7 X8 n d k = ratF M3 M4 M5 M6 M7 M9 M10 M11 M12 M13 n' p d k := by
  have h1 : (1 : Int32).toInt = 1 := by decide
  have hd1 : (d + 1).toInt = d.toInt + 1 := g_add rfl h1 (by omega) (by omega)
  have hc := i_clamp0 hd.1
  have hc1 := i_clamp0 (x := d + 1) (by omega)
  have ha : (400 * p + d).toInt = 400 * p.toInt + d.toInt := by
    have h4 : (400 : Int32).toInt = 400 := by decide
    exact g_add (g_mul h4 rfl (by omega) (by omega)) rfl (by omega) (by omega)
  have hix := ix400 hp (d := d) (by omega)
  have hix1 : (400 * p + d + 1).toNatClampNeg = 400 * p.toNatClampNeg + (d + 1).toNatClampNeg := by
    have e2 : (400 * p + d + 1).toInt = 400 * p.toInt + d.toInt + 1 := g_add ha h1 (by omega) (by omega)
    have c0 := i_clamp0 (x := 400 * p + d + 1) (by omega)
    have c1 := i_clamp0 hp.1
    omega
  unfold rX ratF rbX ratG
  have hw1 := hw (d + 1).toNatClampNeg (by omega)
  have hw0 := hw d.toNatClampNeg (by omega)
  rw [← eX_err hp (d := d) (by omega) hk hn hn0.1 h3 hw0, ← eX_err hp (d := d + 1) (by omega) hk hn hn0.1 h3 hw1, hix, hix1]
  have m3 := and3 (wf 2 (d + 1).toNatClampNeg)
  have D0 : 0 ≤ d.toInt ∧ d.toInt ≤ 399 := by omega
  have D1 : 0 ≤ (d + 1).toInt ∧ (d + 1).toInt ≤ 399 := by omega
  have cnd : (((0 ≤ d.toInt ∧ d.toInt ≤ 399) ∧ (wf 2 d.toNatClampNeg &&& 2).toInt ≠ 0) ∨ ((0 ≤ (d + 1).toInt ∧ (d + 1).toInt ≤ 399) ∧ (wf 2 (d + 1).toNatClampNeg &&& 3).toInt ≠ 0)) ↔ ((M6 (400 * p.toNatClampNeg + (d + 1).toNatClampNeg)).toInt ≠ 0 ∨ (M7 (400 * p.toNatClampNeg + d.toNatClampNeg)).toInt ≠ 0 ∨ (M7 (400 * p.toNatClampNeg + (d + 1).toNatClampNeg)).toInt ≠ 0) := by
    have r1 := hw1.2.1
    have l1 := hw1.2.2
    have l0 := hw0.2.2
    rw [m3, r1, l1, l0]
    constructor
    · rintro (⟨_, h⟩ | ⟨_, h | h⟩)
      · exact Or.inr (Or.inl h)
      · exact Or.inl h
      · exact Or.inr (Or.inr h)
    · rintro (h | h | h)
      · exact Or.inr ⟨D1, Or.inl h⟩
      · exact Or.inl ⟨D0, h⟩
      · exact Or.inr ⟨D1, Or.inr h⟩
  have b0 := eX_abs (k := k) (d := d) D0 hn0 h3 hw0
  have b1 := eX_abs (k := k) (d := d + 1) D1 hn0 h3 hw1
  generalize eX (wf 0) (wf 1) X4 X5 X6 X7 X8 n d k = a at b0 ⊢
  generalize eX (wf 0) (wf 1) X4 X5 X6 X7 X8 n (d + 1) k = b at b1 ⊢
  by_cases c1 : a.toInt = -2000000000 ∨ b.toInt = -2000000000 ∨ ¬ (-999 ≤ (b - a).toInt ∧ (b - a).toInt ≤ 999)
  · rw [if_pos c1]
    have c3 : a.toInt = -2000000000 ∨ b.toInt = -2000000000 ∨ 999 < (szF (b - a)).toInt := by
      by_cases qa : a.toInt = -2000000000
      · exact Or.inl qa
      · by_cases qb : b.toInt = -2000000000
        · exact Or.inr (Or.inl qb)
        · rcases c1 with c | c | c
          · exact Or.inl c
          · exact Or.inr (Or.inl c)
          · exact Or.inr (Or.inr ((szF_small (b0.resolve_left qa) (b1.resolve_left qb)).mpr c))
    rw [if_pos c3]
    split <;> rfl
  · rw [if_neg c1]
    have c3 : ¬ (a.toInt = -2000000000 ∨ b.toInt = -2000000000 ∨ 999 < (szF (b - a)).toInt) := by
      have qa : ¬ a.toInt = -2000000000 := fun h => c1 (Or.inl h)
      have qb : ¬ b.toInt = -2000000000 := fun h => c1 (Or.inr (Or.inl h))
      rintro (h | h | h)
      · exact qa h
      · exact qb h
      · exact c1 (Or.inr (Or.inr ((szF_small (b0.resolve_left qa) (b1.resolve_left qb)).mp h)))
    rw [if_neg c3]
    by_cases c2 : (((0 ≤ d.toInt ∧ d.toInt ≤ 399) ∧ (wf 2 d.toNatClampNeg &&& 2).toInt ≠ 0) ∨ ((0 ≤ (d + 1).toInt ∧ (d + 1).toInt ≤ 399) ∧ (wf 2 (d + 1).toNatClampNeg &&& 3).toInt ≠ 0))
    · rw [if_pos c2, if_pos (cnd.mp c2)]
    · rw [if_neg c2, if_neg (mt cnd.mpr c2)]
/-- on day 399 there is none -/
theorem rX_last {f0 f1 f2 X4 X5 X6 X7 X8 : Nat → Int32} {n d k : Int32} (hd : d.toInt = 399) : (rX f0 f1 f2 X4 X5 X6 X7 X8 n d k).toInt = -2000000000 := by
  have h1 : (1 : Int32).toInt = 1 := by decide
  have hd1 : (d + 1).toInt = d.toInt + 1 := g_add rfl h1 (by omega) (by omega)
  have e : eX f0 f1 X4 X5 X6 X7 X8 n (d + 1) k = -2000000000 := by unfold eX; rw [if_neg (by omega)]
  unfold rX rbX
  rw [e, if_pos (Or.inr (Or.inl (by decide)))]
  decide
theorem ageN_M {f M6 : Nat → Int32} {p : Nat} : ∀ d : Nat, d < 400 → (∀ e : Nat, e < 400 → ((f e &&& 1).toInt ≠ 0 ↔ (M6 (400 * p + e)).toInt ≠ 0)) → ageN f d = agM M6 (400 * p) d
  | 0, _, _ => rfl
  | d + 1, hd, h => by
    have h1 := h (d + 1) hd
    rw [ageN_succ, agM_succ, ageN_M d (by omega) h]
    by_cases q : (f (d + 1) &&& 1).toInt ≠ 0
    · rw [if_pos q, if_pos (h1.mp q)]
    · rw [if_neg q, if_neg (mt h1.mpr q)]
theorem awN_M {f M8 : Nat → Int32} {p : Nat} : ∀ n : Nat, (∀ d : Nat, d < n → f d = M8 (400 * p + d)) → awN f n = awM M8 (400 * p) n
  | 0, _ => rfl
  | n + 1, h => by rw [awN_succ, awM_succ, awN_M n (fun d hd => h d (by omega)), h n (by omega)]
theorem chN_congr {A B A' B' : Int32 → Int32} {p : Int32} : ∀ n : Nat, (∀ j : Nat, j < n → A (p + nI j) = A' (p + nI j) ∧ B (p + nI j) = B' (p + nI j)) → chN A B p n = chN A' B' p n
  | 0, _ => rfl
  | n + 1, h => by rw [chN_succ, chN_succ, chN_congr n (fun j hj => h j (by omega)), (h n (by omega)).1, (h n (by omega)).2]
theorem rateL_cnt {A B : Int32 → Int32} {p : Int32} : ∀ n : Nat, (∀ j : Nat, j < n → A (p + nI j) = B (p + nI j)) → ((rateL A p n).length : Int) = cntF B p n
  | 0, _ => rfl
  | n + 1, h => by
    have ih := rateL_cnt n (fun j hj => h j (by omega))
    rw [rateL_succ, cntF_succ, ← ih, h n (by omega)]
    split
    · omega
    · rw [List.length_append]; simp
theorem pnI {p : Int32} {j : Nat} {n : Int} (h0 : 0 ≤ p.toInt) (hj : p.toInt + (j : Int) ≤ n) (hn : n ≤ 2147483647) : (p + nI j).toInt = p.toInt + j := by
  have hp := i_hi p
  exact g_add rfl (nI_toInt (by omega)) (by omega) (by omega)
theorem cnK_W {f : Nat → Int32} : ∀ n : Nat, cnK f 0 n + cnK f 1 n = cnW f n
  | 0 => rfl
  | n + 1 => by
    have ih := cnK_W (f := f) n
    rw [cnK_succ, cnK_succ, cnW_succ]
    by_cases q0 : (f n).toInt = 0
    · rw [if_pos q0, if_neg (by omega), if_pos (Or.inl q0)]; omega
    · by_cases q1 : (f n).toInt = 1
      · rw [if_neg q0, if_pos q1, if_pos (Or.inr q1)]; omega
      · rw [if_neg q0, if_neg q1, if_neg (by omega)]; omega
theorem cnK_G {f : Nat → Int32} : ∀ n : Nat, cnK f 2 n = cnG f n
  | 0 => rfl
  | n + 1 => by rw [cnK_succ, cnG_succ, cnK_G n]
theorem cn_congr {f g : Nat → Int32} : ∀ n : Nat, (∀ k : Nat, k < n → f k = g k) → cnW f n = cnW g n ∧ cnG f n = cnG g n
  | 0, _ => ⟨rfl, rfl⟩
  | n + 1, h => by
    have ih := cn_congr n (fun k hk => h k (by omega))
    rw [cnW_succ, cnW_succ, cnG_succ, cnG_succ, ih.1, ih.2, h n (by omega)]
    exact ⟨rfl, rfl⟩
/-- start, going, doubt of each watch of each ship -/
def KK6 (yf : Nat → Nat → Nat → Int32) (M29 M30 M31 : Nat → Int32) : Prop := ∀ j : Nat, j < 5 → ∀ k : Nat, k < 3 → yf j 1 k = M29 (3 * j + k) ∧ yf j 2 k = M30 (3 * j + k) ∧ yf j 3 k = M31 (3 * j + k)
theorem KK6_same {yf : Nat → Nat → Nat → Int32} {M29 M30 M31 : Nat → Int32} {i : Nat} {gf : Nat → Nat → Int32} (h : KK6 yf M29 M30 M31) (h1 : gf 1 = yf i 1) (h2 : gf 2 = yf i 2) (h3 : gf 3 = yf i 3) : KK6 (va_up yf i gf) M29 M30 M31 := fun j hj k hk => by
  by_cases e : j = i
  · subst e
    rw [up_at, h1, h2, h3]
    exact h j hj k hk
  · rw [up_ne e]
    exact h j hj k hk
end
section
def RK (zx : XS) (zm : MS) : Prop := KK1 (xF zx 1) (xF zx 2) (mF zm 1) (mF zm 2) ∧ KK2 (xF zx 0) (mF zm 0) ∧ KK3 (xV zx 1) (xF zx 4) (xF zx 5) (xF zx 6) (xF zx 7) (xF zx 8) (mF zm 9) (mF zm 10) (mF zm 11) (mF zm 12) (mF zm 13)
  ∧ KK4 (xV zx 0) (xF zx 1) (xwf zx) (mF zm 3) (mF zm 4) (mF zm 5) (mF zm 6) (mF zm 7) (mF zm 8) ∧ KK5 (xV zx 0) (xF zx 1) (xwf zx) (xyv zx) (xyf zx) (mF zm 25) (mF zm 26) (mF zm 28) ∧ KK6 (xyf zx) (mF zm 29) (mF zm 30) (mF zm 31)
def T4 (zx : XS) (zm : MS) : Prop := (xV zx 0).toInt = (mV zm 1).toInt ∧ (xV zx 1).toInt = (mV zm 2).toInt ∧ (xV zx 4).toInt = (mV zm 4).toInt ∧ (xV zx 9).toInt = (mV zm 11).toInt
def TR (zx : XS) (zm : MS) : Prop := T4 zx zm ∧ RK zx zm
theorem TR_kq {zx zx' : XS} {zm zm' : MS} (h : TR zx zm) (kx : KQX zx zx') (km : KQM zm zm') (h4 : (xV zx' 4).toInt = (mV zm' 4).toInt) (h9 : (xV zx' 9).toInt = (mV zm' 11).toInt) : TR zx' zm' := by
  obtain ⟨⟨t0, t1, t2, t3⟩, hr⟩ := h
  obtain ⟨a0, a1, f0, f1, f2, f4, f5, f6, f7, f8, w, v, f⟩ := kx
  obtain ⟨b1, b2, g0, g1, g2, g3, g4, g5, g6, g7, g8, g9, g10, g11, g12, g13, g25, g26, g28, g29, g30, g31⟩ := km
  refine ⟨⟨by rw [a0, b1]; exact t0, by rw [a1, b2]; exact t1, h4, h9⟩, ?_⟩
  unfold RK at hr ⊢
  rw [a0, a1, f0, f1, f2, f4, f5, f6, f7, f8, w, v, f, g0, g1, g2, g3, g4, g5, g6, g7, g8, g9, g10, g11, g12, g13, g25, g26, g28, g29, g30, g31]
  exact hr
theorem TR_kp {zx zx' : XS} {zm zm' : MS} (h : TR zx zm) (kx : KPX zx zx') (km : KPM zm zm') (km2 : KQM zm zm') : TR zx' zm' := by
  have kx2 := KQX.of kx
  obtain ⟨h1, h2, h3, h4, h5⟩ := kx
  obtain ⟨m1, m2, m3, m4, m5⟩ := km
  exact TR_kq h kx2 km2 (by rw [h3, m3]; exact h.1.2.2.1) (by rw [h4, m4]; exact h.1.2.2.2)
theorem KQ_X8_rule {p0 r : Int32} {s s' : XS} (h : RX_X8_rule p0 r s s') : KQX s s' := by
  obtain ⟨_, a0, a1, a9, f0, f1, f2, f4, f5, f6, f7, f8, _, _, w, v, f⟩ := h
  exact ⟨a0, a1, f0, f1, f2, f4, f5, f6, f7, f8, w, v, f⟩
theorem KK5_sight {t : Int32} {X1 : Nat → Int32} {wf : Nat → Nat → Nat → Int32} {yv : Nat → Nat → Int32} {yf : Nat → Nat → Nat → Int32} {M25 M26 M28 : Nat → Int32} {i : Nat} {gv : Nat → Int32} {gf : Nat → Nat → Int32} (h : KK5 t X1 wf yv yf M25 M26 M28) (h1 : gv 1 = yv i 1) (h2 : gv 2 = yv i 2) (h3 : gf 0 = yf i 0) : KK5 t X1 wf (va_up yv i gv) (va_up yf i gf) M25 M26 M28 := fun j hj => by
  by_cases e : j = i
  · subst e
    have b := h j hj
    rw [up_at, up_at]
    unfold SR at b ⊢
    rw [h1, h2, h3]
    exact b
  · rw [up_ne e, up_ne e]
    exact h j hj
theorem cl16 {p : Int32} (h : 0 ≤ p.toInt ∧ p.toInt ≤ 15) : p.toNatClampNeg < 16 := by have := i_clamp0 h.1; omega
theorem cl400 {p : Int32} (h : 0 ≤ p.toInt ∧ p.toInt ≤ 399) : p.toNatClampNeg < 400 := by have := i_clamp0 h.1; omega
theorem cl5 {p : Int32} (h : 0 ≤ p.toInt ∧ p.toInt ≤ 4) : p.toNatClampNeg < 5 := by have := i_clamp0 h.1; omega
theorem ST_days {p0 rx rm : Int32} {zx zx' : XS} {zm zm' : MS} (hI : XI zx) (h : TR zx zm) (hx : RX_X8_days p0 rx zx zx') (hm : RM_X9_days p0 rm zm zm') : TR zx' zm' := by
  obtain ⟨⟨t0, t1, t2, t3⟩, q1, q2, q3, q4, q5, q6⟩ := h
  have hb := hI.1
  have hb1 := hI.2.1
  obtain ⟨hpx, kxv1, kxv4, kxv9, kxf0, kxf1, kxf2, kxf4, kxf5, kxf6, kxf7, kxf8, _, _, kwf, kyv, kyf⟩ := hx
  obtain ⟨hpm, kmv2, kmv4, kmv11, kmf0, kmf1, kmf2, kmf3, kmf4, kmf5, kmf6, kmf7, kmf9, kmf10, kmf11, kmf12, kmf13, kmf25, kmf26, kmf28, kmf29, kmf30, kmf31⟩ := hm
  have hq : (xV zx 0).toInt ≤ (xV zx' 0).toInt ∧ (xV zx' 0).toInt ≤ 399 ∧ (xV zx' 0).toInt = (mV zm' 1).toInt := by
    rcases hpx with h1 | h1 <;> rcases hpm with h2 | h2 <;> omega
  have hd : HD2 (mF zm 8) (mF zm' 8) (xV zx 0).toInt (xV zx' 0).toInt 0 := by
    rcases hpm with ⟨_, _, _, h4⟩ | ⟨_, _, e, h4⟩
    · rw [t0, hq.2.2]; exact h4
    · rw [h4]; exact HD2_0 (by omega)
  refine ⟨⟨hq.2.2, by rw [kxv1, kmv2]; exact t1, by rw [kxv4, kmv4]; exact t2, by rw [kxv9, kmv11]; exact t3⟩, ?_⟩
  unfold RK
  rw [kxv1, kxf0, kxf1, kxf2, kxf4, kxf5, kxf6, kxf7, kxf8, kwf, kyv, kyf, kmf0, kmf1, kmf2, kmf3, kmf4, kmf5, kmf6, kmf7, kmf9, kmf10, kmf11, kmf12, kmf13, kmf25, kmf26, kmf28, kmf29, kmf30, kmf31]
  exact ⟨q1, q2, q3, KK4_days q4 hb.1 hq.1 hq.2.1 hd, KK5_mono q5 hq.1 (SP_days q4 hq.1 ⟨hb.1, hq.2.1⟩), q6⟩
theorem ST_warmth {p0 p1 rx rm : Int32} {zx zx' : XS} {zm zm' : MS} (hI : XI zx) (h : TR zx zm) (hx : RX_X8_warmth p0 p1 rx zx zx') (hm : RM_X9_warmth p0 p1 rm zm zm') : TR zx' zm' := by
  obtain ⟨⟨t0, t1, t2, t3⟩, q1, q2, q3, q4, q5, q6⟩ := h
  have hb := hI.1
  have hb1 := hI.2.1
  obtain ⟨hpx, kxv0, kxv1, kxv4, kxv9, kxf1, kxf2, kxf4, kxf5, kxf6, kxf7, kxf8, _, _, kwf, kyv, kyf⟩ := hx
  obtain ⟨hpm, kmv1, kmv2, kmv4, kmv11, kmf1, kmf2, kmf3, kmf4, kmf5, kmf6, kmf7, kmf8, kmf9, kmf10, kmf11, kmf12, kmf13, kmf25, kmf26, kmf28, kmf29, kmf30, kmf31⟩ := hm
  refine ⟨⟨by rw [kxv0, kmv1]; exact t0, by rw [kxv1, kmv2]; exact t1, by rw [kxv4, kmv4]; exact t2, by rw [kxv9, kmv11]; exact t3⟩, ?_⟩
  unfold RK
  rw [kxv0, kxv1, kxf1, kxf2, kxf4, kxf5, kxf6, kxf7, kxf8, kwf, kyv, kyf, kmf1, kmf2, kmf3, kmf4, kmf5, kmf6, kmf7, kmf8, kmf9, kmf10, kmf11, kmf12, kmf13, kmf25, kmf26, kmf28, kmf29, kmf30, kmf31]
  refine ⟨q1, ?_, q3, q4, q5, q6⟩
  rcases hpx with ⟨_, c1, e1⟩ | ⟨_, c1, e1⟩ <;> rcases hpm with ⟨_, c2, e2⟩ | ⟨_, c2, e2⟩
  · rw [e1]
    rcases e2 with ⟨u, e2⟩ | ⟨u, e2⟩
    · rw [e2]; exact KK2_w q2 (Or.inl ⟨u, by decide⟩)
    · rw [e2]; exact KK2_w q2 (Or.inr ⟨rfl, by omega⟩)
  · exact absurd c1 c2
  · exact absurd c2 c1
  · rw [e1, e2]; exact q2
theorem ST_put {p0 p1 p2 rx rm : Int32} {zx zx' : XS} {zm zm' : MS} (hI : XI zx) (h : TR zx zm) (hx : RX_X8_put p0 p1 p2 rx zx zx') (hm : RM_X9_put p0 p1 p2 rm zm zm') : TR zx' zm' := by
  obtain ⟨⟨t0, t1, t2, t3⟩, q1, q2, q3, q4, q5, q6⟩ := h
  have hb := hI.1
  have hb1 := hI.2.1
  obtain ⟨hpm, kmv1, kmv2, kmv4, kmv11, kmf0, kmf4, kmf5, kmf9, kmf10, kmf11, kmf12, kmf13, kmf25, kmf26, kmf28, kmf29, kmf30, kmf31⟩ := hm
  rcases hx with hx | hx | hx
  ·
    obtain ⟨gw, ewf, hcx, hpx, kxv0, kxv1, kxv4, kxv9, kxf0, kxf4, kxf5, kxf6, kxf7, kxf8, _, _, kyv, kyf⟩ := hx
    obtain ⟨_, e1, e2, hN⟩ := hpx
    have hp := cl16 hcx.1
    have hc := i_clamp0 hcx.1.1
    have hk := (q1 _ hp).1
    have hkm : ((mF zm 1) (p0).toNatClampNeg).toInt = -5 := by rw [← hk]; exact hcx.2.2.2
    refine ⟨⟨by rw [kxv0, kmv1]; exact t0, by rw [kxv1, kmv2]; exact t1, by rw [kxv4, kmv4]; exact t2, by rw [kxv9, kmv11]; exact t3⟩, ?_⟩
    unfold RK
    rw [kxv0, kxv1, kxf0, kxf4, kxf5, kxf6, kxf7, kxf8, kyv, kyf, kmf0, kmf4, kmf5, kmf9, kmf10, kmf11, kmf12, kmf13, kmf25, kmf26, kmf28, kmf29, kmf30, kmf31]
    rcases hpm with ⟨_, _, _, _, f1, f2, f3, f6, f7, f8⟩ | ⟨_, c, _⟩ | ⟨_, _, _, c, _⟩
    · rw [← hc] at f3 f6 f7 f8
      rw [e1, e2, ewf, f1, f2]
      refine ⟨KK1_put q1 (by omega) (by omega), q2, q3, KK4_put q4 hb hN f3 f6 f7 f8, KK5_mono q5 (Int.le_refl _) (fun j x hj hx => SP_ne hx (SP_k hx (by unfold isW; omega)) (fun q e => u_ne e)), q6⟩
    · exact absurd ⟨hcx.1, hcx.2.1⟩ c
    · exact absurd hkm c
  ·
    obtain ⟨gw, ewf, hcx, hpx, kxv0, kxv1, kxv4, kxv9, kxf0, kxf4, kxf5, kxf6, kxf7, kxf8, _, _, kyv, kyf⟩ := hx
    obtain ⟨_, e1, e2, hN⟩ := hpx
    have hp := cl16 hcx.1
    have hc := i_clamp0 hcx.1.1
    have hk := (q1 _ hp).1
    have hkm : ((mF zm 1) (p0).toNatClampNeg).toInt = -5 := by rw [← hk]; exact hcx.2.2.2
    refine ⟨⟨by rw [kxv0, kmv1]; exact t0, by rw [kxv1, kmv2]; exact t1, by rw [kxv4, kmv4]; exact t2, by rw [kxv9, kmv11]; exact t3⟩, ?_⟩
    unfold RK
    rw [kxv0, kxv1, kxf0, kxf4, kxf5, kxf6, kxf7, kxf8, kyv, kyf, kmf0, kmf4, kmf5, kmf9, kmf10, kmf11, kmf12, kmf13, kmf25, kmf26, kmf28, kmf29, kmf30, kmf31]
    rcases hpm with ⟨_, _, _, _, f1, f2, f3, f6, f7, f8⟩ | ⟨_, c, _⟩ | ⟨_, _, _, c, _⟩
    · rw [← hc] at f3 f6 f7 f8
      rw [e1, e2, ewf, f1, f2]
      refine ⟨KK1_put q1 (by omega) (by omega), q2, q3, KK4_put q4 hb hN f3 f6 f7 f8, KK5_mono q5 (Int.le_refl _) (fun j x hj hx => SP_ne hx (SP_k hx (by unfold isW; omega)) (fun q e => u_ne e)), q6⟩
    · exact absurd ⟨hcx.1, hcx.2.1⟩ c
    · exact absurd hkm c
  ·
    obtain ⟨hcx, hpx, kxv0, kxv1, kxv4, kxv9, kxf0, kxf4, kxf5, kxf6, kxf7, kxf8, _, _, kwf, kyv, kyf⟩ := hx
    refine ⟨⟨by rw [kxv0, kmv1]; exact t0, by rw [kxv1, kmv2]; exact t1, by rw [kxv4, kmv4]; exact t2, by rw [kxv9, kmv11]; exact t3⟩, ?_⟩
    unfold RK
    rw [kxv0, kxv1, kxf0, kxf4, kxf5, kxf6, kxf7, kxf8, kwf, kyv, kyf, kmf0, kmf4, kmf5, kmf9, kmf10, kmf11, kmf12, kmf13, kmf25, kmf26, kmf28, kmf29, kmf30, kmf31]
    rcases hpx with ⟨c, _, e1, e2⟩ | ⟨c, c3, _, e1, e2⟩ | ⟨c, c3, c4, _, e1, e2⟩
    · rcases hpm with ⟨_, d1, d2, _⟩ | ⟨_, _, f1, f2, f3, f6, f7, f8⟩ | ⟨_, d1, d2, _⟩
      · exact absurd ⟨d1, d2⟩ c
      · rw [e1, e2, f1, f2, f3, f6, f7, f8]; exact ⟨q1, q2, q3, q4, q5, q6⟩
      · exact absurd ⟨d1, d2⟩ c
    · have hk := (q1 _ (cl16 c.1)).1
      rw [hk] at c3
      rcases hpm with ⟨_, _, _, d, _⟩ | ⟨_, d, _⟩ | ⟨_, _, _, _, f1, f2, f3, f6, f7, f8⟩
      · exact absurd d c3
      · exact absurd c d
      · rw [e1, e2, f1, f2, f3, f6, f7, f8]; exact ⟨q1, q2, q3, q4, q5, q6⟩
    · have hk := (q1 _ (cl16 c.1)).1
      have hc := i_clamp0 c.1.1
      rcases hpm with ⟨_, _, _, _, f1, f2, f3, f6, f7, f8⟩ | ⟨_, d, _⟩ | ⟨_, _, _, d, _⟩
      · rw [← hc] at f3 f6 f7 f8
        rw [e1, e2, f1, f2]
        exact ⟨KK1_put q1 (by omega) (by omega), q2, q3, KK4_glass q4 c4 f3 f6 f7 f8, KK5_mono q5 (Int.le_refl _) (fun j x hj hx => SP_nx hx (SP_k hx (by unfold isW; omega)) (fun q e => u_ne e)), q6⟩
      · exact absurd c d
      · exact absurd (by rw [← hk]; exact c3) d
theorem ST_take {p0 rx rm : Int32} {zx zx' : XS} {zm zm' : MS} (hI : XI zx) (h : TR zx zm) (hx : RX_X8_take p0 rx zx zx') (hm : RM_X9_take p0 rm zm zm') : TR zx' zm' := by
  obtain ⟨⟨t0, t1, t2, t3⟩, q1, q2, q3, q4, q5, q6⟩ := h
  have hb := hI.1
  have hb1 := hI.2.1
  obtain ⟨hpm, kmv1, kmv2, kmv4, kmv11, kmf0, kmf2, kmf3, kmf4, kmf5, kmf6, kmf7, kmf8, kmf9, kmf10, kmf11, kmf12, kmf13, kmf25, kmf26, kmf28, kmf29, kmf30, kmf31⟩ := hm
  rcases hx with hx | hx
  ·
    obtain ⟨hcx, hpx, kxv0, kxv1, kxv4, kxv9, kxf0, kxf2, kxf4, kxf5, kxf6, kxf7, kxf8, _, _, kwf, kyv, kyf⟩ := hx
    have hp := cl16 (p := p0) ⟨hcx.1, hcx.2.1⟩
    have hk := (q1 _ hp).1
    have hw := q4 _ hp hcx.2.2
    have hct := i_clamp0 hb.1
    have hto : (xwf zx (p0).toNatClampNeg 3 (xV zx 0).toNatClampNeg).toInt = (mF zm 8 (400 * p0 + mV zm 1).toNatClampNeg).toInt := by
      rw [← i_eq.mpr t0, ix400 ⟨hcx.1, hcx.2.1⟩ hb]
      exact congrArg Int32.toInt (hw.2.1 _ (by omega) (by omega))
    refine ⟨⟨by rw [kxv0, kmv1]; exact t0, by rw [kxv1, kmv2]; exact t1, by rw [kxv4, kmv4]; exact t2, by rw [kxv9, kmv11]; exact t3⟩, ?_⟩
    unfold RK
    rw [kxv0, kxv1, kxf0, kxf2, kxf4, kxf5, kxf6, kxf7, kxf8, kwf, kyv, kyf, kmf0, kmf2, kmf3, kmf4, kmf5, kmf6, kmf7, kmf8, kmf9, kmf10, kmf11, kmf12, kmf13, kmf25, kmf26, kmf28, kmf29, kmf30, kmf31]
    rw [hk] at hcx
    rcases hpx with ⟨c, _, e1⟩ | ⟨c, _, e1⟩
    · rcases hpm with ⟨_, _, _, d, f1⟩ | ⟨_, d, f1⟩ | ⟨_, _, d, f1⟩ | ⟨_, _, d, f1⟩
      · exfalso; omega
      · exfalso; omega
      · exfalso; omega
      · rw [e1, f1]; exact ⟨q1, q2, q3, q4, q5, q6⟩
    · rcases hpm with ⟨_, _, _, d, f1⟩ | ⟨_, d, f1⟩ | ⟨_, _, d, f1⟩ | ⟨_, _, d, f1⟩
      · rw [e1, f1]
        refine ⟨KK1_take q1, q2, q3, KK4_take q4, KK5_mono q5 (Int.le_refl _) (fun j x hj hx => SP_nx hx (SP_h hx ?_) (fun q e => u_ne e)), q6⟩
        rw [show (xV zx 0).toInt.toNat = (xV zx 0).toNatClampNeg from rfl]
        omega
      · exfalso; omega
      · exfalso; omega
      · exfalso; omega
  ·
    obtain ⟨hcx, hpx, kxv0, kxv1, kxv4, kxv9, kxf0, kxf2, kxf4, kxf5, kxf6, kxf7, kxf8, _, _, kwf, kyv, kyf⟩ := hx
    refine ⟨⟨by rw [kxv0, kmv1]; exact t0, by rw [kxv1, kmv2]; exact t1, by rw [kxv4, kmv4]; exact t2, by rw [kxv9, kmv11]; exact t3⟩, ?_⟩
    unfold RK
    rw [kxv0, kxv1, kxf0, kxf2, kxf4, kxf5, kxf6, kxf7, kxf8, kwf, kyv, kyf, kmf0, kmf2, kmf3, kmf4, kmf5, kmf6, kmf7, kmf8, kmf9, kmf10, kmf11, kmf12, kmf13, kmf25, kmf26, kmf28, kmf29, kmf30, kmf31]
    rcases hpx with ⟨_, c, e1⟩ | ⟨c, c2, _, e1⟩ | ⟨c, c2, _, e1⟩
    · rcases hpm with ⟨_, d, _, _, f1⟩ | ⟨_, d, f1⟩ | ⟨_, d, _, f1⟩ | ⟨_, d, _, f1⟩
      · exact absurd d c
      · rw [e1, f1]; exact ⟨q1, q2, q3, q4, q5, q6⟩
      · exact absurd d c
      · exact absurd d c
    · have hk := (q1 _ (cl16 c)).1
      rw [hk] at c2
      rcases hpm with ⟨_, _, d, _, f1⟩ | ⟨_, d, f1⟩ | ⟨_, _, d, f1⟩ | ⟨_, _, d, f1⟩
      · exact absurd c2 d
      · exact absurd c d
      · rw [e1, f1]; exact ⟨q1, q2, q3, q4, q5, q6⟩
      · exfalso; omega
    · have hk := (q1 _ (cl16 c)).1
      have hnw : ¬ isW (xF zx 1 (p0).toNatClampNeg) := fun hh => hcx ⟨c.1, c.2, hh⟩
      rw [hk] at c2
      rcases hpm with ⟨_, _, d, _, f1⟩ | ⟨_, d, f1⟩ | ⟨_, _, d, f1⟩ | ⟨_, _, d, f1⟩
      · rw [e1, f1]
        exact ⟨KK1_take q1, q2, q3, KK4_take q4, KK5_mono q5 (Int.le_refl _) (fun j x hj hx => SP_nx hx (SP_k hx hnw) (fun q e => u_ne e)), q6⟩
      · exact absurd c d
      · exact absurd d c2
      · exact absurd (show isW _ from by unfold isW; rw [hk]; exact d.1) hnw
theorem ST_compare {p0 p1 p2 p3 rx rm : Int32} {zx zx' : XS} {zm zm' : MS} (hI : XI zx) (h : TR zx zm) (hx : RX_X8_compare p0 p1 p2 p3 rx zx zx') (hm : RM_X9_compare p0 p1 p2 p3 rm zm zm') : TR zx' zm' := by
  obtain ⟨⟨t0, t1, t2, t3⟩, q1, q2, q3, q4, q5, q6⟩ := h
  have hb := hI.1
  have hb1 := hI.2.1
  obtain ⟨hpm, kmv1, kmv2, kmv4, kmv11, kmf0, kmf1, kmf2, kmf6, kmf7, kmf8, kmf9, kmf10, kmf11, kmf12, kmf13, kmf25, kmf26, kmf28, kmf29, kmf30, kmf31⟩ := hm
  rcases hx with hx | hx
  ·
    obtain ⟨gw, ewf, hcx, hpx, kxv0, kxv1, kxv4, kxv9, kxf0, kxf1, kxf2, kxf4, kxf5, kxf6, kxf7, kxf8, _, _, gw2, gw3, kyv, kyf⟩ := hx
    have hp := cl16 (p := p0) ⟨hcx.1, hcx.2.1⟩
    have hk := (q1 _ hp).1
    have hw := q4 _ hp hcx.2.2
    have hkk := (q1 _ hp).2.1
    have hkt := congrArg Int32.toInt hk
    have hct := i_clamp0 hb.1
    refine ⟨⟨by rw [kxv0, kmv1]; exact t0, by rw [kxv1, kmv2]; exact t1, by rw [kxv4, kmv4]; exact t2, by rw [kxv9, kmv11]; exact t3⟩, ?_⟩
    unfold RK
    rw [kxv0, kxv1, kxf0, kxf1, kxf2, kxf4, kxf5, kxf6, kxf7, kxf8, kyv, kyf, kmf0, kmf1, kmf2, kmf6, kmf7, kmf8, kmf9, kmf10, kmf11, kmf12, kmf13, kmf25, kmf26, kmf28, kmf29, kmf30, kmf31]
    rw [ewf]
    rcases hpx with ⟨c, _, e0, e1⟩ | ⟨c, c2, _, e0, e1⟩ | ⟨c, c2, _, e0, e1⟩
    · rcases hpm with ⟨_, d, f3, f4, f5⟩ | ⟨d, _, f3, f4, f5⟩ | ⟨d, _, _, _, f3, f4, f5⟩ | ⟨d, _, _, _, f3, f4, f5⟩
      · rw [f3, f4, f5]; exact ⟨q1, q2, q3, KK4_same q4 hp (wf_ext e0 e1 gw2 gw3), KK5_mono q5 (Int.le_refl _) (fun j x hj hx => SP_w3 hx gw3), q6⟩
      · exfalso; omega
      · exfalso; omega
      · exfalso; omega
    · have hix := ix400 (p := p0) (d := p1) ⟨hcx.1, hcx.2.1⟩ (by omega)
      have hd := hw.1 (p1).toNatClampNeg (cl400 (by omega))
      have hh := hw.2.1 (p1).toNatClampNeg (by have := i_clamp0 (x := p1) (by omega); omega) (cl400 (by omega))
      have hht := congrArg Int32.toInt hh
      rcases hpm with ⟨_, d, f3, f4, f5⟩ | ⟨d, _, f3, f4, f5⟩ | ⟨d, _, _, _, f3, f4, f5⟩ | ⟨d, _, d3, _, f3, f4, f5⟩
      · exfalso; omega
      · exfalso; omega
      · rw [f3, f4, f5]; exact ⟨q1, q2, q3, KK4_same q4 hp (wf_ext e0 e1 gw2 gw3), KK5_mono q5 (Int.le_refl _) (fun j x hj hx => SP_w3 hx gw3), q6⟩
      · exfalso
        rw [hix] at d3
        rcases hd.1 with g | g <;> omega
    · have hix := ix400 (p := p0) (d := p1) ⟨hcx.1, hcx.2.1⟩ (by omega)
      have hd := hw.1 (p1).toNatClampNeg (cl400 (by omega))
      have hh := hw.2.1 (p1).toNatClampNeg (by have := i_clamp0 (x := p1) (by omega); omega) (cl400 (by omega))
      have hht := congrArg Int32.toInt hh
      rcases hpm with ⟨_, d, f3, f4, f5⟩ | ⟨d, _, f3, f4, f5⟩ | ⟨d, _, d3, _, f3, f4, f5⟩ | ⟨d, _, d3, _, f3, f4, f5⟩
      · exfalso; omega
      · exfalso; omega
      · exfalso
        rw [hix] at d3
        rcases hd.1 with g | g <;> omega
      · rw [f3, f4, f5, hix]
        exact ⟨q1, q2, q3, KK4_compare q4 hp (cl400 (by omega)) (by omega) (by omega) e0 e1 gw2 gw3, KK5_mono q5 (Int.le_refl _) (fun j x hj hx => SP_w3 hx gw3), q6⟩
  ·
    obtain ⟨hcx, hpx, kxv0, kxv1, kxv4, kxv9, kxf0, kxf1, kxf2, kxf4, kxf5, kxf6, kxf7, kxf8, _, _, kwf, kyv, kyf⟩ := hx
    refine ⟨⟨by rw [kxv0, kmv1]; exact t0, by rw [kxv1, kmv2]; exact t1, by rw [kxv4, kmv4]; exact t2, by rw [kxv9, kmv11]; exact t3⟩, ?_⟩
    unfold RK
    rw [kxv0, kxv1, kxf0, kxf1, kxf2, kxf4, kxf5, kxf6, kxf7, kxf8, kwf, kyv, kyf, kmf0, kmf1, kmf2, kmf6, kmf7, kmf8, kmf9, kmf10, kmf11, kmf12, kmf13, kmf25, kmf26, kmf28, kmf29, kmf30, kmf31]
    rcases hpm with ⟨_, d, f3, f4, f5⟩ | ⟨d, _, f3, f4, f5⟩ | ⟨d, _, _, _, f3, f4, f5⟩ | ⟨d, d2, _, _, f3, f4, f5⟩
    · rw [f3, f4, f5]; exact ⟨q1, q2, q3, q4, q5, q6⟩
    · rw [f3, f4, f5]; exact ⟨q1, q2, q3, q4, q5, q6⟩
    · rw [f3, f4, f5]; exact ⟨q1, q2, q3, q4, q5, q6⟩
    · exfalso
      have hk := q1 _ (cl16 d.1)
      have hkt := congrArg Int32.toInt hk.1
      have hkk := hk.2.1
      omega
theorem ST_repair {p0 p1 rx rm : Int32} {zx zx' : XS} {zm zm' : MS} (hI : XI zx) (h : TR zx zm) (hx : RX_X8_repair p0 p1 rx zx zx') (hm : RM_X9_repair p0 p1 rm zm zm') : TR zx' zm' := by
  obtain ⟨⟨t0, t1, t2, t3⟩, q1, q2, q3, q4, q5, q6⟩ := h
  have hb := hI.1
  have hb1 := hI.2.1
  obtain ⟨hpm, kmv1, kmv2, kmv4, kmv11, kmf0, kmf1, kmf2, kmf3, kmf4, kmf5, kmf7, kmf8, kmf9, kmf10, kmf11, kmf12, kmf13, kmf25, kmf26, kmf28, kmf29, kmf30, kmf31⟩ := hm
  rcases hx with hx | hx
  ·
    obtain ⟨gw, ewf, hcx, hpx, kxv0, kxv1, kxv4, kxv9, kxf0, kxf1, kxf2, kxf4, kxf5, kxf6, kxf7, kxf8, _, _, gw0, gw1, gw3, kyv, kyf⟩ := hx
    have hp := cl16 (p := p0) ⟨hcx.1, hcx.2.1⟩
    have hk := (q1 _ hp).1
    have hw := q4 _ hp hcx.2.2
    have hkk := (q1 _ hp).2.1
    have hkt := congrArg Int32.toInt hk
    have hct := i_clamp0 hb.1
    refine ⟨⟨by rw [kxv0, kmv1]; exact t0, by rw [kxv1, kmv2]; exact t1, by rw [kxv4, kmv4]; exact t2, by rw [kxv9, kmv11]; exact t3⟩, ?_⟩
    unfold RK
    rw [kxv0, kxv1, kxf0, kxf1, kxf2, kxf4, kxf5, kxf6, kxf7, kxf8, kyv, kyf, kmf0, kmf1, kmf2, kmf3, kmf4, kmf5, kmf7, kmf8, kmf9, kmf10, kmf11, kmf12, kmf13, kmf25, kmf26, kmf28, kmf29, kmf30, kmf31]
    rw [ewf]
    rcases hpx with ⟨c, _, e2⟩ | ⟨c, c2, _, e2⟩ | ⟨c, c2, _, e2⟩
    · rcases hpm with ⟨_, d, f⟩ | ⟨d, _, f⟩ | ⟨d, _, _, f⟩
      · rw [f]; exact ⟨q1, q2, q3, KK4_same q4 hp (wf_ext gw0 gw1 e2 gw3), KK5_mono q5 (Int.le_refl _) (fun j x hj hx => SP_w3 hx gw3), q6⟩
      · exfalso; omega
      · exfalso; omega
    · have hix := ix400 (p := p0) (d := p1) ⟨hcx.1, hcx.2.1⟩ (by omega)
      rcases hpm with ⟨_, d, f⟩ | ⟨d, _, f⟩ | ⟨d, _, _, f⟩
      · exfalso; omega
      · exfalso; omega
      · rw [f, hix]
        exact ⟨q1, q2, q3, KK4_repair q4 hp (cl400 (by omega)) (Or.inr ⟨c2, e2⟩) gw0 gw1 gw3, KK5_mono q5 (Int.le_refl _) (fun j x hj hx => SP_w3 hx gw3), q6⟩
    · have hix := ix400 (p := p0) (d := p1) ⟨hcx.1, hcx.2.1⟩ (by omega)
      rcases hpm with ⟨_, d, f⟩ | ⟨d, _, f⟩ | ⟨d, _, _, f⟩
      · exfalso; omega
      · exfalso; omega
      · rw [f, hix]
        exact ⟨q1, q2, q3, KK4_repair q4 hp (cl400 (by omega)) (Or.inl e2) gw0 gw1 gw3, KK5_mono q5 (Int.le_refl _) (fun j x hj hx => SP_w3 hx gw3), q6⟩
  ·
    obtain ⟨hcx, hpx, kxv0, kxv1, kxv4, kxv9, kxf0, kxf1, kxf2, kxf4, kxf5, kxf6, kxf7, kxf8, _, _, kwf, kyv, kyf⟩ := hx
    refine ⟨⟨by rw [kxv0, kmv1]; exact t0, by rw [kxv1, kmv2]; exact t1, by rw [kxv4, kmv4]; exact t2, by rw [kxv9, kmv11]; exact t3⟩, ?_⟩
    unfold RK
    rw [kxv0, kxv1, kxf0, kxf1, kxf2, kxf4, kxf5, kxf6, kxf7, kxf8, kwf, kyv, kyf, kmf0, kmf1, kmf2, kmf3, kmf4, kmf5, kmf7, kmf8, kmf9, kmf10, kmf11, kmf12, kmf13, kmf25, kmf26, kmf28, kmf29, kmf30, kmf31]
    rcases hpm with ⟨_, d, f⟩ | ⟨d, _, f⟩ | ⟨d, d2, _, f⟩
    · rw [f]; exact ⟨q1, q2, q3, q4, q5, q6⟩
    · rw [f]; exact ⟨q1, q2, q3, q4, q5, q6⟩
    · exfalso
      have hk := q1 _ (cl16 d.1)
      have hkt := congrArg Int32.toInt hk.1
      have hkk := hk.2.1
      omega
theorem ST_late {p0 p1 rx rm : Int32} {zx zx' : XS} {zm zm' : MS} (hI : XI zx) (h : TR zx zm) (hx : RX_X8_late p0 p1 rx zx zx') (hm : RM_X9_late p0 p1 rm zm zm') : TR zx' zm' := by
  obtain ⟨⟨t0, t1, t2, t3⟩, q1, q2, q3, q4, q5, q6⟩ := h
  have hb := hI.1
  have hb1 := hI.2.1
  obtain ⟨hpm, kmv1, kmv2, kmv4, kmv11, kmf0, kmf1, kmf2, kmf3, kmf4, kmf5, kmf6, kmf8, kmf9, kmf10, kmf11, kmf12, kmf13, kmf25, kmf26, kmf28, kmf29, kmf30, kmf31⟩ := hm
  rcases hx with hx | hx
  ·
    obtain ⟨gw, ewf, hcx, hpx, kxv0, kxv1, kxv4, kxv9, kxf0, kxf1, kxf2, kxf4, kxf5, kxf6, kxf7, kxf8, _, _, gw0, gw1, gw3, kyv, kyf⟩ := hx
    have hp := cl16 (p := p0) ⟨hcx.1, hcx.2.1⟩
    have hk := (q1 _ hp).1
    have hw := q4 _ hp hcx.2.2
    have hkk := (q1 _ hp).2.1
    have hkt := congrArg Int32.toInt hk
    have hct := i_clamp0 hb.1
    refine ⟨⟨by rw [kxv0, kmv1]; exact t0, by rw [kxv1, kmv2]; exact t1, by rw [kxv4, kmv4]; exact t2, by rw [kxv9, kmv11]; exact t3⟩, ?_⟩
    unfold RK
    rw [kxv0, kxv1, kxf0, kxf1, kxf2, kxf4, kxf5, kxf6, kxf7, kxf8, kyv, kyf, kmf0, kmf1, kmf2, kmf3, kmf4, kmf5, kmf6, kmf8, kmf9, kmf10, kmf11, kmf12, kmf13, kmf25, kmf26, kmf28, kmf29, kmf30, kmf31]
    rw [ewf]
    rcases hpx with ⟨c, _, e2⟩ | ⟨c, c2, _, e2⟩ | ⟨c, c2, _, e2⟩
    · rcases hpm with ⟨_, d, f⟩ | ⟨d, _, f⟩ | ⟨d, _, _, f⟩
      · rw [f]; exact ⟨q1, q2, q3, KK4_same q4 hp (wf_ext gw0 gw1 e2 gw3), KK5_mono q5 (Int.le_refl _) (fun j x hj hx => SP_w3 hx gw3), q6⟩
      · exfalso; omega
      · exfalso; omega
    · have hix := ix400 (p := p0) (d := p1) ⟨hcx.1, hcx.2.1⟩ (by omega)
      rcases hpm with ⟨_, d, f⟩ | ⟨d, _, f⟩ | ⟨d, _, _, f⟩
      · exfalso; omega
      · exfalso; omega
      · rw [f, hix]
        exact ⟨q1, q2, q3, KK4_late q4 hp (cl400 (by omega)) (Or.inr ⟨c2, e2⟩) gw0 gw1 gw3, KK5_mono q5 (Int.le_refl _) (fun j x hj hx => SP_w3 hx gw3), q6⟩
    · have hix := ix400 (p := p0) (d := p1) ⟨hcx.1, hcx.2.1⟩ (by omega)
      rcases hpm with ⟨_, d, f⟩ | ⟨d, _, f⟩ | ⟨d, _, _, f⟩
      · exfalso; omega
      · exfalso; omega
      · rw [f, hix]
        exact ⟨q1, q2, q3, KK4_late q4 hp (cl400 (by omega)) (Or.inl e2) gw0 gw1 gw3, KK5_mono q5 (Int.le_refl _) (fun j x hj hx => SP_w3 hx gw3), q6⟩
  ·
    obtain ⟨hcx, hpx, kxv0, kxv1, kxv4, kxv9, kxf0, kxf1, kxf2, kxf4, kxf5, kxf6, kxf7, kxf8, _, _, kwf, kyv, kyf⟩ := hx
    refine ⟨⟨by rw [kxv0, kmv1]; exact t0, by rw [kxv1, kmv2]; exact t1, by rw [kxv4, kmv4]; exact t2, by rw [kxv9, kmv11]; exact t3⟩, ?_⟩
    unfold RK
    rw [kxv0, kxv1, kxf0, kxf1, kxf2, kxf4, kxf5, kxf6, kxf7, kxf8, kwf, kyv, kyf, kmf0, kmf1, kmf2, kmf3, kmf4, kmf5, kmf6, kmf8, kmf9, kmf10, kmf11, kmf12, kmf13, kmf25, kmf26, kmf28, kmf29, kmf30, kmf31]
    rcases hpm with ⟨_, d, f⟩ | ⟨d, _, f⟩ | ⟨d, d2, _, f⟩
    · rw [f]; exact ⟨q1, q2, q3, q4, q5, q6⟩
    · rw [f]; exact ⟨q1, q2, q3, q4, q5, q6⟩
    · exfalso
      have hk := q1 _ (cl16 d.1)
      have hkt := congrArg Int32.toInt hk.1
      have hkk := hk.2.1
      omega
theorem ST_off {p0 p1 p2 p3 rx rm : Int32} {zx zx' : XS} {zm zm' : MS} (hI : XI zx) (h : TR zx zm) (hx : RX_X8_off p0 p1 p2 p3 rx zx zx') (hm : RM_X9_off p0 p1 p2 p3 rm zm zm') : TR zx' zm' := by
  obtain ⟨⟨t0, t1, t2, t3⟩, q1, q2, q3, q4, q5, q6⟩ := h
  have hb := hI.1
  have hb1 := hI.2.1
  obtain ⟨hpx, kxv0, kxv4, kxv9, kxf0, kxf1, kxf2, _, _, kwf, kyv, kyf⟩ := hx
  obtain ⟨hpm, kmv1, kmv4, kmv11, kmf0, kmf1, kmf2, kmf3, kmf4, kmf5, kmf6, kmf7, kmf8, kmf25, kmf26, kmf28, kmf29, kmf30, kmf31⟩ := hm
  have hq : (xV zx' 1).toInt = (mV zm' 2).toInt := by
    rcases hpx with h1 | h1 | h1 <;> rcases hpm with h2 | h2 | h2 <;> omega
  refine ⟨⟨by rw [kxv0, kmv1]; exact t0, hq, by rw [kxv4, kmv4]; exact t2, by rw [kxv9, kmv11]; exact t3⟩, ?_⟩
  unfold RK
  rw [kxv0, kxf0, kxf1, kxf2, kwf, kyv, kyf, kmf0, kmf1, kmf2, kmf3, kmf4, kmf5, kmf6, kmf7, kmf8, kmf25, kmf26, kmf28, kmf29, kmf30, kmf31]
  refine ⟨q1, q2, ?_, q4, q5, q6⟩
  rcases hpx with ⟨c, _, n, e4, e5, e6, e7, e8⟩ | ⟨c, c2, _, n, e4, e5, e6, e7, e8⟩ | ⟨c, c2, c3, n, e4, e5, e6, e7, e8⟩
  · rcases hpm with ⟨d, _, n2, f9, f10, f11, f12, f13⟩ | ⟨d, d2, _, n2, f9, f10, f11, f12, f13⟩ | ⟨d, d2, _, n2, f9, f10, f11, f12, f13⟩
    · rw [e4, e5, e6, e7, e8, f9, f10, f11, f12, f13]; exact KK3_n q3 n
    · exact absurd d c
    · exact absurd d c
  · rcases hpm with ⟨d, _, n2, f9, f10, f11, f12, f13⟩ | ⟨d, d2, _, n2, f9, f10, f11, f12, f13⟩ | ⟨d, d2, _, n2, f9, f10, f11, f12, f13⟩
    · exact absurd c d
    · rw [e4, e5, e6, e7, e8, f9, f10, f11, f12, f13]; exact KK3_n q3 n
    · exfalso; omega
  · rcases hpm with ⟨d, _, n2, f9, f10, f11, f12, f13⟩ | ⟨d, d2, _, n2, f9, f10, f11, f12, f13⟩ | ⟨d, d2, _, n2, f9, f10, f11, f12, f13⟩
    · exact absurd c d
    · exfalso; omega
    · rw [e4, e5, e6, e7, e8, f9, f10, f11, f12, f13, ← i_eq.mpr t1, ← i_eq.mpr t0]
      exact KK3_off q3 (by omega) (by omega) c.1 c.2.2.2.2
theorem ST_lend {p0 p1 rx rm : Int32} {zx zx' : XS} {zm zm' : MS} (hI : XI zx) (h : TR zx zm) (hx : RX_X8_lend p0 p1 rx zx zx') (hm : RM_X9_lend p0 p1 rm zm zm') : TR zx' zm' := by
  obtain ⟨⟨t0, t1, t2, t3⟩, q1, q2, q3, q4, q5, q6⟩ := h
  have hb := hI.1
  have hb1 := hI.2.1
  obtain ⟨hpm, kmv1, kmv2, kmv4, kmv11, kmf0, kmf1, kmf2, kmf3, kmf4, kmf5, kmf6, kmf7, kmf9, kmf10, kmf11, kmf12, kmf13, kmf25, kmf26, kmf28, kmf29, kmf30, kmf31⟩ := hm
  rcases hx with hx | hx
  ·
    obtain ⟨gw, ewf, hcx, hpx, kxv0, kxv1, kxv4, kxv9, kxf0, kxf1, kxf2, kxf4, kxf5, kxf6, kxf7, kxf8, _, _, gw0, gw1, gw2, kyv, kyf⟩ := hx
    have hp := cl16 (p := p0) ⟨hcx.1, hcx.2.1⟩
    have hk := (q1 _ hp).1
    have hw := q4 _ hp hcx.2.2
    have hkk := (q1 _ hp).2.1
    have hkt := congrArg Int32.toInt hk
    have hct := i_clamp0 hb.1
    have hto : (xwf zx (p0).toNatClampNeg 3 (xV zx 0).toNatClampNeg).toInt = (mF zm 8 (400 * p0 + mV zm 1).toNatClampNeg).toInt := by
      rw [← i_eq.mpr t0, ix400 ⟨hcx.1, hcx.2.1⟩ hb]
      exact congrArg Int32.toInt (hw.2.1 _ (by omega) (by omega))
    have hix : (400 * p0 + mV zm 1).toNatClampNeg = 400 * (p0).toNatClampNeg + (xV zx 0).toInt.toNat := by
      rw [← i_eq.mpr t0, ix400 ⟨hcx.1, hcx.2.1⟩ hb]; rfl
    refine ⟨⟨by rw [kxv0, kmv1]; exact t0, by rw [kxv1, kmv2]; exact t1, by rw [kxv4, kmv4]; exact t2, by rw [kxv9, kmv11]; exact t3⟩, ?_⟩
    unfold RK
    rw [kxv0, kxv1, kxf0, kxf1, kxf2, kxf4, kxf5, kxf6, kxf7, kxf8, kyv, kyf, kmf0, kmf1, kmf2, kmf3, kmf4, kmf5, kmf6, kmf7, kmf9, kmf10, kmf11, kmf12, kmf13, kmf25, kmf26, kmf28, kmf29, kmf30, kmf31]
    rw [ewf]
    rcases hpx with ⟨c, _, e3⟩ | ⟨c, c2, _, e3⟩ | ⟨c, c2, _, e3⟩
    · rcases hpm with ⟨_, d, f⟩ | ⟨d, _, f⟩ | ⟨d, _, _, _, f⟩ | ⟨d, _, _, _, f⟩
      · rw [f]; exact ⟨q1, q2, q3, KK4_same q4 hp (wf_ext gw0 gw1 gw2 e3), KK5_mono q5 (Int.le_refl _) (fun j x hj hx => SP_w3 hx e3), q6⟩
      · exfalso; omega
      · exfalso; omega
      · exfalso; omega
    · rcases hpm with ⟨_, d, f⟩ | ⟨d, _, f⟩ | ⟨d, _, _, _, f⟩ | ⟨d, _, d2, _, f⟩
      · exfalso; omega
      · exfalso; omega
      · rw [f]; exact ⟨q1, q2, q3, KK4_same q4 hp (wf_ext gw0 gw1 gw2 e3), KK5_mono q5 (Int.le_refl _) (fun j x hj hx => SP_w3 hx e3), q6⟩
      · exfalso; omega
    · rcases hpm with ⟨_, d, f⟩ | ⟨d, _, f⟩ | ⟨d, _, d2, _, f⟩ | ⟨d, _, _, _, f⟩
      · exfalso; omega
      · exfalso; omega
      · exfalso; omega
      · rw [f, hix]
        refine ⟨q1, q2, q3, KK4_give q4 hp hb gw0 gw1 gw2 e3, KK5_mono q5 (Int.le_refl _) (fun j x hj hx => SP_ne hx (SP_h hx ?_) (fun q _ => rfl)), q6⟩
        rw [show (xV zx 0).toInt.toNat = (xV zx 0).toNatClampNeg from rfl]
        omega
  ·
    obtain ⟨hcx, hpx, kxv0, kxv1, kxv4, kxv9, kxf0, kxf1, kxf2, kxf4, kxf5, kxf6, kxf7, kxf8, _, _, kwf, kyv, kyf⟩ := hx
    refine ⟨⟨by rw [kxv0, kmv1]; exact t0, by rw [kxv1, kmv2]; exact t1, by rw [kxv4, kmv4]; exact t2, by rw [kxv9, kmv11]; exact t3⟩, ?_⟩
    unfold RK
    rw [kxv0, kxv1, kxf0, kxf1, kxf2, kxf4, kxf5, kxf6, kxf7, kxf8, kwf, kyv, kyf, kmf0, kmf1, kmf2, kmf3, kmf4, kmf5, kmf6, kmf7, kmf9, kmf10, kmf11, kmf12, kmf13, kmf25, kmf26, kmf28, kmf29, kmf30, kmf31]
    rcases hpm with ⟨_, d, f⟩ | ⟨d, _, f⟩ | ⟨d, _, _, _, f⟩ | ⟨d, d2, _, _, f⟩
    · rw [f]; exact ⟨q1, q2, q3, q4, q5, q6⟩
    · rw [f]; exact ⟨q1, q2, q3, q4, q5, q6⟩
    · rw [f]; exact ⟨q1, q2, q3, q4, q5, q6⟩
    · exfalso
      have hk := q1 _ (cl16 d.1)
      have hkt := congrArg Int32.toInt hk.1
      have hkk := hk.2.1
      omega
theorem ST_home {p0 rx rm : Int32} {zx zx' : XS} {zm zm' : MS} (hI : XI zx) (h : TR zx zm) (hx : RX_X8_home p0 rx zx zx') (hm : RM_X9_home p0 rm zm zm') : TR zx' zm' := by
  obtain ⟨⟨t0, t1, t2, t3⟩, q1, q2, q3, q4, q5, q6⟩ := h
  have hb := hI.1
  have hb1 := hI.2.1
  obtain ⟨hpm, kmv1, kmv2, kmv4, kmv11, kmf0, kmf1, kmf2, kmf3, kmf4, kmf5, kmf6, kmf7, kmf9, kmf10, kmf11, kmf12, kmf13, kmf25, kmf26, kmf28, kmf29, kmf30, kmf31⟩ := hm
  rcases hx with hx | hx
  ·
    obtain ⟨gw, ewf, hcx, hpx, kxv0, kxv1, kxv4, kxv9, kxf0, kxf1, kxf2, kxf4, kxf5, kxf6, kxf7, kxf8, _, _, gw0, gw1, gw2, kyv, kyf⟩ := hx
    have hp := cl16 (p := p0) ⟨hcx.1, hcx.2.1⟩
    have hk := (q1 _ hp).1
    have hw := q4 _ hp hcx.2.2
    have hkk := (q1 _ hp).2.1
    have hkt := congrArg Int32.toInt hk
    have hct := i_clamp0 hb.1
    have hto : (xwf zx (p0).toNatClampNeg 3 (xV zx 0).toNatClampNeg).toInt = (mF zm 8 (400 * p0 + mV zm 1).toNatClampNeg).toInt := by
      rw [← i_eq.mpr t0, ix400 ⟨hcx.1, hcx.2.1⟩ hb]
      exact congrArg Int32.toInt (hw.2.1 _ (by omega) (by omega))
    have hix : (400 * p0 + mV zm 1).toNatClampNeg = 400 * (p0).toNatClampNeg + (xV zx 0).toInt.toNat := by
      rw [← i_eq.mpr t0, ix400 ⟨hcx.1, hcx.2.1⟩ hb]; rfl
    refine ⟨⟨by rw [kxv0, kmv1]; exact t0, by rw [kxv1, kmv2]; exact t1, by rw [kxv4, kmv4]; exact t2, by rw [kxv9, kmv11]; exact t3⟩, ?_⟩
    unfold RK
    rw [kxv0, kxv1, kxf0, kxf1, kxf2, kxf4, kxf5, kxf6, kxf7, kxf8, kyv, kyf, kmf0, kmf1, kmf2, kmf3, kmf4, kmf5, kmf6, kmf7, kmf9, kmf10, kmf11, kmf12, kmf13, kmf25, kmf26, kmf28, kmf29, kmf30, kmf31]
    rw [ewf]
    rcases hpx with ⟨c, _, e3⟩ | ⟨c, _, e3⟩
    · rcases hpm with ⟨d, f⟩ | ⟨d, d1, d2, _, f⟩ | ⟨d, d1, d2, _, f⟩
      · exfalso; omega
      · rw [f]; exact ⟨q1, q2, q3, KK4_same q4 hp (wf_ext gw0 gw1 gw2 e3), KK5_mono q5 (Int.le_refl _) (fun j x hj hx => SP_w3 hx e3), q6⟩
      · exfalso; omega
    · rcases hpm with ⟨d, f⟩ | ⟨d, d1, d2, _, f⟩ | ⟨d, d1, d2, _, f⟩
      · exfalso; omega
      · exfalso; omega
      · rw [f, hix]
        refine ⟨q1, q2, q3, KK4_give q4 hp hb gw0 gw1 gw2 e3, KK5_mono q5 (Int.le_refl _) (fun j x hj hx => SP_ne hx (SP_h hx ?_) (fun q _ => rfl)), q6⟩
        rw [show (xV zx 0).toInt.toNat = (xV zx 0).toNatClampNeg from rfl]
        omega
  ·
    obtain ⟨hcx, hpx, kxv0, kxv1, kxv4, kxv9, kxf0, kxf1, kxf2, kxf4, kxf5, kxf6, kxf7, kxf8, _, _, kwf, kyv, kyf⟩ := hx
    refine ⟨⟨by rw [kxv0, kmv1]; exact t0, by rw [kxv1, kmv2]; exact t1, by rw [kxv4, kmv4]; exact t2, by rw [kxv9, kmv11]; exact t3⟩, ?_⟩
    unfold RK
    rw [kxv0, kxv1, kxf0, kxf1, kxf2, kxf4, kxf5, kxf6, kxf7, kxf8, kwf, kyv, kyf, kmf0, kmf1, kmf2, kmf3, kmf4, kmf5, kmf6, kmf7, kmf9, kmf10, kmf11, kmf12, kmf13, kmf25, kmf26, kmf28, kmf29, kmf30, kmf31]
    rcases hpm with ⟨d, f⟩ | ⟨d, d1, d2, _, f⟩ | ⟨d, d1, d2, _, f⟩
    · rw [f]; exact ⟨q1, q2, q3, q4, q5, q6⟩
    · rw [f]; exact ⟨q1, q2, q3, q4, q5, q6⟩
    · exfalso
      have hk := q1 _ (cl16 d)
      have hkt := congrArg Int32.toInt hk.1
      have hkk := hk.2.1
      omega
theorem ST_sight {p0 p1 p2 p3 p4 rx rm : Int32} {zx zx' : XS} {zm zm' : MS} (hI : XI zx) (h : TR zx zm) (hx : RX_X8_sight p0 p1 p2 p3 p4 rx zx zx') (hm : RM_X9_sight p0 p1 p2 p3 p4 rm zm zm') : TR zx' zm' := by
  obtain ⟨⟨t0, t1, t2, t3⟩, q1, q2, q3, q4, q5, q6⟩ := h
  have hb := hI.1
  have hb1 := hI.2.1
  obtain ⟨kmv1, kmv2, kmv4, kmv11, kmf0, kmf1, kmf2, kmf3, kmf4, kmf5, kmf6, kmf7, kmf8, kmf9, kmf10, kmf11, kmf12, kmf13, kmf25, kmf26, kmf28, kmf29, kmf30, kmf31⟩ := hm
  rcases hx with hx | hx
  ·
    obtain ⟨gv, gf, eyv, eyf, hcx, kxv0, kxv1, kxv4, kxv9, kxf0, kxf1, kxf2, kxf4, kxf5, kxf6, kxf7, kxf8, _, _, kwf, gv1, gv2, gv3, gf0, gf1, gf2, gf3, gf4⟩ := hx
    refine ⟨⟨by rw [kxv0, kmv1]; exact t0, by rw [kxv1, kmv2]; exact t1, by rw [kxv4, kmv4]; exact t2, by rw [kxv9, kmv11]; exact t3⟩, ?_⟩
    unfold RK
    rw [kxv0, kxv1, kxf0, kxf1, kxf2, kxf4, kxf5, kxf6, kxf7, kxf8, kwf, kmf0, kmf1, kmf2, kmf3, kmf4, kmf5, kmf6, kmf7, kmf8, kmf9, kmf10, kmf11, kmf12, kmf13, kmf25, kmf26, kmf28, kmf29, kmf30, kmf31]
    rw [eyv, eyf]
    exact ⟨q1, q2, q3, q4, KK5_sight q5 gv1 gv2 gf0, KK6_same q6 gf1 gf2 gf3⟩
  ·
    obtain ⟨hcx, kxv0, kxv1, kxv4, kxv9, kxf0, kxf1, kxf2, kxf4, kxf5, kxf6, kxf7, kxf8, _, _, kwf, kyv, kyf⟩ := hx
    refine ⟨⟨by rw [kxv0, kmv1]; exact t0, by rw [kxv1, kmv2]; exact t1, by rw [kxv4, kmv4]; exact t2, by rw [kxv9, kmv11]; exact t3⟩, ?_⟩
    unfold RK
    rw [kxv0, kxv1, kxf0, kxf1, kxf2, kxf4, kxf5, kxf6, kxf7, kxf8, kwf, kyv, kyf, kmf0, kmf1, kmf2, kmf3, kmf4, kmf5, kmf6, kmf7, kmf8, kmf9, kmf10, kmf11, kmf12, kmf13, kmf25, kmf26, kmf28, kmf29, kmf30, kmf31]
    exact ⟨q1, q2, q3, q4, q5, q6⟩
theorem ST_feed {p0 p1 rx rm : Int32} {zx zx' : XS} {zm zm' : MS} (hI : XI zx) (h : TR zx zm) (hx : RX_X8_feed p0 p1 rx zx zx') (hm : RM_X9_feed p0 p1 rm zm zm') : TR zx' zm' := by
  obtain ⟨⟨t0, t1, t2, t3⟩, q1, q2, q3, q4, q5, q6⟩ := h
  have hb := hI.1
  have hb1 := hI.2.1
  have kx := KQ_X8_feed hx
  have km := KQ_X9_feed hm
  obtain ⟨hpx, kxv0, kxv1, kxv9, kxf0, kxf1, kxf2, kxf4, kxf5, kxf6, kxf7, kxf8, _, _, kwf, kyv, kyf⟩ := hx
  obtain ⟨hpm, kmv1, kmv2, kmv11, kmf0, kmf1, kmf2, kmf3, kmf4, kmf5, kmf6, kmf7, kmf8, kmf9, kmf10, kmf11, kmf12, kmf13, kmf25, kmf26, kmf28, kmf29, kmf30, kmf31⟩ := hm
  refine TR_kq ⟨⟨t0, t1, t2, t3⟩, q1, q2, q3, q4, q5, q6⟩ kx km ?_ ?_
  · rcases hpx with h1 | h1 | h1 <;> rcases hpm with h2 | h2 | h2 <;> omega
  · rw [kxv9, kmv11]; exact t3
theorem ST_rule {p0 rx rm : Int32} {zx zx' : XS} {zm zm' : MS} (hI : XI zx) (h : TR zx zm) (hx : RX_X8_rule p0 rx zx zx') (hm : RM_X9_rule p0 rm zm zm') : TR zx' zm' := by
  obtain ⟨⟨t0, t1, t2, t3⟩, q1, q2, q3, q4, q5, q6⟩ := h
  have hb := hI.1
  have hb1 := hI.2.1
  have kx := KQ_X8_rule hx
  have km := KQ_X9_rule hm
  obtain ⟨hpx, kxv0, kxv1, kxv9, _⟩ := hx
  obtain ⟨hpm, kmv1, kmv2, kmv11, kmf0, kmf1, kmf2, kmf3, kmf4, kmf5, kmf6, kmf7, kmf8, kmf9, kmf10, kmf11, kmf12, kmf13, kmf25, kmf26, kmf28, kmf29, kmf30, kmf31⟩ := hm
  refine TR_kq ⟨⟨t0, t1, t2, t3⟩, q1, q2, q3, q4, q5, q6⟩ kx km ?_ ?_
  · rcases hpx with h1 | h1 <;> rcases hpm with h2 | h2 <;> omega
  · rw [kxv9, kmv11]; exact t3
theorem ST_doubt {p0 rx rm : Int32} {zx zx' : XS} {zm zm' : MS} (hI : XI zx) (h : TR zx zm) (hx : RX_X8_doubt p0 rx zx zx') (hm : RM_X9_doubt p0 rm zm zm') : TR zx' zm' := by
  obtain ⟨⟨t0, t1, t2, t3⟩, q1, q2, q3, q4, q5, q6⟩ := h
  have hb := hI.1
  have hb1 := hI.2.1
  have kx := KQ_X8_doubt hx
  have km := KQ_X9_doubt hm
  obtain ⟨hpx, kxv0, kxv1, kxv4, kxf0, kxf1, kxf2, kxf4, kxf5, kxf6, kxf7, kxf8, _, _, kwf, kyv, kyf⟩ := hx
  obtain ⟨hpm, kmv1, kmv2, kmv4, kmf0, kmf1, kmf2, kmf3, kmf4, kmf5, kmf6, kmf7, kmf8, kmf9, kmf10, kmf11, kmf12, kmf13, kmf25, kmf26, kmf28, kmf29, kmf30, kmf31⟩ := hm
  refine TR_kq ⟨⟨t0, t1, t2, t3⟩, q1, q2, q3, q4, q5, q6⟩ kx km ?_ ?_
  · rw [kxv4, kmv4]; exact t2
  · rcases hpx with h1 | h1 | h1 <;> rcases hpm with h2 | h2 | h2 <;> omega
theorem ST_deal {p0 p1 p2 rx rm : Int32} {zx zx' : XS} {zm zm' : MS} (hI : XI zx) (h : TR zx zm) (hx : RX_X8_deal p0 p1 p2 rx zx zx') (hm : RM_X9_deal p0 p1 p2 rm zm zm') : TR zx' zm' := by
  obtain ⟨⟨t0, t1, t2, t3⟩, q1, q2, q3, q4, q5, q6⟩ := h
  have hb := hI.1
  have hb1 := hI.2.1
  have kx := KQ_X8_deal hx
  have km := KQ_X9_deal hm
  obtain ⟨hpx, kxv0, kxv1, kxv4, kxf0, kxf1, kxf2, kxf4, kxf5, kxf6, kxf7, kxf8, _, _, kwf, kyv, kyf⟩ := hx
  obtain ⟨hpm, kmv1, kmv2, kmv4, kmf0, kmf1, kmf2, kmf3, kmf4, kmf5, kmf6, kmf7, kmf8, kmf9, kmf10, kmf11, kmf12, kmf13, kmf25, kmf26, kmf28, kmf29, kmf30, kmf31⟩ := hm
  refine TR_kq ⟨⟨t0, t1, t2, t3⟩, q1, q2, q3, q4, q5, q6⟩ kx km ?_ ?_
  · rw [kxv4, kmv4]; exact t2
  · rcases hpx with h1 | h1 | h1 <;> rcases hpm with h2 | h2 | h2 <;> omega
end
section
/-! ===== ships: sailing, coming back ===== -/
/-- the rates of the thirty days ahead of today -/
def RLX (s : XS) (p : Int32) : List (Int32 × Int32) := rateL (rXn (xwf s (p).toNatClampNeg 0) (xwf s (p).toNatClampNeg 1) (xwf s (p).toNatClampNeg 2) (xF s 4) (xF s 5) (xF s 6) (xF s 7) (xF s 8) (xV s 1)) (loD (xV s 0)) ((xV s 0).toInt - (loD (xV s 0)).toInt).toNat
theorem RLX_eq {s t : XS} {p : Int32} (h : KFX s t) (e0 : xwf t (p).toNatClampNeg 0 = xwf s (p).toNatClampNeg 0) (e1 : xwf t (p).toNatClampNeg 1 = xwf s (p).toNatClampNeg 1) (e2 : xwf t (p).toNatClampNeg 2 = xwf s (p).toNatClampNeg 2) : RLX t p = RLX s p := by
  obtain ⟨h1, h2, h3, h4, h5, h6, h7, h8, h9, h10, h11, h12⟩ := h
  unfold RLX
  rw [h1, h2, h8, h9, h10, h11, h12, e0, e1, e2]
/-- its error today -/
def ERX (s : XS) (p : Int32) : Int32 := eX (xwf s (p).toNatClampNeg 0) (xwf s (p).toNatClampNeg 1) (xF s 4) (xF s 5) (xF s 6) (xF s 7) (xF s 8) (xV s 1) (xV s 0) (-1)
theorem ERX_eq {s t : XS} {p : Int32} (h : KFX s t) (e0 : xwf t (p).toNatClampNeg 0 = xwf s (p).toNatClampNeg 0) (e1 : xwf t (p).toNatClampNeg 1 = xwf s (p).toNatClampNeg 1) : ERX t p = ERX s p := by
  obtain ⟨h1, h2, h3, h4, h5, h6, h7, h8, h9, h10, h11, h12⟩ := h
  unfold ERX
  rw [h1, h2, h8, h9, h10, h11, h12, e0, e1]
theorem ask3_map {a b c : Int32} {g : Int32 → Int32} : ∀ i : Nat, i < 3 → ask3 (g a) (g b) (g c) i = g (ask3 a b c i)
  | 0, _ => rfl
  | 1, _ => rfl
  | 2, _ => rfl
  | n + 3, h => by omega
/-- a place's watch goes to another holder -/
def WGV (s s' : XS) (v : Int32) (q : Nat) : Prop := xwf s' q 0 = xwf s q 0 ∧ xwf s' q 1 = xwf s q 1 ∧ xwf s' q 2 = xwf s q 2 ∧ GIV (xwf s q 3) (xwf s' q 3) (xV s 0).toInt v
def OTH (s s' : XS) (i : Nat) : Prop := ∀ j : Nat, j ≠ i → xyv s' j = xyv s j ∧ xyf s' j = xyf s j
theorem OTH.tr {s t u : XS} {i : Nat} (h : OTH s t i) (k : OTH t u i) : OTH s u i := fun j hj => ⟨(k j hj).1.trans (h j hj).1, (k j hj).2.trans (h j hj).2⟩
theorem OTH.of {s t : XS} {i : Nat} {gv : Nat → Int32} {gf : Nat → Nat → Int32} (hv : xyv t = va_up (xyv s) i gv) (hf : xyf t = va_up (xyf s) i gf) : OTH s t i := fun j hj => by rw [hv, hf, up_ne hj, up_ne hj]; exact ⟨rfl, rfl⟩
def BRD (p0 k p : Int32) (s s' : XS) : Prop := KFX s s' ∧ (∀ q : Nat, q ≠ (p).toNatClampNeg → xwf s' q = xwf s q) ∧ WGV s s' (100 + p0) (p).toNatClampNeg ∧ OTH s s' (p0).toNatClampNeg ∧ (xyv s' (p0).toNatClampNeg 1 = xyv s (p0).toNatClampNeg 1 ∧ xyv s' (p0).toNatClampNeg 2 = xyv s (p0).toNatClampNeg 2) ∧ xyf s' (p0).toNatClampNeg 0 = upd (xyf s (p0).toNatClampNeg 0) (k).toNatClampNeg p ∧ xyf s' (p0).toNatClampNeg 1 = upd (xyf s (p0).toNatClampNeg 1) (k).toNatClampNeg (ERX s p) ∧ xyf s' (p0).toNatClampNeg 2 = upd (xyf s (p0).toNatClampNeg 2) (k).toNatClampNeg (goX (RLX s p)) ∧ xyf s' (p0).toNatClampNeg 3 = upd (xyf s (p0).toNatClampNeg 3) (k).toNatClampNeg (duX (RLX s p))
theorem BRD_of {p0 k p : Int32} {s s' : XS} (h : RX_X8_board p0 k p s s') (hl : (RLX s p).length ≠ 0) : BRD p0 k p s s' := by
  have hK := KF_X8_board h
  obtain ⟨gw, gv, gf, eyv, eyf, ewf, hpx, kxv0, kxv1, kxv4, kxv9, kxf0, kxf1, kxf2, kxf4, kxf5, kxf6, kxf7, kxf8, _, _, gw0, gw1, gw2, gv0, gv1, gv2, gv3, gf4, gf5, gf6⟩ := h
  rcases hpx with ⟨c, _⟩ | ⟨c, e0, e3, e4, e5, e6⟩
  · exact absurd c hl
  · refine ⟨hK, fun q hq => by rw [ewf, up_ne hq], ?_, OTH.of eyv eyf, ?_, ?_, ?_, ?_, ?_⟩
    · unfold WGV
      rw [ewf, up_at]
      exact ⟨gw0, gw1, gw2, e3⟩
    · rw [eyv, up_at]
      exact ⟨gv1, gv2⟩
    · rw [eyf, up_at]
      exact e0
    · rw [eyf, up_at]
      exact e4
    · rw [eyf, up_at]
      exact e5
    · rw [eyf, up_at]
      exact e6
def SAILED (p0 a b c : Int32) (s s' : XS) : Prop := KFX s s' ∧ (∀ q : Nat, q ≠ (a).toNatClampNeg → q ≠ (b).toNatClampNeg → q ≠ (c).toNatClampNeg → xwf s' q = xwf s q) ∧ (WGV s s' (100 + p0) (a).toNatClampNeg ∧ WGV s s' (100 + p0) (b).toNatClampNeg ∧ WGV s s' (100 + p0) (c).toNatClampNeg) ∧ OTH s s' (p0).toNatClampNeg ∧ (xyv s' (p0).toNatClampNeg 1).toInt = 1 ∧ xyv s' (p0).toNatClampNeg 2 = xV s 0 ∧ (∀ i : Nat, i < 3 → xyf s' (p0).toNatClampNeg 0 i = ask3 a b c i) ∧ (∀ i : Nat, i < 3 → xyf s' (p0).toNatClampNeg 1 i = ERX s (ask3 a b c i) ∧ xyf s' (p0).toNatClampNeg 2 i = goX (RLX s (ask3 a b c i)) ∧ xyf s' (p0).toNatClampNeg 3 i = duX (RLX s (ask3 a b c i)))
theorem ne_cl {a b : Int32} (ha : 0 ≤ a.toInt) (hb : 0 ≤ b.toInt) (h : a.toInt ≠ b.toInt) : (a).toNatClampNeg ≠ (b).toNatClampNeg := by
  have h1 := i_clamp0 ha
  have h2 := i_clamp0 hb
  omega
theorem WGV_l {s t u : XS} {v : Int32} {q : Nat} (h : WGV t u v q) (e : xwf t q = xwf s q) (hV : xV t 0 = xV s 0) : WGV s u v q := by
  unfold WGV at h ⊢
  rw [e, hV] at h
  exact h
theorem WGV_r {s t u : XS} {v : Int32} {q : Nat} (h : WGV s t v q) (e : xwf u q = xwf t q) : WGV s u v q := by
  unfold WGV at h ⊢
  rw [e]
  exact h
theorem SAILED_of {p0 a b c : Int32} {s z1 z2 z3 z4 s' : XS} (hB : XSB p0 a b c) (fa : FITX s a) (fb : FITX s b) (fc : FITX s c) (k1 : KPX s z1) (hL : RX_X5_leave (p0).toNatClampNeg (xV z1 0) z1 z2) (b1 : RX_X8_board p0 0 a z2 z3) (b2 : RX_X8_board p0 1 b z3 z4) (b3 : RX_X8_board p0 2 c z4 s') : SAILED p0 a b c s s' := by
  obtain ⟨h0, ha, hb, hc, nab, nac, nbc⟩ := hB
  have ab := ne_cl ha.1 hb.1 nab
  have ac := ne_cl ha.1 hc.1 nac
  have bc := ne_cl hb.1 hc.1 nbc
  obtain ⟨w1, v1, f1⟩ := KPX_w k1
  have K1 := KFX.of k1
  have K2 := K1.tr (KF_X5_leave hL)
  obtain ⟨gv, gf, eyv, eyf, hpx, kxv0, kxv1, kxv4, kxv9, kxf0, kxf1, kxf2, kxf4, kxf5, kxf6, kxf7, kxf8, _, _, kwf, gv3, gf0, gf1, gf2, gf3, gf4, gf5, gf6⟩ := hL
  have w2 : xwf z2 = xwf s := by rw [kwf, w1]
  have O2 : OTH s z2 (p0).toNatClampNeg := fun j hj => by rw [eyv, eyf, up_ne hj, up_ne hj, v1, f1]; exact ⟨rfl, rfl⟩
  have y1 : (xyv z2 (p0).toNatClampNeg 1).toInt = 1 := by rw [eyv, up_at]; exact hpx.1
  have y2 : xyv z2 (p0).toNatClampNeg 2 = xV s 0 := by rw [eyv, up_at, hpx.2.1]; exact K1.1
  have r1 : (RLX z2 a).length ≠ 0 := by rw [RLX_eq K2 (by rw [w2]) (by rw [w2]) (by rw [w2])]; have := fa.2.2; unfold RLX; omega
  obtain ⟨c1, d1, g1, o1, ⟨u1, u2⟩, p1, pe1, pg1, pd1⟩ := BRD_of b1 r1
  have K3 := K2.tr c1
  have e3b : xwf z3 (b).toNatClampNeg = xwf s (b).toNatClampNeg := by rw [d1 _ ab.symm, w2]
  have r2 : (RLX z3 b).length ≠ 0 := by rw [RLX_eq K3 (by rw [e3b]) (by rw [e3b]) (by rw [e3b])]; have := fb.2.2; unfold RLX; omega
  obtain ⟨c2, d2, g2, o2, ⟨u3, u4⟩, p2, pe2, pg2, pd2⟩ := BRD_of b2 r2
  have K4 := K3.tr c2
  have e4c : xwf z4 (c).toNatClampNeg = xwf s (c).toNatClampNeg := by rw [d2 _ bc.symm, d1 _ ac.symm, w2]
  have r3 : (RLX z4 c).length ≠ 0 := by rw [RLX_eq K4 (by rw [e4c]) (by rw [e4c]) (by rw [e4c])]; have := fc.2.2; unfold RLX; omega
  obtain ⟨c3, d3, g3, o3, ⟨u5, u6⟩, p3, pe3, pg3, pd3⟩ := BRD_of b3 r3
  have K5 := K4.tr c3
  refine ⟨K5, fun q hqa hqb hqc => by rw [d3 q hqc, d2 q hqb, d1 q hqa, w2], ⟨?_, ?_, ?_⟩, ((O2.tr o1).tr o2).tr o3, by rw [u5, u3, u1]; exact y1, by rw [u6, u4, u2]; exact y2, ?_, ?_⟩
  · exact WGV_r (WGV_r (WGV_l g1 (by rw [w2]) K2.1) (d2 _ ab)) (d3 _ ac)
  · exact WGV_r (WGV_l g2 e3b K3.1) (d3 _ bc)
  · exact WGV_l g3 e4c K4.1
  · intro i hi
    rw [p3, p2, p1]
    exact ask_u i hi
  · intro i hi
    have x2 : ERX z2 a = ERX s a ∧ RLX z2 a = RLX s a := ⟨ERX_eq K2 (by rw [w2]) (by rw [w2]), RLX_eq K2 (by rw [w2]) (by rw [w2]) (by rw [w2])⟩
    have x3 : ERX z3 b = ERX s b ∧ RLX z3 b = RLX s b := ⟨ERX_eq K3 (by rw [e3b]) (by rw [e3b]), RLX_eq K3 (by rw [e3b]) (by rw [e3b]) (by rw [e3b])⟩
    have x4 : ERX z4 c = ERX s c ∧ RLX z4 c = RLX s c := ⟨ERX_eq K4 (by rw [e4c]) (by rw [e4c]), RLX_eq K4 (by rw [e4c]) (by rw [e4c]) (by rw [e4c])⟩
    refine ⟨?_, ?_, ?_⟩
    · rw [pe3, pe2, pe1, ask_u i hi, x2.1, x3.1, x4.1]
      exact ask3_map (g := ERX s) i hi
    · rw [pg3, pg2, pg1, ask_u i hi, x2.2, x3.2, x4.2]
      exact ask3_map (g := fun p => goX (RLX s p)) i hi
    · rw [pd3, pd2, pd1, ask_u i hi, x2.2, x3.2, x4.2]
      exact ask3_map (g := fun p => duX (RLX s p)) i hi
def UNL (j : Nat) (e x : Int32) (s s' : XS) : Prop := KFX s s' ∧ (∀ q : Nat, q ≠ (x).toNatClampNeg → xwf s' q = xwf s q) ∧ (xwf s' (x).toNatClampNeg 0 = upd (xwf s (x).toNatClampNeg 0) (xV s 0).toNatClampNeg e ∧ xwf s' (x).toNatClampNeg 1 = upd (xwf s (x).toNatClampNeg 1) (xV s 0).toNatClampNeg 0 ∧ xwf s' (x).toNatClampNeg 2 = xwf s (x).toNatClampNeg 2 ∧ GIV (xwf s (x).toNatClampNeg 3) (xwf s' (x).toNatClampNeg 3) (xV s 0).toInt (-1)) ∧ OTH s s' j ∧ (xyv s' j 1 = xyv s j 1 ∧ xyv s' j 2 = xyv s j 2 ∧ xyv s' j 3 = xyv s j 3) ∧ xyf s' j 0 = xyf s j 0 ∧ (xyf s' j 1 = xyf s j 1 ∧ xyf s' j 2 = xyf s j 2 ∧ xyf s' j 3 = xyf s j 3)
theorem UNL_of {j : Nat} {k e x : Int32} {s s' : XS} (h : RX_X8_unload j k e s s') (hx : xyf s j 0 (k).toNatClampNeg = x) (hw : 0 ≤ x.toInt ∧ x.toInt ≤ 15 ∧ ((xF s 1 (x).toNatClampNeg).toInt = 0 ∨ (xF s 1 (x).toNatClampNeg).toInt = 1)) : UNL j e x s s' := by
  have hK := KF_X8_unload h
  subst hx
  rcases h with h | h
  · obtain ⟨gw, gv, gf, eyv, eyf, ewf, hcx, hpx, kxv0, kxv1, kxv4, kxv9, kxf0, kxf1, kxf2, kxf4, kxf5, kxf6, kxf7, kxf8, _, _, gw2, gv0, gv1, gv2, gv3, gf0, gf1, gf2, gf3, gf5, gf6⟩ := h
    refine ⟨hK, fun q hq => by rw [ewf, up_ne hq], ?_, OTH.of eyv eyf, ?_, ?_, ?_⟩
    · rw [ewf, up_at]
      exact ⟨hpx.1, hpx.2.1, gw2, hpx.2.2⟩
    · rw [eyv, up_at]
      exact ⟨gv1, gv2, gv3⟩
    · rw [eyf, up_at]
      exact gf0
    · rw [eyf, up_at]
      exact ⟨gf1, gf2, gf3⟩
  · obtain ⟨gv, gf, eyv, eyf, hcx, kxv0, kxv1, kxv4, kxv9, kxf0, kxf1, kxf2, kxf4, kxf5, kxf6, kxf7, kxf8, _, _, kwf, gv0, gv1, gv2, gv3, gf0, gf1, gf2, gf3, gf5, gf6⟩ := h
    exact absurd hw hcx
/-- one that is back: told, and the office's -/
def WBK (s s' : XS) (e : Int32) (q : Nat) : Prop := xwf s' q 0 = upd (xwf s q 0) (xV s 0).toNatClampNeg e ∧ xwf s' q 1 = upd (xwf s q 1) (xV s 0).toNatClampNeg 0 ∧ xwf s' q 2 = xwf s q 2 ∧ GIV (xwf s q 3) (xwf s' q 3) (xV s 0).toInt (-1)
theorem WBK_l {s t u : XS} {v : Int32} {q : Nat} (h : WBK t u v q) (e : xwf t q = xwf s q) (hV : xV t 0 = xV s 0) : WBK s u v q := by
  unfold WBK at h ⊢
  rw [e, hV] at h
  exact h
theorem WBK_r {s t u : XS} {v : Int32} {q : Nat} (h : WBK s t v q) (e : xwf u q = xwf t q) : WBK s u v q := by
  unfold WBK at h ⊢
  rw [e]
  exact h
def CAMEB (j : Nat) (a b c x y z : Int32) (s s' : XS) : Prop := KFX s s' ∧ (∀ q : Nat, q ≠ (x).toNatClampNeg → q ≠ (y).toNatClampNeg → q ≠ (z).toNatClampNeg → xwf s' q = xwf s q) ∧ (WBK s s' a (x).toNatClampNeg ∧ WBK s s' b (y).toNatClampNeg ∧ WBK s s' c (z).toNatClampNeg) ∧ OTH s s' j ∧ (xyv s' j 1).toInt = 2 ∧ xyv s' j 2 = xyv s j 2 ∧ xyv s' j 3 = xV s 0 - xyv s j 2 ∧ xyf s' j 0 = xyf s j 0 ∧ (xyf s' j 1 = xyf s j 1 ∧ xyf s' j 2 = xyf s j 2 ∧ xyf s' j 3 = xyf s j 3)
def PLW (s : XS) (x : Int32) : Prop := 0 ≤ x.toInt ∧ x.toInt ≤ 15 ∧ ((xF s 1 (x).toNatClampNeg).toInt = 0 ∨ (xF s 1 (x).toNatClampNeg).toInt = 1)
theorem PLW_kf {s t : XS} {x : Int32} (h : PLW s x) (k : KFX s t) : PLW t x := by
  unfold PLW at h ⊢
  rw [k.2.2.2.2.2.1]
  exact h
theorem CAMEB_of {j : Nat} {a b c x y z : Int32} {s z1 z2 z3 s' : XS} (hx : xyf s j 0 0 = x) (hy : xyf s j 0 1 = y) (hz : xyf s j 0 2 = z) (wx : PLW s x) (wy : PLW s y) (wz : PLW s z) (nxy : x.toInt ≠ y.toInt) (nxz : x.toInt ≠ z.toInt) (nyz : y.toInt ≠ z.toInt) (hC : RX_X5_comeBack j (xV s 0) s z1) (u1 : RX_X8_unload j 0 a z1 z2) (u2 : RX_X8_unload j 1 b z2 z3) (u3 : RX_X8_unload j 2 c z3 s') : CAMEB j a b c x y z s s' := by
  have xy := ne_cl wx.1 wy.1 nxy
  have xz := ne_cl wx.1 wz.1 nxz
  have yz := ne_cl wy.1 wz.1 nyz
  have n0 : (0 : Int32).toNatClampNeg = 0 := by decide
  have n1 : (1 : Int32).toNatClampNeg = 1 := by decide
  have n2 : (2 : Int32).toNatClampNeg = 2 := by decide
  have K1 := KF_X5_comeBack hC
  obtain ⟨gv, gf, eyv, eyf, hpx, kxv0, kxv1, kxv4, kxv9, kxf0, kxf1, kxf2, kxf4, kxf5, kxf6, kxf7, kxf8, _, _, kwf, gv0, gv2, gf0, gf1, gf2, gf3, gf4, gf5, gf6⟩ := hC
  have O1 : OTH s z1 j := OTH.of eyv eyf
  have y1 : (xyv z1 j 1).toInt = 2 := by rw [eyv, up_at]; exact hpx.1
  have y2 : xyv z1 j 2 = xyv s j 2 := by rw [eyv, up_at]; exact gv2
  have y3 : xyv z1 j 3 = xV s 0 - xyv s j 2 := by rw [eyv, up_at]; exact hpx.2
  have f1 : xyf z1 j 0 = xyf s j 0 := by rw [eyf, up_at]; exact gf0
  have h1 : xyf z1 j 1 = xyf s j 1 ∧ xyf z1 j 2 = xyf s j 2 ∧ xyf z1 j 3 = xyf s j 3 := by rw [eyf, up_at]; exact ⟨gf1, gf2, gf3⟩
  obtain ⟨k2, d2, g2, o2, ⟨v21, v22, v23⟩, f2, h2⟩ := UNL_of u1 (x := x) (by rw [f1, n0]; exact hx) (PLW_kf wx K1)
  have K2 := K1.tr k2
  obtain ⟨k3, d3, g3, o3, ⟨v31, v32, v33⟩, f3, h3⟩ := UNL_of u2 (x := y) (by rw [f2, f1, n1]; exact hy) (PLW_kf wy K2)
  have K3 := K2.tr k3
  obtain ⟨k4, d4, g4, o4, ⟨v41, v42, v43⟩, f4, h4⟩ := UNL_of u3 (x := z) (by rw [f3, f2, f1, n2]; exact hz) (PLW_kf wz K3)
  have K4 := K3.tr k4
  refine ⟨K4, fun q q1 q2 q3 => by rw [d4 q q3, d3 q q2, d2 q q1, kwf], ⟨?_, ?_, ?_⟩, ((O1.tr o2).tr o3).tr o4, by rw [v41, v31, v21]; exact y1, by rw [v42, v32, v22]; exact y2, by rw [v43, v33, v23]; exact y3, by rw [f4, f3, f2, f1], by rw [h4.1, h3.1, h2.1, h1.1], by rw [h4.2.1, h3.2.1, h2.2.1, h1.2.1], by rw [h4.2.2, h3.2.2, h2.2.2, h1.2.2]⟩
  · exact WBK_r (WBK_r (WBK_l (s := s) g2 (by rw [kwf]) K1.1) (d3 _ xy)) (d4 _ xz)
  · exact WBK_r (WBK_l (s := s) g3 (by rw [d2 _ xy.symm, kwf]) K2.1) (d4 _ yz)
  · exact WBK_l (s := s) g4 (by rw [d3 _ yz.symm, d2 _ xz.symm, kwf]) K3.1
theorem kd_W {X1 X2 M1 M2 : Nat → Int32} {p : Int32} (h : KK1 X1 X2 M1 M2) (hp : 0 ≤ p.toInt ∧ p.toInt ≤ 15) : ((X1 (p).toNatClampNeg).toInt = 0 ∨ (X1 (p).toNatClampNeg).toInt = 1) ↔ ((M1 (p).toNatClampNeg).toInt ≠ -5 ∧ (M1 (p).toNatClampNeg).toInt ≠ 2) := by
  have h1 := h _ (cl16 hp)
  have h2 := congrArg Int32.toInt h1.1
  have h3 := h1.2.1
  omega
theorem loD_r {t : Int32} (h : 0 ≤ t.toInt ∧ t.toInt ≤ 399) : 0 ≤ (loD t).toInt ∧ (loD t).toInt ≤ t.toInt ∧ t.toInt - (loD t).toInt ≤ 30 := by
  unfold loD
  split
  · have h0 : (0 : Int32).toInt = 0 := by decide
    omega
  · have h3 : (30 : Int32).toInt = 30 := by decide
    rw [g_sub rfl h3 (by omega) (by omega)]
    omega
theorem FIT_may {zx : XS} {zm : MS} {p : Int32} (hI : XI zx) (t0 : (xV zx 0).toInt = (mV zm 1).toInt) (t1 : (xV zx 1).toInt = (mV zm 2).toInt) (q3 : KK3 (xV zx 1) (xF zx 4) (xF zx 5) (xF zx 6) (xF zx 7) (xF zx 8) (mF zm 9) (mF zm 10) (mF zm 11) (mF zm 12) (mF zm 13)) (q4 : KK4 (xV zx 0) (xF zx 1) (xwf zx) (mF zm 3) (mF zm 4) (mF zm 5) (mF zm 6) (mF zm 7) (mF zm 8)) (hp : 0 ≤ p.toInt ∧ p.toInt ≤ 15) (hw : XWK zx p) :
    FITX zx p ↔ (((mF zm 8) (400 * p + (mV zm 1)).toNatClampNeg).toInt = -1 ∧ ((mF zm 3) (400 * p + (mV zm 1)).toNatClampNeg).toInt ≠ 0 ∧ (mV zm 1).toInt ≠ 0 ∧ 2 ≤ cntF (fun d => ratF (mF zm 3) (mF zm 4) (mF zm 5) (mF zm 6) (mF zm 7) (mF zm 9) (mF zm 10) (mF zm 11) (mF zm 12) (mF zm 13) (mV zm 2) p d (-1)) (loD (mV zm 1)) ((mV zm 1).toInt - (loD (mV zm 1)).toInt).toNat) := by
  have hb := hI.1
  have hb1 := hI.2.1
  have hta := i_eq.mpr t0
  rw [← hta]
  unfold FITX
  have hw4 := q4 _ (cl16 hp) hw
  have hct := i_clamp0 hb.1
  rw [ix400 hp hb]
  have hh := congrArg Int32.toInt (hw4.2.1 (xV zx 0).toNatClampNeg (by omega) (by omega))
  have hd := (hw4.1 (xV zx 0).toNatClampNeg (by omega)).1
  have hlo := loD_r hb
  have hm1 : (-1 : Int32).toInt = -1 := by decide
  have hl := rateL_cnt (A := rXn (xwf zx (p).toNatClampNeg 0) (xwf zx (p).toNatClampNeg 1) (xwf zx (p).toNatClampNeg 2) (xF zx 4) (xF zx 5) (xF zx 6) (xF zx 7) (xF zx 8) (xV zx 1)) (B := fun d => ratF (mF zm 3) (mF zm 4) (mF zm 5) (mF zm 6) (mF zm 7) (mF zm 9) (mF zm 10) (mF zm 11) (mF zm 12) (mF zm 13) (mV zm 2) p d (-1)) (p := loD (xV zx 0)) ((xV zx 0).toInt - (loD (xV zx 0)).toInt).toNat (fun j hj => by
    have hd2 := pnI (p := loD (xV zx 0)) (j := j) (n := 399) hlo.1 (by omega) (by omega)
    exact rX_rat hp (d := loD (xV zx 0) + nI j) (by omega) (by omega) t1 hb1 q3 hw4.1)
  have hz : (xV zx 0).toInt = 0 → ((rateL (rXn (xwf zx (p).toNatClampNeg 0) (xwf zx (p).toNatClampNeg 1) (xwf zx (p).toNatClampNeg 2) (xF zx 4) (xF zx 5) (xF zx 6) (xF zx 7) (xF zx 8) (xV zx 1)) (loD (xV zx 0)) ((xV zx 0).toInt - (loD (xV zx 0)).toInt).toNat).length = 0) := fun h0 => by
    rw [show ((xV zx 0).toInt - (loD (xV zx 0)).toInt).toNat = 0 by omega]
    rfl
  generalize (rateL (rXn (xwf zx (p).toNatClampNeg 0) (xwf zx (p).toNatClampNeg 1) (xwf zx (p).toNatClampNeg 2) (xF zx 4) (xF zx 5) (xF zx 6) (xF zx 7) (xF zx 8) (xV zx 1)) (loD (xV zx 0)) ((xV zx 0).toInt - (loD (xV zx 0)).toInt).toNat).length = len at hl hz ⊢
  rw [← hl]
  constructor
  · intro h
    refine ⟨by omega, ?_, fun h0 => by have := hz h0; omega, by omega⟩
    rcases hd with g | g
    · omega
    · exact g.1
  · intro h
    refine ⟨by omega, ?_, by omega⟩
    rcases hd with g | g
    · omega
    · omega
theorem u3v {f : Nat → Int32} {i j k n : Nat} {v : Int32} (h : n = i ∨ n = j ∨ n = k) : upd (upd (upd f i v) j v) k v n = v := by
  by_cases e : n = k
  · rw [e, u_at]
  · rw [u_ne e]
    by_cases e2 : n = j
    · rw [e2, u_at]
    · rw [u_ne e2, show n = i by omega, u_at]
theorem u3n {f : Nat → Int32} {i j k n : Nat} {u v w : Int32} (h1 : n ≠ i) (h2 : n ≠ j) (h3 : n ≠ k) : upd (upd (upd f i u) j v) k w n = f n := by rw [u_ne h3, u_ne h2, u_ne h1]
theorem u3_0 {f : Nat → Int32} {i j k : Nat} {u v w : Int32} (h2 : i ≠ j) (h3 : i ≠ k) : upd (upd (upd f i u) j v) k w i = u := by rw [u_ne h3, u_ne h2, u_at]
theorem u3_1 {f : Nat → Int32} {i j k : Nat} {u v w : Int32} (h3 : j ≠ k) : upd (upd (upd f i u) j v) k w j = v := by rw [u_ne h3, u_at]
theorem u3_2 {f : Nat → Int32} {i j k : Nat} {u v w : Int32} : upd (upd (upd f i u) j v) k w k = w := u_at
theorem WD3 {g h : Nat → Nat → Int32} {M3 M4 M5 M6 M7 : Nat → Int32} {p d : Nat} (hw : WD h M3 M4 M5 M6 M7 p d) (e0 : g 0 = h 0) (e1 : g 1 = h 1) (e2 : g 2 = h 2) : WD g M3 M4 M5 M6 M7 p d := by
  unfold WD at hw ⊢
  rw [e0, e1, e2]
  exact hw
theorem KK4_3 {t : Int32} {X1 : Nat → Int32} {wf wf' : Nat → Nat → Nat → Int32} {M3 M4 M5 M6 M7 M8 N3 N4 N5 N8 : Nat → Int32} {A B C : Nat} (h : KK4 t X1 wf M3 M4 M5 M6 M7 M8) (hw : ∀ q : Nat, q ≠ A → q ≠ B → q ≠ C → wf' q = wf q)
    (hs : ∀ q d : Nat, q ≠ A → q ≠ B → q ≠ C → d < 400 → N3 (400 * q + d) = M3 (400 * q + d) ∧ N4 (400 * q + d) = M4 (400 * q + d) ∧ N5 (400 * q + d) = M5 (400 * q + d) ∧ N8 (400 * q + d) = M8 (400 * q + d))
    (hn : ∀ q : Nat, q = A ∨ q = B ∨ q = C → q < 16 → isW (X1 q) → (∀ d : Nat, d < 400 → WD (wf' q) N3 N4 N5 M6 M7 q d) ∧ WHd (wf' q) N8 t.toInt q) : KK4 t X1 wf' N3 N4 N5 M6 M7 N8 := fun q hq hk => by
  by_cases e : q = A ∨ q = B ∨ q = C
  · exact hn q e hq hk
  · rw [hw q (by omega) (by omega) (by omega)]
    obtain ⟨a1, a2, a3⟩ := h q hq hk
    refine ⟨fun d hd => ?_, fun d hd1 hd2 => ?_, a3⟩
    · obtain ⟨b3, b4, b5, b8⟩ := hs q d (by omega) (by omega) (by omega) hd
      exact WD_eq (a1 d hd) b3 b4 b5 rfl rfl
    · rw [(hs q d (by omega) (by omega) (by omega) hd2).2.2.2]
      exact a2 d hd1 hd2
theorem KK4_sail {zx zx' : XS} {p0 a b c : Int32} {M3 M4 M5 M6 M7 M8 : Nat → Int32} (h : KK4 (xV zx 0) (xF zx 1) (xwf zx) M3 M4 M5 M6 M7 M8) (hb : 0 ≤ (xV zx 0).toInt ∧ (xV zx 0).toInt ≤ 399) (hc : XSB p0 a b c) (hw : ∀ q : Nat, q ≠ (a).toNatClampNeg → q ≠ (b).toNatClampNeg → q ≠ (c).toNatClampNeg → xwf zx' q = xwf zx q) (ga : WGV zx zx' (100 + p0) (a).toNatClampNeg) (gb : WGV zx zx' (100 + p0) (b).toNatClampNeg) (gc : WGV zx zx' (100 + p0) (c).toNatClampNeg) :
    KK4 (xV zx 0) (xF zx 1) (xwf zx') M3 M4 M5 M6 M7 (hseq M8 (ask3 a b c) (xV zx 0) (100 + p0) 3) := by
  obtain ⟨h0, ha, hbb, hcc, nab, nac, nbc⟩ := hc
  have ct := i_clamp0 hb.1
  have e : hseq M8 (ask3 a b c) (xV zx 0) (100 + p0) 3 = upd (upd (upd M8 (400 * (a).toNatClampNeg + (xV zx 0).toNatClampNeg) (100 + p0)) (400 * (b).toNatClampNeg + (xV zx 0).toNatClampNeg) (100 + p0)) (400 * (c).toNatClampNeg + (xV zx 0).toNatClampNeg) (100 + p0) := by
    rw [← ix400 ha hb, ← ix400 hbb hb, ← ix400 hcc hb]
    rfl
  rw [e]
  refine KK4_3 h hw (fun q d h1 h2 h3 hd => ⟨rfl, rfl, rfl, u3n (by omega) (by omega) (by omega)⟩) (fun q hq h16 hk => ?_)
  have hg : WGV zx zx' (100 + p0) q := by
    rcases hq with e | e | e
    · rw [e]; exact ga
    · rw [e]; exact gb
    · rw [e]; exact gc
  obtain ⟨e0, e1, e2, e3⟩ := hg
  obtain ⟨a1, a2⟩ := h q h16 hk
  refine ⟨fun d hd => WD3 (a1 d hd) e0 e1 e2, WH_give hb a2 e3 ?_ (fun d hd hne => ?_)⟩
  · rw [show (xV zx 0).toInt.toNat = (xV zx 0).toNatClampNeg from rfl]
    exact u3v (by omega)
  · rw [show (xV zx 0).toInt.toNat = (xV zx 0).toNatClampNeg from rfl] at hne
    exact u3n (by omega) (by omega) (by omega)
theorem SP_o {t : Int} {X1 : Nat → Int32} {wf wf' : Nat → Nat → Nat → Int32} {j : Nat} {x : Int32} (h : SP t X1 wf j x) (e : wf' (x).toNatClampNeg = wf (x).toNatClampNeg) : SP t X1 wf' j x := by
  obtain ⟨a1, a2, a3⟩ := h
  exact ⟨a1, a2, by rw [e]; exact a3⟩
theorem KK5_sail {zx zx' : XS} {p0 a b c : Int32} {M25 M26 M28 : Nat → Int32} (h : KK5 (xV zx 0) (xF zx 1) (xwf zx) (xyv zx) (xyf zx) M25 M26 M28) (hb : 0 ≤ (xV zx 0).toInt ∧ (xV zx 0).toInt ≤ 399) (hc : XSB p0 a b c) (wa : XWK zx a) (wb : XWK zx b) (wc : XWK zx c) (fa : ((xwf zx (a).toNatClampNeg 3) ((xV zx 0)).toNatClampNeg).toInt = -1) (fb : ((xwf zx (b).toNatClampNeg 3) ((xV zx 0)).toNatClampNeg).toInt = -1) (fc : ((xwf zx (c).toNatClampNeg 3) ((xV zx 0)).toNatClampNeg).toInt = -1)
    (hw : ∀ q : Nat, q ≠ (a).toNatClampNeg → q ≠ (b).toNatClampNeg → q ≠ (c).toNatClampNeg → xwf zx' q = xwf zx q) (ga : WGV zx zx' (100 + p0) (a).toNatClampNeg) (gb : WGV zx zx' (100 + p0) (b).toNatClampNeg) (gc : WGV zx zx' (100 + p0) (c).toNatClampNeg) (ho : OTH zx zx' (p0).toNatClampNeg) (hy1 : (xyv zx' (p0).toNatClampNeg 1).toInt = 1) (hy2 : xyv zx' (p0).toNatClampNeg 2 = xV zx 0) (hy3 : ∀ i : Nat, i < 3 → xyf zx' (p0).toNatClampNeg 0 i = ask3 a b c i) :
    KK5 (xV zx 0) (xF zx 1) (xwf zx') (xyv zx') (xyf zx') (upd M25 (p0).toNatClampNeg 1) (upd M26 (p0).toNatClampNeg (xV zx 0)) (cseq M28 (ask3 a b c) p0 3) := by
  obtain ⟨h0, ha, hbb, hcc, nab, nac, nbc⟩ := hc
  have ec : cseq M28 (ask3 a b c) p0 3 = upd (upd (upd M28 (3 * (p0).toNatClampNeg + 0) a) (3 * (p0).toNatClampNeg + 1) b) (3 * (p0).toNatClampNeg + 2) c := rfl
  rw [ec]
  have c0 := i_clamp0 h0.1
  have h100 : (100 + p0).toInt = 100 + p0.toInt := by
    have h1 : (100 : Int32).toInt = 100 := by decide
    exact g_add h1 rfl (by omega) (by omega)
  intro j hj
  by_cases e : j = (p0).toNatClampNeg
  · subst e
    have hol : ∀ x : Int32, WGV zx zx' (100 + p0) (x).toNatClampNeg → (xwf zx' (x).toNatClampNeg 3 (xV zx 0).toInt.toNat).toInt = 100 + ((p0).toNatClampNeg : Int) := fun x hg => by
      rw [hg.2.2.2 (xV zx 0).toInt.toNat (by omega), if_pos (by omega), h100]
      omega
    refine ⟨?_, Or.inr (Or.inl hy1), fun _ => ⟨?_, fun i hi => ?_⟩, fun _ => ⟨?_, fun i hi => ?_, ?_, ?_, ?_⟩⟩
    · rw [u_at]
      exact i_eq.mpr (by rw [hy1]; decide)
    · rw [u_at]; exact hy2
    · rw [hy3 i hi]
      rcases (show i = 0 ∨ i = 1 ∨ i = 2 by omega) with rfl | rfl | rfl
      · rw [u3_0 (by omega) (by omega)]; rfl
      · rw [u3_1 (by omega)]; rfl
      · rw [u3_2]; rfl
    · rw [hy2]; omega
    · rw [hy3 i hi]
      rcases (show i = 0 ∨ i = 1 ∨ i = 2 by omega) with rfl | rfl | rfl
      · exact ⟨ha, wa, hol a ga⟩
      · exact ⟨hbb, wb, hol b gb⟩
      · exact ⟨hcc, wc, hol c gc⟩
    · rw [hy3 0 (by decide), hy3 1 (by decide)]; exact nab
    · rw [hy3 0 (by decide), hy3 2 (by decide)]; exact nac
    · rw [hy3 1 (by decide), hy3 2 (by decide)]; exact nbc
  · obtain ⟨a1, a2, a3, a4⟩ := h j hj
    rw [(ho j e).1, (ho j e).2]
    refine ⟨by rw [u_ne e]; exact a1, a2, fun q => ⟨by rw [u_ne e]; exact (a3 q).1, fun i hi => ?_⟩, fun q => ?_⟩
    · rw [u3n (by omega) (by omega) (by omega)]; exact (a3 q).2 i hi
    · obtain ⟨b1, b2, b3⟩ := a4 q
      refine ⟨b1, fun i hi => ?_, b3⟩
      have hs := b2 i hi
      refine SP_o hs (hw _ (SP_h hs ?_) (SP_h hs ?_) (SP_h hs ?_))
      · rw [show (xV zx 0).toInt.toNat = (xV zx 0).toNatClampNeg from rfl]; omega
      · rw [show (xV zx 0).toInt.toNat = (xV zx 0).toNatClampNeg from rfl]; omega
      · rw [show (xV zx 0).toInt.toNat = (xV zx 0).toNatClampNeg from rfl]; omega
theorem ix3 {p : Int32} (hp : 0 ≤ p.toInt ∧ p.toInt ≤ 4) (k : Int32) (hk : 0 ≤ k.toInt ∧ k.toInt ≤ 2) : (3 * p + k).toNatClampNeg = 3 * (p).toNatClampNeg + (k).toNatClampNeg := by
  have h3 : (3 : Int32).toInt = 3 := by decide
  have e1 : (3 * p).toInt = 3 * p.toInt := g_mul h3 rfl (by omega) (by omega)
  have e2 : (3 * p + k).toInt = 3 * p.toInt + k.toInt := g_add e1 rfl (by omega) (by omega)
  have c0 := i_clamp0 (x := 3 * p + k) (by omega)
  have c1 := i_clamp0 hp.1
  have c2 := i_clamp0 hk.1
  omega
/-- a comparison of today, and the office's from today on -/
theorem back_one {zx zx' : XS} {e : Int32} {M3 M4 M5 M6 M7 M8 N3 N4 N5 N8 : Nat → Int32} {q : Nat} (hb : 0 ≤ (xV zx 0).toInt ∧ (xV zx 0).toInt ≤ 399) (he : -100000 ≤ e.toInt ∧ e.toInt ≤ 100000) (h : (∀ d : Nat, d < 400 → WD (xwf zx q) M3 M4 M5 M6 M7 q d) ∧ WHd (xwf zx q) M8 (xV zx 0).toInt q) (g : WBK zx zx' e q)
    (h3 : (N3 (400 * q + (xV zx 0).toNatClampNeg)).toInt ≠ 0) (h4 : N4 (400 * q + (xV zx 0).toNatClampNeg) = e) (h5 : N5 (400 * q + (xV zx 0).toNatClampNeg) = 0) (h8 : N8 (400 * q + (xV zx 0).toNatClampNeg) = -1)
    (hs : ∀ d : Nat, d < 400 → d ≠ (xV zx 0).toNatClampNeg → N3 (400 * q + d) = M3 (400 * q + d) ∧ N4 (400 * q + d) = M4 (400 * q + d) ∧ N5 (400 * q + d) = M5 (400 * q + d) ∧ N8 (400 * q + d) = M8 (400 * q + d)) :
    (∀ d : Nat, d < 400 → WD (xwf zx' q) N3 N4 N5 M6 M7 q d) ∧ WHd (xwf zx' q) N8 (xV zx 0).toInt q := by
  obtain ⟨g0, g1, g2, g3⟩ := g
  obtain ⟨a1, a2⟩ := h
  refine ⟨fun d hd => ?_, WH_give hb a2 g3 h8 (fun d hd hne => (hs d hd hne).2.2.2)⟩
  obtain ⟨b1, b2, b3⟩ := a1 d hd
  by_cases e2 : d = (xV zx 0).toNatClampNeg
  · subst e2
    unfold WD
    rw [g0, g1, g2, u_at, u_at, h4, h5]
    exact ⟨Or.inr ⟨h3, rfl, by decide, rfl, he⟩, b2, b3⟩
  · obtain ⟨c3, c4, c5, c8⟩ := hs d hd e2
    unfold WD
    rw [g0, g1, g2, u_ne e2, u_ne e2, c3, c4, c5]
    exact ⟨b1, b2, b3⟩
theorem KK4_back {zx zx' : XS} {p0 a b c x y z : Int32} {M3 M4 M5 M6 M7 M8 : Nat → Int32} {j : Nat} (h : KK4 (xV zx 0) (xF zx 1) (xwf zx) M3 M4 M5 M6 M7 M8) (hb : 0 ≤ (xV zx 0).toInt ∧ (xV zx 0).toInt ≤ 399) (hc : XBB p0 a b c) (w0 : SP (xV zx 0).toInt (xF zx 1) (xwf zx) j x) (w1 : SP (xV zx 0).toInt (xF zx 1) (xwf zx) j y) (w2 : SP (xV zx 0).toInt (xF zx 1) (xwf zx) j z) (nxy : x.toInt ≠ y.toInt) (nxz : x.toInt ≠ z.toInt) (nyz : y.toInt ≠ z.toInt)
    (hw : ∀ q : Nat, q ≠ (x).toNatClampNeg → q ≠ (y).toNatClampNeg → q ≠ (z).toNatClampNeg → xwf zx' q = xwf zx q) (ga : WBK zx zx' a (x).toNatClampNeg) (gb : WBK zx zx' b (y).toNatClampNeg) (gc : WBK zx zx' c (z).toNatClampNeg) :
    KK4 (xV zx 0) (xF zx 1) (xwf zx') (upd (upd (upd M3 (400 * x + xV zx 0).toNatClampNeg 1) (400 * y + xV zx 0).toNatClampNeg 1) (400 * z + xV zx 0).toNatClampNeg 1) (upd (upd (upd M4 (400 * x + xV zx 0).toNatClampNeg a) (400 * y + xV zx 0).toNatClampNeg b) (400 * z + xV zx 0).toNatClampNeg c) (upd (upd (upd M5 (400 * x + xV zx 0).toNatClampNeg 0) (400 * y + xV zx 0).toNatClampNeg 0) (400 * z + xV zx 0).toNatClampNeg 0) M6 M7 (upd (upd (upd M8 (400 * x + xV zx 0).toNatClampNeg (-1)) (400 * y + xV zx 0).toNatClampNeg (-1)) (400 * z + xV zx 0).toNatClampNeg (-1)) := by
  have xy := ne_cl w0.1.1 w1.1.1 nxy
  have xz := ne_cl w0.1.1 w2.1.1 nxz
  have yz := ne_cl w1.1.1 w2.1.1 nyz
  have ct := i_clamp0 hb.1
  rw [ix400 w0.1 hb, ix400 w1.1 hb, ix400 w2.1 hb]
  refine KK4_3 h hw (fun q d h1 h2 h3 hd => ⟨u3n (by omega) (by omega) (by omega), u3n (by omega) (by omega) (by omega), u3n (by omega) (by omega) (by omega), u3n (by omega) (by omega) (by omega)⟩) (fun q hq h16 hk => ?_)
  have hsame : ∀ d : Nat, d < 400 → d ≠ (xV zx 0).toNatClampNeg → ∀ (f : Nat → Int32) (u v w : Int32), upd (upd (upd f (400 * (x).toNatClampNeg + (xV zx 0).toNatClampNeg) u) (400 * (y).toNatClampNeg + (xV zx 0).toNatClampNeg) v) (400 * (z).toNatClampNeg + (xV zx 0).toNatClampNeg) w (400 * q + d) = f (400 * q + d) := fun d hd hne f u v w => u3n (by omega) (by omega) (by omega)
  have hone : (1 : Int32).toInt ≠ 0 := by decide
  rcases hq with e | e | e
  · subst e
    exact back_one hb hc.2.1 (h _ h16 hk) ga (by rw [u3_0 (by omega) (by omega)]; exact hone) (u3_0 (by omega) (by omega)) (u3_0 (by omega) (by omega)) (u3_0 (by omega) (by omega)) (fun d hd hne => ⟨hsame d hd hne _ _ _ _, hsame d hd hne _ _ _ _, hsame d hd hne _ _ _ _, hsame d hd hne _ _ _ _⟩)
  · subst e
    exact back_one hb hc.2.2.1 (h _ h16 hk) gb (by rw [u3_1 (by omega)]; exact hone) (u3_1 (by omega)) (u3_1 (by omega)) (u3_1 (by omega)) (fun d hd hne => ⟨hsame d hd hne _ _ _ _, hsame d hd hne _ _ _ _, hsame d hd hne _ _ _ _, hsame d hd hne _ _ _ _⟩)
  · subst e
    exact back_one hb hc.2.2.2 (h _ h16 hk) gc (by rw [u3_2]; exact hone) u3_2 u3_2 u3_2 (fun d hd hne => ⟨hsame d hd hne _ _ _ _, hsame d hd hne _ _ _ _, hsame d hd hne _ _ _ _, hsame d hd hne _ _ _ _⟩)
theorem KK5_back {zx zx' : XS} {M25 M26 M28 : Nat → Int32} {x y z : Int32} {i : Nat} (h : KK5 (xV zx 0) (xF zx 1) (xwf zx) (xyv zx) (xyf zx) M25 M26 M28) (hb : 0 ≤ (xV zx 0).toInt ∧ (xV zx 0).toInt ≤ 399) (hi : i < 5) (w0 : SP (xV zx 0).toInt (xF zx 1) (xwf zx) i x) (w1 : SP (xV zx 0).toInt (xF zx 1) (xwf zx) i y) (w2 : SP (xV zx 0).toInt (xF zx 1) (xwf zx) i z)
    (hw : ∀ q : Nat, q ≠ (x).toNatClampNeg → q ≠ (y).toNatClampNeg → q ≠ (z).toNatClampNeg → xwf zx' q = xwf zx q) (ho : OTH zx zx' i) (hy1 : (xyv zx' i 1).toInt = 2) (hy2 : xyv zx' i 2 = xyv zx i 2) (hy4 : xyf zx' i 0 = xyf zx i 0) (h1 : (xyv zx i 1).toInt = 1) :
    KK5 (xV zx 0) (xF zx 1) (xwf zx') (xyv zx') (xyf zx') (upd M25 i 2) M26 M28 := by
  intro j hj
  obtain ⟨a1, a2, a3, a4⟩ := h j hj
  by_cases e : j = i
  · subst e
    refine ⟨by rw [u_at]; exact i_eq.mpr (by rw [hy1]; decide), Or.inr (Or.inr hy1), fun _ => ?_, fun q => by omega⟩
    rw [hy2, hy4]
    exact a3 (by omega)
  · rw [(ho j e).1, (ho j e).2]
    refine ⟨by rw [u_ne e]; exact a1, a2, a3, fun q => ?_⟩
    obtain ⟨b1, b2, b3⟩ := a4 q
    refine ⟨b1, fun k hk => ?_, b3⟩
    have hs := b2 k hk
    have hne : ∀ v : Int32, SP (xV zx 0).toInt (xF zx 1) (xwf zx) i v → (xyf zx j 0 k).toNatClampNeg ≠ (v).toNatClampNeg := fun v hv he => by
      have g1 := hs.2.2
      have g2 := hv.2.2
      rw [he] at g1
      omega
    exact SP_o hs (hw _ (hne x w0) (hne y w1) (hne z w2))
/-- the nine sums are the same -/
theorem law9 {zx : XS} {zm : MS} {p p1 p2 : Int32} (hp : 0 ≤ p.toInt ∧ p.toInt ≤ 15) (hs : 0 ≤ p1.toInt ∧ p2.toInt ≤ 399 ∧ p1.toInt < p2.toInt ∧ p2.toInt - p1.toInt ≤ 60) (q1 : KK1 (xF zx 1) (xF zx 2) (mF zm 1) (mF zm 2)) (q2 : KK2 (xF zx 0) (mF zm 0)) (q3 : KK3 (xV zx 1) (xF zx 4) (xF zx 5) (xF zx 6) (xF zx 7) (xF zx 8) (mF zm 9) (mF zm 10) (mF zm 11) (mF zm 12) (mF zm 13)) (hb1 : 0 ≤ (xV zx 1).toInt ∧ (xV zx 1).toInt ≤ 60) (t1 : (xV zx 1).toInt = (mV zm 2).toInt) (hw : ∀ d : Nat, d < 400 → WD (xwf zx (p).toNatClampNeg) (mF zm 3) (mF zm 4) (mF zm 5) (mF zm 6) (mF zm 7) (p).toNatClampNeg d) :
    fold9 (fun d => wmF (xF zx 1) (xF zx 2) (xF zx 0) p d) (fun d => agX (xwf zx (p).toNatClampNeg 2) d) (-100) (rateL (rXn (xwf zx (p).toNatClampNeg 0) (xwf zx (p).toNatClampNeg 1) (xwf zx (p).toNatClampNeg 2) (xF zx 4) (xF zx 5) (xF zx 6) (xF zx 7) (xF zx 8) (xV zx 1)) p1 (p2.toInt - p1.toInt).toNat)
    = fold9 (fun d => wmF (mF zm 1) (mF zm 2) (mF zm 0) p d) (fun d => agI (mF zm 6) (400 * p.toInt).toNat d) (-1000) (rateL (fun d => ratF (mF zm 3) (mF zm 4) (mF zm 5) (mF zm 6) (mF zm 7) (mF zm 9) (mF zm 10) (mF zm 11) (mF zm 12) (mF zm 13) (mV zm 2) p d (-1)) p1 (p2.toInt - p1.toInt).toNat) := by
  have hm1 : (-1 : Int32).toInt = -1 := by decide
  have hcp := i_clamp0 hp.1
  have hl := rateL_congr (A := rXn (xwf zx (p).toNatClampNeg 0) (xwf zx (p).toNatClampNeg 1) (xwf zx (p).toNatClampNeg 2) (xF zx 4) (xF zx 5) (xF zx 6) (xF zx 7) (xF zx 8) (xV zx 1)) (B := fun d => ratF (mF zm 3) (mF zm 4) (mF zm 5) (mF zm 6) (mF zm 7) (mF zm 9) (mF zm 10) (mF zm 11) (mF zm 12) (mF zm 13) (mV zm 2) p d (-1)) (p := p1) (p2.toInt - p1.toInt).toNat (fun j hj => by
    have hd2 := pnI (p := p1) (j := j) (n := 399) hs.1 (by omega) (by omega)
    exact rX_rat hp (d := p1 + nI j) (by omega) (by omega) t1 hb1 q3 hw)
  rw [hl]
  refine fold9_rel _ _ (fun x hx => ?_)
  obtain ⟨j, hj, ej⟩ := rateL_days _ x hx
  have hd2 := pnI (p := p1) (j := j) (n := 399) hs.1 (by omega) (by omega)
  rw [← ej] at hd2
  have hk := q1 _ (cl16 hp)
  have hd4 : (x.1).toNatClampNeg < 400 := cl400 (by omega)
  have hww := q2 _ hd4
  refine ⟨?_, ?_⟩
  · (try dsimp only)
    unfold wmF
    rw [← hk.1, ← hk.2.2.1]
    by_cases b : (xF zx 1 (p).toNatClampNeg).toInt = 1
    · rw [if_pos b, if_pos b]
      have := hk.2.2.2 b
      exact Or.inr ⟨by omega, by omega, rfl⟩
    · rw [if_neg b, if_neg b]
      rcases hww with ⟨g1, g2⟩ | ⟨g1, g2⟩
      · exact Or.inl ⟨g1, g2⟩
      · rw [← g1]
        exact Or.inr ⟨by omega, by omega, rfl⟩
  · (try dsimp only)
    unfold agX agI
    rw [ageN_M (p := (p).toNatClampNeg) (M6 := mF zm 6) (x.1).toInt.toNat (by omega) (fun k hk9 => (hw k hk9).2.1), show 400 * (p).toNatClampNeg = (400 * p.toInt).toNat by omega]

theorem rbX_r {f2 : Nat → Int32} {day e e2 : Int32} (h : (rbX f2 day e e2).toInt ≠ -2000000000) : -999 ≤ (rbX f2 day e e2).toInt ∧ (rbX f2 day e e2).toInt ≤ 999 := by
  have hv : (-2000000000 : Int32).toInt = -2000000000 := by decide
  unfold rbX at h ⊢
  split at h
  · exact absurd hv h
  · rename_i c
    rw [if_neg c]
    split at h
    · exact absurd hv h
    · rename_i c2
      rw [if_neg c2]
      omega
theorem rateL_vals {R : Int32 → Int32} {p : Int32} : ∀ (n : Nat) (x : Int32 × Int32), x ∈ rateL R p n → x.2 = R x.1 ∧ (R x.1).toInt ≠ -2000000000
  | 0, x, h => by cases h
  | n + 1, x, h => by
    rw [rateL_succ] at h
    split at h
    · exact rateL_vals n x h
    · rename_i c
      rcases List.mem_append.mp h with h | h
      · exact rateL_vals n x h
      · rw [List.mem_singleton] at h
        rw [h]
        exact ⟨rfl, c⟩
/-- the nine sums are those of whole numbers within bounds -/
theorem law9R {zx : XS} {zm : MS} {p p1 p2 : Int32} (hp : 0 ≤ p.toInt ∧ p.toInt ≤ 15) (hs : 0 ≤ p1.toInt ∧ p2.toInt ≤ 399 ∧ p1.toInt < p2.toInt ∧ p2.toInt - p1.toInt ≤ 60) (q1 : KK1 (xF zx 1) (xF zx 2) (mF zm 1) (mF zm 2)) (q2 : KK2 (xF zx 0) (mF zm 0)) (q3 : KK3 (xV zx 1) (xF zx 4) (xF zx 5) (xF zx 6) (xF zx 7) (xF zx 8) (mF zm 9) (mF zm 10) (mF zm 11) (mF zm 12) (mF zm 13)) (hb1 : 0 ≤ (xV zx 1).toInt ∧ (xV zx 1).toInt ≤ 60) (t1 : (xV zx 1).toInt = (mV zm 2).toInt) (hw : ∀ d : Nat, d < 400 → WD (xwf zx (p).toNatClampNeg) (mF zm 3) (mF zm 4) (mF zm 5) (mF zm 6) (mF zm 7) (p).toNatClampNeg d) :
    ∃ t, R9 (fold9 (fun d => wmF (xF zx 1) (xF zx 2) (xF zx 0) p d) (fun d => agX (xwf zx (p).toNatClampNeg 2) d) (-100) (rateL (rXn (xwf zx (p).toNatClampNeg 0) (xwf zx (p).toNatClampNeg 1) (xwf zx (p).toNatClampNeg 2) (xF zx 4) (xF zx 5) (xF zx 6) (xF zx 7) (xF zx 8) (xV zx 1)) p1 (p2.toInt - p1.toInt).toNat)) t ∧ okT t ∧ t.length ≤ 60 := by
  have hcp := i_clamp0 hp.1
  refine R9_fold (Nat.le_trans (rateL_len _ _ _) (by omega)) (fun x hx => ?_)
  obtain ⟨j, hj, ej⟩ := rateL_days _ x hx
  obtain ⟨v1, v2⟩ := rateL_vals _ x hx
  have hd2 := pnI (p := p1) (j := j) (n := 399) hs.1 (by omega) (by omega)
  rw [← ej] at hd2
  have hk := q1 _ (cl16 hp)
  have hd4 : (x.1).toNatClampNeg < 400 := cl400 (by omega)
  have hww := q2 _ hd4
  refine ⟨?_, ?_, ?_⟩
  · rw [v1]
    exact rbX_r v2
  · (try dsimp only)
    unfold wmF
    by_cases b : (xF zx 1 (p).toNatClampNeg).toInt = 1
    · rw [if_pos b]
      exact Or.inr (hk.2.2.2 b)
    · rw [if_neg b]
      rcases hww with ⟨g1, g2⟩ | ⟨g1, g2⟩
      · exact Or.inl g1
      · exact Or.inr g2
  · (try dsimp only)
    have hr := ageN_r (xwf zx (p).toNatClampNeg 2) (x.1).toInt.toNat
    unfold agX
    rw [nI_toInt (by omega)]
    omega
theorem KK6_oth {zx zx' : XS} {i : Nat} {M29 M30 M31 : Nat → Int32} (h : KK6 (xyf zx) M29 M30 M31) (ho : OTH zx zx' i) (h5 : xyf zx' i 1 = xyf zx i 1 ∧ xyf zx' i 2 = xyf zx i 2 ∧ xyf zx' i 3 = xyf zx i 3) : KK6 (xyf zx') M29 M30 M31 := fun j hj k hk => by
  by_cases e : j = i
  · subst e
    rw [h5.1, h5.2.1, h5.2.2]
    exact h j hj k hk
  · rw [(ho j e).2]
    exact h j hj k hk
/-- the reference's words of a watch that sails -/
def errM (zm : MS) (p : Int32) : Int32 := errF (mF zm 3) (mF zm 4) (mF zm 5) (mF zm 9) (mF zm 10) (mF zm 11) (mF zm 12) (mF zm 13) (mV zm 2) p (mV zm 1) (-1)
def RLM (zm : MS) (p : Int32) : List (Int32 × Int32) := rateL (fun d => ratF (mF zm 3) (mF zm 4) (mF zm 5) (mF zm 6) (mF zm 7) (mF zm 9) (mF zm 10) (mF zm 11) (mF zm 12) (mF zm 13) (mV zm 2) p d (-1)) (loD (mV zm 1)) ((mV zm 1).toInt - (loD (mV zm 1)).toInt).toNat
theorem KK6_sail {zx zx' : XS} {p0 a b c : Int32} {M29 M30 M31 fE fG fD : Nat → Int32} (h : KK6 (xyf zx) M29 M30 M31) (ho : OTH zx zx' (p0).toNatClampNeg) (h4 : ∀ i : Nat, i < 3 → xyf zx' (p0).toNatClampNeg 1 i = ERX zx (ask3 a b c i) ∧ xyf zx' (p0).toNatClampNeg 2 i = goX (RLX zx (ask3 a b c i)) ∧ xyf zx' (p0).toNatClampNeg 3 i = duX (RLX zx (ask3 a b c i)))
    (h5 : ∀ k : Nat, k < 3 → ERX zx (ask3 a b c k) = fE k ∧ goX (RLX zx (ask3 a b c k)) = fG k ∧ duX (RLX zx (ask3 a b c k)) = fD k) :
    KK6 (xyf zx') (vseq M29 p0 fE 3) (vseq M30 p0 fG 3) (vseq M31 p0 fD 3) := fun j hj k hk => by
  by_cases e : j = (p0).toNatClampNeg
  · subst e
    rw [vseq_at 3 hk, vseq_at 3 hk, vseq_at 3 hk]
    obtain ⟨g1, g2, g3⟩ := h4 k hk
    rw [g1, g2, g3]
    exact h5 k hk
  · rw [(ho j e).2, vseq_ne 3 (fun q hq => by omega), vseq_ne 3 (fun q hq => by omega), vseq_ne 3 (fun q hq => by omega)]
    exact h j hj k hk
theorem SAIL3 {zx : XS} {zm : MS} {p : Int32} (hI : XI zx) (t0 : (xV zx 0).toInt = (mV zm 1).toInt) (t1 : (xV zx 1).toInt = (mV zm 2).toInt) (q3 : KK3 (xV zx 1) (xF zx 4) (xF zx 5) (xF zx 6) (xF zx 7) (xF zx 8) (mF zm 9) (mF zm 10) (mF zm 11) (mF zm 12) (mF zm 13)) (q4 : KK4 (xV zx 0) (xF zx 1) (xwf zx) (mF zm 3) (mF zm 4) (mF zm 5) (mF zm 6) (mF zm 7) (mF zm 8)) (hp : 0 ≤ p.toInt ∧ p.toInt ≤ 15) (hw : XWK zx p) (hf : FITX zx p) :
    ERX zx p = errM zm p ∧ goX (RLX zx p) = goM (RLM zm p) ∧ duX (RLX zx p) = duM (RLM zm p) := by
  have hb := hI.1
  have hb1 := hI.2.1
  have hta := i_eq.mpr t0
  have hw4 := q4 _ (cl16 hp) hw
  have hlo := loD_r hb
  have hm1 : (-1 : Int32).toInt = -1 := by decide
  have hl2 : 2 ≤ (RLX zx p).length := hf.2.2
  have el : RLX zx p = RLM zm p := by
    unfold RLX RLM
    rw [← hta]
    exact rateL_congr _ (fun j hj => by
      have hd2 := pnI (p := loD (xV zx 0)) (j := j) (n := 399) hlo.1 (by omega) (by omega)
      exact rX_rat hp (d := loD (xV zx 0) + nI j) (by omega) (by omega) t1 hb1 q3 hw4.1)
  have hv : ∀ i : Nat, i < (RLX zx p).length → -999 ≤ (vL (RLX zx p) i).toInt ∧ (vL (RLX zx p) i).toInt ≤ 999 := fun i hi => by
    obtain ⟨v1, v2⟩ := rateL_vals _ _ (vL_mem hi)
    have v1 : vL (RLX zx p) i = _ := v1
    rw [v1]
    exact rbX_r v2
  refine ⟨?_, ?_, ?_⟩
  · unfold ERX errM
    rw [← hta]
    exact eX_err hp hb (by omega) t1 hb1.1 q3 (hw4.1 _ (cl400 hb))
  · rw [← el]
    exact (go_eq (Nat.le_trans (rateL_len _ _ _) (by omega)) hv).symm
  · rw [← el]
    exact (du_eq (by omega) hv).symm
theorem ST_sail {p0 p1 p2 p3 rx rm : Int32} {zx zx' : XS} {zm zm' : MS} (hI : XI zx) (h : TR zx zm) (hx : RX_X8_sail p0 p1 p2 p3 rx zx zx') (hm : RM_X9_sail p0 p1 p2 p3 rm zm zm') : TR zx' zm' := by
  obtain ⟨⟨t0, t1, t2, t3⟩, q1, q2, q3, q4, q5, q6⟩ := h
  have hb := hI.1
  have hb1 := hI.2.1
  obtain ⟨hpm, kmv1, kmv2, kmv4, kmv11, kmf0, kmf1, kmf2, kmf3, kmf4, kmf5, kmf6, kmf7, kmf9, kmf10, kmf11, kmf12, kmf13⟩ := hm
  have same : (mF zm' 8 = mF zm 8 ∧ mF zm' 25 = mF zm 25 ∧ mF zm' 26 = mF zm 26 ∧ mF zm' 28 = mF zm 28 ∧ mF zm' 29 = mF zm 29 ∧ mF zm' 30 = mF zm 30 ∧ mF zm' 31 = mF zm 31) → KPX zx zx' → TR zx' zm' := fun hh hk => by
    obtain ⟨f8, f25, f26, f28, f29, f30, f31⟩ := hh
    obtain ⟨h1, h2, h3, h4, h5⟩ := id hk
    exact TR_kq ⟨⟨t0, t1, t2, t3⟩, q1, q2, q3, q4, q5, q6⟩ (KQX.of hk) ⟨kmv1, kmv2, kmf0, kmf1, kmf2, kmf3, kmf4, kmf5, kmf6, kmf7, f8, kmf9, kmf10, kmf11, kmf12, kmf13, f25, f26, f28, f29, f30, f31⟩ (by rw [h3, kmv4]; exact t2) (by rw [h4, kmv11]; exact t3)
  rcases hx with ⟨_, c, hk⟩ | ⟨c, c2, hk⟩ | ⟨c, c2, c3, _, hk⟩ | ⟨c, c2, c3, _, hk⟩ | ⟨c, c2, c3, c4, _, z1, z2, z3, z4, k1, hL, b1, b2, b3⟩
  · rcases hpm with ⟨_, d, f⟩ | ⟨d, d2, f⟩ | ⟨d, d2, d3, _, f⟩ | ⟨d, d2, d3, _, f⟩ | ⟨d, d2, d3, d4, _, f⟩
    · exact same f hk
    · exact same f hk
    · exact same f hk
    · exact same f hk
    · exact absurd d c
  · rcases hpm with ⟨_, d, f⟩ | ⟨d, d2, f⟩ | ⟨d, d2, d3, _, f⟩ | ⟨d, d2, d3, _, f⟩ | ⟨d, d2, d3, d4, _, f⟩
    · exact same f hk
    · exact same f hk
    · exact same f hk
    · exact same f hk
    · exfalso
      have e1 := kd_W q1 c.2.1
      have e2 := kd_W q1 c.2.2.1
      have e3 := kd_W q1 c.2.2.2.1
      unfold XWK at c2
      rcases c2 with c2 | c2 | c2
      · exact c2.1 (e1.mpr d2.1)
      · exact c2.2.1 (e2.mpr d2.2.1)
      · exact c2.2.2.1 (e3.mpr d2.2.2)
  · rcases hpm with ⟨_, d, f⟩ | ⟨d, d2, f⟩ | ⟨d, d2, d3, _, f⟩ | ⟨d, d2, d3, _, f⟩ | ⟨d, d2, d3, d4, _, f⟩
    · exact same f hk
    · exact same f hk
    · exact same f hk
    · exact same f hk
    · exfalso
      rw [(q5 _ (cl5 c.1)).1] at c3
      exact d3 c3
  · rcases hpm with ⟨_, d, f⟩ | ⟨d, d2, f⟩ | ⟨d, d2, d3, _, f⟩ | ⟨d, d2, d3, _, f⟩ | ⟨d, d2, d3, d4, _, f⟩
    · exact same f hk
    · exact same f hk
    · exact same f hk
    · exact same f hk
    · exfalso
      exact c3 ⟨(FIT_may hI t0 t1 q3 q4 c.2.1 c2.1).mpr d4.1, (FIT_may hI t0 t1 q3 q4 c.2.2.1 c2.2.1).mpr d4.2.1, (FIT_may hI t0 t1 q3 q4 c.2.2.2.1 c2.2.2).mpr d4.2.2⟩
  · have hS := SAILED_of c c4.1 c4.2.1 c4.2.2 k1 hL b1 b2 b3
    rcases hpm with ⟨_, d, f⟩ | ⟨d, d2, f⟩ | ⟨d, d2, d3, _, f⟩ | ⟨d, d2, d3, _, f⟩ | ⟨d, d2, d3, d4, _, f8, f25, f26, f28, f29, f30, f31⟩
    · exact absurd c d
    · exfalso
      have e1 := kd_W q1 c.2.1
      have e2 := kd_W q1 c.2.2.1
      have e3 := kd_W q1 c.2.2.2.1
      have g1 := e1.mp c2.1
      have g2 := e2.mp c2.2.1
      have g3 := e3.mp c2.2.2
      omega
    · exfalso
      rw [← (q5 _ (cl5 c.1)).1] at d3
      exact c3 d3
    · exfalso
      exact d3 ⟨(FIT_may hI t0 t1 q3 q4 c.2.1 c2.1).mp c4.1, (FIT_may hI t0 t1 q3 q4 c.2.2.1 c2.2.1).mp c4.2.1, (FIT_may hI t0 t1 q3 q4 c.2.2.2.1 c2.2.2).mp c4.2.2⟩
    · obtain ⟨hK, hw, ⟨ga, gb, gc⟩, ho, hy1, hy2, hy3, hy4⟩ := hS
      have hL : ∀ k : Nat, k < 3 → ERX zx (ask3 p1 p2 p3 k) = errM zm (ask3 p1 p2 p3 k) ∧ goX (RLX zx (ask3 p1 p2 p3 k)) = goM (RLM zm (ask3 p1 p2 p3 k)) ∧ duX (RLX zx (ask3 p1 p2 p3 k)) = duM (RLM zm (ask3 p1 p2 p3 k)) := fun k hk => by
        rcases (show k = 0 ∨ k = 1 ∨ k = 2 by omega) with q | q | q <;> subst q
        · exact SAIL3 hI t0 t1 q3 q4 c.2.1 c2.1 c4.1
        · exact SAIL3 hI t0 t1 q3 q4 c.2.2.1 c2.2.1 c4.2.1
        · exact SAIL3 hI t0 t1 q3 q4 c.2.2.2.1 c2.2.2 c4.2.2
      obtain ⟨x0, x1, x4, x9, y0, y1, y2, y4, y5, y6, y7, y8⟩ := hK
      refine ⟨⟨by rw [x0, kmv1]; exact t0, by rw [x1, kmv2]; exact t1, by rw [x4, kmv4]; exact t2, by rw [x9, kmv11]; exact t3⟩, ?_⟩
      unfold RK
      rw [x0, x1, y0, y1, y2, y4, y5, y6, y7, y8, kmf0, kmf1, kmf2, kmf3, kmf4, kmf5, kmf6, kmf7, kmf9, kmf10, kmf11, kmf12, kmf13, f8, f25, f26, f28, f29, f30, f31]
      have hta := i_eq.mpr t0
      rw [← hta]
      exact ⟨q1, q2, q3, KK4_sail q4 hb c hw ga gb gc, KK5_sail q5 hb c c2.1 c2.2.1 c2.2.2 c4.1.1 c4.2.1.1 c4.2.2.1 hw ga gb gc ho hy1 hy2 hy3, KK6_sail q6 ho hy4 (fun k hk => by have h9 := hL k hk; unfold errM RLM at h9; rw [← hta] at h9; exact h9)⟩
theorem ST_back {p0 p1 p2 p3 rx rm : Int32} {zx zx' : XS} {zm zm' : MS} (hI : XI zx) (h : TR zx zm) (hx : RX_X8_back p0 p1 p2 p3 rx zx zx') (hm : RM_X9_back p0 p1 p2 p3 rm zm zm') : TR zx' zm' := by
  obtain ⟨⟨t0, t1, t2, t3⟩, q1, q2, q3, q4, q5, q6⟩ := h
  have hb := hI.1
  have hb1 := hI.2.1
  obtain ⟨hpm, kmv1, kmv2, kmv4, kmv11, kmf0, kmf1, kmf2, kmf6, kmf7, kmf9, kmf10, kmf11, kmf12, kmf13, kmf26, kmf28, kmf29, kmf30, kmf31⟩ := hm
  have same : (mF zm' 3 = mF zm 3 ∧ mF zm' 4 = mF zm 4 ∧ mF zm' 5 = mF zm 5 ∧ mF zm' 8 = mF zm 8 ∧ mF zm' 25 = mF zm 25) → KPX zx zx' → TR zx' zm' := fun hh hk => by
    obtain ⟨f3, f4, f5, f8, f25⟩ := hh
    obtain ⟨h1, h2, h3, h4, h5⟩ := id hk
    exact TR_kq ⟨⟨t0, t1, t2, t3⟩, q1, q2, q3, q4, q5, q6⟩ (KQX.of hk) ⟨kmv1, kmv2, kmf0, kmf1, kmf2, f3, f4, f5, kmf6, kmf7, f8, kmf9, kmf10, kmf11, kmf12, kmf13, f25, kmf26, kmf28, kmf29, kmf30, kmf31⟩ (by rw [h3, kmv4]; exact t2) (by rw [h4, kmv11]; exact t3)
  rcases hx with ⟨_, c, hk⟩ | ⟨c, c2, _, hk⟩ | ⟨c, c2, c3, _, z1, z2, z3, hC, u1, u2, u3⟩
  · rcases hpm with ⟨_, d, f3, f4, f5, f8, f25, _⟩ | ⟨d, d2, _, f3, f4, f5, f8, f25, _⟩ | ⟨d, d2, f⟩
    · exact same ⟨f3, f4, f5, f8, f25⟩ hk
    · exact same ⟨f3, f4, f5, f8, f25⟩ hk
    · exact absurd d c
  · rcases hpm with ⟨_, d, f3, f4, f5, f8, f25, _⟩ | ⟨d, d2, _, f3, f4, f5, f8, f25, _⟩ | ⟨d, d2, f⟩
    · exact same ⟨f3, f4, f5, f8, f25⟩ hk
    · exact same ⟨f3, f4, f5, f8, f25⟩ hk
    · exfalso
      have hs := q5 _ (cl5 c.1)
      have e1 := congrArg Int32.toInt hs.1
      have e2 := hs.2.2.1
      have e3 := hs.2.2.2
      by_cases q : (xyv zx (p0).toNatClampNeg 1).toInt = 1
      · have g2 := congrArg Int32.toInt (e2 (by omega)).1
        have g3 := (e3 q).1
        omega
      · omega
  · have hs := q5 _ (cl5 c.1)
    have g2 := hs.2.2.1 (by omega)
    obtain ⟨g4, g5, g6, g7, g8⟩ := hs.2.2.2 c2
    have w0 := g5 0 (by decide)
    have w1 := g5 1 (by decide)
    have w2 := g5 2 (by decide)
    have hS := CAMEB_of rfl rfl rfl (s := zx) ⟨w0.1.1, w0.1.2, w0.2.1⟩ ⟨w1.1.1, w1.1.2, w1.2.1⟩ ⟨w2.1.1, w2.1.2, w2.2.1⟩ g6 g7 g8 hC u1 u2 u3
    rcases hpm with ⟨_, d, f⟩ | ⟨d, d2, _, f⟩ | ⟨d, d2, f3, f4, f5, f8, f25, _⟩
    · exact absurd c d
    · exfalso
      have e1 := congrArg Int32.toInt hs.1
      have e2 := congrArg Int32.toInt g2.1
      omega
    · obtain ⟨hK, hw, ⟨ga, gb, gc⟩, ho, hy1, hy2, hy3, hy4, hy5⟩ := hS
      obtain ⟨x0, x1, x4, x9, y0, y1, y2, y4, y5, y6, y7, y8⟩ := hK
      refine ⟨⟨by rw [x0, kmv1]; exact t0, by rw [x1, kmv2]; exact t1, by rw [x4, kmv4]; exact t2, by rw [x9, kmv11]; exact t3⟩, ?_⟩
      unfold RK
      rw [x0, x1, y0, y1, y2, y4, y5, y6, y7, y8, kmf0, kmf1, kmf2, kmf6, kmf7, kmf9, kmf10, kmf11, kmf12, kmf13, kmf26, kmf28, kmf29, kmf30, kmf31, f3, f4, f5, f8, f25]
      have hta := i_eq.mpr t0
      have n0 : (0 : Int32).toNatClampNeg = 0 := by decide
      have n1 : (1 : Int32).toNatClampNeg = 1 := by decide
      have n2 : (2 : Int32).toNatClampNeg = 2 := by decide
      rw [← hta, ix3 c.1 0 (by decide), ix3 c.1 1 (by decide), ix3 c.1 2 (by decide), n0, n1, n2, ← g2.2 0 (by decide), ← g2.2 1 (by decide), ← g2.2 2 (by decide)]
      exact ⟨q1, q2, q3, KK4_back q4 hb c w0 w1 w2 g6 g7 g8 hw ga gb gc, KK5_back q5 hb (cl5 c.1) w0 w1 w2 hw ho hy1 hy2 hy4 c2, KK6_oth q6 ho hy5⟩
theorem TR_init {zx : XS} {zm : MS} (hx : xV zx 0 = 0 ∧ xV zx 1 = 0 ∧ xV zx 4 = 0 ∧ xV zx 9 = 0 ∧ (∀ k : Nat, k < 400 → xF zx 0 k = -100) ∧ (∀ k : Nat, k < 16 → xF zx 1 k = -5) ∧ (∀ k : Nat, k < 16 → xF zx 2 k = 0) ∧ (∀ j : Nat, xyv zx j 1 = 0) ∧ (∀ j i k : Nat, xyf zx j i k = 0)) (hm : mV zm 1 = 0 ∧ mV zm 2 = 0 ∧ mV zm 4 = 0 ∧ mV zm 11 = 0 ∧ (∀ k : Nat, k < 400 → mF zm 0 k = -1000) ∧ (∀ k : Nat, k < 16 → mF zm 1 k = -5) ∧ (∀ k : Nat, k < 16 → mF zm 2 k = 0) ∧ (∀ j : Nat, mF zm 25 j = 0) ∧ (∀ j : Nat, mF zm 29 j = 0 ∧ mF zm 30 j = 0 ∧ mF zm 31 j = 0)) : TR zx zm := by
  obtain ⟨x0, x1, x4, x9, xa, xb, xc, xd, xe⟩ := hx
  obtain ⟨m0, m1, m4, m9, ma, mb, mc, md, me⟩ := hm
  have z : (0 : Int32).toInt = 0 := by decide
  refine ⟨⟨by rw [x0, m0], by rw [x1, m1], by rw [x4, m4], by rw [x9, m9]⟩, fun k hk => ?_, fun d hd => ?_, fun i hi => ?_, fun p hp hw => ?_, fun j hj => ?_, fun j hj k hk => ?_⟩
  · rw [xb k hk, mb k hk, xc k hk, mc k hk]
    exact ⟨rfl, Or.inl (by decide), rfl, fun q => absurd q (by decide)⟩
  · rw [xa d hd, ma d hd]
    exact Or.inl ⟨by decide, by decide⟩
  · rw [x1, z] at hi
    omega
  · rw [xb p hp] at hw
    exact absurd hw (by unfold isW; decide)
  · refine ⟨by rw [xd, md], Or.inl (by rw [xd]; exact z), fun h => absurd (by rw [xd]; exact z) h, fun h => ?_⟩
    rw [xd, z] at h
    omega
  · rw [xe, xe, xe, (me _).1, (me _).2.1, (me _).2.2]
    exact ⟨rfl, rfl, rfl⟩
end
section
theorem AN_carried {p0 p1 p2 rx rm : Int32} {zx zx' : XS} {zm zm' : MS} (hI : XI zx) (h : TR zx zm) (hx : RX_X8_carried p0 p1 p2 rx zx zx') (hm : RM_X9_carried p0 p1 p2 rm zm zm') : rx = rm := by
  obtain ⟨⟨t0, t1, t2, t3⟩, q1, q2, q3, q4, q5, q6⟩ := h
  have hb := hI.1
  have hb1 := hI.2.1
  obtain ⟨hpm, kmv1, kmv2, kmv4, kmv11, kmf0, kmf1, kmf2, kmf3, kmf4, kmf5, kmf6, kmf7, kmf8, kmf9, kmf10, kmf11, kmf12, kmf13, kmf25, kmf26, kmf28, kmf29, kmf30, kmf31⟩ := hm
  rcases hx with hx | hx
  ·
    obtain ⟨hcx, hpx, kxv0, kxv1, kxv4, kxv9, kxf0, kxf1, kxf2, kxf4, kxf5, kxf6, kxf7, kxf8, _, _, kwf, kyv, kyf⟩ := hx
    have hs := q5 _ (cl5 hcx)
    have es := congrArg Int32.toInt hs.1
    rcases hpx with ⟨c, k, e⟩ | ⟨c, k, e⟩ | ⟨c, k, e⟩ | ⟨c, k, e⟩ | ⟨c, e⟩ <;> rcases hpm with ⟨d, l, f⟩ | ⟨d, l, f⟩ | ⟨d, l, f⟩ | ⟨d, l, f⟩ | ⟨d, f⟩ <;> first
      | (exfalso; omega)
      | exact i_eq.mpr (by omega)
      | (rw [e, f, ix3 hcx p1 (by omega)]; exact (hs.2.2.1 (by omega)).2 _ (by have c1 := i_clamp0 (x := p1) (by omega); omega))
      | (rw [e, f, ix3 hcx p1 (by omega)]; exact (q6 _ (cl5 hcx) _ (by have c1 := i_clamp0 (x := p1) (by omega); omega)).1)
      | (rw [e, f, ix3 hcx p1 (by omega)]; exact (q6 _ (cl5 hcx) _ (by have c1 := i_clamp0 (x := p1) (by omega); omega)).2.1)
      | (rw [e, f, ix3 hcx p1 (by omega)]; exact (q6 _ (cl5 hcx) _ (by have c1 := i_clamp0 (x := p1) (by omega); omega)).2.2)
  ·
    obtain ⟨hcx, hpx, kxv0, kxv1, kxv4, kxv9, kxf0, kxf1, kxf2, kxf4, kxf5, kxf6, kxf7, kxf8, _, _, kwf, kyv, kyf⟩ := hx
    rcases hpm with ⟨d, l, f⟩ | ⟨d, l, f⟩ | ⟨d, l, f⟩ | ⟨d, l, f⟩ | ⟨d, f⟩ <;> first
      | (exfalso; omega)
      | exact i_eq.mpr (by omega)
end
section
theorem dL_law_0 : decode code 0 = .ok (.new 7, 3) := dq_187 (by decide +kernel)
theorem dL_law_3 : decode code 3 = .ok (.dup, 1) := dq_89 (by decide +kernel)
theorem dL_law_4 : decode code 4 = .ok (.invokespecial 9, 3) := dq_183 (by decide +kernel)
theorem dL_law_7 : decode code 7 = .ok (.astore_n 1, 1) := dq_76 (by decide +kernel)
theorem dL_law_8 : decode code 8 = .ok (.new 10, 3) := dq_187 (by decide +kernel)
theorem dL_law_11 : decode code 11 = .ok (.dup, 1) := dq_89 (by decide +kernel)
theorem dL_law_12 : decode code 12 = .ok (.invokespecial 12, 3) := dq_183 (by decide +kernel)
theorem dL_law_15 : decode code 15 = .ok (.astore_n 2, 1) := dq_77 (by decide +kernel)
theorem dL_law_16 : decode code 16 = .ok (.iconst 0, 1) := dq_3 (by decide +kernel)
theorem dL_law_17 : decode code 17 = .ok (.istore_n 3, 1) := dq_62 (by decide +kernel)
theorem dL_law_18 : decode code 18 = .ok (.iload_n 3, 1) := dq_29 (by decide +kernel)
theorem dL_law_19 : decode code 19 = .ok (.aload_n 0, 1) := dq_42 (by decide +kernel)
theorem dL_law_20 : decode code 20 = .ok (.arraylength, 1) := dq_190 (by decide +kernel)
theorem dL_law_21 : decode code 21 = .ok (.bipush 6, 2) := dq_16 (by decide +kernel)
theorem dL_law_23 : decode code 23 = .ok (.isub, 1) := dq_100 (by decide +kernel)
theorem dL_law_24 : decode code 24 = .ok (.if_icmp .gt 1532, 3) := dq_163 (by decide +kernel)
theorem dL_law_27 : decode code 27 = .ok (.aload_n 0, 1) := dq_42 (by decide +kernel)
theorem dL_law_28 : decode code 28 = .ok (.iload_n 3, 1) := dq_29 (by decide +kernel)
theorem dL_law_29 : decode code 29 = .ok (.iaload, 1) := dq_46 (by decide +kernel)
theorem dL_law_30 : decode code 30 = .ok (.bipush 63, 2) := dq_16 (by decide +kernel)
theorem dL_law_32 : decode code 32 = .ok (.iand, 1) := dq_126 (by decide +kernel)
theorem dL_law_33 : decode code 33 = .ok (.tableswitch 1517 0 35 #[159, 182, 215, 258, 281, 304, 327, 380, 423, 466, 499, 532, 565, 618, 671, 714, 757, 820, 873, 906, 929, 972, 1015, 1068, 1111, 1174, 1217, 1270, 1293, 1316, 1359, 1382, 1415, 1438, 1471, 1494], 159) := by decide +kernel
theorem dL_law_192 : decode code 192 = .ok (.aload_n 1, 1) := dq_43 (by decide +kernel)
theorem dL_law_193 : decode code 193 = .ok (.aload_n 0, 1) := dq_42 (by decide +kernel)
theorem dL_law_194 : decode code 194 = .ok (.iload_n 3, 1) := dq_29 (by decide +kernel)
theorem dL_law_195 : decode code 195 = .ok (.iconst 1, 1) := dq_4 (by decide +kernel)
theorem dL_law_196 : decode code 196 = .ok (.iadd, 1) := dq_96 (by decide +kernel)
theorem dL_law_197 : decode code 197 = .ok (.iaload, 1) := dq_46 (by decide +kernel)
theorem dL_law_198 : decode code 198 = .ok (.invokevirtual 13, 3) := dq_182 (by decide +kernel)
theorem dL_law_201 : decode code 201 = .ok (.pop, 1) := dq_87 (by decide +kernel)
theorem dL_law_202 : decode code 202 = .ok (.aload_n 2, 1) := dq_44 (by decide +kernel)
theorem dL_law_203 : decode code 203 = .ok (.aload_n 0, 1) := dq_42 (by decide +kernel)
theorem dL_law_204 : decode code 204 = .ok (.iload_n 3, 1) := dq_29 (by decide +kernel)
theorem dL_law_205 : decode code 205 = .ok (.iconst 1, 1) := dq_4 (by decide +kernel)
theorem dL_law_206 : decode code 206 = .ok (.iadd, 1) := dq_96 (by decide +kernel)
theorem dL_law_207 : decode code 207 = .ok (.iaload, 1) := dq_46 (by decide +kernel)
theorem dL_law_208 : decode code 208 = .ok (.invokevirtual 17, 3) := dq_182 (by decide +kernel)
theorem dL_law_211 : decode code 211 = .ok (.pop, 1) := dq_87 (by decide +kernel)
theorem dL_law_212 : decode code 212 = .ok (.goto 1338, 3) := dq_167 (by decide +kernel)
theorem dL_law_215 : decode code 215 = .ok (.aload_n 1, 1) := dq_43 (by decide +kernel)
theorem dL_law_216 : decode code 216 = .ok (.aload_n 0, 1) := dq_42 (by decide +kernel)
theorem dL_law_217 : decode code 217 = .ok (.iload_n 3, 1) := dq_29 (by decide +kernel)
theorem dL_law_218 : decode code 218 = .ok (.iconst 1, 1) := dq_4 (by decide +kernel)
theorem dL_law_219 : decode code 219 = .ok (.iadd, 1) := dq_96 (by decide +kernel)
theorem dL_law_220 : decode code 220 = .ok (.iaload, 1) := dq_46 (by decide +kernel)
theorem dL_law_221 : decode code 221 = .ok (.aload_n 0, 1) := dq_42 (by decide +kernel)
theorem dL_law_222 : decode code 222 = .ok (.iload_n 3, 1) := dq_29 (by decide +kernel)
theorem dL_law_223 : decode code 223 = .ok (.iconst 2, 1) := dq_5 (by decide +kernel)
theorem dL_law_224 : decode code 224 = .ok (.iadd, 1) := dq_96 (by decide +kernel)
theorem dL_law_225 : decode code 225 = .ok (.iaload, 1) := dq_46 (by decide +kernel)
theorem dL_law_226 : decode code 226 = .ok (.invokevirtual 18, 3) := dq_182 (by decide +kernel)
theorem dL_law_229 : decode code 229 = .ok (.pop, 1) := dq_87 (by decide +kernel)
theorem dL_law_230 : decode code 230 = .ok (.aload_n 2, 1) := dq_44 (by decide +kernel)
theorem dL_law_231 : decode code 231 = .ok (.aload_n 0, 1) := dq_42 (by decide +kernel)
theorem dL_law_232 : decode code 232 = .ok (.iload_n 3, 1) := dq_29 (by decide +kernel)
theorem dL_law_233 : decode code 233 = .ok (.iconst 1, 1) := dq_4 (by decide +kernel)
theorem dL_law_234 : decode code 234 = .ok (.iadd, 1) := dq_96 (by decide +kernel)
theorem dL_law_235 : decode code 235 = .ok (.iaload, 1) := dq_46 (by decide +kernel)
theorem dL_law_236 : decode code 236 = .ok (.aload_n 0, 1) := dq_42 (by decide +kernel)
theorem dL_law_237 : decode code 237 = .ok (.iload_n 3, 1) := dq_29 (by decide +kernel)
theorem dL_law_238 : decode code 238 = .ok (.iconst 2, 1) := dq_5 (by decide +kernel)
theorem dL_law_239 : decode code 239 = .ok (.iadd, 1) := dq_96 (by decide +kernel)
theorem dL_law_240 : decode code 240 = .ok (.iaload, 1) := dq_46 (by decide +kernel)
theorem dL_law_241 : decode code 241 = .ok (.invokevirtual 22, 3) := dq_182 (by decide +kernel)
theorem dL_law_244 : decode code 244 = .ok (.pop, 1) := dq_87 (by decide +kernel)
theorem dL_law_245 : decode code 245 = .ok (.goto 1305, 3) := dq_167 (by decide +kernel)
theorem dL_law_248 : decode code 248 = .ok (.aload_n 1, 1) := dq_43 (by decide +kernel)
theorem dL_law_249 : decode code 249 = .ok (.aload_n 0, 1) := dq_42 (by decide +kernel)
theorem dL_law_250 : decode code 250 = .ok (.iload_n 3, 1) := dq_29 (by decide +kernel)
theorem dL_law_251 : decode code 251 = .ok (.iconst 1, 1) := dq_4 (by decide +kernel)
theorem dL_law_252 : decode code 252 = .ok (.iadd, 1) := dq_96 (by decide +kernel)
theorem dL_law_253 : decode code 253 = .ok (.iaload, 1) := dq_46 (by decide +kernel)
theorem dL_law_254 : decode code 254 = .ok (.aload_n 0, 1) := dq_42 (by decide +kernel)
theorem dL_law_255 : decode code 255 = .ok (.iload_n 3, 1) := dq_29 (by decide +kernel)
theorem dL_law_256 : decode code 256 = .ok (.iconst 2, 1) := dq_5 (by decide +kernel)
theorem dL_law_257 : decode code 257 = .ok (.iadd, 1) := dq_96 (by decide +kernel)
theorem dL_law_258 : decode code 258 = .ok (.iaload, 1) := dq_46 (by decide +kernel)
theorem dL_law_259 : decode code 259 = .ok (.aload_n 0, 1) := dq_42 (by decide +kernel)
theorem dL_law_260 : decode code 260 = .ok (.iload_n 3, 1) := dq_29 (by decide +kernel)
theorem dL_law_261 : decode code 261 = .ok (.iconst 3, 1) := dq_6 (by decide +kernel)
theorem dL_law_262 : decode code 262 = .ok (.iadd, 1) := dq_96 (by decide +kernel)
theorem dL_law_263 : decode code 263 = .ok (.iaload, 1) := dq_46 (by decide +kernel)
theorem dL_law_264 : decode code 264 = .ok (.invokevirtual 23, 3) := dq_182 (by decide +kernel)
theorem dL_law_267 : decode code 267 = .ok (.pop, 1) := dq_87 (by decide +kernel)
theorem dL_law_268 : decode code 268 = .ok (.aload_n 2, 1) := dq_44 (by decide +kernel)
theorem dL_law_269 : decode code 269 = .ok (.aload_n 0, 1) := dq_42 (by decide +kernel)
theorem dL_law_270 : decode code 270 = .ok (.iload_n 3, 1) := dq_29 (by decide +kernel)
theorem dL_law_271 : decode code 271 = .ok (.iconst 1, 1) := dq_4 (by decide +kernel)
theorem dL_law_272 : decode code 272 = .ok (.iadd, 1) := dq_96 (by decide +kernel)
theorem dL_law_273 : decode code 273 = .ok (.iaload, 1) := dq_46 (by decide +kernel)
theorem dL_law_274 : decode code 274 = .ok (.aload_n 0, 1) := dq_42 (by decide +kernel)
theorem dL_law_275 : decode code 275 = .ok (.iload_n 3, 1) := dq_29 (by decide +kernel)
theorem dL_law_276 : decode code 276 = .ok (.iconst 2, 1) := dq_5 (by decide +kernel)
theorem dL_law_277 : decode code 277 = .ok (.iadd, 1) := dq_96 (by decide +kernel)
theorem dL_law_278 : decode code 278 = .ok (.iaload, 1) := dq_46 (by decide +kernel)
theorem dL_law_279 : decode code 279 = .ok (.aload_n 0, 1) := dq_42 (by decide +kernel)
theorem dL_law_280 : decode code 280 = .ok (.iload_n 3, 1) := dq_29 (by decide +kernel)
theorem dL_law_281 : decode code 281 = .ok (.iconst 3, 1) := dq_6 (by decide +kernel)
theorem dL_law_282 : decode code 282 = .ok (.iadd, 1) := dq_96 (by decide +kernel)
theorem dL_law_283 : decode code 283 = .ok (.iaload, 1) := dq_46 (by decide +kernel)
theorem dL_law_284 : decode code 284 = .ok (.invokevirtual 27, 3) := dq_182 (by decide +kernel)
theorem dL_law_287 : decode code 287 = .ok (.pop, 1) := dq_87 (by decide +kernel)
theorem dL_law_288 : decode code 288 = .ok (.goto 1262, 3) := dq_167 (by decide +kernel)
theorem dL_law_291 : decode code 291 = .ok (.aload_n 1, 1) := dq_43 (by decide +kernel)
theorem dL_law_292 : decode code 292 = .ok (.aload_n 0, 1) := dq_42 (by decide +kernel)
theorem dL_law_293 : decode code 293 = .ok (.iload_n 3, 1) := dq_29 (by decide +kernel)
theorem dL_law_294 : decode code 294 = .ok (.iconst 1, 1) := dq_4 (by decide +kernel)
theorem dL_law_295 : decode code 295 = .ok (.iadd, 1) := dq_96 (by decide +kernel)
theorem dL_law_296 : decode code 296 = .ok (.iaload, 1) := dq_46 (by decide +kernel)
theorem dL_law_297 : decode code 297 = .ok (.invokevirtual 28, 3) := dq_182 (by decide +kernel)
theorem dL_law_300 : decode code 300 = .ok (.pop, 1) := dq_87 (by decide +kernel)
theorem dL_law_301 : decode code 301 = .ok (.aload_n 2, 1) := dq_44 (by decide +kernel)
theorem dL_law_302 : decode code 302 = .ok (.aload_n 0, 1) := dq_42 (by decide +kernel)
theorem dL_law_303 : decode code 303 = .ok (.iload_n 3, 1) := dq_29 (by decide +kernel)
theorem dL_law_304 : decode code 304 = .ok (.iconst 1, 1) := dq_4 (by decide +kernel)
theorem dL_law_305 : decode code 305 = .ok (.iadd, 1) := dq_96 (by decide +kernel)
theorem dL_law_306 : decode code 306 = .ok (.iaload, 1) := dq_46 (by decide +kernel)
theorem dL_law_307 : decode code 307 = .ok (.invokevirtual 31, 3) := dq_182 (by decide +kernel)
theorem dL_law_310 : decode code 310 = .ok (.pop, 1) := dq_87 (by decide +kernel)
theorem dL_law_311 : decode code 311 = .ok (.goto 1239, 3) := dq_167 (by decide +kernel)
end
section
theorem dL_law_314 : decode code 314 = .ok (.aload_n 1, 1) := dq_43 (by decide +kernel)
theorem dL_law_315 : decode code 315 = .ok (.aload_n 0, 1) := dq_42 (by decide +kernel)
theorem dL_law_316 : decode code 316 = .ok (.iload_n 3, 1) := dq_29 (by decide +kernel)
theorem dL_law_317 : decode code 317 = .ok (.iconst 1, 1) := dq_4 (by decide +kernel)
theorem dL_law_318 : decode code 318 = .ok (.iadd, 1) := dq_96 (by decide +kernel)
theorem dL_law_319 : decode code 319 = .ok (.iaload, 1) := dq_46 (by decide +kernel)
theorem dL_law_320 : decode code 320 = .ok (.invokevirtual 32, 3) := dq_182 (by decide +kernel)
theorem dL_law_323 : decode code 323 = .ok (.pop, 1) := dq_87 (by decide +kernel)
theorem dL_law_324 : decode code 324 = .ok (.aload_n 2, 1) := dq_44 (by decide +kernel)
theorem dL_law_325 : decode code 325 = .ok (.aload_n 0, 1) := dq_42 (by decide +kernel)
theorem dL_law_326 : decode code 326 = .ok (.iload_n 3, 1) := dq_29 (by decide +kernel)
theorem dL_law_327 : decode code 327 = .ok (.iconst 1, 1) := dq_4 (by decide +kernel)
theorem dL_law_328 : decode code 328 = .ok (.iadd, 1) := dq_96 (by decide +kernel)
theorem dL_law_329 : decode code 329 = .ok (.iaload, 1) := dq_46 (by decide +kernel)
theorem dL_law_330 : decode code 330 = .ok (.invokevirtual 35, 3) := dq_182 (by decide +kernel)
theorem dL_law_333 : decode code 333 = .ok (.pop, 1) := dq_87 (by decide +kernel)
theorem dL_law_334 : decode code 334 = .ok (.goto 1216, 3) := dq_167 (by decide +kernel)
theorem dL_law_337 : decode code 337 = .ok (.aload_n 1, 1) := dq_43 (by decide +kernel)
theorem dL_law_338 : decode code 338 = .ok (.aload_n 0, 1) := dq_42 (by decide +kernel)
theorem dL_law_339 : decode code 339 = .ok (.iload_n 3, 1) := dq_29 (by decide +kernel)
theorem dL_law_340 : decode code 340 = .ok (.iconst 1, 1) := dq_4 (by decide +kernel)
theorem dL_law_341 : decode code 341 = .ok (.iadd, 1) := dq_96 (by decide +kernel)
theorem dL_law_342 : decode code 342 = .ok (.iaload, 1) := dq_46 (by decide +kernel)
theorem dL_law_343 : decode code 343 = .ok (.invokevirtual 36, 3) := dq_182 (by decide +kernel)
theorem dL_law_346 : decode code 346 = .ok (.pop, 1) := dq_87 (by decide +kernel)
theorem dL_law_347 : decode code 347 = .ok (.aload_n 2, 1) := dq_44 (by decide +kernel)
theorem dL_law_348 : decode code 348 = .ok (.aload_n 0, 1) := dq_42 (by decide +kernel)
theorem dL_law_349 : decode code 349 = .ok (.iload_n 3, 1) := dq_29 (by decide +kernel)
theorem dL_law_350 : decode code 350 = .ok (.iconst 1, 1) := dq_4 (by decide +kernel)
theorem dL_law_351 : decode code 351 = .ok (.iadd, 1) := dq_96 (by decide +kernel)
theorem dL_law_352 : decode code 352 = .ok (.iaload, 1) := dq_46 (by decide +kernel)
theorem dL_law_353 : decode code 353 = .ok (.invokevirtual 39, 3) := dq_182 (by decide +kernel)
theorem dL_law_356 : decode code 356 = .ok (.pop, 1) := dq_87 (by decide +kernel)
theorem dL_law_357 : decode code 357 = .ok (.goto 1193, 3) := dq_167 (by decide +kernel)
theorem dL_law_360 : decode code 360 = .ok (.aload_n 1, 1) := dq_43 (by decide +kernel)
theorem dL_law_361 : decode code 361 = .ok (.aload_n 0, 1) := dq_42 (by decide +kernel)
theorem dL_law_362 : decode code 362 = .ok (.iload_n 3, 1) := dq_29 (by decide +kernel)
theorem dL_law_363 : decode code 363 = .ok (.iconst 1, 1) := dq_4 (by decide +kernel)
theorem dL_law_364 : decode code 364 = .ok (.iadd, 1) := dq_96 (by decide +kernel)
theorem dL_law_365 : decode code 365 = .ok (.iaload, 1) := dq_46 (by decide +kernel)
theorem dL_law_366 : decode code 366 = .ok (.aload_n 0, 1) := dq_42 (by decide +kernel)
theorem dL_law_367 : decode code 367 = .ok (.iload_n 3, 1) := dq_29 (by decide +kernel)
theorem dL_law_368 : decode code 368 = .ok (.iconst 2, 1) := dq_5 (by decide +kernel)
theorem dL_law_369 : decode code 369 = .ok (.iadd, 1) := dq_96 (by decide +kernel)
theorem dL_law_370 : decode code 370 = .ok (.iaload, 1) := dq_46 (by decide +kernel)
theorem dL_law_371 : decode code 371 = .ok (.aload_n 0, 1) := dq_42 (by decide +kernel)
theorem dL_law_372 : decode code 372 = .ok (.iload_n 3, 1) := dq_29 (by decide +kernel)
theorem dL_law_373 : decode code 373 = .ok (.iconst 3, 1) := dq_6 (by decide +kernel)
theorem dL_law_374 : decode code 374 = .ok (.iadd, 1) := dq_96 (by decide +kernel)
theorem dL_law_375 : decode code 375 = .ok (.iaload, 1) := dq_46 (by decide +kernel)
theorem dL_law_376 : decode code 376 = .ok (.aload_n 0, 1) := dq_42 (by decide +kernel)
theorem dL_law_377 : decode code 377 = .ok (.iload_n 3, 1) := dq_29 (by decide +kernel)
theorem dL_law_378 : decode code 378 = .ok (.iconst 4, 1) := dq_7 (by decide +kernel)
theorem dL_law_379 : decode code 379 = .ok (.iadd, 1) := dq_96 (by decide +kernel)
theorem dL_law_380 : decode code 380 = .ok (.iaload, 1) := dq_46 (by decide +kernel)
theorem dL_law_381 : decode code 381 = .ok (.invokevirtual 40, 3) := dq_182 (by decide +kernel)
theorem dL_law_384 : decode code 384 = .ok (.pop, 1) := dq_87 (by decide +kernel)
theorem dL_law_385 : decode code 385 = .ok (.aload_n 2, 1) := dq_44 (by decide +kernel)
theorem dL_law_386 : decode code 386 = .ok (.aload_n 0, 1) := dq_42 (by decide +kernel)
theorem dL_law_387 : decode code 387 = .ok (.iload_n 3, 1) := dq_29 (by decide +kernel)
theorem dL_law_388 : decode code 388 = .ok (.iconst 1, 1) := dq_4 (by decide +kernel)
theorem dL_law_389 : decode code 389 = .ok (.iadd, 1) := dq_96 (by decide +kernel)
theorem dL_law_390 : decode code 390 = .ok (.iaload, 1) := dq_46 (by decide +kernel)
theorem dL_law_391 : decode code 391 = .ok (.aload_n 0, 1) := dq_42 (by decide +kernel)
theorem dL_law_392 : decode code 392 = .ok (.iload_n 3, 1) := dq_29 (by decide +kernel)
theorem dL_law_393 : decode code 393 = .ok (.iconst 2, 1) := dq_5 (by decide +kernel)
theorem dL_law_394 : decode code 394 = .ok (.iadd, 1) := dq_96 (by decide +kernel)
theorem dL_law_395 : decode code 395 = .ok (.iaload, 1) := dq_46 (by decide +kernel)
theorem dL_law_396 : decode code 396 = .ok (.aload_n 0, 1) := dq_42 (by decide +kernel)
theorem dL_law_397 : decode code 397 = .ok (.iload_n 3, 1) := dq_29 (by decide +kernel)
theorem dL_law_398 : decode code 398 = .ok (.iconst 3, 1) := dq_6 (by decide +kernel)
theorem dL_law_399 : decode code 399 = .ok (.iadd, 1) := dq_96 (by decide +kernel)
theorem dL_law_400 : decode code 400 = .ok (.iaload, 1) := dq_46 (by decide +kernel)
theorem dL_law_401 : decode code 401 = .ok (.aload_n 0, 1) := dq_42 (by decide +kernel)
theorem dL_law_402 : decode code 402 = .ok (.iload_n 3, 1) := dq_29 (by decide +kernel)
theorem dL_law_403 : decode code 403 = .ok (.iconst 4, 1) := dq_7 (by decide +kernel)
theorem dL_law_404 : decode code 404 = .ok (.iadd, 1) := dq_96 (by decide +kernel)
theorem dL_law_405 : decode code 405 = .ok (.iaload, 1) := dq_46 (by decide +kernel)
theorem dL_law_406 : decode code 406 = .ok (.invokevirtual 44, 3) := dq_182 (by decide +kernel)
theorem dL_law_409 : decode code 409 = .ok (.pop, 1) := dq_87 (by decide +kernel)
theorem dL_law_410 : decode code 410 = .ok (.goto 1140, 3) := dq_167 (by decide +kernel)
theorem dL_law_413 : decode code 413 = .ok (.aload_n 1, 1) := dq_43 (by decide +kernel)
theorem dL_law_414 : decode code 414 = .ok (.aload_n 0, 1) := dq_42 (by decide +kernel)
theorem dL_law_415 : decode code 415 = .ok (.iload_n 3, 1) := dq_29 (by decide +kernel)
theorem dL_law_416 : decode code 416 = .ok (.iconst 1, 1) := dq_4 (by decide +kernel)
theorem dL_law_417 : decode code 417 = .ok (.iadd, 1) := dq_96 (by decide +kernel)
theorem dL_law_418 : decode code 418 = .ok (.iaload, 1) := dq_46 (by decide +kernel)
theorem dL_law_419 : decode code 419 = .ok (.aload_n 0, 1) := dq_42 (by decide +kernel)
theorem dL_law_420 : decode code 420 = .ok (.iload_n 3, 1) := dq_29 (by decide +kernel)
theorem dL_law_421 : decode code 421 = .ok (.iconst 2, 1) := dq_5 (by decide +kernel)
theorem dL_law_422 : decode code 422 = .ok (.iadd, 1) := dq_96 (by decide +kernel)
theorem dL_law_423 : decode code 423 = .ok (.iaload, 1) := dq_46 (by decide +kernel)
theorem dL_law_424 : decode code 424 = .ok (.aload_n 0, 1) := dq_42 (by decide +kernel)
theorem dL_law_425 : decode code 425 = .ok (.iload_n 3, 1) := dq_29 (by decide +kernel)
theorem dL_law_426 : decode code 426 = .ok (.iconst 3, 1) := dq_6 (by decide +kernel)
theorem dL_law_427 : decode code 427 = .ok (.iadd, 1) := dq_96 (by decide +kernel)
theorem dL_law_428 : decode code 428 = .ok (.iaload, 1) := dq_46 (by decide +kernel)
theorem dL_law_429 : decode code 429 = .ok (.invokevirtual 45, 3) := dq_182 (by decide +kernel)
theorem dL_law_432 : decode code 432 = .ok (.pop, 1) := dq_87 (by decide +kernel)
theorem dL_law_433 : decode code 433 = .ok (.aload_n 2, 1) := dq_44 (by decide +kernel)
theorem dL_law_434 : decode code 434 = .ok (.aload_n 0, 1) := dq_42 (by decide +kernel)
theorem dL_law_435 : decode code 435 = .ok (.iload_n 3, 1) := dq_29 (by decide +kernel)
theorem dL_law_436 : decode code 436 = .ok (.iconst 1, 1) := dq_4 (by decide +kernel)
theorem dL_law_437 : decode code 437 = .ok (.iadd, 1) := dq_96 (by decide +kernel)
theorem dL_law_438 : decode code 438 = .ok (.iaload, 1) := dq_46 (by decide +kernel)
theorem dL_law_439 : decode code 439 = .ok (.aload_n 0, 1) := dq_42 (by decide +kernel)
theorem dL_law_440 : decode code 440 = .ok (.iload_n 3, 1) := dq_29 (by decide +kernel)
theorem dL_law_441 : decode code 441 = .ok (.iconst 2, 1) := dq_5 (by decide +kernel)
theorem dL_law_442 : decode code 442 = .ok (.iadd, 1) := dq_96 (by decide +kernel)
theorem dL_law_443 : decode code 443 = .ok (.iaload, 1) := dq_46 (by decide +kernel)
theorem dL_law_444 : decode code 444 = .ok (.aload_n 0, 1) := dq_42 (by decide +kernel)
theorem dL_law_445 : decode code 445 = .ok (.iload_n 3, 1) := dq_29 (by decide +kernel)
theorem dL_law_446 : decode code 446 = .ok (.iconst 3, 1) := dq_6 (by decide +kernel)
theorem dL_law_447 : decode code 447 = .ok (.iadd, 1) := dq_96 (by decide +kernel)
theorem dL_law_448 : decode code 448 = .ok (.iaload, 1) := dq_46 (by decide +kernel)
theorem dL_law_449 : decode code 449 = .ok (.invokevirtual 48, 3) := dq_182 (by decide +kernel)
theorem dL_law_452 : decode code 452 = .ok (.pop, 1) := dq_87 (by decide +kernel)
theorem dL_law_453 : decode code 453 = .ok (.goto 1097, 3) := dq_167 (by decide +kernel)
theorem dL_law_456 : decode code 456 = .ok (.aload_n 1, 1) := dq_43 (by decide +kernel)
theorem dL_law_457 : decode code 457 = .ok (.aload_n 0, 1) := dq_42 (by decide +kernel)
end
section
theorem dL_law_458 : decode code 458 = .ok (.iload_n 3, 1) := dq_29 (by decide +kernel)
theorem dL_law_459 : decode code 459 = .ok (.iconst 1, 1) := dq_4 (by decide +kernel)
theorem dL_law_460 : decode code 460 = .ok (.iadd, 1) := dq_96 (by decide +kernel)
theorem dL_law_461 : decode code 461 = .ok (.iaload, 1) := dq_46 (by decide +kernel)
theorem dL_law_462 : decode code 462 = .ok (.aload_n 0, 1) := dq_42 (by decide +kernel)
theorem dL_law_463 : decode code 463 = .ok (.iload_n 3, 1) := dq_29 (by decide +kernel)
theorem dL_law_464 : decode code 464 = .ok (.iconst 2, 1) := dq_5 (by decide +kernel)
theorem dL_law_465 : decode code 465 = .ok (.iadd, 1) := dq_96 (by decide +kernel)
theorem dL_law_466 : decode code 466 = .ok (.iaload, 1) := dq_46 (by decide +kernel)
theorem dL_law_467 : decode code 467 = .ok (.aload_n 0, 1) := dq_42 (by decide +kernel)
theorem dL_law_468 : decode code 468 = .ok (.iload_n 3, 1) := dq_29 (by decide +kernel)
theorem dL_law_469 : decode code 469 = .ok (.iconst 3, 1) := dq_6 (by decide +kernel)
theorem dL_law_470 : decode code 470 = .ok (.iadd, 1) := dq_96 (by decide +kernel)
theorem dL_law_471 : decode code 471 = .ok (.iaload, 1) := dq_46 (by decide +kernel)
theorem dL_law_472 : decode code 472 = .ok (.invokevirtual 49, 3) := dq_182 (by decide +kernel)
theorem dL_law_475 : decode code 475 = .ok (.pop, 1) := dq_87 (by decide +kernel)
theorem dL_law_476 : decode code 476 = .ok (.aload_n 2, 1) := dq_44 (by decide +kernel)
theorem dL_law_477 : decode code 477 = .ok (.aload_n 0, 1) := dq_42 (by decide +kernel)
theorem dL_law_478 : decode code 478 = .ok (.iload_n 3, 1) := dq_29 (by decide +kernel)
theorem dL_law_479 : decode code 479 = .ok (.iconst 1, 1) := dq_4 (by decide +kernel)
theorem dL_law_480 : decode code 480 = .ok (.iadd, 1) := dq_96 (by decide +kernel)
theorem dL_law_481 : decode code 481 = .ok (.iaload, 1) := dq_46 (by decide +kernel)
theorem dL_law_482 : decode code 482 = .ok (.aload_n 0, 1) := dq_42 (by decide +kernel)
theorem dL_law_483 : decode code 483 = .ok (.iload_n 3, 1) := dq_29 (by decide +kernel)
theorem dL_law_484 : decode code 484 = .ok (.iconst 2, 1) := dq_5 (by decide +kernel)
theorem dL_law_485 : decode code 485 = .ok (.iadd, 1) := dq_96 (by decide +kernel)
theorem dL_law_486 : decode code 486 = .ok (.iaload, 1) := dq_46 (by decide +kernel)
theorem dL_law_487 : decode code 487 = .ok (.aload_n 0, 1) := dq_42 (by decide +kernel)
theorem dL_law_488 : decode code 488 = .ok (.iload_n 3, 1) := dq_29 (by decide +kernel)
theorem dL_law_489 : decode code 489 = .ok (.iconst 3, 1) := dq_6 (by decide +kernel)
theorem dL_law_490 : decode code 490 = .ok (.iadd, 1) := dq_96 (by decide +kernel)
theorem dL_law_491 : decode code 491 = .ok (.iaload, 1) := dq_46 (by decide +kernel)
theorem dL_law_492 : decode code 492 = .ok (.invokevirtual 52, 3) := dq_182 (by decide +kernel)
theorem dL_law_495 : decode code 495 = .ok (.pop, 1) := dq_87 (by decide +kernel)
theorem dL_law_496 : decode code 496 = .ok (.goto 1054, 3) := dq_167 (by decide +kernel)
theorem dL_law_499 : decode code 499 = .ok (.aload_n 1, 1) := dq_43 (by decide +kernel)
theorem dL_law_500 : decode code 500 = .ok (.aload_n 0, 1) := dq_42 (by decide +kernel)
theorem dL_law_501 : decode code 501 = .ok (.iload_n 3, 1) := dq_29 (by decide +kernel)
theorem dL_law_502 : decode code 502 = .ok (.iconst 1, 1) := dq_4 (by decide +kernel)
theorem dL_law_503 : decode code 503 = .ok (.iadd, 1) := dq_96 (by decide +kernel)
theorem dL_law_504 : decode code 504 = .ok (.iaload, 1) := dq_46 (by decide +kernel)
theorem dL_law_505 : decode code 505 = .ok (.aload_n 0, 1) := dq_42 (by decide +kernel)
theorem dL_law_506 : decode code 506 = .ok (.iload_n 3, 1) := dq_29 (by decide +kernel)
theorem dL_law_507 : decode code 507 = .ok (.iconst 2, 1) := dq_5 (by decide +kernel)
theorem dL_law_508 : decode code 508 = .ok (.iadd, 1) := dq_96 (by decide +kernel)
theorem dL_law_509 : decode code 509 = .ok (.iaload, 1) := dq_46 (by decide +kernel)
theorem dL_law_510 : decode code 510 = .ok (.invokevirtual 53, 3) := dq_182 (by decide +kernel)
theorem dL_law_513 : decode code 513 = .ok (.pop, 1) := dq_87 (by decide +kernel)
theorem dL_law_514 : decode code 514 = .ok (.aload_n 2, 1) := dq_44 (by decide +kernel)
theorem dL_law_515 : decode code 515 = .ok (.aload_n 0, 1) := dq_42 (by decide +kernel)
theorem dL_law_516 : decode code 516 = .ok (.iload_n 3, 1) := dq_29 (by decide +kernel)
theorem dL_law_517 : decode code 517 = .ok (.iconst 1, 1) := dq_4 (by decide +kernel)
theorem dL_law_518 : decode code 518 = .ok (.iadd, 1) := dq_96 (by decide +kernel)
theorem dL_law_519 : decode code 519 = .ok (.iaload, 1) := dq_46 (by decide +kernel)
theorem dL_law_520 : decode code 520 = .ok (.aload_n 0, 1) := dq_42 (by decide +kernel)
theorem dL_law_521 : decode code 521 = .ok (.iload_n 3, 1) := dq_29 (by decide +kernel)
theorem dL_law_522 : decode code 522 = .ok (.iconst 2, 1) := dq_5 (by decide +kernel)
theorem dL_law_523 : decode code 523 = .ok (.iadd, 1) := dq_96 (by decide +kernel)
theorem dL_law_524 : decode code 524 = .ok (.iaload, 1) := dq_46 (by decide +kernel)
theorem dL_law_525 : decode code 525 = .ok (.invokevirtual 56, 3) := dq_182 (by decide +kernel)
theorem dL_law_528 : decode code 528 = .ok (.pop, 1) := dq_87 (by decide +kernel)
theorem dL_law_529 : decode code 529 = .ok (.goto 1021, 3) := dq_167 (by decide +kernel)
theorem dL_law_532 : decode code 532 = .ok (.aload_n 1, 1) := dq_43 (by decide +kernel)
theorem dL_law_533 : decode code 533 = .ok (.aload_n 0, 1) := dq_42 (by decide +kernel)
theorem dL_law_534 : decode code 534 = .ok (.iload_n 3, 1) := dq_29 (by decide +kernel)
theorem dL_law_535 : decode code 535 = .ok (.iconst 1, 1) := dq_4 (by decide +kernel)
theorem dL_law_536 : decode code 536 = .ok (.iadd, 1) := dq_96 (by decide +kernel)
theorem dL_law_537 : decode code 537 = .ok (.iaload, 1) := dq_46 (by decide +kernel)
theorem dL_law_538 : decode code 538 = .ok (.aload_n 0, 1) := dq_42 (by decide +kernel)
theorem dL_law_539 : decode code 539 = .ok (.iload_n 3, 1) := dq_29 (by decide +kernel)
theorem dL_law_540 : decode code 540 = .ok (.iconst 2, 1) := dq_5 (by decide +kernel)
theorem dL_law_541 : decode code 541 = .ok (.iadd, 1) := dq_96 (by decide +kernel)
theorem dL_law_542 : decode code 542 = .ok (.iaload, 1) := dq_46 (by decide +kernel)
theorem dL_law_543 : decode code 543 = .ok (.invokevirtual 57, 3) := dq_182 (by decide +kernel)
theorem dL_law_546 : decode code 546 = .ok (.pop, 1) := dq_87 (by decide +kernel)
theorem dL_law_547 : decode code 547 = .ok (.aload_n 2, 1) := dq_44 (by decide +kernel)
theorem dL_law_548 : decode code 548 = .ok (.aload_n 0, 1) := dq_42 (by decide +kernel)
theorem dL_law_549 : decode code 549 = .ok (.iload_n 3, 1) := dq_29 (by decide +kernel)
theorem dL_law_550 : decode code 550 = .ok (.iconst 1, 1) := dq_4 (by decide +kernel)
theorem dL_law_551 : decode code 551 = .ok (.iadd, 1) := dq_96 (by decide +kernel)
theorem dL_law_552 : decode code 552 = .ok (.iaload, 1) := dq_46 (by decide +kernel)
theorem dL_law_553 : decode code 553 = .ok (.aload_n 0, 1) := dq_42 (by decide +kernel)
theorem dL_law_554 : decode code 554 = .ok (.iload_n 3, 1) := dq_29 (by decide +kernel)
theorem dL_law_555 : decode code 555 = .ok (.iconst 2, 1) := dq_5 (by decide +kernel)
theorem dL_law_556 : decode code 556 = .ok (.iadd, 1) := dq_96 (by decide +kernel)
theorem dL_law_557 : decode code 557 = .ok (.iaload, 1) := dq_46 (by decide +kernel)
theorem dL_law_558 : decode code 558 = .ok (.invokevirtual 60, 3) := dq_182 (by decide +kernel)
theorem dL_law_561 : decode code 561 = .ok (.pop, 1) := dq_87 (by decide +kernel)
theorem dL_law_562 : decode code 562 = .ok (.goto 988, 3) := dq_167 (by decide +kernel)
theorem dL_law_565 : decode code 565 = .ok (.aload_n 1, 1) := dq_43 (by decide +kernel)
theorem dL_law_566 : decode code 566 = .ok (.aload_n 0, 1) := dq_42 (by decide +kernel)
theorem dL_law_567 : decode code 567 = .ok (.iload_n 3, 1) := dq_29 (by decide +kernel)
theorem dL_law_568 : decode code 568 = .ok (.iconst 1, 1) := dq_4 (by decide +kernel)
theorem dL_law_569 : decode code 569 = .ok (.iadd, 1) := dq_96 (by decide +kernel)
theorem dL_law_570 : decode code 570 = .ok (.iaload, 1) := dq_46 (by decide +kernel)
theorem dL_law_571 : decode code 571 = .ok (.aload_n 0, 1) := dq_42 (by decide +kernel)
theorem dL_law_572 : decode code 572 = .ok (.iload_n 3, 1) := dq_29 (by decide +kernel)
theorem dL_law_573 : decode code 573 = .ok (.iconst 2, 1) := dq_5 (by decide +kernel)
theorem dL_law_574 : decode code 574 = .ok (.iadd, 1) := dq_96 (by decide +kernel)
theorem dL_law_575 : decode code 575 = .ok (.iaload, 1) := dq_46 (by decide +kernel)
theorem dL_law_576 : decode code 576 = .ok (.invokevirtual 61, 3) := dq_182 (by decide +kernel)
theorem dL_law_579 : decode code 579 = .ok (.pop, 1) := dq_87 (by decide +kernel)
theorem dL_law_580 : decode code 580 = .ok (.aload_n 2, 1) := dq_44 (by decide +kernel)
theorem dL_law_581 : decode code 581 = .ok (.aload_n 0, 1) := dq_42 (by decide +kernel)
theorem dL_law_582 : decode code 582 = .ok (.iload_n 3, 1) := dq_29 (by decide +kernel)
theorem dL_law_583 : decode code 583 = .ok (.iconst 1, 1) := dq_4 (by decide +kernel)
theorem dL_law_584 : decode code 584 = .ok (.iadd, 1) := dq_96 (by decide +kernel)
theorem dL_law_585 : decode code 585 = .ok (.iaload, 1) := dq_46 (by decide +kernel)
theorem dL_law_586 : decode code 586 = .ok (.aload_n 0, 1) := dq_42 (by decide +kernel)
theorem dL_law_587 : decode code 587 = .ok (.iload_n 3, 1) := dq_29 (by decide +kernel)
theorem dL_law_588 : decode code 588 = .ok (.iconst 2, 1) := dq_5 (by decide +kernel)
theorem dL_law_589 : decode code 589 = .ok (.iadd, 1) := dq_96 (by decide +kernel)
theorem dL_law_590 : decode code 590 = .ok (.iaload, 1) := dq_46 (by decide +kernel)
theorem dL_law_591 : decode code 591 = .ok (.invokevirtual 64, 3) := dq_182 (by decide +kernel)
theorem dL_law_594 : decode code 594 = .ok (.pop, 1) := dq_87 (by decide +kernel)
theorem dL_law_595 : decode code 595 = .ok (.goto 955, 3) := dq_167 (by decide +kernel)
theorem dL_law_598 : decode code 598 = .ok (.aload_n 1, 1) := dq_43 (by decide +kernel)
theorem dL_law_599 : decode code 599 = .ok (.aload_n 0, 1) := dq_42 (by decide +kernel)
theorem dL_law_600 : decode code 600 = .ok (.iload_n 3, 1) := dq_29 (by decide +kernel)
theorem dL_law_601 : decode code 601 = .ok (.iconst 1, 1) := dq_4 (by decide +kernel)
end
section
theorem dL_law_602 : decode code 602 = .ok (.iadd, 1) := dq_96 (by decide +kernel)
theorem dL_law_603 : decode code 603 = .ok (.iaload, 1) := dq_46 (by decide +kernel)
theorem dL_law_604 : decode code 604 = .ok (.aload_n 0, 1) := dq_42 (by decide +kernel)
theorem dL_law_605 : decode code 605 = .ok (.iload_n 3, 1) := dq_29 (by decide +kernel)
theorem dL_law_606 : decode code 606 = .ok (.iconst 2, 1) := dq_5 (by decide +kernel)
theorem dL_law_607 : decode code 607 = .ok (.iadd, 1) := dq_96 (by decide +kernel)
theorem dL_law_608 : decode code 608 = .ok (.iaload, 1) := dq_46 (by decide +kernel)
theorem dL_law_609 : decode code 609 = .ok (.aload_n 0, 1) := dq_42 (by decide +kernel)
theorem dL_law_610 : decode code 610 = .ok (.iload_n 3, 1) := dq_29 (by decide +kernel)
theorem dL_law_611 : decode code 611 = .ok (.iconst 3, 1) := dq_6 (by decide +kernel)
theorem dL_law_612 : decode code 612 = .ok (.iadd, 1) := dq_96 (by decide +kernel)
theorem dL_law_613 : decode code 613 = .ok (.iaload, 1) := dq_46 (by decide +kernel)
theorem dL_law_614 : decode code 614 = .ok (.aload_n 0, 1) := dq_42 (by decide +kernel)
theorem dL_law_615 : decode code 615 = .ok (.iload_n 3, 1) := dq_29 (by decide +kernel)
theorem dL_law_616 : decode code 616 = .ok (.iconst 4, 1) := dq_7 (by decide +kernel)
theorem dL_law_617 : decode code 617 = .ok (.iadd, 1) := dq_96 (by decide +kernel)
theorem dL_law_618 : decode code 618 = .ok (.iaload, 1) := dq_46 (by decide +kernel)
theorem dL_law_619 : decode code 619 = .ok (.invokevirtual 65, 3) := dq_182 (by decide +kernel)
theorem dL_law_622 : decode code 622 = .ok (.pop, 1) := dq_87 (by decide +kernel)
theorem dL_law_623 : decode code 623 = .ok (.aload_n 2, 1) := dq_44 (by decide +kernel)
theorem dL_law_624 : decode code 624 = .ok (.aload_n 0, 1) := dq_42 (by decide +kernel)
theorem dL_law_625 : decode code 625 = .ok (.iload_n 3, 1) := dq_29 (by decide +kernel)
theorem dL_law_626 : decode code 626 = .ok (.iconst 1, 1) := dq_4 (by decide +kernel)
theorem dL_law_627 : decode code 627 = .ok (.iadd, 1) := dq_96 (by decide +kernel)
theorem dL_law_628 : decode code 628 = .ok (.iaload, 1) := dq_46 (by decide +kernel)
theorem dL_law_629 : decode code 629 = .ok (.aload_n 0, 1) := dq_42 (by decide +kernel)
theorem dL_law_630 : decode code 630 = .ok (.iload_n 3, 1) := dq_29 (by decide +kernel)
theorem dL_law_631 : decode code 631 = .ok (.iconst 2, 1) := dq_5 (by decide +kernel)
theorem dL_law_632 : decode code 632 = .ok (.iadd, 1) := dq_96 (by decide +kernel)
theorem dL_law_633 : decode code 633 = .ok (.iaload, 1) := dq_46 (by decide +kernel)
theorem dL_law_634 : decode code 634 = .ok (.aload_n 0, 1) := dq_42 (by decide +kernel)
theorem dL_law_635 : decode code 635 = .ok (.iload_n 3, 1) := dq_29 (by decide +kernel)
theorem dL_law_636 : decode code 636 = .ok (.iconst 3, 1) := dq_6 (by decide +kernel)
theorem dL_law_637 : decode code 637 = .ok (.iadd, 1) := dq_96 (by decide +kernel)
theorem dL_law_638 : decode code 638 = .ok (.iaload, 1) := dq_46 (by decide +kernel)
theorem dL_law_639 : decode code 639 = .ok (.aload_n 0, 1) := dq_42 (by decide +kernel)
theorem dL_law_640 : decode code 640 = .ok (.iload_n 3, 1) := dq_29 (by decide +kernel)
theorem dL_law_641 : decode code 641 = .ok (.iconst 4, 1) := dq_7 (by decide +kernel)
theorem dL_law_642 : decode code 642 = .ok (.iadd, 1) := dq_96 (by decide +kernel)
theorem dL_law_643 : decode code 643 = .ok (.iaload, 1) := dq_46 (by decide +kernel)
theorem dL_law_644 : decode code 644 = .ok (.invokevirtual 68, 3) := dq_182 (by decide +kernel)
theorem dL_law_647 : decode code 647 = .ok (.pop, 1) := dq_87 (by decide +kernel)
theorem dL_law_648 : decode code 648 = .ok (.goto 902, 3) := dq_167 (by decide +kernel)
theorem dL_law_651 : decode code 651 = .ok (.aload_n 1, 1) := dq_43 (by decide +kernel)
theorem dL_law_652 : decode code 652 = .ok (.aload_n 0, 1) := dq_42 (by decide +kernel)
theorem dL_law_653 : decode code 653 = .ok (.iload_n 3, 1) := dq_29 (by decide +kernel)
theorem dL_law_654 : decode code 654 = .ok (.iconst 1, 1) := dq_4 (by decide +kernel)
theorem dL_law_655 : decode code 655 = .ok (.iadd, 1) := dq_96 (by decide +kernel)
theorem dL_law_656 : decode code 656 = .ok (.iaload, 1) := dq_46 (by decide +kernel)
theorem dL_law_657 : decode code 657 = .ok (.aload_n 0, 1) := dq_42 (by decide +kernel)
theorem dL_law_658 : decode code 658 = .ok (.iload_n 3, 1) := dq_29 (by decide +kernel)
theorem dL_law_659 : decode code 659 = .ok (.iconst 2, 1) := dq_5 (by decide +kernel)
theorem dL_law_660 : decode code 660 = .ok (.iadd, 1) := dq_96 (by decide +kernel)
theorem dL_law_661 : decode code 661 = .ok (.iaload, 1) := dq_46 (by decide +kernel)
theorem dL_law_662 : decode code 662 = .ok (.aload_n 0, 1) := dq_42 (by decide +kernel)
theorem dL_law_663 : decode code 663 = .ok (.iload_n 3, 1) := dq_29 (by decide +kernel)
theorem dL_law_664 : decode code 664 = .ok (.iconst 3, 1) := dq_6 (by decide +kernel)
theorem dL_law_665 : decode code 665 = .ok (.iadd, 1) := dq_96 (by decide +kernel)
theorem dL_law_666 : decode code 666 = .ok (.iaload, 1) := dq_46 (by decide +kernel)
theorem dL_law_667 : decode code 667 = .ok (.aload_n 0, 1) := dq_42 (by decide +kernel)
theorem dL_law_668 : decode code 668 = .ok (.iload_n 3, 1) := dq_29 (by decide +kernel)
theorem dL_law_669 : decode code 669 = .ok (.iconst 4, 1) := dq_7 (by decide +kernel)
theorem dL_law_670 : decode code 670 = .ok (.iadd, 1) := dq_96 (by decide +kernel)
theorem dL_law_671 : decode code 671 = .ok (.iaload, 1) := dq_46 (by decide +kernel)
theorem dL_law_672 : decode code 672 = .ok (.invokevirtual 69, 3) := dq_182 (by decide +kernel)
theorem dL_law_675 : decode code 675 = .ok (.pop, 1) := dq_87 (by decide +kernel)
theorem dL_law_676 : decode code 676 = .ok (.aload_n 2, 1) := dq_44 (by decide +kernel)
theorem dL_law_677 : decode code 677 = .ok (.aload_n 0, 1) := dq_42 (by decide +kernel)
theorem dL_law_678 : decode code 678 = .ok (.iload_n 3, 1) := dq_29 (by decide +kernel)
theorem dL_law_679 : decode code 679 = .ok (.iconst 1, 1) := dq_4 (by decide +kernel)
theorem dL_law_680 : decode code 680 = .ok (.iadd, 1) := dq_96 (by decide +kernel)
theorem dL_law_681 : decode code 681 = .ok (.iaload, 1) := dq_46 (by decide +kernel)
theorem dL_law_682 : decode code 682 = .ok (.aload_n 0, 1) := dq_42 (by decide +kernel)
theorem dL_law_683 : decode code 683 = .ok (.iload_n 3, 1) := dq_29 (by decide +kernel)
theorem dL_law_684 : decode code 684 = .ok (.iconst 2, 1) := dq_5 (by decide +kernel)
theorem dL_law_685 : decode code 685 = .ok (.iadd, 1) := dq_96 (by decide +kernel)
theorem dL_law_686 : decode code 686 = .ok (.iaload, 1) := dq_46 (by decide +kernel)
theorem dL_law_687 : decode code 687 = .ok (.aload_n 0, 1) := dq_42 (by decide +kernel)
theorem dL_law_688 : decode code 688 = .ok (.iload_n 3, 1) := dq_29 (by decide +kernel)
theorem dL_law_689 : decode code 689 = .ok (.iconst 3, 1) := dq_6 (by decide +kernel)
theorem dL_law_690 : decode code 690 = .ok (.iadd, 1) := dq_96 (by decide +kernel)
theorem dL_law_691 : decode code 691 = .ok (.iaload, 1) := dq_46 (by decide +kernel)
theorem dL_law_692 : decode code 692 = .ok (.aload_n 0, 1) := dq_42 (by decide +kernel)
theorem dL_law_693 : decode code 693 = .ok (.iload_n 3, 1) := dq_29 (by decide +kernel)
theorem dL_law_694 : decode code 694 = .ok (.iconst 4, 1) := dq_7 (by decide +kernel)
theorem dL_law_695 : decode code 695 = .ok (.iadd, 1) := dq_96 (by decide +kernel)
theorem dL_law_696 : decode code 696 = .ok (.iaload, 1) := dq_46 (by decide +kernel)
theorem dL_law_697 : decode code 697 = .ok (.invokevirtual 72, 3) := dq_182 (by decide +kernel)
theorem dL_law_700 : decode code 700 = .ok (.pop, 1) := dq_87 (by decide +kernel)
theorem dL_law_701 : decode code 701 = .ok (.goto 849, 3) := dq_167 (by decide +kernel)
theorem dL_law_704 : decode code 704 = .ok (.aload_n 1, 1) := dq_43 (by decide +kernel)
theorem dL_law_705 : decode code 705 = .ok (.aload_n 0, 1) := dq_42 (by decide +kernel)
theorem dL_law_706 : decode code 706 = .ok (.iload_n 3, 1) := dq_29 (by decide +kernel)
theorem dL_law_707 : decode code 707 = .ok (.iconst 1, 1) := dq_4 (by decide +kernel)
theorem dL_law_708 : decode code 708 = .ok (.iadd, 1) := dq_96 (by decide +kernel)
theorem dL_law_709 : decode code 709 = .ok (.iaload, 1) := dq_46 (by decide +kernel)
theorem dL_law_710 : decode code 710 = .ok (.aload_n 0, 1) := dq_42 (by decide +kernel)
theorem dL_law_711 : decode code 711 = .ok (.iload_n 3, 1) := dq_29 (by decide +kernel)
theorem dL_law_712 : decode code 712 = .ok (.iconst 2, 1) := dq_5 (by decide +kernel)
theorem dL_law_713 : decode code 713 = .ok (.iadd, 1) := dq_96 (by decide +kernel)
theorem dL_law_714 : decode code 714 = .ok (.iaload, 1) := dq_46 (by decide +kernel)
theorem dL_law_715 : decode code 715 = .ok (.aload_n 0, 1) := dq_42 (by decide +kernel)
theorem dL_law_716 : decode code 716 = .ok (.iload_n 3, 1) := dq_29 (by decide +kernel)
theorem dL_law_717 : decode code 717 = .ok (.iconst 3, 1) := dq_6 (by decide +kernel)
theorem dL_law_718 : decode code 718 = .ok (.iadd, 1) := dq_96 (by decide +kernel)
theorem dL_law_719 : decode code 719 = .ok (.iaload, 1) := dq_46 (by decide +kernel)
theorem dL_law_720 : decode code 720 = .ok (.invokevirtual 73, 3) := dq_182 (by decide +kernel)
theorem dL_law_723 : decode code 723 = .ok (.pop, 1) := dq_87 (by decide +kernel)
theorem dL_law_724 : decode code 724 = .ok (.aload_n 2, 1) := dq_44 (by decide +kernel)
theorem dL_law_725 : decode code 725 = .ok (.aload_n 0, 1) := dq_42 (by decide +kernel)
theorem dL_law_726 : decode code 726 = .ok (.iload_n 3, 1) := dq_29 (by decide +kernel)
theorem dL_law_727 : decode code 727 = .ok (.iconst 1, 1) := dq_4 (by decide +kernel)
theorem dL_law_728 : decode code 728 = .ok (.iadd, 1) := dq_96 (by decide +kernel)
theorem dL_law_729 : decode code 729 = .ok (.iaload, 1) := dq_46 (by decide +kernel)
theorem dL_law_730 : decode code 730 = .ok (.aload_n 0, 1) := dq_42 (by decide +kernel)
theorem dL_law_731 : decode code 731 = .ok (.iload_n 3, 1) := dq_29 (by decide +kernel)
theorem dL_law_732 : decode code 732 = .ok (.iconst 2, 1) := dq_5 (by decide +kernel)
theorem dL_law_733 : decode code 733 = .ok (.iadd, 1) := dq_96 (by decide +kernel)
theorem dL_law_734 : decode code 734 = .ok (.iaload, 1) := dq_46 (by decide +kernel)
theorem dL_law_735 : decode code 735 = .ok (.aload_n 0, 1) := dq_42 (by decide +kernel)
end
section
theorem dL_law_736 : decode code 736 = .ok (.iload_n 3, 1) := dq_29 (by decide +kernel)
theorem dL_law_737 : decode code 737 = .ok (.iconst 3, 1) := dq_6 (by decide +kernel)
theorem dL_law_738 : decode code 738 = .ok (.iadd, 1) := dq_96 (by decide +kernel)
theorem dL_law_739 : decode code 739 = .ok (.iaload, 1) := dq_46 (by decide +kernel)
theorem dL_law_740 : decode code 740 = .ok (.invokevirtual 76, 3) := dq_182 (by decide +kernel)
theorem dL_law_743 : decode code 743 = .ok (.pop, 1) := dq_87 (by decide +kernel)
theorem dL_law_744 : decode code 744 = .ok (.goto 806, 3) := dq_167 (by decide +kernel)
theorem dL_law_747 : decode code 747 = .ok (.aload_n 1, 1) := dq_43 (by decide +kernel)
theorem dL_law_748 : decode code 748 = .ok (.aload_n 0, 1) := dq_42 (by decide +kernel)
theorem dL_law_749 : decode code 749 = .ok (.iload_n 3, 1) := dq_29 (by decide +kernel)
theorem dL_law_750 : decode code 750 = .ok (.iconst 1, 1) := dq_4 (by decide +kernel)
theorem dL_law_751 : decode code 751 = .ok (.iadd, 1) := dq_96 (by decide +kernel)
theorem dL_law_752 : decode code 752 = .ok (.iaload, 1) := dq_46 (by decide +kernel)
theorem dL_law_753 : decode code 753 = .ok (.aload_n 0, 1) := dq_42 (by decide +kernel)
theorem dL_law_754 : decode code 754 = .ok (.iload_n 3, 1) := dq_29 (by decide +kernel)
theorem dL_law_755 : decode code 755 = .ok (.iconst 2, 1) := dq_5 (by decide +kernel)
theorem dL_law_756 : decode code 756 = .ok (.iadd, 1) := dq_96 (by decide +kernel)
theorem dL_law_757 : decode code 757 = .ok (.iaload, 1) := dq_46 (by decide +kernel)
theorem dL_law_758 : decode code 758 = .ok (.aload_n 0, 1) := dq_42 (by decide +kernel)
theorem dL_law_759 : decode code 759 = .ok (.iload_n 3, 1) := dq_29 (by decide +kernel)
theorem dL_law_760 : decode code 760 = .ok (.iconst 3, 1) := dq_6 (by decide +kernel)
theorem dL_law_761 : decode code 761 = .ok (.iadd, 1) := dq_96 (by decide +kernel)
theorem dL_law_762 : decode code 762 = .ok (.iaload, 1) := dq_46 (by decide +kernel)
theorem dL_law_763 : decode code 763 = .ok (.invokevirtual 77, 3) := dq_182 (by decide +kernel)
theorem dL_law_766 : decode code 766 = .ok (.pop, 1) := dq_87 (by decide +kernel)
theorem dL_law_767 : decode code 767 = .ok (.aload_n 2, 1) := dq_44 (by decide +kernel)
theorem dL_law_768 : decode code 768 = .ok (.aload_n 0, 1) := dq_42 (by decide +kernel)
theorem dL_law_769 : decode code 769 = .ok (.iload_n 3, 1) := dq_29 (by decide +kernel)
theorem dL_law_770 : decode code 770 = .ok (.iconst 1, 1) := dq_4 (by decide +kernel)
theorem dL_law_771 : decode code 771 = .ok (.iadd, 1) := dq_96 (by decide +kernel)
theorem dL_law_772 : decode code 772 = .ok (.iaload, 1) := dq_46 (by decide +kernel)
theorem dL_law_773 : decode code 773 = .ok (.aload_n 0, 1) := dq_42 (by decide +kernel)
theorem dL_law_774 : decode code 774 = .ok (.iload_n 3, 1) := dq_29 (by decide +kernel)
theorem dL_law_775 : decode code 775 = .ok (.iconst 2, 1) := dq_5 (by decide +kernel)
theorem dL_law_776 : decode code 776 = .ok (.iadd, 1) := dq_96 (by decide +kernel)
theorem dL_law_777 : decode code 777 = .ok (.iaload, 1) := dq_46 (by decide +kernel)
theorem dL_law_778 : decode code 778 = .ok (.aload_n 0, 1) := dq_42 (by decide +kernel)
theorem dL_law_779 : decode code 779 = .ok (.iload_n 3, 1) := dq_29 (by decide +kernel)
theorem dL_law_780 : decode code 780 = .ok (.iconst 3, 1) := dq_6 (by decide +kernel)
theorem dL_law_781 : decode code 781 = .ok (.iadd, 1) := dq_96 (by decide +kernel)
theorem dL_law_782 : decode code 782 = .ok (.iaload, 1) := dq_46 (by decide +kernel)
theorem dL_law_783 : decode code 783 = .ok (.invokevirtual 80, 3) := dq_182 (by decide +kernel)
theorem dL_law_786 : decode code 786 = .ok (.pop, 1) := dq_87 (by decide +kernel)
theorem dL_law_787 : decode code 787 = .ok (.goto 763, 3) := dq_167 (by decide +kernel)
theorem dL_law_790 : decode code 790 = .ok (.aload_n 1, 1) := dq_43 (by decide +kernel)
theorem dL_law_791 : decode code 791 = .ok (.aload_n 0, 1) := dq_42 (by decide +kernel)
theorem dL_law_792 : decode code 792 = .ok (.iload_n 3, 1) := dq_29 (by decide +kernel)
theorem dL_law_793 : decode code 793 = .ok (.iconst 1, 1) := dq_4 (by decide +kernel)
theorem dL_law_794 : decode code 794 = .ok (.iadd, 1) := dq_96 (by decide +kernel)
theorem dL_law_795 : decode code 795 = .ok (.iaload, 1) := dq_46 (by decide +kernel)
theorem dL_law_796 : decode code 796 = .ok (.aload_n 0, 1) := dq_42 (by decide +kernel)
theorem dL_law_797 : decode code 797 = .ok (.iload_n 3, 1) := dq_29 (by decide +kernel)
theorem dL_law_798 : decode code 798 = .ok (.iconst 2, 1) := dq_5 (by decide +kernel)
theorem dL_law_799 : decode code 799 = .ok (.iadd, 1) := dq_96 (by decide +kernel)
theorem dL_law_800 : decode code 800 = .ok (.iaload, 1) := dq_46 (by decide +kernel)
theorem dL_law_801 : decode code 801 = .ok (.aload_n 0, 1) := dq_42 (by decide +kernel)
theorem dL_law_802 : decode code 802 = .ok (.iload_n 3, 1) := dq_29 (by decide +kernel)
theorem dL_law_803 : decode code 803 = .ok (.iconst 3, 1) := dq_6 (by decide +kernel)
theorem dL_law_804 : decode code 804 = .ok (.iadd, 1) := dq_96 (by decide +kernel)
theorem dL_law_805 : decode code 805 = .ok (.iaload, 1) := dq_46 (by decide +kernel)
theorem dL_law_806 : decode code 806 = .ok (.aload_n 0, 1) := dq_42 (by decide +kernel)
theorem dL_law_807 : decode code 807 = .ok (.iload_n 3, 1) := dq_29 (by decide +kernel)
theorem dL_law_808 : decode code 808 = .ok (.iconst 4, 1) := dq_7 (by decide +kernel)
theorem dL_law_809 : decode code 809 = .ok (.iadd, 1) := dq_96 (by decide +kernel)
theorem dL_law_810 : decode code 810 = .ok (.iaload, 1) := dq_46 (by decide +kernel)
theorem dL_law_811 : decode code 811 = .ok (.aload_n 0, 1) := dq_42 (by decide +kernel)
theorem dL_law_812 : decode code 812 = .ok (.iload_n 3, 1) := dq_29 (by decide +kernel)
theorem dL_law_813 : decode code 813 = .ok (.iconst 5, 1) := dq_8 (by decide +kernel)
theorem dL_law_814 : decode code 814 = .ok (.iadd, 1) := dq_96 (by decide +kernel)
theorem dL_law_815 : decode code 815 = .ok (.iaload, 1) := dq_46 (by decide +kernel)
theorem dL_law_816 : decode code 816 = .ok (.invokevirtual 81, 3) := dq_182 (by decide +kernel)
theorem dL_law_819 : decode code 819 = .ok (.pop, 1) := dq_87 (by decide +kernel)
theorem dL_law_820 : decode code 820 = .ok (.aload_n 2, 1) := dq_44 (by decide +kernel)
theorem dL_law_821 : decode code 821 = .ok (.aload_n 0, 1) := dq_42 (by decide +kernel)
theorem dL_law_822 : decode code 822 = .ok (.iload_n 3, 1) := dq_29 (by decide +kernel)
theorem dL_law_823 : decode code 823 = .ok (.iconst 1, 1) := dq_4 (by decide +kernel)
theorem dL_law_824 : decode code 824 = .ok (.iadd, 1) := dq_96 (by decide +kernel)
theorem dL_law_825 : decode code 825 = .ok (.iaload, 1) := dq_46 (by decide +kernel)
theorem dL_law_826 : decode code 826 = .ok (.aload_n 0, 1) := dq_42 (by decide +kernel)
theorem dL_law_827 : decode code 827 = .ok (.iload_n 3, 1) := dq_29 (by decide +kernel)
theorem dL_law_828 : decode code 828 = .ok (.iconst 2, 1) := dq_5 (by decide +kernel)
theorem dL_law_829 : decode code 829 = .ok (.iadd, 1) := dq_96 (by decide +kernel)
theorem dL_law_830 : decode code 830 = .ok (.iaload, 1) := dq_46 (by decide +kernel)
theorem dL_law_831 : decode code 831 = .ok (.aload_n 0, 1) := dq_42 (by decide +kernel)
theorem dL_law_832 : decode code 832 = .ok (.iload_n 3, 1) := dq_29 (by decide +kernel)
theorem dL_law_833 : decode code 833 = .ok (.iconst 3, 1) := dq_6 (by decide +kernel)
theorem dL_law_834 : decode code 834 = .ok (.iadd, 1) := dq_96 (by decide +kernel)
theorem dL_law_835 : decode code 835 = .ok (.iaload, 1) := dq_46 (by decide +kernel)
theorem dL_law_836 : decode code 836 = .ok (.aload_n 0, 1) := dq_42 (by decide +kernel)
theorem dL_law_837 : decode code 837 = .ok (.iload_n 3, 1) := dq_29 (by decide +kernel)
theorem dL_law_838 : decode code 838 = .ok (.iconst 4, 1) := dq_7 (by decide +kernel)
theorem dL_law_839 : decode code 839 = .ok (.iadd, 1) := dq_96 (by decide +kernel)
theorem dL_law_840 : decode code 840 = .ok (.iaload, 1) := dq_46 (by decide +kernel)
theorem dL_law_841 : decode code 841 = .ok (.aload_n 0, 1) := dq_42 (by decide +kernel)
theorem dL_law_842 : decode code 842 = .ok (.iload_n 3, 1) := dq_29 (by decide +kernel)
theorem dL_law_843 : decode code 843 = .ok (.iconst 5, 1) := dq_8 (by decide +kernel)
theorem dL_law_844 : decode code 844 = .ok (.iadd, 1) := dq_96 (by decide +kernel)
theorem dL_law_845 : decode code 845 = .ok (.iaload, 1) := dq_46 (by decide +kernel)
theorem dL_law_846 : decode code 846 = .ok (.invokevirtual 85, 3) := dq_182 (by decide +kernel)
theorem dL_law_849 : decode code 849 = .ok (.pop, 1) := dq_87 (by decide +kernel)
theorem dL_law_850 : decode code 850 = .ok (.goto 700, 3) := dq_167 (by decide +kernel)
theorem dL_law_853 : decode code 853 = .ok (.aload_n 1, 1) := dq_43 (by decide +kernel)
theorem dL_law_854 : decode code 854 = .ok (.aload_n 0, 1) := dq_42 (by decide +kernel)
theorem dL_law_855 : decode code 855 = .ok (.iload_n 3, 1) := dq_29 (by decide +kernel)
theorem dL_law_856 : decode code 856 = .ok (.iconst 1, 1) := dq_4 (by decide +kernel)
theorem dL_law_857 : decode code 857 = .ok (.iadd, 1) := dq_96 (by decide +kernel)
theorem dL_law_858 : decode code 858 = .ok (.iaload, 1) := dq_46 (by decide +kernel)
theorem dL_law_859 : decode code 859 = .ok (.aload_n 0, 1) := dq_42 (by decide +kernel)
theorem dL_law_860 : decode code 860 = .ok (.iload_n 3, 1) := dq_29 (by decide +kernel)
theorem dL_law_861 : decode code 861 = .ok (.iconst 2, 1) := dq_5 (by decide +kernel)
theorem dL_law_862 : decode code 862 = .ok (.iadd, 1) := dq_96 (by decide +kernel)
theorem dL_law_863 : decode code 863 = .ok (.iaload, 1) := dq_46 (by decide +kernel)
theorem dL_law_864 : decode code 864 = .ok (.aload_n 0, 1) := dq_42 (by decide +kernel)
theorem dL_law_865 : decode code 865 = .ok (.iload_n 3, 1) := dq_29 (by decide +kernel)
theorem dL_law_866 : decode code 866 = .ok (.iconst 3, 1) := dq_6 (by decide +kernel)
theorem dL_law_867 : decode code 867 = .ok (.iadd, 1) := dq_96 (by decide +kernel)
theorem dL_law_868 : decode code 868 = .ok (.iaload, 1) := dq_46 (by decide +kernel)
theorem dL_law_869 : decode code 869 = .ok (.aload_n 0, 1) := dq_42 (by decide +kernel)
theorem dL_law_870 : decode code 870 = .ok (.iload_n 3, 1) := dq_29 (by decide +kernel)
theorem dL_law_871 : decode code 871 = .ok (.iconst 4, 1) := dq_7 (by decide +kernel)
end
section
theorem dL_law_872 : decode code 872 = .ok (.iadd, 1) := dq_96 (by decide +kernel)
theorem dL_law_873 : decode code 873 = .ok (.iaload, 1) := dq_46 (by decide +kernel)
theorem dL_law_874 : decode code 874 = .ok (.invokevirtual 86, 3) := dq_182 (by decide +kernel)
theorem dL_law_877 : decode code 877 = .ok (.pop, 1) := dq_87 (by decide +kernel)
theorem dL_law_878 : decode code 878 = .ok (.aload_n 2, 1) := dq_44 (by decide +kernel)
theorem dL_law_879 : decode code 879 = .ok (.aload_n 0, 1) := dq_42 (by decide +kernel)
theorem dL_law_880 : decode code 880 = .ok (.iload_n 3, 1) := dq_29 (by decide +kernel)
theorem dL_law_881 : decode code 881 = .ok (.iconst 1, 1) := dq_4 (by decide +kernel)
theorem dL_law_882 : decode code 882 = .ok (.iadd, 1) := dq_96 (by decide +kernel)
theorem dL_law_883 : decode code 883 = .ok (.iaload, 1) := dq_46 (by decide +kernel)
theorem dL_law_884 : decode code 884 = .ok (.aload_n 0, 1) := dq_42 (by decide +kernel)
theorem dL_law_885 : decode code 885 = .ok (.iload_n 3, 1) := dq_29 (by decide +kernel)
theorem dL_law_886 : decode code 886 = .ok (.iconst 2, 1) := dq_5 (by decide +kernel)
theorem dL_law_887 : decode code 887 = .ok (.iadd, 1) := dq_96 (by decide +kernel)
theorem dL_law_888 : decode code 888 = .ok (.iaload, 1) := dq_46 (by decide +kernel)
theorem dL_law_889 : decode code 889 = .ok (.aload_n 0, 1) := dq_42 (by decide +kernel)
theorem dL_law_890 : decode code 890 = .ok (.iload_n 3, 1) := dq_29 (by decide +kernel)
theorem dL_law_891 : decode code 891 = .ok (.iconst 3, 1) := dq_6 (by decide +kernel)
theorem dL_law_892 : decode code 892 = .ok (.iadd, 1) := dq_96 (by decide +kernel)
theorem dL_law_893 : decode code 893 = .ok (.iaload, 1) := dq_46 (by decide +kernel)
theorem dL_law_894 : decode code 894 = .ok (.aload_n 0, 1) := dq_42 (by decide +kernel)
theorem dL_law_895 : decode code 895 = .ok (.iload_n 3, 1) := dq_29 (by decide +kernel)
theorem dL_law_896 : decode code 896 = .ok (.iconst 4, 1) := dq_7 (by decide +kernel)
theorem dL_law_897 : decode code 897 = .ok (.iadd, 1) := dq_96 (by decide +kernel)
theorem dL_law_898 : decode code 898 = .ok (.iaload, 1) := dq_46 (by decide +kernel)
theorem dL_law_899 : decode code 899 = .ok (.invokevirtual 89, 3) := dq_182 (by decide +kernel)
theorem dL_law_902 : decode code 902 = .ok (.pop, 1) := dq_87 (drq_bt 800 102 rfl (by decide +kernel))
theorem dL_law_903 : decode code 903 = .ok (.goto 647, 3) := dq_167 (drq_bt 800 103 rfl (by decide +kernel))
theorem dL_law_906 : decode code 906 = .ok (.aload_n 1, 1) := dq_43 (drq_bt 800 106 rfl (by decide +kernel))
theorem dL_law_907 : decode code 907 = .ok (.aload_n 0, 1) := dq_42 (drq_bt 800 107 rfl (by decide +kernel))
theorem dL_law_908 : decode code 908 = .ok (.iload_n 3, 1) := dq_29 (drq_bt 800 108 rfl (by decide +kernel))
theorem dL_law_909 : decode code 909 = .ok (.iconst 1, 1) := dq_4 (drq_bt 800 109 rfl (by decide +kernel))
theorem dL_law_910 : decode code 910 = .ok (.iadd, 1) := dq_96 (drq_bt 800 110 rfl (by decide +kernel))
theorem dL_law_911 : decode code 911 = .ok (.iaload, 1) := dq_46 (drq_bt 800 111 rfl (by decide +kernel))
theorem dL_law_912 : decode code 912 = .ok (.aload_n 0, 1) := dq_42 (drq_bt 800 112 rfl (by decide +kernel))
theorem dL_law_913 : decode code 913 = .ok (.iload_n 3, 1) := dq_29 (drq_bt 800 113 rfl (by decide +kernel))
theorem dL_law_914 : decode code 914 = .ok (.iconst 2, 1) := dq_5 (drq_bt 800 114 rfl (by decide +kernel))
theorem dL_law_915 : decode code 915 = .ok (.iadd, 1) := dq_96 (drq_bt 800 115 rfl (by decide +kernel))
theorem dL_law_916 : decode code 916 = .ok (.iaload, 1) := dq_46 (drq_bt 800 116 rfl (by decide +kernel))
theorem dL_law_917 : decode code 917 = .ok (.invokevirtual 90, 3) := dq_182 (drq_bt 800 117 rfl (by decide +kernel))
theorem dL_law_920 : decode code 920 = .ok (.pop, 1) := dq_87 (drq_bt 800 120 rfl (by decide +kernel))
theorem dL_law_921 : decode code 921 = .ok (.aload_n 2, 1) := dq_44 (drq_bt 800 121 rfl (by decide +kernel))
theorem dL_law_922 : decode code 922 = .ok (.aload_n 0, 1) := dq_42 (drq_bt 800 122 rfl (by decide +kernel))
theorem dL_law_923 : decode code 923 = .ok (.iload_n 3, 1) := dq_29 (drq_bt 800 123 rfl (by decide +kernel))
theorem dL_law_924 : decode code 924 = .ok (.iconst 1, 1) := dq_4 (drq_bt 800 124 rfl (by decide +kernel))
theorem dL_law_925 : decode code 925 = .ok (.iadd, 1) := dq_96 (drq_bt 800 125 rfl (by decide +kernel))
theorem dL_law_926 : decode code 926 = .ok (.iaload, 1) := dq_46 (drq_bt 800 126 rfl (by decide +kernel))
theorem dL_law_927 : decode code 927 = .ok (.aload_n 0, 1) := dq_42 (drq_bt 800 127 rfl (by decide +kernel))
theorem dL_law_928 : decode code 928 = .ok (.iload_n 3, 1) := dq_29 (drq_bt 800 128 rfl (by decide +kernel))
theorem dL_law_929 : decode code 929 = .ok (.iconst 2, 1) := dq_5 (drq_bt 800 129 rfl (by decide +kernel))
theorem dL_law_930 : decode code 930 = .ok (.iadd, 1) := dq_96 (drq_bt 800 130 rfl (by decide +kernel))
theorem dL_law_931 : decode code 931 = .ok (.iaload, 1) := dq_46 (drq_bt 800 131 rfl (by decide +kernel))
theorem dL_law_932 : decode code 932 = .ok (.invokevirtual 93, 3) := dq_182 (drq_bt 800 132 rfl (by decide +kernel))
theorem dL_law_935 : decode code 935 = .ok (.pop, 1) := dq_87 (drq_bt 800 135 rfl (by decide +kernel))
theorem dL_law_936 : decode code 936 = .ok (.goto 614, 3) := dq_167 (drq_bt 800 136 rfl (by decide +kernel))
theorem dL_law_939 : decode code 939 = .ok (.aload_n 1, 1) := dq_43 (drq_bt 800 139 rfl (by decide +kernel))
theorem dL_law_940 : decode code 940 = .ok (.aload_n 0, 1) := dq_42 (drq_bt 800 140 rfl (by decide +kernel))
theorem dL_law_941 : decode code 941 = .ok (.iload_n 3, 1) := dq_29 (drq_bt 800 141 rfl (by decide +kernel))
theorem dL_law_942 : decode code 942 = .ok (.iconst 1, 1) := dq_4 (drq_bt 800 142 rfl (by decide +kernel))
theorem dL_law_943 : decode code 943 = .ok (.iadd, 1) := dq_96 (drq_bt 800 143 rfl (by decide +kernel))
theorem dL_law_944 : decode code 944 = .ok (.iaload, 1) := dq_46 (drq_bt 800 144 rfl (by decide +kernel))
theorem dL_law_945 : decode code 945 = .ok (.invokevirtual 94, 3) := dq_182 (drq_bt 800 145 rfl (by decide +kernel))
theorem dL_law_948 : decode code 948 = .ok (.pop, 1) := dq_87 (drq_bt 800 148 rfl (by decide +kernel))
theorem dL_law_949 : decode code 949 = .ok (.aload_n 2, 1) := dq_44 (drq_bt 800 149 rfl (by decide +kernel))
theorem dL_law_950 : decode code 950 = .ok (.aload_n 0, 1) := dq_42 (drq_bt 800 150 rfl (by decide +kernel))
theorem dL_law_951 : decode code 951 = .ok (.iload_n 3, 1) := dq_29 (drq_bt 800 151 rfl (by decide +kernel))
theorem dL_law_952 : decode code 952 = .ok (.iconst 1, 1) := dq_4 (drq_bt 800 152 rfl (by decide +kernel))
theorem dL_law_953 : decode code 953 = .ok (.iadd, 1) := dq_96 (drq_bt 800 153 rfl (by decide +kernel))
theorem dL_law_954 : decode code 954 = .ok (.iaload, 1) := dq_46 (drq_bt 800 154 rfl (by decide +kernel))
theorem dL_law_955 : decode code 955 = .ok (.invokevirtual 97, 3) := dq_182 (drq_bt 800 155 rfl (by decide +kernel))
theorem dL_law_958 : decode code 958 = .ok (.pop, 1) := dq_87 (drq_bt 800 158 rfl (by decide +kernel))
theorem dL_law_959 : decode code 959 = .ok (.goto 591, 3) := dq_167 (drq_bt 800 159 rfl (by decide +kernel))
theorem dL_law_962 : decode code 962 = .ok (.aload_n 1, 1) := dq_43 (drq_bt 800 162 rfl (by decide +kernel))
theorem dL_law_963 : decode code 963 = .ok (.aload_n 0, 1) := dq_42 (drq_bt 800 163 rfl (by decide +kernel))
theorem dL_law_964 : decode code 964 = .ok (.iload_n 3, 1) := dq_29 (drq_bt 800 164 rfl (by decide +kernel))
theorem dL_law_965 : decode code 965 = .ok (.iconst 1, 1) := dq_4 (drq_bt 800 165 rfl (by decide +kernel))
theorem dL_law_966 : decode code 966 = .ok (.iadd, 1) := dq_96 (drq_bt 800 166 rfl (by decide +kernel))
theorem dL_law_967 : decode code 967 = .ok (.iaload, 1) := dq_46 (drq_bt 800 167 rfl (by decide +kernel))
theorem dL_law_968 : decode code 968 = .ok (.aload_n 0, 1) := dq_42 (drq_bt 800 168 rfl (by decide +kernel))
theorem dL_law_969 : decode code 969 = .ok (.iload_n 3, 1) := dq_29 (drq_bt 800 169 rfl (by decide +kernel))
theorem dL_law_970 : decode code 970 = .ok (.iconst 2, 1) := dq_5 (drq_bt 800 170 rfl (by decide +kernel))
theorem dL_law_971 : decode code 971 = .ok (.iadd, 1) := dq_96 (drq_bt 800 171 rfl (by decide +kernel))
theorem dL_law_972 : decode code 972 = .ok (.iaload, 1) := dq_46 (drq_bt 800 172 rfl (by decide +kernel))
theorem dL_law_973 : decode code 973 = .ok (.aload_n 0, 1) := dq_42 (drq_bt 800 173 rfl (by decide +kernel))
theorem dL_law_974 : decode code 974 = .ok (.iload_n 3, 1) := dq_29 (drq_bt 800 174 rfl (by decide +kernel))
theorem dL_law_975 : decode code 975 = .ok (.iconst 3, 1) := dq_6 (drq_bt 800 175 rfl (by decide +kernel))
theorem dL_law_976 : decode code 976 = .ok (.iadd, 1) := dq_96 (drq_bt 800 176 rfl (by decide +kernel))
theorem dL_law_977 : decode code 977 = .ok (.iaload, 1) := dq_46 (drq_bt 800 177 rfl (by decide +kernel))
theorem dL_law_978 : decode code 978 = .ok (.invokevirtual 98, 3) := dq_182 (drq_bt 800 178 rfl (by decide +kernel))
theorem dL_law_981 : decode code 981 = .ok (.pop, 1) := dq_87 (drq_bt 800 181 rfl (by decide +kernel))
theorem dL_law_982 : decode code 982 = .ok (.aload_n 2, 1) := dq_44 (drq_bt 800 182 rfl (by decide +kernel))
theorem dL_law_983 : decode code 983 = .ok (.aload_n 0, 1) := dq_42 (drq_bt 800 183 rfl (by decide +kernel))
theorem dL_law_984 : decode code 984 = .ok (.iload_n 3, 1) := dq_29 (drq_bt 800 184 rfl (by decide +kernel))
theorem dL_law_985 : decode code 985 = .ok (.iconst 1, 1) := dq_4 (drq_bt 800 185 rfl (by decide +kernel))
theorem dL_law_986 : decode code 986 = .ok (.iadd, 1) := dq_96 (drq_bt 800 186 rfl (by decide +kernel))
theorem dL_law_987 : decode code 987 = .ok (.iaload, 1) := dq_46 (drq_bt 800 187 rfl (by decide +kernel))
theorem dL_law_988 : decode code 988 = .ok (.aload_n 0, 1) := dq_42 (drq_bt 800 188 rfl (by decide +kernel))
theorem dL_law_989 : decode code 989 = .ok (.iload_n 3, 1) := dq_29 (drq_bt 800 189 rfl (by decide +kernel))
theorem dL_law_990 : decode code 990 = .ok (.iconst 2, 1) := dq_5 (drq_bt 800 190 rfl (by decide +kernel))
theorem dL_law_991 : decode code 991 = .ok (.iadd, 1) := dq_96 (drq_bt 800 191 rfl (by decide +kernel))
theorem dL_law_992 : decode code 992 = .ok (.iaload, 1) := dq_46 (drq_bt 800 192 rfl (by decide +kernel))
theorem dL_law_993 : decode code 993 = .ok (.aload_n 0, 1) := dq_42 (drq_bt 800 193 rfl (by decide +kernel))
theorem dL_law_994 : decode code 994 = .ok (.iload_n 3, 1) := dq_29 (drq_bt 800 194 rfl (by decide +kernel))
theorem dL_law_995 : decode code 995 = .ok (.iconst 3, 1) := dq_6 (drq_bt 800 195 rfl (by decide +kernel))
theorem dL_law_996 : decode code 996 = .ok (.iadd, 1) := dq_96 (drq_bt 800 196 rfl (by decide +kernel))
theorem dL_law_997 : decode code 997 = .ok (.iaload, 1) := dq_46 (drq_bt 800 197 rfl (by decide +kernel))
theorem dL_law_998 : decode code 998 = .ok (.invokevirtual 101, 3) := dq_182 (drq_bt 800 198 rfl (by decide +kernel))
theorem dL_law_1001 : decode code 1001 = .ok (.pop, 1) := dq_87 (drq_bt 800 201 rfl (by decide +kernel))
theorem dL_law_1002 : decode code 1002 = .ok (.goto 548, 3) := dq_167 (drq_bt 800 202 rfl (by decide +kernel))
theorem dL_law_1005 : decode code 1005 = .ok (.aload_n 1, 1) := dq_43 (drq_bt 800 205 rfl (by decide +kernel))
theorem dL_law_1006 : decode code 1006 = .ok (.aload_n 0, 1) := dq_42 (drq_bt 800 206 rfl (by decide +kernel))
theorem dL_law_1007 : decode code 1007 = .ok (.iload_n 3, 1) := dq_29 (drq_bt 800 207 rfl (by decide +kernel))
theorem dL_law_1008 : decode code 1008 = .ok (.iconst 1, 1) := dq_4 (drq_bt 800 208 rfl (by decide +kernel))
theorem dL_law_1009 : decode code 1009 = .ok (.iadd, 1) := dq_96 (drq_bt 800 209 rfl (by decide +kernel))
theorem dL_law_1010 : decode code 1010 = .ok (.iaload, 1) := dq_46 (drq_bt 800 210 rfl (by decide +kernel))
theorem dL_law_1011 : decode code 1011 = .ok (.aload_n 0, 1) := dq_42 (drq_bt 800 211 rfl (by decide +kernel))
theorem dL_law_1012 : decode code 1012 = .ok (.iload_n 3, 1) := dq_29 (drq_bt 800 212 rfl (by decide +kernel))
theorem dL_law_1013 : decode code 1013 = .ok (.iconst 2, 1) := dq_5 (drq_bt 800 213 rfl (by decide +kernel))
theorem dL_law_1014 : decode code 1014 = .ok (.iadd, 1) := dq_96 (drq_bt 800 214 rfl (by decide +kernel))
theorem dL_law_1015 : decode code 1015 = .ok (.iaload, 1) := dq_46 (drq_bt 800 215 rfl (by decide +kernel))
end
section
theorem dL_law_1016 : decode code 1016 = .ok (.aload_n 0, 1) := dq_42 (drq_bt 800 216 rfl (by decide +kernel))
theorem dL_law_1017 : decode code 1017 = .ok (.iload_n 3, 1) := dq_29 (drq_bt 800 217 rfl (by decide +kernel))
theorem dL_law_1018 : decode code 1018 = .ok (.iconst 3, 1) := dq_6 (drq_bt 800 218 rfl (by decide +kernel))
theorem dL_law_1019 : decode code 1019 = .ok (.iadd, 1) := dq_96 (drq_bt 800 219 rfl (by decide +kernel))
theorem dL_law_1020 : decode code 1020 = .ok (.iaload, 1) := dq_46 (drq_bt 800 220 rfl (by decide +kernel))
theorem dL_law_1021 : decode code 1021 = .ok (.invokevirtual 102, 3) := dq_182 (drq_bt 800 221 rfl (by decide +kernel))
theorem dL_law_1024 : decode code 1024 = .ok (.pop, 1) := dq_87 (drq_bt 800 224 rfl (by decide +kernel))
theorem dL_law_1025 : decode code 1025 = .ok (.aload_n 2, 1) := dq_44 (drq_bt 800 225 rfl (by decide +kernel))
theorem dL_law_1026 : decode code 1026 = .ok (.aload_n 0, 1) := dq_42 (drq_bt 800 226 rfl (by decide +kernel))
theorem dL_law_1027 : decode code 1027 = .ok (.iload_n 3, 1) := dq_29 (drq_bt 800 227 rfl (by decide +kernel))
theorem dL_law_1028 : decode code 1028 = .ok (.iconst 1, 1) := dq_4 (drq_bt 800 228 rfl (by decide +kernel))
theorem dL_law_1029 : decode code 1029 = .ok (.iadd, 1) := dq_96 (drq_bt 800 229 rfl (by decide +kernel))
theorem dL_law_1030 : decode code 1030 = .ok (.iaload, 1) := dq_46 (drq_bt 800 230 rfl (by decide +kernel))
theorem dL_law_1031 : decode code 1031 = .ok (.aload_n 0, 1) := dq_42 (drq_bt 800 231 rfl (by decide +kernel))
theorem dL_law_1032 : decode code 1032 = .ok (.iload_n 3, 1) := dq_29 (drq_bt 800 232 rfl (by decide +kernel))
theorem dL_law_1033 : decode code 1033 = .ok (.iconst 2, 1) := dq_5 (drq_bt 800 233 rfl (by decide +kernel))
theorem dL_law_1034 : decode code 1034 = .ok (.iadd, 1) := dq_96 (drq_bt 800 234 rfl (by decide +kernel))
theorem dL_law_1035 : decode code 1035 = .ok (.iaload, 1) := dq_46 (drq_bt 800 235 rfl (by decide +kernel))
theorem dL_law_1036 : decode code 1036 = .ok (.aload_n 0, 1) := dq_42 (drq_bt 800 236 rfl (by decide +kernel))
theorem dL_law_1037 : decode code 1037 = .ok (.iload_n 3, 1) := dq_29 (drq_bt 800 237 rfl (by decide +kernel))
theorem dL_law_1038 : decode code 1038 = .ok (.iconst 3, 1) := dq_6 (drq_bt 800 238 rfl (by decide +kernel))
theorem dL_law_1039 : decode code 1039 = .ok (.iadd, 1) := dq_96 (drq_bt 800 239 rfl (by decide +kernel))
theorem dL_law_1040 : decode code 1040 = .ok (.iaload, 1) := dq_46 (drq_bt 800 240 rfl (by decide +kernel))
theorem dL_law_1041 : decode code 1041 = .ok (.invokevirtual 105, 3) := dq_182 (drq_bt 800 241 rfl (by decide +kernel))
theorem dL_law_1044 : decode code 1044 = .ok (.pop, 1) := dq_87 (drq_bt 800 244 rfl (by decide +kernel))
theorem dL_law_1045 : decode code 1045 = .ok (.goto 505, 3) := dq_167 (drq_bt 800 245 rfl (by decide +kernel))
theorem dL_law_1048 : decode code 1048 = .ok (.aload_n 1, 1) := dq_43 (drq_bt 800 248 rfl (by decide +kernel))
theorem dL_law_1049 : decode code 1049 = .ok (.aload_n 0, 1) := dq_42 (drq_bt 800 249 rfl (by decide +kernel))
theorem dL_law_1050 : decode code 1050 = .ok (.iload_n 3, 1) := dq_29 (drq_bt 800 250 rfl (by decide +kernel))
theorem dL_law_1051 : decode code 1051 = .ok (.iconst 1, 1) := dq_4 (drq_bt 800 251 rfl (by decide +kernel))
theorem dL_law_1052 : decode code 1052 = .ok (.iadd, 1) := dq_96 (drq_bt 800 252 rfl (by decide +kernel))
theorem dL_law_1053 : decode code 1053 = .ok (.iaload, 1) := dq_46 (drq_bt 800 253 rfl (by decide +kernel))
theorem dL_law_1054 : decode code 1054 = .ok (.aload_n 0, 1) := dq_42 (drq_bt 800 254 rfl (by decide +kernel))
theorem dL_law_1055 : decode code 1055 = .ok (.iload_n 3, 1) := dq_29 (drq_bt 800 255 rfl (by decide +kernel))
theorem dL_law_1056 : decode code 1056 = .ok (.iconst 2, 1) := dq_5 (drq_bt 800 256 rfl (by decide +kernel))
theorem dL_law_1057 : decode code 1057 = .ok (.iadd, 1) := dq_96 (drq_bt 800 257 rfl (by decide +kernel))
theorem dL_law_1058 : decode code 1058 = .ok (.iaload, 1) := dq_46 (drq_bt 800 258 rfl (by decide +kernel))
theorem dL_law_1059 : decode code 1059 = .ok (.aload_n 0, 1) := dq_42 (drq_bt 800 259 rfl (by decide +kernel))
theorem dL_law_1060 : decode code 1060 = .ok (.iload_n 3, 1) := dq_29 (drq_bt 800 260 rfl (by decide +kernel))
theorem dL_law_1061 : decode code 1061 = .ok (.iconst 3, 1) := dq_6 (drq_bt 800 261 rfl (by decide +kernel))
theorem dL_law_1062 : decode code 1062 = .ok (.iadd, 1) := dq_96 (drq_bt 800 262 rfl (by decide +kernel))
theorem dL_law_1063 : decode code 1063 = .ok (.iaload, 1) := dq_46 (drq_bt 800 263 rfl (by decide +kernel))
theorem dL_law_1064 : decode code 1064 = .ok (.aload_n 0, 1) := dq_42 (drq_bt 800 264 rfl (by decide +kernel))
theorem dL_law_1065 : decode code 1065 = .ok (.iload_n 3, 1) := dq_29 (drq_bt 800 265 rfl (by decide +kernel))
theorem dL_law_1066 : decode code 1066 = .ok (.iconst 4, 1) := dq_7 (drq_bt 800 266 rfl (by decide +kernel))
theorem dL_law_1067 : decode code 1067 = .ok (.iadd, 1) := dq_96 (drq_bt 800 267 rfl (by decide +kernel))
theorem dL_law_1068 : decode code 1068 = .ok (.iaload, 1) := dq_46 (drq_bt 800 268 rfl (by decide +kernel))
theorem dL_law_1069 : decode code 1069 = .ok (.invokevirtual 106, 3) := dq_182 (drq_bt 800 269 rfl (by decide +kernel))
theorem dL_law_1072 : decode code 1072 = .ok (.pop, 1) := dq_87 (drq_bt 800 272 rfl (by decide +kernel))
theorem dL_law_1073 : decode code 1073 = .ok (.aload_n 2, 1) := dq_44 (drq_bt 800 273 rfl (by decide +kernel))
theorem dL_law_1074 : decode code 1074 = .ok (.aload_n 0, 1) := dq_42 (drq_bt 800 274 rfl (by decide +kernel))
theorem dL_law_1075 : decode code 1075 = .ok (.iload_n 3, 1) := dq_29 (drq_bt 800 275 rfl (by decide +kernel))
theorem dL_law_1076 : decode code 1076 = .ok (.iconst 1, 1) := dq_4 (drq_bt 800 276 rfl (by decide +kernel))
theorem dL_law_1077 : decode code 1077 = .ok (.iadd, 1) := dq_96 (drq_bt 800 277 rfl (by decide +kernel))
theorem dL_law_1078 : decode code 1078 = .ok (.iaload, 1) := dq_46 (drq_bt 800 278 rfl (by decide +kernel))
theorem dL_law_1079 : decode code 1079 = .ok (.aload_n 0, 1) := dq_42 (drq_bt 800 279 rfl (by decide +kernel))
theorem dL_law_1080 : decode code 1080 = .ok (.iload_n 3, 1) := dq_29 (drq_bt 800 280 rfl (by decide +kernel))
theorem dL_law_1081 : decode code 1081 = .ok (.iconst 2, 1) := dq_5 (drq_bt 800 281 rfl (by decide +kernel))
theorem dL_law_1082 : decode code 1082 = .ok (.iadd, 1) := dq_96 (drq_bt 800 282 rfl (by decide +kernel))
theorem dL_law_1083 : decode code 1083 = .ok (.iaload, 1) := dq_46 (drq_bt 800 283 rfl (by decide +kernel))
theorem dL_law_1084 : decode code 1084 = .ok (.aload_n 0, 1) := dq_42 (drq_bt 800 284 rfl (by decide +kernel))
theorem dL_law_1085 : decode code 1085 = .ok (.iload_n 3, 1) := dq_29 (drq_bt 800 285 rfl (by decide +kernel))
theorem dL_law_1086 : decode code 1086 = .ok (.iconst 3, 1) := dq_6 (drq_bt 800 286 rfl (by decide +kernel))
theorem dL_law_1087 : decode code 1087 = .ok (.iadd, 1) := dq_96 (drq_bt 800 287 rfl (by decide +kernel))
theorem dL_law_1088 : decode code 1088 = .ok (.iaload, 1) := dq_46 (drq_bt 800 288 rfl (by decide +kernel))
theorem dL_law_1089 : decode code 1089 = .ok (.aload_n 0, 1) := dq_42 (drq_bt 800 289 rfl (by decide +kernel))
theorem dL_law_1090 : decode code 1090 = .ok (.iload_n 3, 1) := dq_29 (drq_bt 800 290 rfl (by decide +kernel))
theorem dL_law_1091 : decode code 1091 = .ok (.iconst 4, 1) := dq_7 (drq_bt 800 291 rfl (by decide +kernel))
theorem dL_law_1092 : decode code 1092 = .ok (.iadd, 1) := dq_96 (drq_bt 800 292 rfl (by decide +kernel))
theorem dL_law_1093 : decode code 1093 = .ok (.iaload, 1) := dq_46 (drq_bt 800 293 rfl (by decide +kernel))
theorem dL_law_1094 : decode code 1094 = .ok (.invokevirtual 109, 3) := dq_182 (drq_bt 800 294 rfl (by decide +kernel))
theorem dL_law_1097 : decode code 1097 = .ok (.pop, 1) := dq_87 (drq_bt 800 297 rfl (by decide +kernel))
theorem dL_law_1098 : decode code 1098 = .ok (.goto 452, 3) := dq_167 (drq_bt 800 298 rfl (by decide +kernel))
theorem dL_law_1101 : decode code 1101 = .ok (.aload_n 1, 1) := dq_43 (drq_bt 800 301 rfl (by decide +kernel))
theorem dL_law_1102 : decode code 1102 = .ok (.aload_n 0, 1) := dq_42 (drq_bt 800 302 rfl (by decide +kernel))
theorem dL_law_1103 : decode code 1103 = .ok (.iload_n 3, 1) := dq_29 (drq_bt 800 303 rfl (by decide +kernel))
theorem dL_law_1104 : decode code 1104 = .ok (.iconst 1, 1) := dq_4 (drq_bt 800 304 rfl (by decide +kernel))
theorem dL_law_1105 : decode code 1105 = .ok (.iadd, 1) := dq_96 (drq_bt 800 305 rfl (by decide +kernel))
theorem dL_law_1106 : decode code 1106 = .ok (.iaload, 1) := dq_46 (drq_bt 800 306 rfl (by decide +kernel))
theorem dL_law_1107 : decode code 1107 = .ok (.aload_n 0, 1) := dq_42 (drq_bt 800 307 rfl (by decide +kernel))
theorem dL_law_1108 : decode code 1108 = .ok (.iload_n 3, 1) := dq_29 (drq_bt 800 308 rfl (by decide +kernel))
theorem dL_law_1109 : decode code 1109 = .ok (.iconst 2, 1) := dq_5 (drq_bt 800 309 rfl (by decide +kernel))
theorem dL_law_1110 : decode code 1110 = .ok (.iadd, 1) := dq_96 (drq_bt 800 310 rfl (by decide +kernel))
theorem dL_law_1111 : decode code 1111 = .ok (.iaload, 1) := dq_46 (drq_bt 800 311 rfl (by decide +kernel))
theorem dL_law_1112 : decode code 1112 = .ok (.aload_n 0, 1) := dq_42 (drq_bt 800 312 rfl (by decide +kernel))
theorem dL_law_1113 : decode code 1113 = .ok (.iload_n 3, 1) := dq_29 (drq_bt 800 313 rfl (by decide +kernel))
theorem dL_law_1114 : decode code 1114 = .ok (.iconst 3, 1) := dq_6 (drq_bt 800 314 rfl (by decide +kernel))
theorem dL_law_1115 : decode code 1115 = .ok (.iadd, 1) := dq_96 (drq_bt 800 315 rfl (by decide +kernel))
theorem dL_law_1116 : decode code 1116 = .ok (.iaload, 1) := dq_46 (drq_bt 800 316 rfl (by decide +kernel))
theorem dL_law_1117 : decode code 1117 = .ok (.invokevirtual 110, 3) := dq_182 (drq_bt 800 317 rfl (by decide +kernel))
theorem dL_law_1120 : decode code 1120 = .ok (.aload_n 2, 1) := dq_44 (drq_bt 800 320 rfl (by decide +kernel))
theorem dL_law_1121 : decode code 1121 = .ok (.aload_n 0, 1) := dq_42 (drq_bt 800 321 rfl (by decide +kernel))
theorem dL_law_1122 : decode code 1122 = .ok (.iload_n 3, 1) := dq_29 (drq_bt 800 322 rfl (by decide +kernel))
theorem dL_law_1123 : decode code 1123 = .ok (.iconst 1, 1) := dq_4 (drq_bt 800 323 rfl (by decide +kernel))
theorem dL_law_1124 : decode code 1124 = .ok (.iadd, 1) := dq_96 (drq_bt 800 324 rfl (by decide +kernel))
theorem dL_law_1125 : decode code 1125 = .ok (.iaload, 1) := dq_46 (drq_bt 800 325 rfl (by decide +kernel))
theorem dL_law_1126 : decode code 1126 = .ok (.aload_n 0, 1) := dq_42 (drq_bt 800 326 rfl (by decide +kernel))
theorem dL_law_1127 : decode code 1127 = .ok (.iload_n 3, 1) := dq_29 (drq_bt 800 327 rfl (by decide +kernel))
theorem dL_law_1128 : decode code 1128 = .ok (.iconst 2, 1) := dq_5 (drq_bt 800 328 rfl (by decide +kernel))
theorem dL_law_1129 : decode code 1129 = .ok (.iadd, 1) := dq_96 (drq_bt 800 329 rfl (by decide +kernel))
theorem dL_law_1130 : decode code 1130 = .ok (.iaload, 1) := dq_46 (drq_bt 800 330 rfl (by decide +kernel))
theorem dL_law_1131 : decode code 1131 = .ok (.aload_n 0, 1) := dq_42 (drq_bt 800 331 rfl (by decide +kernel))
theorem dL_law_1132 : decode code 1132 = .ok (.iload_n 3, 1) := dq_29 (drq_bt 800 332 rfl (by decide +kernel))
theorem dL_law_1133 : decode code 1133 = .ok (.iconst 3, 1) := dq_6 (drq_bt 800 333 rfl (by decide +kernel))
theorem dL_law_1134 : decode code 1134 = .ok (.iadd, 1) := dq_96 (drq_bt 800 334 rfl (by decide +kernel))
theorem dL_law_1135 : decode code 1135 = .ok (.iaload, 1) := dq_46 (drq_bt 800 335 rfl (by decide +kernel))
theorem dL_law_1136 : decode code 1136 = .ok (.invokevirtual 113, 3) := dq_182 (drq_bt 800 336 rfl (by decide +kernel))
theorem dL_law_1139 : decode code 1139 = .ok (.if_icmp .eq 411, 3) := dq_159 (drq_bt 800 339 rfl (by decide +kernel))
theorem dL_law_1142 : decode code 1142 = .ok (.iconst 0, 1) := dq_3 (drq_bt 800 342 rfl (by decide +kernel))
theorem dL_law_1143 : decode code 1143 = .ok (.ireturn, 1) := dq_172 (drq_bt 800 343 rfl (by decide +kernel))
theorem dL_law_1144 : decode code 1144 = .ok (.aload_n 1, 1) := dq_43 (drq_bt 800 344 rfl (by decide +kernel))
theorem dL_law_1145 : decode code 1145 = .ok (.aload_n 0, 1) := dq_42 (drq_bt 800 345 rfl (by decide +kernel))
theorem dL_law_1146 : decode code 1146 = .ok (.iload_n 3, 1) := dq_29 (drq_bt 800 346 rfl (by decide +kernel))
theorem dL_law_1147 : decode code 1147 = .ok (.iconst 1, 1) := dq_4 (drq_bt 800 347 rfl (by decide +kernel))
theorem dL_law_1148 : decode code 1148 = .ok (.iadd, 1) := dq_96 (drq_bt 800 348 rfl (by decide +kernel))
theorem dL_law_1149 : decode code 1149 = .ok (.iaload, 1) := dq_46 (drq_bt 800 349 rfl (by decide +kernel))
theorem dL_law_1150 : decode code 1150 = .ok (.aload_n 0, 1) := dq_42 (drq_bt 800 350 rfl (by decide +kernel))
theorem dL_law_1151 : decode code 1151 = .ok (.iload_n 3, 1) := dq_29 (drq_bt 800 351 rfl (by decide +kernel))
theorem dL_law_1152 : decode code 1152 = .ok (.iconst 2, 1) := dq_5 (drq_bt 800 352 rfl (by decide +kernel))
theorem dL_law_1153 : decode code 1153 = .ok (.iadd, 1) := dq_96 (drq_bt 800 353 rfl (by decide +kernel))
end
section
theorem dL_law_1154 : decode code 1154 = .ok (.iaload, 1) := dq_46 (drq_bt 800 354 rfl (by decide +kernel))
theorem dL_law_1155 : decode code 1155 = .ok (.aload_n 0, 1) := dq_42 (drq_bt 800 355 rfl (by decide +kernel))
theorem dL_law_1156 : decode code 1156 = .ok (.iload_n 3, 1) := dq_29 (drq_bt 800 356 rfl (by decide +kernel))
theorem dL_law_1157 : decode code 1157 = .ok (.iconst 3, 1) := dq_6 (drq_bt 800 357 rfl (by decide +kernel))
theorem dL_law_1158 : decode code 1158 = .ok (.iadd, 1) := dq_96 (drq_bt 800 358 rfl (by decide +kernel))
theorem dL_law_1159 : decode code 1159 = .ok (.iaload, 1) := dq_46 (drq_bt 800 359 rfl (by decide +kernel))
theorem dL_law_1160 : decode code 1160 = .ok (.aload_n 0, 1) := dq_42 (drq_bt 800 360 rfl (by decide +kernel))
theorem dL_law_1161 : decode code 1161 = .ok (.iload_n 3, 1) := dq_29 (drq_bt 800 361 rfl (by decide +kernel))
theorem dL_law_1162 : decode code 1162 = .ok (.iconst 4, 1) := dq_7 (drq_bt 800 362 rfl (by decide +kernel))
theorem dL_law_1163 : decode code 1163 = .ok (.iadd, 1) := dq_96 (drq_bt 800 363 rfl (by decide +kernel))
theorem dL_law_1164 : decode code 1164 = .ok (.iaload, 1) := dq_46 (drq_bt 800 364 rfl (by decide +kernel))
theorem dL_law_1165 : decode code 1165 = .ok (.aload_n 0, 1) := dq_42 (drq_bt 800 365 rfl (by decide +kernel))
theorem dL_law_1166 : decode code 1166 = .ok (.iload_n 3, 1) := dq_29 (drq_bt 800 366 rfl (by decide +kernel))
theorem dL_law_1167 : decode code 1167 = .ok (.iconst 5, 1) := dq_8 (drq_bt 800 367 rfl (by decide +kernel))
theorem dL_law_1168 : decode code 1168 = .ok (.iadd, 1) := dq_96 (drq_bt 800 368 rfl (by decide +kernel))
theorem dL_law_1169 : decode code 1169 = .ok (.iaload, 1) := dq_46 (drq_bt 800 369 rfl (by decide +kernel))
theorem dL_law_1170 : decode code 1170 = .ok (.invokevirtual 114, 3) := dq_182 (drq_bt 800 370 rfl (by decide +kernel))
theorem dL_law_1173 : decode code 1173 = .ok (.pop, 1) := dq_87 (drq_bt 800 373 rfl (by decide +kernel))
theorem dL_law_1174 : decode code 1174 = .ok (.aload_n 2, 1) := dq_44 (drq_bt 800 374 rfl (by decide +kernel))
theorem dL_law_1175 : decode code 1175 = .ok (.aload_n 0, 1) := dq_42 (drq_bt 800 375 rfl (by decide +kernel))
theorem dL_law_1176 : decode code 1176 = .ok (.iload_n 3, 1) := dq_29 (drq_bt 800 376 rfl (by decide +kernel))
theorem dL_law_1177 : decode code 1177 = .ok (.iconst 1, 1) := dq_4 (drq_bt 800 377 rfl (by decide +kernel))
theorem dL_law_1178 : decode code 1178 = .ok (.iadd, 1) := dq_96 (drq_bt 800 378 rfl (by decide +kernel))
theorem dL_law_1179 : decode code 1179 = .ok (.iaload, 1) := dq_46 (drq_bt 800 379 rfl (by decide +kernel))
theorem dL_law_1180 : decode code 1180 = .ok (.aload_n 0, 1) := dq_42 (drq_bt 800 380 rfl (by decide +kernel))
theorem dL_law_1181 : decode code 1181 = .ok (.iload_n 3, 1) := dq_29 (drq_bt 800 381 rfl (by decide +kernel))
theorem dL_law_1182 : decode code 1182 = .ok (.iconst 2, 1) := dq_5 (drq_bt 800 382 rfl (by decide +kernel))
theorem dL_law_1183 : decode code 1183 = .ok (.iadd, 1) := dq_96 (drq_bt 800 383 rfl (by decide +kernel))
theorem dL_law_1184 : decode code 1184 = .ok (.iaload, 1) := dq_46 (drq_bt 800 384 rfl (by decide +kernel))
theorem dL_law_1185 : decode code 1185 = .ok (.aload_n 0, 1) := dq_42 (drq_bt 800 385 rfl (by decide +kernel))
theorem dL_law_1186 : decode code 1186 = .ok (.iload_n 3, 1) := dq_29 (drq_bt 800 386 rfl (by decide +kernel))
theorem dL_law_1187 : decode code 1187 = .ok (.iconst 3, 1) := dq_6 (drq_bt 800 387 rfl (by decide +kernel))
theorem dL_law_1188 : decode code 1188 = .ok (.iadd, 1) := dq_96 (drq_bt 800 388 rfl (by decide +kernel))
theorem dL_law_1189 : decode code 1189 = .ok (.iaload, 1) := dq_46 (drq_bt 800 389 rfl (by decide +kernel))
theorem dL_law_1190 : decode code 1190 = .ok (.aload_n 0, 1) := dq_42 (drq_bt 800 390 rfl (by decide +kernel))
theorem dL_law_1191 : decode code 1191 = .ok (.iload_n 3, 1) := dq_29 (drq_bt 800 391 rfl (by decide +kernel))
theorem dL_law_1192 : decode code 1192 = .ok (.iconst 4, 1) := dq_7 (drq_bt 800 392 rfl (by decide +kernel))
theorem dL_law_1193 : decode code 1193 = .ok (.iadd, 1) := dq_96 (drq_bt 800 393 rfl (by decide +kernel))
theorem dL_law_1194 : decode code 1194 = .ok (.iaload, 1) := dq_46 (drq_bt 800 394 rfl (by decide +kernel))
theorem dL_law_1195 : decode code 1195 = .ok (.aload_n 0, 1) := dq_42 (drq_bt 800 395 rfl (by decide +kernel))
theorem dL_law_1196 : decode code 1196 = .ok (.iload_n 3, 1) := dq_29 (drq_bt 800 396 rfl (by decide +kernel))
theorem dL_law_1197 : decode code 1197 = .ok (.iconst 5, 1) := dq_8 (drq_bt 800 397 rfl (by decide +kernel))
theorem dL_law_1198 : decode code 1198 = .ok (.iadd, 1) := dq_96 (drq_bt 800 398 rfl (by decide +kernel))
theorem dL_law_1199 : decode code 1199 = .ok (.iaload, 1) := dq_46 (drq_bt 800 399 rfl (by decide +kernel))
theorem dL_law_1200 : decode code 1200 = .ok (.invokevirtual 117, 3) := dq_182 (drq_bt 800 400 rfl (by decide +kernel))
theorem dL_law_1203 : decode code 1203 = .ok (.pop, 1) := dq_87 (drq_bt 800 403 rfl (by decide +kernel))
theorem dL_law_1204 : decode code 1204 = .ok (.goto 346, 3) := dq_167 (drq_bt 800 404 rfl (by decide +kernel))
theorem dL_law_1207 : decode code 1207 = .ok (.aload_n 1, 1) := dq_43 (drq_bt 800 407 rfl (by decide +kernel))
theorem dL_law_1208 : decode code 1208 = .ok (.aload_n 0, 1) := dq_42 (drq_bt 800 408 rfl (by decide +kernel))
theorem dL_law_1209 : decode code 1209 = .ok (.iload_n 3, 1) := dq_29 (drq_bt 800 409 rfl (by decide +kernel))
theorem dL_law_1210 : decode code 1210 = .ok (.iconst 1, 1) := dq_4 (drq_bt 800 410 rfl (by decide +kernel))
theorem dL_law_1211 : decode code 1211 = .ok (.iadd, 1) := dq_96 (drq_bt 800 411 rfl (by decide +kernel))
theorem dL_law_1212 : decode code 1212 = .ok (.iaload, 1) := dq_46 (drq_bt 800 412 rfl (by decide +kernel))
theorem dL_law_1213 : decode code 1213 = .ok (.aload_n 0, 1) := dq_42 (drq_bt 800 413 rfl (by decide +kernel))
theorem dL_law_1214 : decode code 1214 = .ok (.iload_n 3, 1) := dq_29 (drq_bt 800 414 rfl (by decide +kernel))
theorem dL_law_1215 : decode code 1215 = .ok (.iconst 2, 1) := dq_5 (drq_bt 800 415 rfl (by decide +kernel))
theorem dL_law_1216 : decode code 1216 = .ok (.iadd, 1) := dq_96 (drq_bt 800 416 rfl (by decide +kernel))
theorem dL_law_1217 : decode code 1217 = .ok (.iaload, 1) := dq_46 (drq_bt 800 417 rfl (by decide +kernel))
theorem dL_law_1218 : decode code 1218 = .ok (.aload_n 0, 1) := dq_42 (drq_bt 800 418 rfl (by decide +kernel))
theorem dL_law_1219 : decode code 1219 = .ok (.iload_n 3, 1) := dq_29 (drq_bt 800 419 rfl (by decide +kernel))
theorem dL_law_1220 : decode code 1220 = .ok (.iconst 3, 1) := dq_6 (drq_bt 800 420 rfl (by decide +kernel))
theorem dL_law_1221 : decode code 1221 = .ok (.iadd, 1) := dq_96 (drq_bt 800 421 rfl (by decide +kernel))
theorem dL_law_1222 : decode code 1222 = .ok (.iaload, 1) := dq_46 (drq_bt 800 422 rfl (by decide +kernel))
theorem dL_law_1223 : decode code 1223 = .ok (.invokevirtual 118, 3) := dq_182 (drq_bt 800 423 rfl (by decide +kernel))
theorem dL_law_1226 : decode code 1226 = .ok (.pop, 1) := dq_87 (drq_bt 800 426 rfl (by decide +kernel))
theorem dL_law_1227 : decode code 1227 = .ok (.aload_n 2, 1) := dq_44 (drq_bt 800 427 rfl (by decide +kernel))
theorem dL_law_1228 : decode code 1228 = .ok (.aload_n 0, 1) := dq_42 (drq_bt 800 428 rfl (by decide +kernel))
theorem dL_law_1229 : decode code 1229 = .ok (.iload_n 3, 1) := dq_29 (drq_bt 800 429 rfl (by decide +kernel))
theorem dL_law_1230 : decode code 1230 = .ok (.iconst 1, 1) := dq_4 (drq_bt 800 430 rfl (by decide +kernel))
theorem dL_law_1231 : decode code 1231 = .ok (.iadd, 1) := dq_96 (drq_bt 800 431 rfl (by decide +kernel))
theorem dL_law_1232 : decode code 1232 = .ok (.iaload, 1) := dq_46 (drq_bt 800 432 rfl (by decide +kernel))
theorem dL_law_1233 : decode code 1233 = .ok (.aload_n 0, 1) := dq_42 (drq_bt 800 433 rfl (by decide +kernel))
theorem dL_law_1234 : decode code 1234 = .ok (.iload_n 3, 1) := dq_29 (drq_bt 800 434 rfl (by decide +kernel))
theorem dL_law_1235 : decode code 1235 = .ok (.iconst 2, 1) := dq_5 (drq_bt 800 435 rfl (by decide +kernel))
theorem dL_law_1236 : decode code 1236 = .ok (.iadd, 1) := dq_96 (drq_bt 800 436 rfl (by decide +kernel))
theorem dL_law_1237 : decode code 1237 = .ok (.iaload, 1) := dq_46 (drq_bt 800 437 rfl (by decide +kernel))
theorem dL_law_1238 : decode code 1238 = .ok (.aload_n 0, 1) := dq_42 (drq_bt 800 438 rfl (by decide +kernel))
theorem dL_law_1239 : decode code 1239 = .ok (.iload_n 3, 1) := dq_29 (drq_bt 800 439 rfl (by decide +kernel))
theorem dL_law_1240 : decode code 1240 = .ok (.iconst 3, 1) := dq_6 (drq_bt 800 440 rfl (by decide +kernel))
theorem dL_law_1241 : decode code 1241 = .ok (.iadd, 1) := dq_96 (drq_bt 800 441 rfl (by decide +kernel))
theorem dL_law_1242 : decode code 1242 = .ok (.iaload, 1) := dq_46 (drq_bt 800 442 rfl (by decide +kernel))
theorem dL_law_1243 : decode code 1243 = .ok (.invokevirtual 121, 3) := dq_182 (drq_bt 800 443 rfl (by decide +kernel))
theorem dL_law_1246 : decode code 1246 = .ok (.pop, 1) := dq_87 (drq_bt 800 446 rfl (by decide +kernel))
theorem dL_law_1247 : decode code 1247 = .ok (.goto 303, 3) := dq_167 (drq_bt 800 447 rfl (by decide +kernel))
theorem dL_law_1250 : decode code 1250 = .ok (.aload_n 1, 1) := dq_43 (drq_bt 800 450 rfl (by decide +kernel))
theorem dL_law_1251 : decode code 1251 = .ok (.aload_n 0, 1) := dq_42 (drq_bt 800 451 rfl (by decide +kernel))
theorem dL_law_1252 : decode code 1252 = .ok (.iload_n 3, 1) := dq_29 (drq_bt 800 452 rfl (by decide +kernel))
theorem dL_law_1253 : decode code 1253 = .ok (.iconst 1, 1) := dq_4 (drq_bt 800 453 rfl (by decide +kernel))
theorem dL_law_1254 : decode code 1254 = .ok (.iadd, 1) := dq_96 (drq_bt 800 454 rfl (by decide +kernel))
theorem dL_law_1255 : decode code 1255 = .ok (.iaload, 1) := dq_46 (drq_bt 800 455 rfl (by decide +kernel))
theorem dL_law_1256 : decode code 1256 = .ok (.aload_n 0, 1) := dq_42 (drq_bt 800 456 rfl (by decide +kernel))
theorem dL_law_1257 : decode code 1257 = .ok (.iload_n 3, 1) := dq_29 (drq_bt 800 457 rfl (by decide +kernel))
theorem dL_law_1258 : decode code 1258 = .ok (.iconst 2, 1) := dq_5 (drq_bt 800 458 rfl (by decide +kernel))
theorem dL_law_1259 : decode code 1259 = .ok (.iadd, 1) := dq_96 (drq_bt 800 459 rfl (by decide +kernel))
theorem dL_law_1260 : decode code 1260 = .ok (.iaload, 1) := dq_46 (drq_bt 800 460 rfl (by decide +kernel))
theorem dL_law_1261 : decode code 1261 = .ok (.aload_n 0, 1) := dq_42 (drq_bt 800 461 rfl (by decide +kernel))
theorem dL_law_1262 : decode code 1262 = .ok (.iload_n 3, 1) := dq_29 (drq_bt 800 462 rfl (by decide +kernel))
theorem dL_law_1263 : decode code 1263 = .ok (.iconst 3, 1) := dq_6 (drq_bt 800 463 rfl (by decide +kernel))
theorem dL_law_1264 : decode code 1264 = .ok (.iadd, 1) := dq_96 (drq_bt 800 464 rfl (by decide +kernel))
theorem dL_law_1265 : decode code 1265 = .ok (.iaload, 1) := dq_46 (drq_bt 800 465 rfl (by decide +kernel))
theorem dL_law_1266 : decode code 1266 = .ok (.aload_n 0, 1) := dq_42 (drq_bt 800 466 rfl (by decide +kernel))
theorem dL_law_1267 : decode code 1267 = .ok (.iload_n 3, 1) := dq_29 (drq_bt 800 467 rfl (by decide +kernel))
theorem dL_law_1268 : decode code 1268 = .ok (.iconst 4, 1) := dq_7 (drq_bt 800 468 rfl (by decide +kernel))
theorem dL_law_1269 : decode code 1269 = .ok (.iadd, 1) := dq_96 (drq_bt 800 469 rfl (by decide +kernel))
theorem dL_law_1270 : decode code 1270 = .ok (.iaload, 1) := dq_46 (drq_bt 800 470 rfl (by decide +kernel))
theorem dL_law_1271 : decode code 1271 = .ok (.invokevirtual 122, 3) := dq_182 (drq_bt 800 471 rfl (by decide +kernel))
theorem dL_law_1274 : decode code 1274 = .ok (.pop, 1) := dq_87 (drq_bt 800 474 rfl (by decide +kernel))
theorem dL_law_1275 : decode code 1275 = .ok (.aload_n 2, 1) := dq_44 (drq_bt 800 475 rfl (by decide +kernel))
theorem dL_law_1276 : decode code 1276 = .ok (.aload_n 0, 1) := dq_42 (drq_bt 800 476 rfl (by decide +kernel))
theorem dL_law_1277 : decode code 1277 = .ok (.iload_n 3, 1) := dq_29 (drq_bt 800 477 rfl (by decide +kernel))
theorem dL_law_1278 : decode code 1278 = .ok (.iconst 1, 1) := dq_4 (drq_bt 800 478 rfl (by decide +kernel))
theorem dL_law_1279 : decode code 1279 = .ok (.iadd, 1) := dq_96 (drq_bt 800 479 rfl (by decide +kernel))
theorem dL_law_1280 : decode code 1280 = .ok (.iaload, 1) := dq_46 (drq_bt 800 480 rfl (by decide +kernel))
theorem dL_law_1281 : decode code 1281 = .ok (.aload_n 0, 1) := dq_42 (drq_bt 800 481 rfl (by decide +kernel))
theorem dL_law_1282 : decode code 1282 = .ok (.iload_n 3, 1) := dq_29 (drq_bt 800 482 rfl (by decide +kernel))
theorem dL_law_1283 : decode code 1283 = .ok (.iconst 2, 1) := dq_5 (drq_bt 800 483 rfl (by decide +kernel))
theorem dL_law_1284 : decode code 1284 = .ok (.iadd, 1) := dq_96 (drq_bt 800 484 rfl (by decide +kernel))
theorem dL_law_1285 : decode code 1285 = .ok (.iaload, 1) := dq_46 (drq_bt 800 485 rfl (by decide +kernel))
theorem dL_law_1286 : decode code 1286 = .ok (.aload_n 0, 1) := dq_42 (drq_bt 800 486 rfl (by decide +kernel))
theorem dL_law_1287 : decode code 1287 = .ok (.iload_n 3, 1) := dq_29 (drq_bt 800 487 rfl (by decide +kernel))
end
section
theorem dL_law_1288 : decode code 1288 = .ok (.iconst 3, 1) := dq_6 (drq_bt 800 488 rfl (by decide +kernel))
theorem dL_law_1289 : decode code 1289 = .ok (.iadd, 1) := dq_96 (drq_bt 800 489 rfl (by decide +kernel))
theorem dL_law_1290 : decode code 1290 = .ok (.iaload, 1) := dq_46 (drq_bt 800 490 rfl (by decide +kernel))
theorem dL_law_1291 : decode code 1291 = .ok (.aload_n 0, 1) := dq_42 (drq_bt 800 491 rfl (by decide +kernel))
theorem dL_law_1292 : decode code 1292 = .ok (.iload_n 3, 1) := dq_29 (drq_bt 800 492 rfl (by decide +kernel))
theorem dL_law_1293 : decode code 1293 = .ok (.iconst 4, 1) := dq_7 (drq_bt 800 493 rfl (by decide +kernel))
theorem dL_law_1294 : decode code 1294 = .ok (.iadd, 1) := dq_96 (drq_bt 800 494 rfl (by decide +kernel))
theorem dL_law_1295 : decode code 1295 = .ok (.iaload, 1) := dq_46 (drq_bt 800 495 rfl (by decide +kernel))
theorem dL_law_1296 : decode code 1296 = .ok (.invokevirtual 125, 3) := dq_182 (drq_bt 800 496 rfl (by decide +kernel))
theorem dL_law_1299 : decode code 1299 = .ok (.pop, 1) := dq_87 (drq_bt 800 499 rfl (by decide +kernel))
theorem dL_law_1300 : decode code 1300 = .ok (.goto 250, 3) := dq_167 (drq_bt 800 500 rfl (by decide +kernel))
theorem dL_law_1303 : decode code 1303 = .ok (.aload_n 1, 1) := dq_43 (drq_bt 800 503 rfl (by decide +kernel))
theorem dL_law_1304 : decode code 1304 = .ok (.aload_n 0, 1) := dq_42 (drq_bt 800 504 rfl (by decide +kernel))
theorem dL_law_1305 : decode code 1305 = .ok (.iload_n 3, 1) := dq_29 (drq_bt 800 505 rfl (by decide +kernel))
theorem dL_law_1306 : decode code 1306 = .ok (.iconst 1, 1) := dq_4 (drq_bt 800 506 rfl (by decide +kernel))
theorem dL_law_1307 : decode code 1307 = .ok (.iadd, 1) := dq_96 (drq_bt 800 507 rfl (by decide +kernel))
theorem dL_law_1308 : decode code 1308 = .ok (.iaload, 1) := dq_46 (drq_bt 800 508 rfl (by decide +kernel))
theorem dL_law_1309 : decode code 1309 = .ok (.invokevirtual 126, 3) := dq_182 (drq_bt 800 509 rfl (by decide +kernel))
theorem dL_law_1312 : decode code 1312 = .ok (.pop, 1) := dq_87 (drq_bt 800 512 rfl (by decide +kernel))
theorem dL_law_1313 : decode code 1313 = .ok (.aload_n 2, 1) := dq_44 (drq_bt 800 513 rfl (by decide +kernel))
theorem dL_law_1314 : decode code 1314 = .ok (.aload_n 0, 1) := dq_42 (drq_bt 800 514 rfl (by decide +kernel))
theorem dL_law_1315 : decode code 1315 = .ok (.iload_n 3, 1) := dq_29 (drq_bt 800 515 rfl (by decide +kernel))
theorem dL_law_1316 : decode code 1316 = .ok (.iconst 1, 1) := dq_4 (drq_bt 800 516 rfl (by decide +kernel))
theorem dL_law_1317 : decode code 1317 = .ok (.iadd, 1) := dq_96 (drq_bt 800 517 rfl (by decide +kernel))
theorem dL_law_1318 : decode code 1318 = .ok (.iaload, 1) := dq_46 (drq_bt 800 518 rfl (by decide +kernel))
theorem dL_law_1319 : decode code 1319 = .ok (.invokevirtual 129, 3) := dq_182 (drq_bt 800 519 rfl (by decide +kernel))
theorem dL_law_1322 : decode code 1322 = .ok (.pop, 1) := dq_87 (drq_bt 800 522 rfl (by decide +kernel))
theorem dL_law_1323 : decode code 1323 = .ok (.goto 227, 3) := dq_167 (drq_bt 800 523 rfl (by decide +kernel))
theorem dL_law_1326 : decode code 1326 = .ok (.aload_n 1, 1) := dq_43 (drq_bt 800 526 rfl (by decide +kernel))
theorem dL_law_1327 : decode code 1327 = .ok (.aload_n 0, 1) := dq_42 (drq_bt 800 527 rfl (by decide +kernel))
theorem dL_law_1328 : decode code 1328 = .ok (.iload_n 3, 1) := dq_29 (drq_bt 800 528 rfl (by decide +kernel))
theorem dL_law_1329 : decode code 1329 = .ok (.iconst 1, 1) := dq_4 (drq_bt 800 529 rfl (by decide +kernel))
theorem dL_law_1330 : decode code 1330 = .ok (.iadd, 1) := dq_96 (drq_bt 800 530 rfl (by decide +kernel))
theorem dL_law_1331 : decode code 1331 = .ok (.iaload, 1) := dq_46 (drq_bt 800 531 rfl (by decide +kernel))
theorem dL_law_1332 : decode code 1332 = .ok (.invokevirtual 130, 3) := dq_182 (drq_bt 800 532 rfl (by decide +kernel))
theorem dL_law_1335 : decode code 1335 = .ok (.pop, 1) := dq_87 (drq_bt 800 535 rfl (by decide +kernel))
theorem dL_law_1336 : decode code 1336 = .ok (.aload_n 2, 1) := dq_44 (drq_bt 800 536 rfl (by decide +kernel))
theorem dL_law_1337 : decode code 1337 = .ok (.aload_n 0, 1) := dq_42 (drq_bt 800 537 rfl (by decide +kernel))
theorem dL_law_1338 : decode code 1338 = .ok (.iload_n 3, 1) := dq_29 (drq_bt 800 538 rfl (by decide +kernel))
theorem dL_law_1339 : decode code 1339 = .ok (.iconst 1, 1) := dq_4 (drq_bt 800 539 rfl (by decide +kernel))
theorem dL_law_1340 : decode code 1340 = .ok (.iadd, 1) := dq_96 (drq_bt 800 540 rfl (by decide +kernel))
theorem dL_law_1341 : decode code 1341 = .ok (.iaload, 1) := dq_46 (drq_bt 800 541 rfl (by decide +kernel))
theorem dL_law_1342 : decode code 1342 = .ok (.invokevirtual 133, 3) := dq_182 (drq_bt 800 542 rfl (by decide +kernel))
theorem dL_law_1345 : decode code 1345 = .ok (.pop, 1) := dq_87 (drq_bt 800 545 rfl (by decide +kernel))
theorem dL_law_1346 : decode code 1346 = .ok (.goto 204, 3) := dq_167 (drq_bt 800 546 rfl (by decide +kernel))
theorem dL_law_1349 : decode code 1349 = .ok (.aload_n 1, 1) := dq_43 (drq_bt 800 549 rfl (by decide +kernel))
theorem dL_law_1350 : decode code 1350 = .ok (.aload_n 0, 1) := dq_42 (drq_bt 800 550 rfl (by decide +kernel))
theorem dL_law_1351 : decode code 1351 = .ok (.iload_n 3, 1) := dq_29 (drq_bt 800 551 rfl (by decide +kernel))
theorem dL_law_1352 : decode code 1352 = .ok (.iconst 1, 1) := dq_4 (drq_bt 800 552 rfl (by decide +kernel))
theorem dL_law_1353 : decode code 1353 = .ok (.iadd, 1) := dq_96 (drq_bt 800 553 rfl (by decide +kernel))
theorem dL_law_1354 : decode code 1354 = .ok (.iaload, 1) := dq_46 (drq_bt 800 554 rfl (by decide +kernel))
theorem dL_law_1355 : decode code 1355 = .ok (.aload_n 0, 1) := dq_42 (drq_bt 800 555 rfl (by decide +kernel))
theorem dL_law_1356 : decode code 1356 = .ok (.iload_n 3, 1) := dq_29 (drq_bt 800 556 rfl (by decide +kernel))
theorem dL_law_1357 : decode code 1357 = .ok (.iconst 2, 1) := dq_5 (drq_bt 800 557 rfl (by decide +kernel))
theorem dL_law_1358 : decode code 1358 = .ok (.iadd, 1) := dq_96 (drq_bt 800 558 rfl (by decide +kernel))
theorem dL_law_1359 : decode code 1359 = .ok (.iaload, 1) := dq_46 (drq_bt 800 559 rfl (by decide +kernel))
theorem dL_law_1360 : decode code 1360 = .ok (.aload_n 0, 1) := dq_42 (drq_bt 800 560 rfl (by decide +kernel))
theorem dL_law_1361 : decode code 1361 = .ok (.iload_n 3, 1) := dq_29 (drq_bt 800 561 rfl (by decide +kernel))
theorem dL_law_1362 : decode code 1362 = .ok (.iconst 3, 1) := dq_6 (drq_bt 800 562 rfl (by decide +kernel))
theorem dL_law_1363 : decode code 1363 = .ok (.iadd, 1) := dq_96 (drq_bt 800 563 rfl (by decide +kernel))
theorem dL_law_1364 : decode code 1364 = .ok (.iaload, 1) := dq_46 (drq_bt 800 564 rfl (by decide +kernel))
theorem dL_law_1365 : decode code 1365 = .ok (.invokevirtual 134, 3) := dq_182 (drq_bt 800 565 rfl (by decide +kernel))
theorem dL_law_1368 : decode code 1368 = .ok (.pop, 1) := dq_87 (drq_bt 800 568 rfl (by decide +kernel))
theorem dL_law_1369 : decode code 1369 = .ok (.aload_n 2, 1) := dq_44 (drq_bt 800 569 rfl (by decide +kernel))
theorem dL_law_1370 : decode code 1370 = .ok (.aload_n 0, 1) := dq_42 (drq_bt 800 570 rfl (by decide +kernel))
theorem dL_law_1371 : decode code 1371 = .ok (.iload_n 3, 1) := dq_29 (drq_bt 800 571 rfl (by decide +kernel))
theorem dL_law_1372 : decode code 1372 = .ok (.iconst 1, 1) := dq_4 (drq_bt 800 572 rfl (by decide +kernel))
theorem dL_law_1373 : decode code 1373 = .ok (.iadd, 1) := dq_96 (drq_bt 800 573 rfl (by decide +kernel))
theorem dL_law_1374 : decode code 1374 = .ok (.iaload, 1) := dq_46 (drq_bt 800 574 rfl (by decide +kernel))
theorem dL_law_1375 : decode code 1375 = .ok (.aload_n 0, 1) := dq_42 (drq_bt 800 575 rfl (by decide +kernel))
theorem dL_law_1376 : decode code 1376 = .ok (.iload_n 3, 1) := dq_29 (drq_bt 800 576 rfl (by decide +kernel))
theorem dL_law_1377 : decode code 1377 = .ok (.iconst 2, 1) := dq_5 (drq_bt 800 577 rfl (by decide +kernel))
theorem dL_law_1378 : decode code 1378 = .ok (.iadd, 1) := dq_96 (drq_bt 800 578 rfl (by decide +kernel))
theorem dL_law_1379 : decode code 1379 = .ok (.iaload, 1) := dq_46 (drq_bt 800 579 rfl (by decide +kernel))
theorem dL_law_1380 : decode code 1380 = .ok (.aload_n 0, 1) := dq_42 (drq_bt 800 580 rfl (by decide +kernel))
theorem dL_law_1381 : decode code 1381 = .ok (.iload_n 3, 1) := dq_29 (drq_bt 800 581 rfl (by decide +kernel))
theorem dL_law_1382 : decode code 1382 = .ok (.iconst 3, 1) := dq_6 (drq_bt 800 582 rfl (by decide +kernel))
theorem dL_law_1383 : decode code 1383 = .ok (.iadd, 1) := dq_96 (drq_bt 800 583 rfl (by decide +kernel))
theorem dL_law_1384 : decode code 1384 = .ok (.iaload, 1) := dq_46 (drq_bt 800 584 rfl (by decide +kernel))
theorem dL_law_1385 : decode code 1385 = .ok (.invokevirtual 137, 3) := dq_182 (drq_bt 800 585 rfl (by decide +kernel))
theorem dL_law_1388 : decode code 1388 = .ok (.pop, 1) := dq_87 (drq_bt 800 588 rfl (by decide +kernel))
theorem dL_law_1389 : decode code 1389 = .ok (.goto 161, 3) := dq_167 (drq_bt 800 589 rfl (by decide +kernel))
theorem dL_law_1392 : decode code 1392 = .ok (.aload_n 1, 1) := dq_43 (drq_bt 800 592 rfl (by decide +kernel))
theorem dL_law_1393 : decode code 1393 = .ok (.aload_n 0, 1) := dq_42 (drq_bt 800 593 rfl (by decide +kernel))
theorem dL_law_1394 : decode code 1394 = .ok (.iload_n 3, 1) := dq_29 (drq_bt 800 594 rfl (by decide +kernel))
theorem dL_law_1395 : decode code 1395 = .ok (.iconst 1, 1) := dq_4 (drq_bt 800 595 rfl (by decide +kernel))
theorem dL_law_1396 : decode code 1396 = .ok (.iadd, 1) := dq_96 (drq_bt 800 596 rfl (by decide +kernel))
theorem dL_law_1397 : decode code 1397 = .ok (.iaload, 1) := dq_46 (drq_bt 800 597 rfl (by decide +kernel))
theorem dL_law_1398 : decode code 1398 = .ok (.invokevirtual 138, 3) := dq_182 (drq_bt 800 598 rfl (by decide +kernel))
theorem dL_law_1401 : decode code 1401 = .ok (.pop, 1) := dq_87 (drq_bt 800 601 rfl (by decide +kernel))
theorem dL_law_1402 : decode code 1402 = .ok (.aload_n 2, 1) := dq_44 (drq_bt 800 602 rfl (by decide +kernel))
theorem dL_law_1403 : decode code 1403 = .ok (.aload_n 0, 1) := dq_42 (drq_bt 800 603 rfl (by decide +kernel))
theorem dL_law_1404 : decode code 1404 = .ok (.iload_n 3, 1) := dq_29 (drq_bt 800 604 rfl (by decide +kernel))
theorem dL_law_1405 : decode code 1405 = .ok (.iconst 1, 1) := dq_4 (drq_bt 800 605 rfl (by decide +kernel))
theorem dL_law_1406 : decode code 1406 = .ok (.iadd, 1) := dq_96 (drq_bt 800 606 rfl (by decide +kernel))
theorem dL_law_1407 : decode code 1407 = .ok (.iaload, 1) := dq_46 (drq_bt 800 607 rfl (by decide +kernel))
theorem dL_law_1408 : decode code 1408 = .ok (.invokevirtual 141, 3) := dq_182 (drq_bt 800 608 rfl (by decide +kernel))
theorem dL_law_1411 : decode code 1411 = .ok (.pop, 1) := dq_87 (drq_bt 800 611 rfl (by decide +kernel))
theorem dL_law_1412 : decode code 1412 = .ok (.goto 138, 3) := dq_167 (drq_bt 800 612 rfl (by decide +kernel))
theorem dL_law_1415 : decode code 1415 = .ok (.aload_n 1, 1) := dq_43 (drq_bt 800 615 rfl (by decide +kernel))
theorem dL_law_1416 : decode code 1416 = .ok (.aload_n 0, 1) := dq_42 (drq_bt 800 616 rfl (by decide +kernel))
theorem dL_law_1417 : decode code 1417 = .ok (.iload_n 3, 1) := dq_29 (drq_bt 800 617 rfl (by decide +kernel))
theorem dL_law_1418 : decode code 1418 = .ok (.iconst 1, 1) := dq_4 (drq_bt 800 618 rfl (by decide +kernel))
theorem dL_law_1419 : decode code 1419 = .ok (.iadd, 1) := dq_96 (drq_bt 800 619 rfl (by decide +kernel))
theorem dL_law_1420 : decode code 1420 = .ok (.iaload, 1) := dq_46 (drq_bt 800 620 rfl (by decide +kernel))
theorem dL_law_1421 : decode code 1421 = .ok (.aload_n 0, 1) := dq_42 (drq_bt 800 621 rfl (by decide +kernel))
theorem dL_law_1422 : decode code 1422 = .ok (.iload_n 3, 1) := dq_29 (drq_bt 800 622 rfl (by decide +kernel))
theorem dL_law_1423 : decode code 1423 = .ok (.iconst 2, 1) := dq_5 (drq_bt 800 623 rfl (by decide +kernel))
theorem dL_law_1424 : decode code 1424 = .ok (.iadd, 1) := dq_96 (drq_bt 800 624 rfl (by decide +kernel))
theorem dL_law_1425 : decode code 1425 = .ok (.iaload, 1) := dq_46 (drq_bt 800 625 rfl (by decide +kernel))
theorem dL_law_1426 : decode code 1426 = .ok (.invokevirtual 142, 3) := dq_182 (drq_bt 800 626 rfl (by decide +kernel))
theorem dL_law_1429 : decode code 1429 = .ok (.pop, 1) := dq_87 (drq_bt 800 629 rfl (by decide +kernel))
theorem dL_law_1430 : decode code 1430 = .ok (.aload_n 2, 1) := dq_44 (drq_bt 800 630 rfl (by decide +kernel))
theorem dL_law_1431 : decode code 1431 = .ok (.aload_n 0, 1) := dq_42 (drq_bt 800 631 rfl (by decide +kernel))
theorem dL_law_1432 : decode code 1432 = .ok (.iload_n 3, 1) := dq_29 (drq_bt 800 632 rfl (by decide +kernel))
theorem dL_law_1433 : decode code 1433 = .ok (.iconst 1, 1) := dq_4 (drq_bt 800 633 rfl (by decide +kernel))
theorem dL_law_1434 : decode code 1434 = .ok (.iadd, 1) := dq_96 (drq_bt 800 634 rfl (by decide +kernel))
theorem dL_law_1435 : decode code 1435 = .ok (.iaload, 1) := dq_46 (drq_bt 800 635 rfl (by decide +kernel))
theorem dL_law_1436 : decode code 1436 = .ok (.aload_n 0, 1) := dq_42 (drq_bt 800 636 rfl (by decide +kernel))
theorem dL_law_1437 : decode code 1437 = .ok (.iload_n 3, 1) := dq_29 (drq_bt 800 637 rfl (by decide +kernel))
end
section
theorem dL_law_1438 : decode code 1438 = .ok (.iconst 2, 1) := dq_5 (drq_bt 800 638 rfl (by decide +kernel))
theorem dL_law_1439 : decode code 1439 = .ok (.iadd, 1) := dq_96 (drq_bt 800 639 rfl (by decide +kernel))
theorem dL_law_1440 : decode code 1440 = .ok (.iaload, 1) := dq_46 (drq_bt 800 640 rfl (by decide +kernel))
theorem dL_law_1441 : decode code 1441 = .ok (.invokevirtual 145, 3) := dq_182 (drq_bt 800 641 rfl (by decide +kernel))
theorem dL_law_1444 : decode code 1444 = .ok (.pop, 1) := dq_87 (drq_bt 800 644 rfl (by decide +kernel))
theorem dL_law_1445 : decode code 1445 = .ok (.goto 105, 3) := dq_167 (drq_bt 800 645 rfl (by decide +kernel))
theorem dL_law_1448 : decode code 1448 = .ok (.aload_n 1, 1) := dq_43 (drq_bt 800 648 rfl (by decide +kernel))
theorem dL_law_1449 : decode code 1449 = .ok (.aload_n 0, 1) := dq_42 (drq_bt 800 649 rfl (by decide +kernel))
theorem dL_law_1450 : decode code 1450 = .ok (.iload_n 3, 1) := dq_29 (drq_bt 800 650 rfl (by decide +kernel))
theorem dL_law_1451 : decode code 1451 = .ok (.iconst 1, 1) := dq_4 (drq_bt 800 651 rfl (by decide +kernel))
theorem dL_law_1452 : decode code 1452 = .ok (.iadd, 1) := dq_96 (drq_bt 800 652 rfl (by decide +kernel))
theorem dL_law_1453 : decode code 1453 = .ok (.iaload, 1) := dq_46 (drq_bt 800 653 rfl (by decide +kernel))
theorem dL_law_1454 : decode code 1454 = .ok (.invokevirtual 146, 3) := dq_182 (drq_bt 800 654 rfl (by decide +kernel))
theorem dL_law_1457 : decode code 1457 = .ok (.pop, 1) := dq_87 (drq_bt 800 657 rfl (by decide +kernel))
theorem dL_law_1458 : decode code 1458 = .ok (.aload_n 2, 1) := dq_44 (drq_bt 800 658 rfl (by decide +kernel))
theorem dL_law_1459 : decode code 1459 = .ok (.aload_n 0, 1) := dq_42 (drq_bt 800 659 rfl (by decide +kernel))
theorem dL_law_1460 : decode code 1460 = .ok (.iload_n 3, 1) := dq_29 (drq_bt 800 660 rfl (by decide +kernel))
theorem dL_law_1461 : decode code 1461 = .ok (.iconst 1, 1) := dq_4 (drq_bt 800 661 rfl (by decide +kernel))
theorem dL_law_1462 : decode code 1462 = .ok (.iadd, 1) := dq_96 (drq_bt 800 662 rfl (by decide +kernel))
theorem dL_law_1463 : decode code 1463 = .ok (.iaload, 1) := dq_46 (drq_bt 800 663 rfl (by decide +kernel))
theorem dL_law_1464 : decode code 1464 = .ok (.invokevirtual 149, 3) := dq_182 (drq_bt 800 664 rfl (by decide +kernel))
theorem dL_law_1467 : decode code 1467 = .ok (.pop, 1) := dq_87 (drq_bt 800 667 rfl (by decide +kernel))
theorem dL_law_1468 : decode code 1468 = .ok (.goto 82, 3) := dq_167 (drq_bt 800 668 rfl (by decide +kernel))
theorem dL_law_1471 : decode code 1471 = .ok (.aload_n 1, 1) := dq_43 (drq_bt 800 671 rfl (by decide +kernel))
theorem dL_law_1472 : decode code 1472 = .ok (.aload_n 0, 1) := dq_42 (drq_bt 800 672 rfl (by decide +kernel))
theorem dL_law_1473 : decode code 1473 = .ok (.iload_n 3, 1) := dq_29 (drq_bt 800 673 rfl (by decide +kernel))
theorem dL_law_1474 : decode code 1474 = .ok (.iconst 1, 1) := dq_4 (drq_bt 800 674 rfl (by decide +kernel))
theorem dL_law_1475 : decode code 1475 = .ok (.iadd, 1) := dq_96 (drq_bt 800 675 rfl (by decide +kernel))
theorem dL_law_1476 : decode code 1476 = .ok (.iaload, 1) := dq_46 (drq_bt 800 676 rfl (by decide +kernel))
theorem dL_law_1477 : decode code 1477 = .ok (.aload_n 0, 1) := dq_42 (drq_bt 800 677 rfl (by decide +kernel))
theorem dL_law_1478 : decode code 1478 = .ok (.iload_n 3, 1) := dq_29 (drq_bt 800 678 rfl (by decide +kernel))
theorem dL_law_1479 : decode code 1479 = .ok (.iconst 2, 1) := dq_5 (drq_bt 800 679 rfl (by decide +kernel))
theorem dL_law_1480 : decode code 1480 = .ok (.iadd, 1) := dq_96 (drq_bt 800 680 rfl (by decide +kernel))
theorem dL_law_1481 : decode code 1481 = .ok (.iaload, 1) := dq_46 (drq_bt 800 681 rfl (by decide +kernel))
theorem dL_law_1482 : decode code 1482 = .ok (.invokevirtual 150, 3) := dq_182 (drq_bt 800 682 rfl (by decide +kernel))
theorem dL_law_1485 : decode code 1485 = .ok (.pop, 1) := dq_87 (drq_bt 800 685 rfl (by decide +kernel))
theorem dL_law_1486 : decode code 1486 = .ok (.aload_n 2, 1) := dq_44 (drq_bt 800 686 rfl (by decide +kernel))
theorem dL_law_1487 : decode code 1487 = .ok (.aload_n 0, 1) := dq_42 (drq_bt 800 687 rfl (by decide +kernel))
theorem dL_law_1488 : decode code 1488 = .ok (.iload_n 3, 1) := dq_29 (drq_bt 800 688 rfl (by decide +kernel))
theorem dL_law_1489 : decode code 1489 = .ok (.iconst 1, 1) := dq_4 (drq_bt 800 689 rfl (by decide +kernel))
theorem dL_law_1490 : decode code 1490 = .ok (.iadd, 1) := dq_96 (drq_bt 800 690 rfl (by decide +kernel))
theorem dL_law_1491 : decode code 1491 = .ok (.iaload, 1) := dq_46 (drq_bt 800 691 rfl (by decide +kernel))
theorem dL_law_1492 : decode code 1492 = .ok (.aload_n 0, 1) := dq_42 (drq_bt 800 692 rfl (by decide +kernel))
theorem dL_law_1493 : decode code 1493 = .ok (.iload_n 3, 1) := dq_29 (drq_bt 800 693 rfl (by decide +kernel))
theorem dL_law_1494 : decode code 1494 = .ok (.iconst 2, 1) := dq_5 (drq_bt 800 694 rfl (by decide +kernel))
theorem dL_law_1495 : decode code 1495 = .ok (.iadd, 1) := dq_96 (drq_bt 800 695 rfl (by decide +kernel))
theorem dL_law_1496 : decode code 1496 = .ok (.iaload, 1) := dq_46 (drq_bt 800 696 rfl (by decide +kernel))
theorem dL_law_1497 : decode code 1497 = .ok (.invokevirtual 153, 3) := dq_182 (drq_bt 800 697 rfl (by decide +kernel))
theorem dL_law_1500 : decode code 1500 = .ok (.pop, 1) := dq_87 (drq_bt 800 700 rfl (by decide +kernel))
theorem dL_law_1501 : decode code 1501 = .ok (.goto 49, 3) := dq_167 (drq_bt 800 701 rfl (by decide +kernel))
theorem dL_law_1504 : decode code 1504 = .ok (.aload_n 1, 1) := dq_43 (drq_bt 800 704 rfl (by decide +kernel))
theorem dL_law_1505 : decode code 1505 = .ok (.aload_n 0, 1) := dq_42 (drq_bt 800 705 rfl (by decide +kernel))
theorem dL_law_1506 : decode code 1506 = .ok (.iload_n 3, 1) := dq_29 (drq_bt 800 706 rfl (by decide +kernel))
theorem dL_law_1507 : decode code 1507 = .ok (.iconst 1, 1) := dq_4 (drq_bt 800 707 rfl (by decide +kernel))
theorem dL_law_1508 : decode code 1508 = .ok (.iadd, 1) := dq_96 (drq_bt 800 708 rfl (by decide +kernel))
theorem dL_law_1509 : decode code 1509 = .ok (.iaload, 1) := dq_46 (drq_bt 800 709 rfl (by decide +kernel))
theorem dL_law_1510 : decode code 1510 = .ok (.invokevirtual 154, 3) := dq_182 (drq_bt 800 710 rfl (by decide +kernel))
theorem dL_law_1513 : decode code 1513 = .ok (.pop, 1) := dq_87 (drq_bt 800 713 rfl (by decide +kernel))
theorem dL_law_1514 : decode code 1514 = .ok (.aload_n 2, 1) := dq_44 (drq_bt 800 714 rfl (by decide +kernel))
theorem dL_law_1515 : decode code 1515 = .ok (.aload_n 0, 1) := dq_42 (drq_bt 800 715 rfl (by decide +kernel))
theorem dL_law_1516 : decode code 1516 = .ok (.iload_n 3, 1) := dq_29 (drq_bt 800 716 rfl (by decide +kernel))
theorem dL_law_1517 : decode code 1517 = .ok (.iconst 1, 1) := dq_4 (drq_bt 800 717 rfl (by decide +kernel))
theorem dL_law_1518 : decode code 1518 = .ok (.iadd, 1) := dq_96 (drq_bt 800 718 rfl (by decide +kernel))
theorem dL_law_1519 : decode code 1519 = .ok (.iaload, 1) := dq_46 (drq_bt 800 719 rfl (by decide +kernel))
theorem dL_law_1520 : decode code 1520 = .ok (.invokevirtual 157, 3) := dq_182 (drq_bt 800 720 rfl (by decide +kernel))
theorem dL_law_1523 : decode code 1523 = .ok (.pop, 1) := dq_87 (drq_bt 800 723 rfl (by decide +kernel))
theorem dL_law_1524 : decode code 1524 = .ok (.goto 26, 3) := dq_167 (drq_bt 800 724 rfl (by decide +kernel))
theorem dL_law_1527 : decode code 1527 = .ok (.aload_n 1, 1) := dq_43 (drq_bt 800 727 rfl (by decide +kernel))
theorem dL_law_1528 : decode code 1528 = .ok (.aload_n 0, 1) := dq_42 (drq_bt 800 728 rfl (by decide +kernel))
theorem dL_law_1529 : decode code 1529 = .ok (.iload_n 3, 1) := dq_29 (drq_bt 800 729 rfl (by decide +kernel))
theorem dL_law_1530 : decode code 1530 = .ok (.iconst 1, 1) := dq_4 (drq_bt 800 730 rfl (by decide +kernel))
theorem dL_law_1531 : decode code 1531 = .ok (.iadd, 1) := dq_96 (drq_bt 800 731 rfl (by decide +kernel))
theorem dL_law_1532 : decode code 1532 = .ok (.iaload, 1) := dq_46 (drq_bt 800 732 rfl (by decide +kernel))
theorem dL_law_1533 : decode code 1533 = .ok (.invokevirtual 158, 3) := dq_182 (drq_bt 800 733 rfl (by decide +kernel))
theorem dL_law_1536 : decode code 1536 = .ok (.pop, 1) := dq_87 (drq_bt 800 736 rfl (by decide +kernel))
theorem dL_law_1537 : decode code 1537 = .ok (.aload_n 2, 1) := dq_44 (drq_bt 800 737 rfl (by decide +kernel))
theorem dL_law_1538 : decode code 1538 = .ok (.aload_n 0, 1) := dq_42 (drq_bt 800 738 rfl (by decide +kernel))
theorem dL_law_1539 : decode code 1539 = .ok (.iload_n 3, 1) := dq_29 (drq_bt 800 739 rfl (by decide +kernel))
theorem dL_law_1540 : decode code 1540 = .ok (.iconst 1, 1) := dq_4 (drq_bt 800 740 rfl (by decide +kernel))
theorem dL_law_1541 : decode code 1541 = .ok (.iadd, 1) := dq_96 (drq_bt 800 741 rfl (by decide +kernel))
theorem dL_law_1542 : decode code 1542 = .ok (.iaload, 1) := dq_46 (drq_bt 800 742 rfl (by decide +kernel))
theorem dL_law_1543 : decode code 1543 = .ok (.invokevirtual 161, 3) := dq_182 (drq_bt 800 743 rfl (by decide +kernel))
theorem dL_law_1546 : decode code 1546 = .ok (.pop, 1) := dq_87 (drq_bt 800 746 rfl (by decide +kernel))
theorem dL_law_1547 : decode code 1547 = .ok (.goto 3, 3) := dq_167 (drq_bt 800 747 rfl (by decide +kernel))
theorem dL_law_1550 : decode code 1550 = .ok (.iinc 3 6, 3) := dq_132 (drq_bt 800 750 rfl (by decide +kernel))
theorem dL_law_1553 : decode code 1553 = .ok (.goto (-1535), 3) := dq_167 (drq_bt 800 753 rfl (by decide +kernel))
theorem dL_law_1556 : decode code 1556 = .ok (.iconst 1, 1) := dq_4 (drq_bt 800 756 rfl (by decide +kernel))
theorem dL_law_1557 : decode code 1557 = .ok (.ireturn, 1) := dq_172 (drq_bt 800 757 rfl (by decide +kernel))
end
section
def LI (zx : XS) (zm : MS) : Prop := XI zx ∧ MI zm ∧ TR zx zm
set_option maxHeartbeats 4000000 in
set_option maxRecDepth 100000 in
theorem law_0 {p : Program} {l : Launch} {e : Env} {s : State} {m : MethodId} {below : List Frame} {meth : Method} {c : Code} {D : va_G} {E : Nat → Nat} {b L : Nat} {xs : Nat → Int32} (hx : p.tables.exec = Jvm.exec) (hb : c.code = code) (hr : meth.sig.returnType = ret) (hml : c.maxLocals = 4) (hown : s.vm.findClass R_law = some m.cls) (htb : ∀ w ∈ tb, w.before #[Value.ref b] s = true) (hK : KX D E s) (hG : SGs [((E 6), (E 8), 60, tw6), ((E 7), (E 9), 35, tw7)] (fun q : Nat => s.heap.size ≤ q) s s.heap) (hX : va_X b L xs s s.heap) (hL : L ≤ 3072) (hbl : b < s.heap.size) (hlocks : meth.locks = false) {qx qm k : Nat} {i : Int32} (hk : k ≤ 512) (hi : i.toInt = 6 * (k : Int)) (hiL : i.toInt + 6 ≤ (L : Int)) {zx : XS} {zm : MS} {H : Heap} {locs : List Loc} {ls : Array Slot} (hI : LI zx zm) (hP : va_P D vwCl (XW E qx zx ++ MW E qm zm) H) (hD : va_D (fun q : Nat => s.heap.size ≤ q) (XW E qx zx ++ MW E qm zm)) (hS : va_S (fun q : Nat => s.heap.size ≤ q) s.heap H locs) (hl : lv_has ls 4 [(3, .int i), (2, .ref qm), (1, .ref qx), (0, .ref b)]) (next : ∀ (zx : XS) (zm : MS) (H : Heap) (locs : List Loc) (ls : Array Slot), LI zx zm → va_P D vwCl (XW E qx zx ++ MW E qm zm) H → va_D (fun q : Nat => s.heap.size ≤ q) (XW E qx zx ++ MW E qm zm) → va_S (fun q : Nat => s.heap.size ≤ q) s.heap H locs → lv_has ls 4 [(3, .int i), (2, .ref qm), (1, .ref qx), (0, .ref b)] → W p l e room_1 s m #[Value.ref b] below meth c H locs ((123 + 5 * k) + 5) ((44666 + 1604 * k) + 1604) (lw_Z below #[Value.ref b] s) (F0 m 1550 ls [])) : W p l e room_1 s m #[Value.ref b] below meth c H locs (123 + 5 * k) (44666 + 1604 * k) (lw_Z below #[Value.ref b] s) (F0 m 192 ls []) := by
  have hA : ∀ q : Nat, s.heap.size ≤ q → (fun q : Nat => s.heap.size ≤ q) q := fun _ h => h
  have hbA : ¬ (fun q : Nat => s.heap.size ≤ q) b := Nat.not_le.mpr hbl
  obtain ⟨hIx, hIm, hTR⟩ := hI
  have hI0 := hIx
  refine lv_aload_n hx hb dL_law_192 rfl (lv_at hl 2 rfl) ?_
  refine lv_aload_n hx hb dL_law_193 rfl (lv_at hl 3 rfl) ?_
  refine lv_iload_n hx hb dL_law_194 rfl (lv_at hl 0 rfl) ?_
  refine lv_iconst (v := 1) hx hb dL_law_195 (by decide) ?_
  refine lv_iadd hx hb dL_law_196 ?_
  refine va_sld hx hb hX hbl hbA hS (sc_in (by omega) t_1 (by omega) (by omega) (by omega)) dL_law_197 ?_
  refine aftU_i (runMG (rest := []) (As := [.int (xs (i + 1).toNatClampNeg)]) hx hb hml hown htb (U_X8_days l D E qx (xs (i + 1).toNatClampNeg) _ zx hIx) ok_X8_days k_315 k_316 k_317 k_1 k_318 ⟨(Nat.le_of_ble_eq_true rfl), (Nat.le_of_ble_eq_true rfl)⟩ ⟨(show (123 + 5 * k) + 0 ≤ 600000 by omega), (show (44666 + 1604 * k) + 0 ≤ 7302250 by omega)⟩ hl.1 (Nat.le_of_ble_eq_true rfl) rfl rfl dL_law_198 (pmU (List.Perm.refl _) hP hD hK (XW_c (lP hP)) rfl rfl 0 rfl)) (List.Perm.refl _) hP hD hS hA (fun r_1 zs_3 H locs hw_2 hP hD hS => ?_)
  obtain ⟨hIx, hw_2_0⟩ := hw_2
  refine lv_pop hx hb dL_law_201 rfl ?_
  refine lv_aload_n hx hb dL_law_202 rfl (lv_at hl 1 rfl) ?_
  refine lv_aload_n hx hb dL_law_203 rfl (lv_at hl 3 rfl) ?_
  refine lv_iload_n hx hb dL_law_204 rfl (lv_at hl 0 rfl) ?_
  refine lv_iconst (v := 1) hx hb dL_law_205 (by decide) ?_
  refine lv_iadd hx hb dL_law_206 ?_
  refine va_sld hx hb hX hbl hbA hS (sc_in (by omega) t_1 (by omega) (by omega) (by omega)) dL_law_207 ?_
  refine aftU_i (runMG (rest := []) (As := [.int (xs (i + 1).toNatClampNeg)]) hx hb hml hown htb (U_X9_days l D E qm (xs (i + 1).toNatClampNeg) _ zm hIm) ok_X9_days k_1164 k_1165 k_1166 k_9 k_1167 ⟨(Nat.le_of_ble_eq_true rfl), (Nat.le_of_ble_eq_true rfl)⟩ ⟨(show (123 + 5 * k) + 0 + 0 ≤ 600000 by omega), (show (44666 + 1604 * k) + 0 + 0 ≤ 7302250 by omega)⟩ hl.1 (Nat.le_of_ble_eq_true rfl) rfl rfl dL_law_208 (pmU List.perm_append_comm hP hD hK (rP hP) rfl rfl 0 rfl)) List.perm_append_comm hP hD hS hA (fun r_4 zs_6 H locs hw_5 hP hD hS => ?_)
  have hP := sw_P hP; have hD := sw_D hD
  obtain ⟨hIm, hw_5_0⟩ := hw_5
  refine lv_pop hx hb dL_law_211 rfl ?_
  refine lv_goto (tgt := 1550) hx hb dL_law_212 (by decide) ?_
  refine W.widen (k := (123 + 5 * k) + 5) (n := (44666 + 1604 * k) + 1604) (by omega) (by omega) ?_
  exact next zs_3 zs_6 _ _ _ ⟨hIx, hIm, (ST_days hI0 hTR hw_2_0 hw_5_0)⟩ hP hD hS (lv_sub hl [0, 1, 2, 3] rfl)
set_option maxHeartbeats 4000000 in
set_option maxRecDepth 100000 in
theorem law_1 {p : Program} {l : Launch} {e : Env} {s : State} {m : MethodId} {below : List Frame} {meth : Method} {c : Code} {D : va_G} {E : Nat → Nat} {b L : Nat} {xs : Nat → Int32} (hx : p.tables.exec = Jvm.exec) (hb : c.code = code) (hr : meth.sig.returnType = ret) (hml : c.maxLocals = 4) (hown : s.vm.findClass R_law = some m.cls) (htb : ∀ w ∈ tb, w.before #[Value.ref b] s = true) (hK : KX D E s) (hG : SGs [((E 6), (E 8), 60, tw6), ((E 7), (E 9), 35, tw7)] (fun q : Nat => s.heap.size ≤ q) s s.heap) (hX : va_X b L xs s s.heap) (hL : L ≤ 3072) (hbl : b < s.heap.size) (hlocks : meth.locks = false) {qx qm k : Nat} {i : Int32} (hk : k ≤ 512) (hi : i.toInt = 6 * (k : Int)) (hiL : i.toInt + 6 ≤ (L : Int)) {zx : XS} {zm : MS} {H : Heap} {locs : List Loc} {ls : Array Slot} (hI : LI zx zm) (hP : va_P D vwCl (XW E qx zx ++ MW E qm zm) H) (hD : va_D (fun q : Nat => s.heap.size ≤ q) (XW E qx zx ++ MW E qm zm)) (hS : va_S (fun q : Nat => s.heap.size ≤ q) s.heap H locs) (hl : lv_has ls 4 [(3, .int i), (2, .ref qm), (1, .ref qx), (0, .ref b)]) (next : ∀ (zx : XS) (zm : MS) (H : Heap) (locs : List Loc) (ls : Array Slot), LI zx zm → va_P D vwCl (XW E qx zx ++ MW E qm zm) H → va_D (fun q : Nat => s.heap.size ≤ q) (XW E qx zx ++ MW E qm zm) → va_S (fun q : Nat => s.heap.size ≤ q) s.heap H locs → lv_has ls 4 [(3, .int i), (2, .ref qm), (1, .ref qx), (0, .ref b)] → W p l e room_1 s m #[Value.ref b] below meth c H locs ((123 + 5 * k) + 5) ((44666 + 1604 * k) + 1604) (lw_Z below #[Value.ref b] s) (F0 m 1550 ls [])) : W p l e room_1 s m #[Value.ref b] below meth c H locs (123 + 5 * k) (44666 + 1604 * k) (lw_Z below #[Value.ref b] s) (F0 m 215 ls []) := by
  have hA : ∀ q : Nat, s.heap.size ≤ q → (fun q : Nat => s.heap.size ≤ q) q := fun _ h => h
  have hbA : ¬ (fun q : Nat => s.heap.size ≤ q) b := Nat.not_le.mpr hbl
  obtain ⟨hIx, hIm, hTR⟩ := hI
  have hI0 := hIx
  refine lv_aload_n hx hb dL_law_215 rfl (lv_at hl 2 rfl) ?_
  refine lv_aload_n hx hb dL_law_216 rfl (lv_at hl 3 rfl) ?_
  refine lv_iload_n hx hb dL_law_217 rfl (lv_at hl 0 rfl) ?_
  refine lv_iconst (v := 1) hx hb dL_law_218 (by decide) ?_
  refine lv_iadd hx hb dL_law_219 ?_
  refine va_sld hx hb hX hbl hbA hS (sc_in (by omega) t_1 (by omega) (by omega) (by omega)) dL_law_220 ?_
  refine lv_aload_n hx hb dL_law_221 rfl (lv_at hl 3 rfl) ?_
  refine lv_iload_n hx hb dL_law_222 rfl (lv_at hl 0 rfl) ?_
  refine lv_iconst (v := 2) hx hb dL_law_223 (by decide) ?_
  refine lv_iadd hx hb dL_law_224 ?_
  refine va_sld hx hb hX hbl hbA hS (sc_in (by omega) t_2 (by omega) (by omega) (by omega)) dL_law_225 ?_
  refine aftU_i (runMG (rest := []) (As := [.int (xs (i + 1).toNatClampNeg), .int (xs (i + 2).toNatClampNeg)]) hx hb hml hown htb (U_X8_warmth l D E qx (xs (i + 1).toNatClampNeg) (xs (i + 2).toNatClampNeg) _ zx hIx) ok_X8_warmth k_319 k_320 k_321 k_1 k_322 ⟨(Nat.le_of_ble_eq_true rfl), (Nat.le_of_ble_eq_true rfl)⟩ ⟨(show (123 + 5 * k) + 0 ≤ 600000 by omega), (show (44666 + 1604 * k) + 0 ≤ 7302250 by omega)⟩ hl.1 (Nat.le_of_ble_eq_true rfl) rfl rfl dL_law_226 (pmU (List.Perm.refl _) hP hD hK (XW_c (lP hP)) rfl rfl 0 rfl)) (List.Perm.refl _) hP hD hS hA (fun r_1 zs_3 H locs hw_2 hP hD hS => ?_)
  obtain ⟨hIx, hw_2_0⟩ := hw_2
  refine lv_pop hx hb dL_law_229 rfl ?_
  refine lv_aload_n hx hb dL_law_230 rfl (lv_at hl 1 rfl) ?_
  refine lv_aload_n hx hb dL_law_231 rfl (lv_at hl 3 rfl) ?_
  refine lv_iload_n hx hb dL_law_232 rfl (lv_at hl 0 rfl) ?_
  refine lv_iconst (v := 1) hx hb dL_law_233 (by decide) ?_
  refine lv_iadd hx hb dL_law_234 ?_
  refine va_sld hx hb hX hbl hbA hS (sc_in (by omega) t_1 (by omega) (by omega) (by omega)) dL_law_235 ?_
  refine lv_aload_n hx hb dL_law_236 rfl (lv_at hl 3 rfl) ?_
  refine lv_iload_n hx hb dL_law_237 rfl (lv_at hl 0 rfl) ?_
  refine lv_iconst (v := 2) hx hb dL_law_238 (by decide) ?_
  refine lv_iadd hx hb dL_law_239 ?_
  refine va_sld hx hb hX hbl hbA hS (sc_in (by omega) t_2 (by omega) (by omega) (by omega)) dL_law_240 ?_
  refine aftU_i (runMG (rest := []) (As := [.int (xs (i + 1).toNatClampNeg), .int (xs (i + 2).toNatClampNeg)]) hx hb hml hown htb (U_X9_warmth l D E qm (xs (i + 1).toNatClampNeg) (xs (i + 2).toNatClampNeg) _ zm hIm) ok_X9_warmth k_1171 k_1172 k_1173 k_9 k_1174 ⟨(Nat.le_of_ble_eq_true rfl), (Nat.le_of_ble_eq_true rfl)⟩ ⟨(show (123 + 5 * k) + 0 + 0 ≤ 600000 by omega), (show (44666 + 1604 * k) + 0 + 0 ≤ 7302250 by omega)⟩ hl.1 (Nat.le_of_ble_eq_true rfl) rfl rfl dL_law_241 (pmU List.perm_append_comm hP hD hK (rP hP) rfl rfl 0 rfl)) List.perm_append_comm hP hD hS hA (fun r_4 zs_6 H locs hw_5 hP hD hS => ?_)
  have hP := sw_P hP; have hD := sw_D hD
  obtain ⟨hIm, hw_5_0⟩ := hw_5
  refine lv_pop hx hb dL_law_244 rfl ?_
  refine lv_goto (tgt := 1550) hx hb dL_law_245 (by decide) ?_
  refine W.widen (k := (123 + 5 * k) + 5) (n := (44666 + 1604 * k) + 1604) (by omega) (by omega) ?_
  exact next zs_3 zs_6 _ _ _ ⟨hIx, hIm, (ST_warmth hI0 hTR hw_2_0 hw_5_0)⟩ hP hD hS (lv_sub hl [0, 1, 2, 3] rfl)
set_option maxHeartbeats 4000000 in
set_option maxRecDepth 100000 in
theorem law_2 {p : Program} {l : Launch} {e : Env} {s : State} {m : MethodId} {below : List Frame} {meth : Method} {c : Code} {D : va_G} {E : Nat → Nat} {b L : Nat} {xs : Nat → Int32} (hx : p.tables.exec = Jvm.exec) (hb : c.code = code) (hr : meth.sig.returnType = ret) (hml : c.maxLocals = 4) (hown : s.vm.findClass R_law = some m.cls) (htb : ∀ w ∈ tb, w.before #[Value.ref b] s = true) (hK : KX D E s) (hG : SGs [((E 6), (E 8), 60, tw6), ((E 7), (E 9), 35, tw7)] (fun q : Nat => s.heap.size ≤ q) s s.heap) (hX : va_X b L xs s s.heap) (hL : L ≤ 3072) (hbl : b < s.heap.size) (hlocks : meth.locks = false) {qx qm k : Nat} {i : Int32} (hk : k ≤ 512) (hi : i.toInt = 6 * (k : Int)) (hiL : i.toInt + 6 ≤ (L : Int)) {zx : XS} {zm : MS} {H : Heap} {locs : List Loc} {ls : Array Slot} (hI : LI zx zm) (hP : va_P D vwCl (XW E qx zx ++ MW E qm zm) H) (hD : va_D (fun q : Nat => s.heap.size ≤ q) (XW E qx zx ++ MW E qm zm)) (hS : va_S (fun q : Nat => s.heap.size ≤ q) s.heap H locs) (hl : lv_has ls 4 [(3, .int i), (2, .ref qm), (1, .ref qx), (0, .ref b)]) (next : ∀ (zx : XS) (zm : MS) (H : Heap) (locs : List Loc) (ls : Array Slot), LI zx zm → va_P D vwCl (XW E qx zx ++ MW E qm zm) H → va_D (fun q : Nat => s.heap.size ≤ q) (XW E qx zx ++ MW E qm zm) → va_S (fun q : Nat => s.heap.size ≤ q) s.heap H locs → lv_has ls 4 [(3, .int i), (2, .ref qm), (1, .ref qx), (0, .ref b)] → W p l e room_1 s m #[Value.ref b] below meth c H locs ((123 + 5 * k) + 5) ((44666 + 1604 * k) + 1604) (lw_Z below #[Value.ref b] s) (F0 m 1550 ls [])) : W p l e room_1 s m #[Value.ref b] below meth c H locs (123 + 5 * k) (44666 + 1604 * k) (lw_Z below #[Value.ref b] s) (F0 m 248 ls []) := by
  have hA : ∀ q : Nat, s.heap.size ≤ q → (fun q : Nat => s.heap.size ≤ q) q := fun _ h => h
  have hbA : ¬ (fun q : Nat => s.heap.size ≤ q) b := Nat.not_le.mpr hbl
  obtain ⟨hIx, hIm, hTR⟩ := hI
  have hI0 := hIx
  refine lv_aload_n hx hb dL_law_248 rfl (lv_at hl 2 rfl) ?_
  refine lv_aload_n hx hb dL_law_249 rfl (lv_at hl 3 rfl) ?_
  refine lv_iload_n hx hb dL_law_250 rfl (lv_at hl 0 rfl) ?_
  refine lv_iconst (v := 1) hx hb dL_law_251 (by decide) ?_
  refine lv_iadd hx hb dL_law_252 ?_
  refine va_sld hx hb hX hbl hbA hS (sc_in (by omega) t_1 (by omega) (by omega) (by omega)) dL_law_253 ?_
  refine lv_aload_n hx hb dL_law_254 rfl (lv_at hl 3 rfl) ?_
  refine lv_iload_n hx hb dL_law_255 rfl (lv_at hl 0 rfl) ?_
  refine lv_iconst (v := 2) hx hb dL_law_256 (by decide) ?_
  refine lv_iadd hx hb dL_law_257 ?_
  refine va_sld hx hb hX hbl hbA hS (sc_in (by omega) t_2 (by omega) (by omega) (by omega)) dL_law_258 ?_
  refine lv_aload_n hx hb dL_law_259 rfl (lv_at hl 3 rfl) ?_
  refine lv_iload_n hx hb dL_law_260 rfl (lv_at hl 0 rfl) ?_
  refine lv_iconst (v := 3) hx hb dL_law_261 (by decide) ?_
  refine lv_iadd hx hb dL_law_262 ?_
  refine va_sld hx hb hX hbl hbA hS (sc_in (by omega) t_3 (by omega) (by omega) (by omega)) dL_law_263 ?_
  refine aftU_i (runMG (rest := []) (As := [.int (xs (i + 1).toNatClampNeg), .int (xs (i + 2).toNatClampNeg), .int (xs (i + 3).toNatClampNeg)]) hx hb hml hown htb (U_X8_put l D E qx (xs (i + 1).toNatClampNeg) (xs (i + 2).toNatClampNeg) (xs (i + 3).toNatClampNeg) _ zx hIx) ok_X8_put k_329 k_330 k_331 k_1 k_332 ⟨(Nat.le_of_ble_eq_true rfl), (Nat.le_of_ble_eq_true rfl)⟩ ⟨(show (123 + 5 * k) + 5 ≤ 600000 by omega), (show (44666 + 1604 * k) + 1604 ≤ 7302250 by omega)⟩ hl.1 (Nat.le_of_ble_eq_true rfl) rfl rfl dL_law_264 (pmU (List.Perm.refl _) hP hD hK (XW_c (lP hP)) rfl rfl 0 rfl)) (List.Perm.refl _) hP hD hS hA (fun r_1 zs_3 H locs hw_2 hP hD hS => ?_)
  obtain ⟨hIx, hw_2_0⟩ := hw_2
  refine lv_pop hx hb dL_law_267 rfl ?_
  refine lv_aload_n hx hb dL_law_268 rfl (lv_at hl 1 rfl) ?_
  refine lv_aload_n hx hb dL_law_269 rfl (lv_at hl 3 rfl) ?_
  refine lv_iload_n hx hb dL_law_270 rfl (lv_at hl 0 rfl) ?_
  refine lv_iconst (v := 1) hx hb dL_law_271 (by decide) ?_
  refine lv_iadd hx hb dL_law_272 ?_
  refine va_sld hx hb hX hbl hbA hS (sc_in (by omega) t_1 (by omega) (by omega) (by omega)) dL_law_273 ?_
  refine lv_aload_n hx hb dL_law_274 rfl (lv_at hl 3 rfl) ?_
  refine lv_iload_n hx hb dL_law_275 rfl (lv_at hl 0 rfl) ?_
  refine lv_iconst (v := 2) hx hb dL_law_276 (by decide) ?_
  refine lv_iadd hx hb dL_law_277 ?_
  refine va_sld hx hb hX hbl hbA hS (sc_in (by omega) t_2 (by omega) (by omega) (by omega)) dL_law_278 ?_
  refine lv_aload_n hx hb dL_law_279 rfl (lv_at hl 3 rfl) ?_
  refine lv_iload_n hx hb dL_law_280 rfl (lv_at hl 0 rfl) ?_
  refine lv_iconst (v := 3) hx hb dL_law_281 (by decide) ?_
  refine lv_iadd hx hb dL_law_282 ?_
  refine va_sld hx hb hX hbl hbA hS (sc_in (by omega) t_3 (by omega) (by omega) (by omega)) dL_law_283 ?_
  refine aftU_i (runMG (rest := []) (As := [.int (xs (i + 1).toNatClampNeg), .int (xs (i + 2).toNatClampNeg), .int (xs (i + 3).toNatClampNeg)]) hx hb hml hown htb (U_X9_put l D E qm (xs (i + 1).toNatClampNeg) (xs (i + 2).toNatClampNeg) (xs (i + 3).toNatClampNeg) _ zm hIm) ok_X9_put k_1178 k_1179 k_1180 k_9 k_1181 ⟨(Nat.le_of_ble_eq_true rfl), (Nat.le_of_ble_eq_true rfl)⟩ ⟨(show (123 + 5 * k) + 5 + 0 ≤ 600000 by omega), (show (44666 + 1604 * k) + 1604 + 0 ≤ 7302250 by omega)⟩ hl.1 (Nat.le_of_ble_eq_true rfl) rfl rfl dL_law_284 (pmU List.perm_append_comm hP hD hK (rP hP) rfl rfl 0 rfl)) List.perm_append_comm hP hD hS hA (fun r_4 zs_6 H locs hw_5 hP hD hS => ?_)
  have hP := sw_P hP; have hD := sw_D hD
  obtain ⟨hIm, hw_5_0⟩ := hw_5
  refine lv_pop hx hb dL_law_287 rfl ?_
  refine lv_goto (tgt := 1550) hx hb dL_law_288 (by decide) ?_
  refine W.widen (k := (123 + 5 * k) + 5) (n := (44666 + 1604 * k) + 1604) (by omega) (by omega) ?_
  exact next zs_3 zs_6 _ _ _ ⟨hIx, hIm, (ST_put hI0 hTR hw_2_0 hw_5_0)⟩ hP hD hS (lv_sub hl [0, 1, 2, 3] rfl)
set_option maxHeartbeats 4000000 in
set_option maxRecDepth 100000 in
theorem law_3 {p : Program} {l : Launch} {e : Env} {s : State} {m : MethodId} {below : List Frame} {meth : Method} {c : Code} {D : va_G} {E : Nat → Nat} {b L : Nat} {xs : Nat → Int32} (hx : p.tables.exec = Jvm.exec) (hb : c.code = code) (hr : meth.sig.returnType = ret) (hml : c.maxLocals = 4) (hown : s.vm.findClass R_law = some m.cls) (htb : ∀ w ∈ tb, w.before #[Value.ref b] s = true) (hK : KX D E s) (hG : SGs [((E 6), (E 8), 60, tw6), ((E 7), (E 9), 35, tw7)] (fun q : Nat => s.heap.size ≤ q) s s.heap) (hX : va_X b L xs s s.heap) (hL : L ≤ 3072) (hbl : b < s.heap.size) (hlocks : meth.locks = false) {qx qm k : Nat} {i : Int32} (hk : k ≤ 512) (hi : i.toInt = 6 * (k : Int)) (hiL : i.toInt + 6 ≤ (L : Int)) {zx : XS} {zm : MS} {H : Heap} {locs : List Loc} {ls : Array Slot} (hI : LI zx zm) (hP : va_P D vwCl (XW E qx zx ++ MW E qm zm) H) (hD : va_D (fun q : Nat => s.heap.size ≤ q) (XW E qx zx ++ MW E qm zm)) (hS : va_S (fun q : Nat => s.heap.size ≤ q) s.heap H locs) (hl : lv_has ls 4 [(3, .int i), (2, .ref qm), (1, .ref qx), (0, .ref b)]) (next : ∀ (zx : XS) (zm : MS) (H : Heap) (locs : List Loc) (ls : Array Slot), LI zx zm → va_P D vwCl (XW E qx zx ++ MW E qm zm) H → va_D (fun q : Nat => s.heap.size ≤ q) (XW E qx zx ++ MW E qm zm) → va_S (fun q : Nat => s.heap.size ≤ q) s.heap H locs → lv_has ls 4 [(3, .int i), (2, .ref qm), (1, .ref qx), (0, .ref b)] → W p l e room_1 s m #[Value.ref b] below meth c H locs ((123 + 5 * k) + 5) ((44666 + 1604 * k) + 1604) (lw_Z below #[Value.ref b] s) (F0 m 1550 ls [])) : W p l e room_1 s m #[Value.ref b] below meth c H locs (123 + 5 * k) (44666 + 1604 * k) (lw_Z below #[Value.ref b] s) (F0 m 291 ls []) := by
  have hA : ∀ q : Nat, s.heap.size ≤ q → (fun q : Nat => s.heap.size ≤ q) q := fun _ h => h
  have hbA : ¬ (fun q : Nat => s.heap.size ≤ q) b := Nat.not_le.mpr hbl
  obtain ⟨hIx, hIm, hTR⟩ := hI
  have hI0 := hIx
  refine lv_aload_n hx hb dL_law_291 rfl (lv_at hl 2 rfl) ?_
  refine lv_aload_n hx hb dL_law_292 rfl (lv_at hl 3 rfl) ?_
  refine lv_iload_n hx hb dL_law_293 rfl (lv_at hl 0 rfl) ?_
  refine lv_iconst (v := 1) hx hb dL_law_294 (by decide) ?_
  refine lv_iadd hx hb dL_law_295 ?_
  refine va_sld hx hb hX hbl hbA hS (sc_in (by omega) t_1 (by omega) (by omega) (by omega)) dL_law_296 ?_
  refine aftU_i (runMG (rest := []) (As := [.int (xs (i + 1).toNatClampNeg)]) hx hb hml hown htb (U_X8_take l D E qx (xs (i + 1).toNatClampNeg) _ zx hIx) ok_X8_take k_365 k_366 k_367 k_1 k_368 ⟨(Nat.le_of_ble_eq_true rfl), (Nat.le_of_ble_eq_true rfl)⟩ ⟨(show (123 + 5 * k) + 0 ≤ 600000 by omega), (show (44666 + 1604 * k) + 0 ≤ 7302250 by omega)⟩ hl.1 (Nat.le_of_ble_eq_true rfl) rfl rfl dL_law_297 (pmU (List.Perm.refl _) hP hD hK (XW_c (lP hP)) rfl rfl 0 rfl)) (List.Perm.refl _) hP hD hS hA (fun r_1 zs_3 H locs hw_2 hP hD hS => ?_)
  obtain ⟨hIx, hw_2_0⟩ := hw_2
  refine lv_pop hx hb dL_law_300 rfl ?_
  refine lv_aload_n hx hb dL_law_301 rfl (lv_at hl 1 rfl) ?_
  refine lv_aload_n hx hb dL_law_302 rfl (lv_at hl 3 rfl) ?_
  refine lv_iload_n hx hb dL_law_303 rfl (lv_at hl 0 rfl) ?_
  refine lv_iconst (v := 1) hx hb dL_law_304 (by decide) ?_
  refine lv_iadd hx hb dL_law_305 ?_
  refine va_sld hx hb hX hbl hbA hS (sc_in (by omega) t_1 (by omega) (by omega) (by omega)) dL_law_306 ?_
  refine aftU_i (runMG (rest := []) (As := [.int (xs (i + 1).toNatClampNeg)]) hx hb hml hown htb (U_X9_take l D E qm (xs (i + 1).toNatClampNeg) _ zm hIm) ok_X9_take k_1185 k_1186 k_1187 k_9 k_1188 ⟨(Nat.le_of_ble_eq_true rfl), (Nat.le_of_ble_eq_true rfl)⟩ ⟨(show (123 + 5 * k) + 0 + 0 ≤ 600000 by omega), (show (44666 + 1604 * k) + 0 + 0 ≤ 7302250 by omega)⟩ hl.1 (Nat.le_of_ble_eq_true rfl) rfl rfl dL_law_307 (pmU List.perm_append_comm hP hD hK (rP hP) rfl rfl 0 rfl)) List.perm_append_comm hP hD hS hA (fun r_4 zs_6 H locs hw_5 hP hD hS => ?_)
  have hP := sw_P hP; have hD := sw_D hD
  obtain ⟨hIm, hw_5_0⟩ := hw_5
  refine lv_pop hx hb dL_law_310 rfl ?_
  refine lv_goto (tgt := 1550) hx hb dL_law_311 (by decide) ?_
  refine W.widen (k := (123 + 5 * k) + 5) (n := (44666 + 1604 * k) + 1604) (by omega) (by omega) ?_
  exact next zs_3 zs_6 _ _ _ ⟨hIx, hIm, (ST_take hI0 hTR hw_2_0 hw_5_0)⟩ hP hD hS (lv_sub hl [0, 1, 2, 3] rfl)
set_option maxHeartbeats 4000000 in
set_option maxRecDepth 100000 in
theorem law_4 {p : Program} {l : Launch} {e : Env} {s : State} {m : MethodId} {below : List Frame} {meth : Method} {c : Code} {D : va_G} {E : Nat → Nat} {b L : Nat} {xs : Nat → Int32} (hx : p.tables.exec = Jvm.exec) (hb : c.code = code) (hr : meth.sig.returnType = ret) (hml : c.maxLocals = 4) (hown : s.vm.findClass R_law = some m.cls) (htb : ∀ w ∈ tb, w.before #[Value.ref b] s = true) (hK : KX D E s) (hG : SGs [((E 6), (E 8), 60, tw6), ((E 7), (E 9), 35, tw7)] (fun q : Nat => s.heap.size ≤ q) s s.heap) (hX : va_X b L xs s s.heap) (hL : L ≤ 3072) (hbl : b < s.heap.size) (hlocks : meth.locks = false) {qx qm k : Nat} {i : Int32} (hk : k ≤ 512) (hi : i.toInt = 6 * (k : Int)) (hiL : i.toInt + 6 ≤ (L : Int)) {zx : XS} {zm : MS} {H : Heap} {locs : List Loc} {ls : Array Slot} (hI : LI zx zm) (hP : va_P D vwCl (XW E qx zx ++ MW E qm zm) H) (hD : va_D (fun q : Nat => s.heap.size ≤ q) (XW E qx zx ++ MW E qm zm)) (hS : va_S (fun q : Nat => s.heap.size ≤ q) s.heap H locs) (hl : lv_has ls 4 [(3, .int i), (2, .ref qm), (1, .ref qx), (0, .ref b)]) (next : ∀ (zx : XS) (zm : MS) (H : Heap) (locs : List Loc) (ls : Array Slot), LI zx zm → va_P D vwCl (XW E qx zx ++ MW E qm zm) H → va_D (fun q : Nat => s.heap.size ≤ q) (XW E qx zx ++ MW E qm zm) → va_S (fun q : Nat => s.heap.size ≤ q) s.heap H locs → lv_has ls 4 [(3, .int i), (2, .ref qm), (1, .ref qx), (0, .ref b)] → W p l e room_1 s m #[Value.ref b] below meth c H locs ((123 + 5 * k) + 5) ((44666 + 1604 * k) + 1604) (lw_Z below #[Value.ref b] s) (F0 m 1550 ls [])) : W p l e room_1 s m #[Value.ref b] below meth c H locs (123 + 5 * k) (44666 + 1604 * k) (lw_Z below #[Value.ref b] s) (F0 m 314 ls []) := by
  have hA : ∀ q : Nat, s.heap.size ≤ q → (fun q : Nat => s.heap.size ≤ q) q := fun _ h => h
  have hbA : ¬ (fun q : Nat => s.heap.size ≤ q) b := Nat.not_le.mpr hbl
  obtain ⟨hIx, hIm, hTR⟩ := hI
  have hI0 := hIx
  refine lv_aload_n hx hb dL_law_314 rfl (lv_at hl 2 rfl) ?_
  refine lv_aload_n hx hb dL_law_315 rfl (lv_at hl 3 rfl) ?_
  refine lv_iload_n hx hb dL_law_316 rfl (lv_at hl 0 rfl) ?_
  refine lv_iconst (v := 1) hx hb dL_law_317 (by decide) ?_
  refine lv_iadd hx hb dL_law_318 ?_
  refine va_sld hx hb hX hbl hbA hS (sc_in (by omega) t_1 (by omega) (by omega) (by omega)) dL_law_319 ?_
  refine aftU_i (runMG (rest := []) (As := [.int (xs (i + 1).toNatClampNeg)]) hx hb hml hown htb (U_X8_holds l D E qx (xs (i + 1).toNatClampNeg) _ zx hIx) ok_X8_holds k_378 k_379 k_380 k_1 k_381 ⟨(Nat.le_of_ble_eq_true rfl), (Nat.le_of_ble_eq_true rfl)⟩ ⟨(show (123 + 5 * k) + 0 ≤ 600000 by omega), (show (44666 + 1604 * k) + 0 ≤ 7302250 by omega)⟩ hl.1 (Nat.le_of_ble_eq_true rfl) rfl rfl dL_law_320 (pmU (List.Perm.refl _) hP hD hK (XW_c (lP hP)) rfl rfl 0 rfl)) (List.Perm.refl _) hP hD hS hA (fun r_1 zs_3 H locs hw_2 hP hD hS => ?_)
  obtain ⟨hIx, hw_2_0⟩ := hw_2
  refine lv_pop hx hb dL_law_323 rfl ?_
  refine lv_aload_n hx hb dL_law_324 rfl (lv_at hl 1 rfl) ?_
  refine lv_aload_n hx hb dL_law_325 rfl (lv_at hl 3 rfl) ?_
  refine lv_iload_n hx hb dL_law_326 rfl (lv_at hl 0 rfl) ?_
  refine lv_iconst (v := 1) hx hb dL_law_327 (by decide) ?_
  refine lv_iadd hx hb dL_law_328 ?_
  refine va_sld hx hb hX hbl hbA hS (sc_in (by omega) t_1 (by omega) (by omega) (by omega)) dL_law_329 ?_
  refine aftU_i (runMG (rest := []) (As := [.int (xs (i + 1).toNatClampNeg)]) hx hb hml hown htb (U_X9_holds l D E qm (xs (i + 1).toNatClampNeg) _ zm hIm) ok_X9_holds k_1197 k_1198 k_1199 k_9 k_1200 ⟨(Nat.le_of_ble_eq_true rfl), (Nat.le_of_ble_eq_true rfl)⟩ ⟨(show (123 + 5 * k) + 0 + 0 ≤ 600000 by omega), (show (44666 + 1604 * k) + 0 + 0 ≤ 7302250 by omega)⟩ hl.1 (Nat.le_of_ble_eq_true rfl) rfl rfl dL_law_330 (pmU List.perm_append_comm hP hD hK (rP hP) rfl rfl 0 rfl)) List.perm_append_comm hP hD hS hA (fun r_4 zs_6 H locs hw_5 hP hD hS => ?_)
  have hP := sw_P hP; have hD := sw_D hD
  obtain ⟨hIm, hw_5_0⟩ := hw_5
  refine lv_pop hx hb dL_law_333 rfl ?_
  refine lv_goto (tgt := 1550) hx hb dL_law_334 (by decide) ?_
  refine W.widen (k := (123 + 5 * k) + 5) (n := (44666 + 1604 * k) + 1604) (by omega) (by omega) ?_
  exact next zs_3 zs_6 _ _ _ ⟨hIx, hIm, (TR_kp hTR (KP_X8_holds hw_2_0) (KP_X9_holds hw_5_0) (KQ_X9_holds hw_5_0))⟩ hP hD hS (lv_sub hl [0, 1, 2, 3] rfl)
set_option maxHeartbeats 4000000 in
set_option maxRecDepth 100000 in
theorem law_5 {p : Program} {l : Launch} {e : Env} {s : State} {m : MethodId} {below : List Frame} {meth : Method} {c : Code} {D : va_G} {E : Nat → Nat} {b L : Nat} {xs : Nat → Int32} (hx : p.tables.exec = Jvm.exec) (hb : c.code = code) (hr : meth.sig.returnType = ret) (hml : c.maxLocals = 4) (hown : s.vm.findClass R_law = some m.cls) (htb : ∀ w ∈ tb, w.before #[Value.ref b] s = true) (hK : KX D E s) (hG : SGs [((E 6), (E 8), 60, tw6), ((E 7), (E 9), 35, tw7)] (fun q : Nat => s.heap.size ≤ q) s s.heap) (hX : va_X b L xs s s.heap) (hL : L ≤ 3072) (hbl : b < s.heap.size) (hlocks : meth.locks = false) {qx qm k : Nat} {i : Int32} (hk : k ≤ 512) (hi : i.toInt = 6 * (k : Int)) (hiL : i.toInt + 6 ≤ (L : Int)) {zx : XS} {zm : MS} {H : Heap} {locs : List Loc} {ls : Array Slot} (hI : LI zx zm) (hP : va_P D vwCl (XW E qx zx ++ MW E qm zm) H) (hD : va_D (fun q : Nat => s.heap.size ≤ q) (XW E qx zx ++ MW E qm zm)) (hS : va_S (fun q : Nat => s.heap.size ≤ q) s.heap H locs) (hl : lv_has ls 4 [(3, .int i), (2, .ref qm), (1, .ref qx), (0, .ref b)]) (next : ∀ (zx : XS) (zm : MS) (H : Heap) (locs : List Loc) (ls : Array Slot), LI zx zm → va_P D vwCl (XW E qx zx ++ MW E qm zm) H → va_D (fun q : Nat => s.heap.size ≤ q) (XW E qx zx ++ MW E qm zm) → va_S (fun q : Nat => s.heap.size ≤ q) s.heap H locs → lv_has ls 4 [(3, .int i), (2, .ref qm), (1, .ref qx), (0, .ref b)] → W p l e room_1 s m #[Value.ref b] below meth c H locs ((123 + 5 * k) + 5) ((44666 + 1604 * k) + 1604) (lw_Z below #[Value.ref b] s) (F0 m 1550 ls [])) : W p l e room_1 s m #[Value.ref b] below meth c H locs (123 + 5 * k) (44666 + 1604 * k) (lw_Z below #[Value.ref b] s) (F0 m 337 ls []) := by
  have hA : ∀ q : Nat, s.heap.size ≤ q → (fun q : Nat => s.heap.size ≤ q) q := fun _ h => h
  have hbA : ¬ (fun q : Nat => s.heap.size ≤ q) b := Nat.not_le.mpr hbl
  obtain ⟨hIx, hIm, hTR⟩ := hI
  have hI0 := hIx
  refine lv_aload_n hx hb dL_law_337 rfl (lv_at hl 2 rfl) ?_
  refine lv_aload_n hx hb dL_law_338 rfl (lv_at hl 3 rfl) ?_
  refine lv_iload_n hx hb dL_law_339 rfl (lv_at hl 0 rfl) ?_
  refine lv_iconst (v := 1) hx hb dL_law_340 (by decide) ?_
  refine lv_iadd hx hb dL_law_341 ?_
  refine va_sld hx hb hX hbl hbA hS (sc_in (by omega) t_1 (by omega) (by omega) (by omega)) dL_law_342 ?_
  refine aftU_i (runMG (rest := []) (As := [.int (xs (i + 1).toNatClampNeg)]) hx hb hml hown htb (U_X8_read l D E qx (xs (i + 1).toNatClampNeg) _ zx hIx) ok_X8_read k_382 k_383 k_384 k_1 k_385 ⟨(Nat.le_of_ble_eq_true rfl), (Nat.le_of_ble_eq_true rfl)⟩ ⟨(show (123 + 5 * k) + 0 ≤ 600000 by omega), (show (44666 + 1604 * k) + 0 ≤ 7302250 by omega)⟩ hl.1 (Nat.le_of_ble_eq_true rfl) rfl rfl dL_law_343 (pmU (List.Perm.refl _) hP hD hK (XW_c (lP hP)) rfl rfl 0 rfl)) (List.Perm.refl _) hP hD hS hA (fun r_1 zs_3 H locs hw_2 hP hD hS => ?_)
  obtain ⟨hIx, hw_2_0⟩ := hw_2
  refine lv_pop hx hb dL_law_346 rfl ?_
  refine lv_aload_n hx hb dL_law_347 rfl (lv_at hl 1 rfl) ?_
  refine lv_aload_n hx hb dL_law_348 rfl (lv_at hl 3 rfl) ?_
  refine lv_iload_n hx hb dL_law_349 rfl (lv_at hl 0 rfl) ?_
  refine lv_iconst (v := 1) hx hb dL_law_350 (by decide) ?_
  refine lv_iadd hx hb dL_law_351 ?_
  refine va_sld hx hb hX hbl hbA hS (sc_in (by omega) t_1 (by omega) (by omega) (by omega)) dL_law_352 ?_
  refine aftU_i (runMG (rest := []) (As := [.int (xs (i + 1).toNatClampNeg)]) hx hb hml hown htb (U_X9_read l D E qm (xs (i + 1).toNatClampNeg) _ zm hIm) ok_X9_read k_1201 k_1202 k_1203 k_9 k_1204 ⟨(Nat.le_of_ble_eq_true rfl), (Nat.le_of_ble_eq_true rfl)⟩ ⟨(show (123 + 5 * k) + 0 + 0 ≤ 600000 by omega), (show (44666 + 1604 * k) + 0 + 0 ≤ 7302250 by omega)⟩ hl.1 (Nat.le_of_ble_eq_true rfl) rfl rfl dL_law_353 (pmU List.perm_append_comm hP hD hK (rP hP) rfl rfl 0 rfl)) List.perm_append_comm hP hD hS hA (fun r_4 zs_6 H locs hw_5 hP hD hS => ?_)
  have hP := sw_P hP; have hD := sw_D hD
  obtain ⟨hIm, hw_5_0⟩ := hw_5
  refine lv_pop hx hb dL_law_356 rfl ?_
  refine lv_goto (tgt := 1550) hx hb dL_law_357 (by decide) ?_
  refine W.widen (k := (123 + 5 * k) + 5) (n := (44666 + 1604 * k) + 1604) (by omega) (by omega) ?_
  exact next zs_3 zs_6 _ _ _ ⟨hIx, hIm, (TR_kp hTR (KP_X8_read hw_2_0) (KP_X9_read hw_5_0) (KQ_X9_read hw_5_0))⟩ hP hD hS (lv_sub hl [0, 1, 2, 3] rfl)
set_option maxHeartbeats 4000000 in
set_option maxRecDepth 100000 in
theorem law_6 {p : Program} {l : Launch} {e : Env} {s : State} {m : MethodId} {below : List Frame} {meth : Method} {c : Code} {D : va_G} {E : Nat → Nat} {b L : Nat} {xs : Nat → Int32} (hx : p.tables.exec = Jvm.exec) (hb : c.code = code) (hr : meth.sig.returnType = ret) (hml : c.maxLocals = 4) (hown : s.vm.findClass R_law = some m.cls) (htb : ∀ w ∈ tb, w.before #[Value.ref b] s = true) (hK : KX D E s) (hG : SGs [((E 6), (E 8), 60, tw6), ((E 7), (E 9), 35, tw7)] (fun q : Nat => s.heap.size ≤ q) s s.heap) (hX : va_X b L xs s s.heap) (hL : L ≤ 3072) (hbl : b < s.heap.size) (hlocks : meth.locks = false) {qx qm k : Nat} {i : Int32} (hk : k ≤ 512) (hi : i.toInt = 6 * (k : Int)) (hiL : i.toInt + 6 ≤ (L : Int)) {zx : XS} {zm : MS} {H : Heap} {locs : List Loc} {ls : Array Slot} (hI : LI zx zm) (hP : va_P D vwCl (XW E qx zx ++ MW E qm zm) H) (hD : va_D (fun q : Nat => s.heap.size ≤ q) (XW E qx zx ++ MW E qm zm)) (hS : va_S (fun q : Nat => s.heap.size ≤ q) s.heap H locs) (hl : lv_has ls 4 [(3, .int i), (2, .ref qm), (1, .ref qx), (0, .ref b)]) (next : ∀ (zx : XS) (zm : MS) (H : Heap) (locs : List Loc) (ls : Array Slot), LI zx zm → va_P D vwCl (XW E qx zx ++ MW E qm zm) H → va_D (fun q : Nat => s.heap.size ≤ q) (XW E qx zx ++ MW E qm zm) → va_S (fun q : Nat => s.heap.size ≤ q) s.heap H locs → lv_has ls 4 [(3, .int i), (2, .ref qm), (1, .ref qx), (0, .ref b)] → W p l e room_1 s m #[Value.ref b] below meth c H locs ((123 + 5 * k) + 5) ((44666 + 1604 * k) + 1604) (lw_Z below #[Value.ref b] s) (F0 m 1550 ls [])) : W p l e room_1 s m #[Value.ref b] below meth c H locs (123 + 5 * k) (44666 + 1604 * k) (lw_Z below #[Value.ref b] s) (F0 m 360 ls []) := by
  have hA : ∀ q : Nat, s.heap.size ≤ q → (fun q : Nat => s.heap.size ≤ q) q := fun _ h => h
  have hbA : ¬ (fun q : Nat => s.heap.size ≤ q) b := Nat.not_le.mpr hbl
  obtain ⟨hIx, hIm, hTR⟩ := hI
  have hI0 := hIx
  refine lv_aload_n hx hb dL_law_360 rfl (lv_at hl 2 rfl) ?_
  refine lv_aload_n hx hb dL_law_361 rfl (lv_at hl 3 rfl) ?_
  refine lv_iload_n hx hb dL_law_362 rfl (lv_at hl 0 rfl) ?_
  refine lv_iconst (v := 1) hx hb dL_law_363 (by decide) ?_
  refine lv_iadd hx hb dL_law_364 ?_
  refine va_sld hx hb hX hbl hbA hS (sc_in (by omega) t_1 (by omega) (by omega) (by omega)) dL_law_365 ?_
  refine lv_aload_n hx hb dL_law_366 rfl (lv_at hl 3 rfl) ?_
  refine lv_iload_n hx hb dL_law_367 rfl (lv_at hl 0 rfl) ?_
  refine lv_iconst (v := 2) hx hb dL_law_368 (by decide) ?_
  refine lv_iadd hx hb dL_law_369 ?_
  refine va_sld hx hb hX hbl hbA hS (sc_in (by omega) t_2 (by omega) (by omega) (by omega)) dL_law_370 ?_
  refine lv_aload_n hx hb dL_law_371 rfl (lv_at hl 3 rfl) ?_
  refine lv_iload_n hx hb dL_law_372 rfl (lv_at hl 0 rfl) ?_
  refine lv_iconst (v := 3) hx hb dL_law_373 (by decide) ?_
  refine lv_iadd hx hb dL_law_374 ?_
  refine va_sld hx hb hX hbl hbA hS (sc_in (by omega) t_3 (by omega) (by omega) (by omega)) dL_law_375 ?_
  refine lv_aload_n hx hb dL_law_376 rfl (lv_at hl 3 rfl) ?_
  refine lv_iload_n hx hb dL_law_377 rfl (lv_at hl 0 rfl) ?_
  refine lv_iconst (v := 4) hx hb dL_law_378 (by decide) ?_
  refine lv_iadd hx hb dL_law_379 ?_
  refine va_sld hx hb hX hbl hbA hS (sc_in (by omega) t_4 (by omega) (by omega) (by omega)) dL_law_380 ?_
  refine aftU_i (runMG (rest := []) (As := [.int (xs (i + 1).toNatClampNeg), .int (xs (i + 2).toNatClampNeg), .int (xs (i + 3).toNatClampNeg), .int (xs (i + 4).toNatClampNeg)]) hx hb hml hown htb (U_X8_compare l D E qx (xs (i + 1).toNatClampNeg) (xs (i + 2).toNatClampNeg) (xs (i + 3).toNatClampNeg) (xs (i + 4).toNatClampNeg) _ zx hIx) ok_X8_compare k_387 k_388 k_389 k_1 k_390 ⟨(Nat.le_of_ble_eq_true rfl), (Nat.le_of_ble_eq_true rfl)⟩ ⟨(show (123 + 5 * k) + 0 ≤ 600000 by omega), (show (44666 + 1604 * k) + 0 ≤ 7302250 by omega)⟩ hl.1 (Nat.le_of_ble_eq_true rfl) rfl rfl dL_law_381 (pmU (List.Perm.refl _) hP hD hK (XW_c (lP hP)) rfl rfl 0 rfl)) (List.Perm.refl _) hP hD hS hA (fun r_1 zs_3 H locs hw_2 hP hD hS => ?_)
  obtain ⟨hIx, hw_2_0⟩ := hw_2
  refine lv_pop hx hb dL_law_384 rfl ?_
  refine lv_aload_n hx hb dL_law_385 rfl (lv_at hl 1 rfl) ?_
  refine lv_aload_n hx hb dL_law_386 rfl (lv_at hl 3 rfl) ?_
  refine lv_iload_n hx hb dL_law_387 rfl (lv_at hl 0 rfl) ?_
  refine lv_iconst (v := 1) hx hb dL_law_388 (by decide) ?_
  refine lv_iadd hx hb dL_law_389 ?_
  refine va_sld hx hb hX hbl hbA hS (sc_in (by omega) t_1 (by omega) (by omega) (by omega)) dL_law_390 ?_
  refine lv_aload_n hx hb dL_law_391 rfl (lv_at hl 3 rfl) ?_
  refine lv_iload_n hx hb dL_law_392 rfl (lv_at hl 0 rfl) ?_
  refine lv_iconst (v := 2) hx hb dL_law_393 (by decide) ?_
  refine lv_iadd hx hb dL_law_394 ?_
  refine va_sld hx hb hX hbl hbA hS (sc_in (by omega) t_2 (by omega) (by omega) (by omega)) dL_law_395 ?_
  refine lv_aload_n hx hb dL_law_396 rfl (lv_at hl 3 rfl) ?_
  refine lv_iload_n hx hb dL_law_397 rfl (lv_at hl 0 rfl) ?_
  refine lv_iconst (v := 3) hx hb dL_law_398 (by decide) ?_
  refine lv_iadd hx hb dL_law_399 ?_
  refine va_sld hx hb hX hbl hbA hS (sc_in (by omega) t_3 (by omega) (by omega) (by omega)) dL_law_400 ?_
  refine lv_aload_n hx hb dL_law_401 rfl (lv_at hl 3 rfl) ?_
  refine lv_iload_n hx hb dL_law_402 rfl (lv_at hl 0 rfl) ?_
  refine lv_iconst (v := 4) hx hb dL_law_403 (by decide) ?_
  refine lv_iadd hx hb dL_law_404 ?_
  refine va_sld hx hb hX hbl hbA hS (sc_in (by omega) t_4 (by omega) (by omega) (by omega)) dL_law_405 ?_
  refine aftU_i (runMG (rest := []) (As := [.int (xs (i + 1).toNatClampNeg), .int (xs (i + 2).toNatClampNeg), .int (xs (i + 3).toNatClampNeg), .int (xs (i + 4).toNatClampNeg)]) hx hb hml hown htb (U_X9_compare l D E qm (xs (i + 1).toNatClampNeg) (xs (i + 2).toNatClampNeg) (xs (i + 3).toNatClampNeg) (xs (i + 4).toNatClampNeg) _ zm hIm) ok_X9_compare k_1206 k_1207 k_1208 k_9 k_1209 ⟨(Nat.le_of_ble_eq_true rfl), (Nat.le_of_ble_eq_true rfl)⟩ ⟨(show (123 + 5 * k) + 0 + 0 ≤ 600000 by omega), (show (44666 + 1604 * k) + 0 + 0 ≤ 7302250 by omega)⟩ hl.1 (Nat.le_of_ble_eq_true rfl) rfl rfl dL_law_406 (pmU List.perm_append_comm hP hD hK (rP hP) rfl rfl 0 rfl)) List.perm_append_comm hP hD hS hA (fun r_4 zs_6 H locs hw_5 hP hD hS => ?_)
  have hP := sw_P hP; have hD := sw_D hD
  obtain ⟨hIm, hw_5_0⟩ := hw_5
  refine lv_pop hx hb dL_law_409 rfl ?_
  refine lv_goto (tgt := 1550) hx hb dL_law_410 (by decide) ?_
  refine W.widen (k := (123 + 5 * k) + 5) (n := (44666 + 1604 * k) + 1604) (by omega) (by omega) ?_
  exact next zs_3 zs_6 _ _ _ ⟨hIx, hIm, (ST_compare hI0 hTR hw_2_0 hw_5_0)⟩ hP hD hS (lv_sub hl [0, 1, 2, 3] rfl)
set_option maxHeartbeats 4000000 in
set_option maxRecDepth 100000 in
theorem law_7 {p : Program} {l : Launch} {e : Env} {s : State} {m : MethodId} {below : List Frame} {meth : Method} {c : Code} {D : va_G} {E : Nat → Nat} {b L : Nat} {xs : Nat → Int32} (hx : p.tables.exec = Jvm.exec) (hb : c.code = code) (hr : meth.sig.returnType = ret) (hml : c.maxLocals = 4) (hown : s.vm.findClass R_law = some m.cls) (htb : ∀ w ∈ tb, w.before #[Value.ref b] s = true) (hK : KX D E s) (hG : SGs [((E 6), (E 8), 60, tw6), ((E 7), (E 9), 35, tw7)] (fun q : Nat => s.heap.size ≤ q) s s.heap) (hX : va_X b L xs s s.heap) (hL : L ≤ 3072) (hbl : b < s.heap.size) (hlocks : meth.locks = false) {qx qm k : Nat} {i : Int32} (hk : k ≤ 512) (hi : i.toInt = 6 * (k : Int)) (hiL : i.toInt + 6 ≤ (L : Int)) {zx : XS} {zm : MS} {H : Heap} {locs : List Loc} {ls : Array Slot} (hI : LI zx zm) (hP : va_P D vwCl (XW E qx zx ++ MW E qm zm) H) (hD : va_D (fun q : Nat => s.heap.size ≤ q) (XW E qx zx ++ MW E qm zm)) (hS : va_S (fun q : Nat => s.heap.size ≤ q) s.heap H locs) (hl : lv_has ls 4 [(3, .int i), (2, .ref qm), (1, .ref qx), (0, .ref b)]) (next : ∀ (zx : XS) (zm : MS) (H : Heap) (locs : List Loc) (ls : Array Slot), LI zx zm → va_P D vwCl (XW E qx zx ++ MW E qm zm) H → va_D (fun q : Nat => s.heap.size ≤ q) (XW E qx zx ++ MW E qm zm) → va_S (fun q : Nat => s.heap.size ≤ q) s.heap H locs → lv_has ls 4 [(3, .int i), (2, .ref qm), (1, .ref qx), (0, .ref b)] → W p l e room_1 s m #[Value.ref b] below meth c H locs ((123 + 5 * k) + 5) ((44666 + 1604 * k) + 1604) (lw_Z below #[Value.ref b] s) (F0 m 1550 ls [])) : W p l e room_1 s m #[Value.ref b] below meth c H locs (123 + 5 * k) (44666 + 1604 * k) (lw_Z below #[Value.ref b] s) (F0 m 413 ls []) := by
  have hA : ∀ q : Nat, s.heap.size ≤ q → (fun q : Nat => s.heap.size ≤ q) q := fun _ h => h
  have hbA : ¬ (fun q : Nat => s.heap.size ≤ q) b := Nat.not_le.mpr hbl
  obtain ⟨hIx, hIm, hTR⟩ := hI
  have hI0 := hIx
  refine lv_aload_n hx hb dL_law_413 rfl (lv_at hl 2 rfl) ?_
  refine lv_aload_n hx hb dL_law_414 rfl (lv_at hl 3 rfl) ?_
  refine lv_iload_n hx hb dL_law_415 rfl (lv_at hl 0 rfl) ?_
  refine lv_iconst (v := 1) hx hb dL_law_416 (by decide) ?_
  refine lv_iadd hx hb dL_law_417 ?_
  refine va_sld hx hb hX hbl hbA hS (sc_in (by omega) t_1 (by omega) (by omega) (by omega)) dL_law_418 ?_
  refine lv_aload_n hx hb dL_law_419 rfl (lv_at hl 3 rfl) ?_
  refine lv_iload_n hx hb dL_law_420 rfl (lv_at hl 0 rfl) ?_
  refine lv_iconst (v := 2) hx hb dL_law_421 (by decide) ?_
  refine lv_iadd hx hb dL_law_422 ?_
  refine va_sld hx hb hX hbl hbA hS (sc_in (by omega) t_2 (by omega) (by omega) (by omega)) dL_law_423 ?_
  refine lv_aload_n hx hb dL_law_424 rfl (lv_at hl 3 rfl) ?_
  refine lv_iload_n hx hb dL_law_425 rfl (lv_at hl 0 rfl) ?_
  refine lv_iconst (v := 3) hx hb dL_law_426 (by decide) ?_
  refine lv_iadd hx hb dL_law_427 ?_
  refine va_sld hx hb hX hbl hbA hS (sc_in (by omega) t_3 (by omega) (by omega) (by omega)) dL_law_428 ?_
  refine aftU_i (runMG (rest := []) (As := [.int (xs (i + 1).toNatClampNeg), .int (xs (i + 2).toNatClampNeg), .int (xs (i + 3).toNatClampNeg)]) hx hb hml hown htb (U_X8_error l D E qx (xs (i + 1).toNatClampNeg) (xs (i + 2).toNatClampNeg) (xs (i + 3).toNatClampNeg) _ zx hIx) ok_X8_error k_408 k_409 k_410 k_1 k_411 ⟨(Nat.le_of_ble_eq_true rfl), (Nat.le_of_ble_eq_true rfl)⟩ ⟨(show (123 + 5 * k) + 0 ≤ 600000 by omega), (show (44666 + 1604 * k) + 0 ≤ 7302250 by omega)⟩ hl.1 (Nat.le_of_ble_eq_true rfl) rfl rfl dL_law_429 (pmU (List.Perm.refl _) hP hD hK (XW_c (lP hP)) rfl rfl 0 rfl)) (List.Perm.refl _) hP hD hS hA (fun r_1 zs_3 H locs hw_2 hP hD hS => ?_)
  obtain ⟨hIx, hw_2_0⟩ := hw_2
  refine lv_pop hx hb dL_law_432 rfl ?_
  refine lv_aload_n hx hb dL_law_433 rfl (lv_at hl 1 rfl) ?_
  refine lv_aload_n hx hb dL_law_434 rfl (lv_at hl 3 rfl) ?_
  refine lv_iload_n hx hb dL_law_435 rfl (lv_at hl 0 rfl) ?_
  refine lv_iconst (v := 1) hx hb dL_law_436 (by decide) ?_
  refine lv_iadd hx hb dL_law_437 ?_
  refine va_sld hx hb hX hbl hbA hS (sc_in (by omega) t_1 (by omega) (by omega) (by omega)) dL_law_438 ?_
  refine lv_aload_n hx hb dL_law_439 rfl (lv_at hl 3 rfl) ?_
  refine lv_iload_n hx hb dL_law_440 rfl (lv_at hl 0 rfl) ?_
  refine lv_iconst (v := 2) hx hb dL_law_441 (by decide) ?_
  refine lv_iadd hx hb dL_law_442 ?_
  refine va_sld hx hb hX hbl hbA hS (sc_in (by omega) t_2 (by omega) (by omega) (by omega)) dL_law_443 ?_
  refine lv_aload_n hx hb dL_law_444 rfl (lv_at hl 3 rfl) ?_
  refine lv_iload_n hx hb dL_law_445 rfl (lv_at hl 0 rfl) ?_
  refine lv_iconst (v := 3) hx hb dL_law_446 (by decide) ?_
  refine lv_iadd hx hb dL_law_447 ?_
  refine va_sld hx hb hX hbl hbA hS (sc_in (by omega) t_3 (by omega) (by omega) (by omega)) dL_law_448 ?_
  refine aftU_i (runMG (rest := []) (As := [.int (xs (i + 1).toNatClampNeg), .int (xs (i + 2).toNatClampNeg), .int (xs (i + 3).toNatClampNeg)]) hx hb hml hown htb (U_X9_error l D E qm (xs (i + 1).toNatClampNeg) (xs (i + 2).toNatClampNeg) (xs (i + 3).toNatClampNeg) _ zm hIm) ok_X9_error k_1216 k_1217 k_1218 k_9 k_1219 ⟨(Nat.le_of_ble_eq_true rfl), (Nat.le_of_ble_eq_true rfl)⟩ ⟨(show (123 + 5 * k) + 0 + 0 ≤ 600000 by omega), (show (44666 + 1604 * k) + 0 + 0 ≤ 7302250 by omega)⟩ hl.1 (Nat.le_of_ble_eq_true rfl) rfl rfl dL_law_449 (pmU List.perm_append_comm hP hD hK (rP hP) rfl rfl 0 rfl)) List.perm_append_comm hP hD hS hA (fun r_4 zs_6 H locs hw_5 hP hD hS => ?_)
  have hP := sw_P hP; have hD := sw_D hD
  obtain ⟨hIm, hw_5_0⟩ := hw_5
  refine lv_pop hx hb dL_law_452 rfl ?_
  refine lv_goto (tgt := 1550) hx hb dL_law_453 (by decide) ?_
  refine W.widen (k := (123 + 5 * k) + 5) (n := (44666 + 1604 * k) + 1604) (by omega) (by omega) ?_
  exact next zs_3 zs_6 _ _ _ ⟨hIx, hIm, (TR_kp hTR (KP_X8_error hw_2_0) (KP_X9_error hw_5_0) (KQ_X9_error hw_5_0))⟩ hP hD hS (lv_sub hl [0, 1, 2, 3] rfl)
set_option maxHeartbeats 4000000 in
set_option maxRecDepth 100000 in
theorem law_8 {p : Program} {l : Launch} {e : Env} {s : State} {m : MethodId} {below : List Frame} {meth : Method} {c : Code} {D : va_G} {E : Nat → Nat} {b L : Nat} {xs : Nat → Int32} (hx : p.tables.exec = Jvm.exec) (hb : c.code = code) (hr : meth.sig.returnType = ret) (hml : c.maxLocals = 4) (hown : s.vm.findClass R_law = some m.cls) (htb : ∀ w ∈ tb, w.before #[Value.ref b] s = true) (hK : KX D E s) (hG : SGs [((E 6), (E 8), 60, tw6), ((E 7), (E 9), 35, tw7)] (fun q : Nat => s.heap.size ≤ q) s s.heap) (hX : va_X b L xs s s.heap) (hL : L ≤ 3072) (hbl : b < s.heap.size) (hlocks : meth.locks = false) {qx qm k : Nat} {i : Int32} (hk : k ≤ 512) (hi : i.toInt = 6 * (k : Int)) (hiL : i.toInt + 6 ≤ (L : Int)) {zx : XS} {zm : MS} {H : Heap} {locs : List Loc} {ls : Array Slot} (hI : LI zx zm) (hP : va_P D vwCl (XW E qx zx ++ MW E qm zm) H) (hD : va_D (fun q : Nat => s.heap.size ≤ q) (XW E qx zx ++ MW E qm zm)) (hS : va_S (fun q : Nat => s.heap.size ≤ q) s.heap H locs) (hl : lv_has ls 4 [(3, .int i), (2, .ref qm), (1, .ref qx), (0, .ref b)]) (next : ∀ (zx : XS) (zm : MS) (H : Heap) (locs : List Loc) (ls : Array Slot), LI zx zm → va_P D vwCl (XW E qx zx ++ MW E qm zm) H → va_D (fun q : Nat => s.heap.size ≤ q) (XW E qx zx ++ MW E qm zm) → va_S (fun q : Nat => s.heap.size ≤ q) s.heap H locs → lv_has ls 4 [(3, .int i), (2, .ref qm), (1, .ref qx), (0, .ref b)] → W p l e room_1 s m #[Value.ref b] below meth c H locs ((123 + 5 * k) + 5) ((44666 + 1604 * k) + 1604) (lw_Z below #[Value.ref b] s) (F0 m 1550 ls [])) : W p l e room_1 s m #[Value.ref b] below meth c H locs (123 + 5 * k) (44666 + 1604 * k) (lw_Z below #[Value.ref b] s) (F0 m 456 ls []) := by
  have hA : ∀ q : Nat, s.heap.size ≤ q → (fun q : Nat => s.heap.size ≤ q) q := fun _ h => h
  have hbA : ¬ (fun q : Nat => s.heap.size ≤ q) b := Nat.not_le.mpr hbl
  obtain ⟨hIx, hIm, hTR⟩ := hI
  have hI0 := hIx
  refine lv_aload_n hx hb dL_law_456 rfl (lv_at hl 2 rfl) ?_
  refine lv_aload_n hx hb dL_law_457 rfl (lv_at hl 3 rfl) ?_
  refine lv_iload_n hx hb dL_law_458 rfl (lv_at hl 0 rfl) ?_
  refine lv_iconst (v := 1) hx hb dL_law_459 (by decide) ?_
  refine lv_iadd hx hb dL_law_460 ?_
  refine va_sld hx hb hX hbl hbA hS (sc_in (by omega) t_1 (by omega) (by omega) (by omega)) dL_law_461 ?_
  refine lv_aload_n hx hb dL_law_462 rfl (lv_at hl 3 rfl) ?_
  refine lv_iload_n hx hb dL_law_463 rfl (lv_at hl 0 rfl) ?_
  refine lv_iconst (v := 2) hx hb dL_law_464 (by decide) ?_
  refine lv_iadd hx hb dL_law_465 ?_
  refine va_sld hx hb hX hbl hbA hS (sc_in (by omega) t_2 (by omega) (by omega) (by omega)) dL_law_466 ?_
  refine lv_aload_n hx hb dL_law_467 rfl (lv_at hl 3 rfl) ?_
  refine lv_iload_n hx hb dL_law_468 rfl (lv_at hl 0 rfl) ?_
  refine lv_iconst (v := 3) hx hb dL_law_469 (by decide) ?_
  refine lv_iadd hx hb dL_law_470 ?_
  refine va_sld hx hb hX hbl hbA hS (sc_in (by omega) t_3 (by omega) (by omega) (by omega)) dL_law_471 ?_
  refine aftU_i (runMG (rest := []) (As := [.int (xs (i + 1).toNatClampNeg), .int (xs (i + 2).toNatClampNeg), .int (xs (i + 3).toNatClampNeg)]) hx hb hml hown htb (U_X8_rate l D E qx (xs (i + 1).toNatClampNeg) (xs (i + 2).toNatClampNeg) (xs (i + 3).toNatClampNeg) _ zx hIx) ok_X8_rate k_425 k_426 k_427 k_1 k_428 ⟨(Nat.le_of_ble_eq_true rfl), (Nat.le_of_ble_eq_true rfl)⟩ ⟨(show (123 + 5 * k) + 0 ≤ 600000 by omega), (show (44666 + 1604 * k) + 0 ≤ 7302250 by omega)⟩ hl.1 (Nat.le_of_ble_eq_true rfl) rfl rfl dL_law_472 (pmU (List.Perm.refl _) hP hD hK (XW_c (lP hP)) rfl rfl 0 rfl)) (List.Perm.refl _) hP hD hS hA (fun r_1 zs_3 H locs hw_2 hP hD hS => ?_)
  obtain ⟨hIx, hw_2_0⟩ := hw_2
  refine lv_pop hx hb dL_law_475 rfl ?_
  refine lv_aload_n hx hb dL_law_476 rfl (lv_at hl 1 rfl) ?_
  refine lv_aload_n hx hb dL_law_477 rfl (lv_at hl 3 rfl) ?_
  refine lv_iload_n hx hb dL_law_478 rfl (lv_at hl 0 rfl) ?_
  refine lv_iconst (v := 1) hx hb dL_law_479 (by decide) ?_
  refine lv_iadd hx hb dL_law_480 ?_
  refine va_sld hx hb hX hbl hbA hS (sc_in (by omega) t_1 (by omega) (by omega) (by omega)) dL_law_481 ?_
  refine lv_aload_n hx hb dL_law_482 rfl (lv_at hl 3 rfl) ?_
  refine lv_iload_n hx hb dL_law_483 rfl (lv_at hl 0 rfl) ?_
  refine lv_iconst (v := 2) hx hb dL_law_484 (by decide) ?_
  refine lv_iadd hx hb dL_law_485 ?_
  refine va_sld hx hb hX hbl hbA hS (sc_in (by omega) t_2 (by omega) (by omega) (by omega)) dL_law_486 ?_
  refine lv_aload_n hx hb dL_law_487 rfl (lv_at hl 3 rfl) ?_
  refine lv_iload_n hx hb dL_law_488 rfl (lv_at hl 0 rfl) ?_
  refine lv_iconst (v := 3) hx hb dL_law_489 (by decide) ?_
  refine lv_iadd hx hb dL_law_490 ?_
  refine va_sld hx hb hX hbl hbA hS (sc_in (by omega) t_3 (by omega) (by omega) (by omega)) dL_law_491 ?_
  refine aftU_i (runMG (rest := []) (As := [.int (xs (i + 1).toNatClampNeg), .int (xs (i + 2).toNatClampNeg), .int (xs (i + 3).toNatClampNeg)]) hx hb hml hown htb (U_X9_rate l D E qm (xs (i + 1).toNatClampNeg) (xs (i + 2).toNatClampNeg) (xs (i + 3).toNatClampNeg) _ zm hIm) ok_X9_rate k_1227 k_1228 k_1229 k_9 k_1230 ⟨(Nat.le_of_ble_eq_true rfl), (Nat.le_of_ble_eq_true rfl)⟩ ⟨(show (123 + 5 * k) + 0 + 0 ≤ 600000 by omega), (show (44666 + 1604 * k) + 0 + 0 ≤ 7302250 by omega)⟩ hl.1 (Nat.le_of_ble_eq_true rfl) rfl rfl dL_law_492 (pmU List.perm_append_comm hP hD hK (rP hP) rfl rfl 0 rfl)) List.perm_append_comm hP hD hS hA (fun r_4 zs_6 H locs hw_5 hP hD hS => ?_)
  have hP := sw_P hP; have hD := sw_D hD
  obtain ⟨hIm, hw_5_0⟩ := hw_5
  refine lv_pop hx hb dL_law_495 rfl ?_
  refine lv_goto (tgt := 1550) hx hb dL_law_496 (by decide) ?_
  refine W.widen (k := (123 + 5 * k) + 5) (n := (44666 + 1604 * k) + 1604) (by omega) (by omega) ?_
  exact next zs_3 zs_6 _ _ _ ⟨hIx, hIm, (TR_kp hTR (KP_X8_rate hw_2_0) (KP_X9_rate hw_5_0) (KQ_X9_rate hw_5_0))⟩ hP hD hS (lv_sub hl [0, 1, 2, 3] rfl)
set_option maxHeartbeats 4000000 in
set_option maxRecDepth 100000 in
theorem law_9 {p : Program} {l : Launch} {e : Env} {s : State} {m : MethodId} {below : List Frame} {meth : Method} {c : Code} {D : va_G} {E : Nat → Nat} {b L : Nat} {xs : Nat → Int32} (hx : p.tables.exec = Jvm.exec) (hb : c.code = code) (hr : meth.sig.returnType = ret) (hml : c.maxLocals = 4) (hown : s.vm.findClass R_law = some m.cls) (htb : ∀ w ∈ tb, w.before #[Value.ref b] s = true) (hK : KX D E s) (hG : SGs [((E 6), (E 8), 60, tw6), ((E 7), (E 9), 35, tw7)] (fun q : Nat => s.heap.size ≤ q) s s.heap) (hX : va_X b L xs s s.heap) (hL : L ≤ 3072) (hbl : b < s.heap.size) (hlocks : meth.locks = false) {qx qm k : Nat} {i : Int32} (hk : k ≤ 512) (hi : i.toInt = 6 * (k : Int)) (hiL : i.toInt + 6 ≤ (L : Int)) {zx : XS} {zm : MS} {H : Heap} {locs : List Loc} {ls : Array Slot} (hI : LI zx zm) (hP : va_P D vwCl (XW E qx zx ++ MW E qm zm) H) (hD : va_D (fun q : Nat => s.heap.size ≤ q) (XW E qx zx ++ MW E qm zm)) (hS : va_S (fun q : Nat => s.heap.size ≤ q) s.heap H locs) (hl : lv_has ls 4 [(3, .int i), (2, .ref qm), (1, .ref qx), (0, .ref b)]) (next : ∀ (zx : XS) (zm : MS) (H : Heap) (locs : List Loc) (ls : Array Slot), LI zx zm → va_P D vwCl (XW E qx zx ++ MW E qm zm) H → va_D (fun q : Nat => s.heap.size ≤ q) (XW E qx zx ++ MW E qm zm) → va_S (fun q : Nat => s.heap.size ≤ q) s.heap H locs → lv_has ls 4 [(3, .int i), (2, .ref qm), (1, .ref qx), (0, .ref b)] → W p l e room_1 s m #[Value.ref b] below meth c H locs ((123 + 5 * k) + 5) ((44666 + 1604 * k) + 1604) (lw_Z below #[Value.ref b] s) (F0 m 1550 ls [])) : W p l e room_1 s m #[Value.ref b] below meth c H locs (123 + 5 * k) (44666 + 1604 * k) (lw_Z below #[Value.ref b] s) (F0 m 499 ls []) := by
  have hA : ∀ q : Nat, s.heap.size ≤ q → (fun q : Nat => s.heap.size ≤ q) q := fun _ h => h
  have hbA : ¬ (fun q : Nat => s.heap.size ≤ q) b := Nat.not_le.mpr hbl
  obtain ⟨hIx, hIm, hTR⟩ := hI
  have hI0 := hIx
  refine lv_aload_n hx hb dL_law_499 rfl (lv_at hl 2 rfl) ?_
  refine lv_aload_n hx hb dL_law_500 rfl (lv_at hl 3 rfl) ?_
  refine lv_iload_n hx hb dL_law_501 rfl (lv_at hl 0 rfl) ?_
  refine lv_iconst (v := 1) hx hb dL_law_502 (by decide) ?_
  refine lv_iadd hx hb dL_law_503 ?_
  refine va_sld hx hb hX hbl hbA hS (sc_in (by omega) t_1 (by omega) (by omega) (by omega)) dL_law_504 ?_
  refine lv_aload_n hx hb dL_law_505 rfl (lv_at hl 3 rfl) ?_
  refine lv_iload_n hx hb dL_law_506 rfl (lv_at hl 0 rfl) ?_
  refine lv_iconst (v := 2) hx hb dL_law_507 (by decide) ?_
  refine lv_iadd hx hb dL_law_508 ?_
  refine va_sld hx hb hX hbl hbA hS (sc_in (by omega) t_2 (by omega) (by omega) (by omega)) dL_law_509 ?_
  refine aftU_i (runMG (rest := []) (As := [.int (xs (i + 1).toNatClampNeg), .int (xs (i + 2).toNatClampNeg)]) hx hb hml hown htb (U_X8_repair l D E qx (xs (i + 1).toNatClampNeg) (xs (i + 2).toNatClampNeg) _ zx hIx) ok_X8_repair k_443 k_444 k_445 k_1 k_446 ⟨(Nat.le_of_ble_eq_true rfl), (Nat.le_of_ble_eq_true rfl)⟩ ⟨(show (123 + 5 * k) + 0 ≤ 600000 by omega), (show (44666 + 1604 * k) + 0 ≤ 7302250 by omega)⟩ hl.1 (Nat.le_of_ble_eq_true rfl) rfl rfl dL_law_510 (pmU (List.Perm.refl _) hP hD hK (XW_c (lP hP)) rfl rfl 0 rfl)) (List.Perm.refl _) hP hD hS hA (fun r_1 zs_3 H locs hw_2 hP hD hS => ?_)
  obtain ⟨hIx, hw_2_0⟩ := hw_2
  refine lv_pop hx hb dL_law_513 rfl ?_
  refine lv_aload_n hx hb dL_law_514 rfl (lv_at hl 1 rfl) ?_
  refine lv_aload_n hx hb dL_law_515 rfl (lv_at hl 3 rfl) ?_
  refine lv_iload_n hx hb dL_law_516 rfl (lv_at hl 0 rfl) ?_
  refine lv_iconst (v := 1) hx hb dL_law_517 (by decide) ?_
  refine lv_iadd hx hb dL_law_518 ?_
  refine va_sld hx hb hX hbl hbA hS (sc_in (by omega) t_1 (by omega) (by omega) (by omega)) dL_law_519 ?_
  refine lv_aload_n hx hb dL_law_520 rfl (lv_at hl 3 rfl) ?_
  refine lv_iload_n hx hb dL_law_521 rfl (lv_at hl 0 rfl) ?_
  refine lv_iconst (v := 2) hx hb dL_law_522 (by decide) ?_
  refine lv_iadd hx hb dL_law_523 ?_
  refine va_sld hx hb hX hbl hbA hS (sc_in (by omega) t_2 (by omega) (by omega) (by omega)) dL_law_524 ?_
  refine aftU_i (runMG (rest := []) (As := [.int (xs (i + 1).toNatClampNeg), .int (xs (i + 2).toNatClampNeg)]) hx hb hml hown htb (U_X9_repair l D E qm (xs (i + 1).toNatClampNeg) (xs (i + 2).toNatClampNeg) _ zm hIm) ok_X9_repair k_1238 k_1239 k_1240 k_9 k_1241 ⟨(Nat.le_of_ble_eq_true rfl), (Nat.le_of_ble_eq_true rfl)⟩ ⟨(show (123 + 5 * k) + 0 + 0 ≤ 600000 by omega), (show (44666 + 1604 * k) + 0 + 0 ≤ 7302250 by omega)⟩ hl.1 (Nat.le_of_ble_eq_true rfl) rfl rfl dL_law_525 (pmU List.perm_append_comm hP hD hK (rP hP) rfl rfl 0 rfl)) List.perm_append_comm hP hD hS hA (fun r_4 zs_6 H locs hw_5 hP hD hS => ?_)
  have hP := sw_P hP; have hD := sw_D hD
  obtain ⟨hIm, hw_5_0⟩ := hw_5
  refine lv_pop hx hb dL_law_528 rfl ?_
  refine lv_goto (tgt := 1550) hx hb dL_law_529 (by decide) ?_
  refine W.widen (k := (123 + 5 * k) + 5) (n := (44666 + 1604 * k) + 1604) (by omega) (by omega) ?_
  exact next zs_3 zs_6 _ _ _ ⟨hIx, hIm, (ST_repair hI0 hTR hw_2_0 hw_5_0)⟩ hP hD hS (lv_sub hl [0, 1, 2, 3] rfl)
set_option maxHeartbeats 4000000 in
set_option maxRecDepth 100000 in
theorem law_10 {p : Program} {l : Launch} {e : Env} {s : State} {m : MethodId} {below : List Frame} {meth : Method} {c : Code} {D : va_G} {E : Nat → Nat} {b L : Nat} {xs : Nat → Int32} (hx : p.tables.exec = Jvm.exec) (hb : c.code = code) (hr : meth.sig.returnType = ret) (hml : c.maxLocals = 4) (hown : s.vm.findClass R_law = some m.cls) (htb : ∀ w ∈ tb, w.before #[Value.ref b] s = true) (hK : KX D E s) (hG : SGs [((E 6), (E 8), 60, tw6), ((E 7), (E 9), 35, tw7)] (fun q : Nat => s.heap.size ≤ q) s s.heap) (hX : va_X b L xs s s.heap) (hL : L ≤ 3072) (hbl : b < s.heap.size) (hlocks : meth.locks = false) {qx qm k : Nat} {i : Int32} (hk : k ≤ 512) (hi : i.toInt = 6 * (k : Int)) (hiL : i.toInt + 6 ≤ (L : Int)) {zx : XS} {zm : MS} {H : Heap} {locs : List Loc} {ls : Array Slot} (hI : LI zx zm) (hP : va_P D vwCl (XW E qx zx ++ MW E qm zm) H) (hD : va_D (fun q : Nat => s.heap.size ≤ q) (XW E qx zx ++ MW E qm zm)) (hS : va_S (fun q : Nat => s.heap.size ≤ q) s.heap H locs) (hl : lv_has ls 4 [(3, .int i), (2, .ref qm), (1, .ref qx), (0, .ref b)]) (next : ∀ (zx : XS) (zm : MS) (H : Heap) (locs : List Loc) (ls : Array Slot), LI zx zm → va_P D vwCl (XW E qx zx ++ MW E qm zm) H → va_D (fun q : Nat => s.heap.size ≤ q) (XW E qx zx ++ MW E qm zm) → va_S (fun q : Nat => s.heap.size ≤ q) s.heap H locs → lv_has ls 4 [(3, .int i), (2, .ref qm), (1, .ref qx), (0, .ref b)] → W p l e room_1 s m #[Value.ref b] below meth c H locs ((123 + 5 * k) + 5) ((44666 + 1604 * k) + 1604) (lw_Z below #[Value.ref b] s) (F0 m 1550 ls [])) : W p l e room_1 s m #[Value.ref b] below meth c H locs (123 + 5 * k) (44666 + 1604 * k) (lw_Z below #[Value.ref b] s) (F0 m 532 ls []) := by
  have hA : ∀ q : Nat, s.heap.size ≤ q → (fun q : Nat => s.heap.size ≤ q) q := fun _ h => h
  have hbA : ¬ (fun q : Nat => s.heap.size ≤ q) b := Nat.not_le.mpr hbl
  obtain ⟨hIx, hIm, hTR⟩ := hI
  have hI0 := hIx
  refine lv_aload_n hx hb dL_law_532 rfl (lv_at hl 2 rfl) ?_
  refine lv_aload_n hx hb dL_law_533 rfl (lv_at hl 3 rfl) ?_
  refine lv_iload_n hx hb dL_law_534 rfl (lv_at hl 0 rfl) ?_
  refine lv_iconst (v := 1) hx hb dL_law_535 (by decide) ?_
  refine lv_iadd hx hb dL_law_536 ?_
  refine va_sld hx hb hX hbl hbA hS (sc_in (by omega) t_1 (by omega) (by omega) (by omega)) dL_law_537 ?_
  refine lv_aload_n hx hb dL_law_538 rfl (lv_at hl 3 rfl) ?_
  refine lv_iload_n hx hb dL_law_539 rfl (lv_at hl 0 rfl) ?_
  refine lv_iconst (v := 2) hx hb dL_law_540 (by decide) ?_
  refine lv_iadd hx hb dL_law_541 ?_
  refine va_sld hx hb hX hbl hbA hS (sc_in (by omega) t_2 (by omega) (by omega) (by omega)) dL_law_542 ?_
  refine aftU_i (runMG (rest := []) (As := [.int (xs (i + 1).toNatClampNeg), .int (xs (i + 2).toNatClampNeg)]) hx hb hml hown htb (U_X8_late l D E qx (xs (i + 1).toNatClampNeg) (xs (i + 2).toNatClampNeg) _ zx hIx) ok_X8_late k_455 k_456 k_457 k_1 k_458 ⟨(Nat.le_of_ble_eq_true rfl), (Nat.le_of_ble_eq_true rfl)⟩ ⟨(show (123 + 5 * k) + 0 ≤ 600000 by omega), (show (44666 + 1604 * k) + 0 ≤ 7302250 by omega)⟩ hl.1 (Nat.le_of_ble_eq_true rfl) rfl rfl dL_law_543 (pmU (List.Perm.refl _) hP hD hK (XW_c (lP hP)) rfl rfl 0 rfl)) (List.Perm.refl _) hP hD hS hA (fun r_1 zs_3 H locs hw_2 hP hD hS => ?_)
  obtain ⟨hIx, hw_2_0⟩ := hw_2
  refine lv_pop hx hb dL_law_546 rfl ?_
  refine lv_aload_n hx hb dL_law_547 rfl (lv_at hl 1 rfl) ?_
  refine lv_aload_n hx hb dL_law_548 rfl (lv_at hl 3 rfl) ?_
  refine lv_iload_n hx hb dL_law_549 rfl (lv_at hl 0 rfl) ?_
  refine lv_iconst (v := 1) hx hb dL_law_550 (by decide) ?_
  refine lv_iadd hx hb dL_law_551 ?_
  refine va_sld hx hb hX hbl hbA hS (sc_in (by omega) t_1 (by omega) (by omega) (by omega)) dL_law_552 ?_
  refine lv_aload_n hx hb dL_law_553 rfl (lv_at hl 3 rfl) ?_
  refine lv_iload_n hx hb dL_law_554 rfl (lv_at hl 0 rfl) ?_
  refine lv_iconst (v := 2) hx hb dL_law_555 (by decide) ?_
  refine lv_iadd hx hb dL_law_556 ?_
  refine va_sld hx hb hX hbl hbA hS (sc_in (by omega) t_2 (by omega) (by omega) (by omega)) dL_law_557 ?_
  refine aftU_i (runMG (rest := []) (As := [.int (xs (i + 1).toNatClampNeg), .int (xs (i + 2).toNatClampNeg)]) hx hb hml hown htb (U_X9_late l D E qm (xs (i + 1).toNatClampNeg) (xs (i + 2).toNatClampNeg) _ zm hIm) ok_X9_late k_1242 k_1243 k_1244 k_9 k_1245 ⟨(Nat.le_of_ble_eq_true rfl), (Nat.le_of_ble_eq_true rfl)⟩ ⟨(show (123 + 5 * k) + 0 + 0 ≤ 600000 by omega), (show (44666 + 1604 * k) + 0 + 0 ≤ 7302250 by omega)⟩ hl.1 (Nat.le_of_ble_eq_true rfl) rfl rfl dL_law_558 (pmU List.perm_append_comm hP hD hK (rP hP) rfl rfl 0 rfl)) List.perm_append_comm hP hD hS hA (fun r_4 zs_6 H locs hw_5 hP hD hS => ?_)
  have hP := sw_P hP; have hD := sw_D hD
  obtain ⟨hIm, hw_5_0⟩ := hw_5
  refine lv_pop hx hb dL_law_561 rfl ?_
  refine lv_goto (tgt := 1550) hx hb dL_law_562 (by decide) ?_
  refine W.widen (k := (123 + 5 * k) + 5) (n := (44666 + 1604 * k) + 1604) (by omega) (by omega) ?_
  exact next zs_3 zs_6 _ _ _ ⟨hIx, hIm, (ST_late hI0 hTR hw_2_0 hw_5_0)⟩ hP hD hS (lv_sub hl [0, 1, 2, 3] rfl)
set_option maxHeartbeats 4000000 in
set_option maxRecDepth 100000 in
theorem law_11 {p : Program} {l : Launch} {e : Env} {s : State} {m : MethodId} {below : List Frame} {meth : Method} {c : Code} {D : va_G} {E : Nat → Nat} {b L : Nat} {xs : Nat → Int32} (hx : p.tables.exec = Jvm.exec) (hb : c.code = code) (hr : meth.sig.returnType = ret) (hml : c.maxLocals = 4) (hown : s.vm.findClass R_law = some m.cls) (htb : ∀ w ∈ tb, w.before #[Value.ref b] s = true) (hK : KX D E s) (hG : SGs [((E 6), (E 8), 60, tw6), ((E 7), (E 9), 35, tw7)] (fun q : Nat => s.heap.size ≤ q) s s.heap) (hX : va_X b L xs s s.heap) (hL : L ≤ 3072) (hbl : b < s.heap.size) (hlocks : meth.locks = false) {qx qm k : Nat} {i : Int32} (hk : k ≤ 512) (hi : i.toInt = 6 * (k : Int)) (hiL : i.toInt + 6 ≤ (L : Int)) {zx : XS} {zm : MS} {H : Heap} {locs : List Loc} {ls : Array Slot} (hI : LI zx zm) (hP : va_P D vwCl (XW E qx zx ++ MW E qm zm) H) (hD : va_D (fun q : Nat => s.heap.size ≤ q) (XW E qx zx ++ MW E qm zm)) (hS : va_S (fun q : Nat => s.heap.size ≤ q) s.heap H locs) (hl : lv_has ls 4 [(3, .int i), (2, .ref qm), (1, .ref qx), (0, .ref b)]) (next : ∀ (zx : XS) (zm : MS) (H : Heap) (locs : List Loc) (ls : Array Slot), LI zx zm → va_P D vwCl (XW E qx zx ++ MW E qm zm) H → va_D (fun q : Nat => s.heap.size ≤ q) (XW E qx zx ++ MW E qm zm) → va_S (fun q : Nat => s.heap.size ≤ q) s.heap H locs → lv_has ls 4 [(3, .int i), (2, .ref qm), (1, .ref qx), (0, .ref b)] → W p l e room_1 s m #[Value.ref b] below meth c H locs ((123 + 5 * k) + 5) ((44666 + 1604 * k) + 1604) (lw_Z below #[Value.ref b] s) (F0 m 1550 ls [])) : W p l e room_1 s m #[Value.ref b] below meth c H locs (123 + 5 * k) (44666 + 1604 * k) (lw_Z below #[Value.ref b] s) (F0 m 565 ls []) := by
  have hA : ∀ q : Nat, s.heap.size ≤ q → (fun q : Nat => s.heap.size ≤ q) q := fun _ h => h
  have hbA : ¬ (fun q : Nat => s.heap.size ≤ q) b := Nat.not_le.mpr hbl
  obtain ⟨hIx, hIm, hTR⟩ := hI
  have hI0 := hIx
  refine lv_aload_n hx hb dL_law_565 rfl (lv_at hl 2 rfl) ?_
  refine lv_aload_n hx hb dL_law_566 rfl (lv_at hl 3 rfl) ?_
  refine lv_iload_n hx hb dL_law_567 rfl (lv_at hl 0 rfl) ?_
  refine lv_iconst (v := 1) hx hb dL_law_568 (by decide) ?_
  refine lv_iadd hx hb dL_law_569 ?_
  refine va_sld hx hb hX hbl hbA hS (sc_in (by omega) t_1 (by omega) (by omega) (by omega)) dL_law_570 ?_
  refine lv_aload_n hx hb dL_law_571 rfl (lv_at hl 3 rfl) ?_
  refine lv_iload_n hx hb dL_law_572 rfl (lv_at hl 0 rfl) ?_
  refine lv_iconst (v := 2) hx hb dL_law_573 (by decide) ?_
  refine lv_iadd hx hb dL_law_574 ?_
  refine va_sld hx hb hX hbl hbA hS (sc_in (by omega) t_2 (by omega) (by omega) (by omega)) dL_law_575 ?_
  refine aftU_i (runMG (rest := []) (As := [.int (xs (i + 1).toNatClampNeg), .int (xs (i + 2).toNatClampNeg)]) hx hb hml hown htb (U_X8_age l D E qx (xs (i + 1).toNatClampNeg) (xs (i + 2).toNatClampNeg) _ zx hIx) ok_X8_age k_459 k_460 k_461 k_1 k_462 ⟨(Nat.le_of_ble_eq_true rfl), (Nat.le_of_ble_eq_true rfl)⟩ ⟨(show (123 + 5 * k) + 0 ≤ 600000 by omega), (show (44666 + 1604 * k) + 0 ≤ 7302250 by omega)⟩ hl.1 (Nat.le_of_ble_eq_true rfl) rfl rfl dL_law_576 (pmU (List.Perm.refl _) hP hD hK (XW_c (lP hP)) rfl rfl 0 rfl)) (List.Perm.refl _) hP hD hS hA (fun r_1 zs_3 H locs hw_2 hP hD hS => ?_)
  obtain ⟨hIx, hw_2_0⟩ := hw_2
  refine lv_pop hx hb dL_law_579 rfl ?_
  refine lv_aload_n hx hb dL_law_580 rfl (lv_at hl 1 rfl) ?_
  refine lv_aload_n hx hb dL_law_581 rfl (lv_at hl 3 rfl) ?_
  refine lv_iload_n hx hb dL_law_582 rfl (lv_at hl 0 rfl) ?_
  refine lv_iconst (v := 1) hx hb dL_law_583 (by decide) ?_
  refine lv_iadd hx hb dL_law_584 ?_
  refine va_sld hx hb hX hbl hbA hS (sc_in (by omega) t_1 (by omega) (by omega) (by omega)) dL_law_585 ?_
  refine lv_aload_n hx hb dL_law_586 rfl (lv_at hl 3 rfl) ?_
  refine lv_iload_n hx hb dL_law_587 rfl (lv_at hl 0 rfl) ?_
  refine lv_iconst (v := 2) hx hb dL_law_588 (by decide) ?_
  refine lv_iadd hx hb dL_law_589 ?_
  refine va_sld hx hb hX hbl hbA hS (sc_in (by omega) t_2 (by omega) (by omega) (by omega)) dL_law_590 ?_
  refine aftU_i (runMG (rest := []) (As := [.int (xs (i + 1).toNatClampNeg), .int (xs (i + 2).toNatClampNeg)]) hx hb hml hown htb (U_X9_age l D E qm (xs (i + 1).toNatClampNeg) (xs (i + 2).toNatClampNeg) _ zm hIm) ok_X9_age k_1246 k_1247 k_1248 k_9 k_1249 ⟨(Nat.le_of_ble_eq_true rfl), (Nat.le_of_ble_eq_true rfl)⟩ ⟨(show (123 + 5 * k) + 0 + 0 ≤ 600000 by omega), (show (44666 + 1604 * k) + 0 + 0 ≤ 7302250 by omega)⟩ hl.1 (Nat.le_of_ble_eq_true rfl) rfl rfl dL_law_591 (pmU List.perm_append_comm hP hD hK (rP hP) rfl rfl 0 rfl)) List.perm_append_comm hP hD hS hA (fun r_4 zs_6 H locs hw_5 hP hD hS => ?_)
  have hP := sw_P hP; have hD := sw_D hD
  obtain ⟨hIm, hw_5_0⟩ := hw_5
  refine lv_pop hx hb dL_law_594 rfl ?_
  refine lv_goto (tgt := 1550) hx hb dL_law_595 (by decide) ?_
  refine W.widen (k := (123 + 5 * k) + 5) (n := (44666 + 1604 * k) + 1604) (by omega) (by omega) ?_
  exact next zs_3 zs_6 _ _ _ ⟨hIx, hIm, (TR_kp hTR (KP_X8_age hw_2_0) (KP_X9_age hw_5_0) (KQ_X9_age hw_5_0))⟩ hP hD hS (lv_sub hl [0, 1, 2, 3] rfl)
set_option maxHeartbeats 4000000 in
set_option maxRecDepth 100000 in
theorem law_12 {p : Program} {l : Launch} {e : Env} {s : State} {m : MethodId} {below : List Frame} {meth : Method} {c : Code} {D : va_G} {E : Nat → Nat} {b L : Nat} {xs : Nat → Int32} (hx : p.tables.exec = Jvm.exec) (hb : c.code = code) (hr : meth.sig.returnType = ret) (hml : c.maxLocals = 4) (hown : s.vm.findClass R_law = some m.cls) (htb : ∀ w ∈ tb, w.before #[Value.ref b] s = true) (hK : KX D E s) (hG : SGs [((E 6), (E 8), 60, tw6), ((E 7), (E 9), 35, tw7)] (fun q : Nat => s.heap.size ≤ q) s s.heap) (hX : va_X b L xs s s.heap) (hL : L ≤ 3072) (hbl : b < s.heap.size) (hlocks : meth.locks = false) {qx qm k : Nat} {i : Int32} (hk : k ≤ 512) (hi : i.toInt = 6 * (k : Int)) (hiL : i.toInt + 6 ≤ (L : Int)) {zx : XS} {zm : MS} {H : Heap} {locs : List Loc} {ls : Array Slot} (hI : LI zx zm) (hP : va_P D vwCl (XW E qx zx ++ MW E qm zm) H) (hD : va_D (fun q : Nat => s.heap.size ≤ q) (XW E qx zx ++ MW E qm zm)) (hS : va_S (fun q : Nat => s.heap.size ≤ q) s.heap H locs) (hl : lv_has ls 4 [(3, .int i), (2, .ref qm), (1, .ref qx), (0, .ref b)]) (next : ∀ (zx : XS) (zm : MS) (H : Heap) (locs : List Loc) (ls : Array Slot), LI zx zm → va_P D vwCl (XW E qx zx ++ MW E qm zm) H → va_D (fun q : Nat => s.heap.size ≤ q) (XW E qx zx ++ MW E qm zm) → va_S (fun q : Nat => s.heap.size ≤ q) s.heap H locs → lv_has ls 4 [(3, .int i), (2, .ref qm), (1, .ref qx), (0, .ref b)] → W p l e room_1 s m #[Value.ref b] below meth c H locs ((123 + 5 * k) + 5) ((44666 + 1604 * k) + 1604) (lw_Z below #[Value.ref b] s) (F0 m 1550 ls [])) : W p l e room_1 s m #[Value.ref b] below meth c H locs (123 + 5 * k) (44666 + 1604 * k) (lw_Z below #[Value.ref b] s) (F0 m 598 ls []) := by
  have hA : ∀ q : Nat, s.heap.size ≤ q → (fun q : Nat => s.heap.size ≤ q) q := fun _ h => h
  have hbA : ¬ (fun q : Nat => s.heap.size ≤ q) b := Nat.not_le.mpr hbl
  obtain ⟨hIx, hIm, hTR⟩ := hI
  have hI0 := hIx
  refine lv_aload_n hx hb dL_law_598 rfl (lv_at hl 2 rfl) ?_
  refine lv_aload_n hx hb dL_law_599 rfl (lv_at hl 3 rfl) ?_
  refine lv_iload_n hx hb dL_law_600 rfl (lv_at hl 0 rfl) ?_
  refine lv_iconst (v := 1) hx hb dL_law_601 (by decide) ?_
  refine lv_iadd hx hb dL_law_602 ?_
  refine va_sld hx hb hX hbl hbA hS (sc_in (by omega) t_1 (by omega) (by omega) (by omega)) dL_law_603 ?_
  refine lv_aload_n hx hb dL_law_604 rfl (lv_at hl 3 rfl) ?_
  refine lv_iload_n hx hb dL_law_605 rfl (lv_at hl 0 rfl) ?_
  refine lv_iconst (v := 2) hx hb dL_law_606 (by decide) ?_
  refine lv_iadd hx hb dL_law_607 ?_
  refine va_sld hx hb hX hbl hbA hS (sc_in (by omega) t_2 (by omega) (by omega) (by omega)) dL_law_608 ?_
  refine lv_aload_n hx hb dL_law_609 rfl (lv_at hl 3 rfl) ?_
  refine lv_iload_n hx hb dL_law_610 rfl (lv_at hl 0 rfl) ?_
  refine lv_iconst (v := 3) hx hb dL_law_611 (by decide) ?_
  refine lv_iadd hx hb dL_law_612 ?_
  refine va_sld hx hb hX hbl hbA hS (sc_in (by omega) t_3 (by omega) (by omega) (by omega)) dL_law_613 ?_
  refine lv_aload_n hx hb dL_law_614 rfl (lv_at hl 3 rfl) ?_
  refine lv_iload_n hx hb dL_law_615 rfl (lv_at hl 0 rfl) ?_
  refine lv_iconst (v := 4) hx hb dL_law_616 (by decide) ?_
  refine lv_iadd hx hb dL_law_617 ?_
  refine va_sld hx hb hX hbl hbA hS (sc_in (by omega) t_4 (by omega) (by omega) (by omega)) dL_law_618 ?_
  refine aftU_i (runMG (rest := []) (As := [.int (xs (i + 1).toNatClampNeg), .int (xs (i + 2).toNatClampNeg), .int (xs (i + 3).toNatClampNeg), .int (xs (i + 4).toNatClampNeg)]) hx hb hml hown htb (U_X8_off l D E qx (xs (i + 1).toNatClampNeg) (xs (i + 2).toNatClampNeg) (xs (i + 3).toNatClampNeg) (xs (i + 4).toNatClampNeg) _ zx hIx) ok_X8_off k_467 k_468 k_469 k_1 k_470 ⟨(Nat.le_of_ble_eq_true rfl), (Nat.le_of_ble_eq_true rfl)⟩ ⟨(show (123 + 5 * k) + 0 ≤ 600000 by omega), (show (44666 + 1604 * k) + 0 ≤ 7302250 by omega)⟩ hl.1 (Nat.le_of_ble_eq_true rfl) rfl rfl dL_law_619 (pmU (List.Perm.refl _) hP hD hK (XW_c (lP hP)) rfl rfl 0 rfl)) (List.Perm.refl _) hP hD hS hA (fun r_1 zs_3 H locs hw_2 hP hD hS => ?_)
  obtain ⟨hIx, hw_2_0⟩ := hw_2
  refine lv_pop hx hb dL_law_622 rfl ?_
  refine lv_aload_n hx hb dL_law_623 rfl (lv_at hl 1 rfl) ?_
  refine lv_aload_n hx hb dL_law_624 rfl (lv_at hl 3 rfl) ?_
  refine lv_iload_n hx hb dL_law_625 rfl (lv_at hl 0 rfl) ?_
  refine lv_iconst (v := 1) hx hb dL_law_626 (by decide) ?_
  refine lv_iadd hx hb dL_law_627 ?_
  refine va_sld hx hb hX hbl hbA hS (sc_in (by omega) t_1 (by omega) (by omega) (by omega)) dL_law_628 ?_
  refine lv_aload_n hx hb dL_law_629 rfl (lv_at hl 3 rfl) ?_
  refine lv_iload_n hx hb dL_law_630 rfl (lv_at hl 0 rfl) ?_
  refine lv_iconst (v := 2) hx hb dL_law_631 (by decide) ?_
  refine lv_iadd hx hb dL_law_632 ?_
  refine va_sld hx hb hX hbl hbA hS (sc_in (by omega) t_2 (by omega) (by omega) (by omega)) dL_law_633 ?_
  refine lv_aload_n hx hb dL_law_634 rfl (lv_at hl 3 rfl) ?_
  refine lv_iload_n hx hb dL_law_635 rfl (lv_at hl 0 rfl) ?_
  refine lv_iconst (v := 3) hx hb dL_law_636 (by decide) ?_
  refine lv_iadd hx hb dL_law_637 ?_
  refine va_sld hx hb hX hbl hbA hS (sc_in (by omega) t_3 (by omega) (by omega) (by omega)) dL_law_638 ?_
  refine lv_aload_n hx hb dL_law_639 rfl (lv_at hl 3 rfl) ?_
  refine lv_iload_n hx hb dL_law_640 rfl (lv_at hl 0 rfl) ?_
  refine lv_iconst (v := 4) hx hb dL_law_641 (by decide) ?_
  refine lv_iadd hx hb dL_law_642 ?_
  refine va_sld hx hb hX hbl hbA hS (sc_in (by omega) t_4 (by omega) (by omega) (by omega)) dL_law_643 ?_
  refine aftU_i (runMG (rest := []) (As := [.int (xs (i + 1).toNatClampNeg), .int (xs (i + 2).toNatClampNeg), .int (xs (i + 3).toNatClampNeg), .int (xs (i + 4).toNatClampNeg)]) hx hb hml hown htb (U_X9_off l D E qm (xs (i + 1).toNatClampNeg) (xs (i + 2).toNatClampNeg) (xs (i + 3).toNatClampNeg) (xs (i + 4).toNatClampNeg) _ zm hIm) ok_X9_off k_1254 k_1255 k_1256 k_9 k_1257 ⟨(Nat.le_of_ble_eq_true rfl), (Nat.le_of_ble_eq_true rfl)⟩ ⟨(show (123 + 5 * k) + 0 + 0 ≤ 600000 by omega), (show (44666 + 1604 * k) + 0 + 0 ≤ 7302250 by omega)⟩ hl.1 (Nat.le_of_ble_eq_true rfl) rfl rfl dL_law_644 (pmU List.perm_append_comm hP hD hK (rP hP) rfl rfl 0 rfl)) List.perm_append_comm hP hD hS hA (fun r_4 zs_6 H locs hw_5 hP hD hS => ?_)
  have hP := sw_P hP; have hD := sw_D hD
  obtain ⟨hIm, hw_5_0⟩ := hw_5
  refine lv_pop hx hb dL_law_647 rfl ?_
  refine lv_goto (tgt := 1550) hx hb dL_law_648 (by decide) ?_
  refine W.widen (k := (123 + 5 * k) + 5) (n := (44666 + 1604 * k) + 1604) (by omega) (by omega) ?_
  exact next zs_3 zs_6 _ _ _ ⟨hIx, hIm, (ST_off hI0 hTR hw_2_0 hw_5_0)⟩ hP hD hS (lv_sub hl [0, 1, 2, 3] rfl)
set_option maxHeartbeats 4000000 in
set_option maxRecDepth 100000 in
theorem law_13 {p : Program} {l : Launch} {e : Env} {s : State} {m : MethodId} {below : List Frame} {meth : Method} {c : Code} {D : va_G} {E : Nat → Nat} {b L : Nat} {xs : Nat → Int32} (hx : p.tables.exec = Jvm.exec) (hb : c.code = code) (hr : meth.sig.returnType = ret) (hml : c.maxLocals = 4) (hown : s.vm.findClass R_law = some m.cls) (htb : ∀ w ∈ tb, w.before #[Value.ref b] s = true) (hK : KX D E s) (hG : SGs [((E 6), (E 8), 60, tw6), ((E 7), (E 9), 35, tw7)] (fun q : Nat => s.heap.size ≤ q) s s.heap) (hX : va_X b L xs s s.heap) (hL : L ≤ 3072) (hbl : b < s.heap.size) (hlocks : meth.locks = false) {qx qm k : Nat} {i : Int32} (hk : k ≤ 512) (hi : i.toInt = 6 * (k : Int)) (hiL : i.toInt + 6 ≤ (L : Int)) {zx : XS} {zm : MS} {H : Heap} {locs : List Loc} {ls : Array Slot} (hI : LI zx zm) (hP : va_P D vwCl (XW E qx zx ++ MW E qm zm) H) (hD : va_D (fun q : Nat => s.heap.size ≤ q) (XW E qx zx ++ MW E qm zm)) (hS : va_S (fun q : Nat => s.heap.size ≤ q) s.heap H locs) (hl : lv_has ls 4 [(3, .int i), (2, .ref qm), (1, .ref qx), (0, .ref b)]) (next : ∀ (zx : XS) (zm : MS) (H : Heap) (locs : List Loc) (ls : Array Slot), LI zx zm → va_P D vwCl (XW E qx zx ++ MW E qm zm) H → va_D (fun q : Nat => s.heap.size ≤ q) (XW E qx zx ++ MW E qm zm) → va_S (fun q : Nat => s.heap.size ≤ q) s.heap H locs → lv_has ls 4 [(3, .int i), (2, .ref qm), (1, .ref qx), (0, .ref b)] → W p l e room_1 s m #[Value.ref b] below meth c H locs ((123 + 5 * k) + 5) ((44666 + 1604 * k) + 1604) (lw_Z below #[Value.ref b] s) (F0 m 1550 ls [])) : W p l e room_1 s m #[Value.ref b] below meth c H locs (123 + 5 * k) (44666 + 1604 * k) (lw_Z below #[Value.ref b] s) (F0 m 651 ls []) := by
  have hA : ∀ q : Nat, s.heap.size ≤ q → (fun q : Nat => s.heap.size ≤ q) q := fun _ h => h
  have hbA : ¬ (fun q : Nat => s.heap.size ≤ q) b := Nat.not_le.mpr hbl
  obtain ⟨hIx, hIm, hTR⟩ := hI
  have hI0 := hIx
  refine lv_aload_n hx hb dL_law_651 rfl (lv_at hl 2 rfl) ?_
  refine lv_aload_n hx hb dL_law_652 rfl (lv_at hl 3 rfl) ?_
  refine lv_iload_n hx hb dL_law_653 rfl (lv_at hl 0 rfl) ?_
  refine lv_iconst (v := 1) hx hb dL_law_654 (by decide) ?_
  refine lv_iadd hx hb dL_law_655 ?_
  refine va_sld hx hb hX hbl hbA hS (sc_in (by omega) t_1 (by omega) (by omega) (by omega)) dL_law_656 ?_
  refine lv_aload_n hx hb dL_law_657 rfl (lv_at hl 3 rfl) ?_
  refine lv_iload_n hx hb dL_law_658 rfl (lv_at hl 0 rfl) ?_
  refine lv_iconst (v := 2) hx hb dL_law_659 (by decide) ?_
  refine lv_iadd hx hb dL_law_660 ?_
  refine va_sld hx hb hX hbl hbA hS (sc_in (by omega) t_2 (by omega) (by omega) (by omega)) dL_law_661 ?_
  refine lv_aload_n hx hb dL_law_662 rfl (lv_at hl 3 rfl) ?_
  refine lv_iload_n hx hb dL_law_663 rfl (lv_at hl 0 rfl) ?_
  refine lv_iconst (v := 3) hx hb dL_law_664 (by decide) ?_
  refine lv_iadd hx hb dL_law_665 ?_
  refine va_sld hx hb hX hbl hbA hS (sc_in (by omega) t_3 (by omega) (by omega) (by omega)) dL_law_666 ?_
  refine lv_aload_n hx hb dL_law_667 rfl (lv_at hl 3 rfl) ?_
  refine lv_iload_n hx hb dL_law_668 rfl (lv_at hl 0 rfl) ?_
  refine lv_iconst (v := 4) hx hb dL_law_669 (by decide) ?_
  refine lv_iadd hx hb dL_law_670 ?_
  refine va_sld hx hb hX hbl hbA hS (sc_in (by omega) t_4 (by omega) (by omega) (by omega)) dL_law_671 ?_
  refine aftU_i (runMG (rest := []) (As := [.int (xs (i + 1).toNatClampNeg), .int (xs (i + 2).toNatClampNeg), .int (xs (i + 3).toNatClampNeg), .int (xs (i + 4).toNatClampNeg)]) hx hb hml hown htb (U_X8_changed l D E qx (xs (i + 1).toNatClampNeg) (xs (i + 2).toNatClampNeg) (xs (i + 3).toNatClampNeg) (xs (i + 4).toNatClampNeg) _ zx hIx) ok_X8_changed k_475 k_476 k_477 k_1 k_478 ⟨(Nat.le_of_ble_eq_true rfl), (Nat.le_of_ble_eq_true rfl)⟩ ⟨(show (123 + 5 * k) + 0 ≤ 600000 by omega), (show (44666 + 1604 * k) + 0 ≤ 7302250 by omega)⟩ hl.1 (Nat.le_of_ble_eq_true rfl) rfl rfl dL_law_672 (pmU (List.Perm.refl _) hP hD hK (XW_c (lP hP)) rfl rfl 0 rfl)) (List.Perm.refl _) hP hD hS hA (fun r_1 zs_3 H locs hw_2 hP hD hS => ?_)
  obtain ⟨hIx, hw_2_0⟩ := hw_2
  refine lv_pop hx hb dL_law_675 rfl ?_
  refine lv_aload_n hx hb dL_law_676 rfl (lv_at hl 1 rfl) ?_
  refine lv_aload_n hx hb dL_law_677 rfl (lv_at hl 3 rfl) ?_
  refine lv_iload_n hx hb dL_law_678 rfl (lv_at hl 0 rfl) ?_
  refine lv_iconst (v := 1) hx hb dL_law_679 (by decide) ?_
  refine lv_iadd hx hb dL_law_680 ?_
  refine va_sld hx hb hX hbl hbA hS (sc_in (by omega) t_1 (by omega) (by omega) (by omega)) dL_law_681 ?_
  refine lv_aload_n hx hb dL_law_682 rfl (lv_at hl 3 rfl) ?_
  refine lv_iload_n hx hb dL_law_683 rfl (lv_at hl 0 rfl) ?_
  refine lv_iconst (v := 2) hx hb dL_law_684 (by decide) ?_
  refine lv_iadd hx hb dL_law_685 ?_
  refine va_sld hx hb hX hbl hbA hS (sc_in (by omega) t_2 (by omega) (by omega) (by omega)) dL_law_686 ?_
  refine lv_aload_n hx hb dL_law_687 rfl (lv_at hl 3 rfl) ?_
  refine lv_iload_n hx hb dL_law_688 rfl (lv_at hl 0 rfl) ?_
  refine lv_iconst (v := 3) hx hb dL_law_689 (by decide) ?_
  refine lv_iadd hx hb dL_law_690 ?_
  refine va_sld hx hb hX hbl hbA hS (sc_in (by omega) t_3 (by omega) (by omega) (by omega)) dL_law_691 ?_
  refine lv_aload_n hx hb dL_law_692 rfl (lv_at hl 3 rfl) ?_
  refine lv_iload_n hx hb dL_law_693 rfl (lv_at hl 0 rfl) ?_
  refine lv_iconst (v := 4) hx hb dL_law_694 (by decide) ?_
  refine lv_iadd hx hb dL_law_695 ?_
  refine va_sld hx hb hX hbl hbA hS (sc_in (by omega) t_4 (by omega) (by omega) (by omega)) dL_law_696 ?_
  refine aftU_i (runMG (rest := []) (As := [.int (xs (i + 1).toNatClampNeg), .int (xs (i + 2).toNatClampNeg), .int (xs (i + 3).toNatClampNeg), .int (xs (i + 4).toNatClampNeg)]) hx hb hml hown htb (U_X9_changed l D E qm (xs (i + 1).toNatClampNeg) (xs (i + 2).toNatClampNeg) (xs (i + 3).toNatClampNeg) (xs (i + 4).toNatClampNeg) _ zm hIm) ok_X9_changed k_1258 k_1259 k_1260 k_9 k_1261 ⟨(Nat.le_of_ble_eq_true rfl), (Nat.le_of_ble_eq_true rfl)⟩ ⟨(show (123 + 5 * k) + 0 + 0 ≤ 600000 by omega), (show (44666 + 1604 * k) + 0 + 0 ≤ 7302250 by omega)⟩ hl.1 (Nat.le_of_ble_eq_true rfl) rfl rfl dL_law_697 (pmU List.perm_append_comm hP hD hK (rP hP) rfl rfl 0 rfl)) List.perm_append_comm hP hD hS hA (fun r_4 zs_6 H locs hw_5 hP hD hS => ?_)
  have hP := sw_P hP; have hD := sw_D hD
  obtain ⟨hIm, hw_5_0⟩ := hw_5
  refine lv_pop hx hb dL_law_700 rfl ?_
  refine lv_goto (tgt := 1550) hx hb dL_law_701 (by decide) ?_
  refine W.widen (k := (123 + 5 * k) + 5) (n := (44666 + 1604 * k) + 1604) (by omega) (by omega) ?_
  exact next zs_3 zs_6 _ _ _ ⟨hIx, hIm, (TR_kp hTR (KP_X8_changed hw_2_0) (KP_X9_changed hw_5_0) (KQ_X9_changed hw_5_0))⟩ hP hD hS (lv_sub hl [0, 1, 2, 3] rfl)
set_option maxHeartbeats 4000000 in
set_option maxRecDepth 100000 in
theorem law_14 {p : Program} {l : Launch} {e : Env} {s : State} {m : MethodId} {below : List Frame} {meth : Method} {c : Code} {D : va_G} {E : Nat → Nat} {b L : Nat} {xs : Nat → Int32} (hx : p.tables.exec = Jvm.exec) (hb : c.code = code) (hr : meth.sig.returnType = ret) (hml : c.maxLocals = 4) (hown : s.vm.findClass R_law = some m.cls) (htb : ∀ w ∈ tb, w.before #[Value.ref b] s = true) (hK : KX D E s) (hG : SGs [((E 6), (E 8), 60, tw6), ((E 7), (E 9), 35, tw7)] (fun q : Nat => s.heap.size ≤ q) s s.heap) (hX : va_X b L xs s s.heap) (hL : L ≤ 3072) (hbl : b < s.heap.size) (hlocks : meth.locks = false) {qx qm k : Nat} {i : Int32} (hk : k ≤ 512) (hi : i.toInt = 6 * (k : Int)) (hiL : i.toInt + 6 ≤ (L : Int)) {zx : XS} {zm : MS} {H : Heap} {locs : List Loc} {ls : Array Slot} (hI : LI zx zm) (hP : va_P D vwCl (XW E qx zx ++ MW E qm zm) H) (hD : va_D (fun q : Nat => s.heap.size ≤ q) (XW E qx zx ++ MW E qm zm)) (hS : va_S (fun q : Nat => s.heap.size ≤ q) s.heap H locs) (hl : lv_has ls 4 [(3, .int i), (2, .ref qm), (1, .ref qx), (0, .ref b)]) (next : ∀ (zx : XS) (zm : MS) (H : Heap) (locs : List Loc) (ls : Array Slot), LI zx zm → va_P D vwCl (XW E qx zx ++ MW E qm zm) H → va_D (fun q : Nat => s.heap.size ≤ q) (XW E qx zx ++ MW E qm zm) → va_S (fun q : Nat => s.heap.size ≤ q) s.heap H locs → lv_has ls 4 [(3, .int i), (2, .ref qm), (1, .ref qx), (0, .ref b)] → W p l e room_1 s m #[Value.ref b] below meth c H locs ((123 + 5 * k) + 5) ((44666 + 1604 * k) + 1604) (lw_Z below #[Value.ref b] s) (F0 m 1550 ls [])) : W p l e room_1 s m #[Value.ref b] below meth c H locs (123 + 5 * k) (44666 + 1604 * k) (lw_Z below #[Value.ref b] s) (F0 m 704 ls []) := by
  have hA : ∀ q : Nat, s.heap.size ≤ q → (fun q : Nat => s.heap.size ≤ q) q := fun _ h => h
  have hbA : ¬ (fun q : Nat => s.heap.size ≤ q) b := Nat.not_le.mpr hbl
  obtain ⟨hIx, hIm, hTR⟩ := hI
  have hI0 := hIx
  refine lv_aload_n hx hb dL_law_704 rfl (lv_at hl 2 rfl) ?_
  refine lv_aload_n hx hb dL_law_705 rfl (lv_at hl 3 rfl) ?_
  refine lv_iload_n hx hb dL_law_706 rfl (lv_at hl 0 rfl) ?_
  refine lv_iconst (v := 1) hx hb dL_law_707 (by decide) ?_
  refine lv_iadd hx hb dL_law_708 ?_
  refine va_sld hx hb hX hbl hbA hS (sc_in (by omega) t_1 (by omega) (by omega) (by omega)) dL_law_709 ?_
  refine lv_aload_n hx hb dL_law_710 rfl (lv_at hl 3 rfl) ?_
  refine lv_iload_n hx hb dL_law_711 rfl (lv_at hl 0 rfl) ?_
  refine lv_iconst (v := 2) hx hb dL_law_712 (by decide) ?_
  refine lv_iadd hx hb dL_law_713 ?_
  refine va_sld hx hb hX hbl hbA hS (sc_in (by omega) t_2 (by omega) (by omega) (by omega)) dL_law_714 ?_
  refine lv_aload_n hx hb dL_law_715 rfl (lv_at hl 3 rfl) ?_
  refine lv_iload_n hx hb dL_law_716 rfl (lv_at hl 0 rfl) ?_
  refine lv_iconst (v := 3) hx hb dL_law_717 (by decide) ?_
  refine lv_iadd hx hb dL_law_718 ?_
  refine va_sld hx hb hX hbl hbA hS (sc_in (by omega) t_3 (by omega) (by omega) (by omega)) dL_law_719 ?_
  refine aftU_i (runMG (rest := []) (As := [.int (xs (i + 1).toNatClampNeg), .int (xs (i + 2).toNatClampNeg), .int (xs (i + 3).toNatClampNeg)]) hx hb hml hown htb (U_X8_law l D E qx (xs (i + 1).toNatClampNeg) (xs (i + 2).toNatClampNeg) (xs (i + 3).toNatClampNeg) _ zx hIx) ok_X8_law k_482 k_483 k_484 k_1 k_485 ⟨(Nat.le_of_ble_eq_true rfl), (Nat.le_of_ble_eq_true rfl)⟩ ⟨(show (123 + 5 * k) + 0 ≤ 600000 by omega), (show (44666 + 1604 * k) + 0 ≤ 7302250 by omega)⟩ hl.1 (Nat.le_of_ble_eq_true rfl) rfl rfl dL_law_720 (pmU (List.Perm.refl _) hP hD hK (XW_c (lP hP)) rfl rfl 0 rfl)) (List.Perm.refl _) hP hD hS hA (fun r_1 zs_3 H locs hw_2 hP hD hS => ?_)
  obtain ⟨hIx, hw_2_0⟩ := hw_2
  refine lv_pop hx hb dL_law_723 rfl ?_
  refine lv_aload_n hx hb dL_law_724 rfl (lv_at hl 1 rfl) ?_
  refine lv_aload_n hx hb dL_law_725 rfl (lv_at hl 3 rfl) ?_
  refine lv_iload_n hx hb dL_law_726 rfl (lv_at hl 0 rfl) ?_
  refine lv_iconst (v := 1) hx hb dL_law_727 (by decide) ?_
  refine lv_iadd hx hb dL_law_728 ?_
  refine va_sld hx hb hX hbl hbA hS (sc_in (by omega) t_1 (by omega) (by omega) (by omega)) dL_law_729 ?_
  refine lv_aload_n hx hb dL_law_730 rfl (lv_at hl 3 rfl) ?_
  refine lv_iload_n hx hb dL_law_731 rfl (lv_at hl 0 rfl) ?_
  refine lv_iconst (v := 2) hx hb dL_law_732 (by decide) ?_
  refine lv_iadd hx hb dL_law_733 ?_
  refine va_sld hx hb hX hbl hbA hS (sc_in (by omega) t_2 (by omega) (by omega) (by omega)) dL_law_734 ?_
  refine lv_aload_n hx hb dL_law_735 rfl (lv_at hl 3 rfl) ?_
  refine lv_iload_n hx hb dL_law_736 rfl (lv_at hl 0 rfl) ?_
  refine lv_iconst (v := 3) hx hb dL_law_737 (by decide) ?_
  refine lv_iadd hx hb dL_law_738 ?_
  refine va_sld hx hb hX hbl hbA hS (sc_in (by omega) t_3 (by omega) (by omega) (by omega)) dL_law_739 ?_
  refine aftU_i (runMG (rest := []) (As := [.int (xs (i + 1).toNatClampNeg), .int (xs (i + 2).toNatClampNeg), .int (xs (i + 3).toNatClampNeg)]) hx hb hml hown htb (U_X9_law l D E qm (xs (i + 1).toNatClampNeg) (xs (i + 2).toNatClampNeg) (xs (i + 3).toNatClampNeg) _ zm hIm) ok_X9_law k_1265 k_1266 k_1267 k_9 k_1268 ⟨(Nat.le_of_ble_eq_true rfl), (Nat.le_of_ble_eq_true rfl)⟩ ⟨(show (123 + 5 * k) + 0 + 0 ≤ 600000 by omega), (show (44666 + 1604 * k) + 0 + 0 ≤ 7302250 by omega)⟩ hl.1 (Nat.le_of_ble_eq_true rfl) rfl rfl dL_law_740 (pmU List.perm_append_comm hP hD hK (rP hP) rfl rfl 0 rfl)) List.perm_append_comm hP hD hS hA (fun r_4 zs_6 H locs hw_5 hP hD hS => ?_)
  have hP := sw_P hP; have hD := sw_D hD
  obtain ⟨hIm, hw_5_0⟩ := hw_5
  refine lv_pop hx hb dL_law_743 rfl ?_
  refine lv_goto (tgt := 1550) hx hb dL_law_744 (by decide) ?_
  refine W.widen (k := (123 + 5 * k) + 5) (n := (44666 + 1604 * k) + 1604) (by omega) (by omega) ?_
  exact next zs_3 zs_6 _ _ _ ⟨hIx, hIm, (TR_kp hTR (KP_X8_law hw_2_0) (KP_X9_law hw_5_0) (KQ_X9_law hw_5_0))⟩ hP hD hS (lv_sub hl [0, 1, 2, 3] rfl)
set_option maxHeartbeats 4000000 in
set_option maxRecDepth 100000 in
theorem law_15 {p : Program} {l : Launch} {e : Env} {s : State} {m : MethodId} {below : List Frame} {meth : Method} {c : Code} {D : va_G} {E : Nat → Nat} {b L : Nat} {xs : Nat → Int32} (hx : p.tables.exec = Jvm.exec) (hb : c.code = code) (hr : meth.sig.returnType = ret) (hml : c.maxLocals = 4) (hown : s.vm.findClass R_law = some m.cls) (htb : ∀ w ∈ tb, w.before #[Value.ref b] s = true) (hK : KX D E s) (hG : SGs [((E 6), (E 8), 60, tw6), ((E 7), (E 9), 35, tw7)] (fun q : Nat => s.heap.size ≤ q) s s.heap) (hX : va_X b L xs s s.heap) (hL : L ≤ 3072) (hbl : b < s.heap.size) (hlocks : meth.locks = false) {qx qm k : Nat} {i : Int32} (hk : k ≤ 512) (hi : i.toInt = 6 * (k : Int)) (hiL : i.toInt + 6 ≤ (L : Int)) {zx : XS} {zm : MS} {H : Heap} {locs : List Loc} {ls : Array Slot} (hI : LI zx zm) (hP : va_P D vwCl (XW E qx zx ++ MW E qm zm) H) (hD : va_D (fun q : Nat => s.heap.size ≤ q) (XW E qx zx ++ MW E qm zm)) (hS : va_S (fun q : Nat => s.heap.size ≤ q) s.heap H locs) (hl : lv_has ls 4 [(3, .int i), (2, .ref qm), (1, .ref qx), (0, .ref b)]) (next : ∀ (zx : XS) (zm : MS) (H : Heap) (locs : List Loc) (ls : Array Slot), LI zx zm → va_P D vwCl (XW E qx zx ++ MW E qm zm) H → va_D (fun q : Nat => s.heap.size ≤ q) (XW E qx zx ++ MW E qm zm) → va_S (fun q : Nat => s.heap.size ≤ q) s.heap H locs → lv_has ls 4 [(3, .int i), (2, .ref qm), (1, .ref qx), (0, .ref b)] → W p l e room_1 s m #[Value.ref b] below meth c H locs ((123 + 5 * k) + 5) ((44666 + 1604 * k) + 1604) (lw_Z below #[Value.ref b] s) (F0 m 1550 ls [])) : W p l e room_1 s m #[Value.ref b] below meth c H locs (123 + 5 * k) (44666 + 1604 * k) (lw_Z below #[Value.ref b] s) (F0 m 747 ls []) := by
  have hA : ∀ q : Nat, s.heap.size ≤ q → (fun q : Nat => s.heap.size ≤ q) q := fun _ h => h
  have hbA : ¬ (fun q : Nat => s.heap.size ≤ q) b := Nat.not_le.mpr hbl
  obtain ⟨hIx, hIm, hTR⟩ := hI
  have hI0 := hIx
  refine lv_aload_n hx hb dL_law_747 rfl (lv_at hl 2 rfl) ?_
  refine lv_aload_n hx hb dL_law_748 rfl (lv_at hl 3 rfl) ?_
  refine lv_iload_n hx hb dL_law_749 rfl (lv_at hl 0 rfl) ?_
  refine lv_iconst (v := 1) hx hb dL_law_750 (by decide) ?_
  refine lv_iadd hx hb dL_law_751 ?_
  refine va_sld hx hb hX hbl hbA hS (sc_in (by omega) t_1 (by omega) (by omega) (by omega)) dL_law_752 ?_
  refine lv_aload_n hx hb dL_law_753 rfl (lv_at hl 3 rfl) ?_
  refine lv_iload_n hx hb dL_law_754 rfl (lv_at hl 0 rfl) ?_
  refine lv_iconst (v := 2) hx hb dL_law_755 (by decide) ?_
  refine lv_iadd hx hb dL_law_756 ?_
  refine va_sld hx hb hX hbl hbA hS (sc_in (by omega) t_2 (by omega) (by omega) (by omega)) dL_law_757 ?_
  refine lv_aload_n hx hb dL_law_758 rfl (lv_at hl 3 rfl) ?_
  refine lv_iload_n hx hb dL_law_759 rfl (lv_at hl 0 rfl) ?_
  refine lv_iconst (v := 3) hx hb dL_law_760 (by decide) ?_
  refine lv_iadd hx hb dL_law_761 ?_
  refine va_sld hx hb hX hbl hbA hS (sc_in (by omega) t_3 (by omega) (by omega) (by omega)) dL_law_762 ?_
  refine aftU_i (runMG (rest := []) (As := [.int (xs (i + 1).toNatClampNeg), .int (xs (i + 2).toNatClampNeg), .int (xs (i + 3).toNatClampNeg)]) hx hb hml hown htb (U_X8_terms l D E qx (xs (i + 1).toNatClampNeg) (xs (i + 2).toNatClampNeg) (xs (i + 3).toNatClampNeg) _ zx hIx) ok_X8_terms k_525 k_526 k_527 k_1 k_528 ⟨(Nat.le_of_ble_eq_true rfl), (Nat.le_of_ble_eq_true rfl)⟩ ⟨(show (123 + 5 * k) + 0 ≤ 600000 by omega), (show (44666 + 1604 * k) + 0 ≤ 7302250 by omega)⟩ hl.1 (Nat.le_of_ble_eq_true rfl) rfl rfl dL_law_763 (pmU (List.Perm.refl _) hP hD hK (XW_c (lP hP)) rfl rfl 0 rfl)) (List.Perm.refl _) hP hD hS hA (fun r_1 zs_3 H locs hw_2 hP hD hS => ?_)
  obtain ⟨hIx, hw_2_0⟩ := hw_2
  refine lv_pop hx hb dL_law_766 rfl ?_
  refine lv_aload_n hx hb dL_law_767 rfl (lv_at hl 1 rfl) ?_
  refine lv_aload_n hx hb dL_law_768 rfl (lv_at hl 3 rfl) ?_
  refine lv_iload_n hx hb dL_law_769 rfl (lv_at hl 0 rfl) ?_
  refine lv_iconst (v := 1) hx hb dL_law_770 (by decide) ?_
  refine lv_iadd hx hb dL_law_771 ?_
  refine va_sld hx hb hX hbl hbA hS (sc_in (by omega) t_1 (by omega) (by omega) (by omega)) dL_law_772 ?_
  refine lv_aload_n hx hb dL_law_773 rfl (lv_at hl 3 rfl) ?_
  refine lv_iload_n hx hb dL_law_774 rfl (lv_at hl 0 rfl) ?_
  refine lv_iconst (v := 2) hx hb dL_law_775 (by decide) ?_
  refine lv_iadd hx hb dL_law_776 ?_
  refine va_sld hx hb hX hbl hbA hS (sc_in (by omega) t_2 (by omega) (by omega) (by omega)) dL_law_777 ?_
  refine lv_aload_n hx hb dL_law_778 rfl (lv_at hl 3 rfl) ?_
  refine lv_iload_n hx hb dL_law_779 rfl (lv_at hl 0 rfl) ?_
  refine lv_iconst (v := 3) hx hb dL_law_780 (by decide) ?_
  refine lv_iadd hx hb dL_law_781 ?_
  refine va_sld hx hb hX hbl hbA hS (sc_in (by omega) t_3 (by omega) (by omega) (by omega)) dL_law_782 ?_
  refine aftU_i (runMG (rest := []) (As := [.int (xs (i + 1).toNatClampNeg), .int (xs (i + 2).toNatClampNeg), .int (xs (i + 3).toNatClampNeg)]) hx hb hml hown htb (U_X9_terms l D E qm (xs (i + 1).toNatClampNeg) (xs (i + 2).toNatClampNeg) (xs (i + 3).toNatClampNeg) _ zm hIm) ok_X9_terms k_1283 k_1284 k_1285 k_9 k_1286 ⟨(Nat.le_of_ble_eq_true rfl), (Nat.le_of_ble_eq_true rfl)⟩ ⟨(show (123 + 5 * k) + 0 + 0 ≤ 600000 by omega), (show (44666 + 1604 * k) + 0 + 0 ≤ 7302250 by omega)⟩ hl.1 (Nat.le_of_ble_eq_true rfl) rfl rfl dL_law_783 (pmU List.perm_append_comm hP hD hK (rP hP) rfl rfl 0 rfl)) List.perm_append_comm hP hD hS hA (fun r_4 zs_6 H locs hw_5 hP hD hS => ?_)
  have hP := sw_P hP; have hD := sw_D hD
  obtain ⟨hIm, hw_5_0⟩ := hw_5
  refine lv_pop hx hb dL_law_786 rfl ?_
  refine lv_goto (tgt := 1550) hx hb dL_law_787 (by decide) ?_
  refine W.widen (k := (123 + 5 * k) + 5) (n := (44666 + 1604 * k) + 1604) (by omega) (by omega) ?_
  exact next zs_3 zs_6 _ _ _ ⟨hIx, hIm, (TR_kp hTR (KP_X8_terms hw_2_0) (KP_X9_terms hw_5_0) (KQ_X9_terms hw_5_0))⟩ hP hD hS (lv_sub hl [0, 1, 2, 3] rfl)
set_option maxHeartbeats 4000000 in
set_option maxRecDepth 100000 in
theorem law_16 {p : Program} {l : Launch} {e : Env} {s : State} {m : MethodId} {below : List Frame} {meth : Method} {c : Code} {D : va_G} {E : Nat → Nat} {b L : Nat} {xs : Nat → Int32} (hx : p.tables.exec = Jvm.exec) (hb : c.code = code) (hr : meth.sig.returnType = ret) (hml : c.maxLocals = 4) (hown : s.vm.findClass R_law = some m.cls) (htb : ∀ w ∈ tb, w.before #[Value.ref b] s = true) (hK : KX D E s) (hG : SGs [((E 6), (E 8), 60, tw6), ((E 7), (E 9), 35, tw7)] (fun q : Nat => s.heap.size ≤ q) s s.heap) (hX : va_X b L xs s s.heap) (hL : L ≤ 3072) (hbl : b < s.heap.size) (hlocks : meth.locks = false) {qx qm k : Nat} {i : Int32} (hk : k ≤ 512) (hi : i.toInt = 6 * (k : Int)) (hiL : i.toInt + 6 ≤ (L : Int)) {zx : XS} {zm : MS} {H : Heap} {locs : List Loc} {ls : Array Slot} (hI : LI zx zm) (hP : va_P D vwCl (XW E qx zx ++ MW E qm zm) H) (hD : va_D (fun q : Nat => s.heap.size ≤ q) (XW E qx zx ++ MW E qm zm)) (hS : va_S (fun q : Nat => s.heap.size ≤ q) s.heap H locs) (hl : lv_has ls 4 [(3, .int i), (2, .ref qm), (1, .ref qx), (0, .ref b)]) (next : ∀ (zx : XS) (zm : MS) (H : Heap) (locs : List Loc) (ls : Array Slot), LI zx zm → va_P D vwCl (XW E qx zx ++ MW E qm zm) H → va_D (fun q : Nat => s.heap.size ≤ q) (XW E qx zx ++ MW E qm zm) → va_S (fun q : Nat => s.heap.size ≤ q) s.heap H locs → lv_has ls 4 [(3, .int i), (2, .ref qm), (1, .ref qx), (0, .ref b)] → W p l e room_1 s m #[Value.ref b] below meth c H locs ((123 + 5 * k) + 5) ((44666 + 1604 * k) + 1604) (lw_Z below #[Value.ref b] s) (F0 m 1550 ls [])) : W p l e room_1 s m #[Value.ref b] below meth c H locs (123 + 5 * k) (44666 + 1604 * k) (lw_Z below #[Value.ref b] s) (F0 m 790 ls []) := by
  have hA : ∀ q : Nat, s.heap.size ≤ q → (fun q : Nat => s.heap.size ≤ q) q := fun _ h => h
  have hbA : ¬ (fun q : Nat => s.heap.size ≤ q) b := Nat.not_le.mpr hbl
  obtain ⟨hIx, hIm, hTR⟩ := hI
  have hI0 := hIx
  refine lv_aload_n hx hb dL_law_790 rfl (lv_at hl 2 rfl) ?_
  refine lv_aload_n hx hb dL_law_791 rfl (lv_at hl 3 rfl) ?_
  refine lv_iload_n hx hb dL_law_792 rfl (lv_at hl 0 rfl) ?_
  refine lv_iconst (v := 1) hx hb dL_law_793 (by decide) ?_
  refine lv_iadd hx hb dL_law_794 ?_
  refine va_sld hx hb hX hbl hbA hS (sc_in (by omega) t_1 (by omega) (by omega) (by omega)) dL_law_795 ?_
  refine lv_aload_n hx hb dL_law_796 rfl (lv_at hl 3 rfl) ?_
  refine lv_iload_n hx hb dL_law_797 rfl (lv_at hl 0 rfl) ?_
  refine lv_iconst (v := 2) hx hb dL_law_798 (by decide) ?_
  refine lv_iadd hx hb dL_law_799 ?_
  refine va_sld hx hb hX hbl hbA hS (sc_in (by omega) t_2 (by omega) (by omega) (by omega)) dL_law_800 ?_
  refine lv_aload_n hx hb dL_law_801 rfl (lv_at hl 3 rfl) ?_
  refine lv_iload_n hx hb dL_law_802 rfl (lv_at hl 0 rfl) ?_
  refine lv_iconst (v := 3) hx hb dL_law_803 (by decide) ?_
  refine lv_iadd hx hb dL_law_804 ?_
  refine va_sld hx hb hX hbl hbA hS (sc_in (by omega) t_3 (by omega) (by omega) (by omega)) dL_law_805 ?_
  refine lv_aload_n hx hb dL_law_806 rfl (lv_at hl 3 rfl) ?_
  refine lv_iload_n hx hb dL_law_807 rfl (lv_at hl 0 rfl) ?_
  refine lv_iconst (v := 4) hx hb dL_law_808 (by decide) ?_
  refine lv_iadd hx hb dL_law_809 ?_
  refine va_sld hx hb hX hbl hbA hS (sc_in (by omega) t_4 (by omega) (by omega) (by omega)) dL_law_810 ?_
  refine lv_aload_n hx hb dL_law_811 rfl (lv_at hl 3 rfl) ?_
  refine lv_iload_n hx hb dL_law_812 rfl (lv_at hl 0 rfl) ?_
  refine lv_iconst (v := 5) hx hb dL_law_813 (by decide) ?_
  refine lv_iadd hx hb dL_law_814 ?_
  refine va_sld hx hb hX hbl hbA hS (sc_in (by omega) t_5 (by omega) (by omega) (by omega)) dL_law_815 ?_
  refine aftU_i (runMG (rest := []) (As := [.int (xs (i + 1).toNatClampNeg), .int (xs (i + 2).toNatClampNeg), .int (xs (i + 3).toNatClampNeg), .int (xs (i + 4).toNatClampNeg), .int (xs (i + 5).toNatClampNeg)]) hx hb hml hown htb (U_X8_foretold l D E qx (xs (i + 1).toNatClampNeg) (xs (i + 2).toNatClampNeg) (xs (i + 3).toNatClampNeg) (xs (i + 4).toNatClampNeg) (xs (i + 5).toNatClampNeg) _ zx hIx) ok_X8_foretold k_533 k_534 k_535 k_1 k_536 ⟨(Nat.le_of_ble_eq_true rfl), (Nat.le_of_ble_eq_true rfl)⟩ ⟨(show (123 + 5 * k) + 0 ≤ 600000 by omega), (show (44666 + 1604 * k) + 0 ≤ 7302250 by omega)⟩ hl.1 (Nat.le_of_ble_eq_true rfl) rfl rfl dL_law_816 (pmU (List.Perm.refl _) hP hD hK (XW_c (lP hP)) rfl rfl 0 rfl)) (List.Perm.refl _) hP hD hS hA (fun r_1 zs_3 H locs hw_2 hP hD hS => ?_)
  obtain ⟨hIx, hw_2_0⟩ := hw_2
  refine lv_pop hx hb dL_law_819 rfl ?_
  refine lv_aload_n hx hb dL_law_820 rfl (lv_at hl 1 rfl) ?_
  refine lv_aload_n hx hb dL_law_821 rfl (lv_at hl 3 rfl) ?_
  refine lv_iload_n hx hb dL_law_822 rfl (lv_at hl 0 rfl) ?_
  refine lv_iconst (v := 1) hx hb dL_law_823 (by decide) ?_
  refine lv_iadd hx hb dL_law_824 ?_
  refine va_sld hx hb hX hbl hbA hS (sc_in (by omega) t_1 (by omega) (by omega) (by omega)) dL_law_825 ?_
  refine lv_aload_n hx hb dL_law_826 rfl (lv_at hl 3 rfl) ?_
  refine lv_iload_n hx hb dL_law_827 rfl (lv_at hl 0 rfl) ?_
  refine lv_iconst (v := 2) hx hb dL_law_828 (by decide) ?_
  refine lv_iadd hx hb dL_law_829 ?_
  refine va_sld hx hb hX hbl hbA hS (sc_in (by omega) t_2 (by omega) (by omega) (by omega)) dL_law_830 ?_
  refine lv_aload_n hx hb dL_law_831 rfl (lv_at hl 3 rfl) ?_
  refine lv_iload_n hx hb dL_law_832 rfl (lv_at hl 0 rfl) ?_
  refine lv_iconst (v := 3) hx hb dL_law_833 (by decide) ?_
  refine lv_iadd hx hb dL_law_834 ?_
  refine va_sld hx hb hX hbl hbA hS (sc_in (by omega) t_3 (by omega) (by omega) (by omega)) dL_law_835 ?_
  refine lv_aload_n hx hb dL_law_836 rfl (lv_at hl 3 rfl) ?_
  refine lv_iload_n hx hb dL_law_837 rfl (lv_at hl 0 rfl) ?_
  refine lv_iconst (v := 4) hx hb dL_law_838 (by decide) ?_
  refine lv_iadd hx hb dL_law_839 ?_
  refine va_sld hx hb hX hbl hbA hS (sc_in (by omega) t_4 (by omega) (by omega) (by omega)) dL_law_840 ?_
  refine lv_aload_n hx hb dL_law_841 rfl (lv_at hl 3 rfl) ?_
  refine lv_iload_n hx hb dL_law_842 rfl (lv_at hl 0 rfl) ?_
  refine lv_iconst (v := 5) hx hb dL_law_843 (by decide) ?_
  refine lv_iadd hx hb dL_law_844 ?_
  refine va_sld hx hb hX hbl hbA hS (sc_in (by omega) t_5 (by omega) (by omega) (by omega)) dL_law_845 ?_
  refine aftU_i (runMG (rest := []) (As := [.int (xs (i + 1).toNatClampNeg), .int (xs (i + 2).toNatClampNeg), .int (xs (i + 3).toNatClampNeg), .int (xs (i + 4).toNatClampNeg), .int (xs (i + 5).toNatClampNeg)]) hx hb hml hown htb (U_X9_foretold l D E qm (xs (i + 1).toNatClampNeg) (xs (i + 2).toNatClampNeg) (xs (i + 3).toNatClampNeg) (xs (i + 4).toNatClampNeg) (xs (i + 5).toNatClampNeg) _ zm hIm) ok_X9_foretold k_1299 k_1300 k_1301 k_9 k_1302 ⟨(Nat.le_of_ble_eq_true rfl), (Nat.le_of_ble_eq_true rfl)⟩ ⟨(show (123 + 5 * k) + 0 + 0 ≤ 600000 by omega), (show (44666 + 1604 * k) + 0 + 0 ≤ 7302250 by omega)⟩ hl.1 (Nat.le_of_ble_eq_true rfl) rfl rfl dL_law_846 (pmU List.perm_append_comm hP hD hK (rP hP) rfl rfl 0 rfl)) List.perm_append_comm hP hD hS hA (fun r_4 zs_6 H locs hw_5 hP hD hS => ?_)
  have hP := sw_P hP; have hD := sw_D hD
  obtain ⟨hIm, hw_5_0⟩ := hw_5
  refine lv_pop hx hb dL_law_849 rfl ?_
  refine lv_goto (tgt := 1550) hx hb dL_law_850 (by decide) ?_
  refine W.widen (k := (123 + 5 * k) + 5) (n := (44666 + 1604 * k) + 1604) (by omega) (by omega) ?_
  exact next zs_3 zs_6 _ _ _ ⟨hIx, hIm, (TR_kp hTR (KP_X8_foretold hw_2_0) (KP_X9_foretold hw_5_0) (KQ_X9_foretold hw_5_0))⟩ hP hD hS (lv_sub hl [0, 1, 2, 3] rfl)
set_option maxHeartbeats 4000000 in
set_option maxRecDepth 100000 in
theorem law_17 {p : Program} {l : Launch} {e : Env} {s : State} {m : MethodId} {below : List Frame} {meth : Method} {c : Code} {D : va_G} {E : Nat → Nat} {b L : Nat} {xs : Nat → Int32} (hx : p.tables.exec = Jvm.exec) (hb : c.code = code) (hr : meth.sig.returnType = ret) (hml : c.maxLocals = 4) (hown : s.vm.findClass R_law = some m.cls) (htb : ∀ w ∈ tb, w.before #[Value.ref b] s = true) (hK : KX D E s) (hG : SGs [((E 6), (E 8), 60, tw6), ((E 7), (E 9), 35, tw7)] (fun q : Nat => s.heap.size ≤ q) s s.heap) (hX : va_X b L xs s s.heap) (hL : L ≤ 3072) (hbl : b < s.heap.size) (hlocks : meth.locks = false) {qx qm k : Nat} {i : Int32} (hk : k ≤ 512) (hi : i.toInt = 6 * (k : Int)) (hiL : i.toInt + 6 ≤ (L : Int)) {zx : XS} {zm : MS} {H : Heap} {locs : List Loc} {ls : Array Slot} (hI : LI zx zm) (hP : va_P D vwCl (XW E qx zx ++ MW E qm zm) H) (hD : va_D (fun q : Nat => s.heap.size ≤ q) (XW E qx zx ++ MW E qm zm)) (hS : va_S (fun q : Nat => s.heap.size ≤ q) s.heap H locs) (hl : lv_has ls 4 [(3, .int i), (2, .ref qm), (1, .ref qx), (0, .ref b)]) (next : ∀ (zx : XS) (zm : MS) (H : Heap) (locs : List Loc) (ls : Array Slot), LI zx zm → va_P D vwCl (XW E qx zx ++ MW E qm zm) H → va_D (fun q : Nat => s.heap.size ≤ q) (XW E qx zx ++ MW E qm zm) → va_S (fun q : Nat => s.heap.size ≤ q) s.heap H locs → lv_has ls 4 [(3, .int i), (2, .ref qm), (1, .ref qx), (0, .ref b)] → W p l e room_1 s m #[Value.ref b] below meth c H locs ((123 + 5 * k) + 5) ((44666 + 1604 * k) + 1604) (lw_Z below #[Value.ref b] s) (F0 m 1550 ls [])) : W p l e room_1 s m #[Value.ref b] below meth c H locs (123 + 5 * k) (44666 + 1604 * k) (lw_Z below #[Value.ref b] s) (F0 m 853 ls []) := by
  have hA : ∀ q : Nat, s.heap.size ≤ q → (fun q : Nat => s.heap.size ≤ q) q := fun _ h => h
  have hbA : ¬ (fun q : Nat => s.heap.size ≤ q) b := Nat.not_le.mpr hbl
  obtain ⟨hIx, hIm, hTR⟩ := hI
  have hI0 := hIx
  refine lv_aload_n hx hb dL_law_853 rfl (lv_at hl 2 rfl) ?_
  refine lv_aload_n hx hb dL_law_854 rfl (lv_at hl 3 rfl) ?_
  refine lv_iload_n hx hb dL_law_855 rfl (lv_at hl 0 rfl) ?_
  refine lv_iconst (v := 1) hx hb dL_law_856 (by decide) ?_
  refine lv_iadd hx hb dL_law_857 ?_
  refine va_sld hx hb hX hbl hbA hS (sc_in (by omega) t_1 (by omega) (by omega) (by omega)) dL_law_858 ?_
  refine lv_aload_n hx hb dL_law_859 rfl (lv_at hl 3 rfl) ?_
  refine lv_iload_n hx hb dL_law_860 rfl (lv_at hl 0 rfl) ?_
  refine lv_iconst (v := 2) hx hb dL_law_861 (by decide) ?_
  refine lv_iadd hx hb dL_law_862 ?_
  refine va_sld hx hb hX hbl hbA hS (sc_in (by omega) t_2 (by omega) (by omega) (by omega)) dL_law_863 ?_
  refine lv_aload_n hx hb dL_law_864 rfl (lv_at hl 3 rfl) ?_
  refine lv_iload_n hx hb dL_law_865 rfl (lv_at hl 0 rfl) ?_
  refine lv_iconst (v := 3) hx hb dL_law_866 (by decide) ?_
  refine lv_iadd hx hb dL_law_867 ?_
  refine va_sld hx hb hX hbl hbA hS (sc_in (by omega) t_3 (by omega) (by omega) (by omega)) dL_law_868 ?_
  refine lv_aload_n hx hb dL_law_869 rfl (lv_at hl 3 rfl) ?_
  refine lv_iload_n hx hb dL_law_870 rfl (lv_at hl 0 rfl) ?_
  refine lv_iconst (v := 4) hx hb dL_law_871 (by decide) ?_
  refine lv_iadd hx hb dL_law_872 ?_
  refine va_sld hx hb hX hbl hbA hS (sc_in (by omega) t_4 (by omega) (by omega) (by omega)) dL_law_873 ?_
  refine aftU_i (runMG (rest := []) (As := [.int (xs (i + 1).toNatClampNeg), .int (xs (i + 2).toNatClampNeg), .int (xs (i + 3).toNatClampNeg), .int (xs (i + 4).toNatClampNeg)]) hx hb hml hown htb (U_X8_jump l D E qx (xs (i + 1).toNatClampNeg) (xs (i + 2).toNatClampNeg) (xs (i + 3).toNatClampNeg) (xs (i + 4).toNatClampNeg) _ zx hIx) ok_X8_jump k_558 k_559 k_560 k_1 k_561 ⟨(Nat.le_of_ble_eq_true rfl), (Nat.le_of_ble_eq_true rfl)⟩ ⟨(show (123 + 5 * k) + 0 ≤ 600000 by omega), (show (44666 + 1604 * k) + 0 ≤ 7302250 by omega)⟩ hl.1 (Nat.le_of_ble_eq_true rfl) rfl rfl dL_law_874 (pmU (List.Perm.refl _) hP hD hK (XW_c (lP hP)) rfl rfl 0 rfl)) (List.Perm.refl _) hP hD hS hA (fun r_1 zs_3 H locs hw_2 hP hD hS => ?_)
  obtain ⟨hIx, hw_2_0⟩ := hw_2
  refine lv_pop hx hb dL_law_877 rfl ?_
  refine lv_aload_n hx hb dL_law_878 rfl (lv_at hl 1 rfl) ?_
  refine lv_aload_n hx hb dL_law_879 rfl (lv_at hl 3 rfl) ?_
  refine lv_iload_n hx hb dL_law_880 rfl (lv_at hl 0 rfl) ?_
  refine lv_iconst (v := 1) hx hb dL_law_881 (by decide) ?_
  refine lv_iadd hx hb dL_law_882 ?_
  refine va_sld hx hb hX hbl hbA hS (sc_in (by omega) t_1 (by omega) (by omega) (by omega)) dL_law_883 ?_
  refine lv_aload_n hx hb dL_law_884 rfl (lv_at hl 3 rfl) ?_
  refine lv_iload_n hx hb dL_law_885 rfl (lv_at hl 0 rfl) ?_
  refine lv_iconst (v := 2) hx hb dL_law_886 (by decide) ?_
  refine lv_iadd hx hb dL_law_887 ?_
  refine va_sld hx hb hX hbl hbA hS (sc_in (by omega) t_2 (by omega) (by omega) (by omega)) dL_law_888 ?_
  refine lv_aload_n hx hb dL_law_889 rfl (lv_at hl 3 rfl) ?_
  refine lv_iload_n hx hb dL_law_890 rfl (lv_at hl 0 rfl) ?_
  refine lv_iconst (v := 3) hx hb dL_law_891 (by decide) ?_
  refine lv_iadd hx hb dL_law_892 ?_
  refine va_sld hx hb hX hbl hbA hS (sc_in (by omega) t_3 (by omega) (by omega) (by omega)) dL_law_893 ?_
  refine lv_aload_n hx hb dL_law_894 rfl (lv_at hl 3 rfl) ?_
  refine lv_iload_n hx hb dL_law_895 rfl (lv_at hl 0 rfl) ?_
  refine lv_iconst (v := 4) hx hb dL_law_896 (by decide) ?_
  refine lv_iadd hx hb dL_law_897 ?_
  refine va_sld hx hb hX hbl hbA hS (sc_in (by omega) t_4 (by omega) (by omega) (by omega)) dL_law_898 ?_
  refine aftU_i (runMG (rest := []) (As := [.int (xs (i + 1).toNatClampNeg), .int (xs (i + 2).toNatClampNeg), .int (xs (i + 3).toNatClampNeg), .int (xs (i + 4).toNatClampNeg)]) hx hb hml hown htb (U_X9_jump l D E qm (xs (i + 1).toNatClampNeg) (xs (i + 2).toNatClampNeg) (xs (i + 3).toNatClampNeg) (xs (i + 4).toNatClampNeg) _ zm hIm) ok_X9_jump k_1318 k_1319 k_1320 k_9 k_1321 ⟨(Nat.le_of_ble_eq_true rfl), (Nat.le_of_ble_eq_true rfl)⟩ ⟨(show (123 + 5 * k) + 0 + 0 ≤ 600000 by omega), (show (44666 + 1604 * k) + 0 + 0 ≤ 7302250 by omega)⟩ hl.1 (Nat.le_of_ble_eq_true rfl) rfl rfl dL_law_899 (pmU List.perm_append_comm hP hD hK (rP hP) rfl rfl 0 rfl)) List.perm_append_comm hP hD hS hA (fun r_4 zs_6 H locs hw_5 hP hD hS => ?_)
  have hP := sw_P hP; have hD := sw_D hD
  obtain ⟨hIm, hw_5_0⟩ := hw_5
  refine lv_pop hx hb dL_law_902 rfl ?_
  refine lv_goto (tgt := 1550) hx hb dL_law_903 (by decide) ?_
  refine W.widen (k := (123 + 5 * k) + 5) (n := (44666 + 1604 * k) + 1604) (by omega) (by omega) ?_
  exact next zs_3 zs_6 _ _ _ ⟨hIx, hIm, (TR_kp hTR (KP_X8_jump hw_2_0) (KP_X9_jump hw_5_0) (KQ_X9_jump hw_5_0))⟩ hP hD hS (lv_sub hl [0, 1, 2, 3] rfl)
end
section
set_option maxHeartbeats 4000000 in
set_option maxRecDepth 100000 in
theorem law_18 {p : Program} {l : Launch} {e : Env} {s : State} {m : MethodId} {below : List Frame} {meth : Method} {c : Code} {D : va_G} {E : Nat → Nat} {b L : Nat} {xs : Nat → Int32} (hx : p.tables.exec = Jvm.exec) (hb : c.code = code) (hr : meth.sig.returnType = ret) (hml : c.maxLocals = 4) (hown : s.vm.findClass R_law = some m.cls) (htb : ∀ w ∈ tb, w.before #[Value.ref b] s = true) (hK : KX D E s) (hG : SGs [((E 6), (E 8), 60, tw6), ((E 7), (E 9), 35, tw7)] (fun q : Nat => s.heap.size ≤ q) s s.heap) (hX : va_X b L xs s s.heap) (hL : L ≤ 3072) (hbl : b < s.heap.size) (hlocks : meth.locks = false) {qx qm k : Nat} {i : Int32} (hk : k ≤ 512) (hi : i.toInt = 6 * (k : Int)) (hiL : i.toInt + 6 ≤ (L : Int)) {zx : XS} {zm : MS} {H : Heap} {locs : List Loc} {ls : Array Slot} (hI : LI zx zm) (hP : va_P D vwCl (XW E qx zx ++ MW E qm zm) H) (hD : va_D (fun q : Nat => s.heap.size ≤ q) (XW E qx zx ++ MW E qm zm)) (hS : va_S (fun q : Nat => s.heap.size ≤ q) s.heap H locs) (hl : lv_has ls 4 [(3, .int i), (2, .ref qm), (1, .ref qx), (0, .ref b)]) (next : ∀ (zx : XS) (zm : MS) (H : Heap) (locs : List Loc) (ls : Array Slot), LI zx zm → va_P D vwCl (XW E qx zx ++ MW E qm zm) H → va_D (fun q : Nat => s.heap.size ≤ q) (XW E qx zx ++ MW E qm zm) → va_S (fun q : Nat => s.heap.size ≤ q) s.heap H locs → lv_has ls 4 [(3, .int i), (2, .ref qm), (1, .ref qx), (0, .ref b)] → W p l e room_1 s m #[Value.ref b] below meth c H locs ((123 + 5 * k) + 5) ((44666 + 1604 * k) + 1604) (lw_Z below #[Value.ref b] s) (F0 m 1550 ls [])) : W p l e room_1 s m #[Value.ref b] below meth c H locs (123 + 5 * k) (44666 + 1604 * k) (lw_Z below #[Value.ref b] s) (F0 m 906 ls []) := by
  have hA : ∀ q : Nat, s.heap.size ≤ q → (fun q : Nat => s.heap.size ≤ q) q := fun _ h => h
  have hbA : ¬ (fun q : Nat => s.heap.size ≤ q) b := Nat.not_le.mpr hbl
  obtain ⟨hIx, hIm, hTR⟩ := hI
  have hI0 := hIx
  refine lv_aload_n hx hb dL_law_906 rfl (lv_at hl 2 rfl) ?_
  refine lv_aload_n hx hb dL_law_907 rfl (lv_at hl 3 rfl) ?_
  refine lv_iload_n hx hb dL_law_908 rfl (lv_at hl 0 rfl) ?_
  refine lv_iconst (v := 1) hx hb dL_law_909 (by decide) ?_
  refine lv_iadd hx hb dL_law_910 ?_
  refine va_sld hx hb hX hbl hbA hS (sc_in (by omega) t_1 (by omega) (by omega) (by omega)) dL_law_911 ?_
  refine lv_aload_n hx hb dL_law_912 rfl (lv_at hl 3 rfl) ?_
  refine lv_iload_n hx hb dL_law_913 rfl (lv_at hl 0 rfl) ?_
  refine lv_iconst (v := 2) hx hb dL_law_914 (by decide) ?_
  refine lv_iadd hx hb dL_law_915 ?_
  refine va_sld hx hb hX hbl hbA hS (sc_in (by omega) t_2 (by omega) (by omega) (by omega)) dL_law_916 ?_
  refine aftU_i (runMG (rest := []) (As := [.int (xs (i + 1).toNatClampNeg), .int (xs (i + 2).toNatClampNeg)]) hx hb hml hown htb (U_X8_feed l D E qx (xs (i + 1).toNatClampNeg) (xs (i + 2).toNatClampNeg) _ zx hIx) ok_X8_feed k_573 k_574 k_575 k_1 k_576 ⟨(Nat.le_of_ble_eq_true rfl), (Nat.le_of_ble_eq_true rfl)⟩ ⟨(show (123 + 5 * k) + 0 ≤ 600000 by omega), (show (44666 + 1604 * k) + 0 ≤ 7302250 by omega)⟩ hl.1 (Nat.le_of_ble_eq_true rfl) rfl rfl dL_law_917 (pmU (List.Perm.refl _) hP hD hK (XW_c (lP hP)) rfl rfl 0 rfl)) (List.Perm.refl _) hP hD hS hA (fun r_1 zs_3 H locs hw_2 hP hD hS => ?_)
  obtain ⟨hIx, hw_2_0⟩ := hw_2
  refine lv_pop hx hb dL_law_920 rfl ?_
  refine lv_aload_n hx hb dL_law_921 rfl (lv_at hl 1 rfl) ?_
  refine lv_aload_n hx hb dL_law_922 rfl (lv_at hl 3 rfl) ?_
  refine lv_iload_n hx hb dL_law_923 rfl (lv_at hl 0 rfl) ?_
  refine lv_iconst (v := 1) hx hb dL_law_924 (by decide) ?_
  refine lv_iadd hx hb dL_law_925 ?_
  refine va_sld hx hb hX hbl hbA hS (sc_in (by omega) t_1 (by omega) (by omega) (by omega)) dL_law_926 ?_
  refine lv_aload_n hx hb dL_law_927 rfl (lv_at hl 3 rfl) ?_
  refine lv_iload_n hx hb dL_law_928 rfl (lv_at hl 0 rfl) ?_
  refine lv_iconst (v := 2) hx hb dL_law_929 (by decide) ?_
  refine lv_iadd hx hb dL_law_930 ?_
  refine va_sld hx hb hX hbl hbA hS (sc_in (by omega) t_2 (by omega) (by omega) (by omega)) dL_law_931 ?_
  refine aftU_i (runMG (rest := []) (As := [.int (xs (i + 1).toNatClampNeg), .int (xs (i + 2).toNatClampNeg)]) hx hb hml hown htb (U_X9_feed l D E qm (xs (i + 1).toNatClampNeg) (xs (i + 2).toNatClampNeg) _ zm hIm) ok_X9_feed k_1326 k_1327 k_1328 k_9 k_1329 ⟨(Nat.le_of_ble_eq_true rfl), (Nat.le_of_ble_eq_true rfl)⟩ ⟨(show (123 + 5 * k) + 0 + 0 ≤ 600000 by omega), (show (44666 + 1604 * k) + 0 + 0 ≤ 7302250 by omega)⟩ hl.1 (Nat.le_of_ble_eq_true rfl) rfl rfl dL_law_932 (pmU List.perm_append_comm hP hD hK (rP hP) rfl rfl 0 rfl)) List.perm_append_comm hP hD hS hA (fun r_4 zs_6 H locs hw_5 hP hD hS => ?_)
  have hP := sw_P hP; have hD := sw_D hD
  obtain ⟨hIm, hw_5_0⟩ := hw_5
  refine lv_pop hx hb dL_law_935 rfl ?_
  refine lv_goto (tgt := 1550) hx hb dL_law_936 (by decide) ?_
  refine W.widen (k := (123 + 5 * k) + 5) (n := (44666 + 1604 * k) + 1604) (by omega) (by omega) ?_
  exact next zs_3 zs_6 _ _ _ ⟨hIx, hIm, (ST_feed hI0 hTR hw_2_0 hw_5_0)⟩ hP hD hS (lv_sub hl [0, 1, 2, 3] rfl)
set_option maxHeartbeats 4000000 in
set_option maxRecDepth 100000 in
theorem law_19 {p : Program} {l : Launch} {e : Env} {s : State} {m : MethodId} {below : List Frame} {meth : Method} {c : Code} {D : va_G} {E : Nat → Nat} {b L : Nat} {xs : Nat → Int32} (hx : p.tables.exec = Jvm.exec) (hb : c.code = code) (hr : meth.sig.returnType = ret) (hml : c.maxLocals = 4) (hown : s.vm.findClass R_law = some m.cls) (htb : ∀ w ∈ tb, w.before #[Value.ref b] s = true) (hK : KX D E s) (hG : SGs [((E 6), (E 8), 60, tw6), ((E 7), (E 9), 35, tw7)] (fun q : Nat => s.heap.size ≤ q) s s.heap) (hX : va_X b L xs s s.heap) (hL : L ≤ 3072) (hbl : b < s.heap.size) (hlocks : meth.locks = false) {qx qm k : Nat} {i : Int32} (hk : k ≤ 512) (hi : i.toInt = 6 * (k : Int)) (hiL : i.toInt + 6 ≤ (L : Int)) {zx : XS} {zm : MS} {H : Heap} {locs : List Loc} {ls : Array Slot} (hI : LI zx zm) (hP : va_P D vwCl (XW E qx zx ++ MW E qm zm) H) (hD : va_D (fun q : Nat => s.heap.size ≤ q) (XW E qx zx ++ MW E qm zm)) (hS : va_S (fun q : Nat => s.heap.size ≤ q) s.heap H locs) (hl : lv_has ls 4 [(3, .int i), (2, .ref qm), (1, .ref qx), (0, .ref b)]) (next : ∀ (zx : XS) (zm : MS) (H : Heap) (locs : List Loc) (ls : Array Slot), LI zx zm → va_P D vwCl (XW E qx zx ++ MW E qm zm) H → va_D (fun q : Nat => s.heap.size ≤ q) (XW E qx zx ++ MW E qm zm) → va_S (fun q : Nat => s.heap.size ≤ q) s.heap H locs → lv_has ls 4 [(3, .int i), (2, .ref qm), (1, .ref qx), (0, .ref b)] → W p l e room_1 s m #[Value.ref b] below meth c H locs ((123 + 5 * k) + 5) ((44666 + 1604 * k) + 1604) (lw_Z below #[Value.ref b] s) (F0 m 1550 ls [])) : W p l e room_1 s m #[Value.ref b] below meth c H locs (123 + 5 * k) (44666 + 1604 * k) (lw_Z below #[Value.ref b] s) (F0 m 939 ls []) := by
  have hA : ∀ q : Nat, s.heap.size ≤ q → (fun q : Nat => s.heap.size ≤ q) q := fun _ h => h
  have hbA : ¬ (fun q : Nat => s.heap.size ≤ q) b := Nat.not_le.mpr hbl
  obtain ⟨hIx, hIm, hTR⟩ := hI
  have hI0 := hIx
  refine lv_aload_n hx hb dL_law_939 rfl (lv_at hl 2 rfl) ?_
  refine lv_aload_n hx hb dL_law_940 rfl (lv_at hl 3 rfl) ?_
  refine lv_iload_n hx hb dL_law_941 rfl (lv_at hl 0 rfl) ?_
  refine lv_iconst (v := 1) hx hb dL_law_942 (by decide) ?_
  refine lv_iadd hx hb dL_law_943 ?_
  refine va_sld hx hb hX hbl hbA hS (sc_in (by omega) t_1 (by omega) (by omega) (by omega)) dL_law_944 ?_
  refine aftU_i (runMG (rest := []) (As := [.int (xs (i + 1).toNatClampNeg)]) hx hb hml hown htb (U_X8_rule l D E qx (xs (i + 1).toNatClampNeg) _ zx hIx) ok_X8_rule k_581 k_582 k_583 k_1 k_584 ⟨(Nat.le_of_ble_eq_true rfl), (Nat.le_of_ble_eq_true rfl)⟩ ⟨(show (123 + 5 * k) + 0 ≤ 600000 by omega), (show (44666 + 1604 * k) + 0 ≤ 7302250 by omega)⟩ hl.1 (Nat.le_of_ble_eq_true rfl) rfl rfl dL_law_945 (pmUS (List.Perm.refl _) hP hD hK (XW_c (lP hP)) rfl rfl 0 rfl hG hS hA)) (List.Perm.refl _) hP hD hS hA (fun r_1 zs_3 H locs hw_2 hP hD hS => ?_)
  obtain ⟨hIx, hw_2_0⟩ := hw_2
  refine lv_pop hx hb dL_law_948 rfl ?_
  refine lv_aload_n hx hb dL_law_949 rfl (lv_at hl 1 rfl) ?_
  refine lv_aload_n hx hb dL_law_950 rfl (lv_at hl 3 rfl) ?_
  refine lv_iload_n hx hb dL_law_951 rfl (lv_at hl 0 rfl) ?_
  refine lv_iconst (v := 1) hx hb dL_law_952 (by decide) ?_
  refine lv_iadd hx hb dL_law_953 ?_
  refine va_sld hx hb hX hbl hbA hS (sc_in (by omega) t_1 (by omega) (by omega) (by omega)) dL_law_954 ?_
  refine aftU_i (runMG (rest := []) (As := [.int (xs (i + 1).toNatClampNeg)]) hx hb hml hown htb (U_X9_rule l D E qm (xs (i + 1).toNatClampNeg) _ zm hIm) ok_X9_rule k_1330 k_1331 k_1332 k_9 k_1333 ⟨(Nat.le_of_ble_eq_true rfl), (Nat.le_of_ble_eq_true rfl)⟩ ⟨(show (123 + 5 * k) + 0 + 0 ≤ 600000 by omega), (show (44666 + 1604 * k) + 0 + 0 ≤ 7302250 by omega)⟩ hl.1 (Nat.le_of_ble_eq_true rfl) rfl rfl dL_law_955 (pmU List.perm_append_comm hP hD hK (rP hP) rfl rfl 0 rfl)) List.perm_append_comm hP hD hS hA (fun r_4 zs_6 H locs hw_5 hP hD hS => ?_)
  have hP := sw_P hP; have hD := sw_D hD
  obtain ⟨hIm, hw_5_0⟩ := hw_5
  refine lv_pop hx hb dL_law_958 rfl ?_
  refine lv_goto (tgt := 1550) hx hb dL_law_959 (by decide) ?_
  refine W.widen (k := (123 + 5 * k) + 5) (n := (44666 + 1604 * k) + 1604) (by omega) (by omega) ?_
  exact next zs_3 zs_6 _ _ _ ⟨hIx, hIm, (ST_rule hI0 hTR hw_2_0 hw_5_0)⟩ hP hD hS (lv_sub hl [0, 1, 2, 3] rfl)
set_option maxHeartbeats 4000000 in
set_option maxRecDepth 100000 in
theorem law_20 {p : Program} {l : Launch} {e : Env} {s : State} {m : MethodId} {below : List Frame} {meth : Method} {c : Code} {D : va_G} {E : Nat → Nat} {b L : Nat} {xs : Nat → Int32} (hx : p.tables.exec = Jvm.exec) (hb : c.code = code) (hr : meth.sig.returnType = ret) (hml : c.maxLocals = 4) (hown : s.vm.findClass R_law = some m.cls) (htb : ∀ w ∈ tb, w.before #[Value.ref b] s = true) (hK : KX D E s) (hG : SGs [((E 6), (E 8), 60, tw6), ((E 7), (E 9), 35, tw7)] (fun q : Nat => s.heap.size ≤ q) s s.heap) (hX : va_X b L xs s s.heap) (hL : L ≤ 3072) (hbl : b < s.heap.size) (hlocks : meth.locks = false) {qx qm k : Nat} {i : Int32} (hk : k ≤ 512) (hi : i.toInt = 6 * (k : Int)) (hiL : i.toInt + 6 ≤ (L : Int)) {zx : XS} {zm : MS} {H : Heap} {locs : List Loc} {ls : Array Slot} (hI : LI zx zm) (hP : va_P D vwCl (XW E qx zx ++ MW E qm zm) H) (hD : va_D (fun q : Nat => s.heap.size ≤ q) (XW E qx zx ++ MW E qm zm)) (hS : va_S (fun q : Nat => s.heap.size ≤ q) s.heap H locs) (hl : lv_has ls 4 [(3, .int i), (2, .ref qm), (1, .ref qx), (0, .ref b)]) (next : ∀ (zx : XS) (zm : MS) (H : Heap) (locs : List Loc) (ls : Array Slot), LI zx zm → va_P D vwCl (XW E qx zx ++ MW E qm zm) H → va_D (fun q : Nat => s.heap.size ≤ q) (XW E qx zx ++ MW E qm zm) → va_S (fun q : Nat => s.heap.size ≤ q) s.heap H locs → lv_has ls 4 [(3, .int i), (2, .ref qm), (1, .ref qx), (0, .ref b)] → W p l e room_1 s m #[Value.ref b] below meth c H locs ((123 + 5 * k) + 5) ((44666 + 1604 * k) + 1604) (lw_Z below #[Value.ref b] s) (F0 m 1550 ls [])) : W p l e room_1 s m #[Value.ref b] below meth c H locs (123 + 5 * k) (44666 + 1604 * k) (lw_Z below #[Value.ref b] s) (F0 m 962 ls []) := by
  have hA : ∀ q : Nat, s.heap.size ≤ q → (fun q : Nat => s.heap.size ≤ q) q := fun _ h => h
  have hbA : ¬ (fun q : Nat => s.heap.size ≤ q) b := Nat.not_le.mpr hbl
  obtain ⟨hIx, hIm, hTR⟩ := hI
  have hI0 := hIx
  refine lv_aload_n hx hb dL_law_962 rfl (lv_at hl 2 rfl) ?_
  refine lv_aload_n hx hb dL_law_963 rfl (lv_at hl 3 rfl) ?_
  refine lv_iload_n hx hb dL_law_964 rfl (lv_at hl 0 rfl) ?_
  refine lv_iconst (v := 1) hx hb dL_law_965 (by decide) ?_
  refine lv_iadd hx hb dL_law_966 ?_
  refine va_sld hx hb hX hbl hbA hS (sc_in (by omega) t_1 (by omega) (by omega) (by omega)) dL_law_967 ?_
  refine lv_aload_n hx hb dL_law_968 rfl (lv_at hl 3 rfl) ?_
  refine lv_iload_n hx hb dL_law_969 rfl (lv_at hl 0 rfl) ?_
  refine lv_iconst (v := 2) hx hb dL_law_970 (by decide) ?_
  refine lv_iadd hx hb dL_law_971 ?_
  refine va_sld hx hb hX hbl hbA hS (sc_in (by omega) t_2 (by omega) (by omega) (by omega)) dL_law_972 ?_
  refine lv_aload_n hx hb dL_law_973 rfl (lv_at hl 3 rfl) ?_
  refine lv_iload_n hx hb dL_law_974 rfl (lv_at hl 0 rfl) ?_
  refine lv_iconst (v := 3) hx hb dL_law_975 (by decide) ?_
  refine lv_iadd hx hb dL_law_976 ?_
  refine va_sld hx hb hX hbl hbA hS (sc_in (by omega) t_3 (by omega) (by omega) (by omega)) dL_law_977 ?_
  refine aftU_i (runMG (rest := []) (As := [.int (xs (i + 1).toNatClampNeg), .int (xs (i + 2).toNatClampNeg), .int (xs (i + 3).toNatClampNeg)]) hx hb hml hown htb (U_X8_trial l D E qx (xs (i + 1).toNatClampNeg) (xs (i + 2).toNatClampNeg) (xs (i + 3).toNatClampNeg) _ zx hIx) ok_X8_trial k_708 k_709 k_710 k_1 k_711 ⟨(Nat.le_of_ble_eq_true rfl), (Nat.le_of_ble_eq_true rfl)⟩ ⟨(show (123 + 5 * k) + 0 ≤ 600000 by omega), (show (44666 + 1604 * k) + 0 ≤ 7302250 by omega)⟩ hl.1 (Nat.le_of_ble_eq_true rfl) rfl rfl dL_law_978 (pmU (List.Perm.refl _) hP hD hK (XW_c (lP hP)) rfl rfl 0 rfl)) (List.Perm.refl _) hP hD hS hA (fun r_1 zs_3 H locs hw_2 hP hD hS => ?_)
  obtain ⟨hIx, hw_2_0⟩ := hw_2
  refine lv_pop hx hb dL_law_981 rfl ?_
  refine lv_aload_n hx hb dL_law_982 rfl (lv_at hl 1 rfl) ?_
  refine lv_aload_n hx hb dL_law_983 rfl (lv_at hl 3 rfl) ?_
  refine lv_iload_n hx hb dL_law_984 rfl (lv_at hl 0 rfl) ?_
  refine lv_iconst (v := 1) hx hb dL_law_985 (by decide) ?_
  refine lv_iadd hx hb dL_law_986 ?_
  refine va_sld hx hb hX hbl hbA hS (sc_in (by omega) t_1 (by omega) (by omega) (by omega)) dL_law_987 ?_
  refine lv_aload_n hx hb dL_law_988 rfl (lv_at hl 3 rfl) ?_
  refine lv_iload_n hx hb dL_law_989 rfl (lv_at hl 0 rfl) ?_
  refine lv_iconst (v := 2) hx hb dL_law_990 (by decide) ?_
  refine lv_iadd hx hb dL_law_991 ?_
  refine va_sld hx hb hX hbl hbA hS (sc_in (by omega) t_2 (by omega) (by omega) (by omega)) dL_law_992 ?_
  refine lv_aload_n hx hb dL_law_993 rfl (lv_at hl 3 rfl) ?_
  refine lv_iload_n hx hb dL_law_994 rfl (lv_at hl 0 rfl) ?_
  refine lv_iconst (v := 3) hx hb dL_law_995 (by decide) ?_
  refine lv_iadd hx hb dL_law_996 ?_
  refine va_sld hx hb hX hbl hbA hS (sc_in (by omega) t_3 (by omega) (by omega) (by omega)) dL_law_997 ?_
  refine aftU_i (runMG (rest := []) (As := [.int (xs (i + 1).toNatClampNeg), .int (xs (i + 2).toNatClampNeg), .int (xs (i + 3).toNatClampNeg)]) hx hb hml hown htb (U_X9_trial l D E qm (xs (i + 1).toNatClampNeg) (xs (i + 2).toNatClampNeg) (xs (i + 3).toNatClampNeg) _ zm hIm) ok_X9_trial k_1387 k_1388 k_1389 k_9 k_1390 ⟨(Nat.le_of_ble_eq_true rfl), (Nat.le_of_ble_eq_true rfl)⟩ ⟨(show (123 + 5 * k) + 0 + 0 ≤ 600000 by omega), (show (44666 + 1604 * k) + 0 + 0 ≤ 7302250 by omega)⟩ hl.1 (Nat.le_of_ble_eq_true rfl) rfl rfl dL_law_998 (pmU List.perm_append_comm hP hD hK (rP hP) rfl rfl 0 rfl)) List.perm_append_comm hP hD hS hA (fun r_4 zs_6 H locs hw_5 hP hD hS => ?_)
  have hP := sw_P hP; have hD := sw_D hD
  obtain ⟨hIm, hw_5_0⟩ := hw_5
  refine lv_pop hx hb dL_law_1001 rfl ?_
  refine lv_goto (tgt := 1550) hx hb dL_law_1002 (by decide) ?_
  refine W.widen (k := (123 + 5 * k) + 5) (n := (44666 + 1604 * k) + 1604) (by omega) (by omega) ?_
  exact next zs_3 zs_6 _ _ _ ⟨hIx, hIm, (TR_kp hTR (KP_X8_trial hw_2_0) (KP_X9_trial hw_5_0) (KQ_X9_trial hw_5_0))⟩ hP hD hS (lv_sub hl [0, 1, 2, 3] rfl)
set_option maxHeartbeats 4000000 in
set_option maxRecDepth 100000 in
theorem law_21 {p : Program} {l : Launch} {e : Env} {s : State} {m : MethodId} {below : List Frame} {meth : Method} {c : Code} {D : va_G} {E : Nat → Nat} {b L : Nat} {xs : Nat → Int32} (hx : p.tables.exec = Jvm.exec) (hb : c.code = code) (hr : meth.sig.returnType = ret) (hml : c.maxLocals = 4) (hown : s.vm.findClass R_law = some m.cls) (htb : ∀ w ∈ tb, w.before #[Value.ref b] s = true) (hK : KX D E s) (hG : SGs [((E 6), (E 8), 60, tw6), ((E 7), (E 9), 35, tw7)] (fun q : Nat => s.heap.size ≤ q) s s.heap) (hX : va_X b L xs s s.heap) (hL : L ≤ 3072) (hbl : b < s.heap.size) (hlocks : meth.locks = false) {qx qm k : Nat} {i : Int32} (hk : k ≤ 512) (hi : i.toInt = 6 * (k : Int)) (hiL : i.toInt + 6 ≤ (L : Int)) {zx : XS} {zm : MS} {H : Heap} {locs : List Loc} {ls : Array Slot} (hI : LI zx zm) (hP : va_P D vwCl (XW E qx zx ++ MW E qm zm) H) (hD : va_D (fun q : Nat => s.heap.size ≤ q) (XW E qx zx ++ MW E qm zm)) (hS : va_S (fun q : Nat => s.heap.size ≤ q) s.heap H locs) (hl : lv_has ls 4 [(3, .int i), (2, .ref qm), (1, .ref qx), (0, .ref b)]) (next : ∀ (zx : XS) (zm : MS) (H : Heap) (locs : List Loc) (ls : Array Slot), LI zx zm → va_P D vwCl (XW E qx zx ++ MW E qm zm) H → va_D (fun q : Nat => s.heap.size ≤ q) (XW E qx zx ++ MW E qm zm) → va_S (fun q : Nat => s.heap.size ≤ q) s.heap H locs → lv_has ls 4 [(3, .int i), (2, .ref qm), (1, .ref qx), (0, .ref b)] → W p l e room_1 s m #[Value.ref b] below meth c H locs ((123 + 5 * k) + 5) ((44666 + 1604 * k) + 1604) (lw_Z below #[Value.ref b] s) (F0 m 1550 ls [])) : W p l e room_1 s m #[Value.ref b] below meth c H locs (123 + 5 * k) (44666 + 1604 * k) (lw_Z below #[Value.ref b] s) (F0 m 1005 ls []) := by
  have hA : ∀ q : Nat, s.heap.size ≤ q → (fun q : Nat => s.heap.size ≤ q) q := fun _ h => h
  have hbA : ¬ (fun q : Nat => s.heap.size ≤ q) b := Nat.not_le.mpr hbl
  obtain ⟨hIx, hIm, hTR⟩ := hI
  have hI0 := hIx
  refine lv_aload_n hx hb dL_law_1005 rfl (lv_at hl 2 rfl) ?_
  refine lv_aload_n hx hb dL_law_1006 rfl (lv_at hl 3 rfl) ?_
  refine lv_iload_n hx hb dL_law_1007 rfl (lv_at hl 0 rfl) ?_
  refine lv_iconst (v := 1) hx hb dL_law_1008 (by decide) ?_
  refine lv_iadd hx hb dL_law_1009 ?_
  refine va_sld hx hb hX hbl hbA hS (sc_in (by omega) t_1 (by omega) (by omega) (by omega)) dL_law_1010 ?_
  refine lv_aload_n hx hb dL_law_1011 rfl (lv_at hl 3 rfl) ?_
  refine lv_iload_n hx hb dL_law_1012 rfl (lv_at hl 0 rfl) ?_
  refine lv_iconst (v := 2) hx hb dL_law_1013 (by decide) ?_
  refine lv_iadd hx hb dL_law_1014 ?_
  refine va_sld hx hb hX hbl hbA hS (sc_in (by omega) t_2 (by omega) (by omega) (by omega)) dL_law_1015 ?_
  refine lv_aload_n hx hb dL_law_1016 rfl (lv_at hl 3 rfl) ?_
  refine lv_iload_n hx hb dL_law_1017 rfl (lv_at hl 0 rfl) ?_
  refine lv_iconst (v := 3) hx hb dL_law_1018 (by decide) ?_
  refine lv_iadd hx hb dL_law_1019 ?_
  refine va_sld hx hb hX hbl hbA hS (sc_in (by omega) t_3 (by omega) (by omega) (by omega)) dL_law_1020 ?_
  refine aftU_i (runMG (rest := []) (As := [.int (xs (i + 1).toNatClampNeg), .int (xs (i + 2).toNatClampNeg), .int (xs (i + 3).toNatClampNeg)]) hx hb hml hown htb (U_X8_order l D E qx (xs (i + 1).toNatClampNeg) (xs (i + 2).toNatClampNeg) (xs (i + 3).toNatClampNeg) _ zx hIx) ok_X8_order k_765 k_766 k_767 k_1 k_768 ⟨(Nat.le_of_ble_eq_true rfl), (Nat.le_of_ble_eq_true rfl)⟩ ⟨(show (123 + 5 * k) + 0 ≤ 600000 by omega), (show (44666 + 1604 * k) + 0 ≤ 7302250 by omega)⟩ hl.1 (Nat.le_of_ble_eq_true rfl) rfl rfl dL_law_1021 (pmU (List.Perm.refl _) hP hD hK (XW_c (lP hP)) rfl rfl 0 rfl)) (List.Perm.refl _) hP hD hS hA (fun r_1 zs_3 H locs hw_2 hP hD hS => ?_)
  obtain ⟨hIx, hw_2_0⟩ := hw_2
  refine lv_pop hx hb dL_law_1024 rfl ?_
  refine lv_aload_n hx hb dL_law_1025 rfl (lv_at hl 1 rfl) ?_
  refine lv_aload_n hx hb dL_law_1026 rfl (lv_at hl 3 rfl) ?_
  refine lv_iload_n hx hb dL_law_1027 rfl (lv_at hl 0 rfl) ?_
  refine lv_iconst (v := 1) hx hb dL_law_1028 (by decide) ?_
  refine lv_iadd hx hb dL_law_1029 ?_
  refine va_sld hx hb hX hbl hbA hS (sc_in (by omega) t_1 (by omega) (by omega) (by omega)) dL_law_1030 ?_
  refine lv_aload_n hx hb dL_law_1031 rfl (lv_at hl 3 rfl) ?_
  refine lv_iload_n hx hb dL_law_1032 rfl (lv_at hl 0 rfl) ?_
  refine lv_iconst (v := 2) hx hb dL_law_1033 (by decide) ?_
  refine lv_iadd hx hb dL_law_1034 ?_
  refine va_sld hx hb hX hbl hbA hS (sc_in (by omega) t_2 (by omega) (by omega) (by omega)) dL_law_1035 ?_
  refine lv_aload_n hx hb dL_law_1036 rfl (lv_at hl 3 rfl) ?_
  refine lv_iload_n hx hb dL_law_1037 rfl (lv_at hl 0 rfl) ?_
  refine lv_iconst (v := 3) hx hb dL_law_1038 (by decide) ?_
  refine lv_iadd hx hb dL_law_1039 ?_
  refine va_sld hx hb hX hbl hbA hS (sc_in (by omega) t_3 (by omega) (by omega) (by omega)) dL_law_1040 ?_
  refine aftU_i (runMG (rest := []) (As := [.int (xs (i + 1).toNatClampNeg), .int (xs (i + 2).toNatClampNeg), .int (xs (i + 3).toNatClampNeg)]) hx hb hml hown htb (U_X9_order l D E qm (xs (i + 1).toNatClampNeg) (xs (i + 2).toNatClampNeg) (xs (i + 3).toNatClampNeg) _ zm hIm) ok_X9_order k_1402 k_1403 k_1404 k_9 k_1405 ⟨(Nat.le_of_ble_eq_true rfl), (Nat.le_of_ble_eq_true rfl)⟩ ⟨(show (123 + 5 * k) + 0 + 0 ≤ 600000 by omega), (show (44666 + 1604 * k) + 0 + 0 ≤ 7302250 by omega)⟩ hl.1 (Nat.le_of_ble_eq_true rfl) rfl rfl dL_law_1041 (pmU List.perm_append_comm hP hD hK (rP hP) rfl rfl 0 rfl)) List.perm_append_comm hP hD hS hA (fun r_4 zs_6 H locs hw_5 hP hD hS => ?_)
  have hP := sw_P hP; have hD := sw_D hD
  obtain ⟨hIm, hw_5_0⟩ := hw_5
  refine lv_pop hx hb dL_law_1044 rfl ?_
  refine lv_goto (tgt := 1550) hx hb dL_law_1045 (by decide) ?_
  refine W.widen (k := (123 + 5 * k) + 5) (n := (44666 + 1604 * k) + 1604) (by omega) (by omega) ?_
  exact next zs_3 zs_6 _ _ _ ⟨hIx, hIm, (TR_kp hTR hw_2_0 (KP_X9_order hw_5_0) (KQ_X9_order hw_5_0))⟩ hP hD hS (lv_sub hl [0, 1, 2, 3] rfl)
set_option maxHeartbeats 4000000 in
set_option maxRecDepth 100000 in
theorem law_22 {p : Program} {l : Launch} {e : Env} {s : State} {m : MethodId} {below : List Frame} {meth : Method} {c : Code} {D : va_G} {E : Nat → Nat} {b L : Nat} {xs : Nat → Int32} (hx : p.tables.exec = Jvm.exec) (hb : c.code = code) (hr : meth.sig.returnType = ret) (hml : c.maxLocals = 4) (hown : s.vm.findClass R_law = some m.cls) (htb : ∀ w ∈ tb, w.before #[Value.ref b] s = true) (hK : KX D E s) (hG : SGs [((E 6), (E 8), 60, tw6), ((E 7), (E 9), 35, tw7)] (fun q : Nat => s.heap.size ≤ q) s s.heap) (hX : va_X b L xs s s.heap) (hL : L ≤ 3072) (hbl : b < s.heap.size) (hlocks : meth.locks = false) {qx qm k : Nat} {i : Int32} (hk : k ≤ 512) (hi : i.toInt = 6 * (k : Int)) (hiL : i.toInt + 6 ≤ (L : Int)) {zx : XS} {zm : MS} {H : Heap} {locs : List Loc} {ls : Array Slot} (hI : LI zx zm) (hP : va_P D vwCl (XW E qx zx ++ MW E qm zm) H) (hD : va_D (fun q : Nat => s.heap.size ≤ q) (XW E qx zx ++ MW E qm zm)) (hS : va_S (fun q : Nat => s.heap.size ≤ q) s.heap H locs) (hl : lv_has ls 4 [(3, .int i), (2, .ref qm), (1, .ref qx), (0, .ref b)]) (next : ∀ (zx : XS) (zm : MS) (H : Heap) (locs : List Loc) (ls : Array Slot), LI zx zm → va_P D vwCl (XW E qx zx ++ MW E qm zm) H → va_D (fun q : Nat => s.heap.size ≤ q) (XW E qx zx ++ MW E qm zm) → va_S (fun q : Nat => s.heap.size ≤ q) s.heap H locs → lv_has ls 4 [(3, .int i), (2, .ref qm), (1, .ref qx), (0, .ref b)] → W p l e room_1 s m #[Value.ref b] below meth c H locs ((123 + 5 * k) + 5) ((44666 + 1604 * k) + 1604) (lw_Z below #[Value.ref b] s) (F0 m 1550 ls [])) : W p l e room_1 s m #[Value.ref b] below meth c H locs (123 + 5 * k) (44666 + 1604 * k) (lw_Z below #[Value.ref b] s) (F0 m 1048 ls []) := by
  have hA : ∀ q : Nat, s.heap.size ≤ q → (fun q : Nat => s.heap.size ≤ q) q := fun _ h => h
  have hbA : ¬ (fun q : Nat => s.heap.size ≤ q) b := Nat.not_le.mpr hbl
  obtain ⟨hIx, hIm, hTR⟩ := hI
  have hI0 := hIx
  refine lv_aload_n hx hb dL_law_1048 rfl (lv_at hl 2 rfl) ?_
  refine lv_aload_n hx hb dL_law_1049 rfl (lv_at hl 3 rfl) ?_
  refine lv_iload_n hx hb dL_law_1050 rfl (lv_at hl 0 rfl) ?_
  refine lv_iconst (v := 1) hx hb dL_law_1051 (by decide) ?_
  refine lv_iadd hx hb dL_law_1052 ?_
  refine va_sld hx hb hX hbl hbA hS (sc_in (by omega) t_1 (by omega) (by omega) (by omega)) dL_law_1053 ?_
  refine lv_aload_n hx hb dL_law_1054 rfl (lv_at hl 3 rfl) ?_
  refine lv_iload_n hx hb dL_law_1055 rfl (lv_at hl 0 rfl) ?_
  refine lv_iconst (v := 2) hx hb dL_law_1056 (by decide) ?_
  refine lv_iadd hx hb dL_law_1057 ?_
  refine va_sld hx hb hX hbl hbA hS (sc_in (by omega) t_2 (by omega) (by omega) (by omega)) dL_law_1058 ?_
  refine lv_aload_n hx hb dL_law_1059 rfl (lv_at hl 3 rfl) ?_
  refine lv_iload_n hx hb dL_law_1060 rfl (lv_at hl 0 rfl) ?_
  refine lv_iconst (v := 3) hx hb dL_law_1061 (by decide) ?_
  refine lv_iadd hx hb dL_law_1062 ?_
  refine va_sld hx hb hX hbl hbA hS (sc_in (by omega) t_3 (by omega) (by omega) (by omega)) dL_law_1063 ?_
  refine lv_aload_n hx hb dL_law_1064 rfl (lv_at hl 3 rfl) ?_
  refine lv_iload_n hx hb dL_law_1065 rfl (lv_at hl 0 rfl) ?_
  refine lv_iconst (v := 4) hx hb dL_law_1066 (by decide) ?_
  refine lv_iadd hx hb dL_law_1067 ?_
  refine va_sld hx hb hX hbl hbA hS (sc_in (by omega) t_4 (by omega) (by omega) (by omega)) dL_law_1068 ?_
  refine aftU_i (runMG (rest := []) (As := [.int (xs (i + 1).toNatClampNeg), .int (xs (i + 2).toNatClampNeg), .int (xs (i + 3).toNatClampNeg), .int (xs (i + 4).toNatClampNeg)]) hx hb hml hown htb (U_X8_sail l D E qx (xs (i + 1).toNatClampNeg) (xs (i + 2).toNatClampNeg) (xs (i + 3).toNatClampNeg) (xs (i + 4).toNatClampNeg) _ zx hIx) ok_X8_sail k_769 k_770 k_771 k_1 k_772 ⟨(Nat.le_of_ble_eq_true rfl), (Nat.le_of_ble_eq_true rfl)⟩ ⟨(show (123 + 5 * k) + 0 ≤ 600000 by omega), (show (44666 + 1604 * k) + 0 ≤ 7302250 by omega)⟩ hl.1 (Nat.le_of_ble_eq_true rfl) rfl rfl dL_law_1069 (pmU (List.Perm.refl _) hP hD hK (XW_c (lP hP)) rfl rfl 0 rfl)) (List.Perm.refl _) hP hD hS hA (fun r_1 zs_3 H locs hw_2 hP hD hS => ?_)
  obtain ⟨hIx, hw_2_0⟩ := hw_2
  refine lv_pop hx hb dL_law_1072 rfl ?_
  refine lv_aload_n hx hb dL_law_1073 rfl (lv_at hl 1 rfl) ?_
  refine lv_aload_n hx hb dL_law_1074 rfl (lv_at hl 3 rfl) ?_
  refine lv_iload_n hx hb dL_law_1075 rfl (lv_at hl 0 rfl) ?_
  refine lv_iconst (v := 1) hx hb dL_law_1076 (by decide) ?_
  refine lv_iadd hx hb dL_law_1077 ?_
  refine va_sld hx hb hX hbl hbA hS (sc_in (by omega) t_1 (by omega) (by omega) (by omega)) dL_law_1078 ?_
  refine lv_aload_n hx hb dL_law_1079 rfl (lv_at hl 3 rfl) ?_
  refine lv_iload_n hx hb dL_law_1080 rfl (lv_at hl 0 rfl) ?_
  refine lv_iconst (v := 2) hx hb dL_law_1081 (by decide) ?_
  refine lv_iadd hx hb dL_law_1082 ?_
  refine va_sld hx hb hX hbl hbA hS (sc_in (by omega) t_2 (by omega) (by omega) (by omega)) dL_law_1083 ?_
  refine lv_aload_n hx hb dL_law_1084 rfl (lv_at hl 3 rfl) ?_
  refine lv_iload_n hx hb dL_law_1085 rfl (lv_at hl 0 rfl) ?_
  refine lv_iconst (v := 3) hx hb dL_law_1086 (by decide) ?_
  refine lv_iadd hx hb dL_law_1087 ?_
  refine va_sld hx hb hX hbl hbA hS (sc_in (by omega) t_3 (by omega) (by omega) (by omega)) dL_law_1088 ?_
  refine lv_aload_n hx hb dL_law_1089 rfl (lv_at hl 3 rfl) ?_
  refine lv_iload_n hx hb dL_law_1090 rfl (lv_at hl 0 rfl) ?_
  refine lv_iconst (v := 4) hx hb dL_law_1091 (by decide) ?_
  refine lv_iadd hx hb dL_law_1092 ?_
  refine va_sld hx hb hX hbl hbA hS (sc_in (by omega) t_4 (by omega) (by omega) (by omega)) dL_law_1093 ?_
  refine aftU_i (runMG (rest := []) (As := [.int (xs (i + 1).toNatClampNeg), .int (xs (i + 2).toNatClampNeg), .int (xs (i + 3).toNatClampNeg), .int (xs (i + 4).toNatClampNeg)]) hx hb hml hown htb (U_X9_sail l D E qm (xs (i + 1).toNatClampNeg) (xs (i + 2).toNatClampNeg) (xs (i + 3).toNatClampNeg) (xs (i + 4).toNatClampNeg) _ zm hIm) ok_X9_sail k_1410 k_1411 k_1412 k_9 k_1413 ⟨(Nat.le_of_ble_eq_true rfl), (Nat.le_of_ble_eq_true rfl)⟩ ⟨(show (123 + 5 * k) + 0 + 0 ≤ 600000 by omega), (show (44666 + 1604 * k) + 0 + 0 ≤ 7302250 by omega)⟩ hl.1 (Nat.le_of_ble_eq_true rfl) rfl rfl dL_law_1094 (pmU List.perm_append_comm hP hD hK (rP hP) rfl rfl 0 rfl)) List.perm_append_comm hP hD hS hA (fun r_4 zs_6 H locs hw_5 hP hD hS => ?_)
  have hP := sw_P hP; have hD := sw_D hD
  obtain ⟨hIm, hw_5_0⟩ := hw_5
  refine lv_pop hx hb dL_law_1097 rfl ?_
  refine lv_goto (tgt := 1550) hx hb dL_law_1098 (by decide) ?_
  refine W.widen (k := (123 + 5 * k) + 5) (n := (44666 + 1604 * k) + 1604) (by omega) (by omega) ?_
  exact next zs_3 zs_6 _ _ _ ⟨hIx, hIm, (ST_sail hI0 hTR hw_2_0 hw_5_0)⟩ hP hD hS (lv_sub hl [0, 1, 2, 3] rfl)
set_option maxHeartbeats 4000000 in
set_option maxRecDepth 100000 in
theorem law_23 {p : Program} {l : Launch} {e : Env} {s : State} {m : MethodId} {below : List Frame} {meth : Method} {c : Code} {D : va_G} {E : Nat → Nat} {b L : Nat} {xs : Nat → Int32} (hx : p.tables.exec = Jvm.exec) (hb : c.code = code) (hr : meth.sig.returnType = ret) (hml : c.maxLocals = 4) (hown : s.vm.findClass R_law = some m.cls) (htb : ∀ w ∈ tb, w.before #[Value.ref b] s = true) (hK : KX D E s) (hG : SGs [((E 6), (E 8), 60, tw6), ((E 7), (E 9), 35, tw7)] (fun q : Nat => s.heap.size ≤ q) s s.heap) (hX : va_X b L xs s s.heap) (hL : L ≤ 3072) (hbl : b < s.heap.size) (hlocks : meth.locks = false) {qx qm k : Nat} {i : Int32} (hk : k ≤ 512) (hi : i.toInt = 6 * (k : Int)) (hiL : i.toInt + 6 ≤ (L : Int)) {zx : XS} {zm : MS} {H : Heap} {locs : List Loc} {ls : Array Slot} (hI : LI zx zm) (hP : va_P D vwCl (XW E qx zx ++ MW E qm zm) H) (hD : va_D (fun q : Nat => s.heap.size ≤ q) (XW E qx zx ++ MW E qm zm)) (hS : va_S (fun q : Nat => s.heap.size ≤ q) s.heap H locs) (hl : lv_has ls 4 [(3, .int i), (2, .ref qm), (1, .ref qx), (0, .ref b)]) (next : ∀ (zx : XS) (zm : MS) (H : Heap) (locs : List Loc) (ls : Array Slot), LI zx zm → va_P D vwCl (XW E qx zx ++ MW E qm zm) H → va_D (fun q : Nat => s.heap.size ≤ q) (XW E qx zx ++ MW E qm zm) → va_S (fun q : Nat => s.heap.size ≤ q) s.heap H locs → lv_has ls 4 [(3, .int i), (2, .ref qm), (1, .ref qx), (0, .ref b)] → W p l e room_1 s m #[Value.ref b] below meth c H locs ((123 + 5 * k) + 5) ((44666 + 1604 * k) + 1604) (lw_Z below #[Value.ref b] s) (F0 m 1550 ls [])) : W p l e room_1 s m #[Value.ref b] below meth c H locs (123 + 5 * k) (44666 + 1604 * k) (lw_Z below #[Value.ref b] s) (F0 m 1101 ls []) := by
  have hA : ∀ q : Nat, s.heap.size ≤ q → (fun q : Nat => s.heap.size ≤ q) q := fun _ h => h
  have hbA : ¬ (fun q : Nat => s.heap.size ≤ q) b := Nat.not_le.mpr hbl
  obtain ⟨hIx, hIm, hTR⟩ := hI
  have hI0 := hIx
  refine lv_aload_n hx hb dL_law_1101 rfl (lv_at hl 2 rfl) ?_
  refine lv_aload_n hx hb dL_law_1102 rfl (lv_at hl 3 rfl) ?_
  refine lv_iload_n hx hb dL_law_1103 rfl (lv_at hl 0 rfl) ?_
  refine lv_iconst (v := 1) hx hb dL_law_1104 (by decide) ?_
  refine lv_iadd hx hb dL_law_1105 ?_
  refine va_sld hx hb hX hbl hbA hS (sc_in (by omega) t_1 (by omega) (by omega) (by omega)) dL_law_1106 ?_
  refine lv_aload_n hx hb dL_law_1107 rfl (lv_at hl 3 rfl) ?_
  refine lv_iload_n hx hb dL_law_1108 rfl (lv_at hl 0 rfl) ?_
  refine lv_iconst (v := 2) hx hb dL_law_1109 (by decide) ?_
  refine lv_iadd hx hb dL_law_1110 ?_
  refine va_sld hx hb hX hbl hbA hS (sc_in (by omega) t_2 (by omega) (by omega) (by omega)) dL_law_1111 ?_
  refine lv_aload_n hx hb dL_law_1112 rfl (lv_at hl 3 rfl) ?_
  refine lv_iload_n hx hb dL_law_1113 rfl (lv_at hl 0 rfl) ?_
  refine lv_iconst (v := 3) hx hb dL_law_1114 (by decide) ?_
  refine lv_iadd hx hb dL_law_1115 ?_
  refine va_sld hx hb hX hbl hbA hS (sc_in (by omega) t_3 (by omega) (by omega) (by omega)) dL_law_1116 ?_
  refine aftU_i (runMG (rest := []) (As := [.int (xs (i + 1).toNatClampNeg), .int (xs (i + 2).toNatClampNeg), .int (xs (i + 3).toNatClampNeg)]) hx hb hml hown htb (U_X8_carried l D E qx (xs (i + 1).toNatClampNeg) (xs (i + 2).toNatClampNeg) (xs (i + 3).toNatClampNeg) _ zx hIx) ok_X8_carried k_808 k_809 k_810 k_1 k_811 ⟨(Nat.le_of_ble_eq_true rfl), (Nat.le_of_ble_eq_true rfl)⟩ ⟨(show (123 + 5 * k) + 0 ≤ 600000 by omega), (show (44666 + 1604 * k) + 0 ≤ 7302250 by omega)⟩ hl.1 (Nat.le_of_ble_eq_true rfl) rfl rfl dL_law_1117 (pmU (List.Perm.refl _) hP hD hK (XW_c (lP hP)) rfl rfl 0 rfl)) (List.Perm.refl _) hP hD hS hA (fun r_1 zs_3 H locs hw_2 hP hD hS => ?_)
  obtain ⟨hIx, hw_2_0⟩ := hw_2
  refine lv_aload_n hx hb dL_law_1120 rfl (lv_at hl 1 rfl) ?_
  refine lv_aload_n hx hb dL_law_1121 rfl (lv_at hl 3 rfl) ?_
  refine lv_iload_n hx hb dL_law_1122 rfl (lv_at hl 0 rfl) ?_
  refine lv_iconst (v := 1) hx hb dL_law_1123 (by decide) ?_
  refine lv_iadd hx hb dL_law_1124 ?_
  refine va_sld hx hb hX hbl hbA hS (sc_in (by omega) t_1 (by omega) (by omega) (by omega)) dL_law_1125 ?_
  refine lv_aload_n hx hb dL_law_1126 rfl (lv_at hl 3 rfl) ?_
  refine lv_iload_n hx hb dL_law_1127 rfl (lv_at hl 0 rfl) ?_
  refine lv_iconst (v := 2) hx hb dL_law_1128 (by decide) ?_
  refine lv_iadd hx hb dL_law_1129 ?_
  refine va_sld hx hb hX hbl hbA hS (sc_in (by omega) t_2 (by omega) (by omega) (by omega)) dL_law_1130 ?_
  refine lv_aload_n hx hb dL_law_1131 rfl (lv_at hl 3 rfl) ?_
  refine lv_iload_n hx hb dL_law_1132 rfl (lv_at hl 0 rfl) ?_
  refine lv_iconst (v := 3) hx hb dL_law_1133 (by decide) ?_
  refine lv_iadd hx hb dL_law_1134 ?_
  refine va_sld hx hb hX hbl hbA hS (sc_in (by omega) t_3 (by omega) (by omega) (by omega)) dL_law_1135 ?_
  refine aftU_i (runMG (rest := [.int r_1]) (As := [.int (xs (i + 1).toNatClampNeg), .int (xs (i + 2).toNatClampNeg), .int (xs (i + 3).toNatClampNeg)]) hx hb hml hown htb (U_X9_carried l D E qm (xs (i + 1).toNatClampNeg) (xs (i + 2).toNatClampNeg) (xs (i + 3).toNatClampNeg) _ zm hIm) ok_X9_carried k_1425 k_1426 k_1427 k_9 k_1428 ⟨(Nat.le_of_ble_eq_true rfl), (Nat.le_of_ble_eq_true rfl)⟩ ⟨(show (123 + 5 * k) + 0 + 0 ≤ 600000 by omega), (show (44666 + 1604 * k) + 0 + 0 ≤ 7302250 by omega)⟩ hl.1 (Nat.le_of_ble_eq_true rfl) rfl rfl dL_law_1136 (pmU List.perm_append_comm hP hD hK (rP hP) rfl rfl 0 rfl)) List.perm_append_comm hP hD hS hA (fun r_4 zs_6 H locs hw_5 hP hD hS => ?_)
  have hP := sw_P hP; have hD := sw_D hD
  obtain ⟨hIm, hw_5_0⟩ := hw_5
  have heq_7 : r_1 = r_4 := AN_carried hI0 hTR hw_2_0 hw_5_0
  refine lv_icmp_eq (tgt := 1550) hx hb dL_law_1139 (by decide) (fun _ => ?_) (fun h9 => absurd heq_7 h9)
  refine W.widen (k := (123 + 5 * k) + 5) (n := (44666 + 1604 * k) + 1604) (by omega) (by omega) ?_
  exact next zs_3 zs_6 _ _ _ ⟨hIx, hIm, (TR_kp hTR (KP_X8_carried hw_2_0) (KP_X9_carried hw_5_0) (KQ_X9_carried hw_5_0))⟩ hP hD hS (lv_sub hl [0, 1, 2, 3] rfl)
set_option maxHeartbeats 4000000 in
set_option maxRecDepth 100000 in
theorem law_24 {p : Program} {l : Launch} {e : Env} {s : State} {m : MethodId} {below : List Frame} {meth : Method} {c : Code} {D : va_G} {E : Nat → Nat} {b L : Nat} {xs : Nat → Int32} (hx : p.tables.exec = Jvm.exec) (hb : c.code = code) (hr : meth.sig.returnType = ret) (hml : c.maxLocals = 4) (hown : s.vm.findClass R_law = some m.cls) (htb : ∀ w ∈ tb, w.before #[Value.ref b] s = true) (hK : KX D E s) (hG : SGs [((E 6), (E 8), 60, tw6), ((E 7), (E 9), 35, tw7)] (fun q : Nat => s.heap.size ≤ q) s s.heap) (hX : va_X b L xs s s.heap) (hL : L ≤ 3072) (hbl : b < s.heap.size) (hlocks : meth.locks = false) {qx qm k : Nat} {i : Int32} (hk : k ≤ 512) (hi : i.toInt = 6 * (k : Int)) (hiL : i.toInt + 6 ≤ (L : Int)) {zx : XS} {zm : MS} {H : Heap} {locs : List Loc} {ls : Array Slot} (hI : LI zx zm) (hP : va_P D vwCl (XW E qx zx ++ MW E qm zm) H) (hD : va_D (fun q : Nat => s.heap.size ≤ q) (XW E qx zx ++ MW E qm zm)) (hS : va_S (fun q : Nat => s.heap.size ≤ q) s.heap H locs) (hl : lv_has ls 4 [(3, .int i), (2, .ref qm), (1, .ref qx), (0, .ref b)]) (next : ∀ (zx : XS) (zm : MS) (H : Heap) (locs : List Loc) (ls : Array Slot), LI zx zm → va_P D vwCl (XW E qx zx ++ MW E qm zm) H → va_D (fun q : Nat => s.heap.size ≤ q) (XW E qx zx ++ MW E qm zm) → va_S (fun q : Nat => s.heap.size ≤ q) s.heap H locs → lv_has ls 4 [(3, .int i), (2, .ref qm), (1, .ref qx), (0, .ref b)] → W p l e room_1 s m #[Value.ref b] below meth c H locs ((123 + 5 * k) + 5) ((44666 + 1604 * k) + 1604) (lw_Z below #[Value.ref b] s) (F0 m 1550 ls [])) : W p l e room_1 s m #[Value.ref b] below meth c H locs (123 + 5 * k) (44666 + 1604 * k) (lw_Z below #[Value.ref b] s) (F0 m 1144 ls []) := by
  have hA : ∀ q : Nat, s.heap.size ≤ q → (fun q : Nat => s.heap.size ≤ q) q := fun _ h => h
  have hbA : ¬ (fun q : Nat => s.heap.size ≤ q) b := Nat.not_le.mpr hbl
  obtain ⟨hIx, hIm, hTR⟩ := hI
  have hI0 := hIx
  refine lv_aload_n hx hb dL_law_1144 rfl (lv_at hl 2 rfl) ?_
  refine lv_aload_n hx hb dL_law_1145 rfl (lv_at hl 3 rfl) ?_
  refine lv_iload_n hx hb dL_law_1146 rfl (lv_at hl 0 rfl) ?_
  refine lv_iconst (v := 1) hx hb dL_law_1147 (by decide) ?_
  refine lv_iadd hx hb dL_law_1148 ?_
  refine va_sld hx hb hX hbl hbA hS (sc_in (by omega) t_1 (by omega) (by omega) (by omega)) dL_law_1149 ?_
  refine lv_aload_n hx hb dL_law_1150 rfl (lv_at hl 3 rfl) ?_
  refine lv_iload_n hx hb dL_law_1151 rfl (lv_at hl 0 rfl) ?_
  refine lv_iconst (v := 2) hx hb dL_law_1152 (by decide) ?_
  refine lv_iadd hx hb dL_law_1153 ?_
  refine va_sld hx hb hX hbl hbA hS (sc_in (by omega) t_2 (by omega) (by omega) (by omega)) dL_law_1154 ?_
  refine lv_aload_n hx hb dL_law_1155 rfl (lv_at hl 3 rfl) ?_
  refine lv_iload_n hx hb dL_law_1156 rfl (lv_at hl 0 rfl) ?_
  refine lv_iconst (v := 3) hx hb dL_law_1157 (by decide) ?_
  refine lv_iadd hx hb dL_law_1158 ?_
  refine va_sld hx hb hX hbl hbA hS (sc_in (by omega) t_3 (by omega) (by omega) (by omega)) dL_law_1159 ?_
  refine lv_aload_n hx hb dL_law_1160 rfl (lv_at hl 3 rfl) ?_
  refine lv_iload_n hx hb dL_law_1161 rfl (lv_at hl 0 rfl) ?_
  refine lv_iconst (v := 4) hx hb dL_law_1162 (by decide) ?_
  refine lv_iadd hx hb dL_law_1163 ?_
  refine va_sld hx hb hX hbl hbA hS (sc_in (by omega) t_4 (by omega) (by omega) (by omega)) dL_law_1164 ?_
  refine lv_aload_n hx hb dL_law_1165 rfl (lv_at hl 3 rfl) ?_
  refine lv_iload_n hx hb dL_law_1166 rfl (lv_at hl 0 rfl) ?_
  refine lv_iconst (v := 5) hx hb dL_law_1167 (by decide) ?_
  refine lv_iadd hx hb dL_law_1168 ?_
  refine va_sld hx hb hX hbl hbA hS (sc_in (by omega) t_5 (by omega) (by omega) (by omega)) dL_law_1169 ?_
  refine aftU_i (runMG (rest := []) (As := [.int (xs (i + 1).toNatClampNeg), .int (xs (i + 2).toNatClampNeg), .int (xs (i + 3).toNatClampNeg), .int (xs (i + 4).toNatClampNeg), .int (xs (i + 5).toNatClampNeg)]) hx hb hml hown htb (U_X8_sight l D E qx (xs (i + 1).toNatClampNeg) (xs (i + 2).toNatClampNeg) (xs (i + 3).toNatClampNeg) (xs (i + 4).toNatClampNeg) (xs (i + 5).toNatClampNeg) _ zx hIx) ok_X8_sight k_812 k_813 k_814 k_1 k_815 ⟨(Nat.le_of_ble_eq_true rfl), (Nat.le_of_ble_eq_true rfl)⟩ ⟨(show (123 + 5 * k) + 0 ≤ 600000 by omega), (show (44666 + 1604 * k) + 0 ≤ 7302250 by omega)⟩ hl.1 (Nat.le_of_ble_eq_true rfl) rfl rfl dL_law_1170 (pmU (List.Perm.refl _) hP hD hK (XW_c (lP hP)) rfl rfl 0 rfl)) (List.Perm.refl _) hP hD hS hA (fun r_1 zs_3 H locs hw_2 hP hD hS => ?_)
  obtain ⟨hIx, hw_2_0⟩ := hw_2
  refine lv_pop hx hb dL_law_1173 rfl ?_
  refine lv_aload_n hx hb dL_law_1174 rfl (lv_at hl 1 rfl) ?_
  refine lv_aload_n hx hb dL_law_1175 rfl (lv_at hl 3 rfl) ?_
  refine lv_iload_n hx hb dL_law_1176 rfl (lv_at hl 0 rfl) ?_
  refine lv_iconst (v := 1) hx hb dL_law_1177 (by decide) ?_
  refine lv_iadd hx hb dL_law_1178 ?_
  refine va_sld hx hb hX hbl hbA hS (sc_in (by omega) t_1 (by omega) (by omega) (by omega)) dL_law_1179 ?_
  refine lv_aload_n hx hb dL_law_1180 rfl (lv_at hl 3 rfl) ?_
  refine lv_iload_n hx hb dL_law_1181 rfl (lv_at hl 0 rfl) ?_
  refine lv_iconst (v := 2) hx hb dL_law_1182 (by decide) ?_
  refine lv_iadd hx hb dL_law_1183 ?_
  refine va_sld hx hb hX hbl hbA hS (sc_in (by omega) t_2 (by omega) (by omega) (by omega)) dL_law_1184 ?_
  refine lv_aload_n hx hb dL_law_1185 rfl (lv_at hl 3 rfl) ?_
  refine lv_iload_n hx hb dL_law_1186 rfl (lv_at hl 0 rfl) ?_
  refine lv_iconst (v := 3) hx hb dL_law_1187 (by decide) ?_
  refine lv_iadd hx hb dL_law_1188 ?_
  refine va_sld hx hb hX hbl hbA hS (sc_in (by omega) t_3 (by omega) (by omega) (by omega)) dL_law_1189 ?_
  refine lv_aload_n hx hb dL_law_1190 rfl (lv_at hl 3 rfl) ?_
  refine lv_iload_n hx hb dL_law_1191 rfl (lv_at hl 0 rfl) ?_
  refine lv_iconst (v := 4) hx hb dL_law_1192 (by decide) ?_
  refine lv_iadd hx hb dL_law_1193 ?_
  refine va_sld hx hb hX hbl hbA hS (sc_in (by omega) t_4 (by omega) (by omega) (by omega)) dL_law_1194 ?_
  refine lv_aload_n hx hb dL_law_1195 rfl (lv_at hl 3 rfl) ?_
  refine lv_iload_n hx hb dL_law_1196 rfl (lv_at hl 0 rfl) ?_
  refine lv_iconst (v := 5) hx hb dL_law_1197 (by decide) ?_
  refine lv_iadd hx hb dL_law_1198 ?_
  refine va_sld hx hb hX hbl hbA hS (sc_in (by omega) t_5 (by omega) (by omega) (by omega)) dL_law_1199 ?_
  refine aftU_i (runMG (rest := []) (As := [.int (xs (i + 1).toNatClampNeg), .int (xs (i + 2).toNatClampNeg), .int (xs (i + 3).toNatClampNeg), .int (xs (i + 4).toNatClampNeg), .int (xs (i + 5).toNatClampNeg)]) hx hb hml hown htb (U_X9_sight l D E qm (xs (i + 1).toNatClampNeg) (xs (i + 2).toNatClampNeg) (xs (i + 3).toNatClampNeg) (xs (i + 4).toNatClampNeg) (xs (i + 5).toNatClampNeg) _ zm hIm) ok_X9_sight k_1429 k_1430 k_1431 k_9 k_1432 ⟨(Nat.le_of_ble_eq_true rfl), (Nat.le_of_ble_eq_true rfl)⟩ ⟨(show (123 + 5 * k) + 0 + 0 ≤ 600000 by omega), (show (44666 + 1604 * k) + 0 + 0 ≤ 7302250 by omega)⟩ hl.1 (Nat.le_of_ble_eq_true rfl) rfl rfl dL_law_1200 (pmU List.perm_append_comm hP hD hK (rP hP) rfl rfl 0 rfl)) List.perm_append_comm hP hD hS hA (fun r_4 zs_6 H locs hw_5 hP hD hS => ?_)
  have hP := sw_P hP; have hD := sw_D hD
  obtain ⟨hIm, hw_5_0⟩ := hw_5
  refine lv_pop hx hb dL_law_1203 rfl ?_
  refine lv_goto (tgt := 1550) hx hb dL_law_1204 (by decide) ?_
  refine W.widen (k := (123 + 5 * k) + 5) (n := (44666 + 1604 * k) + 1604) (by omega) (by omega) ?_
  exact next zs_3 zs_6 _ _ _ ⟨hIx, hIm, (ST_sight hI0 hTR hw_2_0 hw_5_0)⟩ hP hD hS (lv_sub hl [0, 1, 2, 3] rfl)
set_option maxHeartbeats 4000000 in
set_option maxRecDepth 100000 in
theorem law_25 {p : Program} {l : Launch} {e : Env} {s : State} {m : MethodId} {below : List Frame} {meth : Method} {c : Code} {D : va_G} {E : Nat → Nat} {b L : Nat} {xs : Nat → Int32} (hx : p.tables.exec = Jvm.exec) (hb : c.code = code) (hr : meth.sig.returnType = ret) (hml : c.maxLocals = 4) (hown : s.vm.findClass R_law = some m.cls) (htb : ∀ w ∈ tb, w.before #[Value.ref b] s = true) (hK : KX D E s) (hG : SGs [((E 6), (E 8), 60, tw6), ((E 7), (E 9), 35, tw7)] (fun q : Nat => s.heap.size ≤ q) s s.heap) (hX : va_X b L xs s s.heap) (hL : L ≤ 3072) (hbl : b < s.heap.size) (hlocks : meth.locks = false) {qx qm k : Nat} {i : Int32} (hk : k ≤ 512) (hi : i.toInt = 6 * (k : Int)) (hiL : i.toInt + 6 ≤ (L : Int)) {zx : XS} {zm : MS} {H : Heap} {locs : List Loc} {ls : Array Slot} (hI : LI zx zm) (hP : va_P D vwCl (XW E qx zx ++ MW E qm zm) H) (hD : va_D (fun q : Nat => s.heap.size ≤ q) (XW E qx zx ++ MW E qm zm)) (hS : va_S (fun q : Nat => s.heap.size ≤ q) s.heap H locs) (hl : lv_has ls 4 [(3, .int i), (2, .ref qm), (1, .ref qx), (0, .ref b)]) (next : ∀ (zx : XS) (zm : MS) (H : Heap) (locs : List Loc) (ls : Array Slot), LI zx zm → va_P D vwCl (XW E qx zx ++ MW E qm zm) H → va_D (fun q : Nat => s.heap.size ≤ q) (XW E qx zx ++ MW E qm zm) → va_S (fun q : Nat => s.heap.size ≤ q) s.heap H locs → lv_has ls 4 [(3, .int i), (2, .ref qm), (1, .ref qx), (0, .ref b)] → W p l e room_1 s m #[Value.ref b] below meth c H locs ((123 + 5 * k) + 5) ((44666 + 1604 * k) + 1604) (lw_Z below #[Value.ref b] s) (F0 m 1550 ls [])) : W p l e room_1 s m #[Value.ref b] below meth c H locs (123 + 5 * k) (44666 + 1604 * k) (lw_Z below #[Value.ref b] s) (F0 m 1207 ls []) := by
  have hA : ∀ q : Nat, s.heap.size ≤ q → (fun q : Nat => s.heap.size ≤ q) q := fun _ h => h
  have hbA : ¬ (fun q : Nat => s.heap.size ≤ q) b := Nat.not_le.mpr hbl
  obtain ⟨hIx, hIm, hTR⟩ := hI
  have hI0 := hIx
  refine lv_aload_n hx hb dL_law_1207 rfl (lv_at hl 2 rfl) ?_
  refine lv_aload_n hx hb dL_law_1208 rfl (lv_at hl 3 rfl) ?_
  refine lv_iload_n hx hb dL_law_1209 rfl (lv_at hl 0 rfl) ?_
  refine lv_iconst (v := 1) hx hb dL_law_1210 (by decide) ?_
  refine lv_iadd hx hb dL_law_1211 ?_
  refine va_sld hx hb hX hbl hbA hS (sc_in (by omega) t_1 (by omega) (by omega) (by omega)) dL_law_1212 ?_
  refine lv_aload_n hx hb dL_law_1213 rfl (lv_at hl 3 rfl) ?_
  refine lv_iload_n hx hb dL_law_1214 rfl (lv_at hl 0 rfl) ?_
  refine lv_iconst (v := 2) hx hb dL_law_1215 (by decide) ?_
  refine lv_iadd hx hb dL_law_1216 ?_
  refine va_sld hx hb hX hbl hbA hS (sc_in (by omega) t_2 (by omega) (by omega) (by omega)) dL_law_1217 ?_
  refine lv_aload_n hx hb dL_law_1218 rfl (lv_at hl 3 rfl) ?_
  refine lv_iload_n hx hb dL_law_1219 rfl (lv_at hl 0 rfl) ?_
  refine lv_iconst (v := 3) hx hb dL_law_1220 (by decide) ?_
  refine lv_iadd hx hb dL_law_1221 ?_
  refine va_sld hx hb hX hbl hbA hS (sc_in (by omega) t_3 (by omega) (by omega) (by omega)) dL_law_1222 ?_
  refine aftU_i (runMG (rest := []) (As := [.int (xs (i + 1).toNatClampNeg), .int (xs (i + 2).toNatClampNeg), .int (xs (i + 3).toNatClampNeg)]) hx hb hml hown htb (U_X8_told l D E qx (xs (i + 1).toNatClampNeg) (xs (i + 2).toNatClampNeg) (xs (i + 3).toNatClampNeg) _ zx hIx) ok_X8_told k_825 k_826 k_827 k_1 k_828 ⟨(Nat.le_of_ble_eq_true rfl), (Nat.le_of_ble_eq_true rfl)⟩ ⟨(show (123 + 5 * k) + 0 ≤ 600000 by omega), (show (44666 + 1604 * k) + 0 ≤ 7302250 by omega)⟩ hl.1 (Nat.le_of_ble_eq_true rfl) rfl rfl dL_law_1223 (pmU (List.Perm.refl _) hP hD hK (XW_c (lP hP)) rfl rfl 0 rfl)) (List.Perm.refl _) hP hD hS hA (fun r_1 zs_3 H locs hw_2 hP hD hS => ?_)
  obtain ⟨hIx, hw_2_0⟩ := hw_2
  refine lv_pop hx hb dL_law_1226 rfl ?_
  refine lv_aload_n hx hb dL_law_1227 rfl (lv_at hl 1 rfl) ?_
  refine lv_aload_n hx hb dL_law_1228 rfl (lv_at hl 3 rfl) ?_
  refine lv_iload_n hx hb dL_law_1229 rfl (lv_at hl 0 rfl) ?_
  refine lv_iconst (v := 1) hx hb dL_law_1230 (by decide) ?_
  refine lv_iadd hx hb dL_law_1231 ?_
  refine va_sld hx hb hX hbl hbA hS (sc_in (by omega) t_1 (by omega) (by omega) (by omega)) dL_law_1232 ?_
  refine lv_aload_n hx hb dL_law_1233 rfl (lv_at hl 3 rfl) ?_
  refine lv_iload_n hx hb dL_law_1234 rfl (lv_at hl 0 rfl) ?_
  refine lv_iconst (v := 2) hx hb dL_law_1235 (by decide) ?_
  refine lv_iadd hx hb dL_law_1236 ?_
  refine va_sld hx hb hX hbl hbA hS (sc_in (by omega) t_2 (by omega) (by omega) (by omega)) dL_law_1237 ?_
  refine lv_aload_n hx hb dL_law_1238 rfl (lv_at hl 3 rfl) ?_
  refine lv_iload_n hx hb dL_law_1239 rfl (lv_at hl 0 rfl) ?_
  refine lv_iconst (v := 3) hx hb dL_law_1240 (by decide) ?_
  refine lv_iadd hx hb dL_law_1241 ?_
  refine va_sld hx hb hX hbl hbA hS (sc_in (by omega) t_3 (by omega) (by omega) (by omega)) dL_law_1242 ?_
  refine aftU_i (runMG (rest := []) (As := [.int (xs (i + 1).toNatClampNeg), .int (xs (i + 2).toNatClampNeg), .int (xs (i + 3).toNatClampNeg)]) hx hb hml hown htb (U_X9_told l D E qm (xs (i + 1).toNatClampNeg) (xs (i + 2).toNatClampNeg) (xs (i + 3).toNatClampNeg) _ zm hIm) ok_X9_told k_1438 k_1439 k_1440 k_9 k_1441 ⟨(Nat.le_of_ble_eq_true rfl), (Nat.le_of_ble_eq_true rfl)⟩ ⟨(show (123 + 5 * k) + 0 + 0 ≤ 600000 by omega), (show (44666 + 1604 * k) + 0 + 0 ≤ 7302250 by omega)⟩ hl.1 (Nat.le_of_ble_eq_true rfl) rfl rfl dL_law_1243 (pmU List.perm_append_comm hP hD hK (rP hP) rfl rfl 0 rfl)) List.perm_append_comm hP hD hS hA (fun r_4 zs_6 H locs hw_5 hP hD hS => ?_)
  have hP := sw_P hP; have hD := sw_D hD
  obtain ⟨hIm, hw_5_0⟩ := hw_5
  refine lv_pop hx hb dL_law_1246 rfl ?_
  refine lv_goto (tgt := 1550) hx hb dL_law_1247 (by decide) ?_
  refine W.widen (k := (123 + 5 * k) + 5) (n := (44666 + 1604 * k) + 1604) (by omega) (by omega) ?_
  exact next zs_3 zs_6 _ _ _ ⟨hIx, hIm, (TR_kp hTR (KP_X8_told hw_2_0) (KP_X9_told hw_5_0) (KQ_X9_told hw_5_0))⟩ hP hD hS (lv_sub hl [0, 1, 2, 3] rfl)
set_option maxHeartbeats 4000000 in
set_option maxRecDepth 100000 in
theorem law_26 {p : Program} {l : Launch} {e : Env} {s : State} {m : MethodId} {below : List Frame} {meth : Method} {c : Code} {D : va_G} {E : Nat → Nat} {b L : Nat} {xs : Nat → Int32} (hx : p.tables.exec = Jvm.exec) (hb : c.code = code) (hr : meth.sig.returnType = ret) (hml : c.maxLocals = 4) (hown : s.vm.findClass R_law = some m.cls) (htb : ∀ w ∈ tb, w.before #[Value.ref b] s = true) (hK : KX D E s) (hG : SGs [((E 6), (E 8), 60, tw6), ((E 7), (E 9), 35, tw7)] (fun q : Nat => s.heap.size ≤ q) s s.heap) (hX : va_X b L xs s s.heap) (hL : L ≤ 3072) (hbl : b < s.heap.size) (hlocks : meth.locks = false) {qx qm k : Nat} {i : Int32} (hk : k ≤ 512) (hi : i.toInt = 6 * (k : Int)) (hiL : i.toInt + 6 ≤ (L : Int)) {zx : XS} {zm : MS} {H : Heap} {locs : List Loc} {ls : Array Slot} (hI : LI zx zm) (hP : va_P D vwCl (XW E qx zx ++ MW E qm zm) H) (hD : va_D (fun q : Nat => s.heap.size ≤ q) (XW E qx zx ++ MW E qm zm)) (hS : va_S (fun q : Nat => s.heap.size ≤ q) s.heap H locs) (hl : lv_has ls 4 [(3, .int i), (2, .ref qm), (1, .ref qx), (0, .ref b)]) (next : ∀ (zx : XS) (zm : MS) (H : Heap) (locs : List Loc) (ls : Array Slot), LI zx zm → va_P D vwCl (XW E qx zx ++ MW E qm zm) H → va_D (fun q : Nat => s.heap.size ≤ q) (XW E qx zx ++ MW E qm zm) → va_S (fun q : Nat => s.heap.size ≤ q) s.heap H locs → lv_has ls 4 [(3, .int i), (2, .ref qm), (1, .ref qx), (0, .ref b)] → W p l e room_1 s m #[Value.ref b] below meth c H locs ((123 + 5 * k) + 5) ((44666 + 1604 * k) + 1604) (lw_Z below #[Value.ref b] s) (F0 m 1550 ls [])) : W p l e room_1 s m #[Value.ref b] below meth c H locs (123 + 5 * k) (44666 + 1604 * k) (lw_Z below #[Value.ref b] s) (F0 m 1250 ls []) := by
  have hA : ∀ q : Nat, s.heap.size ≤ q → (fun q : Nat => s.heap.size ≤ q) q := fun _ h => h
  have hbA : ¬ (fun q : Nat => s.heap.size ≤ q) b := Nat.not_le.mpr hbl
  obtain ⟨hIx, hIm, hTR⟩ := hI
  have hI0 := hIx
  refine lv_aload_n hx hb dL_law_1250 rfl (lv_at hl 2 rfl) ?_
  refine lv_aload_n hx hb dL_law_1251 rfl (lv_at hl 3 rfl) ?_
  refine lv_iload_n hx hb dL_law_1252 rfl (lv_at hl 0 rfl) ?_
  refine lv_iconst (v := 1) hx hb dL_law_1253 (by decide) ?_
  refine lv_iadd hx hb dL_law_1254 ?_
  refine va_sld hx hb hX hbl hbA hS (sc_in (by omega) t_1 (by omega) (by omega) (by omega)) dL_law_1255 ?_
  refine lv_aload_n hx hb dL_law_1256 rfl (lv_at hl 3 rfl) ?_
  refine lv_iload_n hx hb dL_law_1257 rfl (lv_at hl 0 rfl) ?_
  refine lv_iconst (v := 2) hx hb dL_law_1258 (by decide) ?_
  refine lv_iadd hx hb dL_law_1259 ?_
  refine va_sld hx hb hX hbl hbA hS (sc_in (by omega) t_2 (by omega) (by omega) (by omega)) dL_law_1260 ?_
  refine lv_aload_n hx hb dL_law_1261 rfl (lv_at hl 3 rfl) ?_
  refine lv_iload_n hx hb dL_law_1262 rfl (lv_at hl 0 rfl) ?_
  refine lv_iconst (v := 3) hx hb dL_law_1263 (by decide) ?_
  refine lv_iadd hx hb dL_law_1264 ?_
  refine va_sld hx hb hX hbl hbA hS (sc_in (by omega) t_3 (by omega) (by omega) (by omega)) dL_law_1265 ?_
  refine lv_aload_n hx hb dL_law_1266 rfl (lv_at hl 3 rfl) ?_
  refine lv_iload_n hx hb dL_law_1267 rfl (lv_at hl 0 rfl) ?_
  refine lv_iconst (v := 4) hx hb dL_law_1268 (by decide) ?_
  refine lv_iadd hx hb dL_law_1269 ?_
  refine va_sld hx hb hX hbl hbA hS (sc_in (by omega) t_4 (by omega) (by omega) (by omega)) dL_law_1270 ?_
  refine aftU_i (runMG (rest := []) (As := [.int (xs (i + 1).toNatClampNeg), .int (xs (i + 2).toNatClampNeg), .int (xs (i + 3).toNatClampNeg), .int (xs (i + 4).toNatClampNeg)]) hx hb hml hown htb (U_X8_back l D E qx (xs (i + 1).toNatClampNeg) (xs (i + 2).toNatClampNeg) (xs (i + 3).toNatClampNeg) (xs (i + 4).toNatClampNeg) _ zx hIx) ok_X8_back k_870 k_871 k_872 k_1 k_873 ⟨(Nat.le_of_ble_eq_true rfl), (Nat.le_of_ble_eq_true rfl)⟩ ⟨(show (123 + 5 * k) + 0 ≤ 600000 by omega), (show (44666 + 1604 * k) + 0 ≤ 7302250 by omega)⟩ hl.1 (Nat.le_of_ble_eq_true rfl) rfl rfl dL_law_1271 (pmU (List.Perm.refl _) hP hD hK (XW_c (lP hP)) rfl rfl 0 rfl)) (List.Perm.refl _) hP hD hS hA (fun r_1 zs_3 H locs hw_2 hP hD hS => ?_)
  obtain ⟨hIx, hw_2_0⟩ := hw_2
  refine lv_pop hx hb dL_law_1274 rfl ?_
  refine lv_aload_n hx hb dL_law_1275 rfl (lv_at hl 1 rfl) ?_
  refine lv_aload_n hx hb dL_law_1276 rfl (lv_at hl 3 rfl) ?_
  refine lv_iload_n hx hb dL_law_1277 rfl (lv_at hl 0 rfl) ?_
  refine lv_iconst (v := 1) hx hb dL_law_1278 (by decide) ?_
  refine lv_iadd hx hb dL_law_1279 ?_
  refine va_sld hx hb hX hbl hbA hS (sc_in (by omega) t_1 (by omega) (by omega) (by omega)) dL_law_1280 ?_
  refine lv_aload_n hx hb dL_law_1281 rfl (lv_at hl 3 rfl) ?_
  refine lv_iload_n hx hb dL_law_1282 rfl (lv_at hl 0 rfl) ?_
  refine lv_iconst (v := 2) hx hb dL_law_1283 (by decide) ?_
  refine lv_iadd hx hb dL_law_1284 ?_
  refine va_sld hx hb hX hbl hbA hS (sc_in (by omega) t_2 (by omega) (by omega) (by omega)) dL_law_1285 ?_
  refine lv_aload_n hx hb dL_law_1286 rfl (lv_at hl 3 rfl) ?_
  refine lv_iload_n hx hb dL_law_1287 rfl (lv_at hl 0 rfl) ?_
  refine lv_iconst (v := 3) hx hb dL_law_1288 (by decide) ?_
  refine lv_iadd hx hb dL_law_1289 ?_
  refine va_sld hx hb hX hbl hbA hS (sc_in (by omega) t_3 (by omega) (by omega) (by omega)) dL_law_1290 ?_
  refine lv_aload_n hx hb dL_law_1291 rfl (lv_at hl 3 rfl) ?_
  refine lv_iload_n hx hb dL_law_1292 rfl (lv_at hl 0 rfl) ?_
  refine lv_iconst (v := 4) hx hb dL_law_1293 (by decide) ?_
  refine lv_iadd hx hb dL_law_1294 ?_
  refine va_sld hx hb hX hbl hbA hS (sc_in (by omega) t_4 (by omega) (by omega) (by omega)) dL_law_1295 ?_
  refine aftU_i (runMG (rest := []) (As := [.int (xs (i + 1).toNatClampNeg), .int (xs (i + 2).toNatClampNeg), .int (xs (i + 3).toNatClampNeg), .int (xs (i + 4).toNatClampNeg)]) hx hb hml hown htb (U_X9_back l D E qm (xs (i + 1).toNatClampNeg) (xs (i + 2).toNatClampNeg) (xs (i + 3).toNatClampNeg) (xs (i + 4).toNatClampNeg) _ zm hIm) ok_X9_back k_1448 k_1449 k_1450 k_9 k_1451 ⟨(Nat.le_of_ble_eq_true rfl), (Nat.le_of_ble_eq_true rfl)⟩ ⟨(show (123 + 5 * k) + 0 + 0 ≤ 600000 by omega), (show (44666 + 1604 * k) + 0 + 0 ≤ 7302250 by omega)⟩ hl.1 (Nat.le_of_ble_eq_true rfl) rfl rfl dL_law_1296 (pmU List.perm_append_comm hP hD hK (rP hP) rfl rfl 0 rfl)) List.perm_append_comm hP hD hS hA (fun r_4 zs_6 H locs hw_5 hP hD hS => ?_)
  have hP := sw_P hP; have hD := sw_D hD
  obtain ⟨hIm, hw_5_0⟩ := hw_5
  refine lv_pop hx hb dL_law_1299 rfl ?_
  refine lv_goto (tgt := 1550) hx hb dL_law_1300 (by decide) ?_
  refine W.widen (k := (123 + 5 * k) + 5) (n := (44666 + 1604 * k) + 1604) (by omega) (by omega) ?_
  exact next zs_3 zs_6 _ _ _ ⟨hIx, hIm, (ST_back hI0 hTR hw_2_0 hw_5_0)⟩ hP hD hS (lv_sub hl [0, 1, 2, 3] rfl)
set_option maxHeartbeats 4000000 in
set_option maxRecDepth 100000 in
theorem law_27 {p : Program} {l : Launch} {e : Env} {s : State} {m : MethodId} {below : List Frame} {meth : Method} {c : Code} {D : va_G} {E : Nat → Nat} {b L : Nat} {xs : Nat → Int32} (hx : p.tables.exec = Jvm.exec) (hb : c.code = code) (hr : meth.sig.returnType = ret) (hml : c.maxLocals = 4) (hown : s.vm.findClass R_law = some m.cls) (htb : ∀ w ∈ tb, w.before #[Value.ref b] s = true) (hK : KX D E s) (hG : SGs [((E 6), (E 8), 60, tw6), ((E 7), (E 9), 35, tw7)] (fun q : Nat => s.heap.size ≤ q) s s.heap) (hX : va_X b L xs s s.heap) (hL : L ≤ 3072) (hbl : b < s.heap.size) (hlocks : meth.locks = false) {qx qm k : Nat} {i : Int32} (hk : k ≤ 512) (hi : i.toInt = 6 * (k : Int)) (hiL : i.toInt + 6 ≤ (L : Int)) {zx : XS} {zm : MS} {H : Heap} {locs : List Loc} {ls : Array Slot} (hI : LI zx zm) (hP : va_P D vwCl (XW E qx zx ++ MW E qm zm) H) (hD : va_D (fun q : Nat => s.heap.size ≤ q) (XW E qx zx ++ MW E qm zm)) (hS : va_S (fun q : Nat => s.heap.size ≤ q) s.heap H locs) (hl : lv_has ls 4 [(3, .int i), (2, .ref qm), (1, .ref qx), (0, .ref b)]) (next : ∀ (zx : XS) (zm : MS) (H : Heap) (locs : List Loc) (ls : Array Slot), LI zx zm → va_P D vwCl (XW E qx zx ++ MW E qm zm) H → va_D (fun q : Nat => s.heap.size ≤ q) (XW E qx zx ++ MW E qm zm) → va_S (fun q : Nat => s.heap.size ≤ q) s.heap H locs → lv_has ls 4 [(3, .int i), (2, .ref qm), (1, .ref qx), (0, .ref b)] → W p l e room_1 s m #[Value.ref b] below meth c H locs ((123 + 5 * k) + 5) ((44666 + 1604 * k) + 1604) (lw_Z below #[Value.ref b] s) (F0 m 1550 ls [])) : W p l e room_1 s m #[Value.ref b] below meth c H locs (123 + 5 * k) (44666 + 1604 * k) (lw_Z below #[Value.ref b] s) (F0 m 1303 ls []) := by
  have hA : ∀ q : Nat, s.heap.size ≤ q → (fun q : Nat => s.heap.size ≤ q) q := fun _ h => h
  have hbA : ¬ (fun q : Nat => s.heap.size ≤ q) b := Nat.not_le.mpr hbl
  obtain ⟨hIx, hIm, hTR⟩ := hI
  have hI0 := hIx
  refine lv_aload_n hx hb dL_law_1303 rfl (lv_at hl 2 rfl) ?_
  refine lv_aload_n hx hb dL_law_1304 rfl (lv_at hl 3 rfl) ?_
  refine lv_iload_n hx hb dL_law_1305 rfl (lv_at hl 0 rfl) ?_
  refine lv_iconst (v := 1) hx hb dL_law_1306 (by decide) ?_
  refine lv_iadd hx hb dL_law_1307 ?_
  refine va_sld hx hb hX hbl hbA hS (sc_in (by omega) t_1 (by omega) (by omega) (by omega)) dL_law_1308 ?_
  refine aftU_i (runMG (rest := []) (As := [.int (xs (i + 1).toNatClampNeg)]) hx hb hml hown htb (U_X8_state l D E qx (xs (i + 1).toNatClampNeg) _ zx hIx) ok_X8_state k_882 k_883 k_884 k_1 k_885 ⟨(Nat.le_of_ble_eq_true rfl), (Nat.le_of_ble_eq_true rfl)⟩ ⟨(show (123 + 5 * k) + 0 ≤ 600000 by omega), (show (44666 + 1604 * k) + 0 ≤ 7302250 by omega)⟩ hl.1 (Nat.le_of_ble_eq_true rfl) rfl rfl dL_law_1309 (pmU (List.Perm.refl _) hP hD hK (XW_c (lP hP)) rfl rfl 0 rfl)) (List.Perm.refl _) hP hD hS hA (fun r_1 zs_3 H locs hw_2 hP hD hS => ?_)
  obtain ⟨hIx, hw_2_0⟩ := hw_2
  refine lv_pop hx hb dL_law_1312 rfl ?_
  refine lv_aload_n hx hb dL_law_1313 rfl (lv_at hl 1 rfl) ?_
  refine lv_aload_n hx hb dL_law_1314 rfl (lv_at hl 3 rfl) ?_
  refine lv_iload_n hx hb dL_law_1315 rfl (lv_at hl 0 rfl) ?_
  refine lv_iconst (v := 1) hx hb dL_law_1316 (by decide) ?_
  refine lv_iadd hx hb dL_law_1317 ?_
  refine va_sld hx hb hX hbl hbA hS (sc_in (by omega) t_1 (by omega) (by omega) (by omega)) dL_law_1318 ?_
  refine aftU_i (runMG (rest := []) (As := [.int (xs (i + 1).toNatClampNeg)]) hx hb hml hown htb (U_X9_state l D E qm (xs (i + 1).toNatClampNeg) _ zm hIm) ok_X9_state k_1452 k_1453 k_1454 k_9 k_1455 ⟨(Nat.le_of_ble_eq_true rfl), (Nat.le_of_ble_eq_true rfl)⟩ ⟨(show (123 + 5 * k) + 0 + 0 ≤ 600000 by omega), (show (44666 + 1604 * k) + 0 + 0 ≤ 7302250 by omega)⟩ hl.1 (Nat.le_of_ble_eq_true rfl) rfl rfl dL_law_1319 (pmU List.perm_append_comm hP hD hK (rP hP) rfl rfl 0 rfl)) List.perm_append_comm hP hD hS hA (fun r_4 zs_6 H locs hw_5 hP hD hS => ?_)
  have hP := sw_P hP; have hD := sw_D hD
  obtain ⟨hIm, hw_5_0⟩ := hw_5
  refine lv_pop hx hb dL_law_1322 rfl ?_
  refine lv_goto (tgt := 1550) hx hb dL_law_1323 (by decide) ?_
  refine W.widen (k := (123 + 5 * k) + 5) (n := (44666 + 1604 * k) + 1604) (by omega) (by omega) ?_
  exact next zs_3 zs_6 _ _ _ ⟨hIx, hIm, (TR_kp hTR (KP_X8_state hw_2_0) (KP_X9_state hw_5_0) (KQ_X9_state hw_5_0))⟩ hP hD hS (lv_sub hl [0, 1, 2, 3] rfl)
set_option maxHeartbeats 4000000 in
set_option maxRecDepth 100000 in
theorem law_28 {p : Program} {l : Launch} {e : Env} {s : State} {m : MethodId} {below : List Frame} {meth : Method} {c : Code} {D : va_G} {E : Nat → Nat} {b L : Nat} {xs : Nat → Int32} (hx : p.tables.exec = Jvm.exec) (hb : c.code = code) (hr : meth.sig.returnType = ret) (hml : c.maxLocals = 4) (hown : s.vm.findClass R_law = some m.cls) (htb : ∀ w ∈ tb, w.before #[Value.ref b] s = true) (hK : KX D E s) (hG : SGs [((E 6), (E 8), 60, tw6), ((E 7), (E 9), 35, tw7)] (fun q : Nat => s.heap.size ≤ q) s s.heap) (hX : va_X b L xs s s.heap) (hL : L ≤ 3072) (hbl : b < s.heap.size) (hlocks : meth.locks = false) {qx qm k : Nat} {i : Int32} (hk : k ≤ 512) (hi : i.toInt = 6 * (k : Int)) (hiL : i.toInt + 6 ≤ (L : Int)) {zx : XS} {zm : MS} {H : Heap} {locs : List Loc} {ls : Array Slot} (hI : LI zx zm) (hP : va_P D vwCl (XW E qx zx ++ MW E qm zm) H) (hD : va_D (fun q : Nat => s.heap.size ≤ q) (XW E qx zx ++ MW E qm zm)) (hS : va_S (fun q : Nat => s.heap.size ≤ q) s.heap H locs) (hl : lv_has ls 4 [(3, .int i), (2, .ref qm), (1, .ref qx), (0, .ref b)]) (next : ∀ (zx : XS) (zm : MS) (H : Heap) (locs : List Loc) (ls : Array Slot), LI zx zm → va_P D vwCl (XW E qx zx ++ MW E qm zm) H → va_D (fun q : Nat => s.heap.size ≤ q) (XW E qx zx ++ MW E qm zm) → va_S (fun q : Nat => s.heap.size ≤ q) s.heap H locs → lv_has ls 4 [(3, .int i), (2, .ref qm), (1, .ref qx), (0, .ref b)] → W p l e room_1 s m #[Value.ref b] below meth c H locs ((123 + 5 * k) + 5) ((44666 + 1604 * k) + 1604) (lw_Z below #[Value.ref b] s) (F0 m 1550 ls [])) : W p l e room_1 s m #[Value.ref b] below meth c H locs (123 + 5 * k) (44666 + 1604 * k) (lw_Z below #[Value.ref b] s) (F0 m 1326 ls []) := by
  have hA : ∀ q : Nat, s.heap.size ≤ q → (fun q : Nat => s.heap.size ≤ q) q := fun _ h => h
  have hbA : ¬ (fun q : Nat => s.heap.size ≤ q) b := Nat.not_le.mpr hbl
  obtain ⟨hIx, hIm, hTR⟩ := hI
  have hI0 := hIx
  refine lv_aload_n hx hb dL_law_1326 rfl (lv_at hl 2 rfl) ?_
  refine lv_aload_n hx hb dL_law_1327 rfl (lv_at hl 3 rfl) ?_
  refine lv_iload_n hx hb dL_law_1328 rfl (lv_at hl 0 rfl) ?_
  refine lv_iconst (v := 1) hx hb dL_law_1329 (by decide) ?_
  refine lv_iadd hx hb dL_law_1330 ?_
  refine va_sld hx hb hX hbl hbA hS (sc_in (by omega) t_1 (by omega) (by omega) (by omega)) dL_law_1331 ?_
  refine aftU_i (runMG (rest := []) (As := [.int (xs (i + 1).toNatClampNeg)]) hx hb hml hown htb (U_X8_doubt l D E qx (xs (i + 1).toNatClampNeg) _ zx hIx) ok_X8_doubt k_886 k_887 k_888 k_1 k_889 ⟨(Nat.le_of_ble_eq_true rfl), (Nat.le_of_ble_eq_true rfl)⟩ ⟨(show (123 + 5 * k) + 0 ≤ 600000 by omega), (show (44666 + 1604 * k) + 0 ≤ 7302250 by omega)⟩ hl.1 (Nat.le_of_ble_eq_true rfl) rfl rfl dL_law_1332 (pmU (List.Perm.refl _) hP hD hK (XW_c (lP hP)) rfl rfl 0 rfl)) (List.Perm.refl _) hP hD hS hA (fun r_1 zs_3 H locs hw_2 hP hD hS => ?_)
  obtain ⟨hIx, hw_2_0⟩ := hw_2
  refine lv_pop hx hb dL_law_1335 rfl ?_
  refine lv_aload_n hx hb dL_law_1336 rfl (lv_at hl 1 rfl) ?_
  refine lv_aload_n hx hb dL_law_1337 rfl (lv_at hl 3 rfl) ?_
  refine lv_iload_n hx hb dL_law_1338 rfl (lv_at hl 0 rfl) ?_
  refine lv_iconst (v := 1) hx hb dL_law_1339 (by decide) ?_
  refine lv_iadd hx hb dL_law_1340 ?_
  refine va_sld hx hb hX hbl hbA hS (sc_in (by omega) t_1 (by omega) (by omega) (by omega)) dL_law_1341 ?_
  refine aftU_i (runMG (rest := []) (As := [.int (xs (i + 1).toNatClampNeg)]) hx hb hml hown htb (U_X9_doubt l D E qm (xs (i + 1).toNatClampNeg) _ zm hIm) ok_X9_doubt k_1456 k_1457 k_1458 k_9 k_1459 ⟨(Nat.le_of_ble_eq_true rfl), (Nat.le_of_ble_eq_true rfl)⟩ ⟨(show (123 + 5 * k) + 0 + 0 ≤ 600000 by omega), (show (44666 + 1604 * k) + 0 + 0 ≤ 7302250 by omega)⟩ hl.1 (Nat.le_of_ble_eq_true rfl) rfl rfl dL_law_1342 (pmU List.perm_append_comm hP hD hK (rP hP) rfl rfl 0 rfl)) List.perm_append_comm hP hD hS hA (fun r_4 zs_6 H locs hw_5 hP hD hS => ?_)
  have hP := sw_P hP; have hD := sw_D hD
  obtain ⟨hIm, hw_5_0⟩ := hw_5
  refine lv_pop hx hb dL_law_1345 rfl ?_
  refine lv_goto (tgt := 1550) hx hb dL_law_1346 (by decide) ?_
  refine W.widen (k := (123 + 5 * k) + 5) (n := (44666 + 1604 * k) + 1604) (by omega) (by omega) ?_
  exact next zs_3 zs_6 _ _ _ ⟨hIx, hIm, (ST_doubt hI0 hTR hw_2_0 hw_5_0)⟩ hP hD hS (lv_sub hl [0, 1, 2, 3] rfl)
set_option maxHeartbeats 4000000 in
set_option maxRecDepth 100000 in
theorem law_29 {p : Program} {l : Launch} {e : Env} {s : State} {m : MethodId} {below : List Frame} {meth : Method} {c : Code} {D : va_G} {E : Nat → Nat} {b L : Nat} {xs : Nat → Int32} (hx : p.tables.exec = Jvm.exec) (hb : c.code = code) (hr : meth.sig.returnType = ret) (hml : c.maxLocals = 4) (hown : s.vm.findClass R_law = some m.cls) (htb : ∀ w ∈ tb, w.before #[Value.ref b] s = true) (hK : KX D E s) (hG : SGs [((E 6), (E 8), 60, tw6), ((E 7), (E 9), 35, tw7)] (fun q : Nat => s.heap.size ≤ q) s s.heap) (hX : va_X b L xs s s.heap) (hL : L ≤ 3072) (hbl : b < s.heap.size) (hlocks : meth.locks = false) {qx qm k : Nat} {i : Int32} (hk : k ≤ 512) (hi : i.toInt = 6 * (k : Int)) (hiL : i.toInt + 6 ≤ (L : Int)) {zx : XS} {zm : MS} {H : Heap} {locs : List Loc} {ls : Array Slot} (hI : LI zx zm) (hP : va_P D vwCl (XW E qx zx ++ MW E qm zm) H) (hD : va_D (fun q : Nat => s.heap.size ≤ q) (XW E qx zx ++ MW E qm zm)) (hS : va_S (fun q : Nat => s.heap.size ≤ q) s.heap H locs) (hl : lv_has ls 4 [(3, .int i), (2, .ref qm), (1, .ref qx), (0, .ref b)]) (next : ∀ (zx : XS) (zm : MS) (H : Heap) (locs : List Loc) (ls : Array Slot), LI zx zm → va_P D vwCl (XW E qx zx ++ MW E qm zm) H → va_D (fun q : Nat => s.heap.size ≤ q) (XW E qx zx ++ MW E qm zm) → va_S (fun q : Nat => s.heap.size ≤ q) s.heap H locs → lv_has ls 4 [(3, .int i), (2, .ref qm), (1, .ref qx), (0, .ref b)] → W p l e room_1 s m #[Value.ref b] below meth c H locs ((123 + 5 * k) + 5) ((44666 + 1604 * k) + 1604) (lw_Z below #[Value.ref b] s) (F0 m 1550 ls [])) : W p l e room_1 s m #[Value.ref b] below meth c H locs (123 + 5 * k) (44666 + 1604 * k) (lw_Z below #[Value.ref b] s) (F0 m 1349 ls []) := by
  have hA : ∀ q : Nat, s.heap.size ≤ q → (fun q : Nat => s.heap.size ≤ q) q := fun _ h => h
  have hbA : ¬ (fun q : Nat => s.heap.size ≤ q) b := Nat.not_le.mpr hbl
  obtain ⟨hIx, hIm, hTR⟩ := hI
  have hI0 := hIx
  refine lv_aload_n hx hb dL_law_1349 rfl (lv_at hl 2 rfl) ?_
  refine lv_aload_n hx hb dL_law_1350 rfl (lv_at hl 3 rfl) ?_
  refine lv_iload_n hx hb dL_law_1351 rfl (lv_at hl 0 rfl) ?_
  refine lv_iconst (v := 1) hx hb dL_law_1352 (by decide) ?_
  refine lv_iadd hx hb dL_law_1353 ?_
  refine va_sld hx hb hX hbl hbA hS (sc_in (by omega) t_1 (by omega) (by omega) (by omega)) dL_law_1354 ?_
  refine lv_aload_n hx hb dL_law_1355 rfl (lv_at hl 3 rfl) ?_
  refine lv_iload_n hx hb dL_law_1356 rfl (lv_at hl 0 rfl) ?_
  refine lv_iconst (v := 2) hx hb dL_law_1357 (by decide) ?_
  refine lv_iadd hx hb dL_law_1358 ?_
  refine va_sld hx hb hX hbl hbA hS (sc_in (by omega) t_2 (by omega) (by omega) (by omega)) dL_law_1359 ?_
  refine lv_aload_n hx hb dL_law_1360 rfl (lv_at hl 3 rfl) ?_
  refine lv_iload_n hx hb dL_law_1361 rfl (lv_at hl 0 rfl) ?_
  refine lv_iconst (v := 3) hx hb dL_law_1362 (by decide) ?_
  refine lv_iadd hx hb dL_law_1363 ?_
  refine va_sld hx hb hX hbl hbA hS (sc_in (by omega) t_3 (by omega) (by omega) (by omega)) dL_law_1364 ?_
  refine aftU_i (runMG (rest := []) (As := [.int (xs (i + 1).toNatClampNeg), .int (xs (i + 2).toNatClampNeg), .int (xs (i + 3).toNatClampNeg)]) hx hb hml hown htb (U_X8_deal l D E qx (xs (i + 1).toNatClampNeg) (xs (i + 2).toNatClampNeg) (xs (i + 3).toNatClampNeg) _ zx hIx) ok_X8_deal k_894 k_895 k_896 k_1 k_897 ⟨(Nat.le_of_ble_eq_true rfl), (Nat.le_of_ble_eq_true rfl)⟩ ⟨(show (123 + 5 * k) + 0 ≤ 600000 by omega), (show (44666 + 1604 * k) + 0 ≤ 7302250 by omega)⟩ hl.1 (Nat.le_of_ble_eq_true rfl) rfl rfl dL_law_1365 (pmU (List.Perm.refl _) hP hD hK (XW_c (lP hP)) rfl rfl 0 rfl)) (List.Perm.refl _) hP hD hS hA (fun r_1 zs_3 H locs hw_2 hP hD hS => ?_)
  obtain ⟨hIx, hw_2_0⟩ := hw_2
  refine lv_pop hx hb dL_law_1368 rfl ?_
  refine lv_aload_n hx hb dL_law_1369 rfl (lv_at hl 1 rfl) ?_
  refine lv_aload_n hx hb dL_law_1370 rfl (lv_at hl 3 rfl) ?_
  refine lv_iload_n hx hb dL_law_1371 rfl (lv_at hl 0 rfl) ?_
  refine lv_iconst (v := 1) hx hb dL_law_1372 (by decide) ?_
  refine lv_iadd hx hb dL_law_1373 ?_
  refine va_sld hx hb hX hbl hbA hS (sc_in (by omega) t_1 (by omega) (by omega) (by omega)) dL_law_1374 ?_
  refine lv_aload_n hx hb dL_law_1375 rfl (lv_at hl 3 rfl) ?_
  refine lv_iload_n hx hb dL_law_1376 rfl (lv_at hl 0 rfl) ?_
  refine lv_iconst (v := 2) hx hb dL_law_1377 (by decide) ?_
  refine lv_iadd hx hb dL_law_1378 ?_
  refine va_sld hx hb hX hbl hbA hS (sc_in (by omega) t_2 (by omega) (by omega) (by omega)) dL_law_1379 ?_
  refine lv_aload_n hx hb dL_law_1380 rfl (lv_at hl 3 rfl) ?_
  refine lv_iload_n hx hb dL_law_1381 rfl (lv_at hl 0 rfl) ?_
  refine lv_iconst (v := 3) hx hb dL_law_1382 (by decide) ?_
  refine lv_iadd hx hb dL_law_1383 ?_
  refine va_sld hx hb hX hbl hbA hS (sc_in (by omega) t_3 (by omega) (by omega) (by omega)) dL_law_1384 ?_
  refine aftU_i (runMG (rest := []) (As := [.int (xs (i + 1).toNatClampNeg), .int (xs (i + 2).toNatClampNeg), .int (xs (i + 3).toNatClampNeg)]) hx hb hml hown htb (U_X9_deal l D E qm (xs (i + 1).toNatClampNeg) (xs (i + 2).toNatClampNeg) (xs (i + 3).toNatClampNeg) _ zm hIm) ok_X9_deal k_1460 k_1461 k_1462 k_9 k_1463 ⟨(Nat.le_of_ble_eq_true rfl), (Nat.le_of_ble_eq_true rfl)⟩ ⟨(show (123 + 5 * k) + 0 + 0 ≤ 600000 by omega), (show (44666 + 1604 * k) + 0 + 0 ≤ 7302250 by omega)⟩ hl.1 (Nat.le_of_ble_eq_true rfl) rfl rfl dL_law_1385 (pmU List.perm_append_comm hP hD hK (rP hP) rfl rfl 0 rfl)) List.perm_append_comm hP hD hS hA (fun r_4 zs_6 H locs hw_5 hP hD hS => ?_)
  have hP := sw_P hP; have hD := sw_D hD
  obtain ⟨hIm, hw_5_0⟩ := hw_5
  refine lv_pop hx hb dL_law_1388 rfl ?_
  refine lv_goto (tgt := 1550) hx hb dL_law_1389 (by decide) ?_
  refine W.widen (k := (123 + 5 * k) + 5) (n := (44666 + 1604 * k) + 1604) (by omega) (by omega) ?_
  exact next zs_3 zs_6 _ _ _ ⟨hIx, hIm, (ST_deal hI0 hTR hw_2_0 hw_5_0)⟩ hP hD hS (lv_sub hl [0, 1, 2, 3] rfl)
set_option maxHeartbeats 4000000 in
set_option maxRecDepth 100000 in
theorem law_30 {p : Program} {l : Launch} {e : Env} {s : State} {m : MethodId} {below : List Frame} {meth : Method} {c : Code} {D : va_G} {E : Nat → Nat} {b L : Nat} {xs : Nat → Int32} (hx : p.tables.exec = Jvm.exec) (hb : c.code = code) (hr : meth.sig.returnType = ret) (hml : c.maxLocals = 4) (hown : s.vm.findClass R_law = some m.cls) (htb : ∀ w ∈ tb, w.before #[Value.ref b] s = true) (hK : KX D E s) (hG : SGs [((E 6), (E 8), 60, tw6), ((E 7), (E 9), 35, tw7)] (fun q : Nat => s.heap.size ≤ q) s s.heap) (hX : va_X b L xs s s.heap) (hL : L ≤ 3072) (hbl : b < s.heap.size) (hlocks : meth.locks = false) {qx qm k : Nat} {i : Int32} (hk : k ≤ 512) (hi : i.toInt = 6 * (k : Int)) (hiL : i.toInt + 6 ≤ (L : Int)) {zx : XS} {zm : MS} {H : Heap} {locs : List Loc} {ls : Array Slot} (hI : LI zx zm) (hP : va_P D vwCl (XW E qx zx ++ MW E qm zm) H) (hD : va_D (fun q : Nat => s.heap.size ≤ q) (XW E qx zx ++ MW E qm zm)) (hS : va_S (fun q : Nat => s.heap.size ≤ q) s.heap H locs) (hl : lv_has ls 4 [(3, .int i), (2, .ref qm), (1, .ref qx), (0, .ref b)]) (next : ∀ (zx : XS) (zm : MS) (H : Heap) (locs : List Loc) (ls : Array Slot), LI zx zm → va_P D vwCl (XW E qx zx ++ MW E qm zm) H → va_D (fun q : Nat => s.heap.size ≤ q) (XW E qx zx ++ MW E qm zm) → va_S (fun q : Nat => s.heap.size ≤ q) s.heap H locs → lv_has ls 4 [(3, .int i), (2, .ref qm), (1, .ref qx), (0, .ref b)] → W p l e room_1 s m #[Value.ref b] below meth c H locs ((123 + 5 * k) + 5) ((44666 + 1604 * k) + 1604) (lw_Z below #[Value.ref b] s) (F0 m 1550 ls [])) : W p l e room_1 s m #[Value.ref b] below meth c H locs (123 + 5 * k) (44666 + 1604 * k) (lw_Z below #[Value.ref b] s) (F0 m 1392 ls []) := by
  have hA : ∀ q : Nat, s.heap.size ≤ q → (fun q : Nat => s.heap.size ≤ q) q := fun _ h => h
  have hbA : ¬ (fun q : Nat => s.heap.size ≤ q) b := Nat.not_le.mpr hbl
  obtain ⟨hIx, hIm, hTR⟩ := hI
  have hI0 := hIx
  refine lv_aload_n hx hb dL_law_1392 rfl (lv_at hl 2 rfl) ?_
  refine lv_aload_n hx hb dL_law_1393 rfl (lv_at hl 3 rfl) ?_
  refine lv_iload_n hx hb dL_law_1394 rfl (lv_at hl 0 rfl) ?_
  refine lv_iconst (v := 1) hx hb dL_law_1395 (by decide) ?_
  refine lv_iadd hx hb dL_law_1396 ?_
  refine va_sld hx hb hX hbl hbA hS (sc_in (by omega) t_1 (by omega) (by omega) (by omega)) dL_law_1397 ?_
  refine aftU_i (runMG (rest := []) (As := [.int (xs (i + 1).toNatClampNeg)]) hx hb hml hown htb (U_X8_dealt l D E qx (xs (i + 1).toNatClampNeg) _ zx hIx) ok_X8_dealt k_917 k_918 k_919 k_1 k_920 ⟨(Nat.le_of_ble_eq_true rfl), (Nat.le_of_ble_eq_true rfl)⟩ ⟨(show (123 + 5 * k) + 0 ≤ 600000 by omega), (show (44666 + 1604 * k) + 0 ≤ 7302250 by omega)⟩ hl.1 (Nat.le_of_ble_eq_true rfl) rfl rfl dL_law_1398 (pmU (List.Perm.refl _) hP hD hK (XW_c (lP hP)) rfl rfl 0 rfl)) (List.Perm.refl _) hP hD hS hA (fun r_1 zs_3 H locs hw_2 hP hD hS => ?_)
  obtain ⟨hIx, hw_2_0⟩ := hw_2
  refine lv_pop hx hb dL_law_1401 rfl ?_
  refine lv_aload_n hx hb dL_law_1402 rfl (lv_at hl 1 rfl) ?_
  refine lv_aload_n hx hb dL_law_1403 rfl (lv_at hl 3 rfl) ?_
  refine lv_iload_n hx hb dL_law_1404 rfl (lv_at hl 0 rfl) ?_
  refine lv_iconst (v := 1) hx hb dL_law_1405 (by decide) ?_
  refine lv_iadd hx hb dL_law_1406 ?_
  refine va_sld hx hb hX hbl hbA hS (sc_in (by omega) t_1 (by omega) (by omega) (by omega)) dL_law_1407 ?_
  refine aftU_i (runMG (rest := []) (As := [.int (xs (i + 1).toNatClampNeg)]) hx hb hml hown htb (U_X9_dealt l D E qm (xs (i + 1).toNatClampNeg) _ zm hIm) ok_X9_dealt k_1472 k_1473 k_1474 k_9 k_1475 ⟨(Nat.le_of_ble_eq_true rfl), (Nat.le_of_ble_eq_true rfl)⟩ ⟨(show (123 + 5 * k) + 0 + 0 ≤ 600000 by omega), (show (44666 + 1604 * k) + 0 + 0 ≤ 7302250 by omega)⟩ hl.1 (Nat.le_of_ble_eq_true rfl) rfl rfl dL_law_1408 (pmU List.perm_append_comm hP hD hK (rP hP) rfl rfl 0 rfl)) List.perm_append_comm hP hD hS hA (fun r_4 zs_6 H locs hw_5 hP hD hS => ?_)
  have hP := sw_P hP; have hD := sw_D hD
  obtain ⟨hIm, hw_5_0⟩ := hw_5
  refine lv_pop hx hb dL_law_1411 rfl ?_
  refine lv_goto (tgt := 1550) hx hb dL_law_1412 (by decide) ?_
  refine W.widen (k := (123 + 5 * k) + 5) (n := (44666 + 1604 * k) + 1604) (by omega) (by omega) ?_
  exact next zs_3 zs_6 _ _ _ ⟨hIx, hIm, (TR_kp hTR (KP_X8_dealt hw_2_0) (KP_X9_dealt hw_5_0) (KQ_X9_dealt hw_5_0))⟩ hP hD hS (lv_sub hl [0, 1, 2, 3] rfl)
set_option maxHeartbeats 4000000 in
set_option maxRecDepth 100000 in
theorem law_31 {p : Program} {l : Launch} {e : Env} {s : State} {m : MethodId} {below : List Frame} {meth : Method} {c : Code} {D : va_G} {E : Nat → Nat} {b L : Nat} {xs : Nat → Int32} (hx : p.tables.exec = Jvm.exec) (hb : c.code = code) (hr : meth.sig.returnType = ret) (hml : c.maxLocals = 4) (hown : s.vm.findClass R_law = some m.cls) (htb : ∀ w ∈ tb, w.before #[Value.ref b] s = true) (hK : KX D E s) (hG : SGs [((E 6), (E 8), 60, tw6), ((E 7), (E 9), 35, tw7)] (fun q : Nat => s.heap.size ≤ q) s s.heap) (hX : va_X b L xs s s.heap) (hL : L ≤ 3072) (hbl : b < s.heap.size) (hlocks : meth.locks = false) {qx qm k : Nat} {i : Int32} (hk : k ≤ 512) (hi : i.toInt = 6 * (k : Int)) (hiL : i.toInt + 6 ≤ (L : Int)) {zx : XS} {zm : MS} {H : Heap} {locs : List Loc} {ls : Array Slot} (hI : LI zx zm) (hP : va_P D vwCl (XW E qx zx ++ MW E qm zm) H) (hD : va_D (fun q : Nat => s.heap.size ≤ q) (XW E qx zx ++ MW E qm zm)) (hS : va_S (fun q : Nat => s.heap.size ≤ q) s.heap H locs) (hl : lv_has ls 4 [(3, .int i), (2, .ref qm), (1, .ref qx), (0, .ref b)]) (next : ∀ (zx : XS) (zm : MS) (H : Heap) (locs : List Loc) (ls : Array Slot), LI zx zm → va_P D vwCl (XW E qx zx ++ MW E qm zm) H → va_D (fun q : Nat => s.heap.size ≤ q) (XW E qx zx ++ MW E qm zm) → va_S (fun q : Nat => s.heap.size ≤ q) s.heap H locs → lv_has ls 4 [(3, .int i), (2, .ref qm), (1, .ref qx), (0, .ref b)] → W p l e room_1 s m #[Value.ref b] below meth c H locs ((123 + 5 * k) + 5) ((44666 + 1604 * k) + 1604) (lw_Z below #[Value.ref b] s) (F0 m 1550 ls [])) : W p l e room_1 s m #[Value.ref b] below meth c H locs (123 + 5 * k) (44666 + 1604 * k) (lw_Z below #[Value.ref b] s) (F0 m 1415 ls []) := by
  have hA : ∀ q : Nat, s.heap.size ≤ q → (fun q : Nat => s.heap.size ≤ q) q := fun _ h => h
  have hbA : ¬ (fun q : Nat => s.heap.size ≤ q) b := Nat.not_le.mpr hbl
  obtain ⟨hIx, hIm, hTR⟩ := hI
  have hI0 := hIx
  refine lv_aload_n hx hb dL_law_1415 rfl (lv_at hl 2 rfl) ?_
  refine lv_aload_n hx hb dL_law_1416 rfl (lv_at hl 3 rfl) ?_
  refine lv_iload_n hx hb dL_law_1417 rfl (lv_at hl 0 rfl) ?_
  refine lv_iconst (v := 1) hx hb dL_law_1418 (by decide) ?_
  refine lv_iadd hx hb dL_law_1419 ?_
  refine va_sld hx hb hX hbl hbA hS (sc_in (by omega) t_1 (by omega) (by omega) (by omega)) dL_law_1420 ?_
  refine lv_aload_n hx hb dL_law_1421 rfl (lv_at hl 3 rfl) ?_
  refine lv_iload_n hx hb dL_law_1422 rfl (lv_at hl 0 rfl) ?_
  refine lv_iconst (v := 2) hx hb dL_law_1423 (by decide) ?_
  refine lv_iadd hx hb dL_law_1424 ?_
  refine va_sld hx hb hX hbl hbA hS (sc_in (by omega) t_2 (by omega) (by omega) (by omega)) dL_law_1425 ?_
  refine aftU_i (runMG (rest := []) (As := [.int (xs (i + 1).toNatClampNeg), .int (xs (i + 2).toNatClampNeg)]) hx hb hml hown htb (U_X8_lend l D E qx (xs (i + 1).toNatClampNeg) (xs (i + 2).toNatClampNeg) _ zx hIx) ok_X8_lend k_921 k_922 k_923 k_1 k_924 ⟨(Nat.le_of_ble_eq_true rfl), (Nat.le_of_ble_eq_true rfl)⟩ ⟨(show (123 + 5 * k) + 0 ≤ 600000 by omega), (show (44666 + 1604 * k) + 0 ≤ 7302250 by omega)⟩ hl.1 (Nat.le_of_ble_eq_true rfl) rfl rfl dL_law_1426 (pmU (List.Perm.refl _) hP hD hK (XW_c (lP hP)) rfl rfl 0 rfl)) (List.Perm.refl _) hP hD hS hA (fun r_1 zs_3 H locs hw_2 hP hD hS => ?_)
  obtain ⟨hIx, hw_2_0⟩ := hw_2
  refine lv_pop hx hb dL_law_1429 rfl ?_
  refine lv_aload_n hx hb dL_law_1430 rfl (lv_at hl 1 rfl) ?_
  refine lv_aload_n hx hb dL_law_1431 rfl (lv_at hl 3 rfl) ?_
  refine lv_iload_n hx hb dL_law_1432 rfl (lv_at hl 0 rfl) ?_
  refine lv_iconst (v := 1) hx hb dL_law_1433 (by decide) ?_
  refine lv_iadd hx hb dL_law_1434 ?_
  refine va_sld hx hb hX hbl hbA hS (sc_in (by omega) t_1 (by omega) (by omega) (by omega)) dL_law_1435 ?_
  refine lv_aload_n hx hb dL_law_1436 rfl (lv_at hl 3 rfl) ?_
  refine lv_iload_n hx hb dL_law_1437 rfl (lv_at hl 0 rfl) ?_
  refine lv_iconst (v := 2) hx hb dL_law_1438 (by decide) ?_
  refine lv_iadd hx hb dL_law_1439 ?_
  refine va_sld hx hb hX hbl hbA hS (sc_in (by omega) t_2 (by omega) (by omega) (by omega)) dL_law_1440 ?_
  refine aftU_i (runMG (rest := []) (As := [.int (xs (i + 1).toNatClampNeg), .int (xs (i + 2).toNatClampNeg)]) hx hb hml hown htb (U_X9_lend l D E qm (xs (i + 1).toNatClampNeg) (xs (i + 2).toNatClampNeg) _ zm hIm) ok_X9_lend k_1476 k_1477 k_1478 k_9 k_1479 ⟨(Nat.le_of_ble_eq_true rfl), (Nat.le_of_ble_eq_true rfl)⟩ ⟨(show (123 + 5 * k) + 0 + 0 ≤ 600000 by omega), (show (44666 + 1604 * k) + 0 + 0 ≤ 7302250 by omega)⟩ hl.1 (Nat.le_of_ble_eq_true rfl) rfl rfl dL_law_1441 (pmU List.perm_append_comm hP hD hK (rP hP) rfl rfl 0 rfl)) List.perm_append_comm hP hD hS hA (fun r_4 zs_6 H locs hw_5 hP hD hS => ?_)
  have hP := sw_P hP; have hD := sw_D hD
  obtain ⟨hIm, hw_5_0⟩ := hw_5
  refine lv_pop hx hb dL_law_1444 rfl ?_
  refine lv_goto (tgt := 1550) hx hb dL_law_1445 (by decide) ?_
  refine W.widen (k := (123 + 5 * k) + 5) (n := (44666 + 1604 * k) + 1604) (by omega) (by omega) ?_
  exact next zs_3 zs_6 _ _ _ ⟨hIx, hIm, (ST_lend hI0 hTR hw_2_0 hw_5_0)⟩ hP hD hS (lv_sub hl [0, 1, 2, 3] rfl)
set_option maxHeartbeats 4000000 in
set_option maxRecDepth 100000 in
theorem law_32 {p : Program} {l : Launch} {e : Env} {s : State} {m : MethodId} {below : List Frame} {meth : Method} {c : Code} {D : va_G} {E : Nat → Nat} {b L : Nat} {xs : Nat → Int32} (hx : p.tables.exec = Jvm.exec) (hb : c.code = code) (hr : meth.sig.returnType = ret) (hml : c.maxLocals = 4) (hown : s.vm.findClass R_law = some m.cls) (htb : ∀ w ∈ tb, w.before #[Value.ref b] s = true) (hK : KX D E s) (hG : SGs [((E 6), (E 8), 60, tw6), ((E 7), (E 9), 35, tw7)] (fun q : Nat => s.heap.size ≤ q) s s.heap) (hX : va_X b L xs s s.heap) (hL : L ≤ 3072) (hbl : b < s.heap.size) (hlocks : meth.locks = false) {qx qm k : Nat} {i : Int32} (hk : k ≤ 512) (hi : i.toInt = 6 * (k : Int)) (hiL : i.toInt + 6 ≤ (L : Int)) {zx : XS} {zm : MS} {H : Heap} {locs : List Loc} {ls : Array Slot} (hI : LI zx zm) (hP : va_P D vwCl (XW E qx zx ++ MW E qm zm) H) (hD : va_D (fun q : Nat => s.heap.size ≤ q) (XW E qx zx ++ MW E qm zm)) (hS : va_S (fun q : Nat => s.heap.size ≤ q) s.heap H locs) (hl : lv_has ls 4 [(3, .int i), (2, .ref qm), (1, .ref qx), (0, .ref b)]) (next : ∀ (zx : XS) (zm : MS) (H : Heap) (locs : List Loc) (ls : Array Slot), LI zx zm → va_P D vwCl (XW E qx zx ++ MW E qm zm) H → va_D (fun q : Nat => s.heap.size ≤ q) (XW E qx zx ++ MW E qm zm) → va_S (fun q : Nat => s.heap.size ≤ q) s.heap H locs → lv_has ls 4 [(3, .int i), (2, .ref qm), (1, .ref qx), (0, .ref b)] → W p l e room_1 s m #[Value.ref b] below meth c H locs ((123 + 5 * k) + 5) ((44666 + 1604 * k) + 1604) (lw_Z below #[Value.ref b] s) (F0 m 1550 ls [])) : W p l e room_1 s m #[Value.ref b] below meth c H locs (123 + 5 * k) (44666 + 1604 * k) (lw_Z below #[Value.ref b] s) (F0 m 1448 ls []) := by
  have hA : ∀ q : Nat, s.heap.size ≤ q → (fun q : Nat => s.heap.size ≤ q) q := fun _ h => h
  have hbA : ¬ (fun q : Nat => s.heap.size ≤ q) b := Nat.not_le.mpr hbl
  obtain ⟨hIx, hIm, hTR⟩ := hI
  have hI0 := hIx
  refine lv_aload_n hx hb dL_law_1448 rfl (lv_at hl 2 rfl) ?_
  refine lv_aload_n hx hb dL_law_1449 rfl (lv_at hl 3 rfl) ?_
  refine lv_iload_n hx hb dL_law_1450 rfl (lv_at hl 0 rfl) ?_
  refine lv_iconst (v := 1) hx hb dL_law_1451 (by decide) ?_
  refine lv_iadd hx hb dL_law_1452 ?_
  refine va_sld hx hb hX hbl hbA hS (sc_in (by omega) t_1 (by omega) (by omega) (by omega)) dL_law_1453 ?_
  refine aftU_i (runMG (rest := []) (As := [.int (xs (i + 1).toNatClampNeg)]) hx hb hml hown htb (U_X8_home l D E qx (xs (i + 1).toNatClampNeg) _ zx hIx) ok_X8_home k_925 k_926 k_927 k_1 k_928 ⟨(Nat.le_of_ble_eq_true rfl), (Nat.le_of_ble_eq_true rfl)⟩ ⟨(show (123 + 5 * k) + 0 ≤ 600000 by omega), (show (44666 + 1604 * k) + 0 ≤ 7302250 by omega)⟩ hl.1 (Nat.le_of_ble_eq_true rfl) rfl rfl dL_law_1454 (pmU (List.Perm.refl _) hP hD hK (XW_c (lP hP)) rfl rfl 0 rfl)) (List.Perm.refl _) hP hD hS hA (fun r_1 zs_3 H locs hw_2 hP hD hS => ?_)
  obtain ⟨hIx, hw_2_0⟩ := hw_2
  refine lv_pop hx hb dL_law_1457 rfl ?_
  refine lv_aload_n hx hb dL_law_1458 rfl (lv_at hl 1 rfl) ?_
  refine lv_aload_n hx hb dL_law_1459 rfl (lv_at hl 3 rfl) ?_
  refine lv_iload_n hx hb dL_law_1460 rfl (lv_at hl 0 rfl) ?_
  refine lv_iconst (v := 1) hx hb dL_law_1461 (by decide) ?_
  refine lv_iadd hx hb dL_law_1462 ?_
  refine va_sld hx hb hX hbl hbA hS (sc_in (by omega) t_1 (by omega) (by omega) (by omega)) dL_law_1463 ?_
  refine aftU_i (runMG (rest := []) (As := [.int (xs (i + 1).toNatClampNeg)]) hx hb hml hown htb (U_X9_home l D E qm (xs (i + 1).toNatClampNeg) _ zm hIm) ok_X9_home k_1480 k_1481 k_1482 k_9 k_1483 ⟨(Nat.le_of_ble_eq_true rfl), (Nat.le_of_ble_eq_true rfl)⟩ ⟨(show (123 + 5 * k) + 0 + 0 ≤ 600000 by omega), (show (44666 + 1604 * k) + 0 + 0 ≤ 7302250 by omega)⟩ hl.1 (Nat.le_of_ble_eq_true rfl) rfl rfl dL_law_1464 (pmU List.perm_append_comm hP hD hK (rP hP) rfl rfl 0 rfl)) List.perm_append_comm hP hD hS hA (fun r_4 zs_6 H locs hw_5 hP hD hS => ?_)
  have hP := sw_P hP; have hD := sw_D hD
  obtain ⟨hIm, hw_5_0⟩ := hw_5
  refine lv_pop hx hb dL_law_1467 rfl ?_
  refine lv_goto (tgt := 1550) hx hb dL_law_1468 (by decide) ?_
  refine W.widen (k := (123 + 5 * k) + 5) (n := (44666 + 1604 * k) + 1604) (by omega) (by omega) ?_
  exact next zs_3 zs_6 _ _ _ ⟨hIx, hIm, (ST_home hI0 hTR hw_2_0 hw_5_0)⟩ hP hD hS (lv_sub hl [0, 1, 2, 3] rfl)
set_option maxHeartbeats 4000000 in
set_option maxRecDepth 100000 in
theorem law_33 {p : Program} {l : Launch} {e : Env} {s : State} {m : MethodId} {below : List Frame} {meth : Method} {c : Code} {D : va_G} {E : Nat → Nat} {b L : Nat} {xs : Nat → Int32} (hx : p.tables.exec = Jvm.exec) (hb : c.code = code) (hr : meth.sig.returnType = ret) (hml : c.maxLocals = 4) (hown : s.vm.findClass R_law = some m.cls) (htb : ∀ w ∈ tb, w.before #[Value.ref b] s = true) (hK : KX D E s) (hG : SGs [((E 6), (E 8), 60, tw6), ((E 7), (E 9), 35, tw7)] (fun q : Nat => s.heap.size ≤ q) s s.heap) (hX : va_X b L xs s s.heap) (hL : L ≤ 3072) (hbl : b < s.heap.size) (hlocks : meth.locks = false) {qx qm k : Nat} {i : Int32} (hk : k ≤ 512) (hi : i.toInt = 6 * (k : Int)) (hiL : i.toInt + 6 ≤ (L : Int)) {zx : XS} {zm : MS} {H : Heap} {locs : List Loc} {ls : Array Slot} (hI : LI zx zm) (hP : va_P D vwCl (XW E qx zx ++ MW E qm zm) H) (hD : va_D (fun q : Nat => s.heap.size ≤ q) (XW E qx zx ++ MW E qm zm)) (hS : va_S (fun q : Nat => s.heap.size ≤ q) s.heap H locs) (hl : lv_has ls 4 [(3, .int i), (2, .ref qm), (1, .ref qx), (0, .ref b)]) (next : ∀ (zx : XS) (zm : MS) (H : Heap) (locs : List Loc) (ls : Array Slot), LI zx zm → va_P D vwCl (XW E qx zx ++ MW E qm zm) H → va_D (fun q : Nat => s.heap.size ≤ q) (XW E qx zx ++ MW E qm zm) → va_S (fun q : Nat => s.heap.size ≤ q) s.heap H locs → lv_has ls 4 [(3, .int i), (2, .ref qm), (1, .ref qx), (0, .ref b)] → W p l e room_1 s m #[Value.ref b] below meth c H locs ((123 + 5 * k) + 5) ((44666 + 1604 * k) + 1604) (lw_Z below #[Value.ref b] s) (F0 m 1550 ls [])) : W p l e room_1 s m #[Value.ref b] below meth c H locs (123 + 5 * k) (44666 + 1604 * k) (lw_Z below #[Value.ref b] s) (F0 m 1471 ls []) := by
  have hA : ∀ q : Nat, s.heap.size ≤ q → (fun q : Nat => s.heap.size ≤ q) q := fun _ h => h
  have hbA : ¬ (fun q : Nat => s.heap.size ≤ q) b := Nat.not_le.mpr hbl
  obtain ⟨hIx, hIm, hTR⟩ := hI
  have hI0 := hIx
  refine lv_aload_n hx hb dL_law_1471 rfl (lv_at hl 2 rfl) ?_
  refine lv_aload_n hx hb dL_law_1472 rfl (lv_at hl 3 rfl) ?_
  refine lv_iload_n hx hb dL_law_1473 rfl (lv_at hl 0 rfl) ?_
  refine lv_iconst (v := 1) hx hb dL_law_1474 (by decide) ?_
  refine lv_iadd hx hb dL_law_1475 ?_
  refine va_sld hx hb hX hbl hbA hS (sc_in (by omega) t_1 (by omega) (by omega) (by omega)) dL_law_1476 ?_
  refine lv_aload_n hx hb dL_law_1477 rfl (lv_at hl 3 rfl) ?_
  refine lv_iload_n hx hb dL_law_1478 rfl (lv_at hl 0 rfl) ?_
  refine lv_iconst (v := 2) hx hb dL_law_1479 (by decide) ?_
  refine lv_iadd hx hb dL_law_1480 ?_
  refine va_sld hx hb hX hbl hbA hS (sc_in (by omega) t_2 (by omega) (by omega) (by omega)) dL_law_1481 ?_
  refine aftU_i (runMG (rest := []) (As := [.int (xs (i + 1).toNatClampNeg), .int (xs (i + 2).toNatClampNeg)]) hx hb hml hown htb (U_X8_holder l D E qx (xs (i + 1).toNatClampNeg) (xs (i + 2).toNatClampNeg) _ zx hIx) ok_X8_holder k_929 k_930 k_931 k_1 k_932 ⟨(Nat.le_of_ble_eq_true rfl), (Nat.le_of_ble_eq_true rfl)⟩ ⟨(show (123 + 5 * k) + 0 ≤ 600000 by omega), (show (44666 + 1604 * k) + 0 ≤ 7302250 by omega)⟩ hl.1 (Nat.le_of_ble_eq_true rfl) rfl rfl dL_law_1482 (pmU (List.Perm.refl _) hP hD hK (XW_c (lP hP)) rfl rfl 0 rfl)) (List.Perm.refl _) hP hD hS hA (fun r_1 zs_3 H locs hw_2 hP hD hS => ?_)
  obtain ⟨hIx, hw_2_0⟩ := hw_2
  refine lv_pop hx hb dL_law_1485 rfl ?_
  refine lv_aload_n hx hb dL_law_1486 rfl (lv_at hl 1 rfl) ?_
  refine lv_aload_n hx hb dL_law_1487 rfl (lv_at hl 3 rfl) ?_
  refine lv_iload_n hx hb dL_law_1488 rfl (lv_at hl 0 rfl) ?_
  refine lv_iconst (v := 1) hx hb dL_law_1489 (by decide) ?_
  refine lv_iadd hx hb dL_law_1490 ?_
  refine va_sld hx hb hX hbl hbA hS (sc_in (by omega) t_1 (by omega) (by omega) (by omega)) dL_law_1491 ?_
  refine lv_aload_n hx hb dL_law_1492 rfl (lv_at hl 3 rfl) ?_
  refine lv_iload_n hx hb dL_law_1493 rfl (lv_at hl 0 rfl) ?_
  refine lv_iconst (v := 2) hx hb dL_law_1494 (by decide) ?_
  refine lv_iadd hx hb dL_law_1495 ?_
  refine va_sld hx hb hX hbl hbA hS (sc_in (by omega) t_2 (by omega) (by omega) (by omega)) dL_law_1496 ?_
  refine aftU_i (runMG (rest := []) (As := [.int (xs (i + 1).toNatClampNeg), .int (xs (i + 2).toNatClampNeg)]) hx hb hml hown htb (U_X9_holder l D E qm (xs (i + 1).toNatClampNeg) (xs (i + 2).toNatClampNeg) _ zm hIm) ok_X9_holder k_1484 k_1485 k_1486 k_9 k_1487 ⟨(Nat.le_of_ble_eq_true rfl), (Nat.le_of_ble_eq_true rfl)⟩ ⟨(show (123 + 5 * k) + 0 + 0 ≤ 600000 by omega), (show (44666 + 1604 * k) + 0 + 0 ≤ 7302250 by omega)⟩ hl.1 (Nat.le_of_ble_eq_true rfl) rfl rfl dL_law_1497 (pmU List.perm_append_comm hP hD hK (rP hP) rfl rfl 0 rfl)) List.perm_append_comm hP hD hS hA (fun r_4 zs_6 H locs hw_5 hP hD hS => ?_)
  have hP := sw_P hP; have hD := sw_D hD
  obtain ⟨hIm, hw_5_0⟩ := hw_5
  refine lv_pop hx hb dL_law_1500 rfl ?_
  refine lv_goto (tgt := 1550) hx hb dL_law_1501 (by decide) ?_
  refine W.widen (k := (123 + 5 * k) + 5) (n := (44666 + 1604 * k) + 1604) (by omega) (by omega) ?_
  exact next zs_3 zs_6 _ _ _ ⟨hIx, hIm, (TR_kp hTR (KP_X8_holder hw_2_0) (KP_X9_holder hw_5_0) (KQ_X9_holder hw_5_0))⟩ hP hD hS (lv_sub hl [0, 1, 2, 3] rfl)
set_option maxHeartbeats 4000000 in
set_option maxRecDepth 100000 in
theorem law_34 {p : Program} {l : Launch} {e : Env} {s : State} {m : MethodId} {below : List Frame} {meth : Method} {c : Code} {D : va_G} {E : Nat → Nat} {b L : Nat} {xs : Nat → Int32} (hx : p.tables.exec = Jvm.exec) (hb : c.code = code) (hr : meth.sig.returnType = ret) (hml : c.maxLocals = 4) (hown : s.vm.findClass R_law = some m.cls) (htb : ∀ w ∈ tb, w.before #[Value.ref b] s = true) (hK : KX D E s) (hG : SGs [((E 6), (E 8), 60, tw6), ((E 7), (E 9), 35, tw7)] (fun q : Nat => s.heap.size ≤ q) s s.heap) (hX : va_X b L xs s s.heap) (hL : L ≤ 3072) (hbl : b < s.heap.size) (hlocks : meth.locks = false) {qx qm k : Nat} {i : Int32} (hk : k ≤ 512) (hi : i.toInt = 6 * (k : Int)) (hiL : i.toInt + 6 ≤ (L : Int)) {zx : XS} {zm : MS} {H : Heap} {locs : List Loc} {ls : Array Slot} (hI : LI zx zm) (hP : va_P D vwCl (XW E qx zx ++ MW E qm zm) H) (hD : va_D (fun q : Nat => s.heap.size ≤ q) (XW E qx zx ++ MW E qm zm)) (hS : va_S (fun q : Nat => s.heap.size ≤ q) s.heap H locs) (hl : lv_has ls 4 [(3, .int i), (2, .ref qm), (1, .ref qx), (0, .ref b)]) (next : ∀ (zx : XS) (zm : MS) (H : Heap) (locs : List Loc) (ls : Array Slot), LI zx zm → va_P D vwCl (XW E qx zx ++ MW E qm zm) H → va_D (fun q : Nat => s.heap.size ≤ q) (XW E qx zx ++ MW E qm zm) → va_S (fun q : Nat => s.heap.size ≤ q) s.heap H locs → lv_has ls 4 [(3, .int i), (2, .ref qm), (1, .ref qx), (0, .ref b)] → W p l e room_1 s m #[Value.ref b] below meth c H locs ((123 + 5 * k) + 5) ((44666 + 1604 * k) + 1604) (lw_Z below #[Value.ref b] s) (F0 m 1550 ls [])) : W p l e room_1 s m #[Value.ref b] below meth c H locs (123 + 5 * k) (44666 + 1604 * k) (lw_Z below #[Value.ref b] s) (F0 m 1504 ls []) := by
  have hA : ∀ q : Nat, s.heap.size ≤ q → (fun q : Nat => s.heap.size ≤ q) q := fun _ h => h
  have hbA : ¬ (fun q : Nat => s.heap.size ≤ q) b := Nat.not_le.mpr hbl
  obtain ⟨hIx, hIm, hTR⟩ := hI
  have hI0 := hIx
  refine lv_aload_n hx hb dL_law_1504 rfl (lv_at hl 2 rfl) ?_
  refine lv_aload_n hx hb dL_law_1505 rfl (lv_at hl 3 rfl) ?_
  refine lv_iload_n hx hb dL_law_1506 rfl (lv_at hl 0 rfl) ?_
  refine lv_iconst (v := 1) hx hb dL_law_1507 (by decide) ?_
  refine lv_iadd hx hb dL_law_1508 ?_
  refine va_sld hx hb hX hbl hbA hS (sc_in (by omega) t_1 (by omega) (by omega) (by omega)) dL_law_1509 ?_
  refine aftU_i (runMG (rest := []) (As := [.int (xs (i + 1).toNatClampNeg)]) hx hb hml hown htb (U_X8_away l D E qx (xs (i + 1).toNatClampNeg) _ zx hIx) ok_X8_away k_933 k_934 k_935 k_1 k_936 ⟨(Nat.le_of_ble_eq_true rfl), (Nat.le_of_ble_eq_true rfl)⟩ ⟨(show (123 + 5 * k) + 0 ≤ 600000 by omega), (show (44666 + 1604 * k) + 0 ≤ 7302250 by omega)⟩ hl.1 (Nat.le_of_ble_eq_true rfl) rfl rfl dL_law_1510 (pmU (List.Perm.refl _) hP hD hK (XW_c (lP hP)) rfl rfl 0 rfl)) (List.Perm.refl _) hP hD hS hA (fun r_1 zs_3 H locs hw_2 hP hD hS => ?_)
  obtain ⟨hIx, hw_2_0⟩ := hw_2
  refine lv_pop hx hb dL_law_1513 rfl ?_
  refine lv_aload_n hx hb dL_law_1514 rfl (lv_at hl 1 rfl) ?_
  refine lv_aload_n hx hb dL_law_1515 rfl (lv_at hl 3 rfl) ?_
  refine lv_iload_n hx hb dL_law_1516 rfl (lv_at hl 0 rfl) ?_
  refine lv_iconst (v := 1) hx hb dL_law_1517 (by decide) ?_
  refine lv_iadd hx hb dL_law_1518 ?_
  refine va_sld hx hb hX hbl hbA hS (sc_in (by omega) t_1 (by omega) (by omega) (by omega)) dL_law_1519 ?_
  refine aftU_i (runMG (rest := []) (As := [.int (xs (i + 1).toNatClampNeg)]) hx hb hml hown htb (U_X9_away l D E qm (xs (i + 1).toNatClampNeg) _ zm hIm) ok_X9_away k_1488 k_1489 k_1490 k_9 k_1491 ⟨(Nat.le_of_ble_eq_true rfl), (Nat.le_of_ble_eq_true rfl)⟩ ⟨(show (123 + 5 * k) + 0 + 0 ≤ 600000 by omega), (show (44666 + 1604 * k) + 0 + 0 ≤ 7302250 by omega)⟩ hl.1 (Nat.le_of_ble_eq_true rfl) rfl rfl dL_law_1520 (pmU List.perm_append_comm hP hD hK (rP hP) rfl rfl 0 rfl)) List.perm_append_comm hP hD hS hA (fun r_4 zs_6 H locs hw_5 hP hD hS => ?_)
  have hP := sw_P hP; have hD := sw_D hD
  obtain ⟨hIm, hw_5_0⟩ := hw_5
  refine lv_pop hx hb dL_law_1523 rfl ?_
  refine lv_goto (tgt := 1550) hx hb dL_law_1524 (by decide) ?_
  refine W.widen (k := (123 + 5 * k) + 5) (n := (44666 + 1604 * k) + 1604) (by omega) (by omega) ?_
  exact next zs_3 zs_6 _ _ _ ⟨hIx, hIm, (TR_kp hTR (KP_X8_away hw_2_0) (KP_X9_away hw_5_0) (KQ_X9_away hw_5_0))⟩ hP hD hS (lv_sub hl [0, 1, 2, 3] rfl)
set_option maxHeartbeats 4000000 in
set_option maxRecDepth 100000 in
theorem law_35 {p : Program} {l : Launch} {e : Env} {s : State} {m : MethodId} {below : List Frame} {meth : Method} {c : Code} {D : va_G} {E : Nat → Nat} {b L : Nat} {xs : Nat → Int32} (hx : p.tables.exec = Jvm.exec) (hb : c.code = code) (hr : meth.sig.returnType = ret) (hml : c.maxLocals = 4) (hown : s.vm.findClass R_law = some m.cls) (htb : ∀ w ∈ tb, w.before #[Value.ref b] s = true) (hK : KX D E s) (hG : SGs [((E 6), (E 8), 60, tw6), ((E 7), (E 9), 35, tw7)] (fun q : Nat => s.heap.size ≤ q) s s.heap) (hX : va_X b L xs s s.heap) (hL : L ≤ 3072) (hbl : b < s.heap.size) (hlocks : meth.locks = false) {qx qm k : Nat} {i : Int32} (hk : k ≤ 512) (hi : i.toInt = 6 * (k : Int)) (hiL : i.toInt + 6 ≤ (L : Int)) {zx : XS} {zm : MS} {H : Heap} {locs : List Loc} {ls : Array Slot} (hI : LI zx zm) (hP : va_P D vwCl (XW E qx zx ++ MW E qm zm) H) (hD : va_D (fun q : Nat => s.heap.size ≤ q) (XW E qx zx ++ MW E qm zm)) (hS : va_S (fun q : Nat => s.heap.size ≤ q) s.heap H locs) (hl : lv_has ls 4 [(3, .int i), (2, .ref qm), (1, .ref qx), (0, .ref b)]) (next : ∀ (zx : XS) (zm : MS) (H : Heap) (locs : List Loc) (ls : Array Slot), LI zx zm → va_P D vwCl (XW E qx zx ++ MW E qm zm) H → va_D (fun q : Nat => s.heap.size ≤ q) (XW E qx zx ++ MW E qm zm) → va_S (fun q : Nat => s.heap.size ≤ q) s.heap H locs → lv_has ls 4 [(3, .int i), (2, .ref qm), (1, .ref qx), (0, .ref b)] → W p l e room_1 s m #[Value.ref b] below meth c H locs ((123 + 5 * k) + 5) ((44666 + 1604 * k) + 1604) (lw_Z below #[Value.ref b] s) (F0 m 1550 ls [])) : W p l e room_1 s m #[Value.ref b] below meth c H locs (123 + 5 * k) (44666 + 1604 * k) (lw_Z below #[Value.ref b] s) (F0 m 1527 ls []) := by
  have hA : ∀ q : Nat, s.heap.size ≤ q → (fun q : Nat => s.heap.size ≤ q) q := fun _ h => h
  have hbA : ¬ (fun q : Nat => s.heap.size ≤ q) b := Nat.not_le.mpr hbl
  obtain ⟨hIx, hIm, hTR⟩ := hI
  have hI0 := hIx
  refine lv_aload_n hx hb dL_law_1527 rfl (lv_at hl 2 rfl) ?_
  refine lv_aload_n hx hb dL_law_1528 rfl (lv_at hl 3 rfl) ?_
  refine lv_iload_n hx hb dL_law_1529 rfl (lv_at hl 0 rfl) ?_
  refine lv_iconst (v := 1) hx hb dL_law_1530 (by decide) ?_
  refine lv_iadd hx hb dL_law_1531 ?_
  refine va_sld hx hb hX hbl hbA hS (sc_in (by omega) t_1 (by omega) (by omega) (by omega)) dL_law_1532 ?_
  refine aftU_i (runMG (rest := []) (As := [.int (xs (i + 1).toNatClampNeg)]) hx hb hml hown htb (U_X8_count l D E qx (xs (i + 1).toNatClampNeg) _ zx hIx) ok_X8_count k_941 k_942 k_943 k_1 k_944 ⟨(Nat.le_of_ble_eq_true rfl), (Nat.le_of_ble_eq_true rfl)⟩ ⟨(show (123 + 5 * k) + 0 ≤ 600000 by omega), (show (44666 + 1604 * k) + 0 ≤ 7302250 by omega)⟩ hl.1 (Nat.le_of_ble_eq_true rfl) rfl rfl dL_law_1533 (pmU (List.Perm.refl _) hP hD hK (XW_c (lP hP)) rfl rfl 0 rfl)) (List.Perm.refl _) hP hD hS hA (fun r_1 zs_3 H locs hw_2 hP hD hS => ?_)
  obtain ⟨hIx, hw_2_0⟩ := hw_2
  refine lv_pop hx hb dL_law_1536 rfl ?_
  refine lv_aload_n hx hb dL_law_1537 rfl (lv_at hl 1 rfl) ?_
  refine lv_aload_n hx hb dL_law_1538 rfl (lv_at hl 3 rfl) ?_
  refine lv_iload_n hx hb dL_law_1539 rfl (lv_at hl 0 rfl) ?_
  refine lv_iconst (v := 1) hx hb dL_law_1540 (by decide) ?_
  refine lv_iadd hx hb dL_law_1541 ?_
  refine va_sld hx hb hX hbl hbA hS (sc_in (by omega) t_1 (by omega) (by omega) (by omega)) dL_law_1542 ?_
  refine aftU_i (runMG (rest := []) (As := [.int (xs (i + 1).toNatClampNeg)]) hx hb hml hown htb (U_X9_count l D E qm (xs (i + 1).toNatClampNeg) _ zm hIm) ok_X9_count k_1492 k_1493 k_1494 k_9 k_1495 ⟨(Nat.le_of_ble_eq_true rfl), (Nat.le_of_ble_eq_true rfl)⟩ ⟨(show (123 + 5 * k) + 0 + 0 ≤ 600000 by omega), (show (44666 + 1604 * k) + 0 + 0 ≤ 7302250 by omega)⟩ hl.1 (Nat.le_of_ble_eq_true rfl) rfl rfl dL_law_1543 (pmU List.perm_append_comm hP hD hK (rP hP) rfl rfl 0 rfl)) List.perm_append_comm hP hD hS hA (fun r_4 zs_6 H locs hw_5 hP hD hS => ?_)
  have hP := sw_P hP; have hD := sw_D hD
  obtain ⟨hIm, hw_5_0⟩ := hw_5
  refine lv_pop hx hb dL_law_1546 rfl ?_
  refine lv_goto (tgt := 1550) hx hb dL_law_1547 (by decide) ?_
  refine W.widen (k := (123 + 5 * k) + 5) (n := (44666 + 1604 * k) + 1604) (by omega) (by omega) ?_
  exact next zs_3 zs_6 _ _ _ ⟨hIx, hIm, (TR_kp hTR (KP_X8_count hw_2_0) (KP_X9_count hw_5_0) (KQ_X9_count hw_5_0))⟩ hP hD hS (lv_sub hl [0, 1, 2, 3] rfl)
end
section
set_option maxHeartbeats 4000000 in
set_option maxRecDepth 100000 in
theorem law_loop {p : Program} {l : Launch} {e : Env} {s : State} {m : MethodId} {below : List Frame} {meth : Method} {c : Code} {D : va_G} {E : Nat → Nat} {b L : Nat} {xs : Nat → Int32} (hx : p.tables.exec = Jvm.exec) (hb : c.code = code) (hr : meth.sig.returnType = ret) (hml : c.maxLocals = 4) (hown : s.vm.findClass R_law = some m.cls) (htb : ∀ w ∈ tb, w.before #[Value.ref b] s = true) (hK : KX D E s) (hG : SGs [((E 6), (E 8), 60, tw6), ((E 7), (E 9), 35, tw7)] (fun q : Nat => s.heap.size ≤ q) s s.heap) (hX : va_X b L xs s s.heap) (hL : L ≤ 3072) (hbl : b < s.heap.size) (hlocks : meth.locks = false) {qx qm : Nat} : ∀ (N k : Nat) (i : Int32) (zx : XS) (zm : MS) (H : Heap) (locs : List Loc) (ls : Array Slot), (L : Int) + 1 - 6 * (k : Int) < (N : Int) → (6 * (k : Int) ≤ (L : Int) ∨ k = 0) → i.toInt = 6 * (k : Int) → LI zx zm → va_P D vwCl (XW E qx zx ++ MW E qm zm) H → va_D (fun q : Nat => s.heap.size ≤ q) (XW E qx zx ++ MW E qm zm) → va_S (fun q : Nat => s.heap.size ≤ q) s.heap H locs → lv_has ls 4 [(3, .int i), (2, .ref qm), (1, .ref qx), (0, .ref b)] → W p l e room_1 s m #[Value.ref b] below meth c H locs (123 + 5 * k) (44666 + 1604 * k) (lw_Z below #[Value.ref b] s) (F0 m 18 ls []) := by
  have hA : ∀ q : Nat, s.heap.size ≤ q → (fun q : Nat => s.heap.size ≤ q) q := fun _ h => h
  have hbA : ¬ (fun q : Nat => s.heap.size ≤ q) b := Nat.not_le.mpr hbl
  intro N
  induction N with
  | zero => intro k i zx zm H locs ls hm hkL; exfalso; omega
  | succ N ih =>
    intro k i zx zm H locs ls hm hkL hi hI hP hD hS hl
    have lo_i : 0 ≤ i.toInt := by omega
    have hi_i : i.toInt ≤ 3072 := by omega
    refine lv_iload_n hx hb dL_law_18 rfl (lv_at hl 0 rfl) ?_
    refine lv_aload_n hx hb dL_law_19 rfl (lv_at hl 3 rfl) ?_
    refine va_slen hx hb hX hbl hbA hS dL_law_20 ?_
    refine lv_topi (fun z_1 ez_1 => ?_)
    have jz_1 := len_toInt hL ez_1
    refine lv_bipush (v := 6) hx hb dL_law_21 (by decide) ?_
    refine lv_isub hx hb dL_law_23 ?_
    refine lv_topi (fun z_2 ez_2 => ?_)
    have jz_2 : z_2.toInt = z_1.toInt - 6 := by rw [ez_2]; exact g_sub rfl t_6 (by omega) (by omega)
    refine lv_icmp_gt (tgt := 1556) hx hb dL_law_24 (by decide) (fun c_3 => ?_) (fun c_3 => ?_)
    ·
      have ic_3 : z_2.toInt < i.toInt := by first | exact (g_lt rfl rfl).mp c_3 | (have h := mt (g_le rfl rfl).mpr c_3; omega)
      clear c_3
      refine lv_iconst (v := 1) hx hb dL_law_1556 (by decide) ?_
      refine va_forget (fun q hq => hS.2.2 q hq) ?_
      refine W.widen (k := 600000) (n := 7302250) (by omega) (by omega) ?_
      exact lw_ret hx hb hr hlocks dL_law_1557
    ·
      have ic_3 : i.toInt ≤ z_2.toInt := by first | exact (g_le rfl rfl).mp c_3 | (have h := mt (g_lt rfl rfl).mpr c_3; omega)
      clear c_3
      refine lv_aload_n hx hb dL_law_27 rfl (lv_at hl 3 rfl) ?_
      refine lv_iload_n hx hb dL_law_28 rfl (lv_at hl 0 rfl) ?_
      refine va_sld hx hb hX hbl hbA hS (g_in rfl (by omega) (by omega)) dL_law_29 ?_
      refine lv_bipush (v := 63) hx hb dL_law_30 (by decide) ?_
      refine lv_iand hx hb dL_law_32 ?_
      refine lv_topi (fun z_4 ez_4 => ?_)
      have next : ∀ (zx : XS) (zm : MS) (H : Heap) (locs : List Loc) (ls : Array Slot), LI zx zm → va_P D vwCl (XW E qx zx ++ MW E qm zm) H → va_D (fun q : Nat => s.heap.size ≤ q) (XW E qx zx ++ MW E qm zm) → va_S (fun q : Nat => s.heap.size ≤ q) s.heap H locs → lv_has ls 4 [(3, .int i), (2, .ref qm), (1, .ref qx), (0, .ref b)] → W p l e room_1 s m #[Value.ref b] below meth c H locs ((123 + 5 * k) + 5) ((44666 + 1604 * k) + 1604) (lw_Z below #[Value.ref b] s) (F0 m 1550 ls []) := by
        intro zx zm H locs ls hI hP hD hS hl
        obtain ⟨y, ey⟩ : ∃ y : Int32, y = i + 6 := ⟨_, rfl⟩
        have jy : y.toInt = i.toInt + 6 := by rw [ey]; exact g_add rfl t_6 (by omega) (by omega)
        refine lv_iinc (v := y) (lv' := [(3, .int y), (2, .ref qm), (1, .ref qx), (0, .ref b)]) hx hb dL_law_1550 hl (k := 0) rfl (by rw [ey]; rfl) (by decide) rfl (fun ls hl => ?_)
        refine lv_goto (tgt := 18) hx hb dL_law_1553 (by decide) ?_
        have h9 := ih (k + 1) y zx zm H locs ls (by omega) (Or.inl (by omega)) (by omega) hI hP hD hS hl
        rw [show (123 + 5 * (k + 1)) = (123 + 5 * k) + 5 by omega, show (44666 + 1604 * (k + 1)) = (44666 + 1604 * k) + 1604 by omega] at h9
        exact h9
      have hl := lv_sub hl [0, 1, 2, 3] rfl (l' := [(3, .int i), (2, .ref qm), (1, .ref qx), (0, .ref b)])
      by_cases h_5 : z_4.toInt < 0 ∨ 35 < z_4.toInt
      · refine lv_tableOut (tgt := 1550) hx hb dL_law_33 h_5 (by decide) ?_
        refine W.widen (k := (123 + 5 * k) + 5) (n := (44666 + 1604 * k) + 1604) (by omega) (by omega) ?_
        exact next zx zm _ _ _ hI hP hD hS hl
      ·
        have h_6 : z_4.toInt = 0 ∨ z_4.toInt = 1 ∨ z_4.toInt = 2 ∨ z_4.toInt = 3 ∨ z_4.toInt = 4 ∨ z_4.toInt = 5 ∨ z_4.toInt = 6 ∨ z_4.toInt = 7 ∨ z_4.toInt = 8 ∨ z_4.toInt = 9 ∨ z_4.toInt = 10 ∨ z_4.toInt = 11 ∨ z_4.toInt = 12 ∨ z_4.toInt = 13 ∨ z_4.toInt = 14 ∨ z_4.toInt = 15 ∨ z_4.toInt = 16 ∨ z_4.toInt = 17 ∨ z_4.toInt = 18 ∨ z_4.toInt = 19 ∨ z_4.toInt = 20 ∨ z_4.toInt = 21 ∨ z_4.toInt = 22 ∨ z_4.toInt = 23 ∨ z_4.toInt = 24 ∨ z_4.toInt = 25 ∨ z_4.toInt = 26 ∨ z_4.toInt = 27 ∨ z_4.toInt = 28 ∨ z_4.toInt = 29 ∨ z_4.toInt = 30 ∨ z_4.toInt = 31 ∨ z_4.toInt = 32 ∨ z_4.toInt = 33 ∨ z_4.toInt = 34 ∨ z_4.toInt = 35 := by omega
        rcases h_6 with h_6 | h_6 | h_6 | h_6 | h_6 | h_6 | h_6 | h_6 | h_6 | h_6 | h_6 | h_6 | h_6 | h_6 | h_6 | h_6 | h_6 | h_6 | h_6 | h_6 | h_6 | h_6 | h_6 | h_6 | h_6 | h_6 | h_6 | h_6 | h_6 | h_6 | h_6 | h_6 | h_6 | h_6 | h_6 | h_6
        · refine lv_tableIn (off := 159) (tgt := 192) hx hb dL_law_33 (by omega) (by omega) (by rw [h_6]; decide) (by decide) ?_
          exact law_0 hx hb hr hml hown htb hK hG hX hL hbl hlocks (by omega) hi (by omega) hI hP hD hS hl next
        · refine lv_tableIn (off := 182) (tgt := 215) hx hb dL_law_33 (by omega) (by omega) (by rw [h_6]; decide) (by decide) ?_
          exact law_1 hx hb hr hml hown htb hK hG hX hL hbl hlocks (by omega) hi (by omega) hI hP hD hS hl next
        · refine lv_tableIn (off := 215) (tgt := 248) hx hb dL_law_33 (by omega) (by omega) (by rw [h_6]; decide) (by decide) ?_
          exact law_2 hx hb hr hml hown htb hK hG hX hL hbl hlocks (by omega) hi (by omega) hI hP hD hS hl next
        · refine lv_tableIn (off := 258) (tgt := 291) hx hb dL_law_33 (by omega) (by omega) (by rw [h_6]; decide) (by decide) ?_
          exact law_3 hx hb hr hml hown htb hK hG hX hL hbl hlocks (by omega) hi (by omega) hI hP hD hS hl next
        · refine lv_tableIn (off := 281) (tgt := 314) hx hb dL_law_33 (by omega) (by omega) (by rw [h_6]; decide) (by decide) ?_
          exact law_4 hx hb hr hml hown htb hK hG hX hL hbl hlocks (by omega) hi (by omega) hI hP hD hS hl next
        · refine lv_tableIn (off := 304) (tgt := 337) hx hb dL_law_33 (by omega) (by omega) (by rw [h_6]; decide) (by decide) ?_
          exact law_5 hx hb hr hml hown htb hK hG hX hL hbl hlocks (by omega) hi (by omega) hI hP hD hS hl next
        · refine lv_tableIn (off := 327) (tgt := 360) hx hb dL_law_33 (by omega) (by omega) (by rw [h_6]; decide) (by decide) ?_
          exact law_6 hx hb hr hml hown htb hK hG hX hL hbl hlocks (by omega) hi (by omega) hI hP hD hS hl next
        · refine lv_tableIn (off := 380) (tgt := 413) hx hb dL_law_33 (by omega) (by omega) (by rw [h_6]; decide) (by decide) ?_
          exact law_7 hx hb hr hml hown htb hK hG hX hL hbl hlocks (by omega) hi (by omega) hI hP hD hS hl next
        · refine lv_tableIn (off := 423) (tgt := 456) hx hb dL_law_33 (by omega) (by omega) (by rw [h_6]; decide) (by decide) ?_
          exact law_8 hx hb hr hml hown htb hK hG hX hL hbl hlocks (by omega) hi (by omega) hI hP hD hS hl next
        · refine lv_tableIn (off := 466) (tgt := 499) hx hb dL_law_33 (by omega) (by omega) (by rw [h_6]; decide) (by decide) ?_
          exact law_9 hx hb hr hml hown htb hK hG hX hL hbl hlocks (by omega) hi (by omega) hI hP hD hS hl next
        · refine lv_tableIn (off := 499) (tgt := 532) hx hb dL_law_33 (by omega) (by omega) (by rw [h_6]; decide) (by decide) ?_
          exact law_10 hx hb hr hml hown htb hK hG hX hL hbl hlocks (by omega) hi (by omega) hI hP hD hS hl next
        · refine lv_tableIn (off := 532) (tgt := 565) hx hb dL_law_33 (by omega) (by omega) (by rw [h_6]; decide) (by decide) ?_
          exact law_11 hx hb hr hml hown htb hK hG hX hL hbl hlocks (by omega) hi (by omega) hI hP hD hS hl next
        · refine lv_tableIn (off := 565) (tgt := 598) hx hb dL_law_33 (by omega) (by omega) (by rw [h_6]; decide) (by decide) ?_
          exact law_12 hx hb hr hml hown htb hK hG hX hL hbl hlocks (by omega) hi (by omega) hI hP hD hS hl next
        · refine lv_tableIn (off := 618) (tgt := 651) hx hb dL_law_33 (by omega) (by omega) (by rw [h_6]; decide) (by decide) ?_
          exact law_13 hx hb hr hml hown htb hK hG hX hL hbl hlocks (by omega) hi (by omega) hI hP hD hS hl next
        · refine lv_tableIn (off := 671) (tgt := 704) hx hb dL_law_33 (by omega) (by omega) (by rw [h_6]; decide) (by decide) ?_
          exact law_14 hx hb hr hml hown htb hK hG hX hL hbl hlocks (by omega) hi (by omega) hI hP hD hS hl next
        · refine lv_tableIn (off := 714) (tgt := 747) hx hb dL_law_33 (by omega) (by omega) (by rw [h_6]; decide) (by decide) ?_
          exact law_15 hx hb hr hml hown htb hK hG hX hL hbl hlocks (by omega) hi (by omega) hI hP hD hS hl next
        · refine lv_tableIn (off := 757) (tgt := 790) hx hb dL_law_33 (by omega) (by omega) (by rw [h_6]; decide) (by decide) ?_
          exact law_16 hx hb hr hml hown htb hK hG hX hL hbl hlocks (by omega) hi (by omega) hI hP hD hS hl next
        · refine lv_tableIn (off := 820) (tgt := 853) hx hb dL_law_33 (by omega) (by omega) (by rw [h_6]; decide) (by decide) ?_
          exact law_17 hx hb hr hml hown htb hK hG hX hL hbl hlocks (by omega) hi (by omega) hI hP hD hS hl next
        · refine lv_tableIn (off := 873) (tgt := 906) hx hb dL_law_33 (by omega) (by omega) (by rw [h_6]; decide) (by decide) ?_
          exact law_18 hx hb hr hml hown htb hK hG hX hL hbl hlocks (by omega) hi (by omega) hI hP hD hS hl next
        · refine lv_tableIn (off := 906) (tgt := 939) hx hb dL_law_33 (by omega) (by omega) (by rw [h_6]; decide) (by decide) ?_
          exact law_19 hx hb hr hml hown htb hK hG hX hL hbl hlocks (by omega) hi (by omega) hI hP hD hS hl next
        · refine lv_tableIn (off := 929) (tgt := 962) hx hb dL_law_33 (by omega) (by omega) (by rw [h_6]; decide) (by decide) ?_
          exact law_20 hx hb hr hml hown htb hK hG hX hL hbl hlocks (by omega) hi (by omega) hI hP hD hS hl next
        · refine lv_tableIn (off := 972) (tgt := 1005) hx hb dL_law_33 (by omega) (by omega) (by rw [h_6]; decide) (by decide) ?_
          exact law_21 hx hb hr hml hown htb hK hG hX hL hbl hlocks (by omega) hi (by omega) hI hP hD hS hl next
        · refine lv_tableIn (off := 1015) (tgt := 1048) hx hb dL_law_33 (by omega) (by omega) (by rw [h_6]; decide) (by decide) ?_
          exact law_22 hx hb hr hml hown htb hK hG hX hL hbl hlocks (by omega) hi (by omega) hI hP hD hS hl next
        · refine lv_tableIn (off := 1068) (tgt := 1101) hx hb dL_law_33 (by omega) (by omega) (by rw [h_6]; decide) (by decide) ?_
          exact law_23 hx hb hr hml hown htb hK hG hX hL hbl hlocks (by omega) hi (by omega) hI hP hD hS hl next
        · refine lv_tableIn (off := 1111) (tgt := 1144) hx hb dL_law_33 (by omega) (by omega) (by rw [h_6]; decide) (by decide) ?_
          exact law_24 hx hb hr hml hown htb hK hG hX hL hbl hlocks (by omega) hi (by omega) hI hP hD hS hl next
        · refine lv_tableIn (off := 1174) (tgt := 1207) hx hb dL_law_33 (by omega) (by omega) (by rw [h_6]; decide) (by decide) ?_
          exact law_25 hx hb hr hml hown htb hK hG hX hL hbl hlocks (by omega) hi (by omega) hI hP hD hS hl next
        · refine lv_tableIn (off := 1217) (tgt := 1250) hx hb dL_law_33 (by omega) (by omega) (by rw [h_6]; decide) (by decide) ?_
          exact law_26 hx hb hr hml hown htb hK hG hX hL hbl hlocks (by omega) hi (by omega) hI hP hD hS hl next
        · refine lv_tableIn (off := 1270) (tgt := 1303) hx hb dL_law_33 (by omega) (by omega) (by rw [h_6]; decide) (by decide) ?_
          exact law_27 hx hb hr hml hown htb hK hG hX hL hbl hlocks (by omega) hi (by omega) hI hP hD hS hl next
        · refine lv_tableIn (off := 1293) (tgt := 1326) hx hb dL_law_33 (by omega) (by omega) (by rw [h_6]; decide) (by decide) ?_
          exact law_28 hx hb hr hml hown htb hK hG hX hL hbl hlocks (by omega) hi (by omega) hI hP hD hS hl next
        · refine lv_tableIn (off := 1316) (tgt := 1349) hx hb dL_law_33 (by omega) (by omega) (by rw [h_6]; decide) (by decide) ?_
          exact law_29 hx hb hr hml hown htb hK hG hX hL hbl hlocks (by omega) hi (by omega) hI hP hD hS hl next
        · refine lv_tableIn (off := 1359) (tgt := 1392) hx hb dL_law_33 (by omega) (by omega) (by rw [h_6]; decide) (by decide) ?_
          exact law_30 hx hb hr hml hown htb hK hG hX hL hbl hlocks (by omega) hi (by omega) hI hP hD hS hl next
        · refine lv_tableIn (off := 1382) (tgt := 1415) hx hb dL_law_33 (by omega) (by omega) (by rw [h_6]; decide) (by decide) ?_
          exact law_31 hx hb hr hml hown htb hK hG hX hL hbl hlocks (by omega) hi (by omega) hI hP hD hS hl next
        · refine lv_tableIn (off := 1415) (tgt := 1448) hx hb dL_law_33 (by omega) (by omega) (by rw [h_6]; decide) (by decide) ?_
          exact law_32 hx hb hr hml hown htb hK hG hX hL hbl hlocks (by omega) hi (by omega) hI hP hD hS hl next
        · refine lv_tableIn (off := 1438) (tgt := 1471) hx hb dL_law_33 (by omega) (by omega) (by rw [h_6]; decide) (by decide) ?_
          exact law_33 hx hb hr hml hown htb hK hG hX hL hbl hlocks (by omega) hi (by omega) hI hP hD hS hl next
        · refine lv_tableIn (off := 1471) (tgt := 1504) hx hb dL_law_33 (by omega) (by omega) (by rw [h_6]; decide) (by decide) ?_
          exact law_34 hx hb hr hml hown htb hK hG hX hL hbl hlocks (by omega) hi (by omega) hI hP hD hS hl next
        · refine lv_tableIn (off := 1494) (tgt := 1527) hx hb dL_law_33 (by omega) (by omega) (by rw [h_6]; decide) (by decide) ?_
          exact law_35 hx hb hr hml hown htb hK hG hX hL hbl hlocks (by omega) hi (by omega) hI hP hD hS hl next
end
section
def tmS (i : Nat) : Term := match i with
  | 0 => .string "SeaWatches" 182
  | _ => .string "SeaWatches" 184
def byS : List (List Int32) := [[111, 114, 32, 97, 110, 100, 32, 110, 111, 116, 32, 97, 98, 115, 32, 100, 97, 121, 115, 32, 108, 101, 97, 115, 116, 32, 109, 111, 115, 116, 32, 115, 112, 97, 110, 32, 103, 97, 112, 115, 32, 106, 117, 109, 112, 32, 100, 114, 105, 102, 116, 32, 115, 117, 109, 32, 119, 97, 114, 109], [111, 114, 32, 97, 110, 100, 32, 110, 111, 116, 32, 97, 98, 115, 32, 111, 102, 102, 32, 100, 111, 117, 98, 116, 32, 100, 97, 121, 115, 32, 119, 104, 105, 99, 104]]
def lnS : List Nat := [60, 35]
set_option maxHeartbeats 4000000 in
set_option maxRecDepth 100000 in
theorem elS0 : ∀ j : Nat, j < 60 → Cond.eq (.elem (.field (tmS 0) "java/lang/String" "value" "[B") (.int (Int32.ofNat j))) (.int ((byS.getD 0 []).getD j 0)) ∈ flatC (Jvm.Cond.and given_1 narrow_1) := by decide +kernel
set_option maxHeartbeats 4000000 in
set_option maxRecDepth 100000 in
theorem elS1 : ∀ j : Nat, j < 35 → Cond.eq (.elem (.field (tmS 1) "java/lang/String" "value" "[B") (.int (Int32.ofNat j))) (.int ((byS.getD 1 []).getD j 0)) ∈ flatC (Jvm.Cond.and given_1 narrow_1) := by decide +kernel
set_option maxHeartbeats 4000000 in
set_option maxRecDepth 100000 in
/-- the context at the law's start -/
theorem law_K {p : Program} {s : State} {m : MethodId} {meth : Method} {c : Code} {b L : Nat} {xs : Nat → Int32} (C0 : lw_At p s m meth c b L xs) : ∃ (D : va_G) (E : Nat → Nat), KX D E s ∧ SGs [((E 6), (E 8), 60, tw6), ((E 7), (E 9), 35, tw7)] (fun q : Nat => s.heap.size ≤ q) s s.heap := by
  obtain ⟨hx, hb, hr, hml, hown, hts, hX, hbl, hlocks, hgv⟩ := C0
  have htb : ∀ w ∈ tb, w.before #[Value.ref b] s = true := fun w h => hts w (tb_in h)
  have hs := flat_of_before _ hgv
  have hA : ∀ a : Nat, a < s.heap.size → ¬ (fun q : Nat => s.heap.size ≤ q) a := fun a h => Nat.not_le.mpr h
  obtain ⟨c0, iS0, hK0⟩ := u_known (C := RX0) (T := TX0) (N := 9) (n := 9) htb iX0 (htb _ k_185)
  obtain ⟨c1, iS1, hK1⟩ := u_known (C := RX1) (T := TX1) (N := 15) (n := 15) htb iX1 (htb _ k_78)
  obtain ⟨c2, iS2, hK2⟩ := u_known (C := RX2) (T := TX2) (N := 6) (n := 6) htb iX2 (htb _ k_29)
  obtain ⟨c3, iS3, hK3⟩ := u_known (C := RX3) (T := TX3) (N := 4) (n := 4) htb iX3 (htb _ k_56)
  obtain ⟨c4, iS4, hK4⟩ := u_known (C := RX4) (T := TX4) (N := 4) (n := 4) htb iX4 (htb _ k_136)
  obtain ⟨c5, iS5, hK5⟩ := u_known (C := RX5) (T := TX5) (N := 11) (n := 11) htb iX5 (htb _ k_223)
  obtain ⟨c6, iS6, hK6⟩ := u_known (C := RX6) (T := TX6) (N := 8) (n := 8) htb iX6 (htb _ k_130)
  obtain ⟨c7, iS7, hK7⟩ := u_known (C := RX7) (T := TX7) (N := 4) (n := 4) htb iX7 (htb _ k_343)
  obtain ⟨c8, iS8, hK8⟩ := u_known (C := RX8) (T := TX8) (N := 14) (n := 14) htb iX8 (htb _ k_17)
  obtain ⟨c9, iS9, hK9⟩ := u_known (C := RX9) (T := TX9) (N := 68) (n := 68) htb iX9 (htb _ k_954)
  obtain ⟨e0, ka0, co0, f0a, f0b, f0c⟩ := Cond.arrayClass_spec (htb _ k_54)
  obtain ⟨e1, ka1, co1, f1a, f1b, f1c⟩ := Cond.arrayClass_spec (htb _ k_1163)
  obtain ⟨e2, ka2, co2, f2a, f2b, f2c⟩ := Cond.arrayClass_spec (htb _ k_183)
  obtain ⟨co3, e3, ka3, f3d, -, f3b, f3c, f3a⟩ := Cond.arrayOver_spec (hts _ ao_0)
  obtain ⟨co4, e4, ka4, f4d, -, f4b, f4c, f4a⟩ := Cond.arrayOver_spec (hts _ ao_1)
  obtain ⟨e5, _, _, _, g0, -⟩ := Cond.exactly_spec (args := #[Value.ref b]) (first := s) (o := none) (s := s) (idx := []) (t := Term.string "SeaWatches$Tape" 26) (cls := "java/lang/String") (hs _ (by decide +kernel))
  obtain ⟨aK, aV, hSt, hev⟩ := vk_Sof (N := 2) (tm := tmS) (len := lnS) (byt := byS) (A := (fun q : Nat => s.heap.size ≤ q)) (args := #[Value.ref b]) (s := s) (by decide)
    (fun i hi => by rcases (show i = 0 ∨ i = 1 by omega) with rfl | rfl; exact hs _ (by decide +kernel); exact hs _ (by decide +kernel)) (fun i hi => by rcases (show i = 0 ∨ i = 1 by omega) with rfl | rfl; exact hs _ (by decide +kernel); exact hs _ (by decide +kernel)) (fun i hi => by rcases (show i = 0 ∨ i = 1 by omega) with rfl | rfl; exact hs _ (by decide +kernel); exact hs _ (by decide +kernel)) (fun i hi => by rcases (show i = 0 ∨ i = 1 by omega) with rfl | rfl; exact hs _ (by decide +kernel); exact hs _ (by decide +kernel))
    (fun i hi j hj => by rcases (show i = 0 ∨ i = 1 by omega) with rfl | rfl; exact hs _ (elS0 j hj); exact hs _ (elS1 j hj))
    (fun i j hi hj hij => by rcases (show (i = 0 ∧ j = 1) ∨ (i = 1 ∧ j = 0) by omega) with ⟨rfl, rfl⟩ | ⟨rfl, rfl⟩ <;> first | exact Or.inl (hs _ (by decide +kernel)) | exact Or.inr (hs _ (by decide +kernel)))
    hA
  have hz1 : va_Z "java/lang/String" "COMPACT_STRINGS" "Z" (.int 1) (fun q : Nat => s.heap.size ≤ q) s s.heap := va_Zof (hts _ (lw_t 615 (by decide +kernel))) (hts _ (lw_t 12 (by decide +kernel))) (va_eqt (hs _ (by decide +kernel))) hA
  have hz2 : va_Zq "jdk/internal/util/Preconditions" "SIOOBE_FORMATTER" "Ljava/util/function/BiFunction;" (fun q : Nat => s.heap.size ≤ q) s s.heap := va_Zqof (hts _ (lw_t 631 (by decide +kernel))) (hts _ (lw_t 14 (by decide +kernel))) (hs _ (by decide +kernel)) hA
  refine ⟨(fun k => ([c0, c1, c2, c3, c4, c5, c6, c7, c8, c9] : List ClassId).getD k 0, fun k => ([iS0, iS1, iS2, iS3, iS4, iS5, iS6, iS7, iS8, iS9] : List (Nat → Nat)).getD k (fun _ => 0)), fun k => ([e0, e1, e2, e3, e4, e5, aK 0, aK 1, aV 0, aV 1] : List Nat).getD k 0, ⟨⟨fun k q hq => ?_, fun k q hq => ?_⟩, fun w hw => va_Nw.of (nw_tab (nestW_is w hw)) (hts w (nestW_in w hw)), ⟨va_AO.of (hts _ ao_0), va_AO.of (hts _ ao_1)⟩, vk_R.of (hts _ sr_0) g0, vk_R.of (hts _ sr_1) (hev 0 (by decide)), vk_R.of (hts _ sr_2) (hev 1 (by decide))⟩, fun q hq => ?_⟩
  · match k, hq with
    | 0, hq => cases hq; exact hK0
    | 1, hq => cases hq; exact hK1
    | 2, hq => cases hq; exact hK2
    | 3, hq => cases hq; exact hK3
    | 4, hq => cases hq; exact hK4
    | 5, hq => cases hq; exact hK5
    | 6, hq => cases hq; exact hK6
    | 7, hq => cases hq; exact hK7
    | 8, hq => cases hq; exact hK8
    | 9, hq => cases hq; exact hK9
    | k + 10, hq => simp [vwCl] at hq
  · match k, hq with
    | 0, hq => cases hq; exact ⟨fun n z => ⟨fun k h => (by cases h), ka0, f0b, co0, f0c⟩, f0a⟩
    | 1, hq => cases hq; exact ⟨fun n z => ⟨fun k h => (by cases h), ka1, f1b, co1, f1c⟩, f1a⟩
    | 2, hq => cases hq; exact ⟨fun n z => ⟨fun k h => (by cases h), ka2, f2b, co2, f2c⟩, f2a⟩
    | 3, hq => cases hq; exact ⟨fun n z => ⟨fun k h => (by cases h), ka3, f3b, co3, f3c⟩, ka3, co3, f3b, f3c, f3d, f3a⟩
    | 4, hq => cases hq; exact ⟨fun n z => ⟨fun k h => (by cases h), ka4, f4b, co4, f4c⟩, ka4, co4, f4b, f4c, f4d, f4a⟩
    | k + 5, hq => simp [TY] at hq
  · rcases List.mem_cons.mp hq with rfl | hq2
    · have h0 := hSt.1 0 (by decide)
      exact ⟨hz1, hz2, h0.1, h0.2.1, h0.2.2.1, h0.2.2.2⟩
    · rw [List.mem_singleton] at hq2
      subst hq2
      have h1 := hSt.1 1 (by decide)
      exact ⟨hz1, hz2, h1.1, h1.2.1, h1.2.2.1, h1.2.2.2⟩
end
section
set_option maxHeartbeats 4000000 in
set_option maxRecDepth 100000 in
/-- THE LAW, from its entry -/
theorem whole_start {p : Program} {e : Env} {s : State} {m : MethodId} {below : List Frame} {meth : Method} {c : Code} (l : Launch) {b L : Nat} {xs : Nat → Int32} (hL : L ≤ 3072) (C0 : lw_At p s m meth c b L xs) : W p l e room_1 s m #[Value.ref b] below meth c s.heap [] 0 0 (lw_Z below #[Value.ref b] s) (entryFrame m ([Value.ref b] : List Value).toArray 4) := by
  obtain ⟨D, E, hK, hG⟩ := law_K C0
  obtain ⟨hx, hb, hr, hml, hown, hts, hX, hbl, hlocks, hgv⟩ := C0
  have htb : ∀ w ∈ tb, w.before #[Value.ref b] s = true := fun w h => hts w (tb_in h)
  have hA : ∀ q : Nat, s.heap.size ≤ q → (fun q : Nat => s.heap.size ≤ q) q := fun _ h => h
  have hbA : ¬ (fun q : Nat => s.heap.size ≤ q) b := Nat.not_le.mpr hbl
  have hS : va_S (fun q : Nat => s.heap.size ≤ q) s.heap s.heap [] := va_S.rf
  have hP : va_P D vwCl ([] : va_W) s.heap := fun k q h => by simp at h
  have hD : va_D (fun q : Nat => s.heap.size ≤ q) ([] : va_W) := ⟨fun i j p q h => by simp at h, fun k q h => by simp at h⟩
  have hl := lv_entry ([.ref b]) (n := 4) (Nat.le_of_ble_eq_true rfl)
  rw [lg_entry_eq]
  generalize (lg_sl ([.ref b]) ++ List.replicate (4 - (lg_sl ([.ref b])).length) Slot.unset).toArray = ls at hl ⊢
  have hl : lv_has ls 4 [(0, .ref b)] := hl
  refine va_new (ci := 8) (fs := [.null, .null, .null, .null, .null, .null, .null, .null, .null, .null, .null, .null, .null, .int 0]) (C := RX8) (T := TX8) (N := 14) hx hb htb iX8 tyX8 tyX8_ok hown (htb _ k_16) (htb _ k_17) (htb _ k_1) hK.1 hP hD hS hA rfl (by decide) (Nat.le_of_ble_eq_true rfl) (Nat.le_of_ble_eq_true rfl) dL_law_0 (fun qx H hP hD hS => ?_)
  refine lv_dup hx hb dL_law_3 rfl ?_
  have hPc : va_P D vwCl ([(qx, .inr (8, [.null, .null, .null, .null, .null, .null, .null, .null, .null, .null, .null, .null, .null, .int 0]))] : va_W) H := vP_mono hP (fun z hz => hz)
  have hDc : va_D (fun q : Nat => s.heap.size ≤ q) ([(qx, .inr (8, [.null, .null, .null, .null, .null, .null, .null, .null, .null, .null, .null, .null, .null, .int 0]))] : va_W) := vD_left (vD_perm (show List.Perm ([(qx, .inr (8, [.null, .null, .null, .null, .null, .null, .null, .null, .null, .null, .null, .null, .null, .int 0]))] : va_W) (([(qx, .inr (8, [.null, .null, .null, .null, .null, .null, .null, .null, .null, .null, .null, .null, .null, .int 0]))] : va_W) ++ []) from nil_r) hD)
  refine aftU_v (ZW := ([(qx, .inr (8, [.null, .null, .null, .null, .null, .null, .null, .null, .null, .null, .null, .null, .null, .int 0]))] : va_W)) (runMI (rest := [.ref qx]) (As := []) hx hb hml hown htb hK (U_X8_init l D E qx _) ok_X8_init rfl k_18 k_19 k_1 k_20 ⟨(Nat.le_of_ble_eq_true rfl), (Nat.le_of_ble_eq_true rfl)⟩ ⟨(Nat.le_of_ble_eq_true rfl), (Nat.le_of_ble_eq_true rfl)⟩ hl.1 (Nat.le_of_ble_eq_true rfl) rfl rfl dL_law_4 hPc hDc) (nil_r) hP hD hS hA (fun zx H locs hw hP hD hS => ?_)
  clear hPc hDc
  have hP := nilP hP; have hD := nilD hD
  obtain ⟨hIx, zx0, zx1, zx2, zx3, zx4, zx5, zx6, zx7, zx8⟩ := hw
  refine lv_astore_n (lv' := [(1, .ref qx), (0, .ref b)]) hx hb dL_law_7 rfl hl (by decide) rfl (fun ls hl => ?_)
  refine va_new (ci := 9) (fs := (.int 0 :: .int 0 :: .null :: .null :: .null :: .null :: .null :: .null :: .null :: .null :: .null :: .int 0 :: .null :: .null :: .null :: .null :: .null :: .long 0 :: .long 0 :: .long 0 :: .long 0 :: .long 0 :: .long 0 :: .long 0 :: .long 0 :: .long 0 :: .long 0 :: .long 0 :: .int 0 :: .null :: .null :: .null :: .null :: .int 0 :: .null :: .null :: .null :: .null :: .int 0 :: .int 0 :: .int 0 :: .int 0 :: .int 0 :: .null :: .int 0 :: .null :: .null :: .null :: .null :: .null :: .null :: .null :: .null :: .null :: .null :: .null :: .null :: .null :: .null :: .null :: .null :: .int 0 :: .null :: .null :: .int 0 :: .null :: .null :: .null :: [])) (C := RX9) (T := TX9) (N := 68) hx hb htb iX9 tyX9 tyX9_ok hown (htb _ k_953) (htb _ k_954) (htb _ k_9) hK.1 hP hD hS hA rfl (by decide) (Nat.le_of_ble_eq_true rfl) (Nat.le_of_ble_eq_true rfl) dL_law_8 (fun qm H hP hD hS => ?_)
  refine lv_dup hx hb dL_law_11 rfl ?_
  have hPc : va_P D vwCl ([(qm, .inr (9, (.int 0 :: .int 0 :: .null :: .null :: .null :: .null :: .null :: .null :: .null :: .null :: .null :: .int 0 :: .null :: .null :: .null :: .null :: .null :: .long 0 :: .long 0 :: .long 0 :: .long 0 :: .long 0 :: .long 0 :: .long 0 :: .long 0 :: .long 0 :: .long 0 :: .long 0 :: .int 0 :: .null :: .null :: .null :: .null :: .int 0 :: .null :: .null :: .null :: .null :: .int 0 :: .int 0 :: .int 0 :: .int 0 :: .int 0 :: .null :: .int 0 :: .null :: .null :: .null :: .null :: .null :: .null :: .null :: .null :: .null :: .null :: .null :: .null :: .null :: .null :: .null :: .null :: .int 0 :: .null :: .null :: .int 0 :: .null :: .null :: .null :: [])))] : va_W) H := vP_mono hP (fun z hz => List.mem_append_right _ hz)
  have hDc : va_D (fun q : Nat => s.heap.size ≤ q) ([(qm, .inr (9, (.int 0 :: .int 0 :: .null :: .null :: .null :: .null :: .null :: .null :: .null :: .null :: .null :: .int 0 :: .null :: .null :: .null :: .null :: .null :: .long 0 :: .long 0 :: .long 0 :: .long 0 :: .long 0 :: .long 0 :: .long 0 :: .long 0 :: .long 0 :: .long 0 :: .long 0 :: .int 0 :: .null :: .null :: .null :: .null :: .int 0 :: .null :: .null :: .null :: .null :: .int 0 :: .int 0 :: .int 0 :: .int 0 :: .int 0 :: .null :: .int 0 :: .null :: .null :: .null :: .null :: .null :: .null :: .null :: .null :: .null :: .null :: .null :: .null :: .null :: .null :: .null :: .null :: .int 0 :: .null :: .null :: .int 0 :: .null :: .null :: .null :: [])))] : va_W) := vD_left (vD_perm (show List.Perm (XW E qx zx ++ ([(qm, .inr (9, (.int 0 :: .int 0 :: .null :: .null :: .null :: .null :: .null :: .null :: .null :: .null :: .null :: .int 0 :: .null :: .null :: .null :: .null :: .null :: .long 0 :: .long 0 :: .long 0 :: .long 0 :: .long 0 :: .long 0 :: .long 0 :: .long 0 :: .long 0 :: .long 0 :: .long 0 :: .int 0 :: .null :: .null :: .null :: .null :: .int 0 :: .null :: .null :: .null :: .null :: .int 0 :: .int 0 :: .int 0 :: .int 0 :: .int 0 :: .null :: .int 0 :: .null :: .null :: .null :: .null :: .null :: .null :: .null :: .null :: .null :: .null :: .null :: .null :: .null :: .null :: .null :: .null :: .int 0 :: .null :: .null :: .int 0 :: .null :: .null :: .null :: [])))] : va_W)) (([(qm, .inr (9, (.int 0 :: .int 0 :: .null :: .null :: .null :: .null :: .null :: .null :: .null :: .null :: .null :: .int 0 :: .null :: .null :: .null :: .null :: .null :: .long 0 :: .long 0 :: .long 0 :: .long 0 :: .long 0 :: .long 0 :: .long 0 :: .long 0 :: .long 0 :: .long 0 :: .long 0 :: .int 0 :: .null :: .null :: .null :: .null :: .int 0 :: .null :: .null :: .null :: .null :: .int 0 :: .int 0 :: .int 0 :: .int 0 :: .int 0 :: .null :: .int 0 :: .null :: .null :: .null :: .null :: .null :: .null :: .null :: .null :: .null :: .null :: .null :: .null :: .null :: .null :: .null :: .null :: .int 0 :: .null :: .null :: .int 0 :: .null :: .null :: .null :: [])))] : va_W) ++ XW E qx zx) from List.perm_append_comm) hD)
  refine aftU_v (ZW := XW E qx zx ++ ([(qm, .inr (9, (.int 0 :: .int 0 :: .null :: .null :: .null :: .null :: .null :: .null :: .null :: .null :: .null :: .int 0 :: .null :: .null :: .null :: .null :: .null :: .long 0 :: .long 0 :: .long 0 :: .long 0 :: .long 0 :: .long 0 :: .long 0 :: .long 0 :: .long 0 :: .long 0 :: .long 0 :: .int 0 :: .null :: .null :: .null :: .null :: .int 0 :: .null :: .null :: .null :: .null :: .int 0 :: .int 0 :: .int 0 :: .int 0 :: .int 0 :: .null :: .int 0 :: .null :: .null :: .null :: .null :: .null :: .null :: .null :: .null :: .null :: .null :: .null :: .null :: .null :: .null :: .null :: .null :: .int 0 :: .null :: .null :: .int 0 :: .null :: .null :: .null :: [])))] : va_W)) (runMI (rest := [.ref qm]) (As := []) hx hb hml hown htb hK (U_X9_init l D E qm _) ok_X9_init rfl k_955 k_956 k_9 k_957 ⟨(Nat.le_of_ble_eq_true rfl), (Nat.le_of_ble_eq_true rfl)⟩ ⟨(Nat.le_of_ble_eq_true rfl), (Nat.le_of_ble_eq_true rfl)⟩ hl.1 (Nat.le_of_ble_eq_true rfl) rfl rfl dL_law_12 hPc hDc) (List.perm_append_comm) hP hD hS hA (fun zm H locs hw hP hD hS => ?_)
  clear hPc hDc
  have hP := sw_P hP; have hD := sw_D hD
  obtain ⟨hIm, zm0, zm1, zm2, zm3, zm4, zm5, zm6, zm7, zm8⟩ := hw
  refine lv_astore_n (lv' := [(2, .ref qm), (1, .ref qx), (0, .ref b)]) hx hb dL_law_15 rfl hl (by decide) rfl (fun ls hl => ?_)
  refine lv_iconst (v := 0) hx hb dL_law_16 (by decide) ?_
  refine lv_istore_n (lv' := [(3, .int 0), (2, .ref qm), (1, .ref qx), (0, .ref b)]) hx hb dL_law_17 rfl hl (by decide) rfl (fun ls hl => ?_)
  refine W.widen (k := (123 + 5 * 0)) (n := (44666 + 1604 * 0)) (Nat.le_of_ble_eq_true rfl) (Nat.le_of_ble_eq_true rfl) ?_
  exact law_loop hx hb hr hml hown htb hK hG hX hL hbl hlocks (L + 2) 0 0 zx zm _ _ _ (by omega) (Or.inr rfl) (by decide) ⟨hIx, hIm, TR_init ⟨zx0, zx1, zx2, zx3, zx4, zx5, zx6, zx7, zx8⟩ ⟨zm0, zm1, zm2, zm3, zm4, zm5, zm6, zm7, zm8⟩⟩ hP hD hS hl
end
