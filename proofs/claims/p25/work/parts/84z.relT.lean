/-! ===== a law in whole numbers: its sums, its determinants ===== -/
theorem sq_nn (a : Int) : 0 ≤ a * a := by
  rcases Int.le_total 0 a with h | h
  · exact Int.mul_nonneg h h
  · have h1 : 0 ≤ (-a) * (-a) := Int.mul_nonneg (by omega) (by omega)
    rw [Int.neg_mul_neg] at h1
    exact h1
def s1I : List Int → Int
  | [] => 0
  | x :: t => x + s1I t
def s2I : List Int → Int
  | [] => 0
  | x :: t => x * x + s2I t
theorem dev_nn (u : Int) : ∀ t : List Int, 0 ≤ s2I t - 2 * (u * s1I t) + (t.length : Int) * (u * u)
  | [] => by simp [s1I, s2I]
  | x :: t => by
    have h := dev_nn u t
    have hs := sq_nn (x - u)
    have e : (x - u) * (x - u) = x * x - 2 * (u * x) + u * u := by grind
    have e2 : ((x :: t).length : Int) * (u * u) = (t.length : Int) * (u * u) + u * u := by
      rw [List.length_cons]; push_cast; grind
    have e3 : u * s1I (x :: t) = u * x + u * s1I t := by
      show u * (x + s1I t) = _
      exact Int.mul_add ..
    show 0 ≤ (x * x + s2I t) - 2 * (u * s1I (x :: t)) + _
    rw [e2, e3]
    rw [e] at hs
    omega
theorem var_nn : ∀ t : List Int, 0 ≤ (t.length : Int) * s2I t - s1I t * s1I t
  | [] => by simp [s1I, s2I]
  | x :: t => by
    have h := var_nn t
    have hd := dev_nn x t
    have e : ((x :: t).length : Int) * s2I (x :: t) - s1I (x :: t) * s1I (x :: t) = ((t.length : Int) * s2I t - s1I t * s1I t) + (s2I t - 2 * (x * s1I t) + (t.length : Int) * (x * x)) := by
      rw [List.length_cons]
      show (((t.length + 1 : Nat) : Int)) * (x * x + s2I t) - (x + s1I t) * (x + s1I t) = _
      push_cast
      grind
    omega
/-- the sum of something over the days of a law: rate, warmth, age -/
def sI (f : Int × Int × Int → Int) : List (Int × Int × Int) → Int
  | [] => 0
  | x :: t => f x + sI f t
theorem sI_c (f : Int × Int × Int → Int) (x : Int × Int × Int) (t : List (Int × Int × Int)) : sI f (x :: t) = f x + sI f t := rfl
theorem sI_1 (x y : Int) : ∀ t : List (Int × Int × Int), s1I (t.map (fun z => x * z.2.1 + y * z.2.2)) = x * sI (fun z => z.2.1) t + y * sI (fun z => z.2.2) t
  | [] => by simp [s1I, sI]
  | z :: t => by
    have h := sI_1 x y t
    show (x * z.2.1 + y * z.2.2) + s1I (t.map (fun z => x * z.2.1 + y * z.2.2)) = x * (z.2.1 + sI (fun z => z.2.1) t) + y * (z.2.2 + sI (fun z => z.2.2) t)
    rw [h]
    grind
theorem sI_2 (x y : Int) : ∀ t : List (Int × Int × Int), s2I (t.map (fun z => x * z.2.1 + y * z.2.2)) = x * x * sI (fun z => z.2.1 * z.2.1) t + 2 * (x * y) * sI (fun z => z.2.1 * z.2.2) t + y * y * sI (fun z => z.2.2 * z.2.2) t
  | [] => by simp [s2I, sI]
  | z :: t => by
    have h := sI_2 x y t
    show (x * z.2.1 + y * z.2.2) * (x * z.2.1 + y * z.2.2) + s2I (t.map (fun z => x * z.2.1 + y * z.2.2)) = x * x * (z.2.1 * z.2.1 + sI (fun z => z.2.1 * z.2.1) t) + 2 * (x * y) * (z.2.1 * z.2.2 + sI (fun z => z.2.1 * z.2.2) t) + y * y * (z.2.2 * z.2.2 + sI (fun z => z.2.2 * z.2.2) t)
    rw [h]
    grind
theorem quad_nn {a b c : Int} (h : ∀ x y : Int, 0 ≤ x * x * a + 2 * (x * y) * b + y * y * c) : 0 ≤ a ∧ 0 ≤ c ∧ 0 ≤ a * c - b * b := by
  have ha : 0 ≤ a := by have := h 1 0; omega
  have hc : 0 ≤ c := by have := h 0 1; omega
  refine ⟨ha, hc, ?_⟩
  rcases Int.lt_or_eq_of_le hc with g | g
  · have h1 := h c (-b)
    have e : c * c * a + 2 * (c * -b) * b + -b * -b * c = c * (a * c - b * b) := by grind
    rw [e] at h1
    rcases (show (a * c - b * b) < 0 ∨ 0 ≤ (a * c - b * b) by omega) with k | k
    · have := Int.mul_neg_of_pos_of_neg g k
      omega
    · exact k
  · subst g
    have hb : b = 0 := by
      have h1 := h 1 (-(b * (a + 1)))
      have e : 1 * 1 * a + 2 * (1 * -(b * (a + 1))) * b + -(b * (a + 1)) * -(b * (a + 1)) * 0 = a - 2 * ((a + 1) * (b * b)) := by grind
      rw [e] at h1
      rcases Int.lt_trichotomy b 0 with k | k | k
      · exfalso
        have q : 1 ≤ b * b := by have := Int.mul_pos (show 0 < -b by omega) (show 0 < -b by omega); rw [Int.neg_mul_neg] at this; omega
        have q2 : (a + 1) * 1 ≤ (a + 1) * (b * b) := Int.mul_le_mul_of_nonneg_left q (by omega)
        omega
      · exact k
      · exfalso
        have q : 1 ≤ b * b := by have := Int.mul_pos k k; omega
        have q2 : (a + 1) * 1 ≤ (a + 1) * (b * b) := Int.mul_le_mul_of_nonneg_left q (by omega)
        omega
    subst hb
    simp
/-- spreads of a law -/
theorem spread_nn (t : List (Int × Int × Int)) (hn : 1 ≤ t.length) {n W A WW WA AA : Int} (e0 : n = t.length) (e1 : W = sI (fun z => z.2.1) t) (e2 : A = sI (fun z => z.2.2) t) (e3 : WW = sI (fun z => z.2.1 * z.2.1) t) (e4 : WA = sI (fun z => z.2.1 * z.2.2) t) (e5 : AA = sI (fun z => z.2.2 * z.2.2) t) :
    0 ≤ n * WW - W * W ∧ 0 ≤ n * AA - A * A ∧ 0 ≤ (n * WW - W * W) * (n * AA - A * A) - (n * WA - W * A) * (n * WA - W * A) := by
  apply quad_nn
  intro x y
  have h := var_nn (t.map (fun z => x * z.2.1 + y * z.2.2))
  rw [List.length_map, sI_1, sI_2, ← e0, ← e1, ← e2, ← e3, ← e4, ← e5] at h
  have e : x * x * (n * WW - W * W) + 2 * (x * y) * (n * WA - W * A) + y * y * (n * AA - A * A) = n * (x * x * WW + 2 * (x * y) * WA + y * y * AA) - (x * W + y * A) * (x * W + y * A) := by grind
  rw [e]
  exact h
def thrI (n W A WW WA AA : Int) : Int := n * (WW * AA - WA * WA) - W * (W * AA - WA * A) + A * (W * WA - WW * A)
theorem both_thr (n W A WW WA AA : Int) : (n * WW - W * W) * (n * AA - A * A) - (n * WA - W * A) * (n * WA - W * A) = n * thrI n W A WW WA AA := by
  unfold thrI
  grind
theorem thr_pos {n d : Int} (hn : 1 ≤ n) (h : 0 ≤ n * d) : (0 < n * d ↔ d ≠ 0) := by
  constructor
  · intro k e
    subst e
    simp at k
  · intro k
    rcases (show 0 < (n * d) ∨ (n * d) ≤ 0 by omega) with g | g
    · exact g
    · exfalso
      have e : n * d = 0 := by omega
      rcases Int.mul_eq_zero.mp e with q | q <;> omega
/-- a long that is a number, and its bound -/
def lb (z : Int64) (v B : Int) : Prop := z.toInt = v ∧ -B ≤ v ∧ v ≤ B
theorem l_bmod {x : Int} (h1 : -9223372036854775808 ≤ x) (h2 : x ≤ 9223372036854775807) : x.bmod (2 ^ 64) = x := by
  rw [Int.bmod_def]
  have : ((2 ^ 64 : Nat) : Int) = 18446744073709551616 := by decide
  rw [this]
  split <;> omega
theorem lb_add {a b : Int64} {x y A B : Int} (h : lb a x A) (k : lb b y B) (hs : A + B ≤ 9000000000000000000) : lb (a + b) (x + y) (A + B) := by
  obtain ⟨h1, h2, h3⟩ := h
  obtain ⟨k1, k2, k3⟩ := k
  refine ⟨?_, by omega, by omega⟩
  rw [Int64.toInt_add, h1, k1]
  exact l_bmod (by omega) (by omega)
theorem lb_sub {a b : Int64} {x y A B : Int} (h : lb a x A) (k : lb b y B) (hs : A + B ≤ 9000000000000000000) : lb (a - b) (x - y) (A + B) := by
  obtain ⟨h1, h2, h3⟩ := h
  obtain ⟨k1, k2, k3⟩ := k
  refine ⟨?_, by omega, by omega⟩
  rw [Int64.toInt_sub, h1, k1]
  exact l_bmod (by omega) (by omega)
theorem ab_mul {x y A B : Int} (h2 : -A ≤ x) (h3 : x ≤ A) (k2 : -B ≤ y) (k3 : y ≤ B) : -(A * B) ≤ x * y ∧ x * y ≤ A * B := by
  have hA : 0 ≤ A := by omega
  have hB : 0 ≤ B := by omega
  have p1 := Int.mul_nonneg (show 0 ≤ A - x by omega) (show 0 ≤ B - y by omega)
  have p2 := Int.mul_nonneg (show 0 ≤ A + x by omega) (show 0 ≤ B + y by omega)
  have p3 := Int.mul_nonneg (show 0 ≤ A - x by omega) (show 0 ≤ B + y by omega)
  have p4 := Int.mul_nonneg (show 0 ≤ A + x by omega) (show 0 ≤ B - y by omega)
  have q1 : (A - x) * (B - y) = A * B - A * y - x * B + x * y := by grind
  have q2 : (A + x) * (B + y) = A * B + A * y + x * B + x * y := by grind
  have q3 : (A - x) * (B + y) = A * B + A * y - x * B - x * y := by grind
  have q4 : (A + x) * (B - y) = A * B - A * y + x * B - x * y := by grind
  rw [q1] at p1
  rw [q2] at p2
  rw [q3] at p3
  rw [q4] at p4
  constructor <;> omega
theorem lb_mul {a b : Int64} {x y A B : Int} (h : lb a x A) (k : lb b y B) (hs : A * B ≤ 9000000000000000000) : lb (a * b) (x * y) (A * B) := by
  obtain ⟨h1, h2, h3⟩ := h
  obtain ⟨k1, k2, k3⟩ := k
  have hb := ab_mul h2 h3 k2 k3
  refine ⟨?_, hb.1, hb.2⟩
  rw [Int64.toInt_mul, h1, k1]
  exact l_bmod (by omega) (by omega)
theorem lb_w {z : Int64} {v B C : Int} (h : lb z v B) (hc : B ≤ C) : lb z v C := ⟨h.1, by have := h.2.1; omega, by have := h.2.2; omega⟩
theorem lb_i {x : Int32} {B : Int} (h1 : -B ≤ x.toInt) (h2 : x.toInt ≤ B) : lb x.toInt64 x.toInt B := ⟨Int32.toInt_toInt64 x, h1, h2⟩
/-- the nine sums are those of whole numbers -/
def okT (t : List (Int × Int × Int)) : Prop := ∀ z ∈ t, (-999 ≤ z.1 ∧ z.1 ≤ 999) ∧ (-50 ≤ z.2.1 ∧ z.2.1 ≤ 50) ∧ (0 ≤ z.2.2 ∧ z.2.2 ≤ 399)
def R9 (s : S9) (t : List (Int × Int × Int)) : Prop := ∃ k : Int, k = t.length ∧ lb s.1 k k ∧ lb s.2.1 (sI (fun z => z.1) t) (999 * k) ∧ lb s.2.2.1 (sI (fun z => z.2.1) t) (50 * k) ∧ lb s.2.2.2.1 (sI (fun z => z.2.2) t) (399 * k) ∧ lb s.2.2.2.2.1 (sI (fun z => z.2.1 * z.2.1) t) (2500 * k) ∧ lb s.2.2.2.2.2.1 (sI (fun z => z.2.2 * z.2.2) t) (159201 * k) ∧ lb s.2.2.2.2.2.2.1 (sI (fun z => z.2.1 * z.2.2) t) (19950 * k) ∧ lb s.2.2.2.2.2.2.2.1 (sI (fun z => z.2.1 * z.1) t) (49950 * k) ∧ lb s.2.2.2.2.2.2.2.2 (sI (fun z => z.2.2 * z.1) t) (398601 * k)
theorem lb_acc {a b : Int64} {x y A B C : Int} (h : lb a x A) (k : lb b y B) (hs : A + B ≤ 9000000000000000000) (hC : C = A + B) : lb (a + b) (y + x) C := by
  have := lb_add h k hs
  rw [Int.add_comm y x, hC]
  exact this
theorem R9_add {s : S9} {t : List (Int × Int × Int)} {r w a : Int32} (h : R9 s t) (hl : t.length ≤ 59) (hr : -999 ≤ r.toInt ∧ r.toInt ≤ 999) (hw : -50 ≤ w.toInt ∧ w.toInt ≤ 50) (ha : 0 ≤ a.toInt ∧ a.toInt ≤ 399) : R9 (add9 s r.toInt64 w.toInt64 a.toInt64) ((r.toInt, w.toInt, a.toInt) :: t) := by
  obtain ⟨k, hk, h0, h1, h2, h3, h4, h5, h6, h7, h8⟩ := h
  have lr : lb r.toInt64 r.toInt 999 := lb_i hr.1 hr.2
  have lw : lb w.toInt64 w.toInt 50 := lb_i hw.1 hw.2
  have la : lb a.toInt64 a.toInt 399 := lb_i (by omega) ha.2
  have l1 : lb (1 : Int64) 1 1 := ⟨by decide, by decide, by decide⟩
  have lww := lb_mul lw lw (by decide)
  have laa := lb_mul la la (by decide)
  have lwa := lb_mul lw la (by decide)
  have lwr := lb_mul lw lr (by decide)
  have lar := lb_mul la lr (by decide)
  refine ⟨k + 1, by rw [List.length_cons]; push_cast; omega, ?_, ?_, ?_, ?_, ?_, ?_, ?_, ?_, ?_⟩
  · have := lb_add h0 l1 (by omega); exact this
  · exact lb_acc h1 lr (by omega) (by omega)
  · exact lb_acc h2 lw (by omega) (by omega)
  · exact lb_acc h3 la (by omega) (by omega)
  · exact lb_acc h4 lww (by omega) (by omega)
  · exact lb_acc h5 laa (by omega) (by omega)
  · exact lb_acc h6 lwa (by omega) (by omega)
  · exact lb_acc h7 lwr (by omega) (by omega)
  · exact lb_acc h8 lar (by omega) (by omega)
theorem R9_0 : R9 (0, 0, 0, 0, 0, 0, 0, 0, 0) [] := by
  have l0 : lb (0 : Int64) 0 0 := ⟨by decide, by decide, by decide⟩
  exact ⟨0, rfl, l0, l0, l0, l0, l0, l0, l0, l0, l0⟩
theorem R9_foldl {wm ag : Int32 → Int32} {nw : Int} : ∀ (l : List (Int32 × Int32)) (s : S9) (t : List (Int × Int × Int)), R9 s t → okT t → t.length + l.length ≤ 60 → (∀ x ∈ l, (-999 ≤ x.2.toInt ∧ x.2.toInt ≤ 999) ∧ ((wm x.1).toInt = nw ∨ (-50 ≤ (wm x.1).toInt ∧ (wm x.1).toInt ≤ 50)) ∧ (0 ≤ (ag x.1).toInt ∧ (ag x.1).toInt ≤ 399)) → ∃ t', R9 (l.foldl (step9 wm ag nw) s) t' ∧ okT t' ∧ t'.length ≤ 60
  | [], s, t, h, ho, hl, _ => ⟨t, h, ho, by simp at hl; omega⟩
  | x :: l, s, t, h, ho, hl, hx => by
    have hx0 := hx x (List.mem_cons_self ..)
    have hl2 : t.length + (l.length + 1) ≤ 60 := by rw [List.length_cons] at hl; exact hl
    show ∃ t', R9 (l.foldl (step9 wm ag nw) (step9 wm ag nw s x)) t' ∧ _
    by_cases c : (wm x.1).toInt = nw
    · have e : step9 wm ag nw s x = s := by unfold step9; rw [if_pos c]
      rw [e]
      exact R9_foldl l s t h ho (by omega) (fun y hy => hx y (List.mem_cons_of_mem _ hy))
    · have e : step9 wm ag nw s x = add9 s x.2.toInt64 (wm x.1).toInt64 (ag x.1).toInt64 := by unfold step9; rw [if_neg c]
      rw [e]
      have hw : -50 ≤ (wm x.1).toInt ∧ (wm x.1).toInt ≤ 50 := by rcases hx0.2.1 with q | q; { exact absurd q c }; { exact q }
      refine R9_foldl l _ ((x.2.toInt, (wm x.1).toInt, (ag x.1).toInt) :: t) (R9_add h (by omega) hx0.1 hw hx0.2.2) ?_ (by rw [List.length_cons]; omega) (fun y hy => hx y (List.mem_cons_of_mem _ hy))
      intro z hz
      rcases List.mem_cons.mp hz with q | q
      · subst q; exact ⟨hx0.1, hw, hx0.2.2⟩
      · exact ho z q
theorem R9_fold {wm ag : Int32 → Int32} {nw : Int} {l : List (Int32 × Int32)} (hl : l.length ≤ 60) (hx : ∀ x ∈ l, (-999 ≤ x.2.toInt ∧ x.2.toInt ≤ 999) ∧ ((wm x.1).toInt = nw ∨ (-50 ≤ (wm x.1).toInt ∧ (wm x.1).toInt ≤ 50)) ∧ (0 ≤ (ag x.1).toInt ∧ (ag x.1).toInt ≤ 399)) : ∃ t, R9 (fold9 wm ag nw l) t ∧ okT t ∧ t.length ≤ 60 := by
  unfold fold9
  exact R9_foldl l _ [] R9_0 (fun z hz => by cases hz) (by simp; exact hl) hx
theorem lz {x : Int64} {v B : Int} (h : lb x v B) : x = 0 ↔ v = 0 := by
  have h0 : (0 : Int64).toInt = 0 := by decide
  constructor
  · intro e
    subst e
    rw [← h.1, h0]
  · intro e
    exact Int64.toInt_inj.mp (by rw [h.1, h0, e])
/-- terms of a law: class and reference -/
theorem frm_eq {s : S9} {t : List (Int × Int × Int)} (h : R9 s t) (h1 : 1 ≤ t.length) (h60 : t.length ≤ 60) : (solX s).1.toInt = frmM s := by
  obtain ⟨k, hk, q0, q1, q2, q3, q4, q5, q6, q7, q8⟩ := h
  have hk1 : 1 ≤ k ∧ k ≤ 60 := by omega
  have n := lb_w q0 (show k ≤ 60 by omega)
  have W := lb_w q2 (show 50 * k ≤ 3000 by omega)
  have A := lb_w q3 (show 399 * k ≤ 23940 by omega)
  have WW := lb_w q4 (show 2500 * k ≤ 150000 by omega)
  have AA := lb_w q5 (show 159201 * k ≤ 9552060 by omega)
  have WA := lb_w q6 (show 19950 * k ≤ 1197000 by omega)
  have SW := lb_sub (lb_mul n WW (by decide)) (lb_mul W W (by decide)) (by decide)
  have SA := lb_sub (lb_mul n AA (by decide)) (lb_mul A A (by decide)) (by decide)
  have J := lb_sub (lb_mul n WA (by decide)) (lb_mul W A (by decide)) (by decide)
  have BO := lb_sub (lb_mul SW SA (by decide)) (lb_mul J J (by decide)) (by decide)
  have TH := lb_add (lb_sub (lb_mul n (lb_sub (lb_mul WW AA (by decide)) (lb_mul WA WA (by decide)) (by decide)) (by decide)) (lb_mul W (lb_sub (lb_mul W AA (by decide)) (lb_mul WA A (by decide)) (by decide)) (by decide)) (by decide)) (lb_mul A (lb_sub (lb_mul W WA (by decide)) (lb_mul WW A (by decide)) (by decide)) (by decide)) (by decide)
  obtain ⟨n1, n2, n3⟩ := spread_nn t h1 hk rfl rfl rfl rfl rfl
  rw [both_thr] at n3
  have hp := thr_pos hk1.1 n3
  have zT := lz TH
  have zW := lz SW
  have zA := lz SA
  have i3 : (3 : Int32).toInt = 3 := by decide
  have i2 : (2 : Int32).toInt = 2 := by decide
  have i4 : (4 : Int32).toInt = 4 := by decide
  have i1 : (1 : Int32).toInt = 1 := by decide
  unfold solX frmM thrF twoF
  rw [SW.1, SA.1, BO.1, both_thr]
  by_cases c : thrI k (sI (fun z => z.2.1) t) (sI (fun z => z.2.2) t) (sI (fun z => z.2.1 * z.2.1) t) (sI (fun z => z.2.1 * z.2.2) t) (sI (fun z => z.2.2 * z.2.2) t) = 0
  · rw [if_neg (fun g => hp.mp g c), if_pos (zT.mpr c)]
    by_cases c2 : k * sI (fun z => z.2.1 * z.2.1) t - sI (fun z => z.2.1) t * sI (fun z => z.2.1) t = 0
    · rw [if_neg (by omega), if_pos (zW.mpr c2)]
      by_cases c3 : k * sI (fun z => z.2.2 * z.2.2) t - sI (fun z => z.2.2) t * sI (fun z => z.2.2) t = 0
      · rw [if_neg (by omega), if_pos (zA.mpr c3)]; exact i1
      · rw [if_pos (by omega), if_neg (fun g => c3 (zA.mp g))]; exact i4
    · rw [if_pos (by omega), if_neg (fun g => c2 (zW.mp g))]; exact i2
  · rw [if_pos (hp.mpr c), if_neg (fun g => c (zT.mp g))]; exact i3
/-- how many there are: as an int, as a long -/
theorem cnt9 {s : S9} {t : List (Int × Int × Int)} (h : R9 s t) (h60 : t.length ≤ 60) : (s.1.toInt32.toInt = 0 ↔ s.1 = 0) ∧ (¬ s.1 = 0 → 1 ≤ t.length) := by
  obtain ⟨k, hk, q0, -⟩ := h
  have e : s.1.toInt32.toInt = k := by
    rw [Int64.toInt_toInt32, q0.1]
    exact i_bmod (by omega) (by omega)
  have z := lz q0
  constructor
  · rw [e]; exact z.symm
  · intro g
    rcases Nat.eq_zero_or_pos t.length with q | q
    · exact absurd (z.mpr (by omega)) g
    · exact q
