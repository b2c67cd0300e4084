/-! ===== a law in whole numbers: its sums, its determinants ===== -/
theorem sq_nn (a : Int) : 0 ≤ a * a := by
  rcases Int.le_total 0 a with h | h
  · exact Int.mul_nonneg h h
  · have h1 : 0 ≤ (-a) * (-a) := Int.mul_nonneg (by omega) (by omega)
    rw [Int.neg_mul_neg] at h1
    exact h1
def s1I : List Int → Int
  | [] => 0
  | x :: t => x + s1I t
def s2I : List Int → Int
  | [] => 0
  | x :: t => x * x + s2I t
theorem dev_nn (u : Int) : ∀ t : List Int, 0 ≤ s2I t - 2 * (u * s1I t) + (t.length : Int) * (u * u)
  | [] => by simp [s1I, s2I]
  | x :: t => by
    have h := dev_nn u t
    have hs := sq_nn (x - u)
    have e : (x - u) * (x - u) = x * x - 2 * (u * x) + u * u := by grind
    have e2 : ((x :: t).length : Int) * (u * u) = (t.length : Int) * (u * u) + u * u := by
      rw [List.length_cons]; push_cast; grind
    have e3 : u * s1I (x :: t) = u * x + u * s1I t := by
      show u * (x + s1I t) = _
      exact Int.mul_add ..
    show 0 ≤ (x * x + s2I t) - 2 * (u * s1I (x :: t)) + _
    rw [e2, e3]
    rw [e] at hs
    omega
theorem var_nn : ∀ t : List Int, 0 ≤ (t.length : Int) * s2I t - s1I t * s1I t
  | [] => by simp [s1I, s2I]
  | x :: t => by
    have h := var_nn t
    have hd := dev_nn x t
    have e : ((x :: t).length : Int) * s2I (x :: t) - s1I (x :: t) * s1I (x :: t) = ((t.length : Int) * s2I t - s1I t * s1I t) + (s2I t - 2 * (x * s1I t) + (t.length : Int) * (x * x)) := by
      rw [List.length_cons]
      show (((t.length + 1 : Nat) : Int)) * (x * x + s2I t) - (x + s1I t) * (x + s1I t) = _
      push_cast
      grind
    omega
/-- the sum of something over the days of a law: rate, warmth, age -/
def sI (f : Int × Int × Int → Int) : List (Int × Int × Int) → Int
  | [] => 0
  | x :: t => f x + sI f t
theorem sI_c (f : Int × Int × Int → Int) (x : Int × Int × Int) (t : List (Int × Int × Int)) : sI f (x :: t) = f x + sI f t := rfl
theorem sI_1 (x y : Int) : ∀ t : List (Int × Int × Int), s1I (t.map (fun z => x * z.2.1 + y * z.2.2)) = x * sI (fun z => z.2.1) t + y * sI (fun z => z.2.2) t
  | [] => by simp [s1I, sI]
  | z :: t => by
    have h := sI_1 x y t
    show (x * z.2.1 + y * z.2.2) + s1I (t.map (fun z => x * z.2.1 + y * z.2.2)) = x * (z.2.1 + sI (fun z => z.2.1) t) + y * (z.2.2 + sI (fun z => z.2.2) t)
    rw [h]
    grind
theorem sI_2 (x y : Int) : ∀ t : List (Int × Int × Int), s2I (t.map (fun z => x * z.2.1 + y * z.2.2)) = x * x * sI (fun z => z.2.1 * z.2.1) t + 2 * (x * y) * sI (fun z => z.2.1 * z.2.2) t + y * y * sI (fun z => z.2.2 * z.2.2) t
  | [] => by simp [s2I, sI]
  | z :: t => by
    have h := sI_2 x y t
    show (x * z.2.1 + y * z.2.2) * (x * z.2.1 + y * z.2.2) + s2I (t.map (fun z => x * z.2.1 + y * z.2.2)) = x * x * (z.2.1 * z.2.1 + sI (fun z => z.2.1 * z.2.1) t) + 2 * (x * y) * (z.2.1 * z.2.2 + sI (fun z => z.2.1 * z.2.2) t) + y * y * (z.2.2 * z.2.2 + sI (fun z => z.2.2 * z.2.2) t)
    rw [h]
    grind
theorem quad_nn {a b c : Int} (h : ∀ x y : Int, 0 ≤ x * x * a + 2 * (x * y) * b + y * y * c) : 0 ≤ a ∧ 0 ≤ c ∧ 0 ≤ a * c - b * b := by
  have ha : 0 ≤ a := by have := h 1 0; omega
  have hc : 0 ≤ c := by have := h 0 1; omega
  refine ⟨ha, hc, ?_⟩
  rcases Int.lt_or_eq_of_le hc with g | g
  · have h1 := h c (-b)
    have e : c * c * a + 2 * (c * -b) * b + -b * -b * c = c * (a * c - b * b) := by grind
    rw [e] at h1
    rcases (show (a * c - b * b) < 0 ∨ 0 ≤ (a * c - b * b) by omega) with k | k
    · have := Int.mul_neg_of_pos_of_neg g k
      omega
    · exact k
  · subst g
    have hb : b = 0 := by
      have h1 := h 1 (-(b * (a + 1)))
      have e : 1 * 1 * a + 2 * (1 * -(b * (a + 1))) * b + -(b * (a + 1)) * -(b * (a + 1)) * 0 = a - 2 * ((a + 1) * (b * b)) := by grind
      rw [e] at h1
      rcases Int.lt_trichotomy b 0 with k | k | k
      · exfalso
        have q : 1 ≤ b * b := by have := Int.mul_pos (show 0 < -b by omega) (show 0 < -b by omega); rw [Int.neg_mul_neg] at this; omega
        have q2 : (a + 1) * 1 ≤ (a + 1) * (b * b) := Int.mul_le_mul_of_nonneg_left q (by omega)
        omega
      · exact k
      · exfalso
        have q : 1 ≤ b * b := by have := Int.mul_pos k k; omega
        have q2 : (a + 1) * 1 ≤ (a + 1) * (b * b) := Int.mul_le_mul_of_nonneg_left q (by omega)
        omega
    subst hb
    simp
/-- spreads of a law -/
theorem spread_nn (t : List (Int × Int × Int)) (hn : 1 ≤ t.length) {n W A WW WA AA : Int} (e0 : n = t.length) (e1 : W = sI (fun z => z.2.1) t) (e2 : A = sI (fun z => z.2.2) t) (e3 : WW = sI (fun z => z.2.1 * z.2.1) t) (e4 : WA = sI (fun z => z.2.1 * z.2.2) t) (e5 : AA = sI (fun z => z.2.2 * z.2.2) t) :
    0 ≤ n * WW - W * W ∧ 0 ≤ n * AA - A * A ∧ 0 ≤ (n * WW - W * W) * (n * AA - A * A) - (n * WA - W * A) * (n * WA - W * A) := by
  apply quad_nn
  intro x y
  have h := var_nn (t.map (fun z => x * z.2.1 + y * z.2.2))
  rw [List.length_map, sI_1, sI_2, ← e0, ← e1, ← e2, ← e3, ← e4, ← e5] at h
  have e : x * x * (n * WW - W * W) + 2 * (x * y) * (n * WA - W * A) + y * y * (n * AA - A * A) = n * (x * x * WW + 2 * (x * y) * WA + y * y * AA) - (x * W + y * A) * (x * W + y * A) := by grind
  rw [e]
  exact h
def thrI (n W A WW WA AA : Int) : Int := n * (WW * AA - WA * WA) - W * (W * AA - WA * A) + A * (W * WA - WW * A)
theorem both_thr (n W A WW WA AA : Int) : (n * WW - W * W) * (n * AA - A * A) - (n * WA - W * A) * (n * WA - W * A) = n * thrI n W A WW WA AA := by
  unfold thrI
  grind
theorem thr_pos {n d : Int} (hn : 1 ≤ n) (h : 0 ≤ n * d) : (0 < n * d ↔ d ≠ 0) := by
  constructor
  · intro k e
    subst e
    simp at k
  · intro k
    rcases (show 0 < (n * d) ∨ (n * d) ≤ 0 by omega) with g | g
    · exact g
    · exfalso
      have e : n * d = 0 := by omega
      rcases Int.mul_eq_zero.mp e with q | q <;> omega
/-- a long that is a number, and its bound -/
def lb (z : Int64) (v B : Int) : Prop := z.toInt = v ∧ -B ≤ v ∧ v ≤ B
theorem l_bmod {x : Int} (h1 : -9223372036854775808 ≤ x) (h2 : x ≤ 9223372036854775807) : x.bmod (2 ^ 64) = x := by
  rw [Int.bmod_def]
  have : ((2 ^ 64 : Nat) : Int) = 18446744073709551616 := by decide
  rw [this]
  split <;> omega
theorem lb_add {a b : Int64} {x y A B : Int} (h : lb a x A) (k : lb b y B) (hs : A + B ≤ 9000000000000000000) : lb (a + b) (x + y) (A + B) := by
  obtain ⟨h1, h2, h3⟩ := h
  obtain ⟨k1, k2, k3⟩ := k
  refine ⟨?_, by omega, by omega⟩
  rw [Int64.toInt_add, h1, k1]
  exact l_bmod (by omega) (by omega)
theorem lb_sub {a b : Int64} {x y A B : Int} (h : lb a x A) (k : lb b y B) (hs : A + B ≤ 9000000000000000000) : lb (a - b) (x - y) (A + B) := by
  obtain ⟨h1, h2, h3⟩ := h
  obtain ⟨k1, k2, k3⟩ := k
  refine ⟨?_, by omega, by omega⟩
  rw [Int64.toInt_sub, h1, k1]
  exact l_bmod (by omega) (by omega)
theorem ab_mul {x y A B : Int} (h2 : -A ≤ x) (h3 : x ≤ A) (k2 : -B ≤ y) (k3 : y ≤ B) : -(A * B) ≤ x * y ∧ x * y ≤ A * B := by
  have hA : 0 ≤ A := by omega
  have hB : 0 ≤ B := by omega
  have p1 := Int.mul_nonneg (show 0 ≤ A - x by omega) (show 0 ≤ B - y by omega)
  have p2 := Int.mul_nonneg (show 0 ≤ A + x by omega) (show 0 ≤ B + y by omega)
  have p3 := Int.mul_nonneg (show 0 ≤ A - x by omega) (show 0 ≤ B + y by omega)
  have p4 := Int.mul_nonneg (show 0 ≤ A + x by omega) (show 0 ≤ B - y by omega)
  have q1 : (A - x) * (B - y) = A * B - A * y - x * B + x * y := by grind
  have q2 : (A + x) * (B + y) = A * B + A * y + x * B + x * y := by grind
  have q3 : (A - x) * (B + y) = A * B + A * y - x * B - x * y := by grind
  have q4 : (A + x) * (B - y) = A * B - A * y + x * B - x * y := by grind
  rw [q1] at p1
  rw [q2] at p2
  rw [q3] at p3
  rw [q4] at p4
  constructor <;> omega
theorem lb_mul {a b : Int64} {x y A B : Int} (h : lb a x A) (k : lb b y B) (hs : A * B ≤ 9000000000000000000) : lb (a * b) (x * y) (A * B) := by
  obtain ⟨h1, h2, h3⟩ := h
  obtain ⟨k1, k2, k3⟩ := k
  have hb := ab_mul h2 h3 k2 k3
  refine ⟨?_, hb.1, hb.2⟩
  rw [Int64.toInt_mul, h1, k1]
  exact l_bmod (by omega) (by omega)
theorem lb_w {z : Int64} {v B C : Int} (h : lb z v B) (hc : B ≤ C) : lb z v C := ⟨h.1, by have := h.2.1; omega, by have := h.2.2; omega⟩
theorem lb_i {x : Int32} {B : Int} (h1 : -B ≤ x.toInt) (h2 : x.toInt ≤ B) : lb x.toInt64 x.toInt B := ⟨Int32.toInt_toInt64 x, h1, h2⟩
/-- the nine sums are those of whole numbers -/
def okT (t : List (Int × Int × Int)) : Prop := ∀ z ∈ t, (-999 ≤ z.1 ∧ z.1 ≤ 999) ∧ (-50 ≤ z.2.1 ∧ z.2.1 ≤ 50) ∧ (0 ≤ z.2.2 ∧ z.2.2 ≤ 399)
def R9 (s : S9) (t : List (Int × Int × Int)) : Prop := ∃ k : Int, k = t.length ∧ lb s.1 k k ∧ lb s.2.1 (sI (fun z => z.1) t) (999 * k) ∧ lb s.2.2.1 (sI (fun z => z.2.1) t) (50 * k) ∧ lb s.2.2.2.1 (sI (fun z => z.2.2) t) (399 * k) ∧ lb s.2.2.2.2.1 (sI (fun z => z.2.1 * z.2.1) t) (2500 * k) ∧ lb s.2.2.2.2.2.1 (sI (fun z => z.2.2 * z.2.2) t) (159201 * k) ∧ lb s.2.2.2.2.2.2.1 (sI (fun z => z.2.1 * z.2.2) t) (19950 * k) ∧ lb s.2.2.2.2.2.2.2.1 (sI (fun z => z.2.1 * z.1) t) (49950 * k) ∧ lb s.2.2.2.2.2.2.2.2 (sI (fun z => z.2.2 * z.1) t) (398601 * k)
theorem lb_acc {a b : Int64} {x y A B C : Int} (h : lb a x A) (k : lb b y B) (hs : A + B ≤ 9000000000000000000) (hC : C = A + B) : lb (a + b) (y + x) C := by
  have := lb_add h k hs
  rw [Int.add_comm y x, hC]
  exact this
theorem R9_add {s : S9} {t : List (Int × Int × Int)} {r w a : Int32} (h : R9 s t) (hl : t.length ≤ 59) (hr : -999 ≤ r.toInt ∧ r.toInt ≤ 999) (hw : -50 ≤ w.toInt ∧ w.toInt ≤ 50) (ha : 0 ≤ a.toInt ∧ a.toInt ≤ 399) : R9 (add9 s r.toInt64 w.toInt64 a.toInt64) ((r.toInt, w.toInt, a.toInt) :: t) := by
  obtain ⟨k, hk, h0, h1, h2, h3, h4, h5, h6, h7, h8⟩ := h
  have lr : lb r.toInt64 r.toInt 999 := lb_i hr.1 hr.2
  have lw : lb w.toInt64 w.toInt 50 := lb_i hw.1 hw.2
  have la : lb a.toInt64 a.toInt 399 := lb_i (by omega) ha.2
  have l1 : lb (1 : Int64) 1 1 := ⟨by decide, by decide, by decide⟩
  have lww := lb_mul lw lw (by decide)
  have laa := lb_mul la la (by decide)
  have lwa := lb_mul lw la (by decide)
  have lwr := lb_mul lw lr (by decide)
  have lar := lb_mul la lr (by decide)
  refine ⟨k + 1, by rw [List.length_cons]; push_cast; omega, ?_, ?_, ?_, ?_, ?_, ?_, ?_, ?_, ?_⟩
  · have := lb_add h0 l1 (by omega); exact this
  · exact lb_acc h1 lr (by omega) (by omega)
  · exact lb_acc h2 lw (by omega) (by omega)
  · exact lb_acc h3 la (by omega) (by omega)
  · exact lb_acc h4 lww (by omega) (by omega)
  · exact lb_acc h5 laa (by omega) (by omega)
  · exact lb_acc h6 lwa (by omega) (by omega)
  · exact lb_acc h7 lwr (by omega) (by omega)
  · exact lb_acc h8 lar (by omega) (by omega)
theorem R9_0 : R9 (0, 0, 0, 0, 0, 0, 0, 0, 0) [] := by
  have l0 : lb (0 : Int64) 0 0 := ⟨by decide, by decide, by decide⟩
  exact ⟨0, rfl, l0, l0, l0, l0, l0, l0, l0, l0, l0⟩
theorem R9_foldl {wm ag : Int32 → Int32} {nw : Int} : ∀ (l : List (Int32 × Int32)) (s : S9) (t : List (Int × Int × Int)), R9 s t → okT t → t.length + l.length ≤ 60 → (∀ x ∈ l, (-999 ≤ x.2.toInt ∧ x.2.toInt ≤ 999) ∧ ((wm x.1).toInt = nw ∨ (-50 ≤ (wm x.1).toInt ∧ (wm x.1).toInt ≤ 50)) ∧ (0 ≤ (ag x.1).toInt ∧ (ag x.1).toInt ≤ 399)) → ∃ t', R9 (l.foldl (step9 wm ag nw) s) t' ∧ okT t' ∧ t'.length ≤ 60
  | [], s, t, h, ho, hl, _ => ⟨t, h, ho, by simp at hl; omega⟩
  | x :: l, s, t, h, ho, hl, hx => by
    have hx0 := hx x (List.mem_cons_self ..)
    have hl2 : t.length + (l.length + 1) ≤ 60 := by rw [List.length_cons] at hl; exact hl
    show ∃ t', R9 (l.foldl (step9 wm ag nw) (step9 wm ag nw s x)) t' ∧ _
    by_cases c : (wm x.1).toInt = nw
    · have e : step9 wm ag nw s x = s := by unfold step9; rw [if_pos c]
      rw [e]
      exact R9_foldl l s t h ho (by omega) (fun y hy => hx y (List.mem_cons_of_mem _ hy))
    · have e : step9 wm ag nw s x = add9 s x.2.toInt64 (wm x.1).toInt64 (ag x.1).toInt64 := by unfold step9; rw [if_neg c]
      rw [e]
      have hw : -50 ≤ (wm x.1).toInt ∧ (wm x.1).toInt ≤ 50 := by rcases hx0.2.1 with q | q; { exact absurd q c }; { exact q }
      refine R9_foldl l _ ((x.2.toInt, (wm x.1).toInt, (ag x.1).toInt) :: t) (R9_add h (by omega) hx0.1 hw hx0.2.2) ?_ (by rw [List.length_cons]; omega) (fun y hy => hx y (List.mem_cons_of_mem _ hy))
      intro z hz
      rcases List.mem_cons.mp hz with q | q
      · subst q; exact ⟨hx0.1, hw, hx0.2.2⟩
      · exact ho z q
theorem R9_fold {wm ag : Int32 → Int32} {nw : Int} {l : List (Int32 × Int32)} (hl : l.length ≤ 60) (hx : ∀ x ∈ l, (-999 ≤ x.2.toInt ∧ x.2.toInt ≤ 999) ∧ ((wm x.1).toInt = nw ∨ (-50 ≤ (wm x.1).toInt ∧ (wm x.1).toInt ≤ 50)) ∧ (0 ≤ (ag x.1).toInt ∧ (ag x.1).toInt ≤ 399)) : ∃ t, R9 (fold9 wm ag nw l) t ∧ okT t ∧ t.length ≤ 60 := by
  unfold fold9
  exact R9_foldl l _ [] R9_0 (fun z hz => by cases hz) (by simp; exact hl) hx
theorem lz {x : Int64} {v B : Int} (h : lb x v B) : x = 0 ↔ v = 0 := by
  have h0 : (0 : Int64).toInt = 0 := by decide
  constructor
  · intro e
    subst e
    rw [← h.1, h0]
  · intro e
    exact Int64.toInt_inj.mp (by rw [h.1, h0, e])
/-- terms of a law: class and reference -/
theorem frm_eq {s : S9} {t : List (Int × Int × Int)} (h : R9 s t) (h1 : 1 ≤ t.length) (h60 : t.length ≤ 60) : (solX s).1.toInt = frmM s := by
  obtain ⟨k, hk, q0, q1, q2, q3, q4, q5, q6, q7, q8⟩ := h
  have hk1 : 1 ≤ k ∧ k ≤ 60 := by omega
  have n := lb_w q0 (show k ≤ 60 by omega)
  have W := lb_w q2 (show 50 * k ≤ 3000 by omega)
  have A := lb_w q3 (show 399 * k ≤ 23940 by omega)
  have WW := lb_w q4 (show 2500 * k ≤ 150000 by omega)
  have AA := lb_w q5 (show 159201 * k ≤ 9552060 by omega)
  have WA := lb_w q6 (show 19950 * k ≤ 1197000 by omega)
  have SW := lb_sub (lb_mul n WW (by decide)) (lb_mul W W (by decide)) (by decide)
  have SA := lb_sub (lb_mul n AA (by decide)) (lb_mul A A (by decide)) (by decide)
  have J := lb_sub (lb_mul n WA (by decide)) (lb_mul W A (by decide)) (by decide)
  have BO := lb_sub (lb_mul SW SA (by decide)) (lb_mul J J (by decide)) (by decide)
  have TH := lb_add (lb_sub (lb_mul n (lb_sub (lb_mul WW AA (by decide)) (lb_mul WA WA (by decide)) (by decide)) (by decide)) (lb_mul W (lb_sub (lb_mul W AA (by decide)) (lb_mul WA A (by decide)) (by decide)) (by decide)) (by decide)) (lb_mul A (lb_sub (lb_mul W WA (by decide)) (lb_mul WW A (by decide)) (by decide)) (by decide)) (by decide)
  obtain ⟨n1, n2, n3⟩ := spread_nn t h1 hk rfl rfl rfl rfl rfl
  rw [both_thr] at n3
  have hp := thr_pos hk1.1 n3
  have zT := lz TH
  have zW := lz SW
  have zA := lz SA
  have i3 : (3 : Int32).toInt = 3 := by decide
  have i2 : (2 : Int32).toInt = 2 := by decide
  have i4 : (4 : Int32).toInt = 4 := by decide
  have i1 : (1 : Int32).toInt = 1 := by decide
  unfold solX frmM thrF twoF
  rw [SW.1, SA.1, BO.1, both_thr]
  by_cases c : thrI k (sI (fun z => z.2.1) t) (sI (fun z => z.2.2) t) (sI (fun z => z.2.1 * z.2.1) t) (sI (fun z => z.2.1 * z.2.2) t) (sI (fun z => z.2.2 * z.2.2) t) = 0
  · rw [if_neg (fun g => hp.mp g c), if_pos (zT.mpr c)]
    by_cases c2 : k * sI (fun z => z.2.1 * z.2.1) t - sI (fun z => z.2.1) t * sI (fun z => z.2.1) t = 0
    · rw [if_neg (by omega), if_pos (zW.mpr c2)]
      by_cases c3 : k * sI (fun z => z.2.2 * z.2.2) t - sI (fun z => z.2.2) t * sI (fun z => z.2.2) t = 0
      · rw [if_neg (by omega), if_pos (zA.mpr c3)]; exact i1
      · rw [if_pos (by omega), if_neg (fun g => c3 (zA.mp g))]; exact i4
    · rw [if_pos (by omega), if_neg (fun g => c2 (zW.mp g))]; exact i2
  · rw [if_pos (hp.mpr c), if_neg (fun g => c (zT.mp g))]; exact i3
/-- how many there are: as an int, as a long -/
theorem cnt9 {s : S9} {t : List (Int × Int × Int)} (h : R9 s t) (h60 : t.length ≤ 60) : (s.1.toInt32.toInt = 0 ↔ s.1 = 0) ∧ (¬ s.1 = 0 → 1 ≤ t.length) := by
  obtain ⟨k, hk, q0, -⟩ := h
  have e : s.1.toInt32.toInt = k := by
    rw [Int64.toInt_toInt32, q0.1]
    exact i_bmod (by omega) (by omega)
  have z := lz q0
  constructor
  · rw [e]; exact z.symm
  · intro g
    rcases Nat.eq_zero_or_pos t.length with q | q
    · exact absurd (z.mpr (by omega)) g
    · exact q
/-! ===== what a law foretells, in whole numbers ===== -/
theorem sI_sq (h r : Int × Int × Int → Int) (x y : Int) : ∀ t : List (Int × Int × Int), sI (fun z => (x * h z + y * r z) * (x * h z + y * r z)) t = x * x * sI (fun z => h z * h z) t + 2 * (x * y) * sI (fun z => h z * r z) t + y * y * sI (fun z => r z * r z) t
  | [] => by simp [sI]
  | z :: t => by
    have ih := sI_sq h r x y t
    show (x * h z + y * r z) * (x * h z + y * r z) + sI (fun z => (x * h z + y * r z) * (x * h z + y * r z)) t = x * x * (h z * h z + sI (fun z => h z * h z) t) + 2 * (x * y) * (h z * r z + sI (fun z => h z * r z) t) + y * y * (r z * r z + sI (fun z => r z * r z) t)
    rw [ih]
    grind
theorem sI_nn (f : Int × Int × Int → Int) : ∀ t : List (Int × Int × Int), 0 ≤ sI (fun z => f z * f z) t
  | [] => Int.le_refl 0
  | z :: t => by
    have ih := sI_nn f t
    have h := sq_nn (f z)
    show 0 ≤ f z * f z + sI (fun z => f z * f z) t
    omega
theorem cs_sI (h r : Int × Int × Int → Int) (t : List (Int × Int × Int)) : sI (fun z => h z * r z) t * sI (fun z => h z * r z) t ≤ sI (fun z => h z * h z) t * sI (fun z => r z * r z) t := by
  have q := quad_nn (a := sI (fun z => h z * h z) t) (b := sI (fun z => h z * r z) t) (c := sI (fun z => r z * r z) t) (fun x y => by
    rw [← sI_sq h r x y t]
    exact sI_nn (fun z => x * h z + y * r z) t)
  omega
theorem sI_hr (a b c : Int) : ∀ t : List (Int × Int × Int), sI (fun z => (a + b * z.2.1 + c * z.2.2) * z.1) t = a * sI (fun z => z.1) t + b * sI (fun z => z.2.1 * z.1) t + c * sI (fun z => z.2.2 * z.1) t
  | [] => by simp [sI]
  | z :: t => by
    have ih := sI_hr a b c t
    show (a + b * z.2.1 + c * z.2.2) * z.1 + sI (fun z => (a + b * z.2.1 + c * z.2.2) * z.1) t = a * (z.1 + sI (fun z => z.1) t) + b * (z.2.1 * z.1 + sI (fun z => z.2.1 * z.1) t) + c * (z.2.2 * z.1 + sI (fun z => z.2.2 * z.1) t)
    rw [ih]
    grind
theorem sI_hh (a b c : Int) : ∀ t : List (Int × Int × Int), sI (fun z => (a + b * z.2.1 + c * z.2.2) * (a + b * z.2.1 + c * z.2.2)) t = a * a * (t.length : Int) + b * b * sI (fun z => z.2.1 * z.2.1) t + c * c * sI (fun z => z.2.2 * z.2.2) t + 2 * (a * b) * sI (fun z => z.2.1) t + 2 * (a * c) * sI (fun z => z.2.2) t + 2 * (b * c) * sI (fun z => z.2.1 * z.2.2) t
  | [] => by simp [sI]
  | z :: t => by
    have ih := sI_hh a b c t
    rw [List.length_cons]
    show (a + b * z.2.1 + c * z.2.2) * (a + b * z.2.1 + c * z.2.2) + sI (fun z => (a + b * z.2.1 + c * z.2.2) * (a + b * z.2.1 + c * z.2.2)) t = a * a * ((t.length + 1 : Nat) : Int) + b * b * (z.2.1 * z.2.1 + sI (fun z => z.2.1 * z.2.1) t) + c * c * (z.2.2 * z.2.2 + sI (fun z => z.2.2 * z.2.2) t) + 2 * (a * b) * (z.2.1 + sI (fun z => z.2.1) t) + 2 * (a * c) * (z.2.2 + sI (fun z => z.2.2) t) + 2 * (b * c) * (z.2.1 * z.2.2 + sI (fun z => z.2.1 * z.2.2) t)
    rw [ih]
    push_cast
    grind
theorem sI_rr : ∀ t : List (Int × Int × Int), okT t → sI (fun z => z.1 * z.1) t ≤ 998001 * (t.length : Int)
  | [], _ => by simp [sI]
  | z :: t, h => by
    have ih := sI_rr t (fun y hy => h y (List.mem_cons_of_mem _ hy))
    have hz := (h z (List.mem_cons_self ..)).1
    have hb := ab_mul (A := 999) (B := 999) hz.1 hz.2 hz.1 hz.2
    rw [List.length_cons]
    show z.1 * z.1 + sI (fun z => z.1 * z.1) t ≤ _
    push_cast
    omega
/-- numerators of a law: a number alone, by warmth, by age; and of its value -/
def oneI (R W A WW WA AA WR AR : Int) : Int := R * (WW * AA - WA * WA) - W * (WR * AA - WA * AR) + A * (WR * WA - WW * AR)
def bywI (n R W A WA AA WR AR : Int) : Int := n * (WR * AA - WA * AR) - R * (W * AA - WA * A) + A * (W * AR - WR * A)
def byaI (n R W A WW WA WR AR : Int) : Int := n * (WW * AR - WR * WA) - W * (W * AR - WR * A) + R * (W * WA - WW * A)
theorem norm_eq (n R W A WW WA AA WR AR : Int) : n * oneI R W A WW WA AA WR AR + W * bywI n R W A WA AA WR AR + A * byaI n R W A WW WA WR AR = R * thrI n W A WW WA AA := by
  unfold oneI bywI byaI thrI
  grind
theorem byw_n (n R W A WA AA WR AR : Int) : (n * WR - W * R) * (n * AA - A * A) - (n * AR - A * R) * (n * WA - W * A) = n * bywI n R W A WA AA WR AR := by
  unfold bywI
  grind
theorem bya_n (n R W A WW WA WR AR : Int) : (n * AR - A * R) * (n * WW - W * W) - (n * WR - W * R) * (n * WA - W * A) = n * byaI n R W A WW WA WR AR := by
  unfold byaI
  grind
/-- what is divided, and by what, on either side: three terms -/
theorem x3_eq {n R W A WW WA AA WR AR w g B : Int} (hB : B = n * thrI n W A WW WA AA) : B * R + (n * bywI n R W A WA AA WR AR) * (n * w - W) + (n * byaI n R W A WW WA WR AR) * (n * g - A) = n * n * (oneI R W A WW WA AA WR AR + bywI n R W A WA AA WR AR * w + byaI n R W A WW WA WR AR * g) := by
  have h := norm_eq n R W A WW WA AA WR AR
  have e : B * R = n * (n * oneI R W A WW WA AA WR AR + W * bywI n R W A WA AA WR AR + A * byaI n R W A WW WA WR AR) := by rw [h, hB]; grind
  rw [e]
  grind
theorem x2_eq (n R W WW WR w : Int) : (n * WW - W * W) * R + (n * WR - W * R) * (n * w - W) = n * (R * WW - W * WR + (n * WR - W * R) * w) := by grind
/-- the bound of what three terms give -/
theorem u3_bound (t : List (Int × Int × Int)) {n R W A WW WA AA WR AR w g : Int} (e0 : n = t.length) (e1 : W = sI (fun z => z.2.1) t) (e2 : A = sI (fun z => z.2.2) t) (e3 : WW = sI (fun z => z.2.1 * z.2.1) t) (e4 : WA = sI (fun z => z.2.1 * z.2.2) t) (e5 : AA = sI (fun z => z.2.2 * z.2.2) t) (e6 : R = sI (fun z => z.1) t) (e7 : WR = sI (fun z => z.2.1 * z.1) t) (e8 : AR = sI (fun z => z.2.2 * z.1) t) :
    (oneI R W A WW WA AA WR AR + bywI n R W A WA AA WR AR * w + byaI n R W A WW WA WR AR * g) * (oneI R W A WW WA AA WR AR + bywI n R W A WA AA WR AR * w + byaI n R W A WW WA WR AR * g) ≤ (thrI n W A WW WA AA * ((WW * AA - WA * WA) + w * w * (n * AA - A * A) + g * g * (n * WW - W * W) - 2 * (w * (W * AA - WA * A)) + 2 * (g * (W * WA - WW * A)) - 2 * (w * g * (n * WA - W * A)))) * sI (fun z => z.1 * z.1) t := by
  have c := cs_sI (fun z => ((WW * AA - WA * WA) - (W * AA - WA * A) * w + (W * WA - WW * A) * g) + (-(W * AA - WA * A) + (n * AA - A * A) * w - (n * WA - W * A) * g) * z.2.1 + ((W * WA - WW * A) - (n * WA - W * A) * w + (n * WW - W * W) * g) * z.2.2) (fun z => z.1) t
  rw [sI_hr, sI_hh, ← e0, ← e1, ← e2, ← e3, ← e4, ← e5, ← e6, ← e7, ← e8] at c
  have a1 : ((WW * AA - WA * WA) - (W * AA - WA * A) * w + (W * WA - WW * A) * g) * R + (-(W * AA - WA * A) + (n * AA - A * A) * w - (n * WA - W * A) * g) * WR + ((W * WA - WW * A) - (n * WA - W * A) * w + (n * WW - W * W) * g) * AR = oneI R W A WW WA AA WR AR + bywI n R W A WA AA WR AR * w + byaI n R W A WW WA WR AR * g := by
    unfold oneI bywI byaI
    grind
  rw [a1] at c
  refine Int.le_trans c (Int.le_of_eq ?_)
  congr 1
  unfold thrI
  grind
theorem tb3 {U L q r : Int} (hL : 1 ≤ L) (h : U * U ≤ (L * q) * r) (hq : q * r ≤ 10000000000000000000000) : -(4000000000000000 * L) < U ∧ U < 4000000000000000 * L := by
  have hLL : L * 1 ≤ L * L := Int.mul_le_mul_of_nonneg_left hL (by omega)
  have h2 : (L * q) * r ≤ L * 10000000000000000000000 := by
    rw [Int.mul_assoc]
    exact Int.mul_le_mul_of_nonneg_left hq (by omega)
  constructor
  · rcases (show -(4000000000000000 * L) < U ∨ 4000000000000000 * L ≤ -U by omega) with g | g
    · exact g
    · exfalso
      have h3 : (4000000000000000 * L) * (4000000000000000 * L) ≤ (-U) * (-U) := Int.mul_le_mul g g (by omega) (by omega)
      rw [Int.neg_mul_neg] at h3
      have e : (4000000000000000 * L) * (4000000000000000 * L) = 16000000000000000000000000000000 * (L * L) := by grind
      omega
  · rcases (show U < 4000000000000000 * L ∨ 4000000000000000 * L ≤ U by omega) with g | g
    · exact g
    · exfalso
      have h3 : (4000000000000000 * L) * (4000000000000000 * L) ≤ U * U := Int.mul_le_mul g g (by omega) (by omega)
      have e : (4000000000000000 * L) * (4000000000000000 * L) = 16000000000000000000000000000000 * (L * L) := by grind
      omega
theorem dv_bound {U L c : Int} (hL : 1 ≤ L) (h1 : -(c * L) ≤ U) (h2 : U ≤ c * L) : -c ≤ U / L ∧ U / L ≤ c := by
  constructor
  · exact Int.le_ediv_of_mul_le (by omega) (by rw [Int.neg_mul]; exact h1)
  · have : U / L < c + 1 := Int.ediv_lt_of_lt_mul (by omega) (by rw [Int.add_mul]; omega)
    omega
/-- in steps: the whole part, then a thousand times the rest -/
theorem th_floor {U L : Int} (hL : 0 < L) : 1000 * (U / L) + 1000 * (U - U / L * L) / L = 1000 * U / L := by
  have e : 1000 * U = 1000 * (U - U / L * L) + (1000 * (U / L)) * L := by grind
  rw [e, Int.add_mul_ediv_right _ _ (by omega)]
  rw [Int.add_comm]
/-! ===== the class's long division, bit by bit ===== -/
theorem shr_k (x c : Int64) (k : Nat) (h : (c.toBitVec.smod 64).toNat = k) : (x >>> c).toInt = x.toInt / 2 ^ k := by
  have e : (x >>> c).toBitVec = x.toBitVec.sshiftRight k := by
    show BitVec.sshiftRight' x.toBitVec (c.toBitVec.smod 64) = _
    unfold BitVec.sshiftRight'
    rw [h]
  show (x >>> c).toBitVec.toInt = x.toBitVec.toInt / 2 ^ k
  rw [e, BitVec.toInt_sshiftRight, Int.shiftRight_eq_div_pow]
  norm_cast
theorem and_1 (y : Int64) : (y &&& 1).toInt = y.toInt % 2 := by
  show (y.toBitVec &&& 1#64).toInt = y.toBitVec.toInt % 2
  rw [BitVec.toInt_and]
  have h1 : y.toBitVec.toNat &&& (1#64).toNat = y.toBitVec.toNat % 2 := by
    show y.toBitVec.toNat &&& 1 = _
    exact Nat.and_one_is_mod _
  rw [h1, BitVec.toInt_eq_toNat_cond]
  have hb := y.toBitVec.isLt
  have h2 : ((y.toBitVec.toNat % 2 : Nat) : Int).bmod (2 ^ 64) = ((y.toBitVec.toNat % 2 : Nat) : Int) := lq_bmod (by omega) (by omega)
  rw [h2]
  split <;> omega
theorem bit_of {x : Int64} {b : Int32} (hb : 0 ≤ b.toInt ∧ b.toInt ≤ 30) : ((x >>> (b.toInt64 &&& 63)) &&& 1).toInt = x.toInt / 2 ^ b.toInt.toNat % 2 := by
  rw [and_1]
  have hk : ∀ k : Int32, b = k → ((k.toInt64 &&& 63).toBitVec.smod 64).toNat = k.toInt.toNat → (x >>> (b.toInt64 &&& 63)).toInt % 2 = x.toInt / 2 ^ b.toInt.toNat % 2 := fun k e h => by
    subst e
    rw [shr_k x _ _ h]
  rcases (show b.toInt = 0 ∨ b.toInt = 1 ∨ b.toInt = 2 ∨ b.toInt = 3 ∨ b.toInt = 4 ∨ b.toInt = 5 ∨ b.toInt = 6 ∨ b.toInt = 7 ∨ b.toInt = 8 ∨ b.toInt = 9 ∨ b.toInt = 10 ∨ b.toInt = 11 ∨ b.toInt = 12 ∨ b.toInt = 13 ∨ b.toInt = 14 ∨ b.toInt = 15 ∨ b.toInt = 16 ∨ b.toInt = 17 ∨ b.toInt = 18 ∨ b.toInt = 19 ∨ b.toInt = 20 ∨ b.toInt = 21 ∨ b.toInt = 22 ∨ b.toInt = 23 ∨ b.toInt = 24 ∨ b.toInt = 25 ∨ b.toInt = 26 ∨ b.toInt = 27 ∨ b.toInt = 28 ∨ b.toInt = 29 ∨ b.toInt = 30 by omega) with h | h | h | h | h | h | h | h | h | h | h | h | h | h | h | h | h | h | h | h | h | h | h | h | h | h | h | h | h | h | h
  · exact hk 0 (Int32.toInt_inj.mp (by rw [h]; decide)) (by decide)
  · exact hk 1 (Int32.toInt_inj.mp (by rw [h]; decide)) (by decide)
  · exact hk 2 (Int32.toInt_inj.mp (by rw [h]; decide)) (by decide)
  · exact hk 3 (Int32.toInt_inj.mp (by rw [h]; decide)) (by decide)
  · exact hk 4 (Int32.toInt_inj.mp (by rw [h]; decide)) (by decide)
  · exact hk 5 (Int32.toInt_inj.mp (by rw [h]; decide)) (by decide)
  · exact hk 6 (Int32.toInt_inj.mp (by rw [h]; decide)) (by decide)
  · exact hk 7 (Int32.toInt_inj.mp (by rw [h]; decide)) (by decide)
  · exact hk 8 (Int32.toInt_inj.mp (by rw [h]; decide)) (by decide)
  · exact hk 9 (Int32.toInt_inj.mp (by rw [h]; decide)) (by decide)
  · exact hk 10 (Int32.toInt_inj.mp (by rw [h]; decide)) (by decide)
  · exact hk 11 (Int32.toInt_inj.mp (by rw [h]; decide)) (by decide)
  · exact hk 12 (Int32.toInt_inj.mp (by rw [h]; decide)) (by decide)
  · exact hk 13 (Int32.toInt_inj.mp (by rw [h]; decide)) (by decide)
  · exact hk 14 (Int32.toInt_inj.mp (by rw [h]; decide)) (by decide)
  · exact hk 15 (Int32.toInt_inj.mp (by rw [h]; decide)) (by decide)
  · exact hk 16 (Int32.toInt_inj.mp (by rw [h]; decide)) (by decide)
  · exact hk 17 (Int32.toInt_inj.mp (by rw [h]; decide)) (by decide)
  · exact hk 18 (Int32.toInt_inj.mp (by rw [h]; decide)) (by decide)
  · exact hk 19 (Int32.toInt_inj.mp (by rw [h]; decide)) (by decide)
  · exact hk 20 (Int32.toInt_inj.mp (by rw [h]; decide)) (by decide)
  · exact hk 21 (Int32.toInt_inj.mp (by rw [h]; decide)) (by decide)
  · exact hk 22 (Int32.toInt_inj.mp (by rw [h]; decide)) (by decide)
  · exact hk 23 (Int32.toInt_inj.mp (by rw [h]; decide)) (by decide)
  · exact hk 24 (Int32.toInt_inj.mp (by rw [h]; decide)) (by decide)
  · exact hk 25 (Int32.toInt_inj.mp (by rw [h]; decide)) (by decide)
  · exact hk 26 (Int32.toInt_inj.mp (by rw [h]; decide)) (by decide)
  · exact hk 27 (Int32.toInt_inj.mp (by rw [h]; decide)) (by decide)
  · exact hk 28 (Int32.toInt_inj.mp (by rw [h]; decide)) (by decide)
  · exact hk 29 (Int32.toInt_inj.mp (by rw [h]; decide)) (by decide)
  · exact hk 30 (Int32.toInt_inj.mp (by rw [h]; decide)) (by decide)
/-- so far: the bits of t from k up have been worked off -/
def ADP (D r t : Int) (k : Nat) (lf pt : Int) : Prop := (0 ≤ lf ∧ lf < D) ∧ (0 ≤ pt ∧ pt ≤ t / 2 ^ k) ∧ pt * D + lf = t / 2 ^ k * r
theorem half_t (t : Int) (k : Nat) : t / 2 ^ k = 2 * (t / 2 ^ (k + 1)) + t / 2 ^ k % 2 := by
  have e : t / 2 ^ (k + 1) = t / 2 ^ k / 2 := by
    rw [Int.pow_succ, Int.ediv_ediv_of_nonneg (Int.pow_nonneg (by decide))]
  rw [e]
  omega
theorem adp_go {D r t lf pt l1 : Int} {k : Nat} (hD : 0 < D) (hr : 0 ≤ r ∧ r < D) (ht : 0 ≤ t) (h : ADP D r t (k + 1) lf pt) (e : l1 = 2 * lf + t / 2 ^ k % 2 * r) : ADP D r t k (l1 % D) (2 * pt + l1 / D) := by
  obtain ⟨h1, h2, h3⟩ := h
  have ht2 := half_t t k
  have hm := Int.emod_nonneg l1 (show D ≠ 0 by omega)
  have hl := Int.emod_lt_of_pos l1 hD
  have hd := Int.mul_ediv_add_emod l1 D
  have hb : 0 ≤ t / 2 ^ k % 2 ∧ t / 2 ^ k % 2 ≤ 1 := by omega
  have hbr : 0 ≤ t / 2 ^ k % 2 * r := Int.mul_nonneg hb.1 hr.1
  have hq : 0 ≤ l1 / D := Int.ediv_nonneg (by omega) (by omega)
  have hE : (2 * pt + l1 / D) * D + l1 % D = t / 2 ^ k * r := by
    have e1 : (2 * pt + l1 / D) * D + l1 % D = 2 * (pt * D) + (D * (l1 / D) + l1 % D) := by grind
    rw [e1, hd, e]
    have e2 : t / 2 ^ k * r = 2 * (t / 2 ^ (k + 1) * r) + t / 2 ^ k % 2 * r := by
      have this : t / 2 ^ k * r = (2 * (t / 2 ^ (k + 1)) + t / 2 ^ k % 2) * r := congrArg (fun z => z * r) ht2
      rw [this]
      grind
    rw [e2, ← h3]
    omega
  refine ⟨⟨hm, hl⟩, ⟨by omega, ?_⟩, hE⟩
  have hT : 0 ≤ t / 2 ^ k := Int.ediv_nonneg ht (Int.pow_nonneg (by decide))
  have hle : t / 2 ^ k * r ≤ t / 2 ^ k * D := Int.mul_le_mul_of_nonneg_left (by omega) hT
  exact Int.le_of_mul_le_mul_right (a := D) (by omega) hD
theorem lxor_sgn (x y : Int64) : (x ^^^ y).toInt < 0 ↔ ¬ (x.toInt < 0 ↔ y.toInt < 0) := by
  have h1 := BitVec.msb_eq_toInt (x := x.toBitVec ^^^ y.toBitVec)
  rw [BitVec.msb_xor, BitVec.msb_eq_toInt, BitVec.msb_eq_toInt] at h1
  have h2 : (decide (x.toInt < 0) ^^ decide (y.toInt < 0)) = decide ((x ^^^ y).toInt < 0) := h1
  clear h1
  generalize (x ^^^ y).toInt = u at h2 ⊢
  generalize x.toInt = v at h2 ⊢
  generalize y.toInt = w at h2 ⊢
  by_cases a : v < 0 <;> by_cases b : w < 0 <;> by_cases c : u < 0 <;> simp_all <;> omega
theorem ldv_back {a b : Int64} (hb : 0 < b.toInt) : a / b * b = a ↔ a.toInt.tdiv b.toInt * b.toInt = a.toInt := by
  have hr := ldv_rng (a := a) hb
  have l := ll_lo a
  have u := ll_hi a
  have hm : (a / b * b).toInt = a.toInt.tdiv b.toInt * b.toInt := by
    rw [Int64.toInt_mul, ldv_q hb]
    exact lq_bmod (by omega) (by omega)
  rw [← Int64.toInt_inj, hm]
theorem fdvL_eq {x y : Int64} (hy : 0 < y.toInt) : (fdvL x y).toInt = x.toInt / y.toInt := by
  have hs := lxor_sgn x y
  unfold fdvL
  by_cases c : 0 ≤ (x ^^^ y).toInt
  · rw [if_pos c, ldv_q hy, fl_eq hy, if_pos (Or.inl (by omega)), Int.add_zero]
  · rw [if_neg c]
    by_cases d : x / y * y = x
    · rw [if_pos d, ldv_q hy]
      exact fl_exact hy ((ldv_back hy).mp d)
    · rw [if_neg d]
      have hx : x.toInt < 0 := by omega
      have e := fl_down hy hx (fun k => d ((ldv_back hy).mpr k))
      have h1 : (1 : Int64).toInt = 1 := by decide
      have l := ll_lo x
      have k : x.toInt ≤ x.toInt / y.toInt := Int.le_ediv_of_mul_le hy (by have := Int.mul_le_mul_of_nonpos_left (show x.toInt ≤ 0 by omega) (show (1 : Int) ≤ y.toInt by omega); omega)
      have k2 : x.toInt / y.toInt < 0 := Int.ediv_lt_of_lt_mul hy (by omega)
      rw [Int64.toInt_sub, ldv_q hy, h1, e]
      exact lq_bmod (by omega) (by omega)
theorem em_eq (x y : Int) : x % y = x - x / y * y := by
  have := Int.mul_ediv_add_emod x y
  rw [Int.mul_comm] at this
  omega
theorem fmdL_eq {x y : Int64} (hy : 0 < y.toInt) : (fmdL x y).toInt = x.toInt % y.toInt := by
  have hs := lxor_sgn x y
  have h0 : (0 : Int64).toInt = 0 := by decide
  have hr := ldv_rem (a := x) hy
  have hi := ll_hi y
  rw [em_eq]
  unfold fmdL
  by_cases c : 0 ≤ (x ^^^ y).toInt
  · rw [if_pos c, hr, fl_eq hy, if_pos (Or.inl (by omega)), Int.add_zero]
  · rw [if_neg c]
    by_cases d : x - x / y * y = 0
    · rw [if_pos d, hr, fl_exact hy ((lrm_0 hy).mp d)]
    · rw [if_neg d]
      have hx : x.toInt < 0 := by omega
      have e := fl_down hy hx (fun k => d ((lrm_0 hy).mpr k))
      have hm := Int.emod_nonneg x.toInt (show y.toInt ≠ 0 by omega)
      have hl := Int.emod_lt_of_pos x.toInt hy
      rw [em_eq] at hm hl
      have e2 : x.toInt.tdiv y.toInt * y.toInt = x.toInt / y.toInt * y.toInt + y.toInt := by
        rw [show x.toInt.tdiv y.toInt = x.toInt / y.toInt + 1 by omega, Int.add_mul, Int.one_mul]
      rw [Int64.toInt_add, hr, e2, lq_bmod (by omega) (by omega)]
      omega
theorem absL_eq {b : Int64} (h : -9223372036854775807 ≤ b.toInt) : (b.toInt < 0 → (absL b).toInt = -b.toInt) ∧ (0 ≤ b.toInt → (absL b).toInt = b.toInt) := by
  have u := ll_hi b
  unfold absL
  constructor
  · intro k
    rw [if_pos k, Int64.toInt_neg]
    exact lq_bmod (by omega) (by omega)
  · intro k
    rw [if_neg (by omega)]
/-- a step of the loop -/
theorem adG_eq {wd rem t : Int64} {b : Int32} {s : Int64 × Int64} (hD : 0 < wd.toInt ∧ wd.toInt ≤ 3000000000000000000) (hr : 0 ≤ rem.toInt ∧ rem.toInt < wd.toInt) (ht : 0 ≤ t.toInt ∧ t.toInt < 2147483648) (hb : 0 ≤ b.toInt ∧ b.toInt ≤ 30) (h : ADP wd.toInt rem.toInt t.toInt (b.toInt.toNat + 1) s.1.toInt s.2.toInt) : ADP wd.toInt rem.toInt t.toInt b.toInt.toNat (adG wd rem t b s).1.toInt (adG wd rem t b s).2.toInt := by
  have hbit := bit_of (x := t) hb
  have h2 : (2 : Int64).toInt = 2 := by decide
  have hb2 : 0 ≤ t.toInt / 2 ^ b.toInt.toNat % 2 ∧ t.toInt / 2 ^ b.toInt.toNat % 2 ≤ 1 := by omega
  have hbr : 0 ≤ t.toInt / 2 ^ b.toInt.toNat % 2 * rem.toInt ∧ t.toInt / 2 ^ b.toInt.toNat % 2 * rem.toInt ≤ rem.toInt := by
    rcases (show t.toInt / 2 ^ b.toInt.toNat % 2 = 0 ∨ t.toInt / 2 ^ b.toInt.toNat % 2 = 1 by omega) with q | q <;> rw [q] <;> omega
  have hs := h.1
  have hp := h.2.1
  have hpl : t.toInt / 2 ^ (b.toInt.toNat + 1) ≤ t.toInt := Int.ediv_le_self _ ht.1
  have e1 : (2 * s.1).toInt = 2 * s.1.toInt := by
    rw [Int64.toInt_mul, h2]; exact lq_bmod (by omega) (by omega)
  have e2 : ((t >>> (b.toInt64 &&& 63) &&& 1) * rem).toInt = t.toInt / 2 ^ b.toInt.toNat % 2 * rem.toInt := by
    rw [Int64.toInt_mul, hbit]; exact lq_bmod (by omega) (by omega)
  have e3 : (2 * s.1 + (t >>> (b.toInt64 &&& 63) &&& 1) * rem).toInt = 2 * s.1.toInt + t.toInt / 2 ^ b.toInt.toNat % 2 * rem.toInt := by
    rw [Int64.toInt_add, e1, e2]; exact lq_bmod (by omega) (by omega)
  have hn : 0 ≤ (2 * s.1 + (t >>> (b.toInt64 &&& 63) &&& 1) * rem).toInt := by omega
  have e4 : ((2 * s.1 + (t >>> (b.toInt64 &&& 63) &&& 1) * rem) / wd).toInt = (2 * s.1 + (t >>> (b.toInt64 &&& 63) &&& 1) * rem).toInt / wd.toInt := by
    rw [ldv_q hD.1, fl_eq hD.1, if_pos (Or.inl hn), Int.add_zero]
  have e5 : (2 * s.1 + (t >>> (b.toInt64 &&& 63) &&& 1) * rem - (2 * s.1 + (t >>> (b.toInt64 &&& 63) &&& 1) * rem) / wd * wd).toInt = (2 * s.1 + (t >>> (b.toInt64 &&& 63) &&& 1) * rem).toInt % wd.toInt := by
    rw [ldv_rem hD.1, em_eq, fl_eq hD.1, if_pos (Or.inl hn), Int.add_zero]
  have g := adp_go hD.1 hr ht.1 h e3
  have hq : (2 * s.1 + (t >>> (b.toInt64 &&& 63) &&& 1) * rem).toInt / wd.toInt ≤ 3 := by
    have : (2 * s.1 + (t >>> (b.toInt64 &&& 63) &&& 1) * rem).toInt / wd.toInt < 4 := Int.ediv_lt_of_lt_mul hD.1 (by omega)
    omega
  have hq0 : 0 ≤ (2 * s.1 + (t >>> (b.toInt64 &&& 63) &&& 1) * rem).toInt / wd.toInt := Int.ediv_nonneg hn (by omega)
  have e6 : (2 * s.2 + (2 * s.1 + (t >>> (b.toInt64 &&& 63) &&& 1) * rem) / wd).toInt = 2 * s.2.toInt + (2 * s.1 + (t >>> (b.toInt64 &&& 63) &&& 1) * rem).toInt / wd.toInt := by
    have e7 : (2 * s.2).toInt = 2 * s.2.toInt := by rw [Int64.toInt_mul, h2]; exact lq_bmod (by omega) (by omega)
    rw [Int64.toInt_add, e7, e4]
    exact lq_bmod (by omega) (by omega)
  unfold adG
  (try dsimp only)
  rw [e5, e6]
  exact g
theorem adS_eq {wd rem t : Int64} (hD : 0 < wd.toInt ∧ wd.toInt ≤ 3000000000000000000) (hr : 0 ≤ rem.toInt ∧ rem.toInt < wd.toInt) (ht : 0 ≤ t.toInt ∧ t.toInt < 2147483648) : ∀ j : Nat, j ≤ 31 → ADP wd.toInt rem.toInt t.toInt (31 - j) (adS wd rem t j).1.toInt (adS wd rem t j).2.toInt
  | 0, _ => by
    have h0 : (0 : Int64).toInt = 0 := by decide
    have e : t.toInt / 2 ^ 31 = 0 := Int.ediv_eq_zero_of_lt ht.1 (by omega)
    show ADP _ _ _ 31 (0 : Int64).toInt (0 : Int64).toInt
    rw [h0]
    exact ⟨⟨Int.le_refl _, hD.1⟩, ⟨Int.le_refl _, by rw [e]; exact Int.le_refl _⟩, by rw [e, Int.zero_mul, Int.zero_mul, Int.add_zero]⟩
  | j + 1, hj => by
    have ih := adS_eq hD hr ht j (by omega)
    have hb : (Int32.ofInt (30 - (j : Int))).toInt = 30 - (j : Int) := Int32.toInt_ofInt_of_le (by omega) (by omega)
    rw [adS_s]
    have e : (Int32.ofInt (30 - (j : Int))).toInt.toNat = 31 - (j + 1) := by rw [hb]; omega
    have g := adG_eq (b := Int32.ofInt (30 - (j : Int))) (s := adS wd rem t j) hD hr ht (by rw [hb]; omega) (by rw [e, show 31 - (j + 1) + 1 = 31 - j by omega]; exact ih)
    rw [e] at g
    exact g
/-- a long as a number, up to 2 ^ 64 -/
def lcg (z : Int64) (v : Int) : Prop := ∃ k : Int, z.toInt = v + 18446744073709551616 * k
theorem bm_ex (x : Int) : ∃ k : Int, x.bmod (2 ^ 64) = x + 18446744073709551616 * k := by
  have e : ((2 ^ 64 : Nat) : Int) = 18446744073709551616 := by decide
  have h := Int.mul_ediv_add_emod x 18446744073709551616
  rw [Int.bmod_def, e]
  split
  · exact ⟨-(x / 18446744073709551616), by omega⟩
  · exact ⟨-(x / 18446744073709551616) - 1, by omega⟩
theorem lcg_r (z : Int64) : lcg z z.toInt := ⟨0, by omega⟩
theorem lcg_e {z : Int64} {v : Int} (h : z.toInt = v) : lcg z v := ⟨0, by omega⟩
theorem lcg_add {a b : Int64} {x y : Int} (h : lcg a x) (k : lcg b y) : lcg (a + b) (x + y) := by
  obtain ⟨i, hi⟩ := h
  obtain ⟨j, hj⟩ := k
  obtain ⟨m, hm⟩ := bm_ex (a.toInt + b.toInt)
  exact ⟨i + j + m, by rw [Int64.toInt_add, hm, hi, hj]; omega⟩
theorem lcg_mul {a b : Int64} {x y : Int} (h : lcg a x) (k : lcg b y) : lcg (a * b) (x * y) := by
  obtain ⟨i, hi⟩ := h
  obtain ⟨j, hj⟩ := k
  obtain ⟨m, hm⟩ := bm_ex (a.toInt * b.toInt)
  refine ⟨x * j + i * y + 18446744073709551616 * (i * j) + m, ?_⟩
  rw [Int64.toInt_mul, hm, hi, hj]
  grind
theorem lcg_at {z : Int64} {v : Int} (h : lcg z v) (h1 : -9000000000000000000 ≤ v) (h2 : v ≤ 9000000000000000000) : z.toInt = v := by
  obtain ⟨k, hk⟩ := h
  have l := ll_lo z
  have u := ll_hi z
  omega
theorem adPr_eq {wd wh rs a b : Int64} {v : Int} (hD : 0 < wd.toInt ∧ wd.toInt ≤ 3000000000000000000) (ha : -4000000000000000000 ≤ a.toInt ∧ a.toInt ≤ 4000000000000000000) (hb : -2147483647 ≤ b.toInt ∧ b.toInt ≤ 2147483647) (hrs : 0 ≤ rs.toInt ∧ rs.toInt < wd.toInt) (hw : lcg wh v) :
    (0 ≤ (adPr wd wh rs a b).2.toInt ∧ (adPr wd wh rs a b).2.toInt < wd.toInt) ∧ (adPr wd wh rs a b).2.toInt = (rs.toInt + a.toInt * b.toInt) % wd.toInt ∧ lcg (adPr wd wh rs a b).1 (v + (rs.toInt + a.toInt * b.toInt) / wd.toInt) := by
  have habs := absL_eq (b := b) (by omega)
  -- with a factor f and the size t of b
  have core : ∀ f : Int64, f.toInt * (absL b).toInt = a.toInt * b.toInt → (0 ≤ (absL b).toInt ∧ (absL b).toInt < 2147483648) → (0 ≤ ((rs + (adS wd (fmdL f wd) (absL b) 31).1) - (rs + (adS wd (fmdL f wd) (absL b) 31).1) / wd * wd).toInt ∧ ((rs + (adS wd (fmdL f wd) (absL b) 31).1) - (rs + (adS wd (fmdL f wd) (absL b) 31).1) / wd * wd).toInt < wd.toInt) ∧ ((rs + (adS wd (fmdL f wd) (absL b) 31).1) - (rs + (adS wd (fmdL f wd) (absL b) 31).1) / wd * wd).toInt = (rs.toInt + a.toInt * b.toInt) % wd.toInt ∧ lcg (wh + fdvL f wd * absL b + ((adS wd (fmdL f wd) (absL b) 31).2 + (rs + (adS wd (fmdL f wd) (absL b) 31).1) / wd)) (v + (rs.toInt + a.toInt * b.toInt) / wd.toInt) := fun f hf ht => by
    have hm := fmdL_eq (x := f) hD.1
    have hq := fdvL_eq (x := f) hD.1
    have hm0 := Int.emod_nonneg f.toInt (show wd.toInt ≠ 0 by omega)
    have hm1 := Int.emod_lt_of_pos f.toInt hD.1
    have g := adS_eq (wd := wd) (rem := fmdL f wd) (t := absL b) hD (by omega) ht 31 (by omega)
    rw [show 31 - 31 = 0 from rfl] at g
    obtain ⟨g1, g2, g3⟩ := g
    rw [Int.pow_zero, Int.ediv_one] at g2 g3
    have e1 : (rs + (adS wd (fmdL f wd) (absL b) 31).1).toInt = rs.toInt + (adS wd (fmdL f wd) (absL b) 31).1.toInt := by
      rw [Int64.toInt_add]; exact lq_bmod (by omega) (by omega)
    have hn : 0 ≤ (rs + (adS wd (fmdL f wd) (absL b) 31).1).toInt := by omega
    have e2 : ((rs + (adS wd (fmdL f wd) (absL b) 31).1) / wd).toInt = (rs + (adS wd (fmdL f wd) (absL b) 31).1).toInt / wd.toInt := by
      rw [ldv_q hD.1, fl_eq hD.1, if_pos (Or.inl hn), Int.add_zero]
    have e3 : ((rs + (adS wd (fmdL f wd) (absL b) 31).1) - (rs + (adS wd (fmdL f wd) (absL b) 31).1) / wd * wd).toInt = (rs + (adS wd (fmdL f wd) (absL b) 31).1).toInt % wd.toInt := by
      rw [ldv_rem hD.1, em_eq, fl_eq hD.1, if_pos (Or.inl hn), Int.add_zero]
    have hfd := Int.mul_ediv_add_emod f.toInt wd.toInt
    -- the whole sum in terms of wd
    have key : rs.toInt + a.toInt * b.toInt = (rs.toInt + (adS wd (fmdL f wd) (absL b) 31).1.toInt) + (f.toInt / wd.toInt * (absL b).toInt + (adS wd (fmdL f wd) (absL b) 31).2.toInt) * wd.toInt := by
      rw [← hf, Int.add_mul]
      have k1 : f.toInt * (absL b).toInt = f.toInt / wd.toInt * (absL b).toInt * wd.toInt + (absL b).toInt * (f.toInt % wd.toInt) := by
        have this : (wd.toInt * (f.toInt / wd.toInt) + f.toInt % wd.toInt) * (absL b).toInt = f.toInt * (absL b).toInt := congrArg (fun z => z * (absL b).toInt) hfd
        rw [← this]
        grind
      rw [hm] at g3
      omega
    rw [key, Int.add_mul_emod_self_right, Int.add_mul_ediv_right _ _ (by omega), e3, e1]
    refine ⟨⟨Int.emod_nonneg _ (by omega), Int.emod_lt_of_pos _ hD.1⟩, rfl, ?_⟩
    have L := lcg_add (lcg_add hw (lcg_mul (lcg_e hq) (lcg_r (absL b)))) (lcg_add (lcg_r (adS wd (fmdL f wd) (absL b) 31).2) (lcg_e e2))
    rw [e1] at L
    have ev : v + f.toInt / wd.toInt * (absL b).toInt + ((adS wd (fmdL f wd) (absL b) 31).2.toInt + (rs.toInt + (adS wd (fmdL f wd) (absL b) 31).1.toInt) / wd.toInt) = v + ((rs.toInt + (adS wd (fmdL f wd) (absL b) 31).1.toInt) / wd.toInt + (f.toInt / wd.toInt * (absL b).toInt + (adS wd (fmdL f wd) (absL b) 31).2.toInt)) := by omega
    rw [← ev]
    exact L
  unfold adPr
  rw [if_neg (by omega)]
  by_cases c : 0 ≤ b.toInt
  · rw [if_pos c]
    exact core a (by rw [habs.2 c]) (by rw [habs.2 c]; omega)
  · rw [if_neg c]
    have hn : (-a).toInt = -a.toInt := by rw [Int64.toInt_neg]; exact lq_bmod (by omega) (by omega)
    exact core (-a) (by rw [hn, habs.1 (by omega), Int.neg_mul_neg]) (by rw [habs.1 (by omega)]; omega)
/-- the three together -/
theorem th3 {x y z D : Int} (hD : 0 < D) : x / D + (x % D + y) / D + ((x % D + y) % D + z) / D = (x + y + z) / D := by
  have h1 := Int.mul_ediv_add_emod x D
  have h2 := Int.mul_ediv_add_emod (x % D + y) D
  have e : x + y + z = ((x % D + y) % D + z) + (x / D + (x % D + y) / D) * D := by
    rw [Int.add_mul, Int.mul_comm (x / D) D, Int.mul_comm ((x % D + y) / D) D]
    omega
  rw [e, Int.add_mul_ediv_right _ _ (by omega)]
  omega
theorem tho_core {s : S9} {d bw ba : Int64} {w g : Int32} {D b1 b2 b3 : Int} (hD : (s.1 * d).toInt = D) (hD0 : 0 < D ∧ D ≤ 3000000000000000000) (hd : -4000000000000000000 ≤ d.toInt ∧ d.toInt ≤ 4000000000000000000) (hbw : -4000000000000000000 ≤ bw.toInt ∧ bw.toInt ≤ 4000000000000000000) (hba : -4000000000000000000 ≤ ba.toInt ∧ ba.toInt ≤ 4000000000000000000)
    (e1 : lb (1000 * s.2.1) b1 2147483647) (e2 : lb (1000 * (s.1 * w.toInt64 - s.2.2.1)) b2 2147483647) (e3 : lb (1000 * (s.1 * g.toInt64 - s.2.2.2.1)) b3 2147483647) : lcg (thoX s d bw ba w g) ((d.toInt * b1 + bw.toInt * b2 + ba.toInt * b3) / D) := by
  have h0 : (0 : Int64).toInt = 0 := by decide
  subst hD
  have f1 := e1.1
  have f2 := e2.1
  have f3 := e3.1
  obtain ⟨a1, a2, a3⟩ := adPr_eq (wd := s.1 * d) (wh := 0) (rs := 0) (a := d) (b := 1000 * s.2.1) (v := 0) hD0 hd (by rw [f1]; exact e1.2) (by rw [h0]; exact ⟨Int.le_refl _, hD0.1⟩) (lcg_e h0)
  obtain ⟨c1, c2, c3⟩ := adPr_eq (a := bw) (b := 1000 * (s.1 * w.toInt64 - s.2.2.1)) hD0 hbw (by rw [f2]; exact e2.2) a1 a3
  obtain ⟨g1, g2, g3⟩ := adPr_eq (a := ba) (b := 1000 * (s.1 * g.toInt64 - s.2.2.2.1)) hD0 hba (by rw [f3]; exact e3.2) c1 c3
  rw [c2, a2, h0, Int.zero_add, Int.zero_add, f1, f2, f3, th3 hD0.1] at g3
  exact g3
/-- what is given by class and reference: the same number -/
theorem tho_eq {s : S9} {t : List (Int × Int × Int)} (hR : R9 s t) (hO : okT t) (h1 : 1 ≤ t.length) (h60 : t.length ≤ 60) {w g : Int32} (hw : -50 ≤ w.toInt ∧ w.toInt ≤ 50) (hg : 0 ≤ g.toInt ∧ g.toInt ≤ 399) :
    ∃ U L : Int, (1 ≤ L ∧ L ≤ 1000000000000000) ∧ (uplM s w g).1.toInt = L ∧ (uplM s w g).2.toInt = U ∧ (-2000000000000000000 ≤ U ∧ U ≤ 2000000000000000000) ∧ (thoX s (solX s).2.1 (solX s).2.2.1 (solX s).2.2.2 w g).toInt = 1000 * U / L := by
  obtain ⟨k, hk, q0, q1, q2, q3, q4, q5, q6, q7, q8⟩ := hR
  have hk1 : 1 ≤ k ∧ k ≤ 60 := by omega
  have n := lb_w q0 (show k ≤ 60 by omega)
  have R := lb_w q1 (show 999 * k ≤ 59940 by omega)
  have W := lb_w q2 (show 50 * k ≤ 3000 by omega)
  have A := lb_w q3 (show 399 * k ≤ 23940 by omega)
  have WW := lb_w q4 (show 2500 * k ≤ 150000 by omega)
  have AA := lb_w q5 (show 159201 * k ≤ 9552060 by omega)
  have WA := lb_w q6 (show 19950 * k ≤ 1197000 by omega)
  have WR := lb_w q7 (show 49950 * k ≤ 2997000 by omega)
  have AR := lb_w q8 (show 398601 * k ≤ 23916060 by omega)
  have lw : lb w.toInt64 w.toInt 50 := lb_i hw.1 hw.2
  have lg : lb g.toInt64 g.toInt 399 := lb_i (by omega) hg.2
  have l1000 : lb (1000 : Int64) 1000 1000 := ⟨by decide, by decide, by decide⟩
  have B1 := lb_w (lb_mul l1000 R (by decide)) (show (1000 * 59940 : Int) ≤ 2147483647 by decide)
  have B2 := lb_w (lb_mul l1000 (lb_sub (lb_mul n lw (by decide)) W (by decide)) (by decide)) (show (1000 * (60 * 50 + 3000) : Int) ≤ 2147483647 by decide)
  have B3 := lb_w (lb_mul l1000 (lb_sub (lb_mul n lg (by decide)) A (by decide)) (by decide)) (show (1000 * (60 * 399 + 23940) : Int) ≤ 2147483647 by decide)
  have SW := lb_sub (lb_mul n WW (by decide)) (lb_mul W W (by decide)) (by decide)
  have SA := lb_sub (lb_mul n AA (by decide)) (lb_mul A A (by decide)) (by decide)
  have J := lb_sub (lb_mul n WA (by decide)) (lb_mul W A (by decide)) (by decide)
  have XW := lb_sub (lb_mul n WR (by decide)) (lb_mul W R (by decide)) (by decide)
  have XA := lb_sub (lb_mul n AR (by decide)) (lb_mul A R (by decide)) (by decide)
  have BO := lb_sub (lb_mul SW SA (by decide)) (lb_mul J J (by decide)) (by decide)
  have BW := lb_sub (lb_mul XW SA (by decide)) (lb_mul XA J (by decide)) (by decide)
  have BA := lb_sub (lb_mul XA SW (by decide)) (lb_mul XW J (by decide)) (by decide)
  have TH := lb_add (lb_sub (lb_mul n (lb_sub (lb_mul WW AA (by decide)) (lb_mul WA WA (by decide)) (by decide)) (by decide)) (lb_mul W (lb_sub (lb_mul W AA (by decide)) (lb_mul WA A (by decide)) (by decide)) (by decide)) (by decide)) (lb_mul A (lb_sub (lb_mul W WA (by decide)) (lb_mul WW A (by decide)) (by decide)) (by decide)) (by decide)
  have ON := lb_add (lb_sub (lb_mul R (lb_sub (lb_mul WW AA (by decide)) (lb_mul WA WA (by decide)) (by decide)) (by decide)) (lb_mul W (lb_sub (lb_mul WR AA (by decide)) (lb_mul WA AR (by decide)) (by decide)) (by decide)) (by decide)) (lb_mul A (lb_sub (lb_mul WR WA (by decide)) (lb_mul WW AR (by decide)) (by decide)) (by decide)) (by decide)
  have YW := lb_add (lb_sub (lb_mul n (lb_sub (lb_mul WR AA (by decide)) (lb_mul WA AR (by decide)) (by decide)) (by decide)) (lb_mul R (lb_sub (lb_mul W AA (by decide)) (lb_mul WA A (by decide)) (by decide)) (by decide)) (by decide)) (lb_mul A (lb_sub (lb_mul W AR (by decide)) (lb_mul WR A (by decide)) (by decide)) (by decide)) (by decide)
  have YA := lb_add (lb_sub (lb_mul n (lb_sub (lb_mul WW AR (by decide)) (lb_mul WR WA (by decide)) (by decide)) (by decide)) (lb_mul W (lb_sub (lb_mul W AR (by decide)) (lb_mul WR A (by decide)) (by decide)) (by decide)) (by decide)) (lb_mul R (lb_sub (lb_mul W WA (by decide)) (lb_mul WW A (by decide)) (by decide)) (by decide)) (by decide)
  have U3 := lb_add (lb_add ON (lb_mul YW lw (by decide)) (by decide)) (lb_mul YA lg (by decide)) (by decide)
  have U2 := lb_add (lb_sub (lb_mul R WW (by decide)) (lb_mul W WR (by decide)) (by decide)) (lb_mul XW lw (by decide)) (by decide)
  have U4 := lb_add (lb_sub (lb_mul R AA (by decide)) (lb_mul A AR (by decide)) (by decide)) (lb_mul XA lg (by decide)) (by decide)
  obtain ⟨n1, n2, n3⟩ := spread_nn t h1 hk rfl rfl rfl rfl rfl
  rw [both_thr] at n3
  have hp := thr_pos hk1.1 n3
  have zT := lz TH
  have zW := lz SW
  have zA := lz SA
  have h0 : (0 : Int64).toInt = 0 := by decide
  by_cases c : thrI k (sI (fun z => z.2.1) t) (sI (fun z => z.2.2) t) (sI (fun z => z.2.1 * z.2.1) t) (sI (fun z => z.2.1 * z.2.2) t) (sI (fun z => z.2.2 * z.2.2) t) = 0
  · by_cases c2 : k * sI (fun z => z.2.1 * z.2.1) t - sI (fun z => z.2.1) t * sI (fun z => z.2.1) t = 0
    · by_cases c3 : k * sI (fun z => z.2.2 * z.2.2) t - sI (fun z => z.2.2) t * sI (fun z => z.2.2) t = 0
      · -- a number alone
        have eu : uplM s w g = (s.1, s.2.1) := by
          unfold uplM thrF twoF
          rw [if_pos (zT.mpr c), if_pos (zW.mpr c2), if_pos (zA.mpr c3)]
        have es : solX s = (1, 1, 0, 0) := by
          unfold solX
          rw [SW.1, SA.1, BO.1, both_thr, if_neg (fun q => hp.mp q c), if_neg (by omega), if_neg (by omega)]
        have d1 : (1 : Int64).toInt = 1 := by decide
        have hD : (s.1 * 1).toInt = k := by rw [Int64.mul_one]; exact q0.1
        have T := tho_core (d := 1) (bw := 0) (ba := 0) (w := w) (g := g) hD (by omega) (by rw [d1]; decide) (by rw [h0]; decide) (by rw [h0]; decide) B1 B2 B3
        rw [d1, h0, Int.one_mul, Int.zero_mul, Int.zero_mul, Int.add_zero, Int.add_zero] at T
        refine ⟨sI (fun z => z.1) t, k, by omega, by rw [eu]; exact q0.1, by rw [eu]; exact R.1, by have := R.2; omega, ?_⟩
        rw [es]
        have hb := dv_bound (U := 1000 * sI (fun z => z.1) t) (L := k) (c := 60000000) hk1.1 (by have := R.2; omega) (by have := R.2; omega)
        exact lcg_at T (by omega) (by omega)
      · -- with age
        have eu : uplM s w g = (twoF s.1 s.2.2.2.1 s.2.2.2.2.2.1, up2F s.1 s.2.1 s.2.2.2.1 s.2.2.2.2.2.1 s.2.2.2.2.2.2.2.2 g.toInt64) := by
          unfold uplM
          rw [if_pos (show thrF s.1 s.2.2.1 s.2.2.2.1 s.2.2.2.2.1 s.2.2.2.2.2.2.1 s.2.2.2.2.2.1 = 0 from zT.mpr c), if_pos (show twoF s.1 s.2.2.1 s.2.2.2.2.1 = 0 from zW.mpr c2), if_neg (show ¬ twoF s.1 s.2.2.2.1 s.2.2.2.2.2.1 = 0 from fun q => c3 (zA.mp q))]
        have es : solX s = (4, s.1 * s.2.2.2.2.2.1 - s.2.2.2.1 * s.2.2.2.1, 0, s.1 * s.2.2.2.2.2.2.2.2 - s.2.2.2.1 * s.2.1) := by
          unfold solX
          rw [if_neg (by rw [BO.1, both_thr]; exact fun q => hp.mp q c), if_neg (by rw [SW.1]; omega), if_pos (by rw [SA.1]; omega)]
        have DD := lb_mul n SA (by decide)
        have hpos : 0 < k * (k * sI (fun z => z.2.2 * z.2.2) t - sI (fun z => z.2.2) t * sI (fun z => z.2.2) t) := Int.mul_pos (by omega) (by omega)
        have T := tho_core (d := s.1 * s.2.2.2.2.2.1 - s.2.2.2.1 * s.2.2.2.1) (bw := 0) (ba := s.1 * s.2.2.2.2.2.2.2.2 - s.2.2.2.1 * s.2.1) (w := w) (g := g) DD.1 (by have := DD.2; omega) (by rw [SA.1]; have := SA.2; omega) (by rw [h0]; decide) (by rw [XA.1]; have := XA.2; omega) B1 B2 B3
        rw [SA.1, XA.1, h0, Int.zero_mul, Int.add_zero] at T
        refine ⟨sI (fun z => z.1) t * sI (fun z => z.2.2 * z.2.2) t - sI (fun z => z.2.2) t * sI (fun z => z.2.2 * z.1) t + (k * sI (fun z => z.2.2 * z.1) t - sI (fun z => z.2.2) t * sI (fun z => z.1) t) * g.toInt, k * sI (fun z => z.2.2 * z.2.2) t - sI (fun z => z.2.2) t * sI (fun z => z.2.2) t, ?_, by rw [eu]; exact SA.1, by rw [eu]; exact U4.1, by have := U4.2; omega, ?_⟩
        · have := SA.2; omega
        rw [es]
        have ex := x2_eq k (sI (fun z => z.1) t) (sI (fun z => z.2.2) t) (sI (fun z => z.2.2 * z.2.2) t) (sI (fun z => z.2.2 * z.1) t) g.toInt
        rw [show (k * sI (fun z => z.2.2 * z.2.2) t - sI (fun z => z.2.2) t * sI (fun z => z.2.2) t) * (1000 * sI (fun z => z.1) t) + (k * sI (fun z => z.2.2 * z.1) t - sI (fun z => z.2.2) t * sI (fun z => z.1) t) * (1000 * (k * g.toInt - sI (fun z => z.2.2) t)) = k * (1000 * (sI (fun z => z.1) t * sI (fun z => z.2.2 * z.2.2) t - sI (fun z => z.2.2) t * sI (fun z => z.2.2 * z.1) t + (k * sI (fun z => z.2.2 * z.1) t - sI (fun z => z.2.2) t * sI (fun z => z.1) t) * g.toInt)) from by grind, Int.mul_ediv_mul_of_pos _ _ (by omega)] at T
        have hb := dv_bound (U := 1000 * (sI (fun z => z.1) t * sI (fun z => z.2.2 * z.2.2) t - sI (fun z => z.2.2) t * sI (fun z => z.2.2 * z.1) t + (k * sI (fun z => z.2.2 * z.1) t - sI (fun z => z.2.2) t * sI (fun z => z.1) t) * g.toInt)) (L := k * sI (fun z => z.2.2 * z.2.2) t - sI (fun z => z.2.2) t * sI (fun z => z.2.2) t) (c := 4000000000000000) (by omega) (by have := U4.2; omega) (by have := U4.2; omega)
        exact lcg_at T (by omega) (by omega)
    · -- with warmth
      have eu : uplM s w g = (twoF s.1 s.2.2.1 s.2.2.2.2.1, up2F s.1 s.2.1 s.2.2.1 s.2.2.2.2.1 s.2.2.2.2.2.2.2.1 w.toInt64) := by
        unfold uplM
        rw [if_pos (show thrF s.1 s.2.2.1 s.2.2.2.1 s.2.2.2.2.1 s.2.2.2.2.2.2.1 s.2.2.2.2.2.1 = 0 from zT.mpr c), if_neg (show ¬ twoF s.1 s.2.2.1 s.2.2.2.2.1 = 0 from fun q => c2 (zW.mp q))]
      have es : solX s = (2, s.1 * s.2.2.2.2.1 - s.2.2.1 * s.2.2.1, s.1 * s.2.2.2.2.2.2.2.1 - s.2.2.1 * s.2.1, 0) := by
        unfold solX
        rw [if_neg (by rw [BO.1, both_thr]; exact fun q => hp.mp q c), if_pos (by rw [SW.1]; omega)]
      have DD := lb_mul n SW (by decide)
      have hpos : 0 < k * (k * sI (fun z => z.2.1 * z.2.1) t - sI (fun z => z.2.1) t * sI (fun z => z.2.1) t) := Int.mul_pos (by omega) (by omega)
      have T := tho_core (d := s.1 * s.2.2.2.2.1 - s.2.2.1 * s.2.2.1) (bw := s.1 * s.2.2.2.2.2.2.2.1 - s.2.2.1 * s.2.1) (ba := 0) (w := w) (g := g) DD.1 (by have := DD.2; omega) (by rw [SW.1]; have := SW.2; omega) (by rw [XW.1]; have := XW.2; omega) (by rw [h0]; decide) B1 B2 B3
      rw [SW.1, XW.1, h0, Int.zero_mul, Int.add_zero] at T
      refine ⟨sI (fun z => z.1) t * sI (fun z => z.2.1 * z.2.1) t - sI (fun z => z.2.1) t * sI (fun z => z.2.1 * z.1) t + (k * sI (fun z => z.2.1 * z.1) t - sI (fun z => z.2.1) t * sI (fun z => z.1) t) * w.toInt, k * sI (fun z => z.2.1 * z.2.1) t - sI (fun z => z.2.1) t * sI (fun z => z.2.1) t, ?_, by rw [eu]; exact SW.1, by rw [eu]; exact U2.1, by have := U2.2; omega, ?_⟩
      · have := SW.2; omega
      rw [es]
      rw [show (k * sI (fun z => z.2.1 * z.2.1) t - sI (fun z => z.2.1) t * sI (fun z => z.2.1) t) * (1000 * sI (fun z => z.1) t) + (k * sI (fun z => z.2.1 * z.1) t - sI (fun z => z.2.1) t * sI (fun z => z.1) t) * (1000 * (k * w.toInt - sI (fun z => z.2.1) t)) = k * (1000 * (sI (fun z => z.1) t * sI (fun z => z.2.1 * z.2.1) t - sI (fun z => z.2.1) t * sI (fun z => z.2.1 * z.1) t + (k * sI (fun z => z.2.1 * z.1) t - sI (fun z => z.2.1) t * sI (fun z => z.1) t) * w.toInt)) from by grind, Int.mul_ediv_mul_of_pos _ _ (by omega)] at T
      have hb := dv_bound (U := 1000 * (sI (fun z => z.1) t * sI (fun z => z.2.1 * z.2.1) t - sI (fun z => z.2.1) t * sI (fun z => z.2.1 * z.1) t + (k * sI (fun z => z.2.1 * z.1) t - sI (fun z => z.2.1) t * sI (fun z => z.1) t) * w.toInt)) (L := k * sI (fun z => z.2.1 * z.2.1) t - sI (fun z => z.2.1) t * sI (fun z => z.2.1) t) (c := 4000000000000000) (by omega) (by have := U2.2; omega) (by have := U2.2; omega)
      exact lcg_at T (by omega) (by omega)
  · -- with both
    have hthr : 0 < thrI k (sI (fun z => z.2.1) t) (sI (fun z => z.2.2) t) (sI (fun z => z.2.1 * z.2.1) t) (sI (fun z => z.2.1 * z.2.2) t) (sI (fun z => z.2.2 * z.2.2) t) := by
      have h2 := hp.mpr c
      rcases (show thrI k (sI (fun z => z.2.1) t) (sI (fun z => z.2.2) t) (sI (fun z => z.2.1 * z.2.1) t) (sI (fun z => z.2.1 * z.2.2) t) (sI (fun z => z.2.2 * z.2.2) t) ≤ 0 ∨ 0 < thrI k (sI (fun z => z.2.1) t) (sI (fun z => z.2.2) t) (sI (fun z => z.2.1 * z.2.1) t) (sI (fun z => z.2.1 * z.2.2) t) (sI (fun z => z.2.2 * z.2.2) t) by omega) with q | q
      · have := Int.mul_nonpos_of_nonneg_of_nonpos (show (0 : Int) ≤ k by omega) q
        omega
      · exact q
    have eu : uplM s w g = (thrF s.1 s.2.2.1 s.2.2.2.1 s.2.2.2.2.1 s.2.2.2.2.2.2.1 s.2.2.2.2.2.1, up3F s w.toInt64 g.toInt64) := by
      unfold uplM
      rw [if_neg (show ¬ thrF s.1 s.2.2.1 s.2.2.2.1 s.2.2.2.2.1 s.2.2.2.2.2.2.1 s.2.2.2.2.2.1 = 0 from fun q => c (zT.mp q))]
    have hBO : (0 : Int) < ((s.1 * s.2.2.2.2.1 - s.2.2.1 * s.2.2.1) * (s.1 * s.2.2.2.2.2.1 - s.2.2.2.1 * s.2.2.2.1) - (s.1 * s.2.2.2.2.2.2.1 - s.2.2.1 * s.2.2.2.1) * (s.1 * s.2.2.2.2.2.2.1 - s.2.2.1 * s.2.2.2.1)).toInt := by rw [BO.1, both_thr]; exact hp.mpr c
    have es : solX s = (3, (s.1 * s.2.2.2.2.1 - s.2.2.1 * s.2.2.1) * (s.1 * s.2.2.2.2.2.1 - s.2.2.2.1 * s.2.2.2.1) - (s.1 * s.2.2.2.2.2.2.1 - s.2.2.1 * s.2.2.2.1) * (s.1 * s.2.2.2.2.2.2.1 - s.2.2.1 * s.2.2.2.1), (s.1 * s.2.2.2.2.2.2.2.1 - s.2.2.1 * s.2.1) * (s.1 * s.2.2.2.2.2.1 - s.2.2.2.1 * s.2.2.2.1) - (s.1 * s.2.2.2.2.2.2.2.2 - s.2.2.2.1 * s.2.1) * (s.1 * s.2.2.2.2.2.2.1 - s.2.2.1 * s.2.2.2.1), (s.1 * s.2.2.2.2.2.2.2.2 - s.2.2.2.1 * s.2.1) * (s.1 * s.2.2.2.2.1 - s.2.2.1 * s.2.2.1) - (s.1 * s.2.2.2.2.2.2.2.1 - s.2.2.1 * s.2.1) * (s.1 * s.2.2.2.2.2.2.1 - s.2.2.1 * s.2.2.2.1)) := by
      unfold solX
      rw [if_pos hBO]
    have DD := lb_mul n BO (by decide)
    have hDD : k * ((k * sI (fun z => z.2.1 * z.2.1) t - sI (fun z => z.2.1) t * sI (fun z => z.2.1) t) * (k * sI (fun z => z.2.2 * z.2.2) t - sI (fun z => z.2.2) t * sI (fun z => z.2.2) t) - (k * sI (fun z => z.2.1 * z.2.2) t - sI (fun z => z.2.1) t * sI (fun z => z.2.2) t) * (k * sI (fun z => z.2.1 * z.2.2) t - sI (fun z => z.2.1) t * sI (fun z => z.2.2) t)) = k * k * thrI k (sI (fun z => z.2.1) t) (sI (fun z => z.2.2) t) (sI (fun z => z.2.1 * z.2.1) t) (sI (fun z => z.2.1 * z.2.2) t) (sI (fun z => z.2.2 * z.2.2) t) := by rw [both_thr, Int.mul_assoc]
    have hkk : 0 < k * k := Int.mul_pos (by omega) (by omega)
    have hpos : 0 < k * k * thrI k (sI (fun z => z.2.1) t) (sI (fun z => z.2.2) t) (sI (fun z => z.2.1 * z.2.1) t) (sI (fun z => z.2.1 * z.2.2) t) (sI (fun z => z.2.2 * z.2.2) t) := Int.mul_pos hkk hthr
    have T := tho_core (s := s) (w := w) (g := g) DD.1 (by have := DD.2; omega) (by rw [BO.1]; have := BO.2; omega) (by rw [BW.1]; have := BW.2; omega) (by rw [BA.1]; have := BA.2; omega) B1 B2 B3
    rw [BO.1, BW.1, BA.1, byw_n, bya_n, hDD] at T
    have ex := x3_eq (n := k) (R := sI (fun z => z.1) t) (W := sI (fun z => z.2.1) t) (A := sI (fun z => z.2.2) t) (WW := sI (fun z => z.2.1 * z.2.1) t) (WA := sI (fun z => z.2.1 * z.2.2) t) (AA := sI (fun z => z.2.2 * z.2.2) t) (WR := sI (fun z => z.2.1 * z.1) t) (AR := sI (fun z => z.2.2 * z.1) t) (w := w.toInt) (g := g.toInt) (both_thr k (sI (fun z => z.2.1) t) (sI (fun z => z.2.2) t) (sI (fun z => z.2.1 * z.2.1) t) (sI (fun z => z.2.1 * z.2.2) t) (sI (fun z => z.2.2 * z.2.2) t))
    have ub := u3_bound t (w := w.toInt) (g := g.toInt) hk rfl rfl rfl rfl rfl rfl rfl rfl
    have hrr := sI_rr t hO
    have hrn := sI_nn (fun z => z.1) t
    -- the size of the other factor
    have lwI : lb w.toInt64 w.toInt 50 := lw
    have Q1 := ab_mul (A := 30000000000000) (B := 59880060) (x := (sI (fun z => z.2.1 * z.2.1) t * sI (fun z => z.2.2 * z.2.2) t - sI (fun z => z.2.1 * z.2.2) t * sI (fun z => z.2.1 * z.2.2) t) + w.toInt * w.toInt * (k * sI (fun z => z.2.2 * z.2.2) t - sI (fun z => z.2.2) t * sI (fun z => z.2.2) t) + g.toInt * g.toInt * (k * sI (fun z => z.2.1 * z.2.1) t - sI (fun z => z.2.1) t * sI (fun z => z.2.1) t) - 2 * (w.toInt * (sI (fun z => z.2.1) t * sI (fun z => z.2.2 * z.2.2) t - sI (fun z => z.2.1 * z.2.2) t * sI (fun z => z.2.2) t)) + 2 * (g.toInt * (sI (fun z => z.2.1) t * sI (fun z => z.2.1 * z.2.2) t - sI (fun z => z.2.1 * z.2.1) t * sI (fun z => z.2.2) t)) - 2 * (w.toInt * g.toInt * (k * sI (fun z => z.2.1 * z.2.2) t - sI (fun z => z.2.1) t * sI (fun z => z.2.2) t))) (y := sI (fun z => z.1 * z.1) t)
    have a1 := lb_sub (lb_mul WW AA (by decide)) (lb_mul WA WA (by decide)) (by decide)
    have a2 := lb_mul (lb_mul lw lw (by decide)) SA (by decide)
    have a3 := lb_mul (lb_mul lg lg (by decide)) SW (by decide)
    have a4 := lb_mul lw (lb_sub (lb_mul W AA (by decide)) (lb_mul WA A (by decide)) (by decide)) (by decide)
    have a5 := lb_mul lg (lb_sub (lb_mul W WA (by decide)) (lb_mul WW A (by decide)) (by decide)) (by decide)
    have a6 := lb_mul (lb_mul lw lg (by decide)) J (by decide)
    have b1 := a1.2; have b2 := a2.2; have b3 := a3.2; have b4 := a4.2; have b5 := a5.2; have b6 := a6.2
    have Q2 := Q1 (by omega) (by omega) (by omega) (by omega)
    have tb := tb3 (by omega) ub (by have := Q2.2; omega)
    refine ⟨oneI (sI (fun z => z.1) t) (sI (fun z => z.2.1) t) (sI (fun z => z.2.2) t) (sI (fun z => z.2.1 * z.2.1) t) (sI (fun z => z.2.1 * z.2.2) t) (sI (fun z => z.2.2 * z.2.2) t) (sI (fun z => z.2.1 * z.1) t) (sI (fun z => z.2.2 * z.1) t) + bywI k (sI (fun z => z.1) t) (sI (fun z => z.2.1) t) (sI (fun z => z.2.2) t) (sI (fun z => z.2.1 * z.2.2) t) (sI (fun z => z.2.2 * z.2.2) t) (sI (fun z => z.2.1 * z.1) t) (sI (fun z => z.2.2 * z.1) t) * w.toInt + byaI k (sI (fun z => z.1) t) (sI (fun z => z.2.1) t) (sI (fun z => z.2.2) t) (sI (fun z => z.2.1 * z.2.1) t) (sI (fun z => z.2.1 * z.2.2) t) (sI (fun z => z.2.1 * z.1) t) (sI (fun z => z.2.2 * z.1) t) * g.toInt, thrI k (sI (fun z => z.2.1) t) (sI (fun z => z.2.2) t) (sI (fun z => z.2.1 * z.2.1) t) (sI (fun z => z.2.1 * z.2.2) t) (sI (fun z => z.2.2 * z.2.2) t), ?_, by rw [eu]; exact TH.1, by rw [eu]; exact U3.1, ?_, ?_⟩
    · have h9 : thrI k (sI (fun z => z.2.1) t) (sI (fun z => z.2.2) t) (sI (fun z => z.2.1 * z.2.1) t) (sI (fun z => z.2.1 * z.2.2) t) (sI (fun z => z.2.2 * z.2.2) t) ≤ _ := TH.2.2
      refine ⟨by omega, Int.le_trans h9 (by decide)⟩
    · have h9 := U3.2
      exact ⟨Int.le_trans (by decide) h9.1, Int.le_trans h9.2 (by decide)⟩
    · have e9 : solX s = _ := es
      rw [e9]
      rw [show ∀ B X Y r p q : Int, B * (1000 * r) + X * (1000 * p) + Y * (1000 * q) = 1000 * (B * r + X * p + Y * q) from fun B X Y r p q => by grind, ex, show ∀ a : Int, 1000 * (k * k * a) = k * k * (1000 * a) from fun a => by grind, Int.mul_ediv_mul_of_pos _ _ hkk] at T
      have hb := dv_bound (U := 1000 * (oneI (sI (fun z => z.1) t) (sI (fun z => z.2.1) t) (sI (fun z => z.2.2) t) (sI (fun z => z.2.1 * z.2.1) t) (sI (fun z => z.2.1 * z.2.2) t) (sI (fun z => z.2.2 * z.2.2) t) (sI (fun z => z.2.1 * z.1) t) (sI (fun z => z.2.2 * z.1) t) + bywI k (sI (fun z => z.1) t) (sI (fun z => z.2.1) t) (sI (fun z => z.2.2) t) (sI (fun z => z.2.1 * z.2.2) t) (sI (fun z => z.2.2 * z.2.2) t) (sI (fun z => z.2.1 * z.1) t) (sI (fun z => z.2.2 * z.1) t) * w.toInt + byaI k (sI (fun z => z.1) t) (sI (fun z => z.2.1) t) (sI (fun z => z.2.2) t) (sI (fun z => z.2.1 * z.2.1) t) (sI (fun z => z.2.1 * z.2.2) t) (sI (fun z => z.2.1 * z.1) t) (sI (fun z => z.2.2 * z.1) t) * g.toInt)) (L := thrI k (sI (fun z => z.2.1) t) (sI (fun z => z.2.2) t) (sI (fun z => z.2.1 * z.2.1) t) (sI (fun z => z.2.1 * z.2.2) t) (sI (fun z => z.2.2 * z.2.2) t)) (c := 4000000000000000000) (by omega) (by omega) (by omega)
      exact lcg_at T (by omega) (by omega)
theorem res_eq {s : S9} {w g rx rm : Int32} {U L : Int} (hL : 1 ≤ L ∧ L ≤ 1000000000000000) (hl : (uplM s w g).1.toInt = L) (hu : (uplM s w g).2.toInt = U) (hU : -2000000000000000000 ≤ U ∧ U ≤ 2000000000000000000) (ht : (thoX s (solX s).2.1 (solX s).2.2.1 (solX s).2.2.2 w g).toInt = 1000 * U / L) (hx : FRX s w g rx) (hm : FRM s w g rm) : rx = rm := by
  obtain ⟨wh, e, alt⟩ := hm (by rw [hl]; omega)
  rw [hl, hu] at e
  have tf := th_floor (U := U) (L := L) (by omega)
  have r0 := Int.emod_nonneg U (show L ≠ 0 by omega)
  have r1 := Int.emod_lt_of_pos U (show 0 < L by omega)
  rw [em_eq] at r0 r1
  have d0 : 0 ≤ 1000 * (U - U / L * L) / L := Int.ediv_nonneg (by omega) (by omega)
  have d1 : 1000 * (U - U / L * L) / L < 1000 := Int.ediv_lt_of_lt_mul (by omega) (by omega)
  unfold FRX at hx
  rw [ht] at hx
  rcases alt with ⟨a1, a2⟩ | ⟨a1, v, ev, a2⟩
  · rcases hx with ⟨x1, x2⟩ | ⟨x1, x2⟩
    · exact i_eq.mpr (by omega)
    · exfalso; omega
  · have hT : v.toInt = 1000 * U / L := by
      have h1000 : (1000 : Int64).toInt = 1000 := by decide
      have m1 : (wh * (uplM s w g).1).toInt = U / L * L := by
        rw [Int64.toInt_mul, e, hl]; exact lq_bmod (by omega) (by omega)
      have m2 : ((uplM s w g).2 - wh * (uplM s w g).1).toInt = U - U / L * L := by
        rw [Int64.toInt_sub, m1, hu]; exact lq_bmod (by omega) (by omega)
      have m3 : (1000 * ((uplM s w g).2 - wh * (uplM s w g).1)).toInt = 1000 * (U - U / L * L) := by
        rw [Int64.toInt_mul, m2, h1000]; exact lq_bmod (by omega) (by omega)
      have hlp : 0 < (uplM s w g).1.toInt := by omega
      have m4 : (1000 * ((uplM s w g).2 - wh * (uplM s w g).1) / (uplM s w g).1).toInt = 1000 * (U - U / L * L) / L := by
        rw [ldv_q hlp, fl_eq hlp, if_pos (Or.inl (by rw [m3]; omega)), Int.add_zero, m3, hl]
      have m5 : (1000 * wh).toInt = 1000 * (U / L) := by
        rw [Int64.toInt_mul, h1000, e]; exact lq_bmod (by omega) (by omega)
      rw [ev, Int64.toInt_add, m4, m5, ← tf]
      exact lq_bmod (by omega) (by omega)
    rcases hx with ⟨x1, x2⟩ | ⟨x1, x2⟩
    · rcases a2 with ⟨y1, y2⟩ | ⟨y1, y2⟩
      · exact i_eq.mpr (by omega)
      · exfalso; omega
    · rcases a2 with ⟨y1, y2⟩ | ⟨y1, y2⟩
      · exfalso; omega
      · rw [x2, y2, show thoX s (solX s).2.1 (solX s).2.2.1 (solX s).2.2.2 w g = v from Int64.toInt_inj.mp (by rw [ht, hT])]
