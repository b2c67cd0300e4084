/-! ===== reading of texts: the machine with a stack, over any tokens (K kinds, V numbers, s where they begin, e where they end) ===== -/
def tgt (x : Int) : Int := if x = 5 then 0 else x / 10
def opn : List Int → Int
  | [] => 0
  | x :: S => (if x = 5 ∨ x = 30 ∨ x = 70 ∨ x = 71 then 1 else 0) + opn S
def popK (k : Int) : List Int → List (Int × Int) → List Int × List (Int × Int)
  | [], O => ([], O)
  | x :: S, O => if k ≤ tgt x then popK k S ((x, 0) :: O) else (x :: S, O)
def flu : List Int → List (Int × Int) → List (Int × Int)
  | [], O => O
  | x :: S, O => flu S ((x, 0) :: O)
def topT : List Int → Int
  | [] => 0
  | x :: _ => tgt x
def rlT (t : Int) : Int := if t / 10 = 4 then 5 else t / 10
def RUN (K V : Nat → Int) (s e : Nat → Nat) : Nat → Bool → Bool → List Int → List (Int × Int) → Nat → Int × List (Int × Int) → Prop
  | 0, _, _, _, _, _, _ => False
  | F + 1, w, m, S, O, a, res =>
    if w = true then
      if (K a = 30 ∧ m = true) ∨ K a = 51 ∨ K a = 5 ∨ K a = 71 then
        if opn S = 15 then res = (((s a : Nat) : Int), []) else RUN K V s e F true (decide (K a = 5 ∨ K a = 30)) ((if K a = 51 then 70 else K a) :: S) O (e a) res
      else if K a = 1 ∨ 100 ≤ K a then RUN K V s e F false m S ((K a, if K a = 1 then V a else 0) :: O) (e a) res
      else res = (((s a : Nat) : Int), [])
    else if K a = 6 then
      if (popK 1 S O).1 = [] then res = (((s a : Nat) : Int), []) else RUN K V s e F false m (popK 1 S O).1.tail (popK 1 S O).2 (e a) res
    else if K a = 0 then
      if (popK 1 S O).1 = [] then res = (-1, (popK 1 S O).2) else res = (((s a : Nat) : Int), [])
    else if K a < 10 ∨ 70 ≤ K a ∨ K a = 30 then res = (((s a : Nat) : Int), [])
    else if K a / 10 = 4 ∧ topT (popK 5 S O).1 = 4 then res = (((s a : Nat) : Int), [])
    else RUN K V s e F true (decide (K a = 10 ∨ K a = 20)) (K a :: (popK (rlT (K a)) S O).1) (popK (rlT (K a)) S O).2 (e a) res
section PARSE
variable {K V : Nat → Int} {s e : Nat → Nat}
theorem RUN_det : ∀ (F F' : Nat) (w m : Bool) (S : List Int) (O : List (Int × Int)) (a : Nat) (r r' : Int × List (Int × Int)), RUN K V s e F w m S O a r → RUN K V s e F' w m S O a r' → r = r'
  | 0, _, _, _, _, _, _, _, _, h, _ => h.elim
  | _ + 1, 0, _, _, _, _, _, _, _, _, h => h.elim
  | F + 1, F' + 1, w, m, S, O, a, r, r', h, h' => by
    unfold RUN at h h'
    split at h
    · rename_i c1
      rw [if_pos c1] at h'
      split at h
      · rename_i c2
        rw [if_pos c2] at h'
        split at h
        · rename_i c3
          rw [if_pos c3] at h'
          rw [h, h']
        · rename_i c3
          rw [if_neg c3] at h'
          exact RUN_det F F' _ _ _ _ _ _ _ h h'
      · rename_i c2
        rw [if_neg c2] at h'
        split at h
        · rename_i c3
          rw [if_pos c3] at h'
          exact RUN_det F F' _ _ _ _ _ _ _ h h'
        · rename_i c3
          rw [if_neg c3] at h'
          rw [h, h']
    · rename_i c1
      rw [if_neg c1] at h'
      split at h
      · rename_i c2
        rw [if_pos c2] at h'
        split at h
        · rename_i c3
          rw [if_pos c3] at h'
          rw [h, h']
        · rename_i c3
          rw [if_neg c3] at h'
          exact RUN_det F F' _ _ _ _ _ _ _ h h'
      · rename_i c2
        rw [if_neg c2] at h'
        split at h
        · rename_i c3
          rw [if_pos c3] at h'
          split at h
          · rename_i c4
            rw [if_pos c4] at h'
            rw [h, h']
          · rename_i c4
            rw [if_neg c4] at h'
            rw [h, h']
        · rename_i c3
          rw [if_neg c3] at h'
          split at h
          · rename_i c4
            rw [if_pos c4] at h'
            rw [h, h']
          · rename_i c4
            rw [if_neg c4] at h'
            split at h
            · rename_i c5
              rw [if_pos c5] at h'
              rw [h, h']
            · rename_i c5
              rw [if_neg c5] at h'
              exact RUN_det F F' _ _ _ _ _ _ _ h h'
theorem RUN_m : ∀ {F : Nat} {m m' : Bool} {S : List Int} {O : List (Int × Int)} {a : Nat} {res : Int × List (Int × Int)}, RUN K V s e F false m S O a res → RUN K V s e F false m' S O a res
  | 0, _, _, _, _, _, _, h => h.elim
  | F + 1, m, m', S, O, a, res, h => by
    unfold RUN at h ⊢
    rw [if_neg (by decide)] at h ⊢
    split at h
    · rename_i c
      rw [if_pos c]
      split at h
      · rename_i c2
        rw [if_pos c2]; exact h
      · rename_i c2
        rw [if_neg c2]; exact RUN_m h
    · rename_i c
      rw [if_neg c]; exact h
/- one step, by what the token is -/
theorem RUN_pre {F : Nat} {m : Bool} {S : List Int} {O : List (Int × Int)} {a : Nat} {res : Int × List (Int × Int)} (c : (K a = 30 ∧ m = true) ∨ K a = 51 ∨ K a = 5 ∨ K a = 71) (n : opn S ≠ 15)
    (h : RUN K V s e F true (decide (K a = 5 ∨ K a = 30)) ((if K a = 51 then 70 else K a) :: S) O (e a) res) : RUN K V s e (F + 1) true m S O a res := by
  unfold RUN; rw [if_pos rfl, if_pos c, if_neg n]; exact h
theorem RUN_deep {m : Bool} {S : List Int} {O : List (Int × Int)} {a : Nat} (c : (K a = 30 ∧ m = true) ∨ K a = 51 ∨ K a = 5 ∨ K a = 71) (n : opn S = 15) : RUN K V s e 1 true m S O a (((s a : Nat) : Int), []) := by
  unfold RUN; rw [if_pos rfl, if_pos c, if_pos n]
theorem RUN_opd {F : Nat} {m : Bool} {S : List Int} {O : List (Int × Int)} {a : Nat} {res : Int × List (Int × Int)} (c : K a = 1 ∨ 100 ≤ K a)
    (h : RUN K V s e F false m S ((K a, if K a = 1 then V a else 0) :: O) (e a) res) : RUN K V s e (F + 1) true m S O a res := by
  unfold RUN; rw [if_pos rfl, if_neg (by omega), if_pos c]; exact h
theorem RUN_no {m : Bool} {S : List Int} {O : List (Int × Int)} {a : Nat} (c : ¬ ((K a = 30 ∧ m = true) ∨ K a = 51 ∨ K a = 5 ∨ K a = 71)) (c2 : ¬ (K a = 1 ∨ 100 ≤ K a)) : RUN K V s e 1 true m S O a (((s a : Nat) : Int), []) := by
  unfold RUN; rw [if_pos rfl, if_neg c, if_neg c2]
theorem RUN_shut {F : Nat} {m : Bool} {S : List Int} {O : List (Int × Int)} {a : Nat} {x : Int} {S' : List Int} {O' : List (Int × Int)} {res : Int × List (Int × Int)} (c : K a = 6) (q : popK 1 S O = (x :: S', O'))
    (h : RUN K V s e F false m S' O' (e a) res) : RUN K V s e (F + 1) false m S O a res := by
  unfold RUN; rw [if_neg (by decide), if_pos c, q, if_neg (by simp)]; exact h
theorem RUN_end {m : Bool} {S : List Int} {O : List (Int × Int)} {a : Nat} {O' : List (Int × Int)} (c : K a = 0) (q : popK 1 S O = ([], O')) : RUN K V s e 1 false m S O a (-1, O') := by
  unfold RUN; rw [if_neg (by decide), if_neg (by omega), if_pos c, q, if_pos rfl]
theorem RUN_op {F : Nat} {m : Bool} {S : List Int} {O : List (Int × Int)} {a : Nat} {S' : List Int} {O' : List (Int × Int)} {res : Int × List (Int × Int)} (c : 10 ≤ K a ∧ K a < 70 ∧ K a ≠ 30) (q : popK (rlT (K a)) S O = (S', O')) (n : K a / 10 = 4 → topT S' ≠ 4)
    (h : RUN K V s e F true (decide (K a = 10 ∨ K a = 20)) (K a :: S') O' (e a) res) : RUN K V s e (F + 1) false m S O a res := by
  unfold RUN; rw [if_neg (by decide), if_neg (by omega), if_neg (by omega), if_neg (by omega), if_neg ?_, q]; exact h
  intro hh
  have e5 : rlT (K a) = 5 := by unfold rlT; rw [if_pos hh.1]
  rw [e5] at q
  rw [q] at hh
  exact n hh.1 hh.2
/-- where nothing follows: any token that no text has there -/
theorem RUN_bad {m : Bool} {S : List Int} {O : List (Int × Int)} {a : Nat} (c6 : K a = 6 → (popK 1 S O).1 = []) (c0 : K a = 0 → (popK 1 S O).1 ≠ []) (cr : 10 ≤ K a → K a < 70 → K a ≠ 30 → K a / 10 = 4 ∧ topT (popK 5 S O).1 = 4) : RUN K V s e 1 false m S O a (((s a : Nat) : Int), []) := by
  unfold RUN
  rw [if_neg (by decide)]
  by_cases d6 : K a = 6
  · rw [if_pos d6, if_pos (c6 d6)]
  · rw [if_neg d6]
    by_cases d0 : K a = 0
    · rw [if_pos d0, if_neg (c0 d0)]
    · rw [if_neg d0]
      by_cases d1 : K a < 10 ∨ 70 ≤ K a ∨ K a = 30
      · rw [if_pos d1]
      · rw [if_neg d1, if_pos (cr (by omega) (by omega) (by omega))]
/- lists -/
theorem flu_app : ∀ (P Q : List Int) (O : List (Int × Int)), flu (P ++ Q) O = flu Q (flu P O)
  | [], _, _ => rfl
  | x :: P, Q, O => by show flu (P ++ Q) ((x, 0) :: O) = _; rw [flu_app P Q]; rfl
theorem popK_all : ∀ {k : Int} (P S : List Int) (O : List (Int × Int)), (∀ x ∈ P, k ≤ tgt x) → popK k (P ++ S) O = popK k S (flu P O)
  | _, [], _, _, _ => rfl
  | k, x :: P, S, O, h => by
    show (if k ≤ tgt x then popK k (P ++ S) ((x, 0) :: O) else (x :: (P ++ S), O)) = _
    rw [if_pos (h x List.mem_cons_self), popK_all P S _ (fun y hy => h y (List.mem_cons_of_mem _ hy))]; rfl
theorem popK_stop {k : Int} {S : List Int} {O : List (Int × Int)} (h : topT S < k) : popK k S O = (S, O) := by
  cases S with
  | nil => rfl
  | cons x S => show (if k ≤ tgt x then _ else _) = _; rw [if_neg (by have : topT (x :: S) = tgt x := rfl; omega)]
theorem popK_ps {k : Int} {P S : List Int} {O : List (Int × Int)} (hP : ∀ x ∈ P, k ≤ tgt x) (h : topT S < k) : popK k (P ++ S) O = (S, flu P O) := by rw [popK_all P S O hP, popK_stop h]
theorem all_app {k : Int} {P : List Int} {x : Int} (h : ∀ y ∈ P, k ≤ tgt y) (hx : k ≤ tgt x) : ∀ y ∈ P ++ [x], k ≤ tgt y := by
  intro y hy
  rcases List.mem_append.mp hy with q | q
  · exact h y q
  · rw [List.mem_singleton.mp q]; exact hx
theorem all_le {k j : Int} {P : List Int} (h : ∀ y ∈ P, k ≤ tgt y) (hj : j ≤ k) : ∀ y ∈ P, j ≤ tgt y := fun y hy => by have := h y hy; omega
def OKS (k : Int) (S : List Int) : Prop := topT S < k ∨ ((k = 3 ∨ k = 7) ∧ topT S = k)
def MOK (k t : Int) (m : Bool) : Prop := (k ≤ 3 → m = true) ∧ (3 < k → t = 30 → m = false)
def EXT (k t : Int) (P : List Int) : Prop := (k ≤ 6 → t ≠ 60 ∧ t ≠ 61) ∧ (k ≤ 5 → t ≠ 50 ∧ t ≠ 51) ∧ (k ≤ 4 → t / 10 = 4 → ∃ P1 y P2, P = P1 ++ y :: P2 ∧ (∀ x ∈ P1, 5 ≤ tgt x) ∧ tgt y = 4) ∧ (k ≤ 2 → t ≠ 20) ∧ (k ≤ 1 → t ≠ 10)
def FAILS (K V : Nat → Int) (s e : Nat → Nat) (k o : Int) (a a' : Nat) : Prop := ∀ (S : List Int) (O : List (Int × Int)) (m : Bool), opn S = o → OKS k S → MOK k (K a) m → ∃ F, RUN K V s e F true m S O a (((s a' : Nat) : Int), [])
def PASS (K V : Nat → Int) (s e : Nat → Nat) (k j o : Int) (a a' : Nat) (c : List (Int × Int)) : Prop := ∀ (S : List Int) (O : List (Int × Int)) (m : Bool), opn S = o → OKS k S → MOK k (K a) m →
  ∃ P O', (∀ x ∈ P, k ≤ tgt x) ∧ flu P O' = c ++ O ∧ EXT j (K a') P ∧ ∀ (F' : Nat) (m' : Bool) (res : Int × List (Int × Int)), RUN K V s e F' false m' (P ++ S) O' a' res → ∃ F, RUN K V s e F true m S O a res
theorem EXT_app {k t : Int} {P : List Int} {x : Int} (h : EXT k t P) : EXT k t (P ++ [x]) := by
  obtain ⟨h1, h2, h3, h4, h5⟩ := h
  refine ⟨h1, h2, fun a b => ?_, h4, h5⟩
  obtain ⟨P1, y, P2, q, r⟩ := h3 a b
  exact ⟨P1, y, P2 ++ [x], by rw [q]; simp, r⟩
theorem EXT7 {t : Int} {P : List Int} : EXT 7 t P := ⟨fun h => absurd h (by decide), fun h => absurd h (by decide), fun h => absurd h (by decide), fun h => absurd h (by decide), fun h => absurd h (by decide)⟩
/- operands -/
theorem P_opd {o : Int} {a : Nat} (c : K a = 1 ∨ 100 ≤ K a) : PASS K V s e 7 7 o a (e a) [(K a, if K a = 1 then V a else 0)] := by
  intro S O m _ _ _
  refine ⟨[], (K a, if K a = 1 then V a else 0) :: O, fun x hx => absurd hx (by simp), rfl, EXT7, fun F' m' res h => ⟨F' + 1, RUN_opd c ?_⟩⟩
  exact RUN_m h
/- what no operand begins with -/
theorem F_opd {o : Int} {a : Nat} (c : K a ≠ 1 ∧ K a < 100) (c2 : K a ≠ 51 ∧ K a ≠ 5 ∧ K a ≠ 71) : FAILS K V s e 7 o a a := by
  intro S O m _ _ hm
  refine ⟨1, RUN_no (fun h => ?_) (by omega)⟩
  rcases h with h | h
  · have := hm.2 (by decide) h.1; rw [this] at h; exact absurd h.2 (by decide)
  · omega
/- prefixes -/
theorem opn_pre {x : Int} {S : List Int} {o : Int} (c : x = 5 ∨ x = 30 ∨ x = 70 ∨ x = 71) (h : opn S = o) : opn (x :: S) = o + 1 := by
  show (if x = 5 ∨ x = 30 ∨ x = 70 ∨ x = 71 then (1 : Int) else 0) + opn S = _
  rw [if_pos c, h]; omega
theorem opn_op {x : Int} {S : List Int} {o : Int} (c : ¬ (x = 5 ∨ x = 30 ∨ x = 70 ∨ x = 71)) (h : opn S = o) : opn (x :: S) = o := by
  show (if x = 5 ∨ x = 30 ∨ x = 70 ∨ x = 71 then (1 : Int) else 0) + opn S = _
  rw [if_neg c, h]; omega
theorem F_deep {k o : Int} {a : Nat} (c : (k = 3 ∧ K a = 30) ∨ K a = 51 ∨ K a = 5 ∨ K a = 71) (n : o = 15) : FAILS K V s e k o a a := by
  intro S O m ho _ hm
  refine ⟨1, RUN_deep ?_ (by omega)⟩
  rcases c with c | c
  · exact Or.inl ⟨c.2, hm.1 (by omega)⟩
  · exact Or.inr c
/-- the token that is pushed for one ahead of an operand -/
def pre (t : Int) : Int := if t = 51 then 70 else t
theorem pre_run {F : Nat} {m : Bool} {S : List Int} {O : List (Int × Int)} {a : Nat} {res : Int × List (Int × Int)} {b : Bool} (c : (K a = 30 ∧ m = true) ∨ K a = 51 ∨ K a = 5 ∨ K a = 71) (n : opn S ≠ 15) (hb : b = decide (K a = 5 ∨ K a = 30))
    (h : RUN K V s e F true b (pre (K a) :: S) O (e a) res) : ∃ F, RUN K V s e F true m S O a res := ⟨F + 1, RUN_pre c n (by subst hb; exact h)⟩
theorem F_sgn {o : Int} {a a' : Nat} (c : K a = 51 ∨ K a = 71) (n : o ≠ 15) (h : FAILS K V s e 7 (o + 1) (e a) a') : FAILS K V s e 7 o a a' := by
  intro S O m ho _ _
  have ep : pre (K a) = 70 ∨ pre (K a) = 71 := by unfold pre; split <;> omega
  have tp : tgt (pre (K a)) = 7 := by unfold tgt; rw [if_neg (by omega)]; omega
  obtain ⟨F, hF⟩ := h (pre (K a) :: S) O false (opn_pre (by omega) ho) (Or.inr ⟨Or.inr rfl, tp⟩) ⟨fun h => absurd h (by decide), fun _ _ => rfl⟩
  exact pre_run (by omega) (by omega) (by rw [decide_eq_false (by omega)]) hF
theorem P_sgn {o : Int} {a a' : Nat} {c0 : List (Int × Int)} (c : K a = 51 ∨ K a = 71) (n : o ≠ 15) (h : PASS K V s e 7 7 (o + 1) (e a) a' c0) : PASS K V s e 7 7 o a a' ((pre (K a), 0) :: c0) := by
  intro S O m ho _ _
  have ep : pre (K a) = 70 ∨ pre (K a) = 71 := by unfold pre; split <;> omega
  have tp : tgt (pre (K a)) = 7 := by unfold tgt; rw [if_neg (by omega)]; omega
  obtain ⟨P, O', h1, h2, h3, h4⟩ := h (pre (K a) :: S) O false (opn_pre (by omega) ho) (Or.inr ⟨Or.inr rfl, tp⟩) ⟨fun h => absurd h (by decide), fun _ _ => rfl⟩
  refine ⟨P ++ [pre (K a)], O', all_app h1 (by omega), by rw [flu_app, h2]; rfl, EXT_app h3, fun F' m' res hr => ?_⟩
  rw [List.append_assoc] at hr
  obtain ⟨F, hF⟩ := h4 F' m' res hr
  exact pre_run (by omega) (by omega) (by rw [decide_eq_false (by omega)]) hF
theorem F_not {o : Int} {a a' : Nat} (c : K a = 30) (n : o ≠ 15) (h : FAILS K V s e 3 (o + 1) (e a) a') : FAILS K V s e 3 o a a' := by
  intro S O m ho _ hm
  have ep : pre (K a) = 30 := by unfold pre; rw [if_neg (by omega), c]
  obtain ⟨F, hF⟩ := h (pre (K a) :: S) O true (opn_pre (by omega) ho) (Or.inr ⟨Or.inl rfl, by rw [ep]; rfl⟩) ⟨fun _ => rfl, fun h => absurd h (by decide)⟩
  exact pre_run (Or.inl ⟨c, hm.1 (by decide)⟩) (by omega) (by rw [decide_eq_true (Or.inr c)]) hF
theorem P_not {o : Int} {a a' : Nat} {c0 : List (Int × Int)} (c : K a = 30) (n : o ≠ 15) (h : PASS K V s e 3 3 (o + 1) (e a) a' c0) : PASS K V s e 3 3 o a a' ((30, 0) :: c0) := by
  intro S O m ho _ hm
  have ep : pre (K a) = 30 := by unfold pre; rw [if_neg (by omega), c]
  obtain ⟨P, O', h1, h2, h3, h4⟩ := h (pre (K a) :: S) O true (opn_pre (by omega) ho) (Or.inr ⟨Or.inl rfl, by rw [ep]; rfl⟩) ⟨fun _ => rfl, fun h => absurd h (by decide)⟩
  refine ⟨P ++ [pre (K a)], O', all_app h1 (by rw [ep]; decide), by rw [flu_app, h2, ep]; rfl, EXT_app h3, fun F' m' res hr => ?_⟩
  rw [List.append_assoc] at hr
  obtain ⟨F, hF⟩ := h4 F' m' res hr
  exact pre_run (Or.inl ⟨c, hm.1 (by decide)⟩) (by omega) (by rw [decide_eq_true (Or.inr c)]) hF
/- brackets -/
theorem t5 {S : List Int} : topT (5 :: S) < 1 := (by decide : tgt 5 < 1)
theorem F_br {o : Int} {a a' : Nat} (c : K a = 5) (n : o ≠ 15) (h : FAILS K V s e 1 (o + 1) (e a) a') : FAILS K V s e 7 o a a' := by
  intro S O m ho _ _
  have ep : pre (K a) = 5 := by unfold pre; rw [if_neg (by omega), c]
  obtain ⟨F, hF⟩ := h (pre (K a) :: S) O true (opn_pre (by omega) ho) (Or.inl (by rw [ep]; exact t5)) ⟨fun _ => rfl, fun h => absurd h (by decide)⟩
  exact pre_run (by omega) (by omega) (by rw [decide_eq_true (Or.inl c)]) hF
theorem EXT_bad {t : Int} {P : List Int} (h : EXT 1 t P) : 10 ≤ t → t < 70 → t ≠ 30 → (t = 10 ∨ t = 20 ∨ t = 30 ∨ t = 50 ∨ t = 51 ∨ t = 60 ∨ t = 61 ∨ t / 10 = 4) → t / 10 = 4 ∧ ∀ S O, topT (popK 5 (P ++ S) O).1 = 4 := by
  obtain ⟨h1, h2, h3, h4, h5⟩ := h
  intro a b c d
  have e1 := h1 (by decide); have e2 := h2 (by decide); have e4 := h4 (by decide); have e5 := h5 (by decide)
  have e : t / 10 = 4 := by omega
  refine ⟨e, fun S O => ?_⟩
  obtain ⟨P1, y, P2, q, r, z⟩ := h3 (by decide) e
  rw [q, List.append_assoc, List.cons_append, popK_ps r (by have : topT (y :: (P2 ++ S)) = tgt y := rfl; omega)]
  exact z
/-- the kinds that there are -/
def KOK (t : Int) : Prop := t = 0 ∨ t = 1 ∨ t = 2 ∨ t = 5 ∨ t = 6 ∨ t = 10 ∨ t = 20 ∨ t = 30 ∨ t = 40 ∨ t = 41 ∨ t = 42 ∨ t = 50 ∨ t = 51 ∨ t = 60 ∨ t = 61 ∨ t = 71 ∨ 100 ≤ t
theorem F_br2 {o : Int} {a a' : Nat} {c0 : List (Int × Int)} (c : K a = 5) (n : o ≠ 15) (h : PASS K V s e 1 1 (o + 1) (e a) a' c0) (n6 : K a' ≠ 6) (hk : KOK (K a')) : FAILS K V s e 7 o a a' := by
  intro S O m ho _ _
  have ep : pre (K a) = 5 := by unfold pre; rw [if_neg (by omega), c]
  obtain ⟨P, O', h1, h2, h3, h4⟩ := h (pre (K a) :: S) O true (opn_pre (by omega) ho) (Or.inl (by rw [ep]; exact t5)) ⟨fun _ => rfl, fun h => absurd h (by decide)⟩
  have hb : RUN K V s e 1 false true (P ++ pre (K a) :: S) O' a' (((s a' : Nat) : Int), []) := by
    refine RUN_bad (fun h => absurd h n6) (fun _ => ?_) (fun x y z => ?_)
    · rw [popK_ps h1 (by rw [ep]; exact t5)]; simp
    · have h9 := EXT_bad h3 x y z (by unfold KOK at hk; omega)
      exact ⟨h9.1, h9.2 _ _⟩
  obtain ⟨F, hF⟩ := h4 1 true _ hb
  exact pre_run (by omega) (by omega) (by rw [decide_eq_true (Or.inl c)]) hF
theorem P_br {o : Int} {a a' : Nat} {c0 : List (Int × Int)} (c : K a = 5) (n : o ≠ 15) (h : PASS K V s e 1 1 (o + 1) (e a) a' c0) (n6 : K a' = 6) : PASS K V s e 7 7 o a (e a') c0 := by
  intro S O m ho _ _
  have ep : pre (K a) = 5 := by unfold pre; rw [if_neg (by omega), c]
  obtain ⟨P, O', h1, h2, h3, h4⟩ := h (pre (K a) :: S) O true (opn_pre (by omega) ho) (Or.inl (by rw [ep]; exact t5)) ⟨fun _ => rfl, fun h => absurd h (by decide)⟩
  refine ⟨[], c0 ++ O, fun x hx => absurd hx (by simp), rfl, EXT7, fun F' m' res hr => ?_⟩
  obtain ⟨F, hF⟩ := h4 (F' + 1) true res (RUN_shut (x := pre (K a)) (S' := S) (O' := c0 ++ O) n6 (by rw [popK_ps h1 (by rw [ep]; exact t5), h2]) (RUN_m hr))
  exact pre_run (by omega) (by omega) (by rw [decide_eq_true (Or.inl c)]) hF
/- one level on -/
def LVL (k : Int) : Prop := k = 1 ∨ k = 2 ∨ k = 5 ∨ k = 6
theorem OKS_up {k : Int} {S : List Int} (h : OKS k S) : OKS (k + 1) S := by
  rcases h with h | ⟨_, h⟩
  · exact Or.inl (by omega)
  · exact Or.inl (by omega)
theorem OKS_lv {k : Int} {S : List Int} (hk : LVL k) (h : OKS k S) : topT S < k := by
  unfold LVL at hk
  rcases h with h | ⟨h, _⟩
  · exact h
  · omega
theorem MOK_up {k t : Int} {m : Bool} (hk : LVL k) (h : MOK k t m) : MOK (k + 1) t m := by
  unfold LVL at hk
  exact ⟨fun a => h.1 (by omega), fun a b => h.2 (by omega) b⟩
theorem FA_up {k o : Int} {a a' : Nat} (hk : LVL k) (h : FAILS K V s e (k + 1) o a a') : FAILS K V s e k o a a' := fun S O m ho hs hm => h S O m ho (OKS_up hs) (MOK_up hk hm)
theorem P_up {k o : Int} {a a' : Nat} {c0 : List (Int × Int)} (hk : LVL k) (h : PASS K V s e (k + 1) (k + 1) o a a' c0) : PASS K V s e k (k + 1) o a a' c0 := by
  intro S O m ho hs hm
  obtain ⟨P, O', h1, h2, h3, h4⟩ := h S O m ho (OKS_up hs) (MOK_up hk hm)
  exact ⟨P, O', all_le h1 (by omega), h2, h3, h4⟩
theorem tgt_op {t k : Int} (h5 : t ≠ 5) (h : t / 10 = k) : tgt t = k := by unfold tgt; rw [if_neg h5, h]
/-- what goes on at a level -/
def OPT (k t : Int) : Prop := (k = 1 ∧ t = 10) ∨ (k = 2 ∧ t = 20) ∨ (k = 5 ∧ (t = 50 ∨ t = 51)) ∨ (k = 6 ∧ (t = 60 ∨ t = 61))
theorem OPT_facts {k t : Int} (h : OPT k t) : LVL k ∧ tgt t = k ∧ rlT t = k ∧ t / 10 ≠ 4 ∧ 10 ≤ t ∧ t < 70 ∧ t ≠ 30 ∧ t ≠ 5 ∧ t ≠ 70 ∧ t ≠ 71 ∧ (k + 1 ≤ 3 → t = 10 ∨ t = 20) ∧ (3 < k + 1 → ¬ (t = 10 ∨ t = 20)) := by
  unfold OPT at h
  have h9 : LVL k ∧ t / 10 = k ∧ t ≠ 5 := by unfold LVL; omega
  refine ⟨h9.1, tgt_op h9.2.2 h9.2.1, ?_, by omega, by omega, by omega, by omega, by omega, by omega, by omega, by omega, by omega⟩
  unfold rlT; rw [if_neg (by omega)]; exact h9.2.1
theorem lp_run {k o : Int} {a' : Nat} {c0 : List (Int × Int)} {P S : List Int} {O O' : List (Int × Int)} {m : Bool} {F : Nat} {res : Int × List (Int × Int)} (ht : OPT k (K a')) (p1 : ∀ x ∈ P, k ≤ tgt x) (p2 : flu P O' = c0 ++ O) (hs : OKS k S)
    (hF : RUN K V s e F true (decide (K a' = 10 ∨ K a' = 20)) (K a' :: S) (c0 ++ O) (e a') res) : RUN K V s e (F + 1) false m (P ++ S) O' a' res := by
  obtain ⟨f1, f2, f3, f4, f5, f6, f7, f8, f9, f10, f11, f12⟩ := OPT_facts ht
  exact RUN_op ⟨f5, f6, f7⟩ (by rw [f3, popK_ps p1 (OKS_lv f1 hs), p2]) (fun z => absurd z f4) hF
theorem lp_ok {k o : Int} {a' a2 : Nat} {S : List Int} (ht : OPT k (K a')) (ho : opn S = o) : opn (K a' :: S) = o ∧ OKS (k + 1) (K a' :: S) ∧ MOK (k + 1) (K a2) (decide (K a' = 10 ∨ K a' = 20)) := by
  obtain ⟨f1, f2, f3, f4, f5, f6, f7, f8, f9, f10, f11, f12⟩ := OPT_facts ht
  exact ⟨opn_op (by omega) ho, Or.inl (by show tgt (K a') < _; omega), fun hh => decide_eq_true (f11 hh), fun hh _ => decide_eq_false (f12 hh)⟩
theorem F_lp {k o : Int} {a a' a2 : Nat} {c0 : List (Int × Int)} (h : PASS K V s e k (k + 1) o a a' c0) (ht : OPT k (K a')) (h2 : FAILS K V s e (k + 1) o (e a') a2) : FAILS K V s e k o a a2 := by
  intro S O m ho hs hm
  obtain ⟨P, O', p1, p2, p3, p4⟩ := h S O m ho hs hm
  obtain ⟨g1, g2, g3⟩ := lp_ok (a2 := e a') ht ho
  obtain ⟨F, hF⟩ := h2 (K a' :: S) (c0 ++ O) _ g1 g2 g3
  exact p4 (F + 1) m _ (lp_run (o := o) ht p1 p2 hs hF)
theorem P_lp {k o : Int} {a a' a2 : Nat} {c0 c2 : List (Int × Int)} (h : PASS K V s e k (k + 1) o a a' c0) (ht : OPT k (K a')) (h2 : PASS K V s e (k + 1) (k + 1) o (e a') a2 c2) : PASS K V s e k (k + 1) o a a2 ((K a', 0) :: (c2 ++ c0)) := by
  intro S O m ho hs hm
  obtain ⟨P, O', p1, p2, p3, p4⟩ := h S O m ho hs hm
  obtain ⟨g1, g2, g3⟩ := lp_ok (a2 := e a') ht ho
  obtain ⟨P2, O2, q1, q2, q3, q4⟩ := h2 (K a' :: S) (c0 ++ O) _ g1 g2 g3
  obtain ⟨f1, f2, -⟩ := OPT_facts ht
  refine ⟨P2 ++ [K a'], O2, all_app (all_le q1 (by omega)) (by omega), by rw [flu_app, q2, List.cons_append, List.append_assoc]; rfl, EXT_app q3, fun F' m' res hr => ?_⟩
  rw [List.append_assoc] at hr
  obtain ⟨F, hF⟩ := q4 F' m' res hr
  exact p4 (F + 1) m _ (lp_run (o := o) ht p1 p2 hs hF)
theorem EXT_dn {k t : Int} {P : List Int} (hk : LVL k) (h : EXT (k + 1) t P) (ht : ¬ OPT k t) : EXT k t P := by
  unfold LVL at hk; unfold OPT at ht
  have i3 : k ≤ 4 → k + 1 ≤ 4 := by omega
  obtain ⟨h1, h2, h3, h4, h5⟩ := h
  refine ⟨fun z => ?_, fun z => ?_, fun z => h3 (i3 z), fun z => ?_, fun z => ?_⟩ <;> clear h3
  · by_cases q : k + 1 ≤ 6
    · exact h1 q
    · omega
  · by_cases q : k + 1 ≤ 5
    · exact h2 q
    · omega
  · by_cases q : k + 1 ≤ 2
    · exact h4 q
    · omega
  · omega
theorem P_ex {k o : Int} {a a' : Nat} {c0 : List (Int × Int)} (hk : LVL k) (h : PASS K V s e k (k + 1) o a a' c0) (ht : ¬ OPT k (K a')) : PASS K V s e k k o a a' c0 := by
  intro S O m ho hs hm
  obtain ⟨P, O', p1, p2, p3, p4⟩ := h S O m ho hs hm
  exact ⟨P, O', p1, p2, EXT_dn hk p3 ht, p4⟩
/- not, and what stands without -/
theorem F_43 {o : Int} {a a' : Nat} (n : K a ≠ 30) (h : FAILS K V s e 4 o a a') : FAILS K V s e 3 o a a' := fun S O m ho hs _ => h S O m ho (by rcases hs with h | ⟨_, h⟩ <;> exact Or.inl (by omega)) ⟨fun z => absurd z (by decide), fun _ z => absurd z n⟩
theorem P_43 {o : Int} {a a' : Nat} {c0 : List (Int × Int)} (n : K a ≠ 30) (h : PASS K V s e 4 4 o a a' c0) : PASS K V s e 3 3 o a a' c0 := by
  intro S O m ho hs _
  obtain ⟨P, O', p1, p2, p3, p4⟩ := h S O m ho (by rcases hs with h | ⟨_, h⟩ <;> exact Or.inl (by omega)) ⟨fun z => absurd z (by decide), fun _ z => absurd z n⟩
  exact ⟨P, O', all_le p1 (by decide), p2, ⟨fun _ => p3.1 (by decide), fun _ => p3.2.1 (by decide), fun _ => p3.2.2.1 (by decide), fun z => absurd z (by decide), fun z => absurd z (by decide)⟩, p4⟩
/- what is held against another -/
theorem c_ok {S : List Int} {m : Bool} {t : Int} (hs : OKS 4 S) (hm : MOK 4 t m) : topT S < 4 ∧ OKS 5 S ∧ MOK 5 t m := by
  have : topT S < 4 := by
    rcases hs with h | ⟨h, _⟩
    · exact h
    · omega
  exact ⟨this, Or.inl (by omega), fun z => absurd z (by decide), fun _ z => hm.2 (by decide) z⟩
theorem F_54 {o : Int} {a a' : Nat} (h : FAILS K V s e 5 o a a') : FAILS K V s e 4 o a a' := fun S O m ho hs hm => h S O m ho (c_ok hs hm).2.1 (c_ok hs hm).2.2
theorem P_54 {o : Int} {a a' : Nat} {c0 : List (Int × Int)} (h : PASS K V s e 5 5 o a a' c0) (n : K a' / 10 ≠ 4) : PASS K V s e 4 4 o a a' c0 := by
  intro S O m ho hs hm
  obtain ⟨P, O', p1, p2, p3, p4⟩ := h S O m ho (c_ok hs hm).2.1 (c_ok hs hm).2.2
  exact ⟨P, O', all_le p1 (by decide), p2, ⟨fun _ => p3.1 (by decide), fun _ => p3.2.1 (by decide), fun _ z => absurd z n, fun z => absurd z (by decide), fun z => absurd z (by decide)⟩, p4⟩
theorem c_run {o : Int} {a' : Nat} {c0 : List (Int × Int)} {P S : List Int} {O O' : List (Int × Int)} {m : Bool} {F : Nat} {res : Int × List (Int × Int)} (ht : K a' / 10 = 4) (p1 : ∀ x ∈ P, 5 ≤ tgt x) (p2 : flu P O' = c0 ++ O) (hs : topT S < 4)
    (hF : RUN K V s e F true false (K a' :: S) (c0 ++ O) (e a') res) : RUN K V s e (F + 1) false m (P ++ S) O' a' res := by
  refine RUN_op (by omega) (by rw [show rlT (K a') = 5 by unfold rlT; rw [if_pos ht], popK_ps p1 (by omega), p2]) (fun _ => by omega) ?_
  rw [decide_eq_false (by omega)]; exact hF
theorem c_ok2 {o : Int} {a' a2 : Nat} {S : List Int} (ht : K a' / 10 = 4) (ho : opn S = o) : opn (K a' :: S) = o ∧ OKS 5 (K a' :: S) ∧ MOK 5 (K a2) false :=
  ⟨opn_op (by omega) ho, Or.inl (by show tgt (K a') < _; rw [tgt_op (by omega) ht]; decide), fun z => absurd z (by decide), fun _ _ => rfl⟩
theorem F_rel {o : Int} {a a' a2 : Nat} {c0 : List (Int × Int)} (h : PASS K V s e 5 5 o a a' c0) (ht : K a' / 10 = 4) (h2 : FAILS K V s e 5 o (e a') a2) : FAILS K V s e 4 o a a2 := by
  intro S O m ho hs hm
  obtain ⟨P, O', p1, p2, p3, p4⟩ := h S O m ho (c_ok hs hm).2.1 (c_ok hs hm).2.2
  obtain ⟨g1, g2, g3⟩ := c_ok2 (a2 := e a') ht ho
  obtain ⟨F, hF⟩ := h2 (K a' :: S) (c0 ++ O) false g1 g2 g3
  exact p4 (F + 1) m _ (c_run (o := o) ht p1 p2 (c_ok hs hm).1 hF)
theorem P_rel {o : Int} {a a' a2 : Nat} {c0 c2 : List (Int × Int)} (h : PASS K V s e 5 5 o a a' c0) (ht : K a' / 10 = 4) (h2 : PASS K V s e 5 5 o (e a') a2 c2) : PASS K V s e 4 4 o a a2 ((K a', 0) :: (c2 ++ c0)) := by
  intro S O m ho hs hm
  obtain ⟨P, O', p1, p2, p3, p4⟩ := h S O m ho (c_ok hs hm).2.1 (c_ok hs hm).2.2
  obtain ⟨g1, g2, g3⟩ := c_ok2 (a2 := e a') ht ho
  obtain ⟨P2, O2, q1, q2, q3, q4⟩ := h2 (K a' :: S) (c0 ++ O) false g1 g2 g3
  have tp : tgt (K a') = 4 := tgt_op (by omega) ht
  refine ⟨P2 ++ [K a'], O2, all_app (all_le q1 (by decide)) (by omega), by rw [flu_app, q2, List.cons_append, List.append_assoc]; rfl, ⟨fun _ => q3.1 (by decide), fun _ => q3.2.1 (by decide), fun _ _ => ⟨P2, K a', [], rfl, q1, tp⟩, fun z => absurd z (by decide), fun z => absurd z (by decide)⟩, fun F' m' res hr => ?_⟩
  rw [List.append_assoc] at hr
  obtain ⟨F, hF⟩ := q4 F' m' res hr
  exact p4 (F + 1) m _ (c_run (o := o) ht p1 p2 (c_ok hs hm).1 hF)
/- the whole text -/
theorem T_fail {a a' : Nat} (h : FAILS K V s e 1 0 a a') : ∃ F, RUN K V s e F true true [] [] a (((s a' : Nat) : Int), []) := h [] [] true rfl (Or.inl (by decide)) ⟨fun _ => rfl, fun z => absurd z (by decide)⟩
theorem T_bad {a a' : Nat} {c0 : List (Int × Int)} (h : PASS K V s e 1 1 0 a a' c0) (n : K a' ≠ 0) (hk : KOK (K a')) : ∃ F, RUN K V s e F true true [] [] a (((s a' : Nat) : Int), []) := by
  obtain ⟨P, O', h1, h2, h3, h4⟩ := h [] [] true rfl (Or.inl (by decide)) ⟨fun _ => rfl, fun z => absurd z (by decide)⟩
  refine h4 1 true _ (RUN_bad (fun _ => ?_) (fun z => absurd z n) (fun x y z => ?_))
  · rw [popK_ps h1 (by decide)]
  · have h9 := EXT_bad h3 x y z (by unfold KOK at hk; omega)
    exact ⟨h9.1, h9.2 _ _⟩
theorem T_good {a a' : Nat} {c0 : List (Int × Int)} (h : PASS K V s e 1 1 0 a a' c0) (n : K a' = 0) : ∃ F, RUN K V s e F true true [] [] a (-1, c0) := by
  obtain ⟨P, O', h1, h2, h3, h4⟩ := h [] [] true rfl (Or.inl (by decide)) ⟨fun _ => rfl, fun z => absurd z (by decide)⟩
  exact h4 1 true _ (RUN_end n (by rw [popK_ps h1 (by decide), h2, List.append_nil]))
end PARSE
/-! ===== words of a text: where one begins, where it ends, of what kind it is ===== -/
def skp (lo hi : Int) (f : Nat → Int32) : Nat → Nat → Nat
  | 0, a => a
  | k + 1, a => if lo ≤ (f a).toInt ∧ (f a).toInt ≤ hi then skp lo hi f k (a + 1) else a
theorem skp_ge {lo hi : Int} {f : Nat → Int32} : ∀ (k a : Nat), a ≤ skp lo hi f k a
  | 0, a => Nat.le_refl a
  | k + 1, a => by
    unfold skp
    split
    · exact Nat.le_trans (Nat.le_succ a) (skp_ge k (a + 1))
    · exact Nat.le_refl a
theorem skp_le {lo hi : Int} {f : Nat → Int32} : ∀ (k a : Nat), skp lo hi f k a ≤ a + k
  | 0, a => Nat.le_refl a
  | k + 1, a => by
    unfold skp
    split
    · have := skp_le (lo := lo) (hi := hi) (f := f) k (a + 1); omega
    · omega
theorem skp_in {lo hi : Int} {f : Nat → Int32} : ∀ (k a i : Nat), a ≤ i → i < skp lo hi f k a → lo ≤ (f i).toInt ∧ (f i).toInt ≤ hi
  | 0, a, i, h, h2 => by unfold skp at h2; omega
  | k + 1, a, i, h, h2 => by
    unfold skp at h2
    split at h2
    · rename_i c
      by_cases e : i = a
      · rw [e]; exact c
      · exact skp_in k (a + 1) i (by omega) h2
    · omega
theorem skp_stop {lo hi : Int} {f : Nat → Int32} : ∀ (k a : Nat), skp lo hi f k a < a + k → ¬ (lo ≤ (f (skp lo hi f k a)).toInt ∧ (f (skp lo hi f k a)).toInt ≤ hi)
  | 0, a, h => by unfold skp at h; omega
  | k + 1, a, h => by
    unfold skp at h ⊢
    split
    · rename_i c
      rw [if_pos c] at h
      exact skp_stop k (a + 1) (by omega)
    · rename_i c
      exact c
theorem skp_yes {lo hi : Int} {f : Nat → Int32} {n a : Nat} (h : a < n) (c : lo ≤ (f a).toInt ∧ (f a).toInt ≤ hi) : skp lo hi f (n - a) a = skp lo hi f (n - (a + 1)) (a + 1) := by
  rw [show n - a = (n - (a + 1)) + 1 by omega]
  conv => lhs; unfold skp
  rw [if_pos c]
theorem skp_no {lo hi : Int} {f : Nat → Int32} {k a : Nat} (c : ¬ (lo ≤ (f a).toInt ∧ (f a).toInt ≤ hi)) : skp lo hi f k a = a := by
  cases k with
  | zero => rfl
  | succ k => unfold skp; rw [if_neg c]
theorem skp_z {lo hi : Int} {f : Nat → Int32} {n a : Nat} (h : n ≤ a) : skp lo hi f (n - a) a = a := by rw [show n - a = 0 by omega]; rfl
theorem skp_congr {lo hi : Int} {f g : Nat → Int32} : ∀ (k a : Nat), (∀ i, a ≤ i → i < a + k → ((lo ≤ (f i).toInt ∧ (f i).toInt ≤ hi) ↔ (lo ≤ (g i).toInt ∧ (g i).toInt ≤ hi))) → skp lo hi f k a = skp lo hi g k a
  | 0, _, _ => rfl
  | k + 1, a, h => by
    have h0 := h a (Nat.le_refl a) (by omega)
    have ih := skp_congr (f := f) (g := g) (lo := lo) (hi := hi) k (a + 1) (fun i a1 a2 => h i (by omega) (by omega))
    unfold skp
    by_cases c : lo ≤ (f a).toInt ∧ (f a).toInt ≤ hi
    · rw [if_pos c, if_pos (h0.mp c)]; exact ih
    · rw [if_neg c, if_neg (fun z => c (h0.mpr z))]
def LTR (b : Int32) : Prop := 97 ≤ b.toInt ∧ b.toInt ≤ 122
def DGT (b : Int32) : Prop := 48 ≤ b.toInt ∧ b.toInt ≤ 57
def tkS (f : Nat → Int32) (n a : Nat) : Nat := skp 32 32 f (n - a) a
def teE (f : Nat → Int32) (n s : Nat) : Nat := if n ≤ s then s else if 97 ≤ (f s).toInt ∧ (f s).toInt ≤ 122 then skp 97 122 f (n - s) s else if 48 ≤ (f s).toInt ∧ (f s).toInt ≤ 57 then skp 48 57 f (n - s) s else s + 1
def tkE (f : Nat → Int32) (n a : Nat) : Nat := teE f n (tkS f n a)
def numV (f : Nat → Int32) (s : Nat) : Nat → Int32
  | 0 => 0
  | k + 1 => 10 * numV f s k + f (s + k) - 48
def sgK (b : Int) : Int := if b = 40 then 5 else if b = 41 then 6 else if b = 42 then 60 else if b = 43 then 50 else if b = 45 then 51 else if b = 47 then 61 else if b = 60 then 40 else if b = 61 then 41 else if b = 62 then 42 else 2
def encW (f : Nat → Int32) (s : Nat) : Nat → Int
  | 0 => 0
  | k + 1 => encW f s k * 27 + ((f (s + k)).toInt - 96)
def wdF (which w : Int) : Int := if w = 423 then 10 else if w = 1111 then 20 else if w = 10631 then 30 else if w = 802 then 71 else if w = 80155 then (if which = 0 then 100 else 122)
  else if which = 0 then (if w = 6476969 then 101 else if w = 267347 then 102 else if w = 385682 then 103 else if w = 138961 then 104 else if w = 212506 then 105 else if w = 2486801 then 106 else if w = 14431 then 107 else if w = 453937 then 108 else 2)
  else if w = 11103 then 120 else if w = 2436392 then 121 else if w = 12387257 then 123 else 2
def wdK (which : Int) (f : Nat → Int32) (s k : Nat) : Int := if 6 < k then 2 else wdF which (encW f s k)
/-- the kind of what begins at s; wd: of a word of letters -/
def teK (wd : Nat → Nat → Int) (f : Nat → Int32) (n s : Nat) : Int := if n ≤ s then 0 else if 97 ≤ (f s).toInt ∧ (f s).toInt ≤ 122 then wd s (teE f n s - s) else if 48 ≤ (f s).toInt ∧ (f s).toInt ≤ 57 then (if 5 < teE f n s - s then 2 else 1) else sgK (f s).toInt
def tkK (wd : Nat → Nat → Int) (f : Nat → Int32) (n a : Nat) : Int := teK wd f n (tkS f n a)
def tkV (f : Nat → Int32) (n a : Nat) : Int := (numV f (tkS f n a) (tkE f n a - tkS f n a)).toInt
def WOK (wd : Nat → Nat → Int) : Prop := ∀ s k, KOK (wd s k) ∧ wd s k ≠ 0 ∧ wd s k ≠ 1
theorem sgK_ok (b : Int) : KOK (sgK b) ∧ sgK b ≠ 0 ∧ sgK b ≠ 1 := by
  unfold sgK
  (repeat' split) <;> exact ⟨by unfold KOK; decide, by decide, by decide⟩
theorem tkS_b {f : Nat → Int32} {n a : Nat} (h : a ≤ n) : a ≤ tkS f n a ∧ tkS f n a ≤ n := by
  have h1 := skp_ge (lo := 32) (hi := 32) (f := f) (n - a) a
  have h2 := skp_le (lo := 32) (hi := 32) (f := f) (n - a) a
  unfold tkS
  omega
theorem teE_b {f : Nat → Int32} {n s : Nat} (h : s ≤ n) : s ≤ teE f n s ∧ teE f n s ≤ n ∧ (s < n → s < teE f n s) := by
  unfold teE
  by_cases c : n ≤ s
  · rw [if_pos c]; omega
  · rw [if_neg c]
    by_cases c1 : 97 ≤ (f s).toInt ∧ (f s).toInt ≤ 122
    · rw [if_pos c1, skp_yes (by omega) c1]
      have h1 := skp_ge (lo := 97) (hi := 122) (f := f) (n - (s + 1)) (s + 1)
      have h2 := skp_le (lo := 97) (hi := 122) (f := f) (n - (s + 1)) (s + 1)
      omega
    · rw [if_neg c1]
      by_cases c2 : 48 ≤ (f s).toInt ∧ (f s).toInt ≤ 57
      · rw [if_pos c2, skp_yes (by omega) c2]
        have h1 := skp_ge (lo := 48) (hi := 57) (f := f) (n - (s + 1)) (s + 1)
        have h2 := skp_le (lo := 48) (hi := 57) (f := f) (n - (s + 1)) (s + 1)
        omega
      · rw [if_neg c2]; omega
theorem tk_b {f : Nat → Int32} {n a : Nat} (h : a ≤ n) : a ≤ tkS f n a ∧ tkS f n a ≤ tkE f n a ∧ tkE f n a ≤ n ∧ (tkS f n a < n → tkS f n a < tkE f n a) := by
  have h1 := tkS_b (f := f) h
  have h2 := teE_b (f := f) h1.2
  exact ⟨h1.1, h2.1, h2.2.1, h2.2.2⟩
theorem tkK_ok {wd : Nat → Nat → Int} (hw : WOK wd) {f : Nat → Int32} {n a : Nat} : KOK (tkK wd f n a) ∧ (tkK wd f n a = 0 ↔ n ≤ tkS f n a) := by
  unfold tkK teK
  by_cases c : n ≤ tkS f n a
  · rw [if_pos c]; exact ⟨Or.inl rfl, fun _ => c, fun _ => rfl⟩
  · rw [if_neg c]
    by_cases c1 : 97 ≤ (f (tkS f n a)).toInt ∧ (f (tkS f n a)).toInt ≤ 122
    · rw [if_pos c1]; have h := hw (tkS f n a) (teE f n (tkS f n a) - tkS f n a); exact ⟨h.1, fun z => absurd z h.2.1, fun z => absurd z c⟩
    · rw [if_neg c1]
      by_cases c2 : 48 ≤ (f (tkS f n a)).toInt ∧ (f (tkS f n a)).toInt ≤ 57
      · rw [if_pos c2]
        by_cases c3 : 5 < teE f n (tkS f n a) - tkS f n a
        · rw [if_pos c3]; exact ⟨Or.inr (Or.inr (Or.inl rfl)), fun z => absurd z (by decide), fun z => absurd z c⟩
        · rw [if_neg c3]; exact ⟨Or.inr (Or.inl rfl), fun z => absurd z (by decide), fun z => absurd z c⟩
      · rw [if_neg c2]; have h := sgK_ok (f (tkS f n a)).toInt; exact ⟨h.1, fun z => absurd z h.2.1, fun z => absurd z c⟩
theorem ite_P {P : Int → Prop} {c : Prop} [Decidable c] {a b : Int} (ha : P a) (hb : P b) : P (if c then a else b) := by split <;> assumption
def QOK (t : Int) : Prop := KOK t ∧ t ≠ 0 ∧ t ≠ 1
theorem wdF_ok (q w : Int) : QOK (wdF q w) := by
  unfold wdF
  repeat' (refine ite_P (P := QOK) ?_ ?_)
  all_goals exact ⟨by unfold KOK; decide, by decide, by decide⟩
theorem wdK_ok (q : Int) (f : Nat → Int32) : WOK (wdK q f) := fun s k => by
  unfold wdK
  split
  · exact ⟨Or.inr (Or.inr (Or.inl rfl)), by decide, by decide⟩
  · exact wdF_ok _ _
/- the same words on two tapes -/
def SBY (f g : Nat → Int32) (n : Nat) : Prop := ∀ i : Nat, i < n → ((f i).toInt = (g i).toInt) ∨ ((f i).toInt < 0 ∧ 128 ≤ (g i).toInt)
theorem SBY_r {f g : Nat → Int32} {n : Nat} (h : SBY f g n) {lo hi : Int} (h0 : 0 ≤ lo) (h1 : hi < 128) {i : Nat} (hi' : i < n) : ((lo ≤ (f i).toInt ∧ (f i).toInt ≤ hi) ↔ (lo ≤ (g i).toInt ∧ (g i).toInt ≤ hi)) := by
  rcases h i hi' with q | q
  · rw [q]
  · omega
theorem tkS_eq {f g : Nat → Int32} {n a : Nat} (h : SBY f g n) (ha : a ≤ n) : tkS f n a = tkS g n a := skp_congr _ _ (fun i _ a2 => SBY_r h (by decide) (by decide) (by omega))
theorem teE_eq {f g : Nat → Int32} {n s : Nat} (h : SBY f g n) : teE f n s = teE g n s := by
  unfold teE
  by_cases c : n ≤ s
  · rw [if_pos c, if_pos c]
  · rw [if_neg c, if_neg c]
    have e1 := SBY_r h (lo := 97) (hi := 122) (by decide) (by decide) (i := s) (by omega)
    have e2 := SBY_r h (lo := 48) (hi := 57) (by decide) (by decide) (i := s) (by omega)
    rw [skp_congr (n - s) s (fun i _ a2 => SBY_r h (lo := 97) (hi := 122) (by decide) (by decide) (i := i) (by omega)), skp_congr (n - s) s (fun i _ a2 => SBY_r h (lo := 48) (hi := 57) (by decide) (by decide) (i := i) (by omega))]
    by_cases c1 : 97 ≤ (f s).toInt ∧ (f s).toInt ≤ 122
    · rw [if_pos c1, if_pos (e1.mp c1)]
    · rw [if_neg c1, if_neg (fun z => c1 (e1.mpr z))]
      by_cases c2 : 48 ≤ (f s).toInt ∧ (f s).toInt ≤ 57
      · rw [if_pos c2, if_pos (e2.mp c2)]
      · rw [if_neg c2, if_neg (fun z => c2 (e2.mpr z))]
theorem tkE_eq {f g : Nat → Int32} {n a : Nat} (h : SBY f g n) (ha : a ≤ n) : tkE f n a = tkE g n a := by unfold tkE; rw [tkS_eq h ha, teE_eq h]
theorem sgK_hi {b : Int} (h : b < 40 ∨ 62 < b) : sgK b = 2 := by unfold sgK; omega
theorem sgK_eq {x y : Int} (h : x = y ∨ (x < 0 ∧ 128 ≤ y)) : sgK x = sgK y := by
  rcases h with h | h
  · rw [h]
  · rw [sgK_hi (by omega), sgK_hi (by omega)]
/-- kinds alike, where words of letters are -/
theorem tkK_eq {w1 w2 : Nat → Nat → Int} {f g : Nat → Int32} {n a : Nat} (h : SBY f g n) (ha : a ≤ n) (hw : ∀ s, s < n → 97 ≤ (f s).toInt ∧ (f s).toInt ≤ 122 → w1 s (skp 97 122 f (n - s) s - s) = w2 s (skp 97 122 f (n - s) s - s)) : tkK w1 f n a = tkK w2 g n a := by
  unfold tkK
  rw [← tkS_eq h ha]
  unfold teK
  by_cases c : n ≤ tkS f n a
  · rw [if_pos c, if_pos c]
  · rw [if_neg c, if_neg c]
    have e1 := SBY_r h (lo := 97) (hi := 122) (by decide) (by decide) (i := tkS f n a) (by omega)
    have e2 := SBY_r h (lo := 48) (hi := 57) (by decide) (by decide) (i := tkS f n a) (by omega)
    rw [← teE_eq h]
    by_cases c1 : 97 ≤ (f (tkS f n a)).toInt ∧ (f (tkS f n a)).toInt ≤ 122
    · rw [if_pos c1, if_pos (e1.mp c1), show teE f n (tkS f n a) = skp 97 122 f (n - tkS f n a) (tkS f n a) by unfold teE; rw [if_neg c, if_pos c1]]
      exact hw _ (by omega) c1
    · rw [if_neg c1, if_neg (fun z => c1 (e1.mpr z))]
      by_cases c2 : 48 ≤ (f (tkS f n a)).toInt ∧ (f (tkS f n a)).toInt ≤ 57
      · rw [if_pos c2, if_pos (e2.mp c2)]
      · rw [if_neg c2, if_neg (fun z => c2 (e2.mpr z))]
        exact sgK_eq (h _ (by omega))
theorem numV_eq {f g : Nat → Int32} {s : Nat} : ∀ k : Nat, (∀ i, i < k → f (s + i) = g (s + i)) → numV f s k = numV g s k
  | 0, _ => rfl
  | k + 1, h => by unfold numV; rw [numV_eq k (fun i hi => h i (by omega)), h k (by omega)]
theorem tkV_eq {w1 : Nat → Nat → Int} (hw : WOK w1) {f g : Nat → Int32} {n a : Nat} (h : SBY f g n) (ha : a ≤ n) (h1 : tkK w1 f n a = 1) : tkV f n a = tkV g n a := by
  have hb := tkS_b (f := f) ha
  unfold tkV
  rw [← tkS_eq h ha, ← tkE_eq h ha]
  congr 1
  refine numV_eq _ (fun i hi => ?_)
  unfold tkK teK at h1
  by_cases c : n ≤ tkS f n a
  · rw [if_pos c] at h1; exact absurd h1 (by decide)
  · rw [if_neg c] at h1
    by_cases c1 : 97 ≤ (f (tkS f n a)).toInt ∧ (f (tkS f n a)).toInt ≤ 122
    · rw [if_pos c1] at h1; exact absurd h1 (hw _ _).2.2
    · rw [if_neg c1] at h1
      by_cases c2 : 48 ≤ (f (tkS f n a)).toInt ∧ (f (tkS f n a)).toInt ≤ 57
      · have e : tkE f n a = skp 48 57 f (n - tkS f n a) (tkS f n a) := by unfold tkE teE; rw [if_neg c, if_neg c1, if_pos c2]
        rw [e] at hi
        have hin := skp_in (lo := 48) (hi := 57) (f := f) (n - tkS f n a) (tkS f n a) (tkS f n a + i) (by omega) (by omega)
        have hl := skp_le (lo := 48) (hi := 57) (f := f) (n - tkS f n a) (tkS f n a)
        rcases h (tkS f n a + i) (by omega) with q | q
        · exact i_eq.mpr q
        · omega
      · rw [if_neg c2] at h1; exact absurd h1 (sgK_ok _).2.2
/- words of letters: no two have one number -/
theorem enc_pos {g : Nat → Int32} {s : Nat} : ∀ k : Nat, (∀ i, i < k → 97 ≤ (g (s + i)).toInt ∧ (g (s + i)).toInt ≤ 122) → 0 ≤ encW g s k ∧ (0 < k → 0 < encW g s k)
  | 0, _ => ⟨Int.le_refl 0, fun h => absurd h (by decide)⟩
  | k + 1, h => by
    have ih := enc_pos k (fun i hi => h i (by omega))
    have h0 := h k (by omega)
    unfold encW
    omega
theorem enc_inj {g h : Nat → Int32} {s t : Nat} : ∀ k j : Nat, (∀ i, i < k → 97 ≤ (g (s + i)).toInt ∧ (g (s + i)).toInt ≤ 122) → (∀ i, i < j → 97 ≤ (h (t + i)).toInt ∧ (h (t + i)).toInt ≤ 122) → encW g s k = encW h t j → k = j ∧ ∀ i, i < k → (g (s + i)).toInt = (h (t + i)).toInt
  | 0, 0, _, _, _ => ⟨rfl, fun i hi => absurd hi (by omega)⟩
  | 0, j + 1, _, hh, e => by have := (enc_pos (j + 1) hh).2 (by omega); rw [← e] at this; exact absurd this (by show ¬ (0 : Int) < 0; omega)
  | k + 1, 0, hg, _, e => by have := (enc_pos (k + 1) hg).2 (by omega); rw [e] at this; exact absurd this (by show ¬ (0 : Int) < 0; omega)
  | k + 1, j + 1, hg, hh, e => by
    have a0 := hg k (by omega); have b0 := hh j (by omega)
    unfold encW at e
    have ih := enc_inj k j (fun i hi => hg i (by omega)) (fun i hi => hh i (by omega)) (by omega)
    refine ⟨by omega, fun i hi => ?_⟩
    by_cases q : i = k
    · subst q; have := ih.1; subst this; omega
    · exact ih.2 i (by omega)
/- the class's way: which of the words of a text of words it is -/
def mtc (sf f : Nat → Int32) (st s : Nat) : Nat → Bool
  | 0 => true
  | k + 1 => mtc sf f st s k && decide ((sf (st + k) &&& 255 : Int32) = f (s + k))
def mtE (sf f : Nat → Int32) (s k st en : Nat) : Bool := decide (en - st = k) && mtc sf f st s k
def plcF (sf : Nat → Int32) (n : Nat) (M : Nat → Nat → Bool) : Nat → Nat → Nat → Nat → Int
  | 0, _, _, _ => -1
  | k + 1, i, p, st => if i = n ∨ (sf i &&& 255 : Int32) = 32 then (if M st i = true then (p : Int) else plcF sf n M k (i + 1) (p + 1) (i + 1)) else plcF sf n M k (i + 1) p st
def whN (sn : Nat) : Int := if sn = 60 then 0 else 1
def cKd (sn : Nat) (p : Int) : Int := if p = -1 then 2 else if p = 0 then 10 else if p = 1 then 20 else if p = 2 then 30 else if p = 3 then 71 else 96 + 20 * whN sn + p
def plcW (sn : Nat) (sf f : Nat → Int32) (s k : Nat) : Int := plcF sf sn (mtE sf f s k) (sn + 1) 0 0 0
def wdC (sn : Nat) (sf f : Nat → Int32) (s k : Nat) : Int := cKd sn (plcW sn sf f s k)
theorem mtc_iff {sf f : Nat → Int32} {st s : Nat} : ∀ k : Nat, mtc sf f st s k = true ↔ ∀ i, i < k → (sf (st + i) &&& 255 : Int32) = f (s + i)
  | 0 => ⟨fun _ i hi => absurd hi (by omega), fun _ => rfl⟩
  | k + 1 => by
    unfold mtc
    rw [Bool.and_eq_true, mtc_iff k, decide_eq_true_iff]
    refine ⟨fun h i hi => ?_, fun h => ⟨fun i hi => h i (by omega), h k (by omega)⟩⟩
    by_cases q : i = k
    · rw [q]; exact h.2
    · exact h.1 i (by omega)
theorem mtE_iff {sf f : Nat → Int32} {s k st en : Nat} : mtE sf f s k st en = true ↔ en - st = k ∧ ∀ i, i < k → (sf (st + i) &&& 255 : Int32) = f (s + i) := by unfold mtE; rw [Bool.and_eq_true, mtc_iff, decide_eq_true_iff]
theorem plc_rng {sf : Nat → Int32} {n : Nat} {M : Nat → Nat → Bool} : ∀ (k i p st : Nat), -1 ≤ plcF sf n M k i p st ∧ plcF sf n M k i p st ≤ p + k
  | 0, _, p, _ => by unfold plcF; omega
  | k + 1, i, p, st => by
    have h1 := plc_rng (sf := sf) (n := n) (M := M) k (i + 1) (p + 1) (i + 1)
    have h2 := plc_rng (sf := sf) (n := n) (M := M) k (i + 1) p st
    unfold plcF
    (repeat' split) <;> omega
theorem wdC_ok (sn : Nat) (sf f : Nat → Int32) : WOK (wdC sn sf f) := fun s k => by
  have h := plc_rng (sf := sf) (n := sn) (M := mtE sf f s k) (sn + 1) 0 0 0
  have hw : whN sn = 0 ∨ whN sn = 1 := by unfold whN; split <;> omega
  unfold wdC plcW cKd
  (repeat' split) <;> first | exact ⟨by unfold KOK; decide, by decide, by decide⟩ | exact ⟨by unfold KOK; omega, by omega, by omega⟩
/-- a word of the text against its number -/
theorem mtE_enc {sf f : Nat → Int32} {s k st j : Nat} {v : Int} (hf : ∀ i, i < k → 97 ≤ (f (s + i)).toInt ∧ (f (s + i)).toInt ≤ 122) (hs : ∀ i, i < j → 97 ≤ ((fun q => (sf q &&& 255 : Int32)) (st + i)).toInt ∧ ((fun q => (sf q &&& 255 : Int32)) (st + i)).toInt ≤ 122) (hv : encW (fun q => (sf q &&& 255 : Int32)) st j = v) : (mtE sf f s k st (st + j) = true) ↔ encW f s k = v := by
  rw [mtE_iff]
  constructor
  · intro ⟨h1, h2⟩
    have e : j = k := by omega
    subst e
    rw [← hv]
    have : ∀ m : Nat, m ≤ j → encW f s m = encW (fun q => (sf q &&& 255 : Int32)) st m := by
      intro m
      induction m with
      | zero => intro _; rfl
      | succ m ih => intro hm; unfold encW; rw [ih (by omega), ← h2 m (by omega)]
    exact this j (Nat.le_refl j)
  · intro h
    have h9 := enc_inj k j hf hs (by rw [h, hv])
    exact ⟨by omega, fun i hi => i_eq.mpr (h9.2 i hi).symm⟩
def FEDM (f g : Nat → Int32) (n m : Nat) (v : Int32) : Prop := (∀ k, k < n → g k = f k) ∧ ∀ i, i < m → ∃ s : Int32, s.toInt = 8 * (i : Int) ∧ g (n + i) = vp_nar .byte (v >>> (s &&& 31)).toInt8.toInt32
theorem FEDM_0 {f : Nat → Int32} {n m : Nat} {v : Int32} (h : m = 0) : FEDM f f n m v := ⟨fun _ _ => rfl, fun i hi => absurd hi (by omega)⟩
theorem FEDM_s {f g : Nat → Int32} {n m : Nat} {v s z w : Int32} (h : FEDM f g n m v) (hs : s.toInt = 8 * (m : Int)) (hz : z = v >>> (s &&& 31)) (hw : z.toInt8.toInt32 = w) : FEDM f (upd g (n + m) (vp_nar .byte w)) n (m + 1) v := by
  subst hw; subst hz
  refine ⟨fun k hk => by rw [show upd g (n + m) (vp_nar .byte (v >>> (s &&& 31)).toInt8.toInt32) k = g k by simp only [upd, if_neg (show k ≠ n + m by omega)]]; exact h.1 k hk, fun i hi => ?_⟩
  by_cases q : i = m
  · subst q; exact ⟨s, hs, by simp only [upd, if_pos]⟩
  · rw [show upd g (n + m) (vp_nar .byte (v >>> (s &&& 31)).toInt8.toInt32) (n + i) = g (n + i) by simp only [upd, if_neg (show n + i ≠ n + m by omega)]]; exact h.2 i (by omega)
/-! ===== the reference's reading, step by step ===== -/
theorem uq_at {f : Nat → Int32} {i : Nat} {v : Int32} : upd f i v i = v := by simp only [upd, if_pos]
theorem uq_ne {f : Nat → Int32} {i j : Nat} {v : Int32} (h : j ≠ i) : upd f i v j = f j := by simp only [upd, if_neg h]
theorem fill_q {P : Nat → Prop} {i j : Int32} (h0 : 0 ≤ i.toInt) (hj : j.toInt = i.toInt + 1) (h : ∀ k : Nat, (k : Int) < i.toInt → P k) (hi : P i.toNatClampNeg) : ∀ k : Nat, (k : Int) < j.toInt → P k := by
  intro k hk
  have hc := i_clamp0 h0
  by_cases e : k = i.toNatClampNeg
  · rw [e]; exact hi
  · exact h k (by omega)
def stk (f : Nat → Int32) : Nat → List Int
  | 0 => []
  | w + 1 => (f w).toInt :: stk f w
def oM (f g : Nat → Int32) (b : Nat) : Nat → List (Int × Int)
  | 0 => []
  | k + 1 => ((f (b + k)).toInt, if (f (b + k)).toInt = 1 then (g (b + k)).toInt else 0) :: oM f g b k
theorem stk_congr {f g : Nat → Int32} : ∀ w : Nat, (∀ k, k < w → f k = g k) → stk f w = stk g w
  | 0, _ => rfl
  | w + 1, h => by unfold stk; rw [h w (by omega), stk_congr w (fun k hk => h k (by omega))]
theorem stk_upd {f : Nat → Int32} {w : Nat} {x : Int32} : stk (upd f w x) (w + 1) = x.toInt :: stk f w := by
  show (upd f w x w).toInt :: stk (upd f w x) w = _
  rw [uq_at, stk_congr w (fun k hk => uq_ne (by omega))]
theorem oM_congr {f g f' g' : Nat → Int32} {b b' : Nat} : ∀ w : Nat, (∀ k, k < w → f (b + k) = f' (b' + k) ∧ ((f (b + k)).toInt = 1 → g (b + k) = g' (b' + k))) → oM f g b w = oM f' g' b' w
  | 0, _ => rfl
  | w + 1, h => by
    have h0 := h w (by omega)
    unfold oM
    rw [oM_congr w (fun k hk => h k (by omega)), ← h0.1]
    by_cases c : (f (b + w)).toInt = 1
    · rw [if_pos c, if_pos c, h0.2 c]
    · rw [if_neg c, if_neg c]
theorem oM_upd {f g : Nat → Int32} {b k : Nat} {x v : Int32} : oM (upd f (b + k) x) (upd g (b + k) v) b (k + 1) = (x.toInt, if x.toInt = 1 then v.toInt else 0) :: oM f g b k := by
  show ((upd f (b + k) x (b + k)).toInt, if (upd f (b + k) x (b + k)).toInt = 1 then (upd g (b + k) v (b + k)).toInt else 0) :: oM (upd f (b + k) x) (upd g (b + k) v) b k = _
  rw [uq_at, uq_at, oM_congr (f' := f) (g' := g) (b' := b) k (fun j hj => ⟨uq_ne (by omega), fun _ => uq_ne (by omega)⟩)]
def TKA (f : Nat → Int32) (n : Nat) (wh : Int) (a : Nat) (ap ta tk nu : Int32) : Prop := a ≤ n ∧ ap.toInt = (tkE f n a : Nat) ∧ ta.toInt = (tkS f n a : Nat) ∧ tk.toInt = tkK (wdK wh f) f n a ∧ (tk.toInt = 1 → nu.toInt = tkV f n a)
abbrev RR (f : Nat → Int32) (n : Nat) (wh : Int) : Nat → Bool → Bool → List Int → List (Int × Int) → Nat → Int × List (Int × Int) → Prop := RUN (tkK (wdK wh f) f n) (tkV f n) (tkS f n) (tkE f n)
def RSTn (f : Nat → Int32) (n : Nat) (wh : Int) (f43 f36 f37 : Nat → Int32) (w m : Bool) (ws la ap : Int32) : Prop := ∃ a : Nat, ap.toInt = (a : Nat) ∧ ∀ (F : Nat) (res : Int × List (Int × Int)), RR f n wh F w m (stk f43 ws.toNatClampNeg) (oM f36 f37 256 la.toNatClampNeg) a res → ∃ F', RR f n wh F' true true [] [] 0 res
def RST (f : Nat → Int32) (n : Nat) (wh : Int) (f43 f36 f37 : Nat → Int32) (w m : Bool) (ws la ap ta tk nu : Int32) : Prop := ∃ a : Nat, TKA f n wh a ap ta tk nu ∧ ∀ (F : Nat) (res : Int × List (Int × Int)), RR f n wh F w m (stk f43 ws.toNatClampNeg) (oM f36 f37 256 la.toNatClampNeg) a res → ∃ F', RR f n wh F' true true [] [] 0 res
section RSTS
variable {f f43 f36 f37 f36' f37' : Nat → Int32} {n : Nat} {wh : Int} {w m ws la ap ta tk nu ws' la' ap' x wsd lad : Int32}
theorem RST_0 {z : Int32} {b c : Bool} (h : TKA f n wh z.toNatClampNeg ap ta tk nu) (hz : z.toNatClampNeg = 0) (hb : b = true) (hc : c = true) : RST f n wh f43 f36 f37 b c z z ap ta tk nu := by
  subst hb; subst hc
  rw [hz] at h
  refine ⟨0, h, fun F res hr => ⟨F, ?_⟩⟩
  rw [hz] at hr
  exact hr
theorem RST_of {b c b' c' : Bool} (h : RSTn f n wh f43 f36 f37 b c ws la ap) (ha : TKA f n wh ap.toNatClampNeg ap' ta tk nu) (hb : b = b') (hc : c = c') : RST f n wh f43 f36 f37 b' c' ws la ap' ta tk nu := by
  subst hb; subst hc
  obtain ⟨a, e, h⟩ := h
  rw [show ap.toNatClampNeg = a by have := i_clamp0 (x := ap) (by omega); omega] at ha
  exact ⟨a, ha, h⟩
theorem RSTn_pre (h : RST f n wh f43 f36 f37 (decide (w.toInt = 1)) (decide (m.toInt = 1)) ws la ap ta tk nu) (hw : w.toInt = 1) (hc : (tk.toInt = 30 ∧ m.toInt = 1) ∨ tk.toInt = 51 ∨ tk.toInt = 5 ∨ tk.toInt = 71) (ho : opn (stk f43 ws.toNatClampNeg) ≠ 15)
    (hx : x.toInt = if tk.toInt = 51 then 70 else tk.toInt) (h0 : 0 ≤ ws.toInt) (hs : ws'.toInt = ws.toInt + 1) : RSTn f n wh (upd f43 ws.toNatClampNeg x) f36 f37 true (decide (tk.toInt = 5 ∨ tk.toInt = 30)) ws' la ap := by
  obtain ⟨a, ⟨a0, a1, a2, a3, a4⟩, h⟩ := h
  refine ⟨tkE f n a, a1, fun F res hr => ?_⟩
  rw [show ws'.toNatClampNeg = ws.toNatClampNeg + 1 by have := i_clamp0 (x := ws) (by omega); have := i_clamp0 (x := ws') (by omega); omega, stk_upd, hx, a3] at hr
  rw [decide_eq_true hw] at h
  refine h (F + 1) res (RUN_pre ?_ ho hr)
  rw [← a3]
  rcases hc with hc | hc
  · exact Or.inl ⟨hc.1, decide_eq_true hc.2⟩
  · exact Or.inr hc
theorem RSTn_opd (h : RST f n wh f43 f36 f37 (decide (w.toInt = 1)) (decide (m.toInt = 1)) ws la ap ta tk nu) (hw : w.toInt = 1) (hc : tk.toInt = 1 ∨ 100 ≤ tk.toInt) (h1 : f36' = upd f36 (256 + la.toNatClampNeg) tk) (h2 : f37' = upd f37 (256 + la.toNatClampNeg) nu)
    (h0 : 0 ≤ la.toInt) (hs : la'.toInt = la.toInt + 1) : RSTn f n wh f43 f36' f37' false (decide (m.toInt = 1)) ws la' ap := by
  obtain ⟨a, ⟨a0, a1, a2, a3, a4⟩, h⟩ := h
  refine ⟨tkE f n a, a1, fun F res hr => ?_⟩
  rw [show la'.toNatClampNeg = la.toNatClampNeg + 1 by have := i_clamp0 (x := la) (by omega); have := i_clamp0 (x := la') (by omega); omega, h1, h2, oM_upd] at hr
  rw [decide_eq_true hw] at h
  refine h (F + 1) res (RUN_opd (by omega) ?_)
  rw [show (tkK (wdK wh f) f n a, if tkK (wdK wh f) f n a = 1 then tkV f n a else 0) = (tk.toInt, if tk.toInt = 1 then nu.toInt else 0) by
    rw [← a3]
    by_cases q : tk.toInt = 1
    · rw [if_pos q, if_pos q, a4 q]
    · rw [if_neg q, if_neg q]]
  exact hr
theorem RSTn_sh (h : RST f n wh f43 f36 f37 (decide (w.toInt = 1)) (decide (m.toInt = 1)) ws la ap ta tk nu) (hw : w.toInt = 0) (ht : tk.toInt = 6) (hd : popK 1 (stk f43 ws.toNatClampNeg) (oM f36 f37 256 la.toNatClampNeg) = (stk f43 wsd.toNatClampNeg, oM f36' f37' 256 lad.toNatClampNeg))
    (h0 : 0 ≤ ws'.toInt) (hs : wsd.toInt = ws'.toInt + 1) : RSTn f n wh f43 f36' f37' false (decide (m.toInt = 1)) ws' lad ap := by
  obtain ⟨a, ⟨a0, a1, a2, a3, a4⟩, h⟩ := h
  refine ⟨tkE f n a, a1, fun F res hr => ?_⟩
  rw [show wsd.toNatClampNeg = ws'.toNatClampNeg + 1 by have := i_clamp0 (x := ws') (by omega); have := i_clamp0 (x := wsd) (by omega); omega] at hd
  rw [decide_eq_false (show ¬ w.toInt = 1 by omega)] at h
  exact h (F + 1) res (RUN_shut (by omega) hd hr)
theorem stk_top {f : Nat → Int32} {w : Nat} (h : 0 < w) : topT (stk f w) = tgt (f (w - 1)).toInt := by
  obtain ⟨k, rfl⟩ : ∃ k, w = k + 1 := ⟨w - 1, by omega⟩
  rfl
theorem RSTn_op (h : RST f n wh f43 f36 f37 (decide (w.toInt = 1)) (decide (m.toInt = 1)) ws la ap ta tk nu) (hw : w.toInt = 0) (ht : 10 ≤ tk.toInt ∧ tk.toInt < 70 ∧ tk.toInt ≠ 30) (hd : popK (rlT tk.toInt) (stk f43 ws.toNatClampNeg) (oM f36 f37 256 la.toNatClampNeg) = (stk f43 wsd.toNatClampNeg, oM f36' f37' 256 lad.toNatClampNeg))
    (hr4 : tk.toInt / 10 = 4 → wsd.toInt = 0 ∨ tgt (f43 (wsd.toInt - 1).toNat).toInt ≠ 4) (h0 : 0 ≤ wsd.toInt) (hs : ws'.toInt = wsd.toInt + 1) : RSTn f n wh (upd f43 wsd.toNatClampNeg tk) f36' f37' true (decide (tk.toInt = 10 ∨ tk.toInt = 20)) ws' lad ap := by
  obtain ⟨a, ⟨a0, a1, a2, a3, a4⟩, h⟩ := h
  refine ⟨tkE f n a, a1, fun F res hr => ?_⟩
  have hc := i_clamp0 h0
  rw [show ws'.toNatClampNeg = wsd.toNatClampNeg + 1 by have := i_clamp0 (x := ws') (by omega); omega, stk_upd, a3] at hr
  rw [decide_eq_false (show ¬ w.toInt = 1 by omega)] at h
  refine h (F + 1) res (RUN_op (by omega) (by rw [← a3]; exact hd) (fun q => ?_) hr)
  rw [← a3] at q
  by_cases z : wsd.toInt = 0
  · rw [show wsd.toNatClampNeg = 0 by omega]; exact fun h9 => absurd h9 (by show ¬ topT [] = 4; decide)
  · rw [stk_top (by omega), show wsd.toNatClampNeg - 1 = (wsd.toInt - 1).toNat by omega]; exact (hr4 q).resolve_left z
/-- how it ends: the place of the fault (-1: none), and what was laid -/
def REN (f : Nat → Int32) (n : Nat) (wh r : Int) (O : List (Int × Int)) : Prop := ∃ F, RR f n wh F true true [] [] 0 (r, O)
theorem RE_deep (h : RST f n wh f43 f36 f37 (decide (w.toInt = 1)) (decide (m.toInt = 1)) ws la ap ta tk nu) (hw : w.toInt = 1) (hc : (tk.toInt = 30 ∧ m.toInt = 1) ∨ tk.toInt = 51 ∨ tk.toInt = 5 ∨ tk.toInt = 71) (ho : opn (stk f43 ws.toNatClampNeg) = 15) : REN f n wh ta.toInt [] := by
  obtain ⟨a, ⟨a0, a1, a2, a3, a4⟩, h⟩ := h
  rw [decide_eq_true hw] at h
  rw [a2]
  refine h 1 _ (RUN_deep ?_ ho)
  rw [← a3]
  rcases hc with hc | hc
  · exact Or.inl ⟨hc.1, decide_eq_true hc.2⟩
  · exact Or.inr hc
theorem RE_no (h : RST f n wh f43 f36 f37 (decide (w.toInt = 1)) (decide (m.toInt = 1)) ws la ap ta tk nu) (hw : w.toInt = 1) (hc : ¬ ((tk.toInt = 30 ∧ m.toInt = 1) ∨ tk.toInt = 51 ∨ tk.toInt = 5 ∨ tk.toInt = 71)) (hc2 : ¬ (tk.toInt = 1 ∨ 100 ≤ tk.toInt)) : REN f n wh ta.toInt [] := by
  obtain ⟨a, ⟨a0, a1, a2, a3, a4⟩, h⟩ := h
  rw [decide_eq_true hw] at h
  rw [a2]
  refine h 1 _ (RUN_no (fun z => hc ?_) (by omega))
  rw [a3]
  rcases z with z | z
  · exact Or.inl ⟨z.1, of_decide_eq_true z.2⟩
  · exact Or.inr z
theorem RE_bad (h : RST f n wh f43 f36 f37 (decide (w.toInt = 1)) (decide (m.toInt = 1)) ws la ap ta tk nu) (hw : w.toInt = 0) (h6 : tk.toInt ≠ 6 ∧ tk.toInt ≠ 0) (hb : tk.toInt < 10 ∨ 70 ≤ tk.toInt ∨ tk.toInt = 30) : REN f n wh ta.toInt [] := by
  obtain ⟨a, ⟨a0, a1, a2, a3, a4⟩, h⟩ := h
  rw [decide_eq_false (show ¬ w.toInt = 1 by omega)] at h
  rw [a2]
  exact h 1 _ (RUN_bad (fun z => by omega) (fun z => by omega) (fun x y z => by omega))
theorem RE_shut (h : RST f n wh f43 f36 f37 (decide (w.toInt = 1)) (decide (m.toInt = 1)) ws la ap ta tk nu) (hw : w.toInt = 0) (ht : tk.toInt = 6) (hd : popK 1 (stk f43 ws.toNatClampNeg) (oM f36 f37 256 la.toNatClampNeg) = (stk f43 wsd.toNatClampNeg, oM f36' f37' 256 lad.toNatClampNeg))
    (hs : wsd.toInt = 0) : REN f n wh ta.toInt [] := by
  obtain ⟨a, ⟨a0, a1, a2, a3, a4⟩, h⟩ := h
  rw [decide_eq_false (show ¬ w.toInt = 1 by omega)] at h
  rw [a2]
  have hc := i_clamp0 (x := wsd) (by omega)
  rw [show wsd.toNatClampNeg = 0 by omega] at hd
  exact h 1 _ (RUN_bad (fun _ => by rw [hd]; rfl) (fun z => by omega) (fun x y z => by omega))
theorem RE_end (h : RST f n wh f43 f36 f37 (decide (w.toInt = 1)) (decide (m.toInt = 1)) ws la ap ta tk nu) (hw : w.toInt = 0) (ht : tk.toInt = 0) (hd : popK 1 (stk f43 ws.toNatClampNeg) (oM f36 f37 256 la.toNatClampNeg) = (stk f43 wsd.toNatClampNeg, oM f36' f37' 256 lad.toNatClampNeg))
    (hs : 0 < wsd.toInt) : REN f n wh ta.toInt [] := by
  obtain ⟨a, ⟨a0, a1, a2, a3, a4⟩, h⟩ := h
  rw [decide_eq_false (show ¬ w.toInt = 1 by omega)] at h
  rw [a2]
  have hc := i_clamp0 (x := wsd) (by omega)
  obtain ⟨k, e⟩ : ∃ k, wsd.toNatClampNeg = k + 1 := ⟨wsd.toNatClampNeg - 1, by omega⟩
  rw [e] at hd
  exact h 1 _ (RUN_bad (fun z => by omega) (fun _ => by rw [hd]; exact fun z => List.cons_ne_nil _ _ z) (fun x y z => by omega))
theorem RE_ok (h : RST f n wh f43 f36 f37 (decide (w.toInt = 1)) (decide (m.toInt = 1)) ws la ap ta tk nu) (hw : w.toInt = 0) (ht : tk.toInt = 0) (hd : popK 1 (stk f43 ws.toNatClampNeg) (oM f36 f37 256 la.toNatClampNeg) = (stk f43 wsd.toNatClampNeg, oM f36' f37' 256 lad.toNatClampNeg))
    (hs : wsd.toInt = 0) : REN f n wh (-1) (oM f36' f37' 256 lad.toNatClampNeg) := by
  obtain ⟨a, ⟨a0, a1, a2, a3, a4⟩, h⟩ := h
  rw [decide_eq_false (show ¬ w.toInt = 1 by omega)] at h
  have hc := i_clamp0 (x := wsd) (by omega)
  rw [show wsd.toNatClampNeg = 0 by omega] at hd
  exact h 1 _ (RUN_end (by omega) hd)
theorem RE_rel (h : RST f n wh f43 f36 f37 (decide (w.toInt = 1)) (decide (m.toInt = 1)) ws la ap ta tk nu) (hw : w.toInt = 0) (ht : tk.toInt / 10 = 4) (hd : popK 5 (stk f43 ws.toNatClampNeg) (oM f36 f37 256 la.toNatClampNeg) = (stk f43 wsd.toNatClampNeg, oM f36' f37' 256 lad.toNatClampNeg))
    (hs : 0 < wsd.toInt) (hq : tgt (f43 (wsd.toInt - 1).toNat).toInt = 4) : REN f n wh ta.toInt [] := by
  obtain ⟨a, ⟨a0, a1, a2, a3, a4⟩, h⟩ := h
  rw [decide_eq_false (show ¬ w.toInt = 1 by omega)] at h
  rw [a2]
  have hc := i_clamp0 (x := wsd) (by omega)
  refine h 1 _ (RUN_bad (fun z => by omega) (fun z => by omega) (fun x y z => ⟨by omega, ?_⟩))
  rw [hd, stk_top (by omega), show wsd.toNatClampNeg - 1 = (wsd.toInt - 1).toNat by omega]
  exact hq
/- one step of done -/
theorem popK_y {k : Int} {f : Nat → Int32} {w : Nat} {O : List (Int × Int)} (h : k ≤ tgt (f w).toInt) : popK k (stk f (w + 1)) O = popK k (stk f w) (((f w).toInt, 0) :: O) := by
  show (if k ≤ tgt (f w).toInt then _ else _) = _
  rw [if_pos h]
theorem popK_n {k : Int} {f : Nat → Int32} {w : Nat} {O : List (Int × Int)} (h : w = 0 ∨ tgt (f (w - 1)).toInt < k) (hk : 1 ≤ k) : popK k (stk f w) O = (stk f w, O) := by
  refine popK_stop ?_
  cases w with
  | zero => exact hk
  | succ w =>
    rw [stk_top (by omega)]
    rcases h with h | h
    · omega
    · exact h
theorem opn_s {f : Nat → Int32} {w : Nat} : opn (stk f (w + 1)) = (if (f w).toInt = 5 ∨ (f w).toInt = 30 ∨ (f w).toInt = 70 ∨ (f w).toInt = 71 then 1 else 0) + opn (stk f w) := rfl
end RSTS
/- advancing -/
theorem sgK_v {b : Int} {v : Int} (h : (b = 40 ∧ v = 5) ∨ (b = 41 ∧ v = 6) ∨ (b = 42 ∧ v = 60) ∨ (b = 43 ∧ v = 50) ∨ (b = 45 ∧ v = 51) ∨ (b = 47 ∧ v = 61) ∨ (b = 60 ∧ v = 40) ∨ (b = 61 ∧ v = 41) ∨ (b = 62 ∧ v = 42) ∨ ((b < 40 ∨ b = 44 ∨ b = 46 ∨ (47 < b ∧ b < 60) ∨ 62 < b) ∧ v = 2)) : v = sgK b := by unfold sgK; omega
theorem TKA_end {f : Nat → Int32} {n a : Nat} {wh : Int} {ap tk nu : Int32} (h0 : a ≤ n) (hs : tkS f n a = ap.toNatClampNeg) (h1 : ap.toInt = (n : Nat)) (ht : tk.toInt = 0) : TKA f n wh a ap ap tk nu := by
  have hc := i_clamp0 (x := ap) (by omega)
  have he : n ≤ tkS f n a := by omega
  refine ⟨h0, ?_, by omega, ?_, fun z => by omega⟩
  · unfold tkE teE; rw [if_pos he]; omega
  · unfold tkK teK; rw [if_pos he]; exact ht
theorem teE_l {f : Nat → Int32} {n s : Nat} (h : s < n) (c : 97 ≤ (f s).toInt ∧ (f s).toInt ≤ 122) : teE f n s = skp 97 122 f (n - s) s := by unfold teE; rw [if_neg (by omega), if_pos c]
theorem teE_d {f : Nat → Int32} {n s : Nat} (h : s < n) (c : 48 ≤ (f s).toInt ∧ (f s).toInt ≤ 57) : teE f n s = skp 48 57 f (n - s) s := by unfold teE; rw [if_neg (by omega), if_neg (by omega), if_pos c]
theorem TKA_l {f : Nat → Int32} {n a : Nat} {wh : Int} {ap ta tk nu : Int32} (h0 : a ≤ n) (hs : tkS f n a = ta.toNatClampNeg) (h1 : 0 ≤ ta.toInt) (h2 : ta.toInt < (n : Nat)) (c : 97 ≤ (f ta.toNatClampNeg).toInt ∧ (f ta.toNatClampNeg).toInt ≤ 122) (he : ap.toInt = (teE f n ta.toNatClampNeg : Nat))
    (ht : tk.toInt = wdK wh f ta.toNatClampNeg (teE f n ta.toNatClampNeg - ta.toNatClampNeg)) : TKA f n wh a ap ta tk nu := by
  have hc := i_clamp0 h1
  refine ⟨h0, by unfold tkE; rw [hs]; exact he, by omega, ?_, fun z => absurd (ht ▸ z) (wdK_ok wh f _ _).2.2⟩
  unfold tkK teK
  rw [hs, if_neg (by omega), if_pos c]; exact ht
theorem TKA_d {f : Nat → Int32} {n a : Nat} {wh : Int} {ap ta tk nu : Int32} (h0 : a ≤ n) (hs : tkS f n a = ta.toNatClampNeg) (h1 : 0 ≤ ta.toInt) (h2 : ta.toInt < (n : Nat)) (c : 48 ≤ (f ta.toNatClampNeg).toInt ∧ (f ta.toNatClampNeg).toInt ≤ 57) (he : ap.toInt = (teE f n ta.toNatClampNeg : Nat))
    (ht : (5 < ap.toInt - ta.toInt ∧ tk.toInt = 2) ∨ (ap.toInt - ta.toInt ≤ 5 ∧ tk.toInt = 1 ∧ nu = numV f ta.toNatClampNeg (ap.toInt - ta.toInt).toNat)) : TKA f n wh a ap ta tk nu := by
  have hc := i_clamp0 h1
  have hb := teE_b (f := f) (n := n) (s := ta.toNatClampNeg) (by omega)
  have e1 : (ap.toInt - ta.toInt).toNat = teE f n ta.toNatClampNeg - ta.toNatClampNeg := by omega
  refine ⟨h0, by unfold tkE; rw [hs]; exact he, by omega, ?_, fun z => ?_⟩
  · unfold tkK teK
    rw [hs, if_neg (by omega), if_neg (by omega), if_pos c]
    split <;> omega
  · rcases ht with ht | ht
    · omega
    · unfold tkV tkE
      rw [hs, ← e1, ht.2.2]
theorem TKA_s {f : Nat → Int32} {n a : Nat} {wh : Int} {ap ta tk nu : Int32} (h0 : a ≤ n) (hs : tkS f n a = ta.toNatClampNeg) (h1 : 0 ≤ ta.toInt) (h2 : ta.toInt < (n : Nat)) (c : ¬ (97 ≤ (f ta.toNatClampNeg).toInt ∧ (f ta.toNatClampNeg).toInt ≤ 122)) (c2 : ¬ (48 ≤ (f ta.toNatClampNeg).toInt ∧ (f ta.toNatClampNeg).toInt ≤ 57)) (he : ap.toInt = ta.toInt + 1)
    (ht : tk.toInt = sgK (f ta.toNatClampNeg).toInt) : TKA f n wh a ap ta tk nu := by
  have hc := i_clamp0 h1
  refine ⟨h0, ?_, by omega, ?_, fun z => absurd (ht ▸ z) (sgK_ok _).2.2⟩
  · unfold tkE teE; rw [hs, if_neg (by omega), if_neg c, if_neg c2]; omega
  · unfold tkK teK
    rw [hs, if_neg (by omega), if_neg c, if_neg c2]; exact ht
/- a word's number, letter by letter -/
theorem enc_lt {g : Nat → Int32} {s : Nat} : ∀ k : Nat, (∀ i, i < k → 97 ≤ (g (s + i)).toInt ∧ (g (s + i)).toInt ≤ 122) → encW g s k < 27 ^ k
  | 0, _ => by show (0 : Int) < 27 ^ 0; decide
  | k + 1, h => by
    have ih := enc_lt k (fun i hi => h i (by omega))
    have h0 := h k (by omega)
    unfold encW
    rw [Int.pow_succ]
    omega
theorem enc_step {w : Int64} {b : Int32} {v : Int} (hw : w.toInt = v) (h0 : 0 ≤ v) (h1 : v ≤ 387420489) (hb : 97 ≤ b.toInt ∧ b.toInt ≤ 122) : (w * 27 + b.toInt64 - 96).toInt = v * 27 + (b.toInt - 96) := by
  have e27 : (27 : Int64).toInt = 27 := by decide
  have e96 : (96 : Int64).toInt = 96 := by decide
  rw [Int64.toInt_sub, Int64.toInt_add, Int64.toInt_mul, Int32.toInt_toInt64, e27, e96, hw, lq_bmod (x := v * 27) (by omega) (by omega), lq_bmod (x := v * 27 + b.toInt) (by omega) (by omega), lq_bmod (by omega) (by omega)]
  omega
theorem wd_eq {f : Nat → Int32} {s k : Nat} {wh : Int} {L : Int64} {r : Int32} {n5 : Int32} (hk : n5.toInt = (k : Nat)) (hL : n5.toInt ≤ 7 → L.toInt = encW f s k) (hr : (6 < n5.toInt ∧ r.toInt = 2) ∨ (n5.toInt ≤ 6 ∧ r.toInt = wdF wh L.toInt)) : r.toInt = wdK wh f s k := by
  unfold wdK
  rcases hr with ⟨a, b⟩ | ⟨a, b⟩
  · rw [if_pos (by omega)]; exact b
  · rw [if_neg (by omega), b, hL (by omega)]
theorem enc_fin {f : Nat → Int32} {s : Nat} {n5 : Int32} {L L' : Int64} {b : Int32} (h0 : 0 ≤ n5.toInt) (hk : n5.toInt ≤ 6) (h : L.toInt = encW f s n5.toNatClampNeg) (hl : ∀ k : Nat, (k : Int) < n5.toInt → 97 ≤ (f (s + k)).toInt ∧ (f (s + k)).toInt ≤ 122) (hb : f (s + n5.toNatClampNeg) = b) (hb2 : 97 ≤ b.toInt ∧ b.toInt ≤ 122) (e : L' = L * 27 + b.toInt64 - 96) : L'.toInt = encW f s (n5.toNatClampNeg + 1) := by
  have hc := i_clamp0 h0
  have h1 := enc_lt (g := f) (s := s) n5.toNatClampNeg (fun i hi => hl i (by omega))
  have h2 := (enc_pos (g := f) (s := s) n5.toNatClampNeg (fun i hi => hl i (by omega))).1
  have h3 : (27 : Int) ^ n5.toNatClampNeg ≤ 387420489 := by
    rcases (show n5.toNatClampNeg = 0 ∨ n5.toNatClampNeg = 1 ∨ n5.toNatClampNeg = 2 ∨ n5.toNatClampNeg = 3 ∨ n5.toNatClampNeg = 4 ∨ n5.toNatClampNeg = 5 ∨ n5.toNatClampNeg = 6 by omega) with q | q | q | q | q | q | q <;> rw [q] <;> decide
  rw [e, enc_step h h2 (by omega) hb2]
  show _ = encW f s n5.toNatClampNeg * 27 + ((f (s + n5.toNatClampNeg)).toInt - 96)
  rw [hb]
theorem num_fin {f : Nat → Int32} {s k : Nat} {nu nu' b : Int32} (h : nu = numV f s k) (hb : f (s + k) = b) (e : nu' = 10 * nu + b - 48) : nu' = numV f s (k + 1) := by
  show nu' = 10 * numV f s k + f (s + k) - 48
  rw [← h, hb, e]
/-! ===== the class's reading: tokens, and what each reader does ===== -/
def cwd (t : Int) : Int := if t = 0 then 0 else if t = 2 then 1 else if t = 1 then 2 else if 100 ≤ t then 3 else if t = 10 then 4 else if t = 20 then 5 else if t = 30 then 6 else if t = 71 then 7 else if t = 40 then 60 else if t = 41 then 61 else if t = 42 then 62 else if t = 50 then 43 else if t = 51 then 45 else if t = 60 then 42 else if t = 61 then 47 else if t = 5 then 40 else if t = 6 then 41 else 1
theorem cwd_iff {t w : Int} (h : KOK t) (e : w = cwd t) : (w = 0 ↔ t = 0) ∧ (w = 1 ↔ t = 2) ∧ (w = 2 ↔ t = 1) ∧ (w = 3 ↔ 100 ≤ t) ∧ (w = 4 ↔ t = 10) ∧ (w = 5 ↔ t = 20) ∧ (w = 6 ↔ t = 30) ∧ (w = 7 ↔ t = 71) ∧ (w = 60 ↔ t = 40) ∧ (w = 61 ↔ t = 41) ∧ (w = 62 ↔ t = 42) ∧ (w = 43 ↔ t = 50) ∧ (w = 45 ↔ t = 51) ∧ (w = 42 ↔ t = 60) ∧ (w = 47 ↔ t = 61) ∧ (w = 40 ↔ t = 5) ∧ (w = 41 ↔ t = 6) := by
  unfold KOK at h
  rcases h with h | h | h | h | h | h | h | h | h | h | h | h | h | h | h | h | h
  all_goals first
    | (subst h; rw [e]; decide)
    | (have e3 : cwd t = 3 := by unfold cwd; rw [if_neg (by omega), if_neg (by omega), if_neg (by omega), if_pos h]
       rw [e, e3]; omega)
def TKC (sn : Nat) (sf f : Nat → Int32) (n a : Nat) (ap wa wd vl : Int32) : Prop := a ≤ n ∧ ap.toInt = (tkE f n a : Nat) ∧ wa.toInt = (tkS f n a : Nat) ∧ wd.toInt = cwd (tkK (wdC sn sf f) f n a) ∧ (tkK (wdC sn sf f) f n a = 1 → vl.toInt = tkV f n a) ∧ (100 ≤ tkK (wdC sn sf f) f n a → vl.toInt = tkK (wdC sn sf f) f n a - 100 - 20 * whN sn ∧ 0 ≤ vl.toInt)
def cop (x : Int) : Int := if x = 4 then 10 else if x = 5 then 20 else if x = 6 then 30 else if x = 7 then 71 else if x = 8 then 70 else if x = 60 then 40 else if x = 61 then 41 else if x = 62 then 42 else if x = 43 then 50 else if x = 45 then 51 else if x = 42 then 60 else if x = 47 then 61 else 0
def stC (nb sg va : Int) : Int × Int := if sg = 2 then (1, va) else if sg = 3 then (if 0 ≤ va then (100 + nb + va, 0) else (0, 0)) else (cop sg, 0)
def oC (nb : Int) (sg va : Nat → Int32) : Nat → List (Int × Int)
  | 0 => []
  | k + 1 => stC nb (sg k).toInt (va k).toInt :: oC nb sg va k
theorem oC_congr {nb : Int} {sg va sg' va' : Nat → Int32} : ∀ k : Nat, (∀ i, i < k → sg i = sg' i ∧ va i = va' i) → oC nb sg va k = oC nb sg' va' k
  | 0, _ => rfl
  | k + 1, h => by unfold oC; rw [(h k (by omega)).1, (h k (by omega)).2, oC_congr k (fun i hi => h i (by omega))]
def ADDP (us : Int32) (sg va : Nat → Int32) (p0 p1 us' : Int32) (sg' va' : Nat → Int32) : Prop := (us.toInt < 120 ∧ us'.toInt = us.toInt + 1 ∧ sg' = upd sg us.toNatClampNeg p0 ∧ va' = upd va us.toNatClampNeg p1) ∨ (120 ≤ us.toInt ∧ us' = us)
theorem oC_add {nb : Int} {us us' p0 p1 : Int32} {sg va sg' va' : Nat → Int32} (h : ADDP us sg va p0 p1 us' sg' va') (h0 : 0 ≤ us.toInt) (h1 : us.toInt < 120) : us'.toInt = us.toInt + 1 ∧ oC nb sg' va' us'.toNatClampNeg = stC nb p0.toInt p1.toInt :: oC nb sg va us.toNatClampNeg := by
  rcases h with ⟨-, h2, h3, h4⟩ | ⟨h, -⟩
  · refine ⟨h2, ?_⟩
    have c0 := i_clamp0 h0
    have c1 := i_clamp0 (x := us') (by omega)
    rw [show us'.toNatClampNeg = us.toNatClampNeg + 1 by omega, h3, h4]
    show stC nb (upd sg us.toNatClampNeg p0 us.toNatClampNeg).toInt (upd va us.toNatClampNeg p1 us.toNatClampNeg).toInt :: oC nb (upd sg us.toNatClampNeg p0) (upd va us.toNatClampNeg p1) us.toNatClampNeg = _
    rw [uq_at, uq_at, oC_congr (sg' := sg) (va' := va) us.toNatClampNeg (fun i hi => ⟨uq_ne (by omega), uq_ne (by omega)⟩)]
  · omega
abbrev KC (sn : Nat) (sf f : Nat → Int32) (n : Nat) : Nat → Int := tkK (wdC sn sf f) f n
abbrev PASSc (sn : Nat) (sf f : Nat → Int32) (n : Nat) := PASS (KC sn sf f n) (tkV f n) (tkS f n) (tkE f n)
abbrev FAILc (sn : Nat) (sf f : Nat → Int32) (n : Nat) := FAILS (KC sn sf f n) (tkV f n) (tkS f n) (tkE f n)
/-- good so far: at a', c was laid -/
def RKG (sn : Nat) (sf f : Nat → Int32) (n : Nat) (k j o i : Int) (a : Nat) (us : Int32) (sg va : Nat → Int32) (ap wa wd vl us' : Int32) (sg' va' : Nat → Int32) : Prop :=
  ∃ a' c, TKC sn sf f n a' ap wa wd vl ∧ PASSc sn sf f n k j o a a' c ∧ oC (20 * whN sn) sg' va' us'.toNatClampNeg = c ++ oC (20 * whN sn) sg va us.toNatClampNeg ∧ us.toInt ≤ us'.toInt ∧ us'.toInt - us.toInt ≤ (a' : Int) - a ∧ (a : Int) + i ≤ a'
def RKF (sn : Nat) (sf f : Nat → Int32) (n : Nat) (k o : Int) (a : Nat) (wa : Int32) : Prop := ∃ a', wa.toInt = (tkS f n a' : Nat) ∧ FAILc sn sf f n k o a a'
/-- what a reader does: r 1 good, 0 not -/
def RKP (sn : Nat) (sf f : Nat → Int32) (n : Nat) (k j o i : Int) (ap wa wd vl us : Int32) (sg va : Nat → Int32) (ap' wa' wd' vl' us' : Int32) (sg' va' : Nat → Int32) (r : Int32) : Prop :=
  ∀ a : Nat, TKC sn sf f n a ap wa wd vl → us.toInt ≤ a → (r.toInt = 0 ∧ RKF sn sf f n k o a wa') ∨ (r.toInt = 1 ∧ RKG sn sf f n k j o i a us sg va ap' wa' wd' vl' us' sg' va')
section READERS
variable {sn : Nat} {sf f : Nat → Int32} {n : Nat} {k j o i : Int} {ap wa wd vl us ap1 wa1 wd1 vl1 us1 ap2 wa2 wd2 vl2 us2 ap3 wa3 wd3 vl3 us3 r r2 q z : Int32} {sg va sg1 va1 sg2 va2 sg3 va3 : Nat → Int32}
theorem TKC_K {a : Nat} (h : TKC sn sf f n a ap wa wd vl) : (fun t w : Int => (w = 0 ↔ t = 0) ∧ (w = 1 ↔ t = 2) ∧ (w = 2 ↔ t = 1) ∧ (w = 3 ↔ 100 ≤ t) ∧ (w = 4 ↔ t = 10) ∧ (w = 5 ↔ t = 20) ∧ (w = 6 ↔ t = 30) ∧ (w = 7 ↔ t = 71) ∧ (w = 60 ↔ t = 40) ∧ (w = 61 ↔ t = 41) ∧ (w = 62 ↔ t = 42) ∧ (w = 43 ↔ t = 50) ∧ (w = 45 ↔ t = 51) ∧ (w = 42 ↔ t = 60) ∧ (w = 47 ↔ t = 61) ∧ (w = 40 ↔ t = 5) ∧ (w = 41 ↔ t = 6)) (KC sn sf f n a) wd.toInt := cwd_iff (tkK_ok (wdC_ok sn sf f)).1 h.2.2.2.1
theorem TKC_b {a : Nat} (h : TKC sn sf f n a ap wa wd vl) : a ≤ n ∧ tkE f n a ≤ n ∧ a ≤ tkE f n a ∧ (wd.toInt ≠ 0 → a < tkE f n a) ∧ ap.toNatClampNeg = tkE f n a := by
  have hk := tkK_ok (wdC_ok sn sf f) (f := f) (n := n) (a := a)
  have hb := tk_b (f := f) h.1
  have h0 := (cwd_iff hk.1 h.2.2.2.1).1
  have h2 := h.2.1
  have hc := i_clamp0 (x := ap) (by omega)
  refine ⟨h.1, hb.2.2.1, by omega, fun z => ?_, by omega⟩
  have : ¬ n ≤ tkS f n a := fun y => z (h0.mpr (hk.2.mpr y))
  have := hb.2.2.2 (by omega)
  omega
/-- the next token -/
theorem TKC_n {a : Nat} (h : TKC sn sf f n a ap wa wd vl) (h2 : TKC sn sf f n ap.toNatClampNeg ap1 wa1 wd1 vl1) : TKC sn sf f n (tkE f n a) ap1 wa1 wd1 vl1 := by rw [← (TKC_b h).2.2.2.2]; exact h2
/- operands -/
theorem RO_val (hw : wd.toInt = 2 ∨ wd.toInt = 3) (hadd : ADDP us sg va wd vl us1 sg1 va1) (hg : TKC sn sf f n ap.toNatClampNeg ap1 wa1 wd1 vl1) (h0 : 0 ≤ us.toInt) (hn : n ≤ 120) (hr : r.toInt = 1) : RKP sn sf f n 7 7 o 0 ap wa wd vl us sg va ap1 wa1 wd1 vl1 us1 sg1 va1 r := by
  intro a h hu
  have hb := TKC_b h
  have hK := TKC_K h
  have ho := oC_add (nb := 20 * whN sn) hadd h0 (by have := hb.2.2.2.1 (by omega); omega)
  refine Or.inr ⟨hr, tkE f n a, _, TKC_n h hg, P_opd ?_, ?_, by omega, by have := hb.2.2.2.1 (by omega); omega, by omega⟩
  · rcases hw with hw | hw
    · exact Or.inl (hK.2.2.1.mp hw)
    · exact Or.inr (hK.2.2.2.1.mp hw)
  · rw [ho.2]
    show _ :: _ = _ :: _
    congr 1
    rcases hw with hw | hw
    · have e := hK.2.2.1.mp hw
      unfold stC
      rw [if_pos hw, h.2.2.2.2.1 e]
      show _ = (KC sn sf f n a, if KC sn sf f n a = 1 then _ else _)
      rw [e, if_pos rfl]
    · have e := hK.2.2.2.1.mp hw
      have e2 : KC sn sf f n a ≠ 1 := by omega
      unfold stC
      have e3 := h.2.2.2.2.2 e
      rw [if_neg (by omega), if_pos hw, if_pos e3.2, e3.1, if_neg e2]
      congr 1
      show (100 : Int) + 20 * whN sn + (KC sn sf f n a - 100 - 20 * whN sn) = KC sn sf f n a
      omega
theorem RO_no (hw : wd.toInt ≠ 2 ∧ wd.toInt ≠ 3 ∧ wd.toInt ≠ 40 ∧ wd.toInt ≠ 7 ∧ wd.toInt ≠ 45) (hr : r.toInt = 0) : RKP sn sf f n 7 7 o 0 ap wa wd vl us sg va ap1 wa wd1 vl1 us1 sg1 va1 r := by
  intro a h hu
  have hK := TKC_K h
  refine Or.inl ⟨hr, a, h.2.2.1, F_opd ?_ ?_⟩
  · have h1 := hK.2.2.1; have h2 := hK.2.2.2.1; exact ⟨fun y => hw.1 (h1.mpr y), by have : ¬ 100 ≤ KC sn sf f n a := fun y => hw.2.1 (h2.mpr y); omega⟩
  · have h1 := hK.2.2.2.2.2.2.2.2.2.2.2.2.1; have h2 := hK.2.2.2.2.2.2.2.2.2.2.2.2.2.2.2.1; have h3 := hK.2.2.2.2.2.2.2.1
    exact ⟨fun y => hw.2.2.2.2 (h1.mpr y), fun y => hw.2.2.1 (h2.mpr y), fun y => hw.2.2.2.1 (h3.mpr y)⟩
theorem RO_deep (hw : wd.toInt = 40 ∨ wd.toInt = 7 ∨ wd.toInt = 45) (ho : o = 15) (hr : r.toInt = 0) : RKP sn sf f n 7 7 o 0 ap wa wd vl us sg va ap1 wa wd1 vl1 us1 sg1 va1 r := by
  intro a h hu
  have hK := TKC_K h
  refine Or.inl ⟨hr, a, h.2.2.1, F_deep (Or.inr ?_) ho⟩
  have h1 := hK.2.2.2.2.2.2.2.2.2.2.2.2.1; have h2 := hK.2.2.2.2.2.2.2.2.2.2.2.2.2.2.2.1; have h3 := hK.2.2.2.2.2.2.2.1
  rcases hw with hw | hw | hw
  · exact Or.inr (Or.inl (h2.mp hw))
  · exact Or.inr (Or.inr (h3.mp hw))
  · exact Or.inl (h1.mp hw)
/-- ahead of an operand: -, abs -/
theorem RO_sgn (hw : wd.toInt = 7 ∨ wd.toInt = 45) (ho : o ≠ 15) (hg : TKC sn sf f n ap.toNatClampNeg ap1 wa1 wd1 vl1) (hop : RKP sn sf f n 7 7 (o + 1) 0 ap1 wa1 wd1 vl1 us sg va ap2 wa2 wd2 vl2 us2 sg2 va2 r) (hadd : ADDP us2 sg2 va2 q z us3 sg3 va3) (hq : (wd.toInt = 45 ∧ q.toInt = 8) ∨ (wd.toInt = 7 ∧ q.toInt = 7)) (h0 : 0 ≤ us2.toInt) (hn : n ≤ 120) : RKP sn sf f n 7 7 o 0 ap wa wd vl us sg va ap2 wa2 wd2 vl2 us3 sg3 va3 r := by
  intro a h hu
  have hb := TKC_b h
  have hK := TKC_K h
  have hne := hb.2.2.2.1 (by omega)
  have hk : KC sn sf f n a = 51 ∨ KC sn sf f n a = 71 := by
    have h1 := hK.2.2.2.2.2.2.2.2.2.2.2.2.1; have h3 := hK.2.2.2.2.2.2.2.1
    rcases hw with hw | hw
    · exact Or.inr (h3.mp hw)
    · exact Or.inl (h1.mp hw)
  rcases hop (tkE f n a) (TKC_n h hg) (by omega) with ⟨g0, a', g1, g2⟩ | ⟨g0, a', c, g1, g2, g3, g4, g5, g6⟩
  · exact Or.inl ⟨g0, a', g1, F_sgn hk ho g2⟩
  · have hb2 := TKC_b g1
    have hoc := oC_add (nb := 20 * whN sn) hadd h0 (by omega)
    refine Or.inr ⟨g0, a', _, g1, P_sgn hk ho g2, ?_, by omega, by omega, by omega⟩
    rw [hoc.2, g3]
    show _ :: _ = _ :: _
    congr 1
    have h1 := hK.2.2.2.2.2.2.2.2.2.2.2.2.1; have h3 := hK.2.2.2.2.2.2.2.1
    rcases hq with ⟨e1, e2⟩ | ⟨e1, e2⟩
    · rw [show KC sn sf f n a = 51 from h1.mp e1, e2]; rfl
    · rw [show KC sn sf f n a = 71 from h3.mp e1, e2]; rfl
/-- what follows an opening bracket -/
def RKB (sn : Nat) (sf f : Nat → Int32) (n : Nat) (o : Int) (ap wa wd vl us : Int32) (sg va : Nat → Int32) (ap' wa' wd' vl' us' : Int32) (sg' va' : Nat → Int32) (r : Int32) : Prop :=
  ∀ a : Nat, TKC sn sf f n a ap wa wd vl → us.toInt ≤ a →
    (r.toInt = 0 ∧ ∃ a', wa'.toInt = (tkS f n a' : Nat) ∧ (FAILc sn sf f n 1 o a a' ∨ ∃ c, PASSc sn sf f n 1 1 o a a' c ∧ KC sn sf f n a' ≠ 6)) ∨
    (r.toInt = 1 ∧ ∃ a' c, TKC sn sf f n (tkE f n a') ap' wa' wd' vl' ∧ PASSc sn sf f n 1 1 o a a' c ∧ KC sn sf f n a' = 6 ∧ oC (20 * whN sn) sg' va' us'.toNatClampNeg = c ++ oC (20 * whN sn) sg va us.toNatClampNeg ∧ us.toInt ≤ us'.toInt ∧ us'.toInt - us.toInt ≤ (a' : Int) - a ∧ (a : Int) ≤ a' ∧ a' ≤ tkE f n a')
theorem RO_br (hw : wd.toInt = 40) (ho : o ≠ 15) (hg : TKC sn sf f n ap.toNatClampNeg ap1 wa1 wd1 vl1) (hop : RKB sn sf f n (o + 1) ap1 wa1 wd1 vl1 us sg va ap2 wa2 wd2 vl2 us2 sg2 va2 r) : RKP sn sf f n 7 7 o 0 ap wa wd vl us sg va ap2 wa2 wd2 vl2 us2 sg2 va2 r := by
  intro a h hu
  have hb := TKC_b h
  have hne := hb.2.2.2.1 (by omega)
  have hk : KC sn sf f n a = 5 := (TKC_K h).2.2.2.2.2.2.2.2.2.2.2.2.2.2.2.1.mp hw
  rcases hop (tkE f n a) (TKC_n h hg) (by omega) with ⟨g0, a', g1, g2⟩ | ⟨g0, a', c, g1, g2, g6, g3, g4, g5, g7, g8⟩
  · refine Or.inl ⟨g0, a', g1, ?_⟩
    rcases g2 with g2 | ⟨c, g2, g3⟩
    · exact F_br hk ho g2
    · exact F_br2 hk ho g2 g3 (tkK_ok (wdC_ok sn sf f)).1
  · exact Or.inr ⟨g0, tkE f n a', c, g1, P_br hk ho g2 g6, g3, g4, by omega, by omega⟩
theorem RB_no (hop : RKP sn sf f n 1 1 o 0 ap wa wd vl us sg va ap1 wa1 wd1 vl1 us1 sg1 va1 r) (hr : r.toInt = 0) (hr2 : r2.toInt = 0) : RKB sn sf f n o ap wa wd vl us sg va ap1 wa1 wd1 vl1 us1 sg1 va1 r2 := by
  intro a h hu
  rcases hop a h hu with ⟨g0, a', g1, g2⟩ | ⟨g0, -⟩
  · exact Or.inl ⟨hr2, a', g1, Or.inl g2⟩
  · omega
theorem RB_no2 (hop : RKP sn sf f n 1 1 o 0 ap wa wd vl us sg va ap1 wa1 wd1 vl1 us1 sg1 va1 r) (hr : r.toInt = 1) (hw : wd1.toInt ≠ 41) (hr2 : r2.toInt = 0) : RKB sn sf f n o ap wa wd vl us sg va ap1 wa1 wd1 vl1 us1 sg1 va1 r2 := by
  intro a h hu
  rcases hop a h hu with ⟨g0, -⟩ | ⟨g0, a', c, g1, g2, g3, g4, g5, g6⟩
  · omega
  · exact Or.inl ⟨hr2, a', g1.2.2.1, Or.inr ⟨c, g2, fun y => hw ((TKC_K g1).2.2.2.2.2.2.2.2.2.2.2.2.2.2.2.2.mpr y)⟩⟩
theorem RB_ok (hop : RKP sn sf f n 1 1 o 0 ap wa wd vl us sg va ap1 wa1 wd1 vl1 us1 sg1 va1 r) (hr : r.toInt = 1) (hw : wd1.toInt = 41) (hg : TKC sn sf f n ap1.toNatClampNeg ap2 wa2 wd2 vl2) (hr2 : r2.toInt = 1) : RKB sn sf f n o ap wa wd vl us sg va ap2 wa2 wd2 vl2 us1 sg1 va1 r2 := by
  intro a h hu
  rcases hop a h hu with ⟨g0, -⟩ | ⟨g0, a', c, g1, g2, g3, g4, g5, g6⟩
  · omega
  · exact Or.inr ⟨hr2, a', c, TKC_n g1 hg, g2, (TKC_K g1).2.2.2.2.2.2.2.2.2.2.2.2.2.2.2.2.mp hw, g3, g4, g5, by omega, (TKC_b g1).2.2.1⟩
/- loops: one level up, one round, the end -/
theorem RK_up (hk : LVL k) (h : RKP sn sf f n (k + 1) (k + 1) o 0 ap wa wd vl us sg va ap1 wa1 wd1 vl1 us1 sg1 va1 r) : RKP sn sf f n k (k + 1) o 0 ap wa wd vl us sg va ap1 wa1 wd1 vl1 us1 sg1 va1 r := by
  intro a h1 hu
  rcases h a h1 hu with ⟨g0, a', g1, g2⟩ | ⟨g0, a', c, g1, g2, g3⟩
  · exact Or.inl ⟨g0, a', g1, FA_up hk g2⟩
  · exact Or.inr ⟨g0, a', c, g1, P_up hk g2, g3⟩
/-- the signs of a level, as the class has them, and as the reference has them -/
def OPC (k w t : Int) : Prop := (k = 1 ∧ w = 4 ∧ t = 10) ∨ (k = 2 ∧ w = 5 ∧ t = 20) ∨ (k = 5 ∧ ((w = 43 ∧ t = 50) ∨ (w = 45 ∧ t = 51))) ∨ (k = 6 ∧ ((w = 42 ∧ t = 60) ∨ (w = 47 ∧ t = 61)))
theorem OPC_of {a : Nat} (h : TKC sn sf f n a ap wa wd vl) (hw : (k = 1 ∧ wd.toInt = 4) ∨ (k = 2 ∧ wd.toInt = 5) ∨ (k = 5 ∧ (wd.toInt = 43 ∨ wd.toInt = 45)) ∨ (k = 6 ∧ (wd.toInt = 42 ∨ wd.toInt = 47))) : OPC k wd.toInt (KC sn sf f n a) := by
  have hK := TKC_K h
  have h4 := hK.2.2.2.2.1; have h5 := hK.2.2.2.2.2.1; have h43 := hK.2.2.2.2.2.2.2.2.2.2.2.1; have h45 := hK.2.2.2.2.2.2.2.2.2.2.2.2.1; have h42 := hK.2.2.2.2.2.2.2.2.2.2.2.2.2.1; have h47 := hK.2.2.2.2.2.2.2.2.2.2.2.2.2.2.1
  unfold OPC
  rcases hw with ⟨a1, a2⟩ | ⟨a1, a2⟩ | ⟨a1, a2 | a2⟩ | ⟨a1, a2 | a2⟩
  · exact Or.inl ⟨a1, a2, h4.mp a2⟩
  · exact Or.inr (Or.inl ⟨a1, a2, h5.mp a2⟩)
  · exact Or.inr (Or.inr (Or.inl ⟨a1, Or.inl ⟨a2, h43.mp a2⟩⟩))
  · exact Or.inr (Or.inr (Or.inl ⟨a1, Or.inr ⟨a2, h45.mp a2⟩⟩))
  · exact Or.inr (Or.inr (Or.inr ⟨a1, Or.inl ⟨a2, h42.mp a2⟩⟩))
  · exact Or.inr (Or.inr (Or.inr ⟨a1, Or.inr ⟨a2, h47.mp a2⟩⟩))
theorem OPC_no {a : Nat} (h : TKC sn sf f n a ap wa wd vl) (hw : ¬ ((k = 1 ∧ wd.toInt = 4) ∨ (k = 2 ∧ wd.toInt = 5) ∨ (k = 5 ∧ (wd.toInt = 43 ∨ wd.toInt = 45)) ∨ (k = 6 ∧ (wd.toInt = 42 ∨ wd.toInt = 47)))) : ¬ OPT k (KC sn sf f n a) := by
  have hK := TKC_K h
  have h4 := hK.2.2.2.2.1; have h5 := hK.2.2.2.2.2.1; have h43 := hK.2.2.2.2.2.2.2.2.2.2.2.1; have h45 := hK.2.2.2.2.2.2.2.2.2.2.2.2.1; have h42 := hK.2.2.2.2.2.2.2.2.2.2.2.2.2.1; have h47 := hK.2.2.2.2.2.2.2.2.2.2.2.2.2.2.1
  intro hh
  apply hw
  rcases hh with ⟨a1, a2⟩ | ⟨a1, a2⟩ | ⟨a1, a2 | a2⟩ | ⟨a1, a2 | a2⟩
  · exact Or.inl ⟨a1, h4.mpr a2⟩
  · exact Or.inr (Or.inl ⟨a1, h5.mpr a2⟩)
  · exact Or.inr (Or.inr (Or.inl ⟨a1, Or.inl (h43.mpr a2)⟩))
  · exact Or.inr (Or.inr (Or.inl ⟨a1, Or.inr (h45.mpr a2)⟩))
  · exact Or.inr (Or.inr (Or.inr ⟨a1, Or.inl (h42.mpr a2)⟩))
  · exact Or.inr (Or.inr (Or.inr ⟨a1, Or.inr (h47.mpr a2)⟩))
theorem OPC_T {w t : Int} (h : OPC k w t) : OPT k t ∧ LVL k ∧ cop w = t ∧ w ≠ 2 ∧ w ≠ 3 ∧ w ≠ 0 := by
  unfold OPC at h
  rcases h with ⟨a, b, c⟩ | ⟨a, b, c⟩ | ⟨a, ⟨b, c⟩ | ⟨b, c⟩⟩ | ⟨a, ⟨b, c⟩ | ⟨b, c⟩⟩ <;> subst a <;> subst b <;> subst c <;> exact ⟨by unfold OPT; omega, by unfold LVL; omega, rfl, by decide, by decide, by decide⟩
/-- one round of a loop: a sign, the next token, an operand, and the sign laid behind it -/
theorem RK_rnd (h : RKP sn sf f n k (k + 1) o i ap wa wd vl us sg va ap1 wa1 wd1 vl1 us1 sg1 va1 r) (hr : r.toInt = 1) (hw : (k = 1 ∧ wd1.toInt = 4) ∨ (k = 2 ∧ wd1.toInt = 5) ∨ (k = 5 ∧ (wd1.toInt = 43 ∨ wd1.toInt = 45)) ∨ (k = 6 ∧ (wd1.toInt = 42 ∨ wd1.toInt = 47)))
    (hg : TKC sn sf f n ap1.toNatClampNeg ap2 wa2 wd2 vl2) (hop : RKP sn sf f n (k + 1) (k + 1) o 0 ap2 wa2 wd2 vl2 us1 sg1 va1 ap3 wa3 wd3 vl3 us2 sg2 va2 r2) (hadd : ADDP us2 sg2 va2 q z us3 sg3 va3) (hq : q.toInt = wd1.toInt) (h0 : 0 ≤ us2.toInt) (hn : n ≤ 120) : RKP sn sf f n k (k + 1) o (i + 1) ap wa wd vl us sg va ap3 wa3 wd3 vl3 us3 sg3 va3 r2 := by
  intro a h1 hu
  rcases h a h1 hu with ⟨g0, -⟩ | ⟨g0, a', c, g1, g2, g3, g4, g5, g6⟩
  · omega
  · have hT := OPC_of g1 hw
    obtain ⟨t1, t2, t3, t4, t5, t6⟩ := OPC_T hT
    have hb := TKC_b g1
    have hne := hb.2.2.2.1 t6
    rcases hop (tkE f n a') (TKC_n g1 hg) (by omega) with ⟨e0, a2, e1, e2⟩ | ⟨e0, a2, c2, e1, e2, e3, e4, e5, e6⟩
    · exact Or.inl ⟨e0, a2, e1, F_lp g2 t1 e2⟩
    · have hb2 := TKC_b e1
      have hoc := oC_add (nb := 20 * whN sn) hadd h0 (by omega)
      refine Or.inr ⟨e0, a2, _, e1, P_lp g2 t1 e2, ?_, by omega, by omega, by omega⟩
      rw [hoc.2, e3, g3, hq]
      unfold stC
      rw [if_neg t4, if_neg t5, t3, List.cons_append, List.append_assoc]
theorem RK_end (h : RKP sn sf f n k (k + 1) o i ap wa wd vl us sg va ap1 wa1 wd1 vl1 us1 sg1 va1 r) (hk : LVL k) (h0 : 0 ≤ i) (he : r.toInt = 0 ∨ 120 ≤ i ∨ ¬ ((k = 1 ∧ wd1.toInt = 4) ∨ (k = 2 ∧ wd1.toInt = 5) ∨ (k = 5 ∧ (wd1.toInt = 43 ∨ wd1.toInt = 45)) ∨ (k = 6 ∧ (wd1.toInt = 42 ∨ wd1.toInt = 47)))) (hn : n ≤ 120) : RKP sn sf f n k k o 0 ap wa wd vl us sg va ap1 wa1 wd1 vl1 us1 sg1 va1 r := by
  intro a h1 hu
  rcases h a h1 hu with g | ⟨g0, a', c, g1, g2, g3, g4, g5, g6⟩
  · exact Or.inl g
  · refine Or.inr ⟨g0, a', c, g1, P_ex hk g2 ?_, g3, g4, g5, by omega⟩
    rcases he with he | he | he
    · omega
    · intro ht
      have hb := TKC_b g1
      have hK := (TKC_K g1).1
      have hne : wd1.toInt ≠ 0 := fun y => by have := hK.mp y; unfold OPT at ht; omega
      have := hb.2.2.2.1 hne
      omega
    · exact OPC_no g1 he
/- not -/
theorem RN_deep (hw : wd.toInt = 6) (ho : o = 15) (hr : r.toInt = 0) : RKP sn sf f n 3 3 o 0 ap wa wd vl us sg va ap1 wa wd1 vl1 us1 sg1 va1 r := by
  intro a h hu
  exact Or.inl ⟨hr, a, h.2.2.1, F_deep (Or.inl ⟨rfl, (TKC_K h).2.2.2.2.2.2.1.mp hw⟩) ho⟩
theorem RN_not (hw : wd.toInt = 6) (ho : o ≠ 15) (hg : TKC sn sf f n ap.toNatClampNeg ap1 wa1 wd1 vl1) (hop : RKP sn sf f n 3 3 (o + 1) 0 ap1 wa1 wd1 vl1 us sg va ap2 wa2 wd2 vl2 us2 sg2 va2 r) (hadd : ADDP us2 sg2 va2 q z us3 sg3 va3) (hq : q.toInt = 6) (h0 : 0 ≤ us2.toInt) (hn : n ≤ 120) : RKP sn sf f n 3 3 o 0 ap wa wd vl us sg va ap2 wa2 wd2 vl2 us3 sg3 va3 r := by
  intro a h hu
  have hb := TKC_b h
  have hne := hb.2.2.2.1 (by omega)
  have hk := (TKC_K h).2.2.2.2.2.2.1.mp hw
  rcases hop (tkE f n a) (TKC_n h hg) (by omega) with ⟨g0, a', g1, g2⟩ | ⟨g0, a', c, g1, g2, g3, g4, g5, g6⟩
  · exact Or.inl ⟨g0, a', g1, F_not hk ho g2⟩
  · have hb2 := TKC_b g1
    have hoc := oC_add (nb := 20 * whN sn) hadd h0 (by omega)
    refine Or.inr ⟨g0, a', _, g1, P_not hk ho g2, ?_, by omega, by omega, by omega⟩
    rw [hoc.2, g3, hq]; rfl
theorem RN_up (hw : wd.toInt ≠ 6) (h : RKP sn sf f n 4 4 o 0 ap wa wd vl us sg va ap1 wa1 wd1 vl1 us1 sg1 va1 r) : RKP sn sf f n 3 3 o 0 ap wa wd vl us sg va ap1 wa1 wd1 vl1 us1 sg1 va1 r := by
  intro a h1 hu
  have hk : KC sn sf f n a ≠ 30 := fun y => hw ((TKC_K h1).2.2.2.2.2.2.1.mpr y)
  rcases h a h1 hu with ⟨g0, a', g1, g2⟩ | ⟨g0, a', c, g1, g2, g3⟩
  · exact Or.inl ⟨g0, a', g1, F_43 hk g2⟩
  · exact Or.inr ⟨g0, a', c, g1, P_43 hk g2, g3⟩
/- comparisons -/
theorem RC_no (h : RKP sn sf f n 5 5 o 0 ap wa wd vl us sg va ap1 wa1 wd1 vl1 us1 sg1 va1 r) (hw : r.toInt = 0 ∨ (wd1.toInt ≠ 60 ∧ wd1.toInt ≠ 61 ∧ wd1.toInt ≠ 62)) : RKP sn sf f n 4 4 o 0 ap wa wd vl us sg va ap1 wa1 wd1 vl1 us1 sg1 va1 r := by
  intro a h1 hu
  rcases h a h1 hu with ⟨g0, a', g1, g2⟩ | ⟨g0, a', c, g1, g2, g3⟩
  · exact Or.inl ⟨g0, a', g1, F_54 g2⟩
  · have hK := TKC_K g1
    have e0 := hK.2.2.2.2.2.2.2.2.1; have e1 := hK.2.2.2.2.2.2.2.2.2.1; have e2 := hK.2.2.2.2.2.2.2.2.2.2.1
    have hk : KOK (KC sn sf f n a') := (tkK_ok (wdC_ok sn sf f) (f := f) (n := n) (a := a')).1
    refine Or.inr ⟨g0, a', c, g1, P_54 g2 (fun y => ?_), g3⟩
    rcases hw with hw | hw
    · omega
    · have y2 : KC sn sf f n a' = 40 ∨ KC sn sf f n a' = 41 ∨ KC sn sf f n a' = 42 := by unfold KOK at hk; omega
      rcases y2 with y2 | y2 | y2
      · exact hw.1 (e0.mpr y2)
      · exact hw.2.1 (e1.mpr y2)
      · exact hw.2.2 (e2.mpr y2)
theorem RC_rel (h : RKP sn sf f n 5 5 o 0 ap wa wd vl us sg va ap1 wa1 wd1 vl1 us1 sg1 va1 r) (hr : r.toInt = 1) (hw : wd1.toInt = 60 ∨ wd1.toInt = 61 ∨ wd1.toInt = 62) (hg : TKC sn sf f n ap1.toNatClampNeg ap2 wa2 wd2 vl2)
    (hop : RKP sn sf f n 5 5 o 0 ap2 wa2 wd2 vl2 us1 sg1 va1 ap3 wa3 wd3 vl3 us2 sg2 va2 r2) (hadd : ADDP us2 sg2 va2 q z us3 sg3 va3) (hq : q.toInt = wd1.toInt) (h0 : 0 ≤ us2.toInt) (hn : n ≤ 120) : RKP sn sf f n 4 4 o 0 ap wa wd vl us sg va ap3 wa3 wd3 vl3 us3 sg3 va3 r2 := by
  intro a h1 hu
  rcases h a h1 hu with ⟨g0, -⟩ | ⟨g0, a', c, g1, g2, g3, g4, g5, g6⟩
  · omega
  · have hK := TKC_K g1
    have e0 := hK.2.2.2.2.2.2.2.2.1; have e1 := hK.2.2.2.2.2.2.2.2.2.1; have e2 := hK.2.2.2.2.2.2.2.2.2.2.1
    have hT : KC sn sf f n a' / 10 = 4 ∧ cop wd1.toInt = KC sn sf f n a' := by
      rcases hw with hw | hw | hw
      · rw [e0.mp hw, hw]; decide
      · rw [e1.mp hw, hw]; decide
      · rw [e2.mp hw, hw]; decide
    have hb := TKC_b g1
    have hne := hb.2.2.2.1 (by omega)
    rcases hop (tkE f n a') (TKC_n g1 hg) (by omega) with ⟨f0, a2, f1, f2⟩ | ⟨f0, a2, c2, f1, f2, f3, f4, f5, f6⟩
    · exact Or.inl ⟨f0, a2, f1, F_rel g2 hT.1 f2⟩
    · have hb2 := TKC_b f1
      have hoc := oC_add (nb := 20 * whN sn) hadd h0 (by omega)
      refine Or.inr ⟨f0, a2, _, f1, P_rel g2 hT.1 f2, ?_, by omega, by omega, by omega⟩
      rw [hoc.2, f3, g3, hq]
      unfold stC
      rw [if_neg (by omega), if_neg (by omega), hT.2, List.cons_append, List.append_assoc]
end READERS
theorem RKP_i {sn : Nat} {sf f : Nat → Int32} {n : Nat} {k j o i i' : Int} {ap wa wd vl us ap1 wa1 wd1 vl1 us1 r : Int32} {sg va sg1 va1 : Nat → Int32} (h : RKP sn sf f n k j o i ap wa wd vl us sg va ap1 wa1 wd1 vl1 us1 sg1 va1 r) (e : i = i') : RKP sn sf f n k j o i' ap wa wd vl us sg va ap1 wa1 wd1 vl1 us1 sg1 va1 r := by rw [← e]; exact h
theorem fill_off {P : Nat → Prop} {i j : Int32} {o : Int} (h0 : o ≤ i.toInt) (hj : j.toInt = i.toInt + 1) (h : ∀ k : Nat, (k : Int) < i.toInt - o → P k) (hi : P (i.toInt - o).toNat) : ∀ k : Nat, (k : Int) < j.toInt - o → P k := by
  intro k hk
  by_cases q : (k : Int) < i.toInt - o
  · exact h k q
  · rw [show k = (i.toInt - o).toNat by omega]; exact hi
/- which word it is: step by step -/
theorem plc_no {sf : Nat → Int32} {n : Nat} {M : Nat → Nat → Bool} {i p st : Nat} (hi : i ≤ n) (c : ¬ (i = n ∨ (sf i &&& 255 : Int32) = 32)) : plcF sf n M (n + 1 - i) i p st = plcF sf n M (n + 1 - (i + 1)) (i + 1) p st := by
  rw [show n + 1 - i = (n + 1 - (i + 1)) + 1 by omega]
  conv => lhs; unfold plcF
  rw [if_neg c]
theorem plc_nx {sf : Nat → Int32} {n : Nat} {M : Nat → Nat → Bool} {i p st : Nat} (hi : i ≤ n) (c : i = n ∨ (sf i &&& 255 : Int32) = 32) (hM : M st i = false) : plcF sf n M (n + 1 - i) i p st = plcF sf n M (n + 1 - (i + 1)) (i + 1) (p + 1) (i + 1) := by
  rw [show n + 1 - i = (n + 1 - (i + 1)) + 1 by omega]
  conv => lhs; unfold plcF
  rw [if_pos c, if_neg (by rw [hM]; decide)]
theorem plc_hit {sf : Nat → Int32} {n : Nat} {M : Nat → Nat → Bool} {i p st : Nat} (hi : i ≤ n) (c : i = n ∨ (sf i &&& 255 : Int32) = 32) (hM : M st i = true) : plcF sf n M (n + 1 - i) i p st = (p : Int) := by
  rw [show n + 1 - i = (n + 1 - (i + 1)) + 1 by omega]
  unfold plcF
  rw [if_pos c, if_pos hM]
theorem plc_end {sf : Nat → Int32} {n : Nat} {M : Nat → Nat → Bool} {i p st : Nat} (hi : n < i) : plcF sf n M (n + 1 - i) i p st = -1 := by
  rw [show n + 1 - i = 0 by omega]; rfl
theorem ch_eq {x z : Int32} {n : Int} {c : Int32} (e : x = z) (h : x.toInt = n) (hc : c.toInt = n) : z = c := i_eq.mpr (by rw [← e, h, hc])
theorem ch_ne {x z c : Int32} {n : Int} (e : x = z) (h : x.toInt ≠ n) (hc : c.toInt = n) : ¬ z = c := fun y => h (by rw [e, y, hc])
theorem cwd_cKd {sn : Nat} {p : Int} (h : -1 ≤ p) : cwd (cKd sn p) = if p = -1 then 1 else if p < 4 then 4 + p else 3 := by
  have hw : whN sn = 0 ∨ whN sn = 1 := by unfold whN; split <;> omega
  unfold cKd
  by_cases a : p = -1
  · rw [if_pos a, if_pos a]; rfl
  · rw [if_neg a, if_neg a]
    by_cases b : p = 0
    · rw [if_pos b, if_pos (by omega), b]; rfl
    · rw [if_neg b]
      by_cases c : p = 1
      · rw [if_pos c, if_pos (by omega), c]; rfl
      · rw [if_neg c]
        by_cases d : p = 2
        · rw [if_pos d, if_pos (by omega), d]; rfl
        · rw [if_neg d]
          by_cases e : p = 3
          · rw [if_pos e, if_pos (by omega), e]; rfl
          · rw [if_neg e, if_neg (by omega)]
            unfold cwd
            rw [if_neg (by omega), if_neg (by omega), if_neg (by omega), if_pos (by omega)]
theorem cKd_hi {sn : Nat} {p : Int} (h : 100 ≤ cKd sn p) : cKd sn p = 96 + 20 * whN sn + p := by unfold cKd at h ⊢; omega
theorem cKd_lo {sn : Nat} {p : Int} (h : -1 ≤ p) (h2 : 100 ≤ cKd sn p) : 0 ≤ cKd sn p - 100 - 20 * whN sn := by
  unfold cKd at h2 ⊢
  omega
theorem cwd_sg {b w : Int} (h : (sgK b ≠ 2 ∧ w = b) ∨ (sgK b = 2 ∧ w = 1)) : w = cwd (sgK b) := by
  rcases h with ⟨h, e⟩ | ⟨h, e⟩
  · rw [e]
    have : b = 40 ∨ b = 41 ∨ b = 42 ∨ b = 43 ∨ b = 45 ∨ b = 47 ∨ b = 60 ∨ b = 61 ∨ b = 62 := by unfold sgK at h; omega
    rcases this with q | q | q | q | q | q | q | q | q <;> rw [q] <;> rfl
  · rw [h, e]; rfl
section CTOK
variable {sn : Nat} {sf f : Nat → Int32} {n a : Nat} {ap wa wd vl : Int32}
theorem TKC_end (h0 : a ≤ n) (hs : tkS f n a = ap.toNatClampNeg) (h1 : ap.toInt = (n : Nat)) (ht : wd.toInt = 0) : TKC sn sf f n a ap ap wd vl := by
  have hc := i_clamp0 (x := ap) (by omega)
  have he : n ≤ tkS f n a := by omega
  have hk : tkK (wdC sn sf f) f n a = 0 := by unfold tkK teK; rw [if_pos he]
  refine ⟨h0, ?_, by omega, by rw [hk]; exact ht, fun z => ?_, fun z => ?_⟩
  · unfold tkE teE; rw [if_pos he]; omega
  · rw [hk] at z; exact absurd z (by decide)
  · rw [hk] at z; exact absurd z (by decide)
theorem TKC_l (h0 : a ≤ n) (hs : tkS f n a = wa.toNatClampNeg) (h1 : 0 ≤ wa.toInt) (h2 : wa.toInt < (n : Nat)) (c : 97 ≤ (f wa.toNatClampNeg).toInt ∧ (f wa.toNatClampNeg).toInt ≤ 122) (he : ap.toInt = (teE f n wa.toNatClampNeg : Nat))
    (ht : wd.toInt = cwd (wdC sn sf f wa.toNatClampNeg (teE f n wa.toNatClampNeg - wa.toNatClampNeg))) (hv : 100 ≤ wdC sn sf f wa.toNatClampNeg (teE f n wa.toNatClampNeg - wa.toNatClampNeg) → vl.toInt = wdC sn sf f wa.toNatClampNeg (teE f n wa.toNatClampNeg - wa.toNatClampNeg) - 100 - 20 * whN sn) : TKC sn sf f n a ap wa wd vl := by
  have hc := i_clamp0 h1
  have hk : tkK (wdC sn sf f) f n a = wdC sn sf f wa.toNatClampNeg (teE f n wa.toNatClampNeg - wa.toNatClampNeg) := by unfold tkK teK; rw [hs, if_neg (by omega), if_pos c]
  exact ⟨h0, by unfold tkE; rw [hs]; exact he, by omega, by rw [hk]; exact ht, fun z => absurd (hk ▸ z) (wdC_ok sn sf f _ _).2.2, fun z => by rw [hk] at z ⊢; exact ⟨hv z, by have h1 := hv z; have h2 := cKd_lo (sn := sn) (p := plcW sn sf f wa.toNatClampNeg (teE f n wa.toNatClampNeg - wa.toNatClampNeg)) (plc_rng _ _ _ _).1 z; unfold wdC at h1; omega⟩⟩
theorem TKC_d (h0 : a ≤ n) (hs : tkS f n a = wa.toNatClampNeg) (h1 : 0 ≤ wa.toInt) (h2 : wa.toInt < (n : Nat)) (c : 48 ≤ (f wa.toNatClampNeg).toInt ∧ (f wa.toNatClampNeg).toInt ≤ 57) (he : ap.toInt = (teE f n wa.toNatClampNeg : Nat))
    (ht : (5 < ap.toInt - wa.toInt ∧ wd.toInt = 1) ∨ (ap.toInt - wa.toInt ≤ 5 ∧ wd.toInt = 2 ∧ vl = numV f wa.toNatClampNeg (ap.toInt - wa.toInt).toNat)) : TKC sn sf f n a ap wa wd vl := by
  have hc := i_clamp0 h1
  have hb := teE_b (f := f) (n := n) (s := wa.toNatClampNeg) (by omega)
  have e1 : (ap.toInt - wa.toInt).toNat = teE f n wa.toNatClampNeg - wa.toNatClampNeg := by omega
  have hk : tkK (wdC sn sf f) f n a = if 5 < teE f n wa.toNatClampNeg - wa.toNatClampNeg then 2 else 1 := by unfold tkK teK; rw [hs, if_neg (by omega), if_neg (by omega), if_pos c]
  refine ⟨h0, by unfold tkE; rw [hs]; exact he, by omega, ?_, fun z => ?_, fun z => ?_⟩
  · rw [hk]
    rcases ht with ht | ht
    · rw [if_pos (by omega)]; exact ht.2
    · rw [if_neg (by omega)]; exact ht.2.1
  · rcases ht with ht | ht
    · rw [hk, if_pos (by omega)] at z; exact absurd z (by decide)
    · unfold tkV tkE; rw [hs, ← e1, ht.2.2]
  · rw [hk] at z
    split at z
    · exact absurd z (by decide)
    · exact absurd z (by decide)
theorem TKC_s (h0 : a ≤ n) (hs : tkS f n a = wa.toNatClampNeg) (h1 : 0 ≤ wa.toInt) (h2 : wa.toInt < (n : Nat)) (c : ¬ (97 ≤ (f wa.toNatClampNeg).toInt ∧ (f wa.toNatClampNeg).toInt ≤ 122)) (c2 : ¬ (48 ≤ (f wa.toNatClampNeg).toInt ∧ (f wa.toNatClampNeg).toInt ≤ 57)) (he : ap.toInt = wa.toInt + 1)
    (ht : (sgK (f wa.toNatClampNeg).toInt ≠ 2 ∧ wd.toInt = (f wa.toNatClampNeg).toInt) ∨ (sgK (f wa.toNatClampNeg).toInt = 2 ∧ wd.toInt = 1)) : TKC sn sf f n a ap wa wd vl := by
  have hc := i_clamp0 h1
  have hk : tkK (wdC sn sf f) f n a = sgK (f wa.toNatClampNeg).toInt := by unfold tkK teK; rw [hs, if_neg (by omega), if_neg c, if_neg c2]
  refine ⟨h0, ?_, by omega, by rw [hk]; exact cwd_sg ht, fun z => absurd (hk ▸ z) (sgK_ok _).2.2, fun z => ?_⟩
  · unfold tkE teE; rw [hs, if_neg (by omega), if_neg c, if_neg c2]; omega
  · rw [hk] at z
    have : sgK (f wa.toNatClampNeg).toInt ≤ 61 := by unfold sgK; omega
    omega
end CTOK
theorem RKP_o {sn : Nat} {sf f : Nat → Int32} {n : Nat} {k j o o' i : Int} {ap wa wd vl us ap1 wa1 wd1 vl1 us1 r : Int32} {sg va sg1 va1 : Nat → Int32} (h : RKP sn sf f n k j o i ap wa wd vl us sg va ap1 wa1 wd1 vl1 us1 sg1 va1 r) (e : o = o') : RKP sn sf f n k j o' i ap wa wd vl us sg va ap1 wa1 wd1 vl1 us1 sg1 va1 r := by rw [← e]; exact h
theorem RKB_o {sn : Nat} {sf f : Nat → Int32} {n : Nat} {o o' : Int} {ap wa wd vl us ap1 wa1 wd1 vl1 us1 r : Int32} {sg va sg1 va1 : Nat → Int32} (h : RKB sn sf f n o ap wa wd vl us sg va ap1 wa1 wd1 vl1 us1 sg1 va1 r) (e : o = o') : RKB sn sf f n o' ap wa wd vl us sg va ap1 wa1 wd1 vl1 us1 sg1 va1 r := by rw [← e]; exact h
/-- the whole text: the place of the fault (-1: none); what was laid if there is none -/
def RAP (sn : Nat) (sf f : Nat → Int32) (n : Nat) (r : Int) (O : List (Int × Int)) : Prop := (0 ≤ r ∧ ∃ F, RUN (KC sn sf f n) (tkV f n) (tkS f n) (tkE f n) F true true [] [] 0 (r, [])) ∨ (r = -1 ∧ ∃ F, RUN (KC sn sf f n) (tkV f n) (tkS f n) (tkE f n) F true true [] [] 0 (r, O))
section WHOLE
variable {sn : Nat} {sf f : Nat → Int32} {n : Nat} {o : Int} {ap wa wd vl us ap1 wa1 wd1 vl1 us1 r r2 : Int32} {sg va sg1 va1 : Nat → Int32}
theorem RA_ok (h : TKC sn sf f n 0 ap wa wd vl) (hop : RKP sn sf f n 1 1 o 0 ap wa wd vl us sg va ap1 wa1 wd1 vl1 us1 sg1 va1 r) (hz : us.toNatClampNeg = 0) (ho : o = 0 ∧ us.toInt = 0) (hr : r.toInt = 1 ∧ wd1.toInt = 0) (hr2 : r2.toInt = -1) : RAP sn sf f n r2.toInt (oC (20 * whN sn) sg1 va1 us1.toNatClampNeg) := by
  obtain ⟨rfl, ho2⟩ := ho
  rcases hop 0 h (by omega) with ⟨g0, -⟩ | ⟨g0, a', c, g1, g2, g3, -⟩
  · omega
  · rw [hz] at g3
    have e : c ++ oC (20 * whN sn) sg va 0 = c := List.append_nil c
    rw [e] at g3
    rw [g3, hr2]
    exact Or.inr ⟨rfl, T_good g2 ((TKC_K g1).1.mp hr.2)⟩
theorem RA_no {O : List (Int × Int)} (h : TKC sn sf f n 0 ap wa wd vl) (hop : RKP sn sf f n 1 1 o 0 ap wa wd vl us sg va ap1 wa1 wd1 vl1 us1 sg1 va1 r) (ho : o = 0 ∧ us.toInt = 0) (hr : r.toInt = 0) (hr2 : 0 ≤ wa1.toInt) : RAP sn sf f n wa1.toInt O := by
  obtain ⟨rfl, ho2⟩ := ho
  rcases hop 0 h (by omega) with ⟨g0, a', g1, g2⟩ | ⟨g0, -⟩
  · exact Or.inl ⟨hr2, by rw [g1]; exact T_fail g2⟩
  · omega
theorem RA_bad {O : List (Int × Int)} (h : TKC sn sf f n 0 ap wa wd vl) (hop : RKP sn sf f n 1 1 o 0 ap wa wd vl us sg va ap1 wa1 wd1 vl1 us1 sg1 va1 r) (ho : o = 0 ∧ us.toInt = 0) (hr : r.toInt = 1) (hw : wd1.toInt ≠ 0) (hr2 : 0 ≤ wa1.toInt) : RAP sn sf f n wa1.toInt O := by
  obtain ⟨rfl, ho2⟩ := ho
  rcases hop 0 h (by omega) with ⟨g0, -⟩ | ⟨g0, a', c, g1, g2, -⟩
  · omega
  · exact Or.inl ⟨hr2, by rw [g1.2.2.1]; exact T_bad g2 (fun y => hw ((TKC_K g1).1.mpr y)) (tkK_ok (wdC_ok sn sf f)).1⟩
end WHOLE
/- what is fed -/
def FEDX (f g : Nat → Int32) (n m : Nat) (v : Int32) : Prop := (∀ k, k < n → g k = f k) ∧ ∀ i, i < m → ∃ s : Int32, s.toInt = 8 * (i : Int) ∧ g (n + i) = (v >>> (s &&& 31)) &&& 255
theorem FEDX_0 {f : Nat → Int32} {n m : Nat} {v : Int32} (h : m = 0) : FEDX f f n m v := ⟨fun _ _ => rfl, fun i hi => absurd hi (by omega)⟩
theorem FEDX_s {f g g' : Nat → Int32} {n m : Nat} {v s z : Int32} (h : FEDX f g n m v) (hs : s.toInt = 8 * (m : Int)) (hz : z = (v >>> (s &&& 31)) &&& 255) (hg : g' = upd g (n + m) z) : FEDX f g' n (m + 1) v := by
  subst hg
  refine ⟨fun k hk => by rw [uq_ne (by omega)]; exact h.1 k hk, fun i hi => ?_⟩
  by_cases q : i = m
  · subst q; exact ⟨s, hs, by rw [uq_at]; exact hz⟩
  · rw [uq_ne (by omega)]; exact h.2 i (by omega)
/-- a fault, as rule() answers it; a good text -/
def RAF (sn : Nat) (sf f : Nat → Int32) (n : Nat) (r : Int) : Prop := ∃ v : Int, 0 ≤ v ∧ r = -100 - v ∧ ∃ F, RUN (KC sn sf f n) (tkV f n) (tkS f n) (tkE f n) F true true [] [] 0 (v, [])
def RAG (sn : Nat) (sf f : Nat → Int32) (n : Nat) (O : List (Int × Int)) : Prop := ∃ F, RUN (KC sn sf f n) (tkV f n) (tkS f n) (tkE f n) F true true [] [] 0 (-1, O)
theorem RAF_of {sn : Nat} {sf f : Nat → Int32} {n : Nat} {r r2 : Int} {O : List (Int × Int)} (h : RAP sn sf f n r O) (hr : r ≠ -1) (h2 : r2 = -100 - r) : RAF sn sf f n r2 := by
  rcases h with ⟨a, b⟩ | ⟨a, -⟩
  · exact ⟨r, a, h2, b⟩
  · exact absurd a hr
theorem RAG_of {sn : Nat} {sf f : Nat → Int32} {n : Nat} {r : Int} {O : List (Int × Int)} (h : RAP sn sf f n r O) (hr : r = -1) : RAG sn sf f n O := by
  rcases h with ⟨a, -⟩ | ⟨-, b⟩
  · omega
  · rw [hr] at b; exact b
