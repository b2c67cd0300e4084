/-! ===== what a rule says ===== -/
def bthF (t : Int) (a b : Int32) : Int32 := if t = 10 then (if a.toInt ≠ 0 ∨ b.toInt ≠ 0 then 1 else 0) else if t = 20 then (if a.toInt ≠ 0 ∧ b.toInt ≠ 0 then 1 else 0) else if t = 40 then (if a.toInt < b.toInt then 1 else 0) else if t = 41 then (if a.toInt = b.toInt then 1 else 0) else if t = 42 then (if b.toInt < a.toInt then 1 else 0) else if t = 50 then a + b else if t = 51 then a - b else if t = 60 then a * b else if b.toInt = 0 then 0 else if b.toInt = -1 then -a else a / b
def unL (t : Int) (a : Int32) : Int32 := if t = 30 then (if a.toInt = 0 then 1 else 0) else if t = 71 ∧ 0 ≤ a.toInt then a else -a
def un1 (t : Int) : List Int32 → List Int32
  | [] => []
  | a :: s => unL t a :: s
def bi2 (t : Int) : List Int32 → List Int32
  | b :: a :: s => bthF t a b :: s
  | s => s
def stL (nm : Nat → Int32) (x : Int × Int) (s : List Int32) : List Int32 := if x.1 = 1 then Int32.ofInt x.2 :: s else if 100 ≤ x.1 then nm (x.1 - 100).toNat :: s else if x.1 = 30 ∨ x.1 = 70 ∨ x.1 = 71 then un1 x.1 s else bi2 x.1 s
def evL (nm : Nat → Int32) : List (Int × Int) → List Int32
  | [] => []
  | x :: O => stL nm x (evL nm O)
def stkI (f : Nat → Int32) : Nat → List Int32
  | 0 => []
  | n + 1 => f n :: stkI f n
theorem stkI_len (f : Nat → Int32) : ∀ n : Nat, (stkI f n).length = n
  | 0 => rfl
  | n + 1 => by unfold stkI; rw [List.length_cons, stkI_len f n]
theorem stkI_congr {f g : Nat → Int32} : ∀ n : Nat, (∀ i, i < n → f i = g i) → stkI f n = stkI g n
  | 0, _ => rfl
  | n + 1, h => by unfold stkI; rw [h n (by omega), stkI_congr n (fun i hi => h i (by omega))]
theorem stkI_upd {f : Nat → Int32} {n : Nat} {x : Int32} : stkI (upd f n x) (n + 1) = x :: stkI f n := by
  show upd f n x n :: stkI (upd f n x) n = _
  rw [uq_at, stkI_congr n (fun i hi => uq_ne (by omega))]
section SAYS
variable {f45 f36 f37 nm : Nat → Int32} {B : Nat} {n k what num n' k' i j y z a b : Int32}
theorem oM_step (hk : (B : Int) ≤ k.toInt) (hk' : k'.toInt = k.toInt + 1) : oM f36 f37 B (k'.toNatClampNeg - B) = ((f36 k.toNatClampNeg).toInt, if (f36 k.toNatClampNeg).toInt = 1 then (f37 k.toNatClampNeg).toInt else 0) :: oM f36 f37 B (k.toNatClampNeg - B) := by
  have h1 := i_clamp0 (x := k) (by omega)
  have h2 := i_clamp0 (x := k') (by omega)
  rw [show k'.toNatClampNeg - B = (k.toNatClampNeg - B) + 1 by omega]
  show ((f36 (B + (k.toNatClampNeg - B))).toInt, if (f36 (B + (k.toNatClampNeg - B))).toInt = 1 then (f37 (B + (k.toNatClampNeg - B))).toInt else 0) :: _ = _
  rw [show B + (k.toNatClampNeg - B) = k.toNatClampNeg by omega]
theorem SY_num (inv : stkI f45 n.toNatClampNeg = evL nm (oM f36 f37 B (k.toNatClampNeg - B))) (hk : (B : Int) ≤ k.toInt) (hk' : k'.toInt = k.toInt + 1) (hw : what = f36 k.toNatClampNeg) (h1 : what.toInt = 1) (hv : y = f37 k.toNatClampNeg) (hn : 0 ≤ n.toInt) (hn' : n'.toInt = n.toInt + 1) : stkI (upd f45 n.toNatClampNeg y) n'.toNatClampNeg = evL nm (oM f36 f37 B (k'.toNatClampNeg - B)) := by
  rw [oM_step hk hk', clampS hn hn', stkI_upd, inv, ← hw, if_pos h1]
  show _ = stL nm (what.toInt, _) _
  unfold stL
  rw [if_pos h1, ← hv]
  show _ = Int32.ofInt y.toInt :: _
  rw [Int32.ofInt_toInt]
theorem SY_nam (inv : stkI f45 n.toNatClampNeg = evL nm (oM f36 f37 B (k.toNatClampNeg - B))) (hk : (B : Int) ≤ k.toInt) (hk' : k'.toInt = k.toInt + 1) (hw : what = f36 k.toNatClampNeg) (h1 : 100 ≤ what.toInt) (hi : i.toInt = what.toInt - 100) (hv : y = nm i.toNatClampNeg) (hn : 0 ≤ n.toInt) (hn' : n'.toInt = n.toInt + 1) : stkI (upd f45 n.toNatClampNeg y) n'.toNatClampNeg = evL nm (oM f36 f37 B (k'.toNatClampNeg - B)) := by
  have c := i_clamp0 (x := i) (by omega)
  rw [oM_step hk hk', clampS hn hn', stkI_upd, inv, ← hw]
  show _ = stL nm (what.toInt, _) _
  unfold stL
  rw [if_neg (by show ¬ what.toInt = 1; omega), if_pos (by exact h1), hv]
  show _ = nm (what.toInt - 100).toNat :: _
  rw [show (what.toInt - 100).toNat = i.toNatClampNeg by omega]
theorem stk_1 {f : Nat → Int32} {n i : Int32} (h : 1 ≤ n.toInt) (hi : i.toInt = n.toInt - 1) : stkI f n.toNatClampNeg = f i.toNatClampNeg :: stkI f i.toNatClampNeg := by
  have h1 := i_clamp0 (x := n) (by omega)
  have h2 := i_clamp0 (x := i) (by omega)
  rw [show n.toNatClampNeg = i.toNatClampNeg + 1 by omega]
  rfl
theorem SY_un (inv : stkI f45 n.toNatClampNeg = evL nm (oM f36 f37 B (k.toNatClampNeg - B))) (hk : (B : Int) ≤ k.toInt) (hk' : k'.toInt = k.toInt + 1) (hw : what = f36 k.toNatClampNeg) (h1 : what.toInt = 30 ∨ what.toInt = 70 ∨ what.toInt = 71) (hn : 1 ≤ n.toInt) (hi : i.toInt = n.toInt - 1) (hj : j.toInt = n.toInt - 1) (hz : z = f45 j.toNatClampNeg) (hy : y = unL what.toInt z) : stkI (upd f45 i.toNatClampNeg y) n.toNatClampNeg = evL nm (oM f36 f37 B (k'.toNatClampNeg - B)) := by
  have ej : j = i := i_eq.mpr (by omega)
  subst ej
  rw [oM_step hk hk', stk_1 hn hi, uq_at, stkI_congr (f := upd f45 j.toNatClampNeg y) (g := f45) j.toNatClampNeg (fun x hx => uq_ne (by omega)), ← hw]
  show _ = stL nm (what.toInt, _) (evL nm _)
  rw [← inv, stk_1 hn hi, ← hz]
  unfold stL
  rw [if_neg (by show ¬ what.toInt = 1; omega), if_neg (by show ¬ 100 ≤ what.toInt; omega), if_pos (by exact h1), hy]
  rfl
theorem SY_bin (inv : stkI f45 n.toNatClampNeg = evL nm (oM f36 f37 B (k.toNatClampNeg - B))) (hk : (B : Int) ≤ k.toInt) (hk' : k'.toInt = k.toInt + 1) (hw : what = f36 k.toNatClampNeg) (h1 : what.toInt ≠ 1 ∧ ¬ 100 ≤ what.toInt ∧ what.toInt ≠ 30 ∧ what.toInt ≠ 70 ∧ what.toInt ≠ 71) (hn : 2 ≤ n.toInt) (hn' : n'.toInt = n.toInt - 1) (hi : i.toInt = n'.toInt - 1) (hj : j.toInt = n'.toInt - 1) (ha : a = f45 j.toNatClampNeg) (hb : b = f45 n'.toNatClampNeg) (hy : y = bthF what.toInt a b) : stkI (upd f45 i.toNatClampNeg y) n'.toNatClampNeg = evL nm (oM f36 f37 B (k'.toNatClampNeg - B)) := by
  have ej : j = i := i_eq.mpr (by omega)
  subst ej
  rw [oM_step hk hk', stk_1 (n := n') (i := j) (by omega) hi, uq_at, stkI_congr (f := upd f45 j.toNatClampNeg y) (g := f45) j.toNatClampNeg (fun x hx => uq_ne (by omega)), ← hw]
  show _ = stL nm (what.toInt, _) (evL nm _)
  rw [← inv, stk_1 (i := n') (by omega) hn', stk_1 (n := n') (i := j) (by omega) hi, ← ha, ← hb]
  unfold stL
  rw [if_neg (by exact h1.1), if_neg (by exact h1.2.1), if_neg (by show ¬ (what.toInt = 30 ∨ what.toInt = 70 ∨ what.toInt = 71); omega), hy]
  rfl
end SAYS
/-- what it says: the lowest of the pile -/
def SAYP (nm f36 f37 : Nat → Int32) (B : Nat) (sz r : Int32) : Prop := ∃ (f : Nat → Int32) (n : Nat), stkI f n = evL nm (oM f36 f37 B sz.toNatClampNeg) ∧ r = f 0
/- the class's evaluation -/
def wo2 (sg : Int) (x y : Int32) : Int32 := if sg = 4 then (if x.toInt ≠ 0 ∨ y.toInt ≠ 0 then 1 else 0) else if sg = 5 then (if x.toInt ≠ 0 ∧ y.toInt ≠ 0 then 1 else 0) else if sg = 60 then (if x.toInt < y.toInt then 1 else 0) else if sg = 61 then (if x.toInt = y.toInt then 1 else 0) else if sg = 62 then (if y.toInt < x.toInt then 1 else 0) else if sg = 43 then x + y else if sg = 45 then x - y else if sg = 42 then x * y else if y.toInt = 0 then 0 else x / y
def wo1 (sg : Int) (x : Int32) : Int32 := if sg = 6 then (if x.toInt = 0 then 1 else 0) else if sg = 7 then (if x.toInt < 0 then -x else x) else -x
def evC1 (sg : Int) : List Int32 → List Int32
  | [] => []
  | a :: s => wo1 sg a :: s
def evC2 (sg : Int) : List Int32 → List Int32
  | b :: a :: s => wo2 sg a b :: s
  | s => s
def stC2 (nx : Nat → Int32) (sg v : Int32) (s : List Int32) : List Int32 :=
  if sg.toInt = 2 ∧ (s.length : Int) < 120 then v :: s else if sg.toInt = 3 ∧ (s.length : Int) < 120 ∧ 0 ≤ v.toInt ∧ v.toInt < 9 then nx v.toNatClampNeg :: s else if (sg.toInt = 6 ∨ sg.toInt = 7 ∨ sg.toInt = 8) ∧ 1 ≤ (s.length : Int) then evC1 sg.toInt s else if 2 ≤ (s.length : Int) then evC2 sg.toInt s else s
def evC (sg va nx : Nat → Int32) : Nat → List Int32
  | 0 => []
  | i + 1 => stC2 nx (sg i) (va i) (evC sg va nx i)
theorem evC_s (sg va nx : Nat → Int32) (i : Nat) : evC sg va nx (i + 1) = stC2 nx (sg i) (va i) (evC sg va nx i) := rfl
theorem div_m1 (a b : Int32) (h : b.toInt = -1) : a / b = -a := by
  refine i_eq.mpr ?_
  rw [Int32.toInt_div, Int32.toInt_neg, h]
  congr 1
  rw [show (-1 : Int) = -(1 : Int) from rfl, Int.tdiv_neg, Int.tdiv_one]
theorem wo2_eq {sg : Int} {x y : Int32} (h : sg = 4 ∨ sg = 5 ∨ sg = 60 ∨ sg = 61 ∨ sg = 62 ∨ sg = 43 ∨ sg = 45 ∨ sg = 42 ∨ sg = 47) : wo2 sg x y = bthF (cop sg) x y := by
  rcases h with h | h | h | h | h | h | h | h | h <;> subst h
  all_goals first
    | rfl
    | (show (if y.toInt = 0 then (0 : Int32) else x / y) = (if y.toInt = 0 then 0 else if y.toInt = -1 then -x else x / y)
       by_cases c : y.toInt = 0
       · rw [if_pos c, if_pos c]
       · rw [if_neg c, if_neg c]
         by_cases d : y.toInt = -1
         · rw [if_pos d, div_m1 x y d]
         · rw [if_neg d])
theorem wo1_eq {sg : Int} {x : Int32} (h : sg = 6 ∨ sg = 7 ∨ sg = 8) : wo1 sg x = unL (cop sg) x := by
  rcases h with h | h | h <;> subst h
  · rfl
  · show (if x.toInt < 0 then -x else x) = (if (71 : Int) = 71 ∧ 0 ≤ x.toInt then x else -x)
    by_cases c : x.toInt < 0
    · rw [if_pos c, if_neg (by omega)]
    · rw [if_neg c, if_pos (by omega)]
  · rfl
/- heights of a text that was read -/
def dlO (t : Int) : Int := if t = 1 ∨ 100 ≤ t then 1 else if t = 30 ∨ t = 70 ∨ t = 71 then 0 else -1
def hO : List (Int × Int) → Int
  | [] => 0
  | x :: O => hO O + dlO x.1
def okO (N : Int → Prop) : List (Int × Int) → Prop
  | [] => True
  | x :: O => okO N O ∧ ((x.1 = 30 ∨ x.1 = 70 ∨ x.1 = 71) → 1 ≤ hO O) ∧ (¬ (x.1 = 1 ∨ 100 ≤ x.1 ∨ x.1 = 30 ∨ x.1 = 70 ∨ x.1 = 71) → 2 ≤ hO O) ∧ (100 ≤ x.1 → N (x.1 - 100))
theorem evL_len {nm : Nat → Int32} {N : Int → Prop} : ∀ O : List (Int × Int), okO N O → ((evL nm O).length : Int) = hO O
  | [], _ => rfl
  | x :: O, h => by
    have ih := evL_len (nm := nm) O h.1
    show ((stL nm x (evL nm O)).length : Int) = hO O + dlO x.1
    unfold stL dlO
    by_cases c1 : x.1 = 1
    · rw [if_pos c1, if_pos (Or.inl c1), List.length_cons]; omega
    · rw [if_neg c1]
      by_cases c2 : 100 ≤ x.1
      · rw [if_pos c2, if_pos (Or.inr c2), List.length_cons]; omega
      · rw [if_neg c2, if_neg (show ¬ (x.1 = 1 ∨ 100 ≤ x.1) by omega)]
        by_cases c3 : x.1 = 30 ∨ x.1 = 70 ∨ x.1 = 71
        · rw [if_pos c3, if_pos c3]
          have h1 := h.2.1 c3
          cases e : evL nm O with
          | nil => rw [e] at ih; have : hO O = 0 := ih.symm; omega
          | cons a s => rw [e] at ih; show (((unL x.1 a :: s).length : Nat) : Int) = _; rw [List.length_cons] at ih ⊢; omega
        · rw [if_neg c3, if_neg c3]
          have h2 := h.2.2.1 (by omega)
          cases e : evL nm O with
          | nil => rw [e] at ih; have : hO O = 0 := ih.symm; omega
          | cons a s =>
            cases s with
            | nil => rw [e] at ih; have : (1 : Int) = hO O := ih; omega
            | cons b s => rw [e] at ih; show (((bthF x.1 b a :: s).length : Nat) : Int) = _; rw [List.length_cons, List.length_cons] at ih; rw [List.length_cons]; omega
theorem evL_congr {nm nm' : Nat → Int32} {N : Int → Prop} (hn : ∀ i : Nat, N i → nm i = nm' i) : ∀ O : List (Int × Int), okO N O → evL nm O = evL nm' O
  | [], _ => rfl
  | x :: O, h => by
    show stL nm x (evL nm O) = stL nm' x (evL nm' O)
    rw [evL_congr hn O h.1]
    unfold stL
    by_cases c1 : x.1 = 1
    · rw [if_pos c1, if_pos c1]
    · rw [if_neg c1, if_neg c1]
      by_cases c2 : 100 ≤ x.1
      · have h3 := h.2.2.2 c2
        rw [if_pos c2, if_pos c2, hn (x.1 - 100).toNat (by rw [show (((x.1 - 100).toNat : Nat) : Int) = x.1 - 100 by omega]; exact h3)]
      · rw [if_neg c2, if_neg c2]
/-- the kinds that are laid -/
def VT (t : Int) : Prop := t = 1 ∨ 100 ≤ t ∨ t = 10 ∨ t = 20 ∨ t = 30 ∨ t = 40 ∨ t = 41 ∨ t = 42 ∨ t = 50 ∨ t = 51 ∨ t = 60 ∨ t = 61 ∨ t = 70 ∨ t = 71
theorem popK_Q {Q : Int → Prop} {k : Int} (hk : 1 ≤ k) : ∀ (S : List Int) (O : List (Int × Int)), (∀ x ∈ S, x = 5 ∨ Q x) → (∀ y ∈ O, Q y.1) → (∀ x ∈ (popK k S O).1, x = 5 ∨ Q x) ∧ ∀ y ∈ (popK k S O).2, Q y.1
  | [], O, _, hO => ⟨fun x hx => absurd hx (by simp [popK]), hO⟩
  | x :: S, O, hS, hO => by
    unfold popK
    by_cases c : k ≤ tgt x
    · rw [if_pos c]
      refine popK_Q hk S _ (fun y hy => hS y (List.mem_cons_of_mem _ hy)) (fun y hy => ?_)
      rcases List.mem_cons.mp hy with q | q
      · rw [q]
        rcases hS x List.mem_cons_self with h | h
        · rw [h] at c; exact absurd c (by show ¬ k ≤ tgt 5; have : tgt 5 = 0 := by decide
                                          omega)
        · exact h
      · exact hO y q
    · rw [if_neg c]; exact ⟨hS, hO⟩
theorem RUN_all {K V : Nat → Int} {s e : Nat → Nat} {Q : Int → Prop} (hQ : ∀ a, K a = 1 ∨ 100 ≤ K a ∨ (10 ≤ K a ∧ K a < 70 ∧ K a ≠ 30) → Q (K a)) (h3 : Q 30) (h7 : Q 70) (h1 : Q 71) : ∀ (F : Nat) (w m : Bool) (S : List Int) (O : List (Int × Int)) (a : Nat) (res : Int × List (Int × Int)), (∀ x ∈ S, x = 5 ∨ Q x) → (∀ y ∈ O, Q y.1) → RUN K V s e F w m S O a res → ∀ y ∈ res.2, Q y.1
  | 0, _, _, _, _, _, _, _, _, h => h.elim
  | F + 1, w, m, S, O, a, res, hS, hO, h => by
    have ih := fun w m S O a res hS hO hr => RUN_all (K := K) (V := V) (s := s) (e := e) hQ h3 h7 h1 F w m S O a res hS hO hr
    have nil : ∀ {v : Int}, res = (v, []) → ∀ y ∈ res.2, Q y.1 := fun e y hy => by rw [e] at hy; exact absurd hy (by simp)
    have hp := fun k hk => popK_Q (Q := Q) (k := k) hk S O hS hO
    unfold RUN at h
    split at h
    · split at h
      · rename_i c2
        split at h
        · exact nil h
        · refine ih _ _ _ _ _ _ (fun x hx => ?_) hO h
          rcases List.mem_cons.mp hx with q | q
          · rw [q]
            rcases c2 with c | c | c | c
            · rw [if_neg (by omega), c.1]; exact Or.inr h3
            · rw [if_pos c]; exact Or.inr h7
            · rw [if_neg (by omega), c]; exact Or.inl rfl
            · rw [if_neg (by omega), c]; exact Or.inr h1
          · exact hS x q
      · split at h
        · rename_i c3
          refine ih _ _ _ _ _ _ hS (fun y hy => ?_) h
          rcases List.mem_cons.mp hy with q | q
          · rw [q]; exact hQ a (by omega)
          · exact hO y q
        · exact nil h
    · split at h
      · split at h
        · exact nil h
        · refine ih _ _ _ _ _ _ (fun x hx => (hp 1 (by omega)).1 x (List.mem_of_mem_tail hx)) (hp 1 (by omega)).2 h
      · split at h
        · split at h
          · rw [h]; exact (hp 1 (by omega)).2
          · exact nil h
        · rename_i c0
          split at h
          · exact nil h
          · rename_i c1
            split at h
            · exact nil h
            · have hr : 1 ≤ rlT (K a) := by unfold rlT; split <;> omega
              refine ih _ _ _ _ _ _ (fun x hx => ?_) (hp _ hr).2 h
              rcases List.mem_cons.mp hx with q | q
              · rw [q]; exact Or.inr (hQ a (by omega))
              · exact (hp _ hr).1 x q
theorem hO_oM (f g : Nat → Int32) (b : Nat) : ∀ k : Nat, hO (oM f g b k) = hgt f b k
  | 0 => rfl
  | k + 1 => by
    show hO (oM f g b k) + dlO (f (b + k)).toInt = hgt f b k + dl (f (b + k))
    rw [hO_oM f g b k]; rfl
theorem okO_oM {f g : Nat → Int32} {b : Nat} {N : Int → Prop} : ∀ k : Nat, WFc f b k → (∀ y ∈ oM f g b k, 100 ≤ y.1 → N (y.1 - 100)) → okO N (oM f g b k)
  | 0, _, _ => trivial
  | k + 1, h, hN => by
    have ih := okO_oM (g := g) (N := N) k (fun j hj => h j (by omega)) (fun y hy => hN y (List.mem_cons_of_mem _ hy))
    have h0 := h k (by omega)
    refine ⟨ih, fun c => ?_, fun c => ?_, fun c => hN _ List.mem_cons_self c⟩
    · rw [hO_oM]
      rcases h0 with q | q | q
      · exfalso; have c' : (f (b + k)).toInt = 30 ∨ (f (b + k)).toInt = 70 ∨ (f (b + k)).toInt = 71 := c; omega
      · exact q.2
      · omega
    · rw [hO_oM]
      have c' : ¬ ((f (b + k)).toInt = 1 ∨ 100 ≤ (f (b + k)).toInt ∨ (f (b + k)).toInt = 30 ∨ (f (b + k)).toInt = 70 ∨ (f (b + k)).toInt = 71) := c
      rcases h0 with q | q | q
      · omega
      · omega
      · exact q.2.2
theorem hO_le : ∀ O : List (Int × Int), hO O ≤ (O.length : Int)
  | [] => Int.le_refl 0
  | x :: O => by
    have ih := hO_le O
    show hO O + dlO x.1 ≤ ((x :: O).length : Int)
    rw [List.length_cons]
    unfold dlO
    split
    · omega
    · split <;> omega
theorem oC_len (nb : Int) (sg va : Nat → Int32) : ∀ k : Nat, (oC nb sg va k).length = k
  | 0 => rfl
  | k + 1 => by unfold oC; rw [List.length_cons, oC_len nb sg va k]
theorem cop_v {x : Int} (h : VT (cop x)) : x = 4 ∨ x = 5 ∨ x = 6 ∨ x = 7 ∨ x = 8 ∨ x = 60 ∨ x = 61 ∨ x = 62 ∨ x = 43 ∨ x = 45 ∨ x = 42 ∨ x = 47 := by
  by_cases c : x = 4 ∨ x = 5 ∨ x = 6 ∨ x = 7 ∨ x = 8 ∨ x = 60 ∨ x = 61 ∨ x = 62 ∨ x = 43 ∨ x = 45 ∨ x = 42 ∨ x = 47
  · exact c
  · have : cop x = 0 := by unfold cop; omega
    rw [this] at h
    unfold VT at h
    omega
/-- the class's evaluation of the same text -/
theorem evC_eq {sg va nx nm : Nat → Int32} {nb : Int} {N : Int → Prop} (hnb : 0 ≤ nb) (hn : ∀ i : Nat, N i → nb ≤ i ∧ (i : Int) - nb < 9 ∧ nx ((i : Int) - nb).toNat = nm i) : ∀ k : Nat, k ≤ 120 → okO N (oC nb sg va k) → (∀ y ∈ oC nb sg va k, VT y.1) → evC sg va nx k = evL nm (oC nb sg va k)
  | 0, _, _, _ => rfl
  | k + 1, hk, h, hv => by
    have ih := evC_eq (nx := nx) (nm := nm) hnb hn k (by omega) h.1 (fun y hy => hv y (List.mem_cons_of_mem _ hy))
    have hl := evL_len (nm := nm) (N := N) (oC nb sg va k) h.1
    have hle := hO_le (oC nb sg va k)
    rw [oC_len] at hle
    have hv0 : VT (stC nb (sg k).toInt (va k).toInt).1 := hv _ List.mem_cons_self
    have hu : ((stC nb (sg k).toInt (va k).toInt).1 = 30 ∨ (stC nb (sg k).toInt (va k).toInt).1 = 70 ∨ (stC nb (sg k).toInt (va k).toInt).1 = 71) → 1 ≤ hO (oC nb sg va k) := h.2.1
    have hb : ¬ ((stC nb (sg k).toInt (va k).toInt).1 = 1 ∨ 100 ≤ (stC nb (sg k).toInt (va k).toInt).1 ∨ (stC nb (sg k).toInt (va k).toInt).1 = 30 ∨ (stC nb (sg k).toInt (va k).toInt).1 = 70 ∨ (stC nb (sg k).toInt (va k).toInt).1 = 71) → 2 ≤ hO (oC nb sg va k) := h.2.2.1
    have hN : 100 ≤ (stC nb (sg k).toInt (va k).toInt).1 → N ((stC nb (sg k).toInt (va k).toInt).1 - 100) := h.2.2.2
    rw [evC_s, ih]
    show stC2 nx (sg k) (va k) (evL nm (oC nb sg va k)) = stL nm (stC nb (sg k).toInt (va k).toInt) (evL nm (oC nb sg va k))
    unfold stC2
    by_cases c2 : (sg k).toInt = 2
    · rw [if_pos ⟨c2, by omega⟩]
      have e : stC nb (sg k).toInt (va k).toInt = (1, (va k).toInt) := by unfold stC; rw [if_pos c2]
      rw [e]
      show _ = (if (1 : Int) = 1 then Int32.ofInt (va k).toInt :: evL nm (oC nb sg va k) else _)
      rw [if_pos rfl, Int32.ofInt_toInt]
    · rw [if_neg (fun z => c2 z.1)]
      by_cases c3 : (sg k).toInt = 3
      · by_cases c4 : 0 ≤ (va k).toInt
        · have e : stC nb (sg k).toInt (va k).toInt = (100 + nb + (va k).toInt, 0) := by unfold stC; rw [if_neg c2, if_pos c3, if_pos c4]
          rw [e] at hN ⊢
          have hN' : N (100 + nb + (va k).toInt - 100) := hN (by show 100 ≤ 100 + nb + (va k).toInt; omega)
          obtain ⟨i, hi⟩ : ∃ i : Nat, (i : Int) = 100 + nb + (va k).toInt - 100 := ⟨(100 + nb + (va k).toInt - 100).toNat, by omega⟩
          rw [← hi] at hN'
          obtain ⟨n1, n2, n3⟩ := hn i hN'
          have hc := i_clamp0 c4
          rw [if_pos ⟨c3, by omega, by omega, by omega⟩]
          show _ = (if (100 + nb + (va k).toInt : Int) = 1 then _ else if 100 ≤ 100 + nb + (va k).toInt then nm (100 + nb + (va k).toInt - 100).toNat :: evL nm (oC nb sg va k) else _)
          rw [if_neg (by omega), if_pos (by omega), show (100 + nb + (va k).toInt - 100).toNat = i by omega, ← n3, show ((i : Int) - nb).toNat = (va k).toNatClampNeg by omega]
        · exfalso
          have e : stC nb (sg k).toInt (va k).toInt = (0, 0) := by unfold stC; rw [if_neg c2, if_pos c3, if_neg c4]
          rw [e] at hv0
          exact absurd hv0 (by show ¬ VT 0; unfold VT; decide)
      · rw [if_neg (fun z => c3 z.1)]
        have e : stC nb (sg k).toInt (va k).toInt = (cop (sg k).toInt, 0) := by unfold stC; rw [if_neg c2, if_neg c3]
        rw [e] at hu hb hv0 ⊢
        have hk9 := cop_v hv0
        show _ = (if cop (sg k).toInt = 1 then _ else if 100 ≤ cop (sg k).toInt then _ else if cop (sg k).toInt = 30 ∨ cop (sg k).toInt = 70 ∨ cop (sg k).toInt = 71 then un1 (cop (sg k).toInt) (evL nm (oC nb sg va k)) else bi2 (cop (sg k).toInt) (evL nm (oC nb sg va k)))
        have hr : cop (sg k).toInt ≠ 1 ∧ cop (sg k).toInt < 100 := by unfold cop; omega
        rw [if_neg hr.1, if_neg (show ¬ 100 ≤ cop (sg k).toInt by omega)]
        by_cases c5 : (sg k).toInt = 6 ∨ (sg k).toInt = 7 ∨ (sg k).toInt = 8
        · have hu2 : cop (sg k).toInt = 30 ∨ cop (sg k).toInt = 70 ∨ cop (sg k).toInt = 71 := by rcases c5 with z | z | z <;> rw [z] <;> decide
          have h1 : 1 ≤ hO (oC nb sg va k) := hu hu2
          rw [if_pos ⟨c5, by omega⟩, if_pos hu2]
          cases q : evL nm (oC nb sg va k) with
          | nil => rfl
          | cons a s => show wo1 (sg k).toInt a :: s = unL (cop (sg k).toInt) a :: s; rw [wo1_eq c5]
        · have hu2 : ¬ (cop (sg k).toInt = 30 ∨ cop (sg k).toInt = 70 ∨ cop (sg k).toInt = 71) := by unfold cop; omega
          have h2 : 2 ≤ hO (oC nb sg va k) := hb (by show ¬ (cop (sg k).toInt = 1 ∨ 100 ≤ cop (sg k).toInt ∨ cop (sg k).toInt = 30 ∨ cop (sg k).toInt = 70 ∨ cop (sg k).toInt = 71); omega)
          rw [if_neg (fun z => c5 z.1), if_pos (by omega), if_neg hu2]
          have h9 : (sg k).toInt = 4 ∨ (sg k).toInt = 5 ∨ (sg k).toInt = 60 ∨ (sg k).toInt = 61 ∨ (sg k).toInt = 62 ∨ (sg k).toInt = 43 ∨ (sg k).toInt = 45 ∨ (sg k).toInt = 42 ∨ (sg k).toInt = 47 := by omega
          cases q : evL nm (oC nb sg va k) with
          | nil => rfl
          | cons b s =>
            cases s with
            | nil => rfl
            | cons a s => show wo2 (sg k).toInt a b :: s = bthF (cop (sg k).toInt) a b :: s; rw [wo2_eq h9]
/- trials: names of a stretch of rates -/
def jmI (v : Nat → Int32) : Nat → Int
  | 0 => 0
  | k + 1 => if k = 0 then jmI v k else if jmI v k < (szF (v k - v (k - 1))).toInt then (szF (v k - v (k - 1))).toInt else jmI v k
theorem jmI_s (v : Nat → Int32) (k : Nat) : jmI v (k + 1) = if k = 0 then jmI v k else if jmI v k < (szF (v k - v (k - 1))).toInt then (szF (v k - v (k - 1))).toInt else jmI v k := rfl
theorem jmI_congr {v w : Nat → Int32} : ∀ n : Nat, (∀ i, i < n → v i = w i) → jmI v n = jmI w n
  | 0, _ => rfl
  | n + 1, h => by
    rw [jmI_s, jmI_s, jmI_congr n (fun i hi => h i (by omega))]
    by_cases c : n = 0
    · rw [if_pos c, if_pos c]
    · rw [if_neg c, if_neg c, h n (by omega), h (n - 1) (by omega)]
/-- the coldest and the warmest; nw: no warmth; a, b: at first -/
def cwJ (wm : Int32 → Int32) (nw a b : Int) (d : Nat → Int32) : Nat → Int × Int
  | 0 => (a, b)
  | k + 1 => if (wm (d k)).toInt = nw then cwJ wm nw a b d k else ((if (wm (d k)).toInt < (cwJ wm nw a b d k).1 then (wm (d k)).toInt else (cwJ wm nw a b d k).1), (if (cwJ wm nw a b d k).2 < (wm (d k)).toInt then (wm (d k)).toInt else (cwJ wm nw a b d k).2))
theorem cwJ_s (wm : Int32 → Int32) (nw a b : Int) (d : Nat → Int32) (k : Nat) : cwJ wm nw a b d (k + 1) = if (wm (d k)).toInt = nw then cwJ wm nw a b d k else ((if (wm (d k)).toInt < (cwJ wm nw a b d k).1 then (wm (d k)).toInt else (cwJ wm nw a b d k).1), (if (cwJ wm nw a b d k).2 < (wm (d k)).toInt then (wm (d k)).toInt else (cwJ wm nw a b d k).2)) := rfl
theorem cwJ_congr {wm : Int32 → Int32} {nw a b : Int} {d e : Nat → Int32} : ∀ n : Nat, (∀ i, i < n → d i = e i) → cwJ wm nw a b d n = cwJ wm nw a b e n
  | 0, _ => rfl
  | n + 1, h => by rw [cwJ_s, cwJ_s, cwJ_congr n (fun i hi => h i (by omega)), h n (by omega)]
/-- both sides' warmths: the class's begin within, the reference's beyond -/
theorem cw_both {wm wx : Int32 → Int32} {nw nx : Int} {d : Nat → Int32} : ∀ n : Nat, (∀ i, i < n → (((wm (d i)).toInt = nw ∧ (wx (d i)).toInt = nx) ∨ ((wm (d i)).toInt ≠ nw ∧ (wx (d i)).toInt = (wm (d i)).toInt ∧ (wx (d i)).toInt ≠ nx ∧ -50 ≤ (wm (d i)).toInt ∧ (wm (d i)).toInt ≤ 50))) → ((cwJ wm nw 100 (-100) d n = (100, -100) ∧ cwJ wx nx 50 (-50) d n = (50, -50)) ∨ (cwJ wm nw 100 (-100) d n = cwJ wx nx 50 (-50) d n ∧ -50 ≤ (cwJ wm nw 100 (-100) d n).1 ∧ (cwJ wm nw 100 (-100) d n).1 ≤ (cwJ wm nw 100 (-100) d n).2 ∧ (cwJ wm nw 100 (-100) d n).2 ≤ 50))
  | 0, _ => Or.inl ⟨rfl, rfl⟩
  | n + 1, h => by
    have ih := cw_both (wm := wm) (wx := wx) (nw := nw) (nx := nx) (d := d) n (fun i hi => h i (by omega))
    have h0 := h n (by omega)
    rw [cwJ_s, cwJ_s]
    rcases h0 with ⟨a, b⟩ | ⟨a, b, c, l, u⟩
    · rw [if_pos a, if_pos b]; exact ih
    · rw [if_neg a, if_neg c, b]
      rcases ih with ⟨e1, e2⟩ | ⟨e1, e2, e3, e4⟩
      · rw [e1, e2]
        right
        dsimp only
        rw [if_pos (by omega), if_pos (by omega)]
        refine ⟨?_, by omega, by omega, by omega⟩
        by_cases q : (wm (d n)).toInt < 50
        · rw [if_pos q]
          by_cases q2 : -50 < (wm (d n)).toInt
          · rw [if_pos q2]
          · rw [if_neg q2, show (wm (d n)).toInt = -50 by omega]
        · rw [if_neg q, if_pos (by omega), show (wm (d n)).toInt = 50 by omega]
      · rw [← e1]
        right
        refine ⟨rfl, ?_, ?_, ?_⟩ <;> dsimp only <;> (repeat' split) <;> omega
/-- the names of a trial, of the list of its rates; ws: the span of warmths -/
def NMF (l : List (Int32 × Int32)) (len ws : Int32) : Nat → Int32
  | 0 => Int32.ofInt l.length
  | 1 => Int32.ofInt (minF (vL l) l.length)
  | 2 => Int32.ofInt (maxF (vL l) l.length)
  | 3 => Int32.ofInt (maxF (vL l) l.length) - Int32.ofInt (minF (vL l) l.length)
  | 4 => len - Int32.ofInt l.length
  | 5 => Int32.ofInt (jmI (vL l) l.length)
  | 6 => vL l (l.length - 1) - vL l 0
  | 7 => sumI (vL l) l.length
  | _ => ws
/-- the same, as the reference sorts them -/
def NMM (l : List (Int32 × Int32)) (len ws : Int32) : Nat → Int32
  | 0 => Int32.ofInt l.length
  | 1 => srtA (vL l) (fun _ => 0) l.length 0
  | 2 => srtA (vL l) (fun _ => 0) l.length (l.length - 1)
  | 3 => srtA (vL l) (fun _ => 0) l.length (l.length - 1) - srtA (vL l) (fun _ => 0) l.length 0
  | 4 => len - Int32.ofInt l.length
  | 5 => Int32.ofInt (jmI (vL l) l.length)
  | 6 => vL l (l.length - 1) - vL l 0
  | 7 => sumI (vL l) l.length
  | _ => ws
def wsM (wm : Int32 → Int32) (l : List (Int32 × Int32)) : Int32 := if (cwJ wm (-1000) 100 (-100) (dL l) l.length).2 < (cwJ wm (-1000) 100 (-100) (dL l) l.length).1 then 0 else Int32.ofInt (cwJ wm (-1000) 100 (-100) (dL l) l.length).2 - Int32.ofInt (cwJ wm (-1000) 100 (-100) (dL l) l.length).1
theorem wsM_of {d v : Nat → Int32} {n c w x : Int32} {wm : Int32 → Int32} {l : List (Int32 × Int32)} (hH : HOLDS d v n l) (hn : 1 ≤ n.toInt) (h3 : c.toInt = (cwJ wm (-1000) 100 (-100) d n.toNatClampNeg).1) (h4 : w.toInt = (cwJ wm (-1000) 100 (-100) d n.toNatClampNeg).2) (hx : (w.toInt < c.toInt ∧ x = 0) ∨ (c.toInt ≤ w.toInt ∧ x = w - c)) : x = wsM wm l := by
  have hc := i_clamp0 (x := n) (by omega)
  have hl := hH.1
  have e : n.toNatClampNeg = l.length := by omega
  rw [e, cwJ_congr l.length (fun i hi => (HOLDS_dv hH i hi).1)] at h3 h4
  unfold wsM
  rcases hx with ⟨a, b⟩ | ⟨a, b⟩
  · rw [if_pos (by omega)]; exact b
  · rw [if_neg (by omega), ← h3, ← h4, Int32.ofInt_toInt, Int32.ofInt_toInt]; exact b
theorem NMM_of {d v s s0 g : Nat → Int32} {n len ws : Int32} {l : List (Int32 × Int32)} (hH : HOLDS d v n l) (hn : 1 ≤ n.toInt) (hs : s = srtA v s0 n.toNatClampNeg) (g0 : g 0 = n) (g1 : g 1 = s 0) (g2 : g 2 = s (n - 1).toNatClampNeg) (g3 : g 3 = s (n - 1).toNatClampNeg - s 0) (g4 : g 4 = len - n) (g5 : (g 5).toInt = jmI v n.toNatClampNeg) (g6 : g 6 = v (n - 1).toNatClampNeg - v 0) (g7 : g 7 = sumI v n.toNatClampNeg) (g8 : g 8 = ws) : ∀ i : Nat, i ≤ 8 → g i = NMM l len ws i := by
  have h1 : (1 : Int32).toInt = 1 := by decide
  have hh := i_hi n
  have hc := i_clamp0 (x := n) (by omega)
  have hl := hH.1
  have e : n.toNatClampNeg = l.length := by omega
  have e1 : (n - 1).toInt = n.toInt - 1 := g_sub rfl h1 (by omega) (by omega)
  have c1 := i_clamp0 (x := n - 1) (by omega)
  have e2 : (n - 1).toNatClampNeg = l.length - 1 := by omega
  have hg : ∀ i : Nat, i < l.length → s i = srtA (vL l) (fun _ => 0) l.length i := fun i hi => by
    rw [hs, e]
    exact srtA_congr l.length (fun i hi => (HOLDS_dv hH i hi).2) i hi
  have hv : ∀ i : Nat, i < l.length → v i = vL l i := fun i hi => (HOLDS_dv hH i hi).2
  have en : n = Int32.ofInt (l.length : Int) := by rw [← hl, Int32.ofInt_toInt]
  intro i hi
  rcases (show i = 0 ∨ i = 1 ∨ i = 2 ∨ i = 3 ∨ i = 4 ∨ i = 5 ∨ i = 6 ∨ i = 7 ∨ i = 8 by omega) with q | q | q | q | q | q | q | q | q <;> subst q
  · rw [g0]; exact en
  · rw [g1, hg _ (by omega)]; rfl
  · rw [g2, e2, hg _ (by omega)]; rfl
  · rw [g3, e2, hg _ (by omega), hg _ (by omega)]; rfl
  · rw [g4]; show len - n = len - Int32.ofInt (l.length : Int); rw [← en]
  · show g 5 = Int32.ofInt (jmI (vL l) l.length)
    rw [← jmI_congr l.length hv, ← e, ← g5, Int32.ofInt_toInt]
  · rw [g6, e2, hv _ (by omega), hv _ (by omega)]; rfl
  · rw [g7, e, sumI_congr l.length hv]; rfl
  · rw [g8]; rfl
theorem ci_0 : (0 : Int32).toNatClampNeg = 0 := by decide
theorem ci_1 : (1 : Int32).toNatClampNeg = 1 := by decide
theorem ci_2 : (2 : Int32).toNatClampNeg = 2 := by decide
theorem ci_3 : (3 : Int32).toNatClampNeg = 3 := by decide
theorem ci_4 : (4 : Int32).toNatClampNeg = 4 := by decide
theorem ci_5 : (5 : Int32).toNatClampNeg = 5 := by decide
theorem ci_6 : (6 : Int32).toNatClampNeg = 6 := by decide
theorem ci_7 : (7 : Int32).toNatClampNeg = 7 := by decide
theorem ci_8 : (8 : Int32).toNatClampNeg = 8 := by decide
theorem ci_20 : (20 : Int32).toNatClampNeg = 20 := by decide
theorem ci_21 : (21 : Int32).toNatClampNeg = 21 := by decide
theorem ci_22 : (22 : Int32).toNatClampNeg = 22 := by decide
theorem ci_23 : (23 : Int32).toNatClampNeg = 23 := by decide
/-- a trial's answer -/
def TRM (l : List (Int32 × Int32)) (has : Int32) (f36 f37 : Nat → Int32) (sz len ws r : Int32) : Prop := ((has.toInt = 0 ∨ l.length = 0) ∧ r.toInt = -2000000000) ∨ (has.toInt ≠ 0 ∧ 1 ≤ l.length ∧ ∃ g : Nat → Int32, (∀ i : Nat, i ≤ 8 → g i = NMM l len ws i) ∧ SAYP g f36 f37 0 sz r)
/-- how many have less, place by place -/
def ORDP (W : Nat → Prop) (L : Nat → List (Int32 × Int32)) (T : Nat → Int32 → Prop) (mine : Int32) : Nat → Int → Prop
  | 0, n => n = 1
  | k + 1, n => (¬ (W k ∧ 1 ≤ (L k).length) ∧ ORDP W L T mine k n) ∨ (W k ∧ 1 ≤ (L k).length ∧ ∃ v : Int32, T k v ∧ ((v.toInt < mine.toInt ∧ ORDP W L T mine k (n - 1)) ∨ (¬ v.toInt < mine.toInt ∧ ORDP W L T mine k n)))
theorem ORDP_eq {W W' : Nat → Prop} {L L' : Nat → List (Int32 × Int32)} {T T' : Nat → Int32 → Prop} {mine : Int32} (hW : ∀ k, k < 16 → (W k ↔ W' k)) (hL : ∀ k, k < 16 → W k → L k = L' k) (hT : ∀ k, k < 16 → W k → 1 ≤ (L k).length → ∀ v v', T k v → T' k v' → v = v') : ∀ (k : Nat) (n n' : Int), k ≤ 16 → ORDP W L T mine k n → ORDP W' L' T' mine k n' → n = n'
  | 0, n, n', _, h, h' => by
    have e : n = 1 := h
    have e' : n' = 1 := h'
    rw [e, e']
  | k + 1, n, n', hk, h, h' => by
    have ih := fun a b => ORDP_eq (mine := mine) hW hL hT k a b (by omega)
    have hw := hW k (by omega)
    rcases h with ⟨a, b⟩ | ⟨a, a2, v, b, c⟩ <;> rcases h' with ⟨a', b'⟩ | ⟨a', a2', v', b', c'⟩
    · exact ih _ _ b b'
    · exact absurd ⟨hw.mpr a', by rw [hL k (by omega) (hw.mpr a')]; exact a2'⟩ a
    · exact absurd ⟨hw.mp a, by rw [← hL k (by omega) a]; exact a2⟩ a'
    · have e := hT k (by omega) a a2 v v' b b'
      subst e
      rcases c with ⟨c, d⟩ | ⟨c, d⟩ <;> rcases c' with ⟨c', d'⟩ | ⟨c', d'⟩
      · have := ih _ _ d d'; omega
      · exact absurd c c'
      · exact absurd c' c
      · exact ih _ _ d d'
section WORKOUT
variable {f2 uf0 uf1 nx : Nat → Int32} {top k sg v top' k' i j y z a b : Int32}
theorem WO_num (inv : stkI f2 top.toNatClampNeg = evC uf0 uf1 nx k.toNatClampNeg) (hk : 0 ≤ k.toInt) (hk' : k'.toInt = k.toInt + 1) (hs : sg = uf0 k.toNatClampNeg) (hv : v = uf1 k.toNatClampNeg) (h : sg.toInt = 2) (ht : 0 ≤ top.toInt) (h1 : top.toInt < 120) (ht' : top'.toInt = top.toInt + 1) : stkI (upd f2 top.toNatClampNeg v) top'.toNatClampNeg = evC uf0 uf1 nx k'.toNatClampNeg := by
  have hc := i_clamp0 ht
  rw [clampS hk hk', clampS ht ht', evC_s, stkI_upd, ← hs, ← hv, ← inv]
  unfold stC2
  rw [if_pos ⟨h, by rw [stkI_len]; omega⟩]
theorem WO_nam (inv : stkI f2 top.toNatClampNeg = evC uf0 uf1 nx k.toNatClampNeg) (hk : 0 ≤ k.toInt) (hk' : k'.toInt = k.toInt + 1) (hs : sg = uf0 k.toNatClampNeg) (hv : v = uf1 k.toNatClampNeg) (h : sg.toInt = 3) (h2 : 0 ≤ v.toInt ∧ v.toInt < 9) (hy : y = nx v.toNatClampNeg) (ht : 0 ≤ top.toInt) (h1 : top.toInt < 120) (ht' : top'.toInt = top.toInt + 1) : stkI (upd f2 top.toNatClampNeg y) top'.toNatClampNeg = evC uf0 uf1 nx k'.toNatClampNeg := by
  have hc := i_clamp0 ht
  rw [clampS hk hk', clampS ht ht', evC_s, stkI_upd, ← hs, ← hv, ← inv, hy]
  unfold stC2
  rw [if_neg (fun z => by omega), if_pos ⟨h, by rw [stkI_len]; omega, h2.1, h2.2⟩]
theorem WO_un (inv : stkI f2 top.toNatClampNeg = evC uf0 uf1 nx k.toNatClampNeg) (hk : 0 ≤ k.toInt) (hk' : k'.toInt = k.toInt + 1) (hs : sg = uf0 k.toNatClampNeg) (h : sg.toInt = 6 ∨ sg.toInt = 7 ∨ sg.toInt = 8) (ht : 1 ≤ top.toInt) (hi : i.toInt = top.toInt - 1) (hj : j.toInt = top.toInt - 1) (hz : z = f2 j.toNatClampNeg) (hy : y = wo1 sg.toInt z) : stkI (upd f2 i.toNatClampNeg y) top.toNatClampNeg = evC uf0 uf1 nx k'.toNatClampNeg := by
  have ej : j = i := i_eq.mpr (by omega)
  subst ej
  have hc := i_clamp0 (x := top) (by omega)
  rw [clampS hk hk', evC_s, stk_1 ht hi, uq_at, stkI_congr (f := upd f2 j.toNatClampNeg y) (g := f2) j.toNatClampNeg (fun x hx => uq_ne (by omega)), ← hs]
  unfold stC2
  rw [if_neg (fun z => by omega), if_neg (fun z => by omega), if_pos ⟨h, by rw [← inv, stkI_len]; omega⟩, ← inv, stk_1 ht hi, hy, hz]
  rfl
theorem WO_bin (inv : stkI f2 top.toNatClampNeg = evC uf0 uf1 nx k.toNatClampNeg) (hk : 0 ≤ k.toInt) (hk' : k'.toInt = k.toInt + 1) (hs : sg = uf0 k.toNatClampNeg) (hv : v = uf1 k.toNatClampNeg) (h1 : ¬ (sg.toInt = 2 ∧ top.toInt < 120)) (h2 : ¬ (sg.toInt = 3 ∧ top.toInt < 120 ∧ 0 ≤ v.toInt ∧ v.toInt < 9)) (h3 : ¬ ((sg.toInt = 6 ∨ sg.toInt = 7 ∨ sg.toInt = 8) ∧ 1 ≤ top.toInt)) (ht : 2 ≤ top.toInt) (ht' : top'.toInt = top.toInt - 1) (hi : i.toInt = top'.toInt - 1) (hj : j.toInt = top'.toInt - 1) (ha : a = f2 j.toNatClampNeg) (hb : b = f2 top'.toNatClampNeg) (hy : y = wo2 sg.toInt a b) : stkI (upd f2 i.toNatClampNeg y) top'.toNatClampNeg = evC uf0 uf1 nx k'.toNatClampNeg := by
  have ej : j = i := i_eq.mpr (by omega)
  subst ej
  have hc := i_clamp0 (x := top) (by omega)
  have hl : ((evC uf0 uf1 nx k.toNatClampNeg).length : Int) = top.toInt := by rw [← inv, stkI_len]; omega
  rw [clampS hk hk', evC_s, stk_1 (n := top') (i := j) (by omega) hi, uq_at, stkI_congr (f := upd f2 j.toNatClampNeg y) (g := f2) j.toNatClampNeg (fun x hx => uq_ne (by omega)), ← hs, ← hv]
  unfold stC2
  rw [hl, if_neg h1, if_neg h2, if_neg h3, if_pos ht, ← inv, stk_1 (i := top') (by omega) ht', stk_1 (n := top') (i := j) (by omega) hi, hy, ha, hb]
  rfl
theorem WO_no (inv : stkI f2 top.toNatClampNeg = evC uf0 uf1 nx k.toNatClampNeg) (hk : 0 ≤ k.toInt) (hk' : k'.toInt = k.toInt + 1) (hs : sg = uf0 k.toNatClampNeg) (hv : v = uf1 k.toNatClampNeg) (h1 : ¬ (sg.toInt = 2 ∧ top.toInt < 120)) (h2 : ¬ (sg.toInt = 3 ∧ top.toInt < 120 ∧ 0 ≤ v.toInt ∧ v.toInt < 9)) (h3 : ¬ ((sg.toInt = 6 ∨ sg.toInt = 7 ∨ sg.toInt = 8) ∧ 1 ≤ top.toInt)) (h0 : 0 ≤ top.toInt) (ht : top.toInt < 2) : stkI f2 top.toNatClampNeg = evC uf0 uf1 nx k'.toNatClampNeg := by
  have hc := i_clamp0 h0
  have hl : ((evC uf0 uf1 nx k.toNatClampNeg).length : Int) = top.toInt := by rw [← inv, stkI_len]; omega
  rw [clampS hk hk', evC_s, ← hs, ← hv]
  unfold stC2
  rw [hl, if_neg h1, if_neg h2, if_neg h3, if_neg (by omega)]
  exact inv
end WORKOUT
def hdC (l : List Int32) : Int32 := l.headD 0
def wsX (wm : Int32 → Int32) (l : List (Int32 × Int32)) : Int32 := if (Int32.ofInt (cwJ wm (-100) 50 (-50) (dL l) l.length).2 - Int32.ofInt (cwJ wm (-100) 50 (-50) (dL l) l.length).1).toInt < 0 then 0 else Int32.ofInt (cwJ wm (-100) 50 (-50) (dL l) l.length).2 - Int32.ofInt (cwJ wm (-100) 50 (-50) (dL l) l.length).1
theorem wsX_of {d v : Nat → Int32} {n c w x y : Int32} {wm : Int32 → Int32} {l : List (Int32 × Int32)} (hH : HOLDS d v n l) (hn : 0 ≤ n.toInt) (h3 : c.toInt = (cwJ wm (-100) 50 (-50) d n.toNatClampNeg).1) (h4 : w.toInt = (cwJ wm (-100) 50 (-50) d n.toNatClampNeg).2) (hy : y = w - c) (hx : 0 ≤ x.toInt ∧ y.toInt ≤ x.toInt ∧ (x.toInt = 0 ∨ x.toInt = y.toInt)) : x = wsX wm l := by
  have hc := i_clamp0 hn
  have hl := hH.1
  have e : n.toNatClampNeg = l.length := by omega
  rw [e, cwJ_congr l.length (fun i hi => (HOLDS_dv hH i hi).1)] at h3 h4
  unfold wsX
  rw [← h3, ← h4, Int32.ofInt_toInt, Int32.ofInt_toInt, ← hy]
  have z : (0 : Int32).toInt = 0 := by decide
  by_cases q : y.toInt < 0
  · rw [if_pos q]; exact i_eq.mpr (by omega)
  · rw [if_neg q]; exact i_eq.mpr (by omega)
theorem NMF_of {d v g : Nat → Int32} {n len ws : Int32} {l : List (Int32 × Int32)} (hH : HOLDS d v n l) (hn : 1 ≤ n.toInt) (g0 : g 0 = n) (g1 : (g 1).toInt = minF v n.toNatClampNeg) (g2 : (g 2).toInt = maxF v n.toNatClampNeg) (g3 : g 3 = g 2 - g 1) (g4 : g 4 = len - n) (g5 : (g 5).toInt = jmI v n.toNatClampNeg) (g6 : g 6 = v (n - 1).toNatClampNeg - v 0) (g7 : g 7 = sumI v n.toNatClampNeg) (g8 : g 8 = ws) : ∀ i : Nat, i ≤ 8 → g i = NMF l len ws i := by
  have h1 : (1 : Int32).toInt = 1 := by decide
  have hh := i_hi n
  have hc := i_clamp0 (x := n) (by omega)
  have hl := hH.1
  have e : n.toNatClampNeg = l.length := by omega
  have e1 : (n - 1).toInt = n.toInt - 1 := g_sub rfl h1 (by omega) (by omega)
  have c1 := i_clamp0 (x := n - 1) (by omega)
  have e2 : (n - 1).toNatClampNeg = l.length - 1 := by omega
  have hv : ∀ i : Nat, i < l.length → v i = vL l i := fun i hi => (HOLDS_dv hH i hi).2
  have en : n = Int32.ofInt (l.length : Int) := by rw [← hl, Int32.ofInt_toInt]
  have k1 : g 1 = Int32.ofInt (minF (vL l) l.length) := by rw [← minF_congr l.length hv, ← e, ← g1, Int32.ofInt_toInt]
  have k2 : g 2 = Int32.ofInt (maxF (vL l) l.length) := by rw [← maxF_congr l.length hv, ← e, ← g2, Int32.ofInt_toInt]
  intro i hi
  rcases (show i = 0 ∨ i = 1 ∨ i = 2 ∨ i = 3 ∨ i = 4 ∨ i = 5 ∨ i = 6 ∨ i = 7 ∨ i = 8 by omega) with q | q | q | q | q | q | q | q | q <;> subst q
  · rw [g0]; exact en
  · exact k1
  · exact k2
  · rw [g3, k1, k2]; rfl
  · rw [g4]; show len - n = len - Int32.ofInt (l.length : Int); rw [← en]
  · show g 5 = Int32.ofInt (jmI (vL l) l.length)
    rw [← jmI_congr l.length hv, ← e, ← g5, Int32.ofInt_toInt]
  · rw [g6, e2, hv _ (by omega), hv _ (by omega)]; rfl
  · rw [g7, e, sumI_congr l.length hv]; rfl
  · rw [g8]; rfl
/-- a trial's answer, the class's -/
def WOT (l : List (Int32 × Int32)) (sz : Int32) (sg va : Nat → Int32) (len ws r : Int32) : Prop := ∃ g : Nat → Int32, (∀ i : Nat, i ≤ 8 → g i = NMF l len ws i) ∧ r = hdC (evC sg va g sz.toNatClampNeg)
def TRC (l : List (Int32 × Int32)) (sz : Int32) (sg va : Nat → Int32) (len ws r : Int32) : Prop := ((sz.toInt = 0 ∨ l.length = 0) ∧ r.toInt = -2000000000) ∨ (sz.toInt ≠ 0 ∧ 1 ≤ l.length ∧ WOT l sz sg va len ws r)
/-! ===== a text that was read well leaves one answer; which kinds it has ===== -/
def bB (x : Int) : Int := if 10 ≤ x ∧ x < 70 ∧ x ≠ 30 then 1 else 0
theorem bB_1 {x : Int} (h : 10 ≤ x ∧ x < 70 ∧ x ≠ 30) : bB x = 1 := by unfold bB; rw [if_pos h]
theorem bB_0 {x : Int} (h : ¬ (10 ≤ x ∧ x < 70 ∧ x ≠ 30)) : bB x = 0 := by unfold bB; rw [if_neg h]
def cBn : List Int → Int
  | [] => 0
  | x :: S => bB x + cBn S
def sOK (x : Int) : Prop := x = 5 ∨ x = 30 ∨ x = 70 ∨ x = 71 ∨ (10 ≤ x ∧ x < 70 ∧ x ≠ 30)
theorem tgt_5 : tgt 5 = 0 := by decide
theorem tgt_1 {x : Int} (h : sOK x) (h5 : x ≠ 5) : 1 ≤ tgt x := by
  unfold tgt
  rw [if_neg h5]
  unfold sOK at h
  omega
theorem dlO_s {x : Int} (h : sOK x) (h5 : x ≠ 5) : dlO x = - bB x := by
  unfold sOK at h
  unfold dlO
  rw [if_neg (by omega)]
  by_cases c : x = 30 ∨ x = 70 ∨ x = 71
  · rw [if_pos c, bB_0 (by omega)]; rfl
  · rw [if_neg c, bB_1 (by omega)]
theorem popK_mem {k : Int} : ∀ (S : List Int) (O : List (Int × Int)) (x : Int), x ∈ (popK k S O).1 → x ∈ S
  | [], _, _, h => h
  | y :: S, O, x, h => by
    unfold popK at h
    split at h
    · exact List.mem_cons_of_mem _ (popK_mem S _ x h)
    · exact h
theorem popK_h {k : Int} (hk : 1 ≤ k) : ∀ (S : List Int) (O : List (Int × Int)), (∀ x ∈ S, sOK x) → hO (popK k S O).2 = hO O + cBn (popK k S O).1 - cBn S
  | [], O, _ => by show hO O = hO O + 0 - 0; omega
  | x :: S, O, h => by
    have h0 := h x List.mem_cons_self
    have ih := popK_h hk S ((x, 0) :: O) (fun y hy => h y (List.mem_cons_of_mem _ hy))
    unfold popK
    by_cases c : k ≤ tgt x
    · rw [if_pos c, ih]
      have h5 : x ≠ 5 := fun q => by rw [q, tgt_5] at c; omega
      have e := dlO_s h0 h5
      show hO O + dlO x + cBn (popK k S ((x, 0) :: O)).1 - cBn S = hO O + cBn (popK k S ((x, 0) :: O)).1 - (bB x + cBn S)
      omega
    · rw [if_neg c]
      show hO O = hO O + cBn (x :: S) - cBn (x :: S)
      omega
theorem popK_top : ∀ (S : List Int) (O : List (Int × Int)), (∀ x ∈ S, sOK x) → (popK 1 S O).1 = [] ∨ ∃ T, (popK 1 S O).1 = 5 :: T
  | [], _, _ => Or.inl rfl
  | x :: S, O, h => by
    unfold popK
    by_cases c : 1 ≤ tgt x
    · rw [if_pos c]
      exact popK_top S _ (fun y hy => h y (List.mem_cons_of_mem _ hy))
    · rw [if_neg c]
      have h5 : x = 5 := by
        by_cases q : x = 5
        · exact q
        · exact absurd (tgt_1 (h x List.mem_cons_self) q) c
      exact Or.inr ⟨S, by rw [h5]⟩
theorem RUN_hgt {K V : Nat → Int} {s e : Nat → Nat} : ∀ (F : Nat) (w m : Bool) (S : List Int) (O : List (Int × Int)) (a : Nat) (res : Int × List (Int × Int)), (∀ x ∈ S, sOK x) → hO O = cBn S + (if w = true then 0 else 1) → RUN K V s e F w m S O a res → res.1 = -1 → hO res.2 = 1
  | 0, _, _, _, _, _, _, _, _, h, _ => h.elim
  | F + 1, w, m, S, O, a, res, hS, hh, h, h1 => by
    have ih := fun w m S O a res x1 x2 x3 x4 => RUN_hgt (K := K) (V := V) (s := s) (e := e) F w m S O a res x1 x2 x3 x4
    have nil : ∀ {v : Nat}, res = (((v : Nat) : Int), []) → hO res.2 = 1 := fun {v} q => by
      rw [q] at h1
      have h2 : ((v : Nat) : Int) = -1 := h1
      omega
    unfold RUN at h
    split at h
    · rename_i cw
      rw [if_pos cw] at hh
      split at h
      · rename_i c2
        split at h
        · exact nil h
        · refine ih _ _ _ _ _ _ (fun x hx => ?_) ?_ h h1
          · rcases List.mem_cons.mp hx with q | q
            · rw [q]
              unfold sOK
              by_cases c : K a = 51
              · rw [if_pos c]; omega
              · rw [if_neg c]; omega
            · exact hS x q
          · have e0 : bB (if K a = 51 then 70 else K a) = 0 := by
              by_cases c : K a = 51
              · rw [if_pos c]; exact bB_0 (by omega)
              · rw [if_neg c]; exact bB_0 (by omega)
            rw [if_pos rfl]
            show hO O = bB (if K a = 51 then 70 else K a) + cBn S + 0
            omega
      · split at h
        · rename_i c3
          refine ih _ _ _ _ _ _ hS ?_ h h1
          have e1 : dlO (K a) = 1 := by unfold dlO; rw [if_pos (by omega)]
          show hO O + dlO (K a) = cBn S + (if false = true then 0 else 1)
          rw [if_neg (show ¬ (false = true) by decide)]
          omega
        · exact nil h
    · rename_i cw
      rw [if_neg cw] at hh
      split at h
      · split at h
        · exact nil h
        · rename_i c5
          have hp := popK_h (k := 1) (by omega) S O hS
          rcases popK_top S O hS with q | ⟨T, q⟩
          · exact absurd q c5
          · refine ih _ _ _ _ _ _ (fun x hx => hS x (popK_mem S O x (List.mem_of_mem_tail hx))) ?_ h h1
            have e0 : bB 5 = 0 := bB_0 (by omega)
            have e2 : cBn (popK 1 S O).1 = bB 5 + cBn T := by rw [q]; rfl
            have e3 : cBn (popK 1 S O).1.tail = cBn T := by rw [q]; rfl
            rw [hp, e3, e2, if_neg (by decide)]
            omega
      · split at h
        · split at h
          · rename_i c5
            have hp := popK_h (k := 1) (by omega) S O hS
            have e2 : cBn (popK 1 S O).1 = 0 := by rw [c5]; rfl
            rw [h]
            show hO (popK 1 S O).2 = 1
            omega
          · exact nil h
        · rename_i c0
          split at h
          · exact nil h
          · rename_i c1
            split at h
            · exact nil h
            · have hr : 1 ≤ rlT (K a) := by unfold rlT; split <;> omega
              have hp := popK_h hr S O hS
              refine ih _ _ _ _ _ _ (fun x hx => ?_) ?_ h h1
              · rcases List.mem_cons.mp hx with q | q
                · rw [q]; unfold sOK; omega
                · exact hS x (popK_mem S O x q)
              · have e1 : bB (K a) = 1 := bB_1 (by omega)
                rw [if_pos rfl]
                show hO (popK (rlT (K a)) S O).2 = bB (K a) + cBn (popK (rlT (K a)) S O).1 + 0
                omega
/-- the kinds of a rule's text -/
def tQ (wh t : Int) : Prop := VT t ∧ (100 ≤ t → (wh = 0 ∧ t ≤ 108) ∨ (wh = 1 ∧ 120 ≤ t ∧ t ≤ 123))
theorem wdF_v {wh w : Int} (h : wh = 0 ∨ wh = 1) : wdF wh w = 2 ∨ wdF wh w = 10 ∨ wdF wh w = 20 ∨ wdF wh w = 30 ∨ wdF wh w = 71 ∨ (wh = 0 ∧ 100 ≤ wdF wh w ∧ wdF wh w ≤ 108) ∨ (wh = 1 ∧ 120 ≤ wdF wh w ∧ wdF wh w ≤ 123) := by
  generalize e : wdF wh w = t
  unfold wdF at e
  (repeat' split at e) <;> omega
theorem tkK_Q {f : Nat → Int32} {n a : Nat} {wh : Int} (h : wh = 0 ∨ wh = 1) (hk : tkK (wdK wh f) f n a = 1 ∨ 100 ≤ tkK (wdK wh f) f n a ∨ (10 ≤ tkK (wdK wh f) f n a ∧ tkK (wdK wh f) f n a < 70 ∧ tkK (wdK wh f) f n a ≠ 30)) : tQ wh (tkK (wdK wh f) f n a) := by
  generalize e : tkK (wdK wh f) f n a = t at hk ⊢
  unfold tkK teK at e
  unfold tQ VT
  split at e
  · omega
  · split at e
    · unfold wdK at e
      split at e
      · omega
      · have h9 := wdF_v (w := encW f (tkS f n a) (teE f n (tkS f n a) - tkS f n a)) h
        rw [e] at h9
        omega
    · split at e
      · split at e <;> omega
      · unfold sgK at e
        (repeat' split at e) <;> omega
theorem READ_ok {f : Nat → Int32} {n F : Nat} {wh : Int} {O : List (Int × Int)} (h0 : wh = 0 ∨ wh = 1) (h : RR f n wh F true true [] [] 0 (-1, O)) : hO O = 1 ∧ ∀ y ∈ O, tQ wh y.1 := by
  refine ⟨RUN_hgt F _ _ _ _ _ _ (fun x hx => absurd hx (by simp)) (by rw [if_pos rfl]; rfl) h rfl, ?_⟩
  refine RUN_all (Q := tQ wh) (fun a hk => tkK_Q h0 hk) ?_ ?_ ?_ F _ _ _ _ _ _ (fun x hx => absurd hx (by simp)) (fun y hy => absurd hy (by simp)) h <;> (unfold tQ VT; omega)
/-- a rule, as the class and the reference keep it -/
def RUT (wh : Int) (B : Nat) (sz : Int32) (sg va : Nat → Int32) (has m : Int32) (f36 f37 : Nat → Int32) : Prop := (has.toInt = 0 ∧ sz.toInt = 0) ∨ (has.toInt ≠ 0 ∧ 1 ≤ sz.toInt ∧ oC (20 * wh) sg va sz.toNatClampNeg = oM f36 f37 B m.toNatClampNeg ∧ hO (oM f36 f37 B m.toNatClampNeg) = 1 ∧ ∀ y ∈ oM f36 f37 B m.toNatClampNeg, tQ wh y.1)
theorem RUT_low {wh : Int} {B : Nat} {sz : Int32} {sg va f36 f37 g36 g37 : Nat → Int32} {has m : Int32} (h : RUT wh B sz sg va has m f36 f37) (h6 : ∀ k, k < m.toNatClampNeg → g36 (B + k) = f36 (B + k) ∧ g37 (B + k) = f37 (B + k)) : RUT wh B sz sg va has m g36 g37 := by
  have e : oM g36 g37 B m.toNatClampNeg = oM f36 f37 B m.toNatClampNeg := oM_congr m.toNatClampNeg (fun k hk => ⟨(h6 k hk).1, fun _ => (h6 k hk).2⟩)
  unfold RUT
  rw [e]
  exact h
theorem RUT_new {wh : Int} {B n F : Nat} {sz : Int32} {sg va f36 f37 g36 g37 t : Nat → Int32} {has m : Int32} (h0 : wh = 0 ∨ wh = 1) (h1 : has.toInt ≠ 0) (hr : RR t n wh F true true [] [] 0 (-1, oM f36 f37 256 m.toNatClampNeg)) (he : oC (20 * wh) sg va sz.toNatClampNeg = oM f36 f37 256 m.toNatClampNeg)
    (h6 : ∀ k, k < m.toNatClampNeg → g36 (B + k) = f36 (256 + k) ∧ g37 (B + k) = f37 (256 + k)) : RUT wh B sz sg va has m g36 g37 := by
  have e : oM g36 g37 B m.toNatClampNeg = oM f36 f37 256 m.toNatClampNeg := oM_congr m.toNatClampNeg (fun k hk => ⟨(h6 k hk).1, fun _ => (h6 k hk).2⟩)
  obtain ⟨a, b⟩ := READ_ok h0 hr
  have hz : 1 ≤ sz.toInt := by
    by_cases q : 1 ≤ sz.toInt
    · exact q
    · exfalso
      have hc : sz.toNatClampNeg = 0 := by
        show sz.toInt.toNat = 0
        omega
      rw [hc] at he
      have he' : ([] : List (Int × Int)) = oM f36 f37 256 m.toNatClampNeg := he
      rw [← he'] at a
      exact absurd a (by show ¬ (0 : Int) = 1; omega)
  exact Or.inr ⟨h1, hz, by rw [e]; exact he, by rw [e]; exact a, by rw [e]; exact b⟩
def nQ (wh i : Int) : Prop := (wh = 0 ∧ 0 ≤ i ∧ i ≤ 8) ∨ (wh = 1 ∧ 20 ≤ i ∧ i ≤ 23)
/-- both say the same -/
theorem SAY_eq {wh : Int} {B : Nat} {sz : Int32} {sg va f36 f37 nx nm : Nat → Int32} {has m r : Int32} (h01 : wh = 0 ∨ wh = 1) (h : RUT wh B sz sg va has m f36 f37) (h0 : has.toInt ≠ 0) (hz : sz.toInt ≤ 120) (hw : WFc f36 B m.toNatClampNeg) (hn : ∀ i : Nat, nQ wh i → nx ((i : Int) - 20 * wh).toNat = nm i) (hs : SAYP nm f36 f37 B m r) : hdC (evC sg va nx sz.toNatClampNeg) = r := by
  rcases h with ⟨a, -⟩ | ⟨-, z1, e1, e2, e3⟩
  · exact absurd a h0
  · obtain ⟨f, n, q1, q2⟩ := hs
    have hc := i_clamp0 (x := sz) (by omega)
    have hok : okO (nQ wh) (oM f36 f37 B m.toNatClampNeg) := okO_oM m.toNatClampNeg hw (fun y hy h100 => by
      have h9 := (e3 y hy).2 h100
      unfold nQ
      omega)
    have hl := evL_len (nm := nm) _ hok
    rw [e2, ← q1, stkI_len] at hl
    have hn1 : n = 1 := by omega
    subst hn1
    have hev := evC_eq (sg := sg) (va := va) (nx := nx) (nm := nm) (N := nQ wh) (nb := 20 * wh) (by omega) (fun i hi => ⟨by unfold nQ at hi; omega, by unfold nQ at hi; omega, hn i hi⟩) sz.toNatClampNeg (by omega) (by rw [e1]; exact hok) (by rw [e1]; exact fun y hy => (e3 y hy).1)
    rw [hev, e1, ← q1, q2]
    rfl
/- trials -/
theorem NM_eq {l : List (Int32 × Int32)} {len ws : Int32} (h1 : 1 ≤ l.length) (hv : ∀ i : Nat, i < l.length → -999 ≤ (vL l i).toInt ∧ (vL l i).toInt ≤ 999) : ∀ i : Nat, i ≤ 8 → NMF l len ws i = NMM l len ws i := by
  obtain ⟨n, hn⟩ : ∃ n, l.length = n + 1 := ⟨l.length - 1, by omega⟩
  have a := srtA_max (v := vL l) (f := fun _ => 0) n (fun i hi => (hv i (by omega)).1)
  have b := srtA_min (v := vL l) (f := fun _ => 0) n (fun i hi => (hv i (by omega)).2)
  have a2 : Int32.ofInt (maxF (vL l) l.length) = srtA (vL l) (fun _ => 0) l.length (l.length - 1) := by
    rw [hn, ← a, Int32.ofInt_toInt, show n + 1 - 1 = n from rfl]
  have b2 : Int32.ofInt (minF (vL l) l.length) = srtA (vL l) (fun _ => 0) l.length 0 := by
    rw [hn, ← b, Int32.ofInt_toInt]
  intro i hi
  rcases (show i = 0 ∨ i = 1 ∨ i = 2 ∨ i = 3 ∨ i = 4 ∨ i = 5 ∨ i = 6 ∨ i = 7 ∨ i = 8 by omega) with q | q | q | q | q | q | q | q | q <;> subst q
  · rfl
  · exact b2
  · exact a2
  · show Int32.ofInt (maxF (vL l) l.length) - Int32.ofInt (minF (vL l) l.length) = _
    rw [a2, b2]; rfl
  · rfl
  · rfl
  · rfl
  · rfl
  · rfl
theorem ofI_s {x : Int} (h : -1000 ≤ x ∧ x ≤ 1000) : (Int32.ofInt x).toInt = x := Int32.toInt_ofInt_of_le (by omega) (by omega)
theorem wsMX {wm wx : Int32 → Int32} {l : List (Int32 × Int32)} (h : ∀ i, i < l.length → (((wm (dL l i)).toInt = -1000 ∧ (wx (dL l i)).toInt = -100) ∨ ((wm (dL l i)).toInt ≠ -1000 ∧ (wx (dL l i)).toInt = (wm (dL l i)).toInt ∧ (wx (dL l i)).toInt ≠ -100 ∧ -50 ≤ (wm (dL l i)).toInt ∧ (wm (dL l i)).toInt ≤ 50))) : wsM wm l = wsX wx l := by
  unfold wsM wsX
  rcases cw_both (nw := -1000) (nx := -100) l.length h with ⟨a, b⟩ | ⟨a, b, c, d⟩
  · rw [a, b, if_pos (show ((100 : Int), (-100 : Int)).2 < ((100 : Int), (-100 : Int)).1 by decide)]
    rw [if_pos (show (Int32.ofInt ((50 : Int), (-50 : Int)).2 - Int32.ofInt ((50 : Int), (-50 : Int)).1).toInt < 0 by decide)]
  · rw [← a, if_neg (by omega)]
    have e1 := ofI_s (x := (cwJ wm (-1000) 100 (-100) (dL l) l.length).1) (by omega)
    have e2 := ofI_s (x := (cwJ wm (-1000) 100 (-100) (dL l) l.length).2) (by omega)
    have e3 : (Int32.ofInt (cwJ wm (-1000) 100 (-100) (dL l) l.length).2 - Int32.ofInt (cwJ wm (-1000) 100 (-100) (dL l) l.length).1).toInt = (cwJ wm (-1000) 100 (-100) (dL l) l.length).2 - (cwJ wm (-1000) 100 (-100) (dL l) l.length).1 := g_sub e2 e1 (by omega) (by omega)
    rw [if_neg (by omega)]
theorem WOT_eq {sz : Int32} {sg va f36 f37 : Nat → Int32} {has m r r' len wx wm : Int32} {l : List (Int32 × Int32)} (h : RUT 0 0 sz sg va has m f36 f37) (h0 : has.toInt ≠ 0) (hz : sz.toInt ≤ 120) (hw : WFc f36 0 m.toNatClampNeg) (h1 : 1 ≤ l.length) (hv : ∀ i : Nat, i < l.length → -999 ≤ (vL l i).toInt ∧ (vL l i).toInt ≤ 999) (he : wm = wx)
    (a : WOT l sz sg va len wx r) (b : ∃ g : Nat → Int32, (∀ i : Nat, i ≤ 8 → g i = NMM l len wm i) ∧ SAYP g f36 f37 0 m r') : r = r' := by
  obtain ⟨g, hg, e⟩ := a
  obtain ⟨g', hg', s⟩ := b
  rw [e]
  refine SAY_eq (Or.inl rfl) h h0 hz hw (fun i hi => ?_) s
  have h8 : i ≤ 8 := by unfold nQ at hi; omega
  rw [show ((i : Int) - 20 * 0).toNat = i by omega, hg i h8, hg' i h8, he]
  exact NM_eq h1 hv i h8
theorem RUT_has {wh : Int} {B : Nat} {sz : Int32} {sg va f36 f37 : Nat → Int32} {has m : Int32} (h : RUT wh B sz sg va has m f36 f37) : has.toInt = 0 ↔ sz.toInt = 0 := by
  rcases h with ⟨a, b⟩ | ⟨a, b, -⟩
  · exact ⟨fun _ => b, fun _ => a⟩
  · exact ⟨fun c => absurd c a, fun c => by omega⟩
/-! ===== sights: times, widths, which one is dropped ===== -/
def fdI (a b : Int32) : Int32 := Int32.ofInt (a.toInt / b.toInt)
theorem fdI_of {a b r : Int32} (h : 0 < b.toInt → r.toInt = a.toInt / b.toInt) (hb : 0 < b.toInt) : r = fdI a b := by unfold fdI; rw [← h hb, Int32.ofInt_toInt]
def mxI (a b : Int32) : Int32 := if a < b then b else a
def mnI (a b : Int32) : Int32 := if b < a then b else a
theorem mxI_y {a b : Int32} (h : a.toInt < b.toInt) : mxI a b = b := by unfold mxI; rw [if_pos (i_lt.mpr h)]
theorem mxI_n {a b : Int32} (h : ¬ a.toInt < b.toInt) : mxI a b = a := by unfold mxI; rw [if_neg (fun h9 => h (i_lt.mp h9))]
theorem mnI_y {a b : Int32} (h : b.toInt < a.toInt) : mnI a b = b := by unfold mnI; rw [if_pos (i_lt.mpr h)]
theorem mnI_n {a b : Int32} (h : ¬ b.toInt < a.toInt) : mnI a b = a := by unfold mnI; rw [if_neg (fun h9 => h (i_lt.mp h9))]
theorem ofN_i {z : Int32} {k : Nat} (h : z.toInt = (k : Int)) : z = Int32.ofNat k := by
  have e := ofN_c (i := z) (by omega)
  rw [← e]
  congr 1
  show z.toInt.toNat = k
  omega
/-- the class's: of places in its rows -/
def tmX (sg vo sa : Int32) (f1 f2 f4 f5 f6 : Nat → Int32) (s i : Int32) : Int32 := f6 (3 * s + i).toNatClampNeg - f1 i.toNatClampNeg - (if sg.toInt = 2 ∧ 0 < vo.toInt then fdI ((f5 s.toNatClampNeg - sa) * (f4 i.toNatClampNeg - f1 i.toNatClampNeg)) vo else f2 i.toNatClampNeg * (f5 s.toNatClampNeg - sa))
def wdX (sg vo sa : Int32) (f3 f5 : Nat → Int32) (s i : Int32) : Int32 := f3 i.toNatClampNeg * (if sg.toInt = 2 then mnI (f5 s.toNatClampNeg - sa) (vo - (f5 s.toNatClampNeg - sa)) else f5 s.toNatClampNeg - sa) + 5
/-- how far one is off from the others' mean -/
def ofX (t : Nat → Int32) (k : Nat) : Int32 := szF (t k - fdI (t ((k + 1) % 3) + t ((k + 2) % 3)) 2)
def bgX (t w : Nat → Int32) (dr : Int) : Nat → Int32
  | 0 => -2000000000
  | k + 1 => if dr = (k : Int) then bgX t w dr k else mxI (bgX t w dr k) (t k - w k)
def enX (t w : Nat → Int32) (dr : Int) : Nat → Int32
  | 0 => 2000000000
  | k + 1 => if dr = (k : Int) then enX t w dr k else mnI (enX t w dr k) (t k + w k)
theorem bgX_s (t w : Nat → Int32) (dr : Int) (k : Nat) : bgX t w dr (k + 1) = if dr = (k : Int) then bgX t w dr k else mxI (bgX t w dr k) (t k - w k) := rfl
theorem enX_s (t w : Nat → Int32) (dr : Int) (k : Nat) : enX t w dr (k + 1) = if dr = (k : Int) then enX t w dr k else mnI (enX t w dr k) (t k + w k) := rfl
theorem bgX_congr {t w t' w' : Nat → Int32} {dr : Int} : ∀ n : Nat, (∀ k, k < n → t k = t' k ∧ w k = w' k) → bgX t w dr n = bgX t' w' dr n
  | 0, _ => rfl
  | n + 1, h => by rw [bgX_s, bgX_s, bgX_congr n (fun k hk => h k (by omega)), (h n (by omega)).1, (h n (by omega)).2]
theorem enX_congr {t w t' w' : Nat → Int32} {dr : Int} : ∀ n : Nat, (∀ k, k < n → t k = t' k ∧ w k = w' k) → enX t w dr n = enX t' w' dr n
  | 0, _ => rfl
  | n + 1, h => by rw [enX_s, enX_s, enX_congr n (fun k hk => h k (by omega)), (h n (by omega)).1, (h n (by omega)).2]
theorem bg_n {t w : Nat → Int32} {g dr : Int32} {i j : Int32} (h : g = bgX t w dr.toInt i.toNatClampNeg) (h0 : 0 ≤ i.toInt) (hj : j.toInt = i.toInt + 1) (hd : i.toInt = dr.toInt) : g = bgX t w dr.toInt j.toNatClampNeg := by
  have hc := i_clamp0 h0
  rw [clampS h0 hj, bgX_s, if_pos (by omega)]; exact h
theorem bg_y {t w : Nat → Int32} {g g' x dr : Int32} {i j : Int32} (h : g = bgX t w dr.toInt i.toNatClampNeg) (h0 : 0 ≤ i.toInt) (hj : j.toInt = i.toInt + 1) (hd : i.toInt ≠ dr.toInt) (hx : x = t i.toNatClampNeg - w i.toNatClampNeg) (hg : g' = mxI g x) : g' = bgX t w dr.toInt j.toNatClampNeg := by
  have hc := i_clamp0 h0
  rw [clampS h0 hj, bgX_s, if_neg (by omega), ← h, ← hx]; exact hg
theorem en_n {t w : Nat → Int32} {g dr : Int32} {i j : Int32} (h : g = enX t w dr.toInt i.toNatClampNeg) (h0 : 0 ≤ i.toInt) (hj : j.toInt = i.toInt + 1) (hd : i.toInt = dr.toInt) : g = enX t w dr.toInt j.toNatClampNeg := by
  have hc := i_clamp0 h0
  rw [clampS h0 hj, enX_s, if_pos (by omega)]; exact h
theorem en_y {t w : Nat → Int32} {g g' x dr : Int32} {i j : Int32} (h : g = enX t w dr.toInt i.toNatClampNeg) (h0 : 0 ≤ i.toInt) (hj : j.toInt = i.toInt + 1) (hd : i.toInt ≠ dr.toInt) (hx : x = t i.toNatClampNeg + w i.toNatClampNeg) (hg : g' = mnI g x) : g' = enX t w dr.toInt j.toNatClampNeg := by
  have hc := i_clamp0 h0
  rw [clampS h0 hj, enX_s, if_neg (by omega), ← h, ← hx]; exact hg
/-- which one is dropped, and by how much -/
def DPP (T : Nat → Int32 → Prop) : Nat → Int → Int → Prop
  | 0, d, m => d = -1 ∧ m = 0
  | k + 1, d, m => ∃ (v : Int32) (d' m' : Int), T k v ∧ DPP T k d' m' ∧ ((m' < v.toInt ∧ d = (k : Int) ∧ m = v.toInt) ∨ (¬ m' < v.toInt ∧ d = d' ∧ m = m'))
theorem DPP_s {T : Nat → Int32 → Prop} {i j v : Int32} {d m d' m' : Int} (h : DPP T i.toNatClampNeg d' m') (h0 : 0 ≤ i.toInt) (hj : j.toInt = i.toInt + 1) (hT : T i.toNatClampNeg v) (c : (m' < v.toInt ∧ d = i.toInt ∧ m = v.toInt) ∨ (¬ m' < v.toInt ∧ d = d' ∧ m = m')) : DPP T j.toNatClampNeg d m := by
  have hc := i_clamp0 h0
  rw [clampS h0 hj]
  refine ⟨v, d', m', hT, h, ?_⟩
  rcases c with ⟨a, b, e⟩ | ⟨a, b, e⟩
  · exact Or.inl ⟨a, by omega, e⟩
  · exact Or.inr ⟨a, b, e⟩
theorem DPP_eq {T T' : Nat → Int32 → Prop} (hT : ∀ k v v', k < 3 → T k v → T' k v' → v = v') : ∀ (n : Nat) (d m d' m' : Int), n ≤ 3 → DPP T n d m → DPP T' n d' m' → d = d' ∧ m = m'
  | 0, d, m, d', m', _, h, h' => by
    obtain ⟨a, b⟩ := h
    obtain ⟨a', b'⟩ := h'
    exact ⟨by omega, by omega⟩
  | n + 1, d, m, d', m', hn, h, h' => by
    obtain ⟨v, e, f, h1, h2, h3⟩ := h
    obtain ⟨v', e', f', h1', h2', h3'⟩ := h'
    have ev := hT n v v' (by omega) h1 h1'
    subst ev
    obtain ⟨i1, i2⟩ := DPP_eq hT n e f e' f' (by omega) h2 h2'
    rcases h3 with h3 | h3 <;> rcases h3' with h3' | h3' <;> exact ⟨by omega, by omega⟩
theorem DPP_r {T : Nat → Int32 → Prop} : ∀ (n : Nat) (d m : Int), DPP T n d m → -1 ≤ d ∧ d ≤ 2 ∨ 3 ≤ n
  | 0, d, m, h => Or.inl (by obtain ⟨a, b⟩ := h; omega)
  | n + 1, d, m, h => by
    obtain ⟨v, e, f, h1, h2, h3⟩ := h
    rcases DPP_r n e f h2 with q | q
    · by_cases c : n = 2
      · exact Or.inr (by omega)
      · by_cases c2 : 3 ≤ n + 1
        · exact Or.inr c2
        · exact Or.inl (by rcases h3 with h3 | h3 <;> omega)
    · exact Or.inr (by omega)
/-- the class's dropped one: of its times t, doubts db, days n -/
def TDX (t db : Nat → Int32) (n : Int32) (sg va : Nat → Int32) (sz : Int32) (k : Nat) (v : Int32) : Prop := ∃ g : Nat → Int32, (g 0 = ofX t k ∧ g 1 = db k ∧ g 2 = n ∧ g 3 = Int32.ofNat k) ∧ v = hdC (evC sg va g sz.toNatClampNeg)
def DRX (t db : Nat → Int32) (n : Int32) (sg va : Nat → Int32) (sz : Int32) (r : Int) : Prop := (sz.toInt = 0 ∧ r = -1) ∨ (sz.toInt ≠ 0 ∧ ∃ m : Int, DPP (TDX t db n sg va sz) 3 r m)
/-- the reference's -/
def tmM (sg vo sa : Int32) (M51 M52 M54 M56 M57 : Nat → Int32) (p s k : Nat) : Int32 := M57 (3 * (40 * p + s) + k) - M51 (3 * p + k) - (if sg.toInt = 2 then Int32.ofInt ((M56 (40 * p + s) - sa).toInt * (M54 (3 * p + k) - M51 (3 * p + k)).toInt / vo.toInt) else M52 (3 * p + k) * (M56 (40 * p + s) - sa))
def wdM (sg vo sa : Int32) (M53 M56 : Nat → Int32) (p s k : Nat) : Int32 := M53 (3 * p + k) * (if sg.toInt = 2 ∧ (vo - (M56 (40 * p + s) - sa)).toInt < (M56 (40 * p + s) - sa).toInt then vo - (M56 (40 * p + s) - sa) else M56 (40 * p + s) - sa) + 5
def ofM (t : Nat → Int32) (k : Nat) : Int32 := szF (Int32.ofInt ((t k).toInt - ((t ((k + 1) % 3)).toInt + (t ((k + 2) % 3)).toInt) / 2))
def TDM (t db : Nat → Int32) (n : Int32) (f36 f37 : Nat → Int32) (m35 : Int32) (k : Nat) (v : Int32) : Prop := ∃ g : Nat → Int32, (g 20 = ofM t k ∧ g 21 = db k ∧ g 22 = n ∧ g 23 = Int32.ofNat k) ∧ SAYP g f36 f37 128 m35 v
def DRM (t db : Nat → Int32) (n : Int32) (has : Int32) (f36 f37 : Nat → Int32) (m35 : Int32) (r : Int) : Prop := (has.toInt = 0 ∧ r = -1) ∨ (has.toInt ≠ 0 ∧ ∃ m : Int, DPP (TDM t db n f36 f37 m35) 3 r m)
/-- what told() answers -/
def TLD (day : Int32) (t w : Nat → Int32) (DR : Int → Prop) (wh r : Int32) : Prop := (wh.toInt = 0 ∧ r = day) ∨ (4 ≤ wh.toInt ∧ wh.toInt ≤ 6 ∧ r = t (wh.toInt - 4).toNat) ∨ (7 ≤ wh.toInt ∧ wh.toInt ≤ 9 ∧ r = w (wh.toInt - 7).toNat) ∨ (1 ≤ wh.toInt ∧ wh.toInt ≤ 3 ∧ ∃ dr : Int, DR dr ∧ ((wh.toInt = 1 ∧ r.toInt = dr) ∨ (wh.toInt ≠ 1 ∧ (((enX t w dr 3).toInt < (bgX t w dr 3).toInt ∧ r.toInt = -2000000000) ∨ (¬ (enX t w dr 3).toInt < (bgX t w dr 3).toInt ∧ ((wh.toInt = 2 ∧ r = bgX t w dr 3) ∨ (wh.toInt = 3 ∧ r = enX t w dr 3)))))))
theorem TLD_eq {day day' : Int32} {t w t' w' : Nat → Int32} {DR DR' : Int → Prop} {wh r r' : Int32} (hd : day = day') (h : ∀ k, k < 3 → t k = t' k ∧ w k = w' k) (hD : ∀ d d', DR d → DR' d' → d = d') (a : TLD day t w DR wh r) (b : TLD day' t' w' DR' wh r') : r = r' := by
  rcases a with ⟨a1, a2⟩ | ⟨a1, a2, a3⟩ | ⟨a1, a2, a3⟩ | ⟨a1, a2, dr, a3, a4⟩
  · rcases b with ⟨b1, b2⟩ | ⟨b1, b2, b3⟩ | ⟨b1, b2, b3⟩ | ⟨b1, b2, dr', b3, b4⟩
    · rw [a2, b2, hd]
    · exfalso; omega
    · exfalso; omega
    · exfalso; omega
  · rcases b with ⟨b1, b2⟩ | ⟨b1, b2, b3⟩ | ⟨b1, b2, b3⟩ | ⟨b1, b2, dr', b3, b4⟩
    · exfalso; omega
    · rw [a3, b3]; exact (h _ (by omega)).1
    · exfalso; omega
    · exfalso; omega
  · rcases b with ⟨b1, b2⟩ | ⟨b1, b2, b3⟩ | ⟨b1, b2, b3⟩ | ⟨b1, b2, dr', b3, b4⟩
    · exfalso; omega
    · exfalso; omega
    · rw [a3, b3]; exact (h _ (by omega)).2
    · exfalso; omega
  · rcases b with ⟨b1, b2⟩ | ⟨b1, b2, b3⟩ | ⟨b1, b2, b3⟩ | ⟨b1, b2, dr', b3, b4⟩
    · exfalso; omega
    · exfalso; omega
    · exfalso; omega
    · have e := hD dr dr' a3 b3
      subst e
      rw [← bgX_congr 3 h, ← enX_congr 3 h] at b4
      rcases a4 with ⟨a5, a6⟩ | ⟨a5, a6⟩ <;> rcases b4 with ⟨b5, b6⟩ | ⟨b5, b6⟩
      · exact i_eq.mpr (by omega)
      · exact absurd a5 b5
      · exact absurd b5 a5
      · rcases a6 with ⟨a7, a8⟩ | ⟨a7, a8⟩ <;> rcases b6 with ⟨b7, b8⟩ | ⟨b7, b8⟩
        · exact i_eq.mpr (by omega)
        · exact absurd a7 b7
        · exact absurd b7 a7
        · rcases a8 with ⟨a9, a10⟩ | ⟨a9, a10⟩ <;> rcases b8 with ⟨b9, b10⟩ | ⟨b9, b10⟩
          · rw [a10, b10]
          · exfalso; omega
          · exfalso; omega
          · rw [a10, b10]
theorem fill2 {f g t w : Nat → Int32} {i j x y : Int32} (h : ∀ k : Nat, (k : Int) < i.toInt → f k = t k ∧ g k = w k) (h0 : 0 ≤ i.toInt) (hj : j.toInt = i.toInt + 1) (hx : x = t i.toNatClampNeg) (hy : y = w i.toNatClampNeg) : ∀ k : Nat, (k : Int) < j.toInt → upd f i.toNatClampNeg x k = t k ∧ upd g i.toNatClampNeg y k = w k := by
  intro k hk
  have hc := i_clamp0 h0
  by_cases e : k = i.toNatClampNeg
  · rw [e, uq_at, uq_at]; exact ⟨hx, hy⟩
  · rw [uq_ne e, uq_ne e]; exact h k (by omega)
theorem mul_s {a b : Int} (ha : -2147483648 ≤ a ∧ a ≤ 2147483647) (hb : -2147483648 ≤ b ∧ b ≤ 2147483647) : -4611686018427387904 ≤ a * b ∧ a * b ≤ 4611686018427387904 := by
  have h1 : a * b ≤ 2147483648 * 2147483648 := by
    rcases (show 0 ≤ a ∨ a < 0 by omega) with h | h
    · rcases (show 0 ≤ b ∨ b < 0 by omega) with k | k
      · exact Int.mul_le_mul (by omega) (by omega) k (by omega)
      · have := Int.mul_nonpos_of_nonneg_of_nonpos h (show b ≤ 0 by omega); omega
    · rcases (show 0 ≤ b ∨ b < 0 by omega) with k | k
      · have := Int.mul_nonpos_of_nonpos_of_nonneg (show a ≤ 0 by omega) k; omega
      · have := Int.mul_le_mul (a := -a) (b := -b) (c := 2147483648) (d := 2147483648) (by omega) (by omega) (by omega) (by omega)
        rw [Int.neg_mul_neg] at this
        exact this
  have h2 : (-a) * b ≤ 2147483648 * 2147483648 := by
    rcases (show 0 ≤ -a ∨ -a < 0 by omega) with h | h
    · rcases (show 0 ≤ b ∨ b < 0 by omega) with k | k
      · exact Int.mul_le_mul (by omega) (by omega) k (by omega)
      · have := Int.mul_nonpos_of_nonneg_of_nonpos h (show b ≤ 0 by omega); omega
    · rcases (show 0 ≤ b ∨ b < 0 by omega) with k | k
      · have := Int.mul_nonpos_of_nonpos_of_nonneg (show -a ≤ 0 by omega) k; omega
      · have := Int.mul_le_mul (a := a) (b := -b) (c := 2147483648) (d := 2147483648) (by omega) (by omega) (by omega) (by omega)
        rw [show -a * b = a * -b by rw [Int.neg_mul, Int.mul_neg]]
        exact this
  rw [Int.neg_mul] at h2
  omega
theorem i64_32 {q : Int64} {z : Int32} {v : Int} (hq : q.toInt = v) (hz : q.toInt32 = z) : z = Int32.ofInt v := by
  rw [← hz]
  refine Int32.toInt_inj.mp ?_
  rw [Int64.toInt_toInt32, hq]
  exact Int32.toInt_ofInt.symm
theorem went_of {n d ba z : Int32} {a b c q v : Int64} (ha : n.toInt64 = a) (hb : d.toInt64 = b) (hm : c = a * b) (hv : ba.toInt64 = v) (hq : 0 < v.toInt → q.toInt = c.toInt / v.toInt) (hz : q.toInt32 = z) (h0 : 0 < ba.toInt) : z = Int32.ofInt (n.toInt * d.toInt / ba.toInt) := by
  have e1 : a.toInt = n.toInt := by rw [← ha]; exact Int32.toInt_toInt64 n
  have e2 : b.toInt = d.toInt := by rw [← hb]; exact Int32.toInt_toInt64 d
  have e3 : v.toInt = ba.toInt := by rw [← hv]; exact Int32.toInt_toInt64 ba
  have hs := mul_s ⟨i_lo n, i_hi n⟩ ⟨i_lo d, i_hi d⟩
  have e4 : c.toInt = n.toInt * d.toInt := by
    rw [hm, Int64.toInt_mul, e1, e2]
    exact lq_bmod (by omega) (by omega)
  exact i64_32 (by rw [hq (by omega), e4, e3]) hz
theorem off_of {x a b z : Int32} {X A B S q d : Int64} (hX : x.toInt64 = X) (hA : a.toInt64 = A) (hB : b.toInt64 = B) (hS : S = A + B) (hq : 0 < (2 : Int64).toInt → q.toInt = S.toInt / (2 : Int64).toInt) (hd : d = X - q) (hz : d.toInt32 = z) : z = Int32.ofInt (x.toInt - (a.toInt + b.toInt) / 2) := by
  have e1 : A.toInt = a.toInt := by rw [← hA]; exact Int32.toInt_toInt64 a
  have e2 : B.toInt = b.toInt := by rw [← hB]; exact Int32.toInt_toInt64 b
  have e3 : X.toInt = x.toInt := by rw [← hX]; exact Int32.toInt_toInt64 x
  have two : (2 : Int64).toInt = 2 := by decide
  have la := i_lo a; have ha := i_hi a; have lb := i_lo b; have hb := i_hi b; have lx := i_lo x; have hx := i_hi x
  have e4 : S.toInt = a.toInt + b.toInt := by
    rw [hS, Int64.toInt_add, e1, e2]
    exact lq_bmod (by omega) (by omega)
  have e5 : q.toInt = (a.toInt + b.toInt) / 2 := by
    have := hq (by omega)
    rw [this, e4, two]
  refine i64_32 ?_ hz
  rw [hd, Int64.toInt_sub, e3, e5]
  exact lq_bmod (by omega) (by omega)
