section
/-! ===== rules as code: heights, well-formedness, the waiting ===== -/
def dl (w : Int32) : Int := if w.toInt = 1 ∨ 100 ≤ w.toInt then 1 else if w.toInt = 30 ∨ w.toInt = 70 ∨ w.toInt = 71 then 0 else -1
def okS (w : Int32) (h : Int) : Prop := (w.toInt = 1 ∨ (100 ≤ w.toInt ∧ w.toInt ≤ 123)) ∨ ((w.toInt = 30 ∨ w.toInt = 70 ∨ w.toInt = 71) ∧ 1 ≤ h) ∨ (w.toInt ≠ 1 ∧ w.toInt < 100 ∧ 2 ≤ h)
def hgt (f : Nat → Int32) (b : Nat) : Nat → Int
  | 0 => 0
  | j + 1 => hgt f b j + dl (f (b + j))
theorem hgt_succ (f : Nat → Int32) (b j : Nat) : hgt f b (j + 1) = hgt f b j + dl (f (b + j)) := rfl
def WFc (f : Nat → Int32) (b n : Nat) : Prop := ∀ j, j < n → okS (f (b + j)) (hgt f b j)
def cntB (g : Nat → Int32) : Nat → Int
  | 0 => 0
  | k + 1 => cntB g k + (if (g k).toInt = 5 ∨ (g k).toInt = 30 ∨ (g k).toInt = 70 ∨ (g k).toInt = 71 then 0 else 1)
theorem cntB_succ (g : Nat → Int32) (k : Nat) : cntB g (k + 1) = cntB g k + (if (g k).toInt = 5 ∨ (g k).toInt = 30 ∨ (g k).toInt = 70 ∨ (g k).toInt = 71 then 0 else 1) := rfl
theorem cntB_0 (g : Nat → Int32) : ∀ k : Nat, 0 ≤ cntB g k
  | 0 => Int.le_refl 0
  | k + 1 => by
    have h := cntB_0 g k
    rw [cntB_succ]
    split <;> omega
theorem hgt_congr {f g : Nat → Int32} {b c : Nat} : ∀ n : Nat, (∀ j, j < n → f (b + j) = g (c + j)) → hgt f b n = hgt g c n
  | 0, _ => rfl
  | n + 1, h => by rw [hgt_succ, hgt_succ, hgt_congr n (fun j hj => h j (by omega)), h n (by omega)]
theorem WFc_congr {f g : Nat → Int32} {b c n : Nat} (h : ∀ j, j < n → f (b + j) = g (c + j)) (hf : WFc f b n) : WFc g c n := by
  intro j hj
  rw [← h j hj, ← hgt_congr j (fun k hk => h k (by omega))]
  exact hf j hj
theorem WF_push {f : Nat → Int32} {b n : Nat} {w : Int32} (h : WFc f b n) (hw : okS w (hgt f b n)) : WFc (upd f (b + n) w) b (n + 1) ∧ hgt (upd f (b + n) w) b (n + 1) = hgt f b n + dl w := by
  have e : ∀ j, j < n → upd f (b + n) w (b + j) = f (b + j) := fun j hj => by unfold upd; rw [if_neg (by omega)]
  have e2 : upd f (b + n) w (b + n) = w := by unfold upd; rw [if_pos rfl]
  refine ⟨fun j hj => ?_, ?_⟩
  · rcases Nat.lt_or_ge j n with q | q
    · rw [e j q, hgt_congr j (g := f) (c := b) (fun k hk => e k (by omega))]; exact h j q
    · have : j = n := by omega
      subst this
      rw [e2, hgt_congr j (g := f) (c := b) (fun k hk => e k (by omega))]; exact hw
  · rw [hgt_succ, e2, hgt_congr n (g := f) (c := b) e]
theorem cntB_congr {f g : Nat → Int32} : ∀ n : Nat, (∀ j, j < n → f j = g j) → cntB f n = cntB g n
  | 0, _ => rfl
  | n + 1, h => by rw [cntB_succ, cntB_succ, cntB_congr n (fun j hj => h j (by omega)), h n (by omega)]
def PI (f g : Nat → Int32) (laid waits : Int32) (e : Int) : Prop := WFc f 256 laid.toNatClampNeg ∧ hgt f 256 laid.toNatClampNeg = cntB g waits.toNatClampNeg + e ∧ ∀ k : Nat, (k : Int) < waits.toInt → (g k).toInt = 5 ∨ (10 ≤ (g k).toInt ∧ (g k).toInt ≤ 71)
theorem PI_cast {f g : Nat → Int32} {a b : Int32} {e e2 : Int} (h : PI f g a b e) (he : e = e2) : PI f g a b e2 := by rw [← he]; exact h
theorem PI_0 {f g : Nat → Int32} {e : Int} (he : e = 0) : PI f g 0 0 e := by
  subst he
  have h0 : (0 : Int32).toNatClampNeg = 0 := by decide
  have h1 : (0 : Int32).toInt = 0 := by decide
  refine ⟨by rw [h0]; exact fun j hj => absurd hj (Nat.not_lt_zero j), by rw [h0]; rfl, fun k hk => by rw [h1] at hk; omega⟩
theorem ix256 {z a : Int32} (hz : z.toInt = 256 + a.toInt) (h0 : 0 ≤ a.toInt) : z.toNatClampNeg = 256 + a.toNatClampNeg := by
  have h1 := i_clamp0 h0
  have h2 := i_clamp0 (x := z) (by omega)
  omega
theorem PI_opd {f f2 g : Nat → Int32} {a a2 b w : Int32} {e : Int} (h : PI f g a b e) (he : e = 0) (h0 : 0 ≤ a.toInt) (hw : w.toInt = 1 ∨ (100 ≤ w.toInt ∧ w.toInt ≤ 123)) (ha : a2.toInt = a.toInt + 1) (hf : f2 = upd f (256 + a.toNatClampNeg) w) : PI f2 g a2 b 1 := by
  subst he; subst hf
  obtain ⟨h1, h2, h3⟩ := h
  obtain ⟨p1, p2⟩ := WF_push (w := w) h1 (Or.inl hw)
  refine ⟨?_, ?_, h3⟩
  · rw [clampS h0 ha]; exact p1
  · rw [clampS h0 ha, p2, h2]
    unfold dl
    rw [if_pos (by omega)]
    omega
theorem PI_pop {f f2 g : Nat → Int32} {a a2 b b2 w : Int32} (h : PI f g a b 1) (h0 : 0 ≤ a.toInt) (hb0 : 0 ≤ b2.toInt) (hb : b.toInt = b2.toInt + 1) (hw : w = g b2.toNatClampNeg) (hw5 : w.toInt ≠ 5) (ha : a2.toInt = a.toInt + 1) (hf : f2 = upd f (256 + a.toNatClampNeg) w) : PI f2 g a2 b2 1 := by
  subst hf
  obtain ⟨h1, h2, h3⟩ := h
  have hc := i_clamp0 hb0
  have hw3 := h3 b2.toNatClampNeg (by omega)
  rw [← hw] at hw3
  rw [clampS hb0 hb, cntB_succ, ← hw] at h2
  have hB := cntB_0 g b2.toNatClampNeg
  by_cases hu : w.toInt = 30 ∨ w.toInt = 70 ∨ w.toInt = 71
  · rw [if_pos (by omega)] at h2
    obtain ⟨p1, p2⟩ := WF_push (w := w) h1 (Or.inr (Or.inl ⟨hu, by omega⟩))
    refine ⟨by rw [clampS h0 ha]; exact p1, ?_, fun k hk => h3 k (by omega)⟩
    rw [clampS h0 ha, p2, h2]
    unfold dl
    rw [if_neg (by omega), if_pos hu]
    omega
  · rw [if_neg (by omega)] at h2
    obtain ⟨p1, p2⟩ := WF_push (w := w) h1 (Or.inr (Or.inr ⟨by omega, by omega, by omega⟩))
    refine ⟨by rw [clampS h0 ha]; exact p1, ?_, fun k hk => h3 k (by omega)⟩
    rw [clampS h0 ha, p2, h2]
    unfold dl
    rw [if_neg (by omega), if_neg hu]
    omega
theorem PI_push {f g : Nat → Int32} {a b b2 w : Int32} {e : Int} (h : PI f g a b e) (hb0 : 0 ≤ b.toInt) (hb : b2.toInt = b.toInt + 1) (hw : (e = 0 ∧ (w.toInt = 5 ∨ w.toInt = 30 ∨ w.toInt = 70 ∨ w.toInt = 71)) ∨ (e = 1 ∧ 10 ≤ w.toInt ∧ w.toInt < 70 ∧ w.toInt ≠ 30)) : PI f (upd g b.toNatClampNeg w) a b2 0 := by
  obtain ⟨h1, h2, h3⟩ := h
  have hc := i_clamp0 hb0
  have e1 : ∀ j, j < b.toNatClampNeg → g j = upd g b.toNatClampNeg w j := fun j hj => by unfold upd; rw [if_neg (by omega)]
  have e2 : upd g b.toNatClampNeg w b.toNatClampNeg = w := by unfold upd; rw [if_pos rfl]
  refine ⟨h1, ?_, fun k hk => ?_⟩
  · rw [clampS hb0 hb, cntB_succ, e2, h2, cntB_congr b.toNatClampNeg e1]
    rcases hw with hw | hw
    · rw [if_pos hw.2]; omega
    · rw [if_neg (by omega)]; omega
  · by_cases q : k = b.toNatClampNeg
    · subst q
      rw [e2]; omega
    · rw [← e1 k (by omega)]; exact h3 k (by omega)
theorem PI_open {f g : Nat → Int32} {a b b2 : Int32} (h : PI f g a b 1) (hb0 : 0 ≤ b2.toInt) (hb : b.toInt = b2.toInt + 1) (hw : (g b2.toNatClampNeg).toInt = 5) : PI f g a b2 1 := by
  obtain ⟨h1, h2, h3⟩ := h
  rw [clampS hb0 hb, cntB_succ, if_pos (Or.inl hw)] at h2
  exact ⟨h1, by omega, fun k hk => h3 k (by omega)⟩
def LOW (f g : Nat → Int32) : Prop := ∀ k : Nat, k < 256 → g k = f k
theorem LOW_r {f : Nat → Int32} : LOW f f := fun _ _ => rfl
theorem LOW_t {f g h : Nat → Int32} (h1 : LOW f g) (h2 : LOW g h) : LOW f h := fun k hk => (h2 k hk).trans (h1 k hk)
theorem LOW_u {f g f2 : Nat → Int32} {a : Nat} {w : Int32} (h : LOW f g) (hf : f2 = upd g (256 + a) w) : LOW f f2 := fun k hk => by
  rw [hf]; unfold upd; rw [if_neg (by omega)]; exact h k hk
def JW (f g : Nat → Int32) : Prop := ∀ w : Nat, w < 2 → WFc f (128 * w) (g w).toNatClampNeg
theorem JW_low {f g h : Nat → Int32} (hj : JW f g) (hg : ∀ k : Nat, k < 2 → 0 ≤ (g k).toInt ∧ (g k).toInt ≤ 127) (hl : LOW f h) : JW h g := fun w hw => by
  refine WFc_congr (fun j hj => ?_) (hj w hw)
  have h1 := hg w hw
  have h2 := i_clamp0 h1.1
  exact (hl _ (by omega)).symm
/-- what a step finds -/
theorem WF_at {f : Nat → Int32} {b n : Nat} {z i : Int32} {H : Int} (h : WFc f b n) (hb : (b : Int) ≤ i.toInt) (hi : i.toInt < b + n) (hz : z = f i.toNatClampNeg) (hH : H = hgt f b (i.toInt - b).toNat) : (z.toInt = 1 ∨ (100 ≤ z.toInt ∧ z.toInt ≤ 123)) ∨ ((z.toInt = 30 ∨ z.toInt = 70 ∨ z.toInt = 71) ∧ 1 ≤ H) ∨ (z.toInt ≠ 1 ∧ z.toInt < 100 ∧ 2 ≤ H) := by
  have hc := i_clamp0 (x := i) (by omega)
  have h1 := h (i.toInt - b).toNat (by omega)
  rw [show b + (i.toInt - b).toNat = i.toNatClampNeg by omega, ← hz, ← hH] at h1
  exact h1
theorem hgt_at {f : Nat → Int32} {b : Nat} {i j : Int32} (hb : (b : Int) ≤ i.toInt) (hj : j.toInt = i.toInt + 1) : hgt f b (j.toInt - b).toNat = hgt f b (i.toInt - b).toNat + dl (f i.toNatClampNeg) := by
  have hc := i_clamp0 (x := i) (by omega)
  rw [show (j.toInt - b).toNat = (i.toInt - b).toNat + 1 by omega, hgt_succ, show b + (i.toInt - b).toNat = i.toNatClampNeg by omega]
/-- a rule is laid into its place -/
def CPY (f g : Nat → Int32) (b n : Nat) : Prop := ∀ k : Nat, g k = if b ≤ k ∧ k < b + n then f (256 + (k - b)) else f k
theorem CPY_0 {f : Nat → Int32} {b n : Nat} (h : n = 0) : CPY f f b n := fun k => by rw [if_neg (by omega)]
theorem CPY_s {f g : Nat → Int32} {b n : Nat} {x i j : Int32} (h : CPY f g b n) (hb : b + n ≤ 256) (hi : i.toNatClampNeg = b + n) (hj : j.toNatClampNeg = 256 + n) (hx : x = g j.toNatClampNeg) : CPY f (upd g i.toNatClampNeg x) b (n + 1) := fun k => by
  unfold upd
  by_cases e : k = i.toNatClampNeg
  · rw [if_pos e, hx, h, if_neg (by omega), if_pos (by omega), hj, e, hi]
    congr 1
    omega
  · rw [if_neg e, h k]
    by_cases q : b ≤ k ∧ k < b + n
    · rw [if_pos q, if_pos (by omega)]
    · rw [if_neg q, if_neg (by omega)]
theorem JW_cpy {f g r : Nat → Int32} {w : Nat} {a : Int32} {n : Nat} (hj : JW f r) (hr : ∀ k : Nat, k < 2 → 0 ≤ (r k).toInt ∧ (r k).toInt ≤ 127) (hw : w < 2) (hn : n ≤ 127) (ha : a.toNatClampNeg = n) (hf : WFc f 256 n) (hc : CPY f g (128 * w) n) : JW g (upd r w a) := fun v hv => by
  by_cases e : v = w
  · subst e
    have e2 : upd r v a v = a := by unfold upd; rw [if_pos rfl]
    rw [e2, ha]
    refine WFc_congr (fun j hj2 => ?_) hf
    rw [hc, if_pos (by omega)]
    congr 1
    omega
  · have e2 : upd r w a v = r v := by unfold upd; rw [if_neg e]
    have h1 := hr v hv
    have h2 := i_clamp0 h1.1
    rw [e2]
    refine WFc_congr (fun j hj2 => ?_) (hj v hv)
    rw [hc, if_neg (by omega)]
/-- what the reference's rule() does: a fault and where it is, or a rule that is laid down at its place -/
def RMK (wh : Int32) (f34 f35 f36 f37 g34 g35 g36 g37 : Nat → Int32) (R : Int → List (Int × Int) → Prop) (r : Int32) : Prop :=
  (∃ v : Int, 0 ≤ v ∧ r.toInt = -100 - v ∧ R v [] ∧ g34 = f34 ∧ g35 = f35 ∧ LOW f36 g36 ∧ LOW f37 g37) ∨
  (r.toInt = 1 ∧ ∃ (la : Int32) (h36 h37 : Nat → Int32), 0 ≤ la.toInt ∧ la.toInt ≤ 120 ∧ R (-1) (oM h36 h37 256 la.toNatClampNeg) ∧ LOW f36 h36 ∧ LOW f37 h37 ∧ g34 = upd f34 wh.toNatClampNeg 1 ∧ g35 = upd f35 wh.toNatClampNeg la ∧ CPY h36 g36 (128 * wh.toNatClampNeg) la.toNatClampNeg ∧ CPY h37 g37 (128 * wh.toNatClampNeg) la.toNatClampNeg)
end
section
/-! ===== what a rule says ===== -/
def bthF (t : Int) (a b : Int32) : Int32 := if t = 10 then (if a.toInt ≠ 0 ∨ b.toInt ≠ 0 then 1 else 0) else if t = 20 then (if a.toInt ≠ 0 ∧ b.toInt ≠ 0 then 1 else 0) else if t = 40 then (if a.toInt < b.toInt then 1 else 0) else if t = 41 then (if a.toInt = b.toInt then 1 else 0) else if t = 42 then (if b.toInt < a.toInt then 1 else 0) else if t = 50 then a + b else if t = 51 then a - b else if t = 60 then a * b else if b.toInt = 0 then 0 else if b.toInt = -1 then -a else a / b
def unL (t : Int) (a : Int32) : Int32 := if t = 30 then (if a.toInt = 0 then 1 else 0) else if t = 71 ∧ 0 ≤ a.toInt then a else -a
def un1 (t : Int) : List Int32 → List Int32
  | [] => []
  | a :: s => unL t a :: s
def bi2 (t : Int) : List Int32 → List Int32
  | b :: a :: s => bthF t a b :: s
  | s => s
def stL (nm : Nat → Int32) (x : Int × Int) (s : List Int32) : List Int32 := if x.1 = 1 then Int32.ofInt x.2 :: s else if 100 ≤ x.1 then nm (x.1 - 100).toNat :: s else if x.1 = 30 ∨ x.1 = 70 ∨ x.1 = 71 then un1 x.1 s else bi2 x.1 s
def evL (nm : Nat → Int32) : List (Int × Int) → List Int32
  | [] => []
  | x :: O => stL nm x (evL nm O)
def stkI (f : Nat → Int32) : Nat → List Int32
  | 0 => []
  | n + 1 => f n :: stkI f n
theorem stkI_len (f : Nat → Int32) : ∀ n : Nat, (stkI f n).length = n
  | 0 => rfl
  | n + 1 => by unfold stkI; rw [List.length_cons, stkI_len f n]
theorem stkI_congr {f g : Nat → Int32} : ∀ n : Nat, (∀ i, i < n → f i = g i) → stkI f n = stkI g n
  | 0, _ => rfl
  | n + 1, h => by unfold stkI; rw [h n (by omega), stkI_congr n (fun i hi => h i (by omega))]
theorem stkI_upd {f : Nat → Int32} {n : Nat} {x : Int32} : stkI (upd f n x) (n + 1) = x :: stkI f n := by
  show upd f n x n :: stkI (upd f n x) n = _
  rw [uq_at, stkI_congr n (fun i hi => uq_ne (by omega))]
section SAYS
variable {f45 f36 f37 nm : Nat → Int32} {B : Nat} {n k what num n' k' i j y z a b : Int32}
theorem oM_step (hk : (B : Int) ≤ k.toInt) (hk' : k'.toInt = k.toInt + 1) : oM f36 f37 B (k'.toNatClampNeg - B) = ((f36 k.toNatClampNeg).toInt, if (f36 k.toNatClampNeg).toInt = 1 then (f37 k.toNatClampNeg).toInt else 0) :: oM f36 f37 B (k.toNatClampNeg - B) := by
  have h1 := i_clamp0 (x := k) (by omega)
  have h2 := i_clamp0 (x := k') (by omega)
  rw [show k'.toNatClampNeg - B = (k.toNatClampNeg - B) + 1 by omega]
  show ((f36 (B + (k.toNatClampNeg - B))).toInt, if (f36 (B + (k.toNatClampNeg - B))).toInt = 1 then (f37 (B + (k.toNatClampNeg - B))).toInt else 0) :: _ = _
  rw [show B + (k.toNatClampNeg - B) = k.toNatClampNeg by omega]
theorem SY_num (inv : stkI f45 n.toNatClampNeg = evL nm (oM f36 f37 B (k.toNatClampNeg - B))) (hk : (B : Int) ≤ k.toInt) (hk' : k'.toInt = k.toInt + 1) (hw : what = f36 k.toNatClampNeg) (h1 : what.toInt = 1) (hv : y = f37 k.toNatClampNeg) (hn : 0 ≤ n.toInt) (hn' : n'.toInt = n.toInt + 1) : stkI (upd f45 n.toNatClampNeg y) n'.toNatClampNeg = evL nm (oM f36 f37 B (k'.toNatClampNeg - B)) := by
  rw [oM_step hk hk', clampS hn hn', stkI_upd, inv, ← hw, if_pos h1]
  show _ = stL nm (what.toInt, _) _
  unfold stL
  rw [if_pos h1, ← hv]
  show _ = Int32.ofInt y.toInt :: _
  rw [Int32.ofInt_toInt]
theorem SY_nam (inv : stkI f45 n.toNatClampNeg = evL nm (oM f36 f37 B (k.toNatClampNeg - B))) (hk : (B : Int) ≤ k.toInt) (hk' : k'.toInt = k.toInt + 1) (hw : what = f36 k.toNatClampNeg) (h1 : 100 ≤ what.toInt) (hi : i.toInt = what.toInt - 100) (hv : y = nm i.toNatClampNeg) (hn : 0 ≤ n.toInt) (hn' : n'.toInt = n.toInt + 1) : stkI (upd f45 n.toNatClampNeg y) n'.toNatClampNeg = evL nm (oM f36 f37 B (k'.toNatClampNeg - B)) := by
  have c := i_clamp0 (x := i) (by omega)
  rw [oM_step hk hk', clampS hn hn', stkI_upd, inv, ← hw]
  show _ = stL nm (what.toInt, _) _
  unfold stL
  rw [if_neg (by show ¬ what.toInt = 1; omega), if_pos (by exact h1), hv]
  show _ = nm (what.toInt - 100).toNat :: _
  rw [show (what.toInt - 100).toNat = i.toNatClampNeg by omega]
theorem stk_1 {f : Nat → Int32} {n i : Int32} (h : 1 ≤ n.toInt) (hi : i.toInt = n.toInt - 1) : stkI f n.toNatClampNeg = f i.toNatClampNeg :: stkI f i.toNatClampNeg := by
  have h1 := i_clamp0 (x := n) (by omega)
  have h2 := i_clamp0 (x := i) (by omega)
  rw [show n.toNatClampNeg = i.toNatClampNeg + 1 by omega]
  rfl
theorem SY_un (inv : stkI f45 n.toNatClampNeg = evL nm (oM f36 f37 B (k.toNatClampNeg - B))) (hk : (B : Int) ≤ k.toInt) (hk' : k'.toInt = k.toInt + 1) (hw : what = f36 k.toNatClampNeg) (h1 : what.toInt = 30 ∨ what.toInt = 70 ∨ what.toInt = 71) (hn : 1 ≤ n.toInt) (hi : i.toInt = n.toInt - 1) (hj : j.toInt = n.toInt - 1) (hz : z = f45 j.toNatClampNeg) (hy : y = unL what.toInt z) : stkI (upd f45 i.toNatClampNeg y) n.toNatClampNeg = evL nm (oM f36 f37 B (k'.toNatClampNeg - B)) := by
  have ej : j = i := i_eq.mpr (by omega)
  subst ej
  rw [oM_step hk hk', stk_1 hn hi, uq_at, stkI_congr (f := upd f45 j.toNatClampNeg y) (g := f45) j.toNatClampNeg (fun x hx => uq_ne (by omega)), ← hw]
  show _ = stL nm (what.toInt, _) (evL nm _)
  rw [← inv, stk_1 hn hi, ← hz]
  unfold stL
  rw [if_neg (by show ¬ what.toInt = 1; omega), if_neg (by show ¬ 100 ≤ what.toInt; omega), if_pos (by exact h1), hy]
  rfl
theorem SY_bin (inv : stkI f45 n.toNatClampNeg = evL nm (oM f36 f37 B (k.toNatClampNeg - B))) (hk : (B : Int) ≤ k.toInt) (hk' : k'.toInt = k.toInt + 1) (hw : what = f36 k.toNatClampNeg) (h1 : what.toInt ≠ 1 ∧ ¬ 100 ≤ what.toInt ∧ what.toInt ≠ 30 ∧ what.toInt ≠ 70 ∧ what.toInt ≠ 71) (hn : 2 ≤ n.toInt) (hn' : n'.toInt = n.toInt - 1) (hi : i.toInt = n'.toInt - 1) (hj : j.toInt = n'.toInt - 1) (ha : a = f45 j.toNatClampNeg) (hb : b = f45 n'.toNatClampNeg) (hy : y = bthF what.toInt a b) : stkI (upd f45 i.toNatClampNeg y) n'.toNatClampNeg = evL nm (oM f36 f37 B (k'.toNatClampNeg - B)) := by
  have ej : j = i := i_eq.mpr (by omega)
  subst ej
  rw [oM_step hk hk', stk_1 (n := n') (i := j) (by omega) hi, uq_at, stkI_congr (f := upd f45 j.toNatClampNeg y) (g := f45) j.toNatClampNeg (fun x hx => uq_ne (by omega)), ← hw]
  show _ = stL nm (what.toInt, _) (evL nm _)
  rw [← inv, stk_1 (i := n') (by omega) hn', stk_1 (n := n') (i := j) (by omega) hi, ← ha, ← hb]
  unfold stL
  rw [if_neg (by exact h1.1), if_neg (by exact h1.2.1), if_neg (by show ¬ (what.toInt = 30 ∨ what.toInt = 70 ∨ what.toInt = 71); omega), hy]
  rfl
end SAYS
/-- what it says: the lowest of the pile -/
def SAYP (nm f36 f37 : Nat → Int32) (B : Nat) (sz r : Int32) : Prop := ∃ (f : Nat → Int32) (n : Nat), stkI f n = evL nm (oM f36 f37 B sz.toNatClampNeg) ∧ r = f 0
/- the class's evaluation -/
def wo2 (sg : Int) (x y : Int32) : Int32 := if sg = 4 then (if x.toInt ≠ 0 ∨ y.toInt ≠ 0 then 1 else 0) else if sg = 5 then (if x.toInt ≠ 0 ∧ y.toInt ≠ 0 then 1 else 0) else if sg = 60 then (if x.toInt < y.toInt then 1 else 0) else if sg = 61 then (if x.toInt = y.toInt then 1 else 0) else if sg = 62 then (if y.toInt < x.toInt then 1 else 0) else if sg = 43 then x + y else if sg = 45 then x - y else if sg = 42 then x * y else if y.toInt = 0 then 0 else x / y
def wo1 (sg : Int) (x : Int32) : Int32 := if sg = 6 then (if x.toInt = 0 then 1 else 0) else if sg = 7 then (if x.toInt < 0 then -x else x) else -x
def evC1 (sg : Int) : List Int32 → List Int32
  | [] => []
  | a :: s => wo1 sg a :: s
def evC2 (sg : Int) : List Int32 → List Int32
  | b :: a :: s => wo2 sg a b :: s
  | s => s
def stC2 (nx : Nat → Int32) (sg v : Int32) (s : List Int32) : List Int32 :=
  if sg.toInt = 2 ∧ (s.length : Int) < 120 then v :: s else if sg.toInt = 3 ∧ (s.length : Int) < 120 ∧ 0 ≤ v.toInt ∧ v.toInt < 9 then nx v.toNatClampNeg :: s else if (sg.toInt = 6 ∨ sg.toInt = 7 ∨ sg.toInt = 8) ∧ 1 ≤ (s.length : Int) then evC1 sg.toInt s else if 2 ≤ (s.length : Int) then evC2 sg.toInt s else s
def evC (sg va nx : Nat → Int32) : Nat → List Int32
  | 0 => []
  | i + 1 => stC2 nx (sg i) (va i) (evC sg va nx i)
theorem evC_s (sg va nx : Nat → Int32) (i : Nat) : evC sg va nx (i + 1) = stC2 nx (sg i) (va i) (evC sg va nx i) := rfl
theorem div_m1 (a b : Int32) (h : b.toInt = -1) : a / b = -a := by
  refine i_eq.mpr ?_
  rw [Int32.toInt_div, Int32.toInt_neg, h]
  congr 1
  rw [show (-1 : Int) = -(1 : Int) from rfl, Int.tdiv_neg, Int.tdiv_one]
theorem wo2_eq {sg : Int} {x y : Int32} (h : sg = 4 ∨ sg = 5 ∨ sg = 60 ∨ sg = 61 ∨ sg = 62 ∨ sg = 43 ∨ sg = 45 ∨ sg = 42 ∨ sg = 47) : wo2 sg x y = bthF (cop sg) x y := by
  rcases h with h | h | h | h | h | h | h | h | h <;> subst h
  all_goals first
    | rfl
    | (show (if y.toInt = 0 then (0 : Int32) else x / y) = (if y.toInt = 0 then 0 else if y.toInt = -1 then -x else x / y)
       by_cases c : y.toInt = 0
       · rw [if_pos c, if_pos c]
       · rw [if_neg c, if_neg c]
         by_cases d : y.toInt = -1
         · rw [if_pos d, div_m1 x y d]
         · rw [if_neg d])
theorem wo1_eq {sg : Int} {x : Int32} (h : sg = 6 ∨ sg = 7 ∨ sg = 8) : wo1 sg x = unL (cop sg) x := by
  rcases h with h | h | h <;> subst h
  · rfl
  · show (if x.toInt < 0 then -x else x) = (if (71 : Int) = 71 ∧ 0 ≤ x.toInt then x else -x)
    by_cases c : x.toInt < 0
    · rw [if_pos c, if_neg (by omega)]
    · rw [if_neg c, if_pos (by omega)]
  · rfl
/- heights of a text that was read -/
def dlO (t : Int) : Int := if t = 1 ∨ 100 ≤ t then 1 else if t = 30 ∨ t = 70 ∨ t = 71 then 0 else -1
def hO : List (Int × Int) → Int
  | [] => 0
  | x :: O => hO O + dlO x.1
def okO (N : Int → Prop) : List (Int × Int) → Prop
  | [] => True
  | x :: O => okO N O ∧ ((x.1 = 30 ∨ x.1 = 70 ∨ x.1 = 71) → 1 ≤ hO O) ∧ (¬ (x.1 = 1 ∨ 100 ≤ x.1 ∨ x.1 = 30 ∨ x.1 = 70 ∨ x.1 = 71) → 2 ≤ hO O) ∧ (100 ≤ x.1 → N (x.1 - 100))
theorem evL_len {nm : Nat → Int32} {N : Int → Prop} : ∀ O : List (Int × Int), okO N O → ((evL nm O).length : Int) = hO O
  | [], _ => rfl
  | x :: O, h => by
    have ih := evL_len (nm := nm) O h.1
    show ((stL nm x (evL nm O)).length : Int) = hO O + dlO x.1
    unfold stL dlO
    by_cases c1 : x.1 = 1
    · rw [if_pos c1, if_pos (Or.inl c1), List.length_cons]; omega
    · rw [if_neg c1]
      by_cases c2 : 100 ≤ x.1
      · rw [if_pos c2, if_pos (Or.inr c2), List.length_cons]; omega
      · rw [if_neg c2, if_neg (show ¬ (x.1 = 1 ∨ 100 ≤ x.1) by omega)]
        by_cases c3 : x.1 = 30 ∨ x.1 = 70 ∨ x.1 = 71
        · rw [if_pos c3, if_pos c3]
          have h1 := h.2.1 c3
          cases e : evL nm O with
          | nil => rw [e] at ih; have : hO O = 0 := ih.symm; omega
          | cons a s => rw [e] at ih; show (((unL x.1 a :: s).length : Nat) : Int) = _; rw [List.length_cons] at ih ⊢; omega
        · rw [if_neg c3, if_neg c3]
          have h2 := h.2.2.1 (by omega)
          cases e : evL nm O with
          | nil => rw [e] at ih; have : hO O = 0 := ih.symm; omega
          | cons a s =>
            cases s with
            | nil => rw [e] at ih; have : (1 : Int) = hO O := ih; omega
            | cons b s => rw [e] at ih; show (((bthF x.1 b a :: s).length : Nat) : Int) = _; rw [List.length_cons, List.length_cons] at ih; rw [List.length_cons]; omega
theorem evL_congr {nm nm' : Nat → Int32} {N : Int → Prop} (hn : ∀ i : Nat, N i → nm i = nm' i) : ∀ O : List (Int × Int), okO N O → evL nm O = evL nm' O
  | [], _ => rfl
  | x :: O, h => by
    show stL nm x (evL nm O) = stL nm' x (evL nm' O)
    rw [evL_congr hn O h.1]
    unfold stL
    by_cases c1 : x.1 = 1
    · rw [if_pos c1, if_pos c1]
    · rw [if_neg c1, if_neg c1]
      by_cases c2 : 100 ≤ x.1
      · have h3 := h.2.2.2 c2
        rw [if_pos c2, if_pos c2, hn (x.1 - 100).toNat (by rw [show (((x.1 - 100).toNat : Nat) : Int) = x.1 - 100 by omega]; exact h3)]
      · rw [if_neg c2, if_neg c2]
/-- the kinds that are laid -/
def VT (t : Int) : Prop := t = 1 ∨ 100 ≤ t ∨ t = 10 ∨ t = 20 ∨ t = 30 ∨ t = 40 ∨ t = 41 ∨ t = 42 ∨ t = 50 ∨ t = 51 ∨ t = 60 ∨ t = 61 ∨ t = 70 ∨ t = 71
theorem popK_Q {Q : Int → Prop} {k : Int} (hk : 1 ≤ k) : ∀ (S : List Int) (O : List (Int × Int)), (∀ x ∈ S, x = 5 ∨ Q x) → (∀ y ∈ O, Q y.1) → (∀ x ∈ (popK k S O).1, x = 5 ∨ Q x) ∧ ∀ y ∈ (popK k S O).2, Q y.1
  | [], O, _, hO => ⟨fun x hx => absurd hx (by simp [popK]), hO⟩
  | x :: S, O, hS, hO => by
    unfold popK
    by_cases c : k ≤ tgt x
    · rw [if_pos c]
      refine popK_Q hk S _ (fun y hy => hS y (List.mem_cons_of_mem _ hy)) (fun y hy => ?_)
      rcases List.mem_cons.mp hy with q | q
      · rw [q]
        rcases hS x List.mem_cons_self with h | h
        · rw [h] at c; exact absurd c (by show ¬ k ≤ tgt 5; have : tgt 5 = 0 := by decide
                                          omega)
        · exact h
      · exact hO y q
    · rw [if_neg c]; exact ⟨hS, hO⟩
theorem RUN_all {K V : Nat → Int} {s e : Nat → Nat} {Q : Int → Prop} (hQ : ∀ a, K a = 1 ∨ 100 ≤ K a ∨ (10 ≤ K a ∧ K a < 70 ∧ K a ≠ 30) → Q (K a)) (h3 : Q 30) (h7 : Q 70) (h1 : Q 71) : ∀ (F : Nat) (w m : Bool) (S : List Int) (O : List (Int × Int)) (a : Nat) (res : Int × List (Int × Int)), (∀ x ∈ S, x = 5 ∨ Q x) → (∀ y ∈ O, Q y.1) → RUN K V s e F w m S O a res → ∀ y ∈ res.2, Q y.1
  | 0, _, _, _, _, _, _, _, _, h => h.elim
  | F + 1, w, m, S, O, a, res, hS, hO, h => by
    have ih := fun w m S O a res hS hO hr => RUN_all (K := K) (V := V) (s := s) (e := e) hQ h3 h7 h1 F w m S O a res hS hO hr
    have nil : ∀ {v : Int}, res = (v, []) → ∀ y ∈ res.2, Q y.1 := fun e y hy => by rw [e] at hy; exact absurd hy (by simp)
    have hp := fun k hk => popK_Q (Q := Q) (k := k) hk S O hS hO
    unfold RUN at h
    split at h
    · split at h
      · rename_i c2
        split at h
        · exact nil h
        · refine ih _ _ _ _ _ _ (fun x hx => ?_) hO h
          rcases List.mem_cons.mp hx with q | q
          · rw [q]
            rcases c2 with c | c | c | c
            · rw [if_neg (by omega), c.1]; exact Or.inr h3
            · rw [if_pos c]; exact Or.inr h7
            · rw [if_neg (by omega), c]; exact Or.inl rfl
            · rw [if_neg (by omega), c]; exact Or.inr h1
          · exact hS x q
      · split at h
        · rename_i c3
          refine ih _ _ _ _ _ _ hS (fun y hy => ?_) h
          rcases List.mem_cons.mp hy with q | q
          · rw [q]; exact hQ a (by omega)
          · exact hO y q
        · exact nil h
    · split at h
      · split at h
        · exact nil h
        · refine ih _ _ _ _ _ _ (fun x hx => (hp 1 (by omega)).1 x (List.mem_of_mem_tail hx)) (hp 1 (by omega)).2 h
      · split at h
        · split at h
          · rw [h]; exact (hp 1 (by omega)).2
          · exact nil h
        · rename_i c0
          split at h
          · exact nil h
          · rename_i c1
            split at h
            · exact nil h
            · have hr : 1 ≤ rlT (K a) := by unfold rlT; split <;> omega
              refine ih _ _ _ _ _ _ (fun x hx => ?_) (hp _ hr).2 h
              rcases List.mem_cons.mp hx with q | q
              · rw [q]; exact Or.inr (hQ a (by omega))
              · exact (hp _ hr).1 x q
theorem hO_oM (f g : Nat → Int32) (b : Nat) : ∀ k : Nat, hO (oM f g b k) = hgt f b k
  | 0 => rfl
  | k + 1 => by
    show hO (oM f g b k) + dlO (f (b + k)).toInt = hgt f b k + dl (f (b + k))
    rw [hO_oM f g b k]; rfl
theorem okO_oM {f g : Nat → Int32} {b : Nat} {N : Int → Prop} : ∀ k : Nat, WFc f b k → (∀ y ∈ oM f g b k, 100 ≤ y.1 → N (y.1 - 100)) → okO N (oM f g b k)
  | 0, _, _ => trivial
  | k + 1, h, hN => by
    have ih := okO_oM (g := g) (N := N) k (fun j hj => h j (by omega)) (fun y hy => hN y (List.mem_cons_of_mem _ hy))
    have h0 := h k (by omega)
    refine ⟨ih, fun c => ?_, fun c => ?_, fun c => hN _ List.mem_cons_self c⟩
    · rw [hO_oM]
      rcases h0 with q | q | q
      · exfalso; have c' : (f (b + k)).toInt = 30 ∨ (f (b + k)).toInt = 70 ∨ (f (b + k)).toInt = 71 := c; omega
      · exact q.2
      · omega
    · rw [hO_oM]
      have c' : ¬ ((f (b + k)).toInt = 1 ∨ 100 ≤ (f (b + k)).toInt ∨ (f (b + k)).toInt = 30 ∨ (f (b + k)).toInt = 70 ∨ (f (b + k)).toInt = 71) := c
      rcases h0 with q | q | q
      · omega
      · omega
      · exact q.2.2
theorem hO_le : ∀ O : List (Int × Int), hO O ≤ (O.length : Int)
  | [] => Int.le_refl 0
  | x :: O => by
    have ih := hO_le O
    show hO O + dlO x.1 ≤ ((x :: O).length : Int)
    rw [List.length_cons]
    unfold dlO
    split
    · omega
    · split <;> omega
theorem oC_len (nb : Int) (sg va : Nat → Int32) : ∀ k : Nat, (oC nb sg va k).length = k
  | 0 => rfl
  | k + 1 => by unfold oC; rw [List.length_cons, oC_len nb sg va k]
theorem cop_v {x : Int} (h : VT (cop x)) : x = 4 ∨ x = 5 ∨ x = 6 ∨ x = 7 ∨ x = 8 ∨ x = 60 ∨ x = 61 ∨ x = 62 ∨ x = 43 ∨ x = 45 ∨ x = 42 ∨ x = 47 := by
  by_cases c : x = 4 ∨ x = 5 ∨ x = 6 ∨ x = 7 ∨ x = 8 ∨ x = 60 ∨ x = 61 ∨ x = 62 ∨ x = 43 ∨ x = 45 ∨ x = 42 ∨ x = 47
  · exact c
  · have : cop x = 0 := by unfold cop; omega
    rw [this] at h
    unfold VT at h
    omega
/-- the class's evaluation of the same text -/
theorem evC_eq {sg va nx nm : Nat → Int32} {nb : Int} {N : Int → Prop} (hnb : 0 ≤ nb) (hn : ∀ i : Nat, N i → nb ≤ i ∧ (i : Int) - nb < 9 ∧ nx ((i : Int) - nb).toNat = nm i) : ∀ k : Nat, k ≤ 120 → okO N (oC nb sg va k) → (∀ y ∈ oC nb sg va k, VT y.1) → evC sg va nx k = evL nm (oC nb sg va k)
  | 0, _, _, _ => rfl
  | k + 1, hk, h, hv => by
    have ih := evC_eq (nx := nx) (nm := nm) hnb hn k (by omega) h.1 (fun y hy => hv y (List.mem_cons_of_mem _ hy))
    have hl := evL_len (nm := nm) (N := N) (oC nb sg va k) h.1
    have hle := hO_le (oC nb sg va k)
    rw [oC_len] at hle
    have hv0 : VT (stC nb (sg k).toInt (va k).toInt).1 := hv _ List.mem_cons_self
    have hu : ((stC nb (sg k).toInt (va k).toInt).1 = 30 ∨ (stC nb (sg k).toInt (va k).toInt).1 = 70 ∨ (stC nb (sg k).toInt (va k).toInt).1 = 71) → 1 ≤ hO (oC nb sg va k) := h.2.1
    have hb : ¬ ((stC nb (sg k).toInt (va k).toInt).1 = 1 ∨ 100 ≤ (stC nb (sg k).toInt (va k).toInt).1 ∨ (stC nb (sg k).toInt (va k).toInt).1 = 30 ∨ (stC nb (sg k).toInt (va k).toInt).1 = 70 ∨ (stC nb (sg k).toInt (va k).toInt).1 = 71) → 2 ≤ hO (oC nb sg va k) := h.2.2.1
    have hN : 100 ≤ (stC nb (sg k).toInt (va k).toInt).1 → N ((stC nb (sg k).toInt (va k).toInt).1 - 100) := h.2.2.2
    rw [evC_s, ih]
    show stC2 nx (sg k) (va k) (evL nm (oC nb sg va k)) = stL nm (stC nb (sg k).toInt (va k).toInt) (evL nm (oC nb sg va k))
    unfold stC2
    by_cases c2 : (sg k).toInt = 2
    · rw [if_pos ⟨c2, by omega⟩]
      have e : stC nb (sg k).toInt (va k).toInt = (1, (va k).toInt) := by unfold stC; rw [if_pos c2]
      rw [e]
      show _ = (if (1 : Int) = 1 then Int32.ofInt (va k).toInt :: evL nm (oC nb sg va k) else _)
      rw [if_pos rfl, Int32.ofInt_toInt]
    · rw [if_neg (fun z => c2 z.1)]
      by_cases c3 : (sg k).toInt = 3
      · by_cases c4 : 0 ≤ (va k).toInt
        · have e : stC nb (sg k).toInt (va k).toInt = (100 + nb + (va k).toInt, 0) := by unfold stC; rw [if_neg c2, if_pos c3, if_pos c4]
          rw [e] at hN ⊢
          have hN' : N (100 + nb + (va k).toInt - 100) := hN (by show 100 ≤ 100 + nb + (va k).toInt; omega)
          obtain ⟨i, hi⟩ : ∃ i : Nat, (i : Int) = 100 + nb + (va k).toInt - 100 := ⟨(100 + nb + (va k).toInt - 100).toNat, by omega⟩
          rw [← hi] at hN'
          obtain ⟨n1, n2, n3⟩ := hn i hN'
          have hc := i_clamp0 c4
          rw [if_pos ⟨c3, by omega, by omega, by omega⟩]
          show _ = (if (100 + nb + (va k).toInt : Int) = 1 then _ else if 100 ≤ 100 + nb + (va k).toInt then nm (100 + nb + (va k).toInt - 100).toNat :: evL nm (oC nb sg va k) else _)
          rw [if_neg (by omega), if_pos (by omega), show (100 + nb + (va k).toInt - 100).toNat = i by omega, ← n3, show ((i : Int) - nb).toNat = (va k).toNatClampNeg by omega]
        · exfalso
          have e : stC nb (sg k).toInt (va k).toInt = (0, 0) := by unfold stC; rw [if_neg c2, if_pos c3, if_neg c4]
          rw [e] at hv0
          exact absurd hv0 (by show ¬ VT 0; unfold VT; decide)
      · rw [if_neg (fun z => c3 z.1)]
        have e : stC nb (sg k).toInt (va k).toInt = (cop (sg k).toInt, 0) := by unfold stC; rw [if_neg c2, if_neg c3]
        rw [e] at hu hb hv0 ⊢
        have hk9 := cop_v hv0
        show _ = (if cop (sg k).toInt = 1 then _ else if 100 ≤ cop (sg k).toInt then _ else if cop (sg k).toInt = 30 ∨ cop (sg k).toInt = 70 ∨ cop (sg k).toInt = 71 then un1 (cop (sg k).toInt) (evL nm (oC nb sg va k)) else bi2 (cop (sg k).toInt) (evL nm (oC nb sg va k)))
        have hr : cop (sg k).toInt ≠ 1 ∧ cop (sg k).toInt < 100 := by unfold cop; omega
        rw [if_neg hr.1, if_neg (show ¬ 100 ≤ cop (sg k).toInt by omega)]
        by_cases c5 : (sg k).toInt = 6 ∨ (sg k).toInt = 7 ∨ (sg k).toInt = 8
        · have hu2 : cop (sg k).toInt = 30 ∨ cop (sg k).toInt = 70 ∨ cop (sg k).toInt = 71 := by rcases c5 with z | z | z <;> rw [z] <;> decide
          have h1 : 1 ≤ hO (oC nb sg va k) := hu hu2
          rw [if_pos ⟨c5, by omega⟩, if_pos hu2]
          cases q : evL nm (oC nb sg va k) with
          | nil => rfl
          | cons a s => show wo1 (sg k).toInt a :: s = unL (cop (sg k).toInt) a :: s; rw [wo1_eq c5]
        · have hu2 : ¬ (cop (sg k).toInt = 30 ∨ cop (sg k).toInt = 70 ∨ cop (sg k).toInt = 71) := by unfold cop; omega
          have h2 : 2 ≤ hO (oC nb sg va k) := hb (by show ¬ (cop (sg k).toInt = 1 ∨ 100 ≤ cop (sg k).toInt ∨ cop (sg k).toInt = 30 ∨ cop (sg k).toInt = 70 ∨ cop (sg k).toInt = 71); omega)
          rw [if_neg (fun z => c5 z.1), if_pos (by omega), if_neg hu2]
          have h9 : (sg k).toInt = 4 ∨ (sg k).toInt = 5 ∨ (sg k).toInt = 60 ∨ (sg k).toInt = 61 ∨ (sg k).toInt = 62 ∨ (sg k).toInt = 43 ∨ (sg k).toInt = 45 ∨ (sg k).toInt = 42 ∨ (sg k).toInt = 47 := by omega
          cases q : evL nm (oC nb sg va k) with
          | nil => rfl
          | cons b s =>
            cases s with
            | nil => rfl
            | cons a s => show wo2 (sg k).toInt a b :: s = bthF (cop (sg k).toInt) a b :: s; rw [wo2_eq h9]
/- trials: names of a stretch of rates -/
def jmI (v : Nat → Int32) : Nat → Int
  | 0 => 0
  | k + 1 => if k = 0 then jmI v k else if jmI v k < (szF (v k - v (k - 1))).toInt then (szF (v k - v (k - 1))).toInt else jmI v k
theorem jmI_s (v : Nat → Int32) (k : Nat) : jmI v (k + 1) = if k = 0 then jmI v k else if jmI v k < (szF (v k - v (k - 1))).toInt then (szF (v k - v (k - 1))).toInt else jmI v k := rfl
theorem jmI_congr {v w : Nat → Int32} : ∀ n : Nat, (∀ i, i < n → v i = w i) → jmI v n = jmI w n
  | 0, _ => rfl
  | n + 1, h => by
    rw [jmI_s, jmI_s, jmI_congr n (fun i hi => h i (by omega))]
    by_cases c : n = 0
    · rw [if_pos c, if_pos c]
    · rw [if_neg c, if_neg c, h n (by omega), h (n - 1) (by omega)]
/-- the coldest and the warmest; nw: no warmth; a, b: at first -/
def cwJ (wm : Int32 → Int32) (nw a b : Int) (d : Nat → Int32) : Nat → Int × Int
  | 0 => (a, b)
  | k + 1 => if (wm (d k)).toInt = nw then cwJ wm nw a b d k else ((if (wm (d k)).toInt < (cwJ wm nw a b d k).1 then (wm (d k)).toInt else (cwJ wm nw a b d k).1), (if (cwJ wm nw a b d k).2 < (wm (d k)).toInt then (wm (d k)).toInt else (cwJ wm nw a b d k).2))
theorem cwJ_s (wm : Int32 → Int32) (nw a b : Int) (d : Nat → Int32) (k : Nat) : cwJ wm nw a b d (k + 1) = if (wm (d k)).toInt = nw then cwJ wm nw a b d k else ((if (wm (d k)).toInt < (cwJ wm nw a b d k).1 then (wm (d k)).toInt else (cwJ wm nw a b d k).1), (if (cwJ wm nw a b d k).2 < (wm (d k)).toInt then (wm (d k)).toInt else (cwJ wm nw a b d k).2)) := rfl
theorem cwJ_congr {wm : Int32 → Int32} {nw a b : Int} {d e : Nat → Int32} : ∀ n : Nat, (∀ i, i < n → d i = e i) → cwJ wm nw a b d n = cwJ wm nw a b e n
  | 0, _ => rfl
  | n + 1, h => by rw [cwJ_s, cwJ_s, cwJ_congr n (fun i hi => h i (by omega)), h n (by omega)]
/-- both sides' warmths: the class's begin within, the reference's beyond -/
theorem cw_both {wm wx : Int32 → Int32} {nw nx : Int} {d : Nat → Int32} : ∀ n : Nat, (∀ i, i < n → (((wm (d i)).toInt = nw ∧ (wx (d i)).toInt = nx) ∨ ((wm (d i)).toInt ≠ nw ∧ (wx (d i)).toInt = (wm (d i)).toInt ∧ (wx (d i)).toInt ≠ nx ∧ -50 ≤ (wm (d i)).toInt ∧ (wm (d i)).toInt ≤ 50))) → ((cwJ wm nw 100 (-100) d n = (100, -100) ∧ cwJ wx nx 50 (-50) d n = (50, -50)) ∨ (cwJ wm nw 100 (-100) d n = cwJ wx nx 50 (-50) d n ∧ -50 ≤ (cwJ wm nw 100 (-100) d n).1 ∧ (cwJ wm nw 100 (-100) d n).1 ≤ (cwJ wm nw 100 (-100) d n).2 ∧ (cwJ wm nw 100 (-100) d n).2 ≤ 50))
  | 0, _ => Or.inl ⟨rfl, rfl⟩
  | n + 1, h => by
    have ih := cw_both (wm := wm) (wx := wx) (nw := nw) (nx := nx) (d := d) n (fun i hi => h i (by omega))
    have h0 := h n (by omega)
    rw [cwJ_s, cwJ_s]
    rcases h0 with ⟨a, b⟩ | ⟨a, b, c, l, u⟩
    · rw [if_pos a, if_pos b]; exact ih
    · rw [if_neg a, if_neg c, b]
      rcases ih with ⟨e1, e2⟩ | ⟨e1, e2, e3, e4⟩
      · rw [e1, e2]
        right
        dsimp only
        rw [if_pos (by omega), if_pos (by omega)]
        refine ⟨?_, by omega, by omega, by omega⟩
        by_cases q : (wm (d n)).toInt < 50
        · rw [if_pos q]
          by_cases q2 : -50 < (wm (d n)).toInt
          · rw [if_pos q2]
          · rw [if_neg q2, show (wm (d n)).toInt = -50 by omega]
        · rw [if_neg q, if_pos (by omega), show (wm (d n)).toInt = 50 by omega]
      · rw [← e1]
        right
        refine ⟨rfl, ?_, ?_, ?_⟩ <;> dsimp only <;> (repeat' split) <;> omega
/-- the names of a trial, of the list of its rates; ws: the span of warmths -/
def NMF (l : List (Int32 × Int32)) (len ws : Int32) : Nat → Int32
  | 0 => Int32.ofInt l.length
  | 1 => Int32.ofInt (minF (vL l) l.length)
  | 2 => Int32.ofInt (maxF (vL l) l.length)
  | 3 => Int32.ofInt (maxF (vL l) l.length) - Int32.ofInt (minF (vL l) l.length)
  | 4 => len - Int32.ofInt l.length
  | 5 => Int32.ofInt (jmI (vL l) l.length)
  | 6 => vL l (l.length - 1) - vL l 0
  | 7 => sumI (vL l) l.length
  | _ => ws
/-- the same, as the reference sorts them -/
def NMM (l : List (Int32 × Int32)) (len ws : Int32) : Nat → Int32
  | 0 => Int32.ofInt l.length
  | 1 => srtA (vL l) (fun _ => 0) l.length 0
  | 2 => srtA (vL l) (fun _ => 0) l.length (l.length - 1)
  | 3 => srtA (vL l) (fun _ => 0) l.length (l.length - 1) - srtA (vL l) (fun _ => 0) l.length 0
  | 4 => len - Int32.ofInt l.length
  | 5 => Int32.ofInt (jmI (vL l) l.length)
  | 6 => vL l (l.length - 1) - vL l 0
  | 7 => sumI (vL l) l.length
  | _ => ws
def wsM (wm : Int32 → Int32) (l : List (Int32 × Int32)) : Int32 := if (cwJ wm (-1000) 100 (-100) (dL l) l.length).2 < (cwJ wm (-1000) 100 (-100) (dL l) l.length).1 then 0 else Int32.ofInt (cwJ wm (-1000) 100 (-100) (dL l) l.length).2 - Int32.ofInt (cwJ wm (-1000) 100 (-100) (dL l) l.length).1
theorem wsM_of {d v : Nat → Int32} {n c w x : Int32} {wm : Int32 → Int32} {l : List (Int32 × Int32)} (hH : HOLDS d v n l) (hn : 1 ≤ n.toInt) (h3 : c.toInt = (cwJ wm (-1000) 100 (-100) d n.toNatClampNeg).1) (h4 : w.toInt = (cwJ wm (-1000) 100 (-100) d n.toNatClampNeg).2) (hx : (w.toInt < c.toInt ∧ x = 0) ∨ (c.toInt ≤ w.toInt ∧ x = w - c)) : x = wsM wm l := by
  have hc := i_clamp0 (x := n) (by omega)
  have hl := hH.1
  have e : n.toNatClampNeg = l.length := by omega
  rw [e, cwJ_congr l.length (fun i hi => (HOLDS_dv hH i hi).1)] at h3 h4
  unfold wsM
  rcases hx with ⟨a, b⟩ | ⟨a, b⟩
  · rw [if_pos (by omega)]; exact b
  · rw [if_neg (by omega), ← h3, ← h4, Int32.ofInt_toInt, Int32.ofInt_toInt]; exact b
theorem NMM_of {d v s s0 g : Nat → Int32} {n len ws : Int32} {l : List (Int32 × Int32)} (hH : HOLDS d v n l) (hn : 1 ≤ n.toInt) (hs : s = srtA v s0 n.toNatClampNeg) (g0 : g 0 = n) (g1 : g 1 = s 0) (g2 : g 2 = s (n - 1).toNatClampNeg) (g3 : g 3 = s (n - 1).toNatClampNeg - s 0) (g4 : g 4 = len - n) (g5 : (g 5).toInt = jmI v n.toNatClampNeg) (g6 : g 6 = v (n - 1).toNatClampNeg - v 0) (g7 : g 7 = sumI v n.toNatClampNeg) (g8 : g 8 = ws) : ∀ i : Nat, i ≤ 8 → g i = NMM l len ws i := by
  have h1 : (1 : Int32).toInt = 1 := by decide
  have hh := i_hi n
  have hc := i_clamp0 (x := n) (by omega)
  have hl := hH.1
  have e : n.toNatClampNeg = l.length := by omega
  have e1 : (n - 1).toInt = n.toInt - 1 := g_sub rfl h1 (by omega) (by omega)
  have c1 := i_clamp0 (x := n - 1) (by omega)
  have e2 : (n - 1).toNatClampNeg = l.length - 1 := by omega
  have hg : ∀ i : Nat, i < l.length → s i = srtA (vL l) (fun _ => 0) l.length i := fun i hi => by
    rw [hs, e]
    exact srtA_congr l.length (fun i hi => (HOLDS_dv hH i hi).2) i hi
  have hv : ∀ i : Nat, i < l.length → v i = vL l i := fun i hi => (HOLDS_dv hH i hi).2
  have en : n = Int32.ofInt (l.length : Int) := by rw [← hl, Int32.ofInt_toInt]
  intro i hi
  rcases (show i = 0 ∨ i = 1 ∨ i = 2 ∨ i = 3 ∨ i = 4 ∨ i = 5 ∨ i = 6 ∨ i = 7 ∨ i = 8 by omega) with q | q | q | q | q | q | q | q | q <;> subst q
  · rw [g0]; exact en
  · rw [g1, hg _ (by omega)]; rfl
  · rw [g2, e2, hg _ (by omega)]; rfl
  · rw [g3, e2, hg _ (by omega), hg _ (by omega)]; rfl
  · rw [g4]; show len - n = len - Int32.ofInt (l.length : Int); rw [← en]
  · show g 5 = Int32.ofInt (jmI (vL l) l.length)
    rw [← jmI_congr l.length hv, ← e, ← g5, Int32.ofInt_toInt]
  · rw [g6, e2, hv _ (by omega), hv _ (by omega)]; rfl
  · rw [g7, e, sumI_congr l.length hv]; rfl
  · rw [g8]; rfl
theorem ci_0 : (0 : Int32).toNatClampNeg = 0 := by decide
theorem ci_1 : (1 : Int32).toNatClampNeg = 1 := by decide
theorem ci_2 : (2 : Int32).toNatClampNeg = 2 := by decide
theorem ci_3 : (3 : Int32).toNatClampNeg = 3 := by decide
theorem ci_4 : (4 : Int32).toNatClampNeg = 4 := by decide
theorem ci_5 : (5 : Int32).toNatClampNeg = 5 := by decide
theorem ci_6 : (6 : Int32).toNatClampNeg = 6 := by decide
theorem ci_7 : (7 : Int32).toNatClampNeg = 7 := by decide
theorem ci_8 : (8 : Int32).toNatClampNeg = 8 := by decide
theorem ci_20 : (20 : Int32).toNatClampNeg = 20 := by decide
theorem ci_21 : (21 : Int32).toNatClampNeg = 21 := by decide
theorem ci_22 : (22 : Int32).toNatClampNeg = 22 := by decide
theorem ci_23 : (23 : Int32).toNatClampNeg = 23 := by decide
/-- a trial's answer -/
def TRM (l : List (Int32 × Int32)) (has : Int32) (f36 f37 : Nat → Int32) (sz len ws r : Int32) : Prop := ((has.toInt = 0 ∨ l.length = 0) ∧ r.toInt = -2000000000) ∨ (has.toInt ≠ 0 ∧ 1 ≤ l.length ∧ ∃ g : Nat → Int32, (∀ i : Nat, i ≤ 8 → g i = NMM l len ws i) ∧ SAYP g f36 f37 0 sz r)
/-- how many have less, place by place -/
def ORDP (W : Nat → Prop) (L : Nat → List (Int32 × Int32)) (T : Nat → Int32 → Prop) (mine : Int32) : Nat → Int → Prop
  | 0, n => n = 1
  | k + 1, n => (¬ (W k ∧ 1 ≤ (L k).length) ∧ ORDP W L T mine k n) ∨ (W k ∧ 1 ≤ (L k).length ∧ ∃ v : Int32, T k v ∧ ((v.toInt < mine.toInt ∧ ORDP W L T mine k (n - 1)) ∨ (¬ v.toInt < mine.toInt ∧ ORDP W L T mine k n)))
theorem ORDP_eq {W W' : Nat → Prop} {L L' : Nat → List (Int32 × Int32)} {T T' : Nat → Int32 → Prop} {mine : Int32} (hW : ∀ k, k < 16 → (W k ↔ W' k)) (hL : ∀ k, k < 16 → W k → L k = L' k) (hT : ∀ k, k < 16 → W k → 1 ≤ (L k).length → ∀ v v', T k v → T' k v' → v = v') : ∀ (k : Nat) (n n' : Int), k ≤ 16 → ORDP W L T mine k n → ORDP W' L' T' mine k n' → n = n'
  | 0, n, n', _, h, h' => by
    have e : n = 1 := h
    have e' : n' = 1 := h'
    rw [e, e']
  | k + 1, n, n', hk, h, h' => by
    have ih := fun a b => ORDP_eq (mine := mine) hW hL hT k a b (by omega)
    have hw := hW k (by omega)
    rcases h with ⟨a, b⟩ | ⟨a, a2, v, b, c⟩ <;> rcases h' with ⟨a', b'⟩ | ⟨a', a2', v', b', c'⟩
    · exact ih _ _ b b'
    · exact absurd ⟨hw.mpr a', by rw [hL k (by omega) (hw.mpr a')]; exact a2'⟩ a
    · exact absurd ⟨hw.mp a, by rw [← hL k (by omega) a]; exact a2⟩ a'
    · have e := hT k (by omega) a a2 v v' b b'
      subst e
      rcases c with ⟨c, d⟩ | ⟨c, d⟩ <;> rcases c' with ⟨c', d'⟩ | ⟨c', d'⟩
      · have := ih _ _ d d'; omega
      · exact absurd c c'
      · exact absurd c' c
      · exact ih _ _ d d'
section WORKOUT
variable {f2 uf0 uf1 nx : Nat → Int32} {top k sg v top' k' i j y z a b : Int32}
theorem WO_num (inv : stkI f2 top.toNatClampNeg = evC uf0 uf1 nx k.toNatClampNeg) (hk : 0 ≤ k.toInt) (hk' : k'.toInt = k.toInt + 1) (hs : sg = uf0 k.toNatClampNeg) (hv : v = uf1 k.toNatClampNeg) (h : sg.toInt = 2) (ht : 0 ≤ top.toInt) (h1 : top.toInt < 120) (ht' : top'.toInt = top.toInt + 1) : stkI (upd f2 top.toNatClampNeg v) top'.toNatClampNeg = evC uf0 uf1 nx k'.toNatClampNeg := by
  have hc := i_clamp0 ht
  rw [clampS hk hk', clampS ht ht', evC_s, stkI_upd, ← hs, ← hv, ← inv]
  unfold stC2
  rw [if_pos ⟨h, by rw [stkI_len]; omega⟩]
theorem WO_nam (inv : stkI f2 top.toNatClampNeg = evC uf0 uf1 nx k.toNatClampNeg) (hk : 0 ≤ k.toInt) (hk' : k'.toInt = k.toInt + 1) (hs : sg = uf0 k.toNatClampNeg) (hv : v = uf1 k.toNatClampNeg) (h : sg.toInt = 3) (h2 : 0 ≤ v.toInt ∧ v.toInt < 9) (hy : y = nx v.toNatClampNeg) (ht : 0 ≤ top.toInt) (h1 : top.toInt < 120) (ht' : top'.toInt = top.toInt + 1) : stkI (upd f2 top.toNatClampNeg y) top'.toNatClampNeg = evC uf0 uf1 nx k'.toNatClampNeg := by
  have hc := i_clamp0 ht
  rw [clampS hk hk', clampS ht ht', evC_s, stkI_upd, ← hs, ← hv, ← inv, hy]
  unfold stC2
  rw [if_neg (fun z => by omega), if_pos ⟨h, by rw [stkI_len]; omega, h2.1, h2.2⟩]
theorem WO_un (inv : stkI f2 top.toNatClampNeg = evC uf0 uf1 nx k.toNatClampNeg) (hk : 0 ≤ k.toInt) (hk' : k'.toInt = k.toInt + 1) (hs : sg = uf0 k.toNatClampNeg) (h : sg.toInt = 6 ∨ sg.toInt = 7 ∨ sg.toInt = 8) (ht : 1 ≤ top.toInt) (hi : i.toInt = top.toInt - 1) (hj : j.toInt = top.toInt - 1) (hz : z = f2 j.toNatClampNeg) (hy : y = wo1 sg.toInt z) : stkI (upd f2 i.toNatClampNeg y) top.toNatClampNeg = evC uf0 uf1 nx k'.toNatClampNeg := by
  have ej : j = i := i_eq.mpr (by omega)
  subst ej
  have hc := i_clamp0 (x := top) (by omega)
  rw [clampS hk hk', evC_s, stk_1 ht hi, uq_at, stkI_congr (f := upd f2 j.toNatClampNeg y) (g := f2) j.toNatClampNeg (fun x hx => uq_ne (by omega)), ← hs]
  unfold stC2
  rw [if_neg (fun z => by omega), if_neg (fun z => by omega), if_pos ⟨h, by rw [← inv, stkI_len]; omega⟩, ← inv, stk_1 ht hi, hy, hz]
  rfl
theorem WO_bin (inv : stkI f2 top.toNatClampNeg = evC uf0 uf1 nx k.toNatClampNeg) (hk : 0 ≤ k.toInt) (hk' : k'.toInt = k.toInt + 1) (hs : sg = uf0 k.toNatClampNeg) (hv : v = uf1 k.toNatClampNeg) (h1 : ¬ (sg.toInt = 2 ∧ top.toInt < 120)) (h2 : ¬ (sg.toInt = 3 ∧ top.toInt < 120 ∧ 0 ≤ v.toInt ∧ v.toInt < 9)) (h3 : ¬ ((sg.toInt = 6 ∨ sg.toInt = 7 ∨ sg.toInt = 8) ∧ 1 ≤ top.toInt)) (ht : 2 ≤ top.toInt) (ht' : top'.toInt = top.toInt - 1) (hi : i.toInt = top'.toInt - 1) (hj : j.toInt = top'.toInt - 1) (ha : a = f2 j.toNatClampNeg) (hb : b = f2 top'.toNatClampNeg) (hy : y = wo2 sg.toInt a b) : stkI (upd f2 i.toNatClampNeg y) top'.toNatClampNeg = evC uf0 uf1 nx k'.toNatClampNeg := by
  have ej : j = i := i_eq.mpr (by omega)
  subst ej
  have hc := i_clamp0 (x := top) (by omega)
  have hl : ((evC uf0 uf1 nx k.toNatClampNeg).length : Int) = top.toInt := by rw [← inv, stkI_len]; omega
  rw [clampS hk hk', evC_s, stk_1 (n := top') (i := j) (by omega) hi, uq_at, stkI_congr (f := upd f2 j.toNatClampNeg y) (g := f2) j.toNatClampNeg (fun x hx => uq_ne (by omega)), ← hs, ← hv]
  unfold stC2
  rw [hl, if_neg h1, if_neg h2, if_neg h3, if_pos ht, ← inv, stk_1 (i := top') (by omega) ht', stk_1 (n := top') (i := j) (by omega) hi, hy, ha, hb]
  rfl
theorem WO_no (inv : stkI f2 top.toNatClampNeg = evC uf0 uf1 nx k.toNatClampNeg) (hk : 0 ≤ k.toInt) (hk' : k'.toInt = k.toInt + 1) (hs : sg = uf0 k.toNatClampNeg) (hv : v = uf1 k.toNatClampNeg) (h1 : ¬ (sg.toInt = 2 ∧ top.toInt < 120)) (h2 : ¬ (sg.toInt = 3 ∧ top.toInt < 120 ∧ 0 ≤ v.toInt ∧ v.toInt < 9)) (h3 : ¬ ((sg.toInt = 6 ∨ sg.toInt = 7 ∨ sg.toInt = 8) ∧ 1 ≤ top.toInt)) (h0 : 0 ≤ top.toInt) (ht : top.toInt < 2) : stkI f2 top.toNatClampNeg = evC uf0 uf1 nx k'.toNatClampNeg := by
  have hc := i_clamp0 h0
  have hl : ((evC uf0 uf1 nx k.toNatClampNeg).length : Int) = top.toInt := by rw [← inv, stkI_len]; omega
  rw [clampS hk hk', evC_s, ← hs, ← hv]
  unfold stC2
  rw [hl, if_neg h1, if_neg h2, if_neg h3, if_neg (by omega)]
  exact inv
end WORKOUT
def hdC (l : List Int32) : Int32 := l.headD 0
def wsX (wm : Int32 → Int32) (l : List (Int32 × Int32)) : Int32 := if (Int32.ofInt (cwJ wm (-100) 50 (-50) (dL l) l.length).2 - Int32.ofInt (cwJ wm (-100) 50 (-50) (dL l) l.length).1).toInt < 0 then 0 else Int32.ofInt (cwJ wm (-100) 50 (-50) (dL l) l.length).2 - Int32.ofInt (cwJ wm (-100) 50 (-50) (dL l) l.length).1
theorem wsX_of {d v : Nat → Int32} {n c w x y : Int32} {wm : Int32 → Int32} {l : List (Int32 × Int32)} (hH : HOLDS d v n l) (hn : 0 ≤ n.toInt) (h3 : c.toInt = (cwJ wm (-100) 50 (-50) d n.toNatClampNeg).1) (h4 : w.toInt = (cwJ wm (-100) 50 (-50) d n.toNatClampNeg).2) (hy : y = w - c) (hx : 0 ≤ x.toInt ∧ y.toInt ≤ x.toInt ∧ (x.toInt = 0 ∨ x.toInt = y.toInt)) : x = wsX wm l := by
  have hc := i_clamp0 hn
  have hl := hH.1
  have e : n.toNatClampNeg = l.length := by omega
  rw [e, cwJ_congr l.length (fun i hi => (HOLDS_dv hH i hi).1)] at h3 h4
  unfold wsX
  rw [← h3, ← h4, Int32.ofInt_toInt, Int32.ofInt_toInt, ← hy]
  have z : (0 : Int32).toInt = 0 := by decide
  by_cases q : y.toInt < 0
  · rw [if_pos q]; exact i_eq.mpr (by omega)
  · rw [if_neg q]; exact i_eq.mpr (by omega)
theorem NMF_of {d v g : Nat → Int32} {n len ws : Int32} {l : List (Int32 × Int32)} (hH : HOLDS d v n l) (hn : 1 ≤ n.toInt) (g0 : g 0 = n) (g1 : (g 1).toInt = minF v n.toNatClampNeg) (g2 : (g 2).toInt = maxF v n.toNatClampNeg) (g3 : g 3 = g 2 - g 1) (g4 : g 4 = len - n) (g5 : (g 5).toInt = jmI v n.toNatClampNeg) (g6 : g 6 = v (n - 1).toNatClampNeg - v 0) (g7 : g 7 = sumI v n.toNatClampNeg) (g8 : g 8 = ws) : ∀ i : Nat, i ≤ 8 → g i = NMF l len ws i := by
  have h1 : (1 : Int32).toInt = 1 := by decide
  have hh := i_hi n
  have hc := i_clamp0 (x := n) (by omega)
  have hl := hH.1
  have e : n.toNatClampNeg = l.length := by omega
  have e1 : (n - 1).toInt = n.toInt - 1 := g_sub rfl h1 (by omega) (by omega)
  have c1 := i_clamp0 (x := n - 1) (by omega)
  have e2 : (n - 1).toNatClampNeg = l.length - 1 := by omega
  have hv : ∀ i : Nat, i < l.length → v i = vL l i := fun i hi => (HOLDS_dv hH i hi).2
  have en : n = Int32.ofInt (l.length : Int) := by rw [← hl, Int32.ofInt_toInt]
  have k1 : g 1 = Int32.ofInt (minF (vL l) l.length) := by rw [← minF_congr l.length hv, ← e, ← g1, Int32.ofInt_toInt]
  have k2 : g 2 = Int32.ofInt (maxF (vL l) l.length) := by rw [← maxF_congr l.length hv, ← e, ← g2, Int32.ofInt_toInt]
  intro i hi
  rcases (show i = 0 ∨ i = 1 ∨ i = 2 ∨ i = 3 ∨ i = 4 ∨ i = 5 ∨ i = 6 ∨ i = 7 ∨ i = 8 by omega) with q | q | q | q | q | q | q | q | q <;> subst q
  · rw [g0]; exact en
  · exact k1
  · exact k2
  · rw [g3, k1, k2]; rfl
  · rw [g4]; show len - n = len - Int32.ofInt (l.length : Int); rw [← en]
  · show g 5 = Int32.ofInt (jmI (vL l) l.length)
    rw [← jmI_congr l.length hv, ← e, ← g5, Int32.ofInt_toInt]
  · rw [g6, e2, hv _ (by omega), hv _ (by omega)]; rfl
  · rw [g7, e, sumI_congr l.length hv]; rfl
  · rw [g8]; rfl
/-- a trial's answer, the class's -/
def WOT (l : List (Int32 × Int32)) (sz : Int32) (sg va : Nat → Int32) (len ws r : Int32) : Prop := ∃ g : Nat → Int32, (∀ i : Nat, i ≤ 8 → g i = NMF l len ws i) ∧ r = hdC (evC sg va g sz.toNatClampNeg)
def TRC (l : List (Int32 × Int32)) (sz : Int32) (sg va : Nat → Int32) (len ws r : Int32) : Prop := ((sz.toInt = 0 ∨ l.length = 0) ∧ r.toInt = -2000000000) ∨ (sz.toInt ≠ 0 ∧ 1 ≤ l.length ∧ WOT l sz sg va len ws r)
/-! ===== a text that was read well leaves one answer; which kinds it has ===== -/
def bB (x : Int) : Int := if 10 ≤ x ∧ x < 70 ∧ x ≠ 30 then 1 else 0
theorem bB_1 {x : Int} (h : 10 ≤ x ∧ x < 70 ∧ x ≠ 30) : bB x = 1 := by unfold bB; rw [if_pos h]
theorem bB_0 {x : Int} (h : ¬ (10 ≤ x ∧ x < 70 ∧ x ≠ 30)) : bB x = 0 := by unfold bB; rw [if_neg h]
def cBn : List Int → Int
  | [] => 0
  | x :: S => bB x + cBn S
def sOK (x : Int) : Prop := x = 5 ∨ x = 30 ∨ x = 70 ∨ x = 71 ∨ (10 ≤ x ∧ x < 70 ∧ x ≠ 30)
theorem tgt_5 : tgt 5 = 0 := by decide
theorem tgt_1 {x : Int} (h : sOK x) (h5 : x ≠ 5) : 1 ≤ tgt x := by
  unfold tgt
  rw [if_neg h5]
  unfold sOK at h
  omega
theorem dlO_s {x : Int} (h : sOK x) (h5 : x ≠ 5) : dlO x = - bB x := by
  unfold sOK at h
  unfold dlO
  rw [if_neg (by omega)]
  by_cases c : x = 30 ∨ x = 70 ∨ x = 71
  · rw [if_pos c, bB_0 (by omega)]; rfl
  · rw [if_neg c, bB_1 (by omega)]
theorem popK_mem {k : Int} : ∀ (S : List Int) (O : List (Int × Int)) (x : Int), x ∈ (popK k S O).1 → x ∈ S
  | [], _, _, h => h
  | y :: S, O, x, h => by
    unfold popK at h
    split at h
    · exact List.mem_cons_of_mem _ (popK_mem S _ x h)
    · exact h
theorem popK_h {k : Int} (hk : 1 ≤ k) : ∀ (S : List Int) (O : List (Int × Int)), (∀ x ∈ S, sOK x) → hO (popK k S O).2 = hO O + cBn (popK k S O).1 - cBn S
  | [], O, _ => by show hO O = hO O + 0 - 0; omega
  | x :: S, O, h => by
    have h0 := h x List.mem_cons_self
    have ih := popK_h hk S ((x, 0) :: O) (fun y hy => h y (List.mem_cons_of_mem _ hy))
    unfold popK
    by_cases c : k ≤ tgt x
    · rw [if_pos c, ih]
      have h5 : x ≠ 5 := fun q => by rw [q, tgt_5] at c; omega
      have e := dlO_s h0 h5
      show hO O + dlO x + cBn (popK k S ((x, 0) :: O)).1 - cBn S = hO O + cBn (popK k S ((x, 0) :: O)).1 - (bB x + cBn S)
      omega
    · rw [if_neg c]
      show hO O = hO O + cBn (x :: S) - cBn (x :: S)
      omega
theorem popK_top : ∀ (S : List Int) (O : List (Int × Int)), (∀ x ∈ S, sOK x) → (popK 1 S O).1 = [] ∨ ∃ T, (popK 1 S O).1 = 5 :: T
  | [], _, _ => Or.inl rfl
  | x :: S, O, h => by
    unfold popK
    by_cases c : 1 ≤ tgt x
    · rw [if_pos c]
      exact popK_top S _ (fun y hy => h y (List.mem_cons_of_mem _ hy))
    · rw [if_neg c]
      have h5 : x = 5 := by
        by_cases q : x = 5
        · exact q
        · exact absurd (tgt_1 (h x List.mem_cons_self) q) c
      exact Or.inr ⟨S, by rw [h5]⟩
theorem RUN_hgt {K V : Nat → Int} {s e : Nat → Nat} : ∀ (F : Nat) (w m : Bool) (S : List Int) (O : List (Int × Int)) (a : Nat) (res : Int × List (Int × Int)), (∀ x ∈ S, sOK x) → hO O = cBn S + (if w = true then 0 else 1) → RUN K V s e F w m S O a res → res.1 = -1 → hO res.2 = 1
  | 0, _, _, _, _, _, _, _, _, h, _ => h.elim
  | F + 1, w, m, S, O, a, res, hS, hh, h, h1 => by
    have ih := fun w m S O a res x1 x2 x3 x4 => RUN_hgt (K := K) (V := V) (s := s) (e := e) F w m S O a res x1 x2 x3 x4
    have nil : ∀ {v : Nat}, res = (((v : Nat) : Int), []) → hO res.2 = 1 := fun {v} q => by
      rw [q] at h1
      have h2 : ((v : Nat) : Int) = -1 := h1
      omega
    unfold RUN at h
    split at h
    · rename_i cw
      rw [if_pos cw] at hh
      split at h
      · rename_i c2
        split at h
        · exact nil h
        · refine ih _ _ _ _ _ _ (fun x hx => ?_) ?_ h h1
          · rcases List.mem_cons.mp hx with q | q
            · rw [q]
              unfold sOK
              by_cases c : K a = 51
              · rw [if_pos c]; omega
              · rw [if_neg c]; omega
            · exact hS x q
          · have e0 : bB (if K a = 51 then 70 else K a) = 0 := by
              by_cases c : K a = 51
              · rw [if_pos c]; exact bB_0 (by omega)
              · rw [if_neg c]; exact bB_0 (by omega)
            rw [if_pos rfl]
            show hO O = bB (if K a = 51 then 70 else K a) + cBn S + 0
            omega
      · split at h
        · rename_i c3
          refine ih _ _ _ _ _ _ hS ?_ h h1
          have e1 : dlO (K a) = 1 := by unfold dlO; rw [if_pos (by omega)]
          show hO O + dlO (K a) = cBn S + (if false = true then 0 else 1)
          rw [if_neg (show ¬ (false = true) by decide)]
          omega
        · exact nil h
    · rename_i cw
      rw [if_neg cw] at hh
      split at h
      · split at h
        · exact nil h
        · rename_i c5
          have hp := popK_h (k := 1) (by omega) S O hS
          rcases popK_top S O hS with q | ⟨T, q⟩
          · exact absurd q c5
          · refine ih _ _ _ _ _ _ (fun x hx => hS x (popK_mem S O x (List.mem_of_mem_tail hx))) ?_ h h1
            have e0 : bB 5 = 0 := bB_0 (by omega)
            have e2 : cBn (popK 1 S O).1 = bB 5 + cBn T := by rw [q]; rfl
            have e3 : cBn (popK 1 S O).1.tail = cBn T := by rw [q]; rfl
            rw [hp, e3, e2, if_neg (by decide)]
            omega
      · split at h
        · split at h
          · rename_i c5
            have hp := popK_h (k := 1) (by omega) S O hS
            have e2 : cBn (popK 1 S O).1 = 0 := by rw [c5]; rfl
            rw [h]
            show hO (popK 1 S O).2 = 1
            omega
          · exact nil h
        · rename_i c0
          split at h
          · exact nil h
          · rename_i c1
            split at h
            · exact nil h
            · have hr : 1 ≤ rlT (K a) := by unfold rlT; split <;> omega
              have hp := popK_h hr S O hS
              refine ih _ _ _ _ _ _ (fun x hx => ?_) ?_ h h1
              · rcases List.mem_cons.mp hx with q | q
                · rw [q]; unfold sOK; omega
                · exact hS x (popK_mem S O x q)
              · have e1 : bB (K a) = 1 := bB_1 (by omega)
                rw [if_pos rfl]
                show hO (popK (rlT (K a)) S O).2 = bB (K a) + cBn (popK (rlT (K a)) S O).1 + 0
                omega
/-- the kinds of a rule's text -/
def tQ (wh t : Int) : Prop := VT t ∧ (100 ≤ t → (wh = 0 ∧ t ≤ 108) ∨ (wh = 1 ∧ 120 ≤ t ∧ t ≤ 123))
theorem wdF_v {wh w : Int} (h : wh = 0 ∨ wh = 1) : wdF wh w = 2 ∨ wdF wh w = 10 ∨ wdF wh w = 20 ∨ wdF wh w = 30 ∨ wdF wh w = 71 ∨ (wh = 0 ∧ 100 ≤ wdF wh w ∧ wdF wh w ≤ 108) ∨ (wh = 1 ∧ 120 ≤ wdF wh w ∧ wdF wh w ≤ 123) := by
  generalize e : wdF wh w = t
  unfold wdF at e
  (repeat' split at e) <;> omega
theorem tkK_Q {f : Nat → Int32} {n a : Nat} {wh : Int} (h : wh = 0 ∨ wh = 1) (hk : tkK (wdK wh f) f n a = 1 ∨ 100 ≤ tkK (wdK wh f) f n a ∨ (10 ≤ tkK (wdK wh f) f n a ∧ tkK (wdK wh f) f n a < 70 ∧ tkK (wdK wh f) f n a ≠ 30)) : tQ wh (tkK (wdK wh f) f n a) := by
  generalize e : tkK (wdK wh f) f n a = t at hk ⊢
  unfold tkK teK at e
  unfold tQ VT
  split at e
  · omega
  · split at e
    · unfold wdK at e
      split at e
      · omega
      · have h9 := wdF_v (w := encW f (tkS f n a) (teE f n (tkS f n a) - tkS f n a)) h
        rw [e] at h9
        omega
    · split at e
      · split at e <;> omega
      · unfold sgK at e
        (repeat' split at e) <;> omega
theorem READ_ok {f : Nat → Int32} {n F : Nat} {wh : Int} {O : List (Int × Int)} (h0 : wh = 0 ∨ wh = 1) (h : RR f n wh F true true [] [] 0 (-1, O)) : hO O = 1 ∧ ∀ y ∈ O, tQ wh y.1 := by
  refine ⟨RUN_hgt F _ _ _ _ _ _ (fun x hx => absurd hx (by simp)) (by rw [if_pos rfl]; rfl) h rfl, ?_⟩
  refine RUN_all (Q := tQ wh) (fun a hk => tkK_Q h0 hk) ?_ ?_ ?_ F _ _ _ _ _ _ (fun x hx => absurd hx (by simp)) (fun y hy => absurd hy (by simp)) h <;> (unfold tQ VT; omega)
/-- a rule, as the class and the reference keep it -/
def RUT (wh : Int) (B : Nat) (sz : Int32) (sg va : Nat → Int32) (has m : Int32) (f36 f37 : Nat → Int32) : Prop := (has.toInt = 0 ∧ sz.toInt = 0) ∨ (has.toInt ≠ 0 ∧ 1 ≤ sz.toInt ∧ oC (20 * wh) sg va sz.toNatClampNeg = oM f36 f37 B m.toNatClampNeg ∧ hO (oM f36 f37 B m.toNatClampNeg) = 1 ∧ ∀ y ∈ oM f36 f37 B m.toNatClampNeg, tQ wh y.1)
theorem RUT_low {wh : Int} {B : Nat} {sz : Int32} {sg va f36 f37 g36 g37 : Nat → Int32} {has m : Int32} (h : RUT wh B sz sg va has m f36 f37) (h6 : ∀ k, k < m.toNatClampNeg → g36 (B + k) = f36 (B + k) ∧ g37 (B + k) = f37 (B + k)) : RUT wh B sz sg va has m g36 g37 := by
  have e : oM g36 g37 B m.toNatClampNeg = oM f36 f37 B m.toNatClampNeg := oM_congr m.toNatClampNeg (fun k hk => ⟨(h6 k hk).1, fun _ => (h6 k hk).2⟩)
  unfold RUT
  rw [e]
  exact h
theorem RUT_new {wh : Int} {B n F : Nat} {sz : Int32} {sg va f36 f37 g36 g37 t : Nat → Int32} {has m : Int32} (h0 : wh = 0 ∨ wh = 1) (h1 : has.toInt ≠ 0) (hr : RR t n wh F true true [] [] 0 (-1, oM f36 f37 256 m.toNatClampNeg)) (he : oC (20 * wh) sg va sz.toNatClampNeg = oM f36 f37 256 m.toNatClampNeg)
    (h6 : ∀ k, k < m.toNatClampNeg → g36 (B + k) = f36 (256 + k) ∧ g37 (B + k) = f37 (256 + k)) : RUT wh B sz sg va has m g36 g37 := by
  have e : oM g36 g37 B m.toNatClampNeg = oM f36 f37 256 m.toNatClampNeg := oM_congr m.toNatClampNeg (fun k hk => ⟨(h6 k hk).1, fun _ => (h6 k hk).2⟩)
  obtain ⟨a, b⟩ := READ_ok h0 hr
  have hz : 1 ≤ sz.toInt := by
    by_cases q : 1 ≤ sz.toInt
    · exact q
    · exfalso
      have hc : sz.toNatClampNeg = 0 := by
        show sz.toInt.toNat = 0
        omega
      rw [hc] at he
      have he' : ([] : List (Int × Int)) = oM f36 f37 256 m.toNatClampNeg := he
      rw [← he'] at a
      exact absurd a (by show ¬ (0 : Int) = 1; omega)
  exact Or.inr ⟨h1, hz, by rw [e]; exact he, by rw [e]; exact a, by rw [e]; exact b⟩
def nQ (wh i : Int) : Prop := (wh = 0 ∧ 0 ≤ i ∧ i ≤ 8) ∨ (wh = 1 ∧ 20 ≤ i ∧ i ≤ 23)
/-- both say the same -/
theorem SAY_eq {wh : Int} {B : Nat} {sz : Int32} {sg va f36 f37 nx nm : Nat → Int32} {has m r : Int32} (h01 : wh = 0 ∨ wh = 1) (h : RUT wh B sz sg va has m f36 f37) (h0 : has.toInt ≠ 0) (hz : sz.toInt ≤ 120) (hw : WFc f36 B m.toNatClampNeg) (hn : ∀ i : Nat, nQ wh i → nx ((i : Int) - 20 * wh).toNat = nm i) (hs : SAYP nm f36 f37 B m r) : hdC (evC sg va nx sz.toNatClampNeg) = r := by
  rcases h with ⟨a, -⟩ | ⟨-, z1, e1, e2, e3⟩
  · exact absurd a h0
  · obtain ⟨f, n, q1, q2⟩ := hs
    have hc := i_clamp0 (x := sz) (by omega)
    have hok : okO (nQ wh) (oM f36 f37 B m.toNatClampNeg) := okO_oM m.toNatClampNeg hw (fun y hy h100 => by
      have h9 := (e3 y hy).2 h100
      unfold nQ
      omega)
    have hl := evL_len (nm := nm) _ hok
    rw [e2, ← q1, stkI_len] at hl
    have hn1 : n = 1 := by omega
    subst hn1
    have hev := evC_eq (sg := sg) (va := va) (nx := nx) (nm := nm) (N := nQ wh) (nb := 20 * wh) (by omega) (fun i hi => ⟨by unfold nQ at hi; omega, by unfold nQ at hi; omega, hn i hi⟩) sz.toNatClampNeg (by omega) (by rw [e1]; exact hok) (by rw [e1]; exact fun y hy => (e3 y hy).1)
    rw [hev, e1, ← q1, q2]
    rfl
/- trials -/
theorem NM_eq {l : List (Int32 × Int32)} {len ws : Int32} (h1 : 1 ≤ l.length) (hv : ∀ i : Nat, i < l.length → -999 ≤ (vL l i).toInt ∧ (vL l i).toInt ≤ 999) : ∀ i : Nat, i ≤ 8 → NMF l len ws i = NMM l len ws i := by
  obtain ⟨n, hn⟩ : ∃ n, l.length = n + 1 := ⟨l.length - 1, by omega⟩
  have a := srtA_max (v := vL l) (f := fun _ => 0) n (fun i hi => (hv i (by omega)).1)
  have b := srtA_min (v := vL l) (f := fun _ => 0) n (fun i hi => (hv i (by omega)).2)
  have a2 : Int32.ofInt (maxF (vL l) l.length) = srtA (vL l) (fun _ => 0) l.length (l.length - 1) := by
    rw [hn, ← a, Int32.ofInt_toInt, show n + 1 - 1 = n from rfl]
  have b2 : Int32.ofInt (minF (vL l) l.length) = srtA (vL l) (fun _ => 0) l.length 0 := by
    rw [hn, ← b, Int32.ofInt_toInt]
  intro i hi
  rcases (show i = 0 ∨ i = 1 ∨ i = 2 ∨ i = 3 ∨ i = 4 ∨ i = 5 ∨ i = 6 ∨ i = 7 ∨ i = 8 by omega) with q | q | q | q | q | q | q | q | q <;> subst q
  · rfl
  · exact b2
  · exact a2
  · show Int32.ofInt (maxF (vL l) l.length) - Int32.ofInt (minF (vL l) l.length) = _
    rw [a2, b2]; rfl
  · rfl
  · rfl
  · rfl
  · rfl
  · rfl
theorem ofI_s {x : Int} (h : -1000 ≤ x ∧ x ≤ 1000) : (Int32.ofInt x).toInt = x := Int32.toInt_ofInt_of_le (by omega) (by omega)
theorem wsMX {wm wx : Int32 → Int32} {l : List (Int32 × Int32)} (h : ∀ i, i < l.length → (((wm (dL l i)).toInt = -1000 ∧ (wx (dL l i)).toInt = -100) ∨ ((wm (dL l i)).toInt ≠ -1000 ∧ (wx (dL l i)).toInt = (wm (dL l i)).toInt ∧ (wx (dL l i)).toInt ≠ -100 ∧ -50 ≤ (wm (dL l i)).toInt ∧ (wm (dL l i)).toInt ≤ 50))) : wsM wm l = wsX wx l := by
  unfold wsM wsX
  rcases cw_both (nw := -1000) (nx := -100) l.length h with ⟨a, b⟩ | ⟨a, b, c, d⟩
  · rw [a, b, if_pos (show ((100 : Int), (-100 : Int)).2 < ((100 : Int), (-100 : Int)).1 by decide)]
    rw [if_pos (show (Int32.ofInt ((50 : Int), (-50 : Int)).2 - Int32.ofInt ((50 : Int), (-50 : Int)).1).toInt < 0 by decide)]
  · rw [← a, if_neg (by omega)]
    have e1 := ofI_s (x := (cwJ wm (-1000) 100 (-100) (dL l) l.length).1) (by omega)
    have e2 := ofI_s (x := (cwJ wm (-1000) 100 (-100) (dL l) l.length).2) (by omega)
    have e3 : (Int32.ofInt (cwJ wm (-1000) 100 (-100) (dL l) l.length).2 - Int32.ofInt (cwJ wm (-1000) 100 (-100) (dL l) l.length).1).toInt = (cwJ wm (-1000) 100 (-100) (dL l) l.length).2 - (cwJ wm (-1000) 100 (-100) (dL l) l.length).1 := g_sub e2 e1 (by omega) (by omega)
    rw [if_neg (by omega)]
theorem WOT_eq {sz : Int32} {sg va f36 f37 : Nat → Int32} {has m r r' len wx wm : Int32} {l : List (Int32 × Int32)} (h : RUT 0 0 sz sg va has m f36 f37) (h0 : has.toInt ≠ 0) (hz : sz.toInt ≤ 120) (hw : WFc f36 0 m.toNatClampNeg) (h1 : 1 ≤ l.length) (hv : ∀ i : Nat, i < l.length → -999 ≤ (vL l i).toInt ∧ (vL l i).toInt ≤ 999) (he : wm = wx)
    (a : WOT l sz sg va len wx r) (b : ∃ g : Nat → Int32, (∀ i : Nat, i ≤ 8 → g i = NMM l len wm i) ∧ SAYP g f36 f37 0 m r') : r = r' := by
  obtain ⟨g, hg, e⟩ := a
  obtain ⟨g', hg', s⟩ := b
  rw [e]
  refine SAY_eq (Or.inl rfl) h h0 hz hw (fun i hi => ?_) s
  have h8 : i ≤ 8 := by unfold nQ at hi; omega
  rw [show ((i : Int) - 20 * 0).toNat = i by omega, hg i h8, hg' i h8, he]
  exact NM_eq h1 hv i h8
theorem RUT_has {wh : Int} {B : Nat} {sz : Int32} {sg va f36 f37 : Nat → Int32} {has m : Int32} (h : RUT wh B sz sg va has m f36 f37) : has.toInt = 0 ↔ sz.toInt = 0 := by
  rcases h with ⟨a, b⟩ | ⟨a, b, -⟩
  · exact ⟨fun _ => b, fun _ => a⟩
  · exact ⟨fun c => absurd c a, fun c => by omega⟩
end
section
set_option maxHeartbeats 4000000 in
set_option maxRecDepth 100000 in
theorem g_X9_tight (l : Launch) (D : va_G) (E : Nat → Nat) (p0 : Int32) (g0 : 0 ≤ p0.toInt ∧ p0.toInt ≤ 200) : Met l yX9_tight (wl yX9_tight cX9_tight 1 (some .int)) (RM 0 0 0) (rd_P D E [.int p0] ([] : va_W)) (rd_Q (fun r => ((p0.toInt = 5 ∧ r.toInt = 0) ∨ (p0.toInt ≠ 5 ∧ r.toInt = p0.toInt / 10)))) 0 0 (fun _ => False) := by
  refine Met.ofW (cc := cX9_tight) (maxL := 1) (ret := (some .int)) (by decide) rfl ?_
  intro p e s m args below meth c s₁ B hml hv
  obtain ⟨rfl, hP, hK⟩ := hv
  have hx := B.exec; have hb := B.bytes; have hr := B.returns
  have hts := atoms_spec (ws := wl yX9_tight cX9_tight 1 (some .int)) B.pre
  have htb : ∀ w ∈ tb, w.before _ s = true := fun w h => hts w (List.mem_cons_of_mem _ h)
  have hown : s.vm.findClass RX9 = some m.cls := findClass_of_methodNamed B.named
  have hlocks := B.notSynchronized
  have hP : va_P D vwCl ([] : va_W) s.heap := hP
  have hl := lv_entry ([.int p0]) (n := 1) (Nat.le_of_ble_eq_true rfl)
  rw [lg_entry_eq]
  generalize (lg_sl ([.int p0]) ++ List.replicate (1 - (lg_sl ([.int p0])).length) Slot.unset).toArray = ls at hl ⊢
  have hl : lv_has ls 1 [(0, .int p0)] := hl
  have lo_p0 := i_lo p0; have hi_p0 := i_hi p0
  refine lv_iload_n hx hb dX9_tight_0 rfl (lv_at hl 0 rfl) ?_
  refine lv_iconst (v := 5) hx hb dX9_tight_1 (by decide) ?_
  refine lv_icmp_ne (tgt := 9) hx hb dX9_tight_2 (by decide) (fun c_1 => ?_) (fun c_1 => ?_)
  ·
    have ic_1 : p0.toInt ≠ 5 := mt (g_eq rfl t_5).mpr c_1
    clear c_1
    refine lv_iload_n hx hb dX9_tight_9 rfl (lv_at hl 0 rfl) ?_
    refine lv_bipush (v := 10) hx hb dX9_tight_10 (by decide) ?_
    refine lv_idiv hx hb dX9_tight_12 (by decide) ?_
    refine lv_topi (fun z_2 ez_2 => ?_)
    have jz_2 : z_2.toInt = p0.toInt / 10 := by rw [ez_2]; exact g_div rfl t_10 (by omega) (by decide)
    exact W.iret (v := z_2) hx hb hr (fun t ht hW => ⟨z_2, rfl, (by (try dsimp only); omega), ht⟩) (fun q h => by cases h) dX9_tight_13
  ·
    have ic_1 : p0.toInt = 5 := (g_eq rfl t_5).mp c_1
    clear c_1
    refine lv_iconst (v := 0) hx hb dX9_tight_5 (by decide) ?_
    refine lv_goto (tgt := 13) hx hb dX9_tight_6 (by decide) ?_
    exact W.iret (v := 0) hx hb hr (fun t ht hW => ⟨0, rfl, (by have h0 := t_0; (try dsimp only); omega), ht⟩) (fun q h => by cases h) dX9_tight_13
set_option maxHeartbeats 4000000 in
set_option maxRecDepth 100000 in
theorem g_X9_signOf (l : Launch) (D : va_G) (E : Nat → Nat) (p0 : Int32)  : Met l yX9_signOf (wl yX9_signOf cX9_signOf 1 (some .int)) (RM 0 0 0) (rd_P D E [.int p0] ([] : va_W)) (rd_Q (fun r => (r.toInt = sgK p0.toInt ∧ 2 ≤ r.toInt ∧ r.toInt ≤ 61))) 0 0 (fun _ => False) := by
  refine Met.ofW (cc := cX9_signOf) (maxL := 1) (ret := (some .int)) (by decide) rfl ?_
  intro p e s m args below meth c s₁ B hml hv
  obtain ⟨rfl, hP, hK⟩ := hv
  have hx := B.exec; have hb := B.bytes; have hr := B.returns
  have hts := atoms_spec (ws := wl yX9_signOf cX9_signOf 1 (some .int)) B.pre
  have htb : ∀ w ∈ tb, w.before _ s = true := fun w h => hts w (List.mem_cons_of_mem _ h)
  have hown : s.vm.findClass RX9 = some m.cls := findClass_of_methodNamed B.named
  have hlocks := B.notSynchronized
  have hP : va_P D vwCl ([] : va_W) s.heap := hP
  have hl := lv_entry ([.int p0]) (n := 1) (Nat.le_of_ble_eq_true rfl)
  rw [lg_entry_eq]
  generalize (lg_sl ([.int p0]) ++ List.replicate (1 - (lg_sl ([.int p0])).length) Slot.unset).toArray = ls at hl ⊢
  have hl : lv_has ls 1 [(0, .int p0)] := hl
  have lo_p0 := i_lo p0; have hi_p0 := i_hi p0
  refine lv_iload_n hx hb dX9_signOf_0 rfl (lv_at hl 0 rfl) ?_
  by_cases h_1 : p0.toInt < 40 ∨ 62 < p0.toInt
  ·
    refine lv_tableOut (tgt := 134) hx hb dX9_signOf_1 h_1 (by decide) ?_
    refine lv_iconst (v := 2) hx hb dX9_signOf_134 (by decide) ?_
    exact W.iret (v := 2) hx hb hr (fun t ht hW => ⟨2, rfl, (by have hl := t_2; exact ⟨sgK_v (by omega), by omega, by omega⟩), ht⟩) (fun q h => by cases h) dX9_signOf_135
  ·
    have h_2 : p0.toInt = 40 ∨ p0.toInt = 41 ∨ p0.toInt = 42 ∨ p0.toInt = 43 ∨ p0.toInt = 44 ∨ p0.toInt = 45 ∨ p0.toInt = 46 ∨ p0.toInt = 47 ∨ p0.toInt = 48 ∨ p0.toInt = 49 ∨ p0.toInt = 50 ∨ p0.toInt = 51 ∨ p0.toInt = 52 ∨ p0.toInt = 53 ∨ p0.toInt = 54 ∨ p0.toInt = 55 ∨ p0.toInt = 56 ∨ p0.toInt = 57 ∨ p0.toInt = 58 ∨ p0.toInt = 59 ∨ p0.toInt = 60 ∨ p0.toInt = 61 ∨ p0.toInt = 62 := by omega
    rcases h_2 with h_2 | h_2 | h_2 | h_2 | h_2 | h_2 | h_2 | h_2 | h_2 | h_2 | h_2 | h_2 | h_2 | h_2 | h_2 | h_2 | h_2 | h_2 | h_2 | h_2 | h_2 | h_2 | h_2
    ·
      refine lv_tableIn (off := 107) (tgt := 108) hx hb dX9_signOf_1 (by omega) (by omega) (by rw [h_2]; decide) (by decide) ?_
      refine lv_iconst (v := 5) hx hb dX9_signOf_108 (by decide) ?_
      exact W.iret (v := 5) hx hb hr (fun t ht hW => ⟨5, rfl, (by have hl := t_5; exact ⟨sgK_v (by omega), by omega, by omega⟩), ht⟩) (fun q h => by cases h) dX9_signOf_109
    ·
      refine lv_tableIn (off := 109) (tgt := 110) hx hb dX9_signOf_1 (by omega) (by omega) (by rw [h_2]; decide) (by decide) ?_
      refine lv_bipush (v := 6) hx hb dX9_signOf_110 (by decide) ?_
      exact W.iret (v := 6) hx hb hr (fun t ht hW => ⟨6, rfl, (by have hl := t_6; exact ⟨sgK_v (by omega), by omega, by omega⟩), ht⟩) (fun q h => by cases h) dX9_signOf_112
    ·
      refine lv_tableIn (off := 112) (tgt := 113) hx hb dX9_signOf_1 (by omega) (by omega) (by rw [h_2]; decide) (by decide) ?_
      refine lv_bipush (v := 60) hx hb dX9_signOf_113 (by decide) ?_
      exact W.iret (v := 60) hx hb hr (fun t ht hW => ⟨60, rfl, (by have hl := t_60; exact ⟨sgK_v (by omega), by omega, by omega⟩), ht⟩) (fun q h => by cases h) dX9_signOf_115
    ·
      refine lv_tableIn (off := 115) (tgt := 116) hx hb dX9_signOf_1 (by omega) (by omega) (by rw [h_2]; decide) (by decide) ?_
      refine lv_bipush (v := 50) hx hb dX9_signOf_116 (by decide) ?_
      exact W.iret (v := 50) hx hb hr (fun t ht hW => ⟨50, rfl, (by have hl := t_50; exact ⟨sgK_v (by omega), by omega, by omega⟩), ht⟩) (fun q h => by cases h) dX9_signOf_118
    ·
      refine lv_tableIn (off := 133) (tgt := 134) hx hb dX9_signOf_1 (by omega) (by omega) (by rw [h_2]; decide) (by decide) ?_
      refine lv_iconst (v := 2) hx hb dX9_signOf_134 (by decide) ?_
      exact W.iret (v := 2) hx hb hr (fun t ht hW => ⟨2, rfl, (by have hl := t_2; exact ⟨sgK_v (by omega), by omega, by omega⟩), ht⟩) (fun q h => by cases h) dX9_signOf_135
    ·
      refine lv_tableIn (off := 118) (tgt := 119) hx hb dX9_signOf_1 (by omega) (by omega) (by rw [h_2]; decide) (by decide) ?_
      refine lv_bipush (v := 51) hx hb dX9_signOf_119 (by decide) ?_
      exact W.iret (v := 51) hx hb hr (fun t ht hW => ⟨51, rfl, (by have hl := t_51; exact ⟨sgK_v (by omega), by omega, by omega⟩), ht⟩) (fun q h => by cases h) dX9_signOf_121
    ·
      refine lv_tableIn (off := 133) (tgt := 134) hx hb dX9_signOf_1 (by omega) (by omega) (by rw [h_2]; decide) (by decide) ?_
      refine lv_iconst (v := 2) hx hb dX9_signOf_134 (by decide) ?_
      exact W.iret (v := 2) hx hb hr (fun t ht hW => ⟨2, rfl, (by have hl := t_2; exact ⟨sgK_v (by omega), by omega, by omega⟩), ht⟩) (fun q h => by cases h) dX9_signOf_135
    ·
      refine lv_tableIn (off := 121) (tgt := 122) hx hb dX9_signOf_1 (by omega) (by omega) (by rw [h_2]; decide) (by decide) ?_
      refine lv_bipush (v := 61) hx hb dX9_signOf_122 (by decide) ?_
      exact W.iret (v := 61) hx hb hr (fun t ht hW => ⟨61, rfl, (by have hl := t_61; exact ⟨sgK_v (by omega), by omega, by omega⟩), ht⟩) (fun q h => by cases h) dX9_signOf_124
    ·
      refine lv_tableIn (off := 133) (tgt := 134) hx hb dX9_signOf_1 (by omega) (by omega) (by rw [h_2]; decide) (by decide) ?_
      refine lv_iconst (v := 2) hx hb dX9_signOf_134 (by decide) ?_
      exact W.iret (v := 2) hx hb hr (fun t ht hW => ⟨2, rfl, (by have hl := t_2; exact ⟨sgK_v (by omega), by omega, by omega⟩), ht⟩) (fun q h => by cases h) dX9_signOf_135
    ·
      refine lv_tableIn (off := 133) (tgt := 134) hx hb dX9_signOf_1 (by omega) (by omega) (by rw [h_2]; decide) (by decide) ?_
      refine lv_iconst (v := 2) hx hb dX9_signOf_134 (by decide) ?_
      exact W.iret (v := 2) hx hb hr (fun t ht hW => ⟨2, rfl, (by have hl := t_2; exact ⟨sgK_v (by omega), by omega, by omega⟩), ht⟩) (fun q h => by cases h) dX9_signOf_135
    ·
      refine lv_tableIn (off := 133) (tgt := 134) hx hb dX9_signOf_1 (by omega) (by omega) (by rw [h_2]; decide) (by decide) ?_
      refine lv_iconst (v := 2) hx hb dX9_signOf_134 (by decide) ?_
      exact W.iret (v := 2) hx hb hr (fun t ht hW => ⟨2, rfl, (by have hl := t_2; exact ⟨sgK_v (by omega), by omega, by omega⟩), ht⟩) (fun q h => by cases h) dX9_signOf_135
    ·
      refine lv_tableIn (off := 133) (tgt := 134) hx hb dX9_signOf_1 (by omega) (by omega) (by rw [h_2]; decide) (by decide) ?_
      refine lv_iconst (v := 2) hx hb dX9_signOf_134 (by decide) ?_
      exact W.iret (v := 2) hx hb hr (fun t ht hW => ⟨2, rfl, (by have hl := t_2; exact ⟨sgK_v (by omega), by omega, by omega⟩), ht⟩) (fun q h => by cases h) dX9_signOf_135
    ·
      refine lv_tableIn (off := 133) (tgt := 134) hx hb dX9_signOf_1 (by omega) (by omega) (by rw [h_2]; decide) (by decide) ?_
      refine lv_iconst (v := 2) hx hb dX9_signOf_134 (by decide) ?_
      exact W.iret (v := 2) hx hb hr (fun t ht hW => ⟨2, rfl, (by have hl := t_2; exact ⟨sgK_v (by omega), by omega, by omega⟩), ht⟩) (fun q h => by cases h) dX9_signOf_135
    ·
      refine lv_tableIn (off := 133) (tgt := 134) hx hb dX9_signOf_1 (by omega) (by omega) (by rw [h_2]; decide) (by decide) ?_
      refine lv_iconst (v := 2) hx hb dX9_signOf_134 (by decide) ?_
      exact W.iret (v := 2) hx hb hr (fun t ht hW => ⟨2, rfl, (by have hl := t_2; exact ⟨sgK_v (by omega), by omega, by omega⟩), ht⟩) (fun q h => by cases h) dX9_signOf_135
    ·
      refine lv_tableIn (off := 133) (tgt := 134) hx hb dX9_signOf_1 (by omega) (by omega) (by rw [h_2]; decide) (by decide) ?_
      refine lv_iconst (v := 2) hx hb dX9_signOf_134 (by decide) ?_
      exact W.iret (v := 2) hx hb hr (fun t ht hW => ⟨2, rfl, (by have hl := t_2; exact ⟨sgK_v (by omega), by omega, by omega⟩), ht⟩) (fun q h => by cases h) dX9_signOf_135
    ·
      refine lv_tableIn (off := 133) (tgt := 134) hx hb dX9_signOf_1 (by omega) (by omega) (by rw [h_2]; decide) (by decide) ?_
      refine lv_iconst (v := 2) hx hb dX9_signOf_134 (by decide) ?_
      exact W.iret (v := 2) hx hb hr (fun t ht hW => ⟨2, rfl, (by have hl := t_2; exact ⟨sgK_v (by omega), by omega, by omega⟩), ht⟩) (fun q h => by cases h) dX9_signOf_135
    ·
      refine lv_tableIn (off := 133) (tgt := 134) hx hb dX9_signOf_1 (by omega) (by omega) (by rw [h_2]; decide) (by decide) ?_
      refine lv_iconst (v := 2) hx hb dX9_signOf_134 (by decide) ?_
      exact W.iret (v := 2) hx hb hr (fun t ht hW => ⟨2, rfl, (by have hl := t_2; exact ⟨sgK_v (by omega), by omega, by omega⟩), ht⟩) (fun q h => by cases h) dX9_signOf_135
    ·
      refine lv_tableIn (off := 133) (tgt := 134) hx hb dX9_signOf_1 (by omega) (by omega) (by rw [h_2]; decide) (by decide) ?_
      refine lv_iconst (v := 2) hx hb dX9_signOf_134 (by decide) ?_
      exact W.iret (v := 2) hx hb hr (fun t ht hW => ⟨2, rfl, (by have hl := t_2; exact ⟨sgK_v (by omega), by omega, by omega⟩), ht⟩) (fun q h => by cases h) dX9_signOf_135
    ·
      refine lv_tableIn (off := 133) (tgt := 134) hx hb dX9_signOf_1 (by omega) (by omega) (by rw [h_2]; decide) (by decide) ?_
      refine lv_iconst (v := 2) hx hb dX9_signOf_134 (by decide) ?_
      exact W.iret (v := 2) hx hb hr (fun t ht hW => ⟨2, rfl, (by have hl := t_2; exact ⟨sgK_v (by omega), by omega, by omega⟩), ht⟩) (fun q h => by cases h) dX9_signOf_135
    ·
      refine lv_tableIn (off := 133) (tgt := 134) hx hb dX9_signOf_1 (by omega) (by omega) (by rw [h_2]; decide) (by decide) ?_
      refine lv_iconst (v := 2) hx hb dX9_signOf_134 (by decide) ?_
      exact W.iret (v := 2) hx hb hr (fun t ht hW => ⟨2, rfl, (by have hl := t_2; exact ⟨sgK_v (by omega), by omega, by omega⟩), ht⟩) (fun q h => by cases h) dX9_signOf_135
    ·
      refine lv_tableIn (off := 124) (tgt := 125) hx hb dX9_signOf_1 (by omega) (by omega) (by rw [h_2]; decide) (by decide) ?_
      refine lv_bipush (v := 40) hx hb dX9_signOf_125 (by decide) ?_
      exact W.iret (v := 40) hx hb hr (fun t ht hW => ⟨40, rfl, (by have hl := t_40; exact ⟨sgK_v (by omega), by omega, by omega⟩), ht⟩) (fun q h => by cases h) dX9_signOf_127
    ·
      refine lv_tableIn (off := 127) (tgt := 128) hx hb dX9_signOf_1 (by omega) (by omega) (by rw [h_2]; decide) (by decide) ?_
      refine lv_bipush (v := 41) hx hb dX9_signOf_128 (by decide) ?_
      exact W.iret (v := 41) hx hb hr (fun t ht hW => ⟨41, rfl, (by have hl := t_41; exact ⟨sgK_v (by omega), by omega, by omega⟩), ht⟩) (fun q h => by cases h) dX9_signOf_130
    ·
      refine lv_tableIn (off := 130) (tgt := 131) hx hb dX9_signOf_1 (by omega) (by omega) (by rw [h_2]; decide) (by decide) ?_
      refine lv_bipush (v := 42) hx hb dX9_signOf_131 (by decide) ?_
      exact W.iret (v := 42) hx hb hr (fun t ht hW => ⟨42, rfl, (by have hl := t_42; exact ⟨sgK_v (by omega), by omega, by omega⟩), ht⟩) (fun q h => by cases h) dX9_signOf_133
set_option maxHeartbeats 4000000 in
set_option maxRecDepth 100000 in
theorem g_X9_wordOf (l : Launch) (D : va_G) (E : Nat → Nat) (p0 : Int64) (p1 : Int32)  : Met l yX9_wordOf (wl yX9_wordOf cX9_wordOf 3 (some .int)) (RM 0 0 0) (rd_P D E [.long p0, .int p1] ([] : va_W)) (rd_Q (fun r => (r.toInt = wdF p1.toInt (p0 : Int64).toInt ∧ 2 ≤ r.toInt ∧ r.toInt ≤ 123))) 0 0 (fun _ => False) := by
  refine Met.ofW (cc := cX9_wordOf) (maxL := 3) (ret := (some .int)) (by decide) rfl ?_
  intro p e s m args below meth c s₁ B hml hv
  obtain ⟨rfl, hP, hK⟩ := hv
  have hx := B.exec; have hb := B.bytes; have hr := B.returns
  have hts := atoms_spec (ws := wl yX9_wordOf cX9_wordOf 3 (some .int)) B.pre
  have htb : ∀ w ∈ tb, w.before _ s = true := fun w h => hts w (List.mem_cons_of_mem _ h)
  have hown : s.vm.findClass RX9 = some m.cls := findClass_of_methodNamed B.named
  have hlocks := B.notSynchronized
  have hP : va_P D vwCl ([] : va_W) s.heap := hP
  have hl := lv_entry ([.long p0, .int p1]) (n := 3) (Nat.le_of_ble_eq_true rfl)
  rw [lg_entry_eq]
  generalize (lg_sl ([.long p0, .int p1]) ++ List.replicate (3 - (lg_sl ([.long p0, .int p1])).length) Slot.unset).toArray = ls at hl ⊢
  have hl : lv_has ls 3 [(0, .long p0), (2, .int p1)] := hl
  have lo_p1 := i_lo p1; have hi_p1 := i_hi p1
  refine lv_lload_n hx hb dX9_wordOf_0 rfl (lv_at hl 0 rfl) ?_
  refine lv_ldc2 hx hb hown (htb _ k_1350) dX9_wordOf_1 ?_
  refine W.lcmp hx hb dX9_wordOf_4 ?_
  refine lv_topi (fun z_1 ez_1 => ?_)
  refine lv_if_ne (tgt := 11) hx hb dX9_wordOf_5 (by decide) (fun c_2 => ?_) (fun c_2 => ?_)
  ·
    have lc_3 : ¬ (p0 : Int64) = ((423) : Int64) := lc_ne (by rw [← ez_1]; exact c_2)
    refine lv_lload_n hx hb dX9_wordOf_11 rfl (lv_at hl 0 rfl) ?_
    refine lv_ldc2 hx hb hown (htb _ k_1351) dX9_wordOf_12 ?_
    refine W.lcmp hx hb dX9_wordOf_15 ?_
    refine lv_topi (fun z_4 ez_4 => ?_)
    refine lv_if_ne (tgt := 22) hx hb dX9_wordOf_16 (by decide) (fun c_5 => ?_) (fun c_5 => ?_)
    ·
      have lc_6 : ¬ (p0 : Int64) = ((1111) : Int64) := lc_ne (by rw [← ez_4]; exact c_5)
      refine lv_lload_n hx hb dX9_wordOf_22 rfl (lv_at hl 0 rfl) ?_
      refine lv_ldc2 hx hb hown (htb _ k_1352) dX9_wordOf_23 ?_
      refine W.lcmp hx hb dX9_wordOf_26 ?_
      refine lv_topi (fun z_7 ez_7 => ?_)
      refine lv_if_ne (tgt := 33) hx hb dX9_wordOf_27 (by decide) (fun c_8 => ?_) (fun c_8 => ?_)
      ·
        have lc_9 : ¬ (p0 : Int64) = ((10631) : Int64) := lc_ne (by rw [← ez_7]; exact c_8)
        refine lv_lload_n hx hb dX9_wordOf_33 rfl (lv_at hl 0 rfl) ?_
        refine lv_ldc2 hx hb hown (htb _ k_1353) dX9_wordOf_34 ?_
        refine W.lcmp hx hb dX9_wordOf_37 ?_
        refine lv_topi (fun z_10 ez_10 => ?_)
        refine lv_if_ne (tgt := 44) hx hb dX9_wordOf_38 (by decide) (fun c_11 => ?_) (fun c_11 => ?_)
        ·
          have lc_12 : ¬ (p0 : Int64) = ((802) : Int64) := lc_ne (by rw [← ez_10]; exact c_11)
          refine lv_lload_n hx hb dX9_wordOf_44 rfl (lv_at hl 0 rfl) ?_
          refine lv_ldc2 hx hb hown (htb _ k_1354) dX9_wordOf_45 ?_
          refine W.lcmp hx hb dX9_wordOf_48 ?_
          refine lv_topi (fun z_13 ez_13 => ?_)
          refine lv_if_ne (tgt := 64) hx hb dX9_wordOf_49 (by decide) (fun c_14 => ?_) (fun c_14 => ?_)
          ·
            have lc_15 : ¬ (p0 : Int64) = ((80155) : Int64) := lc_ne (by rw [← ez_13]; exact c_14)
            refine lv_iload_n hx hb dX9_wordOf_64 rfl (lv_at hl 1 rfl) ?_
            refine lv_if_ne (tgt := 160) hx hb dX9_wordOf_65 (by decide) (fun c_16 => ?_) (fun c_16 => ?_)
            ·
              have ic_16 : p1.toInt ≠ 0 := mt (g_eq rfl t_0).mpr c_16
              clear c_16
              refine lv_lload_n hx hb dX9_wordOf_160 rfl (lv_at hl 0 rfl) ?_
              refine lv_ldc2 hx hb hown (htb _ k_1363) dX9_wordOf_161 ?_
              refine W.lcmp hx hb dX9_wordOf_164 ?_
              refine lv_topi (fun z_17 ez_17 => ?_)
              refine lv_if_ne (tgt := 171) hx hb dX9_wordOf_165 (by decide) (fun c_18 => ?_) (fun c_18 => ?_)
              ·
                have lc_19 : ¬ (p0 : Int64) = ((11103) : Int64) := lc_ne (by rw [← ez_17]; exact c_18)
                refine lv_lload_n hx hb dX9_wordOf_171 rfl (lv_at hl 0 rfl) ?_
                refine lv_ldc2 hx hb hown (htb _ k_1364) dX9_wordOf_172 ?_
                refine W.lcmp hx hb dX9_wordOf_175 ?_
                refine lv_topi (fun z_20 ez_20 => ?_)
                refine lv_if_ne (tgt := 182) hx hb dX9_wordOf_176 (by decide) (fun c_21 => ?_) (fun c_21 => ?_)
                ·
                  have lc_22 : ¬ (p0 : Int64) = ((2436392) : Int64) := lc_ne (by rw [← ez_20]; exact c_21)
                  refine lv_lload_n hx hb dX9_wordOf_182 rfl (lv_at hl 0 rfl) ?_
                  refine lv_ldc2 hx hb hown (htb _ k_1365) dX9_wordOf_183 ?_
                  refine W.lcmp hx hb dX9_wordOf_186 ?_
                  refine lv_topi (fun z_23 ez_23 => ?_)
                  refine lv_if_ne (tgt := 195) hx hb dX9_wordOf_187 (by decide) (fun c_24 => ?_) (fun c_24 => ?_)
                  ·
                    have lc_25 : ¬ (p0 : Int64) = ((12387257) : Int64) := lc_ne (by rw [← ez_23]; exact c_24)
                    refine lv_iconst (v := 2) hx hb dX9_wordOf_195 (by decide) ?_
                    exact W.iret (v := 2) hx hb hr (fun t ht hW => ⟨2, rfl, (by have hl := t_2; have ilc_3 : (p0 : Int64).toInt ≠ 423 := fun z => lc_3 (Int64.toInt_inj.mp (z.trans (by decide))); have ilc_6 : (p0 : Int64).toInt ≠ 1111 := fun z => lc_6 (Int64.toInt_inj.mp (z.trans (by decide))); have ilc_9 : (p0 : Int64).toInt ≠ 10631 := fun z => lc_9 (Int64.toInt_inj.mp (z.trans (by decide))); have ilc_12 : (p0 : Int64).toInt ≠ 802 := fun z => lc_12 (Int64.toInt_inj.mp (z.trans (by decide))); have ilc_15 : (p0 : Int64).toInt ≠ 80155 := fun z => lc_15 (Int64.toInt_inj.mp (z.trans (by decide))); have ilc_19 : (p0 : Int64).toInt ≠ 11103 := fun z => lc_19 (Int64.toInt_inj.mp (z.trans (by decide))); have ilc_22 : (p0 : Int64).toInt ≠ 2436392 := fun z => lc_22 (Int64.toInt_inj.mp (z.trans (by decide))); have ilc_25 : (p0 : Int64).toInt ≠ 12387257 := fun z => lc_25 (Int64.toInt_inj.mp (z.trans (by decide))); exact ⟨by unfold wdF; omega, by omega, by omega⟩), ht⟩) (fun q h => by cases h) dX9_wordOf_196
                  ·
                    have lc_26 : (p0 : Int64) = ((12387257) : Int64) := lc_eq (by rw [← ez_23]; exact c_24)
                    refine lv_bipush (v := 123) hx hb dX9_wordOf_190 (by decide) ?_
                    refine lv_goto (tgt := 196) hx hb dX9_wordOf_192 (by decide) ?_
                    exact W.iret (v := 123) hx hb hr (fun t ht hW => ⟨123, rfl, (by have hl := t_123; have ilc_3 : (p0 : Int64).toInt ≠ 423 := fun z => lc_3 (Int64.toInt_inj.mp (z.trans (by decide))); have ilc_6 : (p0 : Int64).toInt ≠ 1111 := fun z => lc_6 (Int64.toInt_inj.mp (z.trans (by decide))); have ilc_9 : (p0 : Int64).toInt ≠ 10631 := fun z => lc_9 (Int64.toInt_inj.mp (z.trans (by decide))); have ilc_12 : (p0 : Int64).toInt ≠ 802 := fun z => lc_12 (Int64.toInt_inj.mp (z.trans (by decide))); have ilc_15 : (p0 : Int64).toInt ≠ 80155 := fun z => lc_15 (Int64.toInt_inj.mp (z.trans (by decide))); have ilc_19 : (p0 : Int64).toInt ≠ 11103 := fun z => lc_19 (Int64.toInt_inj.mp (z.trans (by decide))); have ilc_22 : (p0 : Int64).toInt ≠ 2436392 := fun z => lc_22 (Int64.toInt_inj.mp (z.trans (by decide))); have ilc_26 : (p0 : Int64).toInt = 12387257 := (by rw [lc_26]; decide); exact ⟨by unfold wdF; omega, by omega, by omega⟩), ht⟩) (fun q h => by cases h) dX9_wordOf_196
                ·
                  have lc_27 : (p0 : Int64) = ((2436392) : Int64) := lc_eq (by rw [← ez_20]; exact c_21)
                  refine lv_bipush (v := 121) hx hb dX9_wordOf_179 (by decide) ?_
                  exact W.iret (v := 121) hx hb hr (fun t ht hW => ⟨121, rfl, (by have hl := t_121; have ilc_3 : (p0 : Int64).toInt ≠ 423 := fun z => lc_3 (Int64.toInt_inj.mp (z.trans (by decide))); have ilc_6 : (p0 : Int64).toInt ≠ 1111 := fun z => lc_6 (Int64.toInt_inj.mp (z.trans (by decide))); have ilc_9 : (p0 : Int64).toInt ≠ 10631 := fun z => lc_9 (Int64.toInt_inj.mp (z.trans (by decide))); have ilc_12 : (p0 : Int64).toInt ≠ 802 := fun z => lc_12 (Int64.toInt_inj.mp (z.trans (by decide))); have ilc_15 : (p0 : Int64).toInt ≠ 80155 := fun z => lc_15 (Int64.toInt_inj.mp (z.trans (by decide))); have ilc_19 : (p0 : Int64).toInt ≠ 11103 := fun z => lc_19 (Int64.toInt_inj.mp (z.trans (by decide))); have ilc_27 : (p0 : Int64).toInt = 2436392 := (by rw [lc_27]; decide); exact ⟨by unfold wdF; omega, by omega, by omega⟩), ht⟩) (fun q h => by cases h) dX9_wordOf_181
              ·
                have lc_28 : (p0 : Int64) = ((11103) : Int64) := lc_eq (by rw [← ez_17]; exact c_18)
                refine lv_bipush (v := 120) hx hb dX9_wordOf_168 (by decide) ?_
                exact W.iret (v := 120) hx hb hr (fun t ht hW => ⟨120, rfl, (by have hl := t_120; have ilc_3 : (p0 : Int64).toInt ≠ 423 := fun z => lc_3 (Int64.toInt_inj.mp (z.trans (by decide))); have ilc_6 : (p0 : Int64).toInt ≠ 1111 := fun z => lc_6 (Int64.toInt_inj.mp (z.trans (by decide))); have ilc_9 : (p0 : Int64).toInt ≠ 10631 := fun z => lc_9 (Int64.toInt_inj.mp (z.trans (by decide))); have ilc_12 : (p0 : Int64).toInt ≠ 802 := fun z => lc_12 (Int64.toInt_inj.mp (z.trans (by decide))); have ilc_15 : (p0 : Int64).toInt ≠ 80155 := fun z => lc_15 (Int64.toInt_inj.mp (z.trans (by decide))); have ilc_28 : (p0 : Int64).toInt = 11103 := (by rw [lc_28]; decide); exact ⟨by unfold wdF; omega, by omega, by omega⟩), ht⟩) (fun q h => by cases h) dX9_wordOf_170
            ·
              have ic_16 : p1.toInt = 0 := (g_eq rfl t_0).mp c_16
              clear c_16
              refine lv_lload_n hx hb dX9_wordOf_68 rfl (lv_at hl 0 rfl) ?_
              refine lv_ldc2 hx hb hown (htb _ k_1355) dX9_wordOf_69 ?_
              refine W.lcmp hx hb dX9_wordOf_72 ?_
              refine lv_topi (fun z_29 ez_29 => ?_)
              refine lv_if_ne (tgt := 79) hx hb dX9_wordOf_73 (by decide) (fun c_30 => ?_) (fun c_30 => ?_)
              ·
                have lc_31 : ¬ (p0 : Int64) = ((6476969) : Int64) := lc_ne (by rw [← ez_29]; exact c_30)
                refine lv_lload_n hx hb dX9_wordOf_79 rfl (lv_at hl 0 rfl) ?_
                refine lv_ldc2 hx hb hown (htb _ k_1356) dX9_wordOf_80 ?_
                refine W.lcmp hx hb dX9_wordOf_83 ?_
                refine lv_topi (fun z_32 ez_32 => ?_)
                refine lv_if_ne (tgt := 90) hx hb dX9_wordOf_84 (by decide) (fun c_33 => ?_) (fun c_33 => ?_)
                ·
                  have lc_34 : ¬ (p0 : Int64) = ((267347) : Int64) := lc_ne (by rw [← ez_32]; exact c_33)
                  refine lv_lload_n hx hb dX9_wordOf_90 rfl (lv_at hl 0 rfl) ?_
                  refine lv_ldc2 hx hb hown (htb _ k_1357) dX9_wordOf_91 ?_
                  refine W.lcmp hx hb dX9_wordOf_94 ?_
                  refine lv_topi (fun z_35 ez_35 => ?_)
                  refine lv_if_ne (tgt := 101) hx hb dX9_wordOf_95 (by decide) (fun c_36 => ?_) (fun c_36 => ?_)
                  ·
                    have lc_37 : ¬ (p0 : Int64) = ((385682) : Int64) := lc_ne (by rw [← ez_35]; exact c_36)
                    refine lv_lload_n hx hb dX9_wordOf_101 rfl (lv_at hl 0 rfl) ?_
                    refine lv_ldc2 hx hb hown (htb _ k_1358) dX9_wordOf_102 ?_
                    refine W.lcmp hx hb dX9_wordOf_105 ?_
                    refine lv_topi (fun z_38 ez_38 => ?_)
                    refine lv_if_ne (tgt := 112) hx hb dX9_wordOf_106 (by decide) (fun c_39 => ?_) (fun c_39 => ?_)
                    ·
                      have lc_40 : ¬ (p0 : Int64) = ((138961) : Int64) := lc_ne (by rw [← ez_38]; exact c_39)
                      refine lv_lload_n hx hb dX9_wordOf_112 rfl (lv_at hl 0 rfl) ?_
                      refine lv_ldc2 hx hb hown (htb _ k_1359) dX9_wordOf_113 ?_
                      refine W.lcmp hx hb dX9_wordOf_116 ?_
                      refine lv_topi (fun z_41 ez_41 => ?_)
                      refine lv_if_ne (tgt := 123) hx hb dX9_wordOf_117 (by decide) (fun c_42 => ?_) (fun c_42 => ?_)
                      ·
                        have lc_43 : ¬ (p0 : Int64) = ((212506) : Int64) := lc_ne (by rw [← ez_41]; exact c_42)
                        refine lv_lload_n hx hb dX9_wordOf_123 rfl (lv_at hl 0 rfl) ?_
                        refine lv_ldc2 hx hb hown (htb _ k_1360) dX9_wordOf_124 ?_
                        refine W.lcmp hx hb dX9_wordOf_127 ?_
                        refine lv_topi (fun z_44 ez_44 => ?_)
                        refine lv_if_ne (tgt := 134) hx hb dX9_wordOf_128 (by decide) (fun c_45 => ?_) (fun c_45 => ?_)
                        ·
                          have lc_46 : ¬ (p0 : Int64) = ((2486801) : Int64) := lc_ne (by rw [← ez_44]; exact c_45)
                          refine lv_lload_n hx hb dX9_wordOf_134 rfl (lv_at hl 0 rfl) ?_
                          refine lv_ldc2 hx hb hown (htb _ k_1361) dX9_wordOf_135 ?_
                          refine W.lcmp hx hb dX9_wordOf_138 ?_
                          refine lv_topi (fun z_47 ez_47 => ?_)
                          refine lv_if_ne (tgt := 145) hx hb dX9_wordOf_139 (by decide) (fun c_48 => ?_) (fun c_48 => ?_)
                          ·
                            have lc_49 : ¬ (p0 : Int64) = ((14431) : Int64) := lc_ne (by rw [← ez_47]; exact c_48)
                            refine lv_lload_n hx hb dX9_wordOf_145 rfl (lv_at hl 0 rfl) ?_
                            refine lv_ldc2 hx hb hown (htb _ k_1362) dX9_wordOf_146 ?_
                            refine W.lcmp hx hb dX9_wordOf_149 ?_
                            refine lv_topi (fun z_50 ez_50 => ?_)
                            refine lv_if_ne (tgt := 158) hx hb dX9_wordOf_150 (by decide) (fun c_51 => ?_) (fun c_51 => ?_)
                            ·
                              have lc_52 : ¬ (p0 : Int64) = ((453937) : Int64) := lc_ne (by rw [← ez_50]; exact c_51)
                              refine lv_iconst (v := 2) hx hb dX9_wordOf_158 (by decide) ?_
                              exact W.iret (v := 2) hx hb hr (fun t ht hW => ⟨2, rfl, (by have hl := t_2; have ilc_3 : (p0 : Int64).toInt ≠ 423 := fun z => lc_3 (Int64.toInt_inj.mp (z.trans (by decide))); have ilc_6 : (p0 : Int64).toInt ≠ 1111 := fun z => lc_6 (Int64.toInt_inj.mp (z.trans (by decide))); have ilc_9 : (p0 : Int64).toInt ≠ 10631 := fun z => lc_9 (Int64.toInt_inj.mp (z.trans (by decide))); have ilc_12 : (p0 : Int64).toInt ≠ 802 := fun z => lc_12 (Int64.toInt_inj.mp (z.trans (by decide))); have ilc_15 : (p0 : Int64).toInt ≠ 80155 := fun z => lc_15 (Int64.toInt_inj.mp (z.trans (by decide))); have ilc_31 : (p0 : Int64).toInt ≠ 6476969 := fun z => lc_31 (Int64.toInt_inj.mp (z.trans (by decide))); have ilc_34 : (p0 : Int64).toInt ≠ 267347 := fun z => lc_34 (Int64.toInt_inj.mp (z.trans (by decide))); have ilc_37 : (p0 : Int64).toInt ≠ 385682 := fun z => lc_37 (Int64.toInt_inj.mp (z.trans (by decide))); have ilc_40 : (p0 : Int64).toInt ≠ 138961 := fun z => lc_40 (Int64.toInt_inj.mp (z.trans (by decide))); have ilc_43 : (p0 : Int64).toInt ≠ 212506 := fun z => lc_43 (Int64.toInt_inj.mp (z.trans (by decide))); have ilc_46 : (p0 : Int64).toInt ≠ 2486801 := fun z => lc_46 (Int64.toInt_inj.mp (z.trans (by decide))); have ilc_49 : (p0 : Int64).toInt ≠ 14431 := fun z => lc_49 (Int64.toInt_inj.mp (z.trans (by decide))); have ilc_52 : (p0 : Int64).toInt ≠ 453937 := fun z => lc_52 (Int64.toInt_inj.mp (z.trans (by decide))); exact ⟨by unfold wdF; omega, by omega, by omega⟩), ht⟩) (fun q h => by cases h) dX9_wordOf_159
                            ·
                              have lc_53 : (p0 : Int64) = ((453937) : Int64) := lc_eq (by rw [← ez_50]; exact c_51)
                              refine lv_bipush (v := 108) hx hb dX9_wordOf_153 (by decide) ?_
                              refine lv_goto (tgt := 159) hx hb dX9_wordOf_155 (by decide) ?_
                              exact W.iret (v := 108) hx hb hr (fun t ht hW => ⟨108, rfl, (by have hl := t_108; have ilc_3 : (p0 : Int64).toInt ≠ 423 := fun z => lc_3 (Int64.toInt_inj.mp (z.trans (by decide))); have ilc_6 : (p0 : Int64).toInt ≠ 1111 := fun z => lc_6 (Int64.toInt_inj.mp (z.trans (by decide))); have ilc_9 : (p0 : Int64).toInt ≠ 10631 := fun z => lc_9 (Int64.toInt_inj.mp (z.trans (by decide))); have ilc_12 : (p0 : Int64).toInt ≠ 802 := fun z => lc_12 (Int64.toInt_inj.mp (z.trans (by decide))); have ilc_15 : (p0 : Int64).toInt ≠ 80155 := fun z => lc_15 (Int64.toInt_inj.mp (z.trans (by decide))); have ilc_31 : (p0 : Int64).toInt ≠ 6476969 := fun z => lc_31 (Int64.toInt_inj.mp (z.trans (by decide))); have ilc_34 : (p0 : Int64).toInt ≠ 267347 := fun z => lc_34 (Int64.toInt_inj.mp (z.trans (by decide))); have ilc_37 : (p0 : Int64).toInt ≠ 385682 := fun z => lc_37 (Int64.toInt_inj.mp (z.trans (by decide))); have ilc_40 : (p0 : Int64).toInt ≠ 138961 := fun z => lc_40 (Int64.toInt_inj.mp (z.trans (by decide))); have ilc_43 : (p0 : Int64).toInt ≠ 212506 := fun z => lc_43 (Int64.toInt_inj.mp (z.trans (by decide))); have ilc_46 : (p0 : Int64).toInt ≠ 2486801 := fun z => lc_46 (Int64.toInt_inj.mp (z.trans (by decide))); have ilc_49 : (p0 : Int64).toInt ≠ 14431 := fun z => lc_49 (Int64.toInt_inj.mp (z.trans (by decide))); have ilc_53 : (p0 : Int64).toInt = 453937 := (by rw [lc_53]; decide); exact ⟨by unfold wdF; omega, by omega, by omega⟩), ht⟩) (fun q h => by cases h) dX9_wordOf_159
                          ·
                            have lc_54 : (p0 : Int64) = ((14431) : Int64) := lc_eq (by rw [← ez_47]; exact c_48)
                            refine lv_bipush (v := 107) hx hb dX9_wordOf_142 (by decide) ?_
                            exact W.iret (v := 107) hx hb hr (fun t ht hW => ⟨107, rfl, (by have hl := t_107; have ilc_3 : (p0 : Int64).toInt ≠ 423 := fun z => lc_3 (Int64.toInt_inj.mp (z.trans (by decide))); have ilc_6 : (p0 : Int64).toInt ≠ 1111 := fun z => lc_6 (Int64.toInt_inj.mp (z.trans (by decide))); have ilc_9 : (p0 : Int64).toInt ≠ 10631 := fun z => lc_9 (Int64.toInt_inj.mp (z.trans (by decide))); have ilc_12 : (p0 : Int64).toInt ≠ 802 := fun z => lc_12 (Int64.toInt_inj.mp (z.trans (by decide))); have ilc_15 : (p0 : Int64).toInt ≠ 80155 := fun z => lc_15 (Int64.toInt_inj.mp (z.trans (by decide))); have ilc_31 : (p0 : Int64).toInt ≠ 6476969 := fun z => lc_31 (Int64.toInt_inj.mp (z.trans (by decide))); have ilc_34 : (p0 : Int64).toInt ≠ 267347 := fun z => lc_34 (Int64.toInt_inj.mp (z.trans (by decide))); have ilc_37 : (p0 : Int64).toInt ≠ 385682 := fun z => lc_37 (Int64.toInt_inj.mp (z.trans (by decide))); have ilc_40 : (p0 : Int64).toInt ≠ 138961 := fun z => lc_40 (Int64.toInt_inj.mp (z.trans (by decide))); have ilc_43 : (p0 : Int64).toInt ≠ 212506 := fun z => lc_43 (Int64.toInt_inj.mp (z.trans (by decide))); have ilc_46 : (p0 : Int64).toInt ≠ 2486801 := fun z => lc_46 (Int64.toInt_inj.mp (z.trans (by decide))); have ilc_54 : (p0 : Int64).toInt = 14431 := (by rw [lc_54]; decide); exact ⟨by unfold wdF; omega, by omega, by omega⟩), ht⟩) (fun q h => by cases h) dX9_wordOf_144
                        ·
                          have lc_55 : (p0 : Int64) = ((2486801) : Int64) := lc_eq (by rw [← ez_44]; exact c_45)
                          refine lv_bipush (v := 106) hx hb dX9_wordOf_131 (by decide) ?_
                          exact W.iret (v := 106) hx hb hr (fun t ht hW => ⟨106, rfl, (by have hl := t_106; have ilc_3 : (p0 : Int64).toInt ≠ 423 := fun z => lc_3 (Int64.toInt_inj.mp (z.trans (by decide))); have ilc_6 : (p0 : Int64).toInt ≠ 1111 := fun z => lc_6 (Int64.toInt_inj.mp (z.trans (by decide))); have ilc_9 : (p0 : Int64).toInt ≠ 10631 := fun z => lc_9 (Int64.toInt_inj.mp (z.trans (by decide))); have ilc_12 : (p0 : Int64).toInt ≠ 802 := fun z => lc_12 (Int64.toInt_inj.mp (z.trans (by decide))); have ilc_15 : (p0 : Int64).toInt ≠ 80155 := fun z => lc_15 (Int64.toInt_inj.mp (z.trans (by decide))); have ilc_31 : (p0 : Int64).toInt ≠ 6476969 := fun z => lc_31 (Int64.toInt_inj.mp (z.trans (by decide))); have ilc_34 : (p0 : Int64).toInt ≠ 267347 := fun z => lc_34 (Int64.toInt_inj.mp (z.trans (by decide))); have ilc_37 : (p0 : Int64).toInt ≠ 385682 := fun z => lc_37 (Int64.toInt_inj.mp (z.trans (by decide))); have ilc_40 : (p0 : Int64).toInt ≠ 138961 := fun z => lc_40 (Int64.toInt_inj.mp (z.trans (by decide))); have ilc_43 : (p0 : Int64).toInt ≠ 212506 := fun z => lc_43 (Int64.toInt_inj.mp (z.trans (by decide))); have ilc_55 : (p0 : Int64).toInt = 2486801 := (by rw [lc_55]; decide); exact ⟨by unfold wdF; omega, by omega, by omega⟩), ht⟩) (fun q h => by cases h) dX9_wordOf_133
                      ·
                        have lc_56 : (p0 : Int64) = ((212506) : Int64) := lc_eq (by rw [← ez_41]; exact c_42)
                        refine lv_bipush (v := 105) hx hb dX9_wordOf_120 (by decide) ?_
                        exact W.iret (v := 105) hx hb hr (fun t ht hW => ⟨105, rfl, (by have hl := t_105; have ilc_3 : (p0 : Int64).toInt ≠ 423 := fun z => lc_3 (Int64.toInt_inj.mp (z.trans (by decide))); have ilc_6 : (p0 : Int64).toInt ≠ 1111 := fun z => lc_6 (Int64.toInt_inj.mp (z.trans (by decide))); have ilc_9 : (p0 : Int64).toInt ≠ 10631 := fun z => lc_9 (Int64.toInt_inj.mp (z.trans (by decide))); have ilc_12 : (p0 : Int64).toInt ≠ 802 := fun z => lc_12 (Int64.toInt_inj.mp (z.trans (by decide))); have ilc_15 : (p0 : Int64).toInt ≠ 80155 := fun z => lc_15 (Int64.toInt_inj.mp (z.trans (by decide))); have ilc_31 : (p0 : Int64).toInt ≠ 6476969 := fun z => lc_31 (Int64.toInt_inj.mp (z.trans (by decide))); have ilc_34 : (p0 : Int64).toInt ≠ 267347 := fun z => lc_34 (Int64.toInt_inj.mp (z.trans (by decide))); have ilc_37 : (p0 : Int64).toInt ≠ 385682 := fun z => lc_37 (Int64.toInt_inj.mp (z.trans (by decide))); have ilc_40 : (p0 : Int64).toInt ≠ 138961 := fun z => lc_40 (Int64.toInt_inj.mp (z.trans (by decide))); have ilc_56 : (p0 : Int64).toInt = 212506 := (by rw [lc_56]; decide); exact ⟨by unfold wdF; omega, by omega, by omega⟩), ht⟩) (fun q h => by cases h) dX9_wordOf_122
                    ·
                      have lc_57 : (p0 : Int64) = ((138961) : Int64) := lc_eq (by rw [← ez_38]; exact c_39)
                      refine lv_bipush (v := 104) hx hb dX9_wordOf_109 (by decide) ?_
                      exact W.iret (v := 104) hx hb hr (fun t ht hW => ⟨104, rfl, (by have hl := t_104; have ilc_3 : (p0 : Int64).toInt ≠ 423 := fun z => lc_3 (Int64.toInt_inj.mp (z.trans (by decide))); have ilc_6 : (p0 : Int64).toInt ≠ 1111 := fun z => lc_6 (Int64.toInt_inj.mp (z.trans (by decide))); have ilc_9 : (p0 : Int64).toInt ≠ 10631 := fun z => lc_9 (Int64.toInt_inj.mp (z.trans (by decide))); have ilc_12 : (p0 : Int64).toInt ≠ 802 := fun z => lc_12 (Int64.toInt_inj.mp (z.trans (by decide))); have ilc_15 : (p0 : Int64).toInt ≠ 80155 := fun z => lc_15 (Int64.toInt_inj.mp (z.trans (by decide))); have ilc_31 : (p0 : Int64).toInt ≠ 6476969 := fun z => lc_31 (Int64.toInt_inj.mp (z.trans (by decide))); have ilc_34 : (p0 : Int64).toInt ≠ 267347 := fun z => lc_34 (Int64.toInt_inj.mp (z.trans (by decide))); have ilc_37 : (p0 : Int64).toInt ≠ 385682 := fun z => lc_37 (Int64.toInt_inj.mp (z.trans (by decide))); have ilc_57 : (p0 : Int64).toInt = 138961 := (by rw [lc_57]; decide); exact ⟨by unfold wdF; omega, by omega, by omega⟩), ht⟩) (fun q h => by cases h) dX9_wordOf_111
                  ·
                    have lc_58 : (p0 : Int64) = ((385682) : Int64) := lc_eq (by rw [← ez_35]; exact c_36)
                    refine lv_bipush (v := 103) hx hb dX9_wordOf_98 (by decide) ?_
                    exact W.iret (v := 103) hx hb hr (fun t ht hW => ⟨103, rfl, (by have hl := t_103; have ilc_3 : (p0 : Int64).toInt ≠ 423 := fun z => lc_3 (Int64.toInt_inj.mp (z.trans (by decide))); have ilc_6 : (p0 : Int64).toInt ≠ 1111 := fun z => lc_6 (Int64.toInt_inj.mp (z.trans (by decide))); have ilc_9 : (p0 : Int64).toInt ≠ 10631 := fun z => lc_9 (Int64.toInt_inj.mp (z.trans (by decide))); have ilc_12 : (p0 : Int64).toInt ≠ 802 := fun z => lc_12 (Int64.toInt_inj.mp (z.trans (by decide))); have ilc_15 : (p0 : Int64).toInt ≠ 80155 := fun z => lc_15 (Int64.toInt_inj.mp (z.trans (by decide))); have ilc_31 : (p0 : Int64).toInt ≠ 6476969 := fun z => lc_31 (Int64.toInt_inj.mp (z.trans (by decide))); have ilc_34 : (p0 : Int64).toInt ≠ 267347 := fun z => lc_34 (Int64.toInt_inj.mp (z.trans (by decide))); have ilc_58 : (p0 : Int64).toInt = 385682 := (by rw [lc_58]; decide); exact ⟨by unfold wdF; omega, by omega, by omega⟩), ht⟩) (fun q h => by cases h) dX9_wordOf_100
                ·
                  have lc_59 : (p0 : Int64) = ((267347) : Int64) := lc_eq (by rw [← ez_32]; exact c_33)
                  refine lv_bipush (v := 102) hx hb dX9_wordOf_87 (by decide) ?_
                  exact W.iret (v := 102) hx hb hr (fun t ht hW => ⟨102, rfl, (by have hl := t_102; have ilc_3 : (p0 : Int64).toInt ≠ 423 := fun z => lc_3 (Int64.toInt_inj.mp (z.trans (by decide))); have ilc_6 : (p0 : Int64).toInt ≠ 1111 := fun z => lc_6 (Int64.toInt_inj.mp (z.trans (by decide))); have ilc_9 : (p0 : Int64).toInt ≠ 10631 := fun z => lc_9 (Int64.toInt_inj.mp (z.trans (by decide))); have ilc_12 : (p0 : Int64).toInt ≠ 802 := fun z => lc_12 (Int64.toInt_inj.mp (z.trans (by decide))); have ilc_15 : (p0 : Int64).toInt ≠ 80155 := fun z => lc_15 (Int64.toInt_inj.mp (z.trans (by decide))); have ilc_31 : (p0 : Int64).toInt ≠ 6476969 := fun z => lc_31 (Int64.toInt_inj.mp (z.trans (by decide))); have ilc_59 : (p0 : Int64).toInt = 267347 := (by rw [lc_59]; decide); exact ⟨by unfold wdF; omega, by omega, by omega⟩), ht⟩) (fun q h => by cases h) dX9_wordOf_89
              ·
                have lc_60 : (p0 : Int64) = ((6476969) : Int64) := lc_eq (by rw [← ez_29]; exact c_30)
                refine lv_bipush (v := 101) hx hb dX9_wordOf_76 (by decide) ?_
                exact W.iret (v := 101) hx hb hr (fun t ht hW => ⟨101, rfl, (by have hl := t_101; have ilc_3 : (p0 : Int64).toInt ≠ 423 := fun z => lc_3 (Int64.toInt_inj.mp (z.trans (by decide))); have ilc_6 : (p0 : Int64).toInt ≠ 1111 := fun z => lc_6 (Int64.toInt_inj.mp (z.trans (by decide))); have ilc_9 : (p0 : Int64).toInt ≠ 10631 := fun z => lc_9 (Int64.toInt_inj.mp (z.trans (by decide))); have ilc_12 : (p0 : Int64).toInt ≠ 802 := fun z => lc_12 (Int64.toInt_inj.mp (z.trans (by decide))); have ilc_15 : (p0 : Int64).toInt ≠ 80155 := fun z => lc_15 (Int64.toInt_inj.mp (z.trans (by decide))); have ilc_60 : (p0 : Int64).toInt = 6476969 := (by rw [lc_60]; decide); exact ⟨by unfold wdF; omega, by omega, by omega⟩), ht⟩) (fun q h => by cases h) dX9_wordOf_78
          ·
            have lc_61 : (p0 : Int64) = ((80155) : Int64) := lc_eq (by rw [← ez_13]; exact c_14)
            refine lv_iload_n hx hb dX9_wordOf_52 rfl (lv_at hl 1 rfl) ?_
            refine lv_if_ne (tgt := 61) hx hb dX9_wordOf_53 (by decide) (fun c_62 => ?_) (fun c_62 => ?_)
            ·
              have ic_62 : p1.toInt ≠ 0 := mt (g_eq rfl t_0).mpr c_62
              clear c_62
              refine lv_bipush (v := 122) hx hb dX9_wordOf_61 (by decide) ?_
              exact W.iret (v := 122) hx hb hr (fun t ht hW => ⟨122, rfl, (by have hl := t_122; have ilc_3 : (p0 : Int64).toInt ≠ 423 := fun z => lc_3 (Int64.toInt_inj.mp (z.trans (by decide))); have ilc_6 : (p0 : Int64).toInt ≠ 1111 := fun z => lc_6 (Int64.toInt_inj.mp (z.trans (by decide))); have ilc_9 : (p0 : Int64).toInt ≠ 10631 := fun z => lc_9 (Int64.toInt_inj.mp (z.trans (by decide))); have ilc_12 : (p0 : Int64).toInt ≠ 802 := fun z => lc_12 (Int64.toInt_inj.mp (z.trans (by decide))); have ilc_61 : (p0 : Int64).toInt = 80155 := (by rw [lc_61]; decide); exact ⟨by unfold wdF; omega, by omega, by omega⟩), ht⟩) (fun q h => by cases h) dX9_wordOf_63
            ·
              have ic_62 : p1.toInt = 0 := (g_eq rfl t_0).mp c_62
              clear c_62
              refine lv_bipush (v := 100) hx hb dX9_wordOf_56 (by decide) ?_
              refine lv_goto (tgt := 63) hx hb dX9_wordOf_58 (by decide) ?_
              exact W.iret (v := 100) hx hb hr (fun t ht hW => ⟨100, rfl, (by have hl := t_100; have ilc_3 : (p0 : Int64).toInt ≠ 423 := fun z => lc_3 (Int64.toInt_inj.mp (z.trans (by decide))); have ilc_6 : (p0 : Int64).toInt ≠ 1111 := fun z => lc_6 (Int64.toInt_inj.mp (z.trans (by decide))); have ilc_9 : (p0 : Int64).toInt ≠ 10631 := fun z => lc_9 (Int64.toInt_inj.mp (z.trans (by decide))); have ilc_12 : (p0 : Int64).toInt ≠ 802 := fun z => lc_12 (Int64.toInt_inj.mp (z.trans (by decide))); have ilc_61 : (p0 : Int64).toInt = 80155 := (by rw [lc_61]; decide); exact ⟨by unfold wdF; omega, by omega, by omega⟩), ht⟩) (fun q h => by cases h) dX9_wordOf_63
        ·
          have lc_63 : (p0 : Int64) = ((802) : Int64) := lc_eq (by rw [← ez_10]; exact c_11)
          refine lv_bipush (v := 71) hx hb dX9_wordOf_41 (by decide) ?_
          exact W.iret (v := 71) hx hb hr (fun t ht hW => ⟨71, rfl, (by have hl := t_71; have ilc_3 : (p0 : Int64).toInt ≠ 423 := fun z => lc_3 (Int64.toInt_inj.mp (z.trans (by decide))); have ilc_6 : (p0 : Int64).toInt ≠ 1111 := fun z => lc_6 (Int64.toInt_inj.mp (z.trans (by decide))); have ilc_9 : (p0 : Int64).toInt ≠ 10631 := fun z => lc_9 (Int64.toInt_inj.mp (z.trans (by decide))); have ilc_63 : (p0 : Int64).toInt = 802 := (by rw [lc_63]; decide); exact ⟨by unfold wdF; omega, by omega, by omega⟩), ht⟩) (fun q h => by cases h) dX9_wordOf_43
      ·
        have lc_64 : (p0 : Int64) = ((10631) : Int64) := lc_eq (by rw [← ez_7]; exact c_8)
        refine lv_bipush (v := 30) hx hb dX9_wordOf_30 (by decide) ?_
        exact W.iret (v := 30) hx hb hr (fun t ht hW => ⟨30, rfl, (by have hl := t_30; have ilc_3 : (p0 : Int64).toInt ≠ 423 := fun z => lc_3 (Int64.toInt_inj.mp (z.trans (by decide))); have ilc_6 : (p0 : Int64).toInt ≠ 1111 := fun z => lc_6 (Int64.toInt_inj.mp (z.trans (by decide))); have ilc_64 : (p0 : Int64).toInt = 10631 := (by rw [lc_64]; decide); exact ⟨by unfold wdF; omega, by omega, by omega⟩), ht⟩) (fun q h => by cases h) dX9_wordOf_32
    ·
      have lc_65 : (p0 : Int64) = ((1111) : Int64) := lc_eq (by rw [← ez_4]; exact c_5)
      refine lv_bipush (v := 20) hx hb dX9_wordOf_19 (by decide) ?_
      exact W.iret (v := 20) hx hb hr (fun t ht hW => ⟨20, rfl, (by have hl := t_20; have ilc_3 : (p0 : Int64).toInt ≠ 423 := fun z => lc_3 (Int64.toInt_inj.mp (z.trans (by decide))); have ilc_65 : (p0 : Int64).toInt = 1111 := (by rw [lc_65]; decide); exact ⟨by unfold wdF; omega, by omega, by omega⟩), ht⟩) (fun q h => by cases h) dX9_wordOf_21
  ·
    have lc_66 : (p0 : Int64) = ((423) : Int64) := lc_eq (by rw [← ez_1]; exact c_2)
    refine lv_bipush (v := 10) hx hb dX9_wordOf_8 (by decide) ?_
    exact W.iret (v := 10) hx hb hr (fun t ht hW => ⟨10, rfl, (by have hl := t_10; have ilc_66 : (p0 : Int64).toInt = 423 := (by rw [lc_66]; decide); exact ⟨by unfold wdF; omega, by omega, by omega⟩), ht⟩) (fun q h => by cases h) dX9_wordOf_10
set_option maxHeartbeats 4000000 in
set_option maxRecDepth 100000 in
theorem g_X9_both (l : Launch) (D : va_G) (E : Nat → Nat) (p0 : Int32) (p1 : Int32) (p2 : Int32)  : Met l yX9_both (wl yX9_both cX9_both 3 (some .int)) (RM 0 0 0) (rd_P D E [.int p0, .int p1, .int p2] ([] : va_W)) (rd_Q (fun r => (r = bthF p0.toInt p1 p2))) 0 0 (fun _ => False) := by
  refine Met.ofW (cc := cX9_both) (maxL := 3) (ret := (some .int)) (by decide) rfl ?_
  intro p e s m args below meth c s₁ B hml hv
  obtain ⟨rfl, hP, hK⟩ := hv
  have hx := B.exec; have hb := B.bytes; have hr := B.returns
  have hts := atoms_spec (ws := wl yX9_both cX9_both 3 (some .int)) B.pre
  have htb : ∀ w ∈ tb, w.before _ s = true := fun w h => hts w (List.mem_cons_of_mem _ h)
  have hown : s.vm.findClass RX9 = some m.cls := findClass_of_methodNamed B.named
  have hlocks := B.notSynchronized
  have hP : va_P D vwCl ([] : va_W) s.heap := hP
  have hl := lv_entry ([.int p0, .int p1, .int p2]) (n := 3) (Nat.le_of_ble_eq_true rfl)
  rw [lg_entry_eq]
  generalize (lg_sl ([.int p0, .int p1, .int p2]) ++ List.replicate (3 - (lg_sl ([.int p0, .int p1, .int p2])).length) Slot.unset).toArray = ls at hl ⊢
  have hl : lv_has ls 3 [(0, .int p0), (1, .int p1), (2, .int p2)] := hl
  have lo_p0 := i_lo p0; have hi_p0 := i_hi p0
  have lo_p1 := i_lo p1; have hi_p1 := i_hi p1
  have lo_p2 := i_lo p2; have hi_p2 := i_hi p2
  refine lv_iload_n hx hb dX9_both_0 rfl (lv_at hl 0 rfl) ?_
  by_cases h_1 : p0 = 10
  ·
    have ih_1 : p0.toInt = 10 := (g_eq rfl t_10).mp h_1
    refine lv_lookup (off := 75) (tgt := 76) hx hb dX9_both_1 (by decide) (by rw [ih_1]; decide) (by decide) ?_
    refine lv_iload_n hx hb dX9_both_76 rfl (lv_at hl 1 rfl) ?_
    refine lv_if_ne (tgt := 84) hx hb dX9_both_77 (by decide) (fun c_2 => ?_) (fun c_2 => ?_)
    ·
      have ic_2 : p1.toInt ≠ 0 := mt (g_eq rfl t_0).mpr c_2
      clear c_2
      refine lv_iconst (v := 1) hx hb dX9_both_84 (by decide) ?_
      refine lv_goto (tgt := 89) hx hb dX9_both_85 (by decide) ?_
      exact W.iret (v := 1) hx hb hr (fun t ht hW => ⟨1, rfl, (by unfold bthF; (repeat' split) <;> first | rfl | assumption | (exfalso; omega)), ht⟩) (fun q h => by cases h) dX9_both_89
    ·
      have ic_2 : p1.toInt = 0 := (g_eq rfl t_0).mp c_2
      clear c_2
      refine lv_iload_n hx hb dX9_both_80 rfl (lv_at hl 2 rfl) ?_
      refine lv_if_eq (tgt := 88) hx hb dX9_both_81 (by decide) (fun c_3 => ?_) (fun c_3 => ?_)
      ·
        have ic_3 : p2.toInt = 0 := (g_eq rfl t_0).mp c_3
        clear c_3
        refine lv_iconst (v := 0) hx hb dX9_both_88 (by decide) ?_
        exact W.iret (v := 0) hx hb hr (fun t ht hW => ⟨0, rfl, (by unfold bthF; (repeat' split) <;> first | rfl | assumption | (exfalso; omega)), ht⟩) (fun q h => by cases h) dX9_both_89
      ·
        have ic_3 : p2.toInt ≠ 0 := mt (g_eq rfl t_0).mpr c_3
        clear c_3
        refine lv_iconst (v := 1) hx hb dX9_both_84 (by decide) ?_
        refine lv_goto (tgt := 89) hx hb dX9_both_85 (by decide) ?_
        exact W.iret (v := 1) hx hb hr (fun t ht hW => ⟨1, rfl, (by unfold bthF; (repeat' split) <;> first | rfl | assumption | (exfalso; omega)), ht⟩) (fun q h => by cases h) dX9_both_89
  ·
    have ih_1 : p0.toInt ≠ 10 := mt (g_eq rfl t_10).mpr h_1
    by_cases h_4 : p0 = 20
    ·
      have ih_4 : p0.toInt = 20 := (g_eq rfl t_20).mp h_4
      refine lv_lookup (off := 89) (tgt := 90) hx hb dX9_both_1 (by decide) (by rw [ih_4]; decide) (by decide) ?_
      refine lv_iload_n hx hb dX9_both_90 rfl (lv_at hl 1 rfl) ?_
      refine lv_if_eq (tgt := 102) hx hb dX9_both_91 (by decide) (fun c_5 => ?_) (fun c_5 => ?_)
      ·
        have ic_5 : p1.toInt = 0 := (g_eq rfl t_0).mp c_5
        clear c_5
        refine lv_iconst (v := 0) hx hb dX9_both_102 (by decide) ?_
        exact W.iret (v := 0) hx hb hr (fun t ht hW => ⟨0, rfl, (by unfold bthF; (repeat' split) <;> first | rfl | assumption | (exfalso; omega)), ht⟩) (fun q h => by cases h) dX9_both_103
      ·
        have ic_5 : p1.toInt ≠ 0 := mt (g_eq rfl t_0).mpr c_5
        clear c_5
        refine lv_iload_n hx hb dX9_both_94 rfl (lv_at hl 2 rfl) ?_
        refine lv_if_eq (tgt := 102) hx hb dX9_both_95 (by decide) (fun c_6 => ?_) (fun c_6 => ?_)
        ·
          have ic_6 : p2.toInt = 0 := (g_eq rfl t_0).mp c_6
          clear c_6
          refine lv_iconst (v := 0) hx hb dX9_both_102 (by decide) ?_
          exact W.iret (v := 0) hx hb hr (fun t ht hW => ⟨0, rfl, (by unfold bthF; (repeat' split) <;> first | rfl | assumption | (exfalso; omega)), ht⟩) (fun q h => by cases h) dX9_both_103
        ·
          have ic_6 : p2.toInt ≠ 0 := mt (g_eq rfl t_0).mpr c_6
          clear c_6
          refine lv_iconst (v := 1) hx hb dX9_both_98 (by decide) ?_
          refine lv_goto (tgt := 103) hx hb dX9_both_99 (by decide) ?_
          exact W.iret (v := 1) hx hb hr (fun t ht hW => ⟨1, rfl, (by unfold bthF; (repeat' split) <;> first | rfl | assumption | (exfalso; omega)), ht⟩) (fun q h => by cases h) dX9_both_103
    ·
      have ih_4 : p0.toInt ≠ 20 := mt (g_eq rfl t_20).mpr h_4
      by_cases h_7 : p0 = 40
      ·
        have ih_7 : p0.toInt = 40 := (g_eq rfl t_40).mp h_7
        refine lv_lookup (off := 103) (tgt := 104) hx hb dX9_both_1 (by decide) (by rw [ih_7]; decide) (by decide) ?_
        refine lv_iload_n hx hb dX9_both_104 rfl (lv_at hl 1 rfl) ?_
        refine lv_iload_n hx hb dX9_both_105 rfl (lv_at hl 2 rfl) ?_
        refine lv_icmp_ge (tgt := 113) hx hb dX9_both_106 (by decide) (fun c_8 => ?_) (fun c_8 => ?_)
        ·
          have ic_8 : p2.toInt ≤ p1.toInt := by first | exact (g_le rfl rfl).mp c_8 | (have h := mt (g_lt rfl rfl).mpr c_8; omega)
          clear c_8
          refine lv_iconst (v := 0) hx hb dX9_both_113 (by decide) ?_
          exact W.iret (v := 0) hx hb hr (fun t ht hW => ⟨0, rfl, (by unfold bthF; (repeat' split) <;> first | rfl | assumption | (exfalso; omega)), ht⟩) (fun q h => by cases h) dX9_both_114
        ·
          have ic_8 : p1.toInt < p2.toInt := by first | exact (g_lt rfl rfl).mp c_8 | (have h := mt (g_le rfl rfl).mpr c_8; omega)
          clear c_8
          refine lv_iconst (v := 1) hx hb dX9_both_109 (by decide) ?_
          refine lv_goto (tgt := 114) hx hb dX9_both_110 (by decide) ?_
          exact W.iret (v := 1) hx hb hr (fun t ht hW => ⟨1, rfl, (by unfold bthF; (repeat' split) <;> first | rfl | assumption | (exfalso; omega)), ht⟩) (fun q h => by cases h) dX9_both_114
      ·
        have ih_7 : p0.toInt ≠ 40 := mt (g_eq rfl t_40).mpr h_7
        by_cases h_9 : p0 = 41
        ·
          have ih_9 : p0.toInt = 41 := (g_eq rfl t_41).mp h_9
          refine lv_lookup (off := 114) (tgt := 115) hx hb dX9_both_1 (by decide) (by rw [ih_9]; decide) (by decide) ?_
          refine lv_iload_n hx hb dX9_both_115 rfl (lv_at hl 1 rfl) ?_
          refine lv_iload_n hx hb dX9_both_116 rfl (lv_at hl 2 rfl) ?_
          refine lv_icmp_ne (tgt := 124) hx hb dX9_both_117 (by decide) (fun c_10 => ?_) (fun c_10 => ?_)
          ·
            have ic_10 : p1.toInt ≠ p2.toInt := mt (g_eq rfl rfl).mpr c_10
            clear c_10
            refine lv_iconst (v := 0) hx hb dX9_both_124 (by decide) ?_
            exact W.iret (v := 0) hx hb hr (fun t ht hW => ⟨0, rfl, (by unfold bthF; (repeat' split) <;> first | rfl | assumption | (exfalso; omega)), ht⟩) (fun q h => by cases h) dX9_both_125
          ·
            have ic_10 : p1.toInt = p2.toInt := (g_eq rfl rfl).mp c_10
            clear c_10
            refine lv_iconst (v := 1) hx hb dX9_both_120 (by decide) ?_
            refine lv_goto (tgt := 125) hx hb dX9_both_121 (by decide) ?_
            exact W.iret (v := 1) hx hb hr (fun t ht hW => ⟨1, rfl, (by unfold bthF; (repeat' split) <;> first | rfl | assumption | (exfalso; omega)), ht⟩) (fun q h => by cases h) dX9_both_125
        ·
          have ih_9 : p0.toInt ≠ 41 := mt (g_eq rfl t_41).mpr h_9
          by_cases h_11 : p0 = 42
          ·
            have ih_11 : p0.toInt = 42 := (g_eq rfl t_42).mp h_11
            refine lv_lookup (off := 125) (tgt := 126) hx hb dX9_both_1 (by decide) (by rw [ih_11]; decide) (by decide) ?_
            refine lv_iload_n hx hb dX9_both_126 rfl (lv_at hl 1 rfl) ?_
            refine lv_iload_n hx hb dX9_both_127 rfl (lv_at hl 2 rfl) ?_
            refine lv_icmp_le (tgt := 135) hx hb dX9_both_128 (by decide) (fun c_12 => ?_) (fun c_12 => ?_)
            ·
              have ic_12 : p1.toInt ≤ p2.toInt := by first | exact (g_le rfl rfl).mp c_12 | (have h := mt (g_lt rfl rfl).mpr c_12; omega)
              clear c_12
              refine lv_iconst (v := 0) hx hb dX9_both_135 (by decide) ?_
              exact W.iret (v := 0) hx hb hr (fun t ht hW => ⟨0, rfl, (by unfold bthF; (repeat' split) <;> first | rfl | assumption | (exfalso; omega)), ht⟩) (fun q h => by cases h) dX9_both_136
            ·
              have ic_12 : p2.toInt < p1.toInt := by first | exact (g_lt rfl rfl).mp c_12 | (have h := mt (g_le rfl rfl).mpr c_12; omega)
              clear c_12
              refine lv_iconst (v := 1) hx hb dX9_both_131 (by decide) ?_
              refine lv_goto (tgt := 136) hx hb dX9_both_132 (by decide) ?_
              exact W.iret (v := 1) hx hb hr (fun t ht hW => ⟨1, rfl, (by unfold bthF; (repeat' split) <;> first | rfl | assumption | (exfalso; omega)), ht⟩) (fun q h => by cases h) dX9_both_136
          ·
            have ih_11 : p0.toInt ≠ 42 := mt (g_eq rfl t_42).mpr h_11
            by_cases h_13 : p0 = 50
            ·
              have ih_13 : p0.toInt = 50 := (g_eq rfl t_50).mp h_13
              refine lv_lookup (off := 136) (tgt := 137) hx hb dX9_both_1 (by decide) (by rw [ih_13]; decide) (by decide) ?_
              refine lv_iload_n hx hb dX9_both_137 rfl (lv_at hl 1 rfl) ?_
              refine lv_iload_n hx hb dX9_both_138 rfl (lv_at hl 2 rfl) ?_
              refine lv_iadd hx hb dX9_both_139 ?_
              refine lv_topi (fun z_14 ez_14 => ?_)
              exact W.iret (v := z_14) hx hb hr (fun t ht hW => ⟨z_14, rfl, (by unfold bthF; (repeat' split) <;> first | rfl | assumption | (exfalso; omega)), ht⟩) (fun q h => by cases h) dX9_both_140
            ·
              have ih_13 : p0.toInt ≠ 50 := mt (g_eq rfl t_50).mpr h_13
              by_cases h_15 : p0 = 51
              ·
                have ih_15 : p0.toInt = 51 := (g_eq rfl t_51).mp h_15
                refine lv_lookup (off := 140) (tgt := 141) hx hb dX9_both_1 (by decide) (by rw [ih_15]; decide) (by decide) ?_
                refine lv_iload_n hx hb dX9_both_141 rfl (lv_at hl 1 rfl) ?_
                refine lv_iload_n hx hb dX9_both_142 rfl (lv_at hl 2 rfl) ?_
                refine lv_isub hx hb dX9_both_143 ?_
                refine lv_topi (fun z_16 ez_16 => ?_)
                exact W.iret (v := z_16) hx hb hr (fun t ht hW => ⟨z_16, rfl, (by unfold bthF; (repeat' split) <;> first | rfl | assumption | (exfalso; omega)), ht⟩) (fun q h => by cases h) dX9_both_144
              ·
                have ih_15 : p0.toInt ≠ 51 := mt (g_eq rfl t_51).mpr h_15
                by_cases h_17 : p0 = 60
                ·
                  have ih_17 : p0.toInt = 60 := (g_eq rfl t_60).mp h_17
                  refine lv_lookup (off := 144) (tgt := 145) hx hb dX9_both_1 (by decide) (by rw [ih_17]; decide) (by decide) ?_
                  refine lv_iload_n hx hb dX9_both_145 rfl (lv_at hl 1 rfl) ?_
                  refine lv_iload_n hx hb dX9_both_146 rfl (lv_at hl 2 rfl) ?_
                  refine lv_imul hx hb dX9_both_147 ?_
                  refine lv_topi (fun z_18 ez_18 => ?_)
                  exact W.iret (v := z_18) hx hb hr (fun t ht hW => ⟨z_18, rfl, (by unfold bthF; (repeat' split) <;> first | rfl | assumption | (exfalso; omega)), ht⟩) (fun q h => by cases h) dX9_both_148
                ·
                  have ih_17 : p0.toInt ≠ 60 := mt (g_eq rfl t_60).mpr h_17
                  refine lv_lookup (off := 148) (tgt := 149) hx hb dX9_both_1 (by decide) (by rw [lv_osw h_1 t_10, lv_osw h_4 t_20, lv_osw h_7 t_40, lv_osw h_9 t_41, lv_osw h_11 t_42, lv_osw h_13 t_50, lv_osw h_15 t_51, lv_osw h_17 t_60]; rfl) (by decide) ?_
                  refine lv_iload_n hx hb dX9_both_149 rfl (lv_at hl 2 rfl) ?_
                  refine lv_if_ne (tgt := 157) hx hb dX9_both_150 (by decide) (fun c_19 => ?_) (fun c_19 => ?_)
                  ·
                    have ic_19 : p2.toInt ≠ 0 := mt (g_eq rfl t_0).mpr c_19
                    clear c_19
                    refine lv_iload_n hx hb dX9_both_157 rfl (lv_at hl 2 rfl) ?_
                    refine lv_iconst (v := (-1)) hx hb dX9_both_158 (by decide) ?_
                    refine lv_icmp_ne (tgt := 167) hx hb dX9_both_159 (by decide) (fun c_20 => ?_) (fun c_20 => ?_)
                    ·
                      have ic_20 : p2.toInt ≠ -1 := mt (g_eq rfl t_m1).mpr c_20
                      clear c_20
                      refine lv_iload_n hx hb dX9_both_167 rfl (lv_at hl 1 rfl) ?_
                      refine lv_iload_n hx hb dX9_both_168 rfl (lv_at hl 2 rfl) ?_
                      refine lv_idiv hx hb dX9_both_169 (fun h => absurd ((g_eq rfl t_0).mp h) (by omega)) ?_
                      refine lv_topi (fun z_21 ez_21 => ?_)
                      exact W.iret (v := z_21) hx hb hr (fun t ht hW => ⟨z_21, rfl, (by unfold bthF; (repeat' split) <;> first | rfl | assumption | (exfalso; omega)), ht⟩) (fun q h => by cases h) dX9_both_170
                    ·
                      have ic_20 : p2.toInt = -1 := (g_eq rfl t_m1).mp c_20
                      clear c_20
                      refine lv_iload_n hx hb dX9_both_162 rfl (lv_at hl 1 rfl) ?_
                      refine lv_ineg hx hb dX9_both_163 ?_
                      refine lv_topi (fun z_22 ez_22 => ?_)
                      refine lv_goto (tgt := 170) hx hb dX9_both_164 (by decide) ?_
                      exact W.iret (v := z_22) hx hb hr (fun t ht hW => ⟨z_22, rfl, (by unfold bthF; (repeat' split) <;> first | rfl | assumption | (exfalso; omega)), ht⟩) (fun q h => by cases h) dX9_both_170
                  ·
                    have ic_19 : p2.toInt = 0 := (g_eq rfl t_0).mp c_19
                    clear c_19
                    refine lv_iconst (v := 0) hx hb dX9_both_153 (by decide) ?_
                    refine lv_goto (tgt := 170) hx hb dX9_both_154 (by decide) ?_
                    exact W.iret (v := 0) hx hb hr (fun t ht hW => ⟨0, rfl, (by unfold bthF; (repeat' split) <;> first | rfl | assumption | (exfalso; omega)), ht⟩) (fun q h => by cases h) dX9_both_170
set_option maxHeartbeats 4000000 in
set_option maxRecDepth 100000 in
theorem g_X9_lay (l : Launch) (D : va_G) (E : Nat → Nat) (mh : Nat) (ma : Nat → Nat) (mcode : Int32) (mtoday : Int32) (moffs : Int32) (mmany : Int64) (msumW : Int64) (msumA : Int64) (msumR : Int64) (msumWW : Int64) (msumWA : Int64) (msumAA : Int64) (msumWR : Int64) (msumAR : Int64) (mupper : Int64) (mlower : Int64) (mrates : Int32) (mtaped : Int32) (mlaid : Int32) (mat : Int32) (mtk : Int32) (mtkAt : Int32) (mtkNumber : Int32) (mwaits : Int32) (mlisted : Int32) (mdealtMany : Int32) (mf36 : Nat → Int32) (mf37 : Nat → Int32) (p0 : Int32) (p1 : Int32) (sz : Nat) (hi_m : (0 ≤ mtoday.toInt ∧ mtoday.toInt ≤ 399) ∧ (0 ≤ moffs.toInt ∧ moffs.toInt ≤ 60) ∧ (0 ≤ mrates.toInt ∧ mrates.toInt ≤ 60) ∧ (0 ≤ mtaped.toInt ∧ mtaped.toInt ≤ 120) ∧ (0 ≤ mlisted.toInt ∧ mlisted.toInt ≤ 9) ∧ (0 ≤ mdealtMany.toInt ∧ mdealtMany.toInt ≤ 9)) (g0 : 0 ≤ mlaid.toInt ∧ mlaid.toInt ≤ 127) : Met l yX9_lay (wl yX9_lay cX9_lay 3 none) (RM 0 0 0) (mu_P D E [.ref mh, .int p0, .int p1] [(mh, .inr (9, G9 ma mcode mtoday moffs mmany msumW msumA msumR msumWW msumWA msumAA msumWR msumAR mupper mlower mrates mtaped mlaid mat mtk mtkAt mtkNumber mwaits mlisted mdealtMany)), ((ma 36), .inl (E 0, 384, .inl mf36)), ((ma 37), .inl (E 0, 384, .inl mf37))] sz) (va_Qv (fun (u : (Nat → Int32) × (Nat → Int32) × (Int32)) => (u.1 = upd mf36 (256 + mlaid).toNatClampNeg p0) ∧ (u.2.2.toInt = mlaid.toInt + 1) ∧ (u.2.1 = upd mf37 (256 + mlaid).toNatClampNeg p1)) (mu_B D (va_A [(mh, .inr (9, G9 ma mcode mtoday moffs mmany msumW msumA msumR msumWW msumWA msumAA msumWR msumAR mupper mlower mrates mtaped mlaid mat mtk mtkAt mtkNumber mwaits mlisted mdealtMany)), ((ma 36), .inl (E 0, 384, .inl mf36)), ((ma 37), .inl (E 0, 384, .inl mf37))] sz) (fun (u : (Nat → Int32) × (Nat → Int32) × (Int32)) => [(mh, .inr (9, G9 ma mcode mtoday moffs mmany msumW msumA msumR msumWW msumWA msumAA msumWR msumAR mupper mlower mrates mtaped u.2.2 mat mtk mtkAt mtkNumber mwaits mlisted mdealtMany)), ((ma 36), .inl (E 0, 384, .inl u.1)), ((ma 37), .inl (E 0, 384, .inl u.2.1))])) (va_A [(mh, .inr (9, G9 ma mcode mtoday moffs mmany msumW msumA msumR msumWW msumWA msumAA msumWR msumAR mupper mlower mrates mtaped mlaid mat mtk mtkAt mtkNumber mwaits mlisted mdealtMany)), ((ma 36), .inl (E 0, 384, .inl mf36)), ((ma 37), .inl (E 0, 384, .inl mf37))] sz)) 0 0 (va_A [(mh, .inr (9, G9 ma mcode mtoday moffs mmany msumW msumA msumR msumWW msumWA msumAA msumWR msumAR mupper mlower mrates mtaped mlaid mat mtk mtkAt mtkNumber mwaits mlisted mdealtMany)), ((ma 36), .inl (E 0, 384, .inl mf36)), ((ma 37), .inl (E 0, 384, .inl mf37))] sz) := by
  refine Met.ofW (cc := cX9_lay) (maxL := 3) (ret := none) (by decide) rfl ?_
  intro p e s m args below meth c s₁ B hml hv
  obtain ⟨rfl, hsz, hP, hK, hD0⟩ := hv
  have hx := B.exec; have hb := B.bytes; have hr := B.returns
  have hts := atoms_spec (ws := wl yX9_lay cX9_lay 3 none) B.pre
  have htb : ∀ w ∈ tb, w.before _ s = true := fun w h => hts w (List.mem_cons_of_mem _ h)
  have hown : s.vm.findClass RX9 = some m.cls := findClass_of_methodNamed B.named
  have hlocks := B.notSynchronized
  subst hsz
  have hD := hD0.self (sz := s.heap.size)
  generalize hAe : va_A [(mh, .inr (9, G9 ma mcode mtoday moffs mmany msumW msumA msumR msumWW msumWA msumAA msumWR msumAR mupper mlower mrates mtaped mlaid mat mtk mtkAt mtkNumber mwaits mlisted mdealtMany)), ((ma 36), .inl (E 0, 384, .inl mf36)), ((ma 37), .inl (E 0, 384, .inl mf37))] s.heap.size = A at hD ⊢
  have hA : ∀ q : Nat, s.heap.size ≤ q → A q := fun q h => by rw [← hAe]; exact Or.inr h
  have hS : va_S A s.heap s.heap [] := va_S.rf
  have hP : va_P D vwCl [(mh, .inr (9, G9 ma mcode mtoday moffs mmany msumW msumA msumR msumWW msumWA msumAA msumWR msumAR mupper mlower mrates mtaped mlaid mat mtk mtkAt mtkNumber mwaits mlisted mdealtMany)), ((ma 36), .inl (E 0, 384, .inl mf36)), ((ma 37), .inl (E 0, 384, .inl mf37))] s.heap := hP
  have hl := lv_entry ([.ref mh, .int p0, .int p1]) (n := 3) (Nat.le_of_ble_eq_true rfl)
  rw [lg_entry_eq]
  generalize (lg_sl ([.ref mh, .int p0, .int p1]) ++ List.replicate (3 - (lg_sl ([.ref mh, .int p0, .int p1])).length) Slot.unset).toArray = ls at hl ⊢
  have hl : lv_has ls 3 [(0, .ref mh), (1, .int p0), (2, .int p1)] := hl
  have lo_p0 := i_lo p0; have hi_p0 := i_hi p0
  have lo_p1 := i_lo p1; have hi_p1 := i_hi p1
  refine lv_aload_n hx hb dX9_lay_0 rfl (lv_at hl 0 rfl) ?_
  refine va_get (D := D) (ci := 9) (v := .ref (ma 36)) (C := RX9) (T := TX9) (N := 68) hx hb htb iX9 hown hK.1 hP 0 rfl rfl 36 (by decide) (htb _ k_994) (fun _ h9 => h9) rfl dX9_lay_1 ?_
  refine lv_sipush (v := 256) hx hb dX9_lay_4 (by decide) ?_
  refine lv_aload_n hx hb dX9_lay_7 rfl (lv_at hl 0 rfl) ?_
  refine va_get (D := D) (ci := 9) (v := .int mlaid) (C := RX9) (T := TX9) (N := 68) hx hb htb iX9 hown hK.1 hP 0 rfl rfl 38 (by decide) (htb _ k_996) (fun _ h9 => h9) rfl dX9_lay_8 ?_
  refine lv_iadd hx hb dX9_lay_11 ?_
  refine lv_topi (fun z_1 ez_1 => ?_)
  have jz_1 : z_1.toInt = 256 + mlaid.toInt := by rw [ez_1]; exact g_add t_256 rfl (by omega) (by omega)
  refine lv_iload_n hx hb dX9_lay_12 rfl (lv_at hl 1 rfl) ?_
  refine va_iast hx hb hK.1 hP hD hS 1 0 rfl rfl (g_in rfl (by omega) (by omega)) dX9_lay_13 (fun H locs hP hD hS => ?_)
  have hP : va_P D vwCl [(mh, .inr (9, G9 ma mcode mtoday moffs mmany msumW msumA msumR msumWW msumWA msumAA msumWR msumAR mupper mlower mrates mtaped mlaid mat mtk mtkAt mtkNumber mwaits mlisted mdealtMany)), ((ma 36), .inl (E 0, 384, .inl (upd mf36 (z_1 : Int32).toNatClampNeg p0))), ((ma 37), .inl (E 0, 384, .inl mf37))] H := hP
  have hD := toW hP hD rfl
  refine lv_aload_n hx hb dX9_lay_14 rfl (lv_at hl 0 rfl) ?_
  refine va_get (D := D) (ci := 9) (v := .ref (ma 37)) (C := RX9) (T := TX9) (N := 68) hx hb htb iX9 hown hK.1 hP 0 rfl rfl 37 (by decide) (htb _ k_995) (fun _ h9 => h9) rfl dX9_lay_15 ?_
  refine lv_sipush (v := 256) hx hb dX9_lay_18 (by decide) ?_
  refine lv_aload_n hx hb dX9_lay_21 rfl (lv_at hl 0 rfl) ?_
  refine va_get (D := D) (ci := 9) (v := .int mlaid) (C := RX9) (T := TX9) (N := 68) hx hb htb iX9 hown hK.1 hP 0 rfl rfl 38 (by decide) (htb _ k_996) (fun _ h9 => h9) rfl dX9_lay_22 ?_
  refine lv_iadd hx hb dX9_lay_25 ?_
  refine lv_topi (fun z_2 ez_2 => ?_)
  have jz_2 : z_2.toInt = 256 + mlaid.toInt := by rw [ez_2]; exact g_add t_256 rfl (by omega) (by omega)
  refine lv_iload_n hx hb dX9_lay_26 rfl (lv_at hl 2 rfl) ?_
  refine va_iast hx hb hK.1 hP hD hS 2 0 rfl rfl (g_in rfl (by omega) (by omega)) dX9_lay_27 (fun H locs hP hD hS => ?_)
  have hP : va_P D vwCl [(mh, .inr (9, G9 ma mcode mtoday moffs mmany msumW msumA msumR msumWW msumWA msumAA msumWR msumAR mupper mlower mrates mtaped mlaid mat mtk mtkAt mtkNumber mwaits mlisted mdealtMany)), ((ma 36), .inl (E 0, 384, .inl (upd mf36 (z_1 : Int32).toNatClampNeg p0))), ((ma 37), .inl (E 0, 384, .inl (upd mf37 (z_2 : Int32).toNatClampNeg p1)))] H := hP
  have hD := toW hP hD rfl
  refine lv_aload_n hx hb dX9_lay_28 rfl (lv_at hl 0 rfl) ?_
  refine lv_dup hx hb dX9_lay_29 rfl ?_
  refine va_get (D := D) (ci := 9) (v := .int mlaid) (C := RX9) (T := TX9) (N := 68) hx hb htb iX9 hown hK.1 hP 0 rfl rfl 38 (by decide) (htb _ k_996) (fun _ h9 => h9) rfl dX9_lay_30 ?_
  refine lv_iconst (v := 1) hx hb dX9_lay_33 (by decide) ?_
  refine lv_iadd hx hb dX9_lay_34 ?_
  refine lv_topi (fun z_3 ez_3 => ?_)
  have jz_3 : z_3.toInt = mlaid.toInt + 1 := by rw [ez_3]; exact g_add rfl t_1 (by omega) (by omega)
  refine va_put (D := D) (ci := 9) (v := .int z_3) (ty := .int) (C := RX9) (T := TX9) (N := 68) hx hb htb iX9 tyX9 tyX9_ok nmX9 hown hK.1 hP hD hS 0 rfl rfl 38 (by decide) (htb _ k_996) (fun _ h9 => h9) rfl (by decide +kernel) rfl rfl (Nat.le_of_ble_eq_true rfl) dX9_lay_35 (fun H locs hP hD hS => ?_)
  have hP : va_P D vwCl [(mh, .inr (9, G9 ma mcode mtoday moffs mmany msumW msumA msumR msumWW msumWA msumAA msumWR msumAR mupper mlower mrates mtaped z_3 mat mtk mtkAt mtkNumber mwaits mlisted mdealtMany)), ((ma 36), .inl (E 0, 384, .inl (upd mf36 (z_1 : Int32).toNatClampNeg p0))), ((ma 37), .inl (E 0, 384, .inl (upd mf37 (z_2 : Int32).toNatClampNeg p1)))] H := hP
  have hD := toW hP hD rfl
  have hP9 := hP.sub (ws' := [(mh, .inr (9, G9 ma mcode mtoday moffs mmany msumW msumA msumR msumWW msumWA msumAA msumWR msumAR mupper mlower mrates mtaped z_3 mat mtk mtkAt mtkNumber mwaits mlisted mdealtMany)), ((ma 36), .inl (E 0, 384, .inl (upd mf36 (z_1 : Int32).toNatClampNeg p0))), ((ma 37), .inl (E 0, 384, .inl (upd mf37 (z_2 : Int32).toNatClampNeg p1)))]) [0, 1, 2] rfl
  have hD9 := hD.sub (ws' := [(mh, .inr (9, G9 ma mcode mtoday moffs mmany msumW msumA msumR msumWW msumWA msumAA msumWR msumAR mupper mlower mrates mtaped z_3 mat mtk mtkAt mtkNumber mwaits mlisted mdealtMany)), ((ma 36), .inl (E 0, 384, .inl (upd mf36 (z_1 : Int32).toNatClampNeg p0))), ((ma 37), .inl (E 0, 384, .inl (upd mf37 (z_2 : Int32).toNatClampNeg p1)))]) [0, 1, 2] (by decide) rfl
  exact W.vret hx hb hr (fun t ht hW => ⟨⟨((upd mf36 (z_1 : Int32).toNatClampNeg p0), (upd mf37 (z_2 : Int32).toNatClampNeg p1), z_3), rfl, ⟨(by (try dsimp only); subst_vars; rfl), (by (try dsimp only); omega), (by (try dsimp only); subst_vars; rfl)⟩, by rw [ht]; exact hP9, hD9⟩, hS.F ht⟩) hS.2.2 dX9_lay_38
set_option maxHeartbeats 4000000 in
set_option maxRecDepth 100000 in
theorem g_X9_opened (l : Launch) (D : va_G) (E : Nat → Nat) (mh : Nat) (ma : Nat → Nat) (mcode : Int32) (mtoday : Int32) (moffs : Int32) (mmany : Int64) (msumW : Int64) (msumA : Int64) (msumR : Int64) (msumWW : Int64) (msumWA : Int64) (msumAA : Int64) (msumWR : Int64) (msumAR : Int64) (mupper : Int64) (mlower : Int64) (mrates : Int32) (mtaped : Int32) (mlaid : Int32) (mat : Int32) (mtk : Int32) (mtkAt : Int32) (mtkNumber : Int32) (mwaits : Int32) (mlisted : Int32) (mdealtMany : Int32) (mf43 : Nat → Int32) (hi_m : (0 ≤ mtoday.toInt ∧ mtoday.toInt ≤ 399) ∧ (0 ≤ moffs.toInt ∧ moffs.toInt ≤ 60) ∧ (0 ≤ mrates.toInt ∧ mrates.toInt ≤ 60) ∧ (0 ≤ mtaped.toInt ∧ mtaped.toInt ≤ 120) ∧ (0 ≤ mlisted.toInt ∧ mlisted.toInt ≤ 9) ∧ (0 ≤ mdealtMany.toInt ∧ mdealtMany.toInt ≤ 9)) (g0 : 0 ≤ mwaits.toInt ∧ mwaits.toInt ≤ 130) : Met l yX9_opened (wl yX9_opened cX9_opened 3 (some .int)) (RM 0 0 0) (rd_P D E [.ref mh] [(mh, .inr (9, G9 ma mcode mtoday moffs mmany msumW msumA msumR msumWW msumWA msumAA msumWR msumAR mupper mlower mrates mtaped mlaid mat mtk mtkAt mtkNumber mwaits mlisted mdealtMany)), ((ma 43), .inl (E 0, 130, .inl mf43))]) (rd_Q (fun r => (r.toInt = opn (stk mf43 (mwaits).toNatClampNeg)))) 0 0 (fun _ => False) := by
  refine Met.ofW (cc := cX9_opened) (maxL := 3) (ret := (some .int)) (by decide) rfl ?_
  intro p e s m args below meth c s₁ B hml hv
  obtain ⟨rfl, hP, hK⟩ := hv
  have hx := B.exec; have hb := B.bytes; have hr := B.returns
  have hts := atoms_spec (ws := wl yX9_opened cX9_opened 3 (some .int)) B.pre
  have htb : ∀ w ∈ tb, w.before _ s = true := fun w h => hts w (List.mem_cons_of_mem _ h)
  have hown : s.vm.findClass RX9 = some m.cls := findClass_of_methodNamed B.named
  have hlocks := B.notSynchronized
  have hP : va_P D vwCl [(mh, .inr (9, G9 ma mcode mtoday moffs mmany msumW msumA msumR msumWW msumWA msumAA msumWR msumAR mupper mlower mrates mtaped mlaid mat mtk mtkAt mtkNumber mwaits mlisted mdealtMany)), ((ma 43), .inl (E 0, 130, .inl mf43))] s.heap := hP
  have hl := lv_entry ([.ref mh]) (n := 3) (Nat.le_of_ble_eq_true rfl)
  rw [lg_entry_eq]
  generalize (lg_sl ([.ref mh]) ++ List.replicate (3 - (lg_sl ([.ref mh])).length) Slot.unset).toArray = ls at hl ⊢
  have hl : lv_has ls 3 [(0, .ref mh)] := hl
  refine lv_iconst (v := 0) hx hb dX9_opened_0 (by decide) ?_
  refine lv_istore_n (lv' := [(1, .int 0), (0, .ref mh)]) hx hb dX9_opened_1 rfl hl (by decide) rfl (fun ls hl => ?_)
  refine lv_iconst (v := 0) hx hb dX9_opened_2 (by decide) ?_
  refine lv_istore_n (lv' := [(2, .int 0), (1, .int 0), (0, .ref mh)]) hx hb dX9_opened_3 rfl hl (by decide) rfl (fun ls hl => ?_)
  have loop_1 : ∀ (N_3 : Nat) (L2_4 : Int32) (L1_4 : Int32)  (ls : Array Slot), mwaits.toInt - L2_4.toInt < (N_3 : Int) → (0 ≤ L2_4.toInt ∧ L2_4.toInt ≤ mwaits.toInt ∧ 0 ≤ L1_4.toInt ∧ L1_4.toInt ≤ L2_4.toInt) → (L1_4.toInt = opn (stk mf43 (L2_4).toNatClampNeg)) → lv_has ls 3 [(2, .int L2_4), (1, .int L1_4), (0, .ref mh)] → W p l e (headSpec (wl yX9_opened cX9_opened 3 (some .int)) (RM 0 0 0)).room s m [Value.ref mh].toArray below meth c s.heap [] 0 0 (MQ below (rd_Q (fun r => (r.toInt = opn (stk mf43 (mwaits).toNatClampNeg)))) [Value.ref mh].toArray s 0 0 (fun _ => False)) (F0 m 4 ls []) := by
    intro N_3
    induction N_3 with
    | zero => intro L2_4 L1_4  ls hm v0_4 v1_4 _; exfalso; omega
    | succ N_3 ih_2 =>
      intro L2_4 L1_4 ls hm v0_4 v1_4 hl
      have lo_L2_4 := i_lo L2_4; have hi_L2_4 := i_hi L2_4
      have lo_L1_4 := i_lo L1_4; have hi_L1_4 := i_hi L1_4
      refine lv_iload_n hx hb dX9_opened_4 rfl (lv_at hl 0 rfl) ?_
      refine lv_aload_n hx hb dX9_opened_5 rfl (lv_at hl 2 rfl) ?_
      refine va_get (D := D) (ci := 9) (v := .int mwaits) (C := RX9) (T := TX9) (N := 68) hx hb htb iX9 hown hK.1 hP 0 rfl rfl 44 (by decide) (htb _ k_1002) (fun _ h9 => h9) rfl dX9_opened_6 ?_
      refine lv_icmp_ge (tgt := 69) hx hb dX9_opened_9 (by decide) (fun c_4 => ?_) (fun c_4 => ?_)
      ·
        have ic_4 : mwaits.toInt ≤ L2_4.toInt := by first | exact (g_le rfl rfl).mp c_4 | (have h := mt (g_lt rfl rfl).mpr c_4; omega)
        clear c_4
        refine lv_iload_n hx hb dX9_opened_69 rfl (lv_at hl 1 rfl) ?_
        exact W.iret (v := L1_4) hx hb hr (fun t ht hW => ⟨L1_4, rfl, (by rw [← show (L2_4).toNatClampNeg = (mwaits).toNatClampNeg by have := i_clamp0 (x := mwaits) (by omega); have := i_clamp0 (x := L2_4) (by omega); omega]; exact v1_4), ht⟩) (fun q h => by cases h) dX9_opened_70
      ·
        have ic_4 : L2_4.toInt < mwaits.toInt := by first | exact (g_lt rfl rfl).mp c_4 | (have h := mt (g_le rfl rfl).mpr c_4; omega)
        clear c_4
        refine lv_iload_n hx hb dX9_opened_12 rfl (lv_at hl 1 rfl) ?_
        refine lv_aload_n hx hb dX9_opened_13 rfl (lv_at hl 2 rfl) ?_
        refine va_get (D := D) (ci := 9) (v := .ref (ma 43)) (C := RX9) (T := TX9) (N := 68) hx hb htb iX9 hown hK.1 hP 0 rfl rfl 43 (by decide) (htb _ k_1001) (fun _ h9 => h9) rfl dX9_opened_14 ?_
        refine lv_iload_n hx hb dX9_opened_17 rfl (lv_at hl 0 rfl) ?_
        refine va_iald hx hb hK.1 hP 1 0 rfl rfl (g_in rfl (by omega) (by omega)) dX9_opened_18 ?_
        refine lv_topi (fun z_5 ez_5 => ?_)
        have kz_5 := congrArg Int32.toInt ez_5
        refine lv_iconst (v := 5) hx hb dX9_opened_19 (by decide) ?_
        refine lv_icmp_eq (tgt := 56) hx hb dX9_opened_20 (by decide) (fun c_6 => ?_) (fun c_6 => ?_)
        ·
          have ic_6 : z_5.toInt = 5 := (g_eq rfl t_5).mp c_6
          clear c_6
          refine lv_iconst (v := 1) hx hb dX9_opened_56 (by decide) ?_
          refine lv_goto (tgt := 61) hx hb dX9_opened_57 (by decide) ?_
          refine lv_iadd hx hb dX9_opened_61 ?_
          refine lv_topi (fun z_7 ez_7 => ?_)
          have jz_7 : z_7.toInt = L1_4.toInt + 1 := by rw [ez_7]; exact g_add rfl t_1 (by omega) (by omega)
          refine lv_istore_n (lv' := [(1, .int z_7), (2, .int L2_4), (0, .ref mh)]) hx hb dX9_opened_62 rfl hl (by decide) rfl (fun ls hl => ?_)
          obtain ⟨z_8, ez_8⟩ : ∃ y : Int32, y = L2_4 + 1 := ⟨_, rfl⟩
          have jz_8 : z_8.toInt = L2_4.toInt + 1 := by rw [ez_8]; exact g_add rfl t_1 (by omega) (by omega)
          refine lv_iinc (v := z_8) (lv' := [(2, .int z_8), (1, .int z_7), (0, .ref mh)]) hx hb dX9_opened_63 hl (k := 1) rfl (by rw [ez_8]; rfl) (by decide) rfl (fun ls hl => ?_)
          refine lv_goto (tgt := 4) hx hb dX9_opened_66 (by decide) ?_
          exact ih_2 z_8 z_7 _ (by (try dsimp only); omega) (by (try dsimp only); omega) (by have h9 := v1_4; rw [clampS (by omega) jz_8, opn_s]; omega) (lv_sub hl [0, 1, 2] rfl)
        ·
          have ic_6 : z_5.toInt ≠ 5 := mt (g_eq rfl t_5).mpr c_6
          clear c_6
          refine lv_aload_n hx hb dX9_opened_23 rfl (lv_at hl 2 rfl) ?_
          refine va_get (D := D) (ci := 9) (v := .ref (ma 43)) (C := RX9) (T := TX9) (N := 68) hx hb htb iX9 hown hK.1 hP 0 rfl rfl 43 (by decide) (htb _ k_1001) (fun _ h9 => h9) rfl dX9_opened_24 ?_
          refine lv_iload_n hx hb dX9_opened_27 rfl (lv_at hl 0 rfl) ?_
          refine va_iald hx hb hK.1 hP 1 0 rfl rfl (g_in rfl (by omega) (by omega)) dX9_opened_28 ?_
          refine lv_topi (fun z_9 ez_9 => ?_)
          have kz_9 := congrArg Int32.toInt ez_9
          refine lv_bipush (v := 30) hx hb dX9_opened_29 (by decide) ?_
          refine lv_icmp_eq (tgt := 56) hx hb dX9_opened_31 (by decide) (fun c_10 => ?_) (fun c_10 => ?_)
          ·
            have ic_10 : z_9.toInt = 30 := (g_eq rfl t_30).mp c_10
            clear c_10
            refine lv_iconst (v := 1) hx hb dX9_opened_56 (by decide) ?_
            refine lv_goto (tgt := 61) hx hb dX9_opened_57 (by decide) ?_
            refine lv_iadd hx hb dX9_opened_61 ?_
            refine lv_topi (fun z_11 ez_11 => ?_)
            have jz_11 : z_11.toInt = L1_4.toInt + 1 := by rw [ez_11]; exact g_add rfl t_1 (by omega) (by omega)
            refine lv_istore_n (lv' := [(1, .int z_11), (2, .int L2_4), (0, .ref mh)]) hx hb dX9_opened_62 rfl hl (by decide) rfl (fun ls hl => ?_)
            obtain ⟨z_12, ez_12⟩ : ∃ y : Int32, y = L2_4 + 1 := ⟨_, rfl⟩
            have jz_12 : z_12.toInt = L2_4.toInt + 1 := by rw [ez_12]; exact g_add rfl t_1 (by omega) (by omega)
            refine lv_iinc (v := z_12) (lv' := [(2, .int z_12), (1, .int z_11), (0, .ref mh)]) hx hb dX9_opened_63 hl (k := 1) rfl (by rw [ez_12]; rfl) (by decide) rfl (fun ls hl => ?_)
            refine lv_goto (tgt := 4) hx hb dX9_opened_66 (by decide) ?_
            exact ih_2 z_12 z_11 _ (by (try dsimp only); omega) (by (try dsimp only); omega) (by have h9 := v1_4; rw [clampS (by omega) jz_12, opn_s]; omega) (lv_sub hl [0, 1, 2] rfl)
          ·
            have ic_10 : z_9.toInt ≠ 30 := mt (g_eq rfl t_30).mpr c_10
            clear c_10
            refine lv_aload_n hx hb dX9_opened_34 rfl (lv_at hl 2 rfl) ?_
            refine va_get (D := D) (ci := 9) (v := .ref (ma 43)) (C := RX9) (T := TX9) (N := 68) hx hb htb iX9 hown hK.1 hP 0 rfl rfl 43 (by decide) (htb _ k_1001) (fun _ h9 => h9) rfl dX9_opened_35 ?_
            refine lv_iload_n hx hb dX9_opened_38 rfl (lv_at hl 0 rfl) ?_
            refine va_iald hx hb hK.1 hP 1 0 rfl rfl (g_in rfl (by omega) (by omega)) dX9_opened_39 ?_
            refine lv_topi (fun z_13 ez_13 => ?_)
            have kz_13 := congrArg Int32.toInt ez_13
            refine lv_bipush (v := 70) hx hb dX9_opened_40 (by decide) ?_
            refine lv_icmp_eq (tgt := 56) hx hb dX9_opened_42 (by decide) (fun c_14 => ?_) (fun c_14 => ?_)
            ·
              have ic_14 : z_13.toInt = 70 := (g_eq rfl t_70).mp c_14
              clear c_14
              refine lv_iconst (v := 1) hx hb dX9_opened_56 (by decide) ?_
              refine lv_goto (tgt := 61) hx hb dX9_opened_57 (by decide) ?_
              refine lv_iadd hx hb dX9_opened_61 ?_
              refine lv_topi (fun z_15 ez_15 => ?_)
              have jz_15 : z_15.toInt = L1_4.toInt + 1 := by rw [ez_15]; exact g_add rfl t_1 (by omega) (by omega)
              refine lv_istore_n (lv' := [(1, .int z_15), (2, .int L2_4), (0, .ref mh)]) hx hb dX9_opened_62 rfl hl (by decide) rfl (fun ls hl => ?_)
              obtain ⟨z_16, ez_16⟩ : ∃ y : Int32, y = L2_4 + 1 := ⟨_, rfl⟩
              have jz_16 : z_16.toInt = L2_4.toInt + 1 := by rw [ez_16]; exact g_add rfl t_1 (by omega) (by omega)
              refine lv_iinc (v := z_16) (lv' := [(2, .int z_16), (1, .int z_15), (0, .ref mh)]) hx hb dX9_opened_63 hl (k := 1) rfl (by rw [ez_16]; rfl) (by decide) rfl (fun ls hl => ?_)
              refine lv_goto (tgt := 4) hx hb dX9_opened_66 (by decide) ?_
              exact ih_2 z_16 z_15 _ (by (try dsimp only); omega) (by (try dsimp only); omega) (by have h9 := v1_4; rw [clampS (by omega) jz_16, opn_s]; omega) (lv_sub hl [0, 1, 2] rfl)
            ·
              have ic_14 : z_13.toInt ≠ 70 := mt (g_eq rfl t_70).mpr c_14
              clear c_14
              refine lv_aload_n hx hb dX9_opened_45 rfl (lv_at hl 2 rfl) ?_
              refine va_get (D := D) (ci := 9) (v := .ref (ma 43)) (C := RX9) (T := TX9) (N := 68) hx hb htb iX9 hown hK.1 hP 0 rfl rfl 43 (by decide) (htb _ k_1001) (fun _ h9 => h9) rfl dX9_opened_46 ?_
              refine lv_iload_n hx hb dX9_opened_49 rfl (lv_at hl 0 rfl) ?_
              refine va_iald hx hb hK.1 hP 1 0 rfl rfl (g_in rfl (by omega) (by omega)) dX9_opened_50 ?_
              refine lv_topi (fun z_17 ez_17 => ?_)
              have kz_17 := congrArg Int32.toInt ez_17
              refine lv_bipush (v := 71) hx hb dX9_opened_51 (by decide) ?_
              refine lv_icmp_ne (tgt := 60) hx hb dX9_opened_53 (by decide) (fun c_18 => ?_) (fun c_18 => ?_)
              ·
                have ic_18 : z_17.toInt ≠ 71 := mt (g_eq rfl t_71).mpr c_18
                clear c_18
                refine lv_iconst (v := 0) hx hb dX9_opened_60 (by decide) ?_
                refine lv_iadd hx hb dX9_opened_61 ?_
                refine lv_topi (fun z_19 ez_19 => ?_)
                have jz_19 : z_19.toInt = L1_4.toInt + 0 := by rw [ez_19]; exact g_add rfl t_0 (by omega) (by omega)
                refine lv_istore_n (lv' := [(1, .int z_19), (2, .int L2_4), (0, .ref mh)]) hx hb dX9_opened_62 rfl hl (by decide) rfl (fun ls hl => ?_)
                obtain ⟨z_20, ez_20⟩ : ∃ y : Int32, y = L2_4 + 1 := ⟨_, rfl⟩
                have jz_20 : z_20.toInt = L2_4.toInt + 1 := by rw [ez_20]; exact g_add rfl t_1 (by omega) (by omega)
                refine lv_iinc (v := z_20) (lv' := [(2, .int z_20), (1, .int z_19), (0, .ref mh)]) hx hb dX9_opened_63 hl (k := 1) rfl (by rw [ez_20]; rfl) (by decide) rfl (fun ls hl => ?_)
                refine lv_goto (tgt := 4) hx hb dX9_opened_66 (by decide) ?_
                exact ih_2 z_20 z_19 _ (by (try dsimp only); omega) (by (try dsimp only); omega) (by have h9 := v1_4; rw [clampS (by omega) jz_20, opn_s]; omega) (lv_sub hl [0, 1, 2] rfl)
              ·
                have ic_18 : z_17.toInt = 71 := (g_eq rfl t_71).mp c_18
                clear c_18
                refine lv_iconst (v := 1) hx hb dX9_opened_56 (by decide) ?_
                refine lv_goto (tgt := 61) hx hb dX9_opened_57 (by decide) ?_
                refine lv_iadd hx hb dX9_opened_61 ?_
                refine lv_topi (fun z_21 ez_21 => ?_)
                have jz_21 : z_21.toInt = L1_4.toInt + 1 := by rw [ez_21]; exact g_add rfl t_1 (by omega) (by omega)
                refine lv_istore_n (lv' := [(1, .int z_21), (2, .int L2_4), (0, .ref mh)]) hx hb dX9_opened_62 rfl hl (by decide) rfl (fun ls hl => ?_)
                obtain ⟨z_22, ez_22⟩ : ∃ y : Int32, y = L2_4 + 1 := ⟨_, rfl⟩
                have jz_22 : z_22.toInt = L2_4.toInt + 1 := by rw [ez_22]; exact g_add rfl t_1 (by omega) (by omega)
                refine lv_iinc (v := z_22) (lv' := [(2, .int z_22), (1, .int z_21), (0, .ref mh)]) hx hb dX9_opened_63 hl (k := 1) rfl (by rw [ez_22]; rfl) (by decide) rfl (fun ls hl => ?_)
                refine lv_goto (tgt := 4) hx hb dX9_opened_66 (by decide) ?_
                exact ih_2 z_22 z_21 _ (by (try dsimp only); omega) (by (try dsimp only); omega) (by have h9 := v1_4; rw [clampS (by omega) jz_22, opn_s]; omega) (lv_sub hl [0, 1, 2] rfl)
  exact loop_1 131 0 0 _ (by have h0 := t_0; (try dsimp only); omega) (by have h0 := t_0; (try dsimp only); omega) (by rw [clamp_0]; exact t_0)  (lv_sub hl [0, 1, 2] rfl)
set_option maxHeartbeats 4000000 in
set_option maxRecDepth 100000 in
theorem g_X9_done (l : Launch) (D : va_G) (E : Nat → Nat) (mh : Nat) (ma : Nat → Nat) (mcode : Int32) (mtoday : Int32) (moffs : Int32) (mmany : Int64) (msumW : Int64) (msumA : Int64) (msumR : Int64) (msumWW : Int64) (msumWA : Int64) (msumAA : Int64) (msumWR : Int64) (msumAR : Int64) (mupper : Int64) (mlower : Int64) (mrates : Int32) (mtaped : Int32) (mlaid : Int32) (mat : Int32) (mtk : Int32) (mtkAt : Int32) (mtkNumber : Int32) (mwaits : Int32) (mlisted : Int32) (mdealtMany : Int32) (mf36 : Nat → Int32) (mf37 : Nat → Int32) (mf43 : Nat → Int32) (p0 : Int32) (sz : Nat) (hi_m : (0 ≤ mtoday.toInt ∧ mtoday.toInt ≤ 399) ∧ (0 ≤ moffs.toInt ∧ moffs.toInt ≤ 60) ∧ (0 ≤ mrates.toInt ∧ mrates.toInt ≤ 60) ∧ (0 ≤ mtaped.toInt ∧ mtaped.toInt ≤ 120) ∧ (0 ≤ mlisted.toInt ∧ mlisted.toInt ≤ 9) ∧ (0 ≤ mdealtMany.toInt ∧ mdealtMany.toInt ≤ 9)) (g0 : 1 ≤ p0.toInt ∧ 0 ≤ mlaid.toInt ∧ 0 ≤ mwaits.toInt ∧ mlaid.toInt + mwaits.toInt ≤ 120) (gpi : PI mf36 mf43 mlaid mwaits 1) : Met l yX9_done (wl yX9_done cX9_done 2 none) (RM 1 0 0) (mu_P D E [.ref mh, .int p0] [(mh, .inr (9, G9 ma mcode mtoday moffs mmany msumW msumA msumR msumWW msumWA msumAA msumWR msumAR mupper mlower mrates mtaped mlaid mat mtk mtkAt mtkNumber mwaits mlisted mdealtMany)), ((ma 36), .inl (E 0, 384, .inl mf36)), ((ma 37), .inl (E 0, 384, .inl mf37)), ((ma 43), .inl (E 0, 130, .inl mf43))] sz) (va_Qv (fun (u : (Nat → Int32) × (Nat → Int32) × (Int32) × (Int32)) => (PI u.1 mf43 u.2.2.1 u.2.2.2 1) ∧ (LOW mf36 u.1) ∧ (0 ≤ u.2.2.1.toInt ∧ 0 ≤ u.2.2.2.toInt ∧ u.2.2.2.toInt ≤ mwaits.toInt ∧ u.2.2.1.toInt + u.2.2.2.toInt = mlaid.toInt + mwaits.toInt) ∧ (u.2.2.2.toInt = 0 ∨ (mf43 (u.2.2.2.toInt - 1).toNat).toInt = 5 ∨ (mf43 (u.2.2.2.toInt - 1).toNat).toInt / 10 < p0.toInt) ∧ (popK p0.toInt (stk mf43 (mwaits).toNatClampNeg) (oM mf36 mf37 256 (mlaid).toNatClampNeg) = (stk mf43 (u.2.2.2).toNatClampNeg, oM u.1 u.2.1 256 (u.2.2.1).toNatClampNeg)) ∧ (LOW mf37 u.2.1)) (mu_B D (va_A [(mh, .inr (9, G9 ma mcode mtoday moffs mmany msumW msumA msumR msumWW msumWA msumAA msumWR msumAR mupper mlower mrates mtaped mlaid mat mtk mtkAt mtkNumber mwaits mlisted mdealtMany)), ((ma 36), .inl (E 0, 384, .inl mf36)), ((ma 37), .inl (E 0, 384, .inl mf37)), ((ma 43), .inl (E 0, 130, .inl mf43))] sz) (fun (u : (Nat → Int32) × (Nat → Int32) × (Int32) × (Int32)) => [(mh, .inr (9, G9 ma mcode mtoday moffs mmany msumW msumA msumR msumWW msumWA msumAA msumWR msumAR mupper mlower mrates mtaped u.2.2.1 mat mtk mtkAt mtkNumber u.2.2.2 mlisted mdealtMany)), ((ma 36), .inl (E 0, 384, .inl u.1)), ((ma 37), .inl (E 0, 384, .inl u.2.1)), ((ma 43), .inl (E 0, 130, .inl mf43))])) (va_A [(mh, .inr (9, G9 ma mcode mtoday moffs mmany msumW msumA msumR msumWW msumWA msumAA msumWR msumAR mupper mlower mrates mtaped mlaid mat mtk mtkAt mtkNumber mwaits mlisted mdealtMany)), ((ma 36), .inl (E 0, 384, .inl mf36)), ((ma 37), .inl (E 0, 384, .inl mf37)), ((ma 43), .inl (E 0, 130, .inl mf43))] sz)) 0 0 (va_A [(mh, .inr (9, G9 ma mcode mtoday moffs mmany msumW msumA msumR msumWW msumWA msumAA msumWR msumAR mupper mlower mrates mtaped mlaid mat mtk mtkAt mtkNumber mwaits mlisted mdealtMany)), ((ma 36), .inl (E 0, 384, .inl mf36)), ((ma 37), .inl (E 0, 384, .inl mf37)), ((ma 43), .inl (E 0, 130, .inl mf43))] sz) := by
  refine Met.ofW (cc := cX9_done) (maxL := 2) (ret := none) (by decide) rfl ?_
  intro p e s m args below meth c s₁ B hml hv
  obtain ⟨rfl, hsz, hP, hK, hD0⟩ := hv
  have hx := B.exec; have hb := B.bytes; have hr := B.returns
  have hts := atoms_spec (ws := wl yX9_done cX9_done 2 none) B.pre
  have htb : ∀ w ∈ tb, w.before _ s = true := fun w h => hts w (List.mem_cons_of_mem _ h)
  have hown : s.vm.findClass RX9 = some m.cls := findClass_of_methodNamed B.named
  have hlocks := B.notSynchronized
  subst hsz
  have hD := hD0.self (sz := s.heap.size)
  generalize hAe : va_A [(mh, .inr (9, G9 ma mcode mtoday moffs mmany msumW msumA msumR msumWW msumWA msumAA msumWR msumAR mupper mlower mrates mtaped mlaid mat mtk mtkAt mtkNumber mwaits mlisted mdealtMany)), ((ma 36), .inl (E 0, 384, .inl mf36)), ((ma 37), .inl (E 0, 384, .inl mf37)), ((ma 43), .inl (E 0, 130, .inl mf43))] s.heap.size = A at hD ⊢
  have hA : ∀ q : Nat, s.heap.size ≤ q → A q := fun q h => by rw [← hAe]; exact Or.inr h
  have hS : va_S A s.heap s.heap [] := va_S.rf
  have hP : va_P D vwCl [(mh, .inr (9, G9 ma mcode mtoday moffs mmany msumW msumA msumR msumWW msumWA msumAA msumWR msumAR mupper mlower mrates mtaped mlaid mat mtk mtkAt mtkNumber mwaits mlisted mdealtMany)), ((ma 36), .inl (E 0, 384, .inl mf36)), ((ma 37), .inl (E 0, 384, .inl mf37)), ((ma 43), .inl (E 0, 130, .inl mf43))] s.heap := hP
  have hl := lv_entry ([.ref mh, .int p0]) (n := 2) (Nat.le_of_ble_eq_true rfl)
  rw [lg_entry_eq]
  generalize (lg_sl ([.ref mh, .int p0]) ++ List.replicate (2 - (lg_sl ([.ref mh, .int p0])).length) Slot.unset).toArray = ls at hl ⊢
  have hl : lv_has ls 2 [(0, .ref mh), (1, .int p0)] := hl
  have lo_p0 := i_lo p0; have hi_p0 := i_hi p0
  have loop_1 : ∀ (N_3 : Nat) (mlaid_0 : Int32) (mwaits_0 : Int32) (mf36_0 : Nat → Int32) (mf37_0 : Nat → Int32) (H : Heap) (locs : List Loc) (ls : Array Slot), mwaits_0.toInt < (N_3 : Int) → (0 ≤ mlaid_0.toInt ∧ 0 ≤ mwaits_0.toInt ∧ mwaits_0.toInt ≤ mwaits.toInt ∧ mlaid_0.toInt + mwaits_0.toInt = mlaid.toInt + mwaits.toInt) → (PI mf36_0 mf43 mlaid_0 mwaits_0 1) → (LOW mf36 mf36_0) → (popK p0.toInt (stk mf43 (mwaits_0).toNatClampNeg) (oM mf36_0 mf37_0 256 (mlaid_0).toNatClampNeg) = popK p0.toInt (stk mf43 (mwaits).toNatClampNeg) (oM mf36 mf37 256 (mlaid).toNatClampNeg)) → (LOW mf37 mf37_0) → va_P D vwCl [(mh, .inr (9, G9 ma mcode mtoday moffs mmany msumW msumA msumR msumWW msumWA msumAA msumWR msumAR mupper mlower mrates mtaped mlaid_0 mat mtk mtkAt mtkNumber mwaits_0 mlisted mdealtMany)), ((ma 36), .inl (E 0, 384, .inl mf36_0)), ((ma 37), .inl (E 0, 384, .inl mf37_0)), ((ma 43), .inl (E 0, 130, .inl mf43))] H → va_D A [(mh, .inr (9, G9 ma mcode mtoday moffs mmany msumW msumA msumR msumWW msumWA msumAA msumWR msumAR mupper mlower mrates mtaped mlaid_0 mat mtk mtkAt mtkNumber mwaits_0 mlisted mdealtMany)), ((ma 36), .inl (E 0, 384, .inl mf36_0)), ((ma 37), .inl (E 0, 384, .inl mf37_0)), ((ma 43), .inl (E 0, 130, .inl mf43))] → va_S A s.heap H locs → lv_has ls 2 [(0, .ref mh), (1, .int p0)] → W p l e (headSpec (wl yX9_done cX9_done 2 none) (RM 1 0 0)).room s m [Value.ref mh, .int p0].toArray below meth c H locs 0 0 (MQ below (va_Qv (fun (u : (Nat → Int32) × (Nat → Int32) × (Int32) × (Int32)) => (PI u.1 mf43 u.2.2.1 u.2.2.2 1) ∧ (LOW mf36 u.1) ∧ (0 ≤ u.2.2.1.toInt ∧ 0 ≤ u.2.2.2.toInt ∧ u.2.2.2.toInt ≤ mwaits.toInt ∧ u.2.2.1.toInt + u.2.2.2.toInt = mlaid.toInt + mwaits.toInt) ∧ (u.2.2.2.toInt = 0 ∨ (mf43 (u.2.2.2.toInt - 1).toNat).toInt = 5 ∨ (mf43 (u.2.2.2.toInt - 1).toNat).toInt / 10 < p0.toInt) ∧ (popK p0.toInt (stk mf43 (mwaits).toNatClampNeg) (oM mf36 mf37 256 (mlaid).toNatClampNeg) = (stk mf43 (u.2.2.2).toNatClampNeg, oM u.1 u.2.1 256 (u.2.2.1).toNatClampNeg)) ∧ (LOW mf37 u.2.1)) (mu_B D A (fun (u : (Nat → Int32) × (Nat → Int32) × (Int32) × (Int32)) => [(mh, .inr (9, G9 ma mcode mtoday moffs mmany msumW msumA msumR msumWW msumWA msumAA msumWR msumAR mupper mlower mrates mtaped u.2.2.1 mat mtk mtkAt mtkNumber u.2.2.2 mlisted mdealtMany)), ((ma 36), .inl (E 0, 384, .inl u.1)), ((ma 37), .inl (E 0, 384, .inl u.2.1)), ((ma 43), .inl (E 0, 130, .inl mf43))])) A) [Value.ref mh, .int p0].toArray s 0 0 A) (F0 m 0 ls []) := by
    intro N_3
    induction N_3 with
    | zero => intro mlaid_0 mwaits_0 mf36_0 mf37_0 H locs ls hm v0_0 v1_0 v2_0 v3_0 v4_0 _ _ _ _; exfalso; omega
    | succ N_3 ih_2 =>
      intro mlaid_0 mwaits_0 mf36_0 mf37_0 H locs ls hm v0_0 v1_0 v2_0 v3_0 v4_0 hP hD hS hl
      have lo_mlaid_0 := i_lo mlaid_0; have hi_mlaid_0 := i_hi mlaid_0
      have lo_mwaits_0 := i_lo mwaits_0; have hi_mwaits_0 := i_hi mwaits_0
      refine lv_aload_n hx hb dX9_done_0 rfl (lv_at hl 0 rfl) ?_
      refine va_get (D := D) (ci := 9) (v := .int mwaits_0) (C := RX9) (T := TX9) (N := 68) hx hb htb iX9 hown hK.1 hP 0 rfl rfl 44 (by decide) (htb _ k_1002) (fun _ h9 => h9) rfl dX9_done_1 ?_
      refine lv_if_le (tgt := 52) hx hb dX9_done_4 (by decide) (fun c_4 => ?_) (fun c_4 => ?_)
      ·
        have ic_4 : mwaits_0.toInt ≤ 0 := by first | exact (g_le rfl t_0).mp c_4 | (have h := mt (g_lt t_0 rfl).mpr c_4; omega)
        clear c_4
        have hP9 := hP.sub (ws' := [(mh, .inr (9, G9 ma mcode mtoday moffs mmany msumW msumA msumR msumWW msumWA msumAA msumWR msumAR mupper mlower mrates mtaped mlaid_0 mat mtk mtkAt mtkNumber mwaits_0 mlisted mdealtMany)), ((ma 36), .inl (E 0, 384, .inl mf36_0)), ((ma 37), .inl (E 0, 384, .inl mf37_0)), ((ma 43), .inl (E 0, 130, .inl mf43))]) [0, 1, 2, 3] rfl
        have hD9 := hD.sub (ws' := [(mh, .inr (9, G9 ma mcode mtoday moffs mmany msumW msumA msumR msumWW msumWA msumAA msumWR msumAR mupper mlower mrates mtaped mlaid_0 mat mtk mtkAt mtkNumber mwaits_0 mlisted mdealtMany)), ((ma 36), .inl (E 0, 384, .inl mf36_0)), ((ma 37), .inl (E 0, 384, .inl mf37_0)), ((ma 43), .inl (E 0, 130, .inl mf43))]) [0, 1, 2, 3] (by decide) rfl
        exact W.vret hx hb hr (fun t ht hW => ⟨⟨(mf36_0, mf37_0, mlaid_0, mwaits_0), rfl, ⟨v1_0, v2_0, (by (try dsimp only); omega), (by (try dsimp only); omega), (by (try dsimp only); rw [← v3_0]; exact popK_n (k := p0.toInt) (f := mf43) (w := (mwaits_0).toNatClampNeg) (Or.inl (by have h2 := i_clamp0 (x := mwaits_0) (by omega); omega)) (by omega)), v4_0⟩, by rw [ht]; exact hP9, hD9⟩, hS.F ht⟩) hS.2.2 dX9_done_52
      ·
        have ic_4 : 0 < mwaits_0.toInt := by first | exact (g_lt t_0 rfl).mp c_4 | (have h := mt (g_le rfl t_0).mpr c_4; omega)
        clear c_4
        refine lv_aload_n hx hb dX9_done_7 rfl (lv_at hl 0 rfl) ?_
        refine va_get (D := D) (ci := 9) (v := .ref (ma 43)) (C := RX9) (T := TX9) (N := 68) hx hb htb iX9 hown hK.1 hP 0 rfl rfl 43 (by decide) (htb _ k_1001) (fun _ h9 => h9) rfl dX9_done_8 ?_
        refine lv_aload_n hx hb dX9_done_11 rfl (lv_at hl 0 rfl) ?_
        refine va_get (D := D) (ci := 9) (v := .int mwaits_0) (C := RX9) (T := TX9) (N := 68) hx hb htb iX9 hown hK.1 hP 0 rfl rfl 44 (by decide) (htb _ k_1002) (fun _ h9 => h9) rfl dX9_done_12 ?_
        refine lv_iconst (v := 1) hx hb dX9_done_15 (by decide) ?_
        refine lv_isub hx hb dX9_done_16 ?_
        refine lv_topi (fun z_5 ez_5 => ?_)
        have jz_5 : z_5.toInt = mwaits_0.toInt - 1 := by rw [ez_5]; exact g_sub rfl t_1 (by omega) (by omega)
        refine va_iald hx hb hK.1 hP 3 0 rfl rfl (g_in rfl (by omega) (by omega)) dX9_done_17 ?_
        refine lv_topi (fun z_6 ez_6 => ?_)
        have kz_6 := congrArg Int32.toInt ez_6
        have qz_6 : z_6.toInt = 5 ∨ (10 ≤ z_6.toInt ∧ z_6.toInt ≤ 71) := by rw [ez_6]; exact v1_0.2.2 _ (by have hc := i_clamp0 (x := z_5) (by omega); omega)
        refine callRS (rest := []) (As := [.int z_6]) hx hb hml hown htb hK (g_X9_tight l D E z_6 (by (try dsimp only); omega)) ok_X9_tight k_1384 k_1385 k_9 k_1386 ⟨(Nat.le_of_ble_eq_true rfl), (Nat.le_of_ble_eq_true rfl)⟩ ⟨(Nat.le_of_ble_eq_true rfl), (Nat.le_of_ble_eq_true rfl)⟩ hl.1 (Nat.le_of_ble_eq_true rfl) rfl rfl dX9_done_18 (hP.sub (ws' := ([] : va_W)) [] rfl) (fun r_7 hw_8 => ?_)
        refine lv_iload_n hx hb dX9_done_21 rfl (lv_at hl 1 rfl) ?_
        refine lv_icmp_lt (tgt := 52) hx hb dX9_done_22 (by decide) (fun c_10 => ?_) (fun c_10 => ?_)
        ·
          have ic_10 : r_7.toInt < p0.toInt := by first | exact (g_lt rfl rfl).mp c_10 | (have h := mt (g_le rfl rfl).mpr c_10; omega)
          clear c_10
          have hP9 := hP.sub (ws' := [(mh, .inr (9, G9 ma mcode mtoday moffs mmany msumW msumA msumR msumWW msumWA msumAA msumWR msumAR mupper mlower mrates mtaped mlaid_0 mat mtk mtkAt mtkNumber mwaits_0 mlisted mdealtMany)), ((ma 36), .inl (E 0, 384, .inl mf36_0)), ((ma 37), .inl (E 0, 384, .inl mf37_0)), ((ma 43), .inl (E 0, 130, .inl mf43))]) [0, 1, 2, 3] rfl
          have hD9 := hD.sub (ws' := [(mh, .inr (9, G9 ma mcode mtoday moffs mmany msumW msumA msumR msumWW msumWA msumAA msumWR msumAR mupper mlower mrates mtaped mlaid_0 mat mtk mtkAt mtkNumber mwaits_0 mlisted mdealtMany)), ((ma 36), .inl (E 0, 384, .inl mf36_0)), ((ma 37), .inl (E 0, 384, .inl mf37_0)), ((ma 43), .inl (E 0, 130, .inl mf43))]) [0, 1, 2, 3] (by decide) rfl
          exact W.vret hx hb hr (fun t ht hW => ⟨⟨(mf36_0, mf37_0, mlaid_0, mwaits_0), rfl, ⟨v1_0, v2_0, (by (try dsimp only); omega), (by (try dsimp only); rw [show (mwaits_0.toInt - 1).toNat = z_5.toNatClampNeg by have hq := i_clamp0 (x := z_5) (by omega); omega, ← ez_6]; omega), (by (try dsimp only); rw [← v3_0]; exact popK_n (k := p0.toInt) (f := mf43) (w := (mwaits_0).toNatClampNeg) (Or.inr (by rw [show (mwaits_0).toNatClampNeg - 1 = (z_5).toNatClampNeg by have h1 := i_clamp0 (x := mwaits_0) (by omega); have h2 := i_clamp0 (x := z_5) (by omega); omega, ← ez_6]; unfold tgt; omega)) (by omega)), v4_0⟩, by rw [ht]; exact hP9, hD9⟩, hS.F ht⟩) hS.2.2 dX9_done_52
        ·
          have ic_10 : p0.toInt ≤ r_7.toInt := by first | exact (g_le rfl rfl).mp c_10 | (have h := mt (g_lt rfl rfl).mpr c_10; omega)
          clear c_10
          refine lv_aload_n hx hb dX9_done_25 rfl (lv_at hl 0 rfl) ?_
          refine lv_dup hx hb dX9_done_26 rfl ?_
          refine va_get (D := D) (ci := 9) (v := .int mwaits_0) (C := RX9) (T := TX9) (N := 68) hx hb htb iX9 hown hK.1 hP 0 rfl rfl 44 (by decide) (htb _ k_1002) (fun _ h9 => h9) rfl dX9_done_27 ?_
          refine lv_iconst (v := 1) hx hb dX9_done_30 (by decide) ?_
          refine lv_isub hx hb dX9_done_31 ?_
          refine lv_topi (fun z_11 ez_11 => ?_)
          have jz_11 : z_11.toInt = mwaits_0.toInt - 1 := by rw [ez_11]; exact g_sub rfl t_1 (by omega) (by omega)
          refine va_put (D := D) (ci := 9) (v := .int z_11) (ty := .int) (C := RX9) (T := TX9) (N := 68) hx hb htb iX9 tyX9 tyX9_ok nmX9 hown hK.1 hP hD hS 0 rfl rfl 44 (by decide) (htb _ k_1002) (fun _ h9 => h9) rfl (by decide +kernel) rfl rfl (Nat.le_of_ble_eq_true rfl) dX9_done_32 (fun H locs hP hD hS => ?_)
          have hP : va_P D vwCl [(mh, .inr (9, G9 ma mcode mtoday moffs mmany msumW msumA msumR msumWW msumWA msumAA msumWR msumAR mupper mlower mrates mtaped mlaid_0 mat mtk mtkAt mtkNumber z_11 mlisted mdealtMany)), ((ma 36), .inl (E 0, 384, .inl mf36_0)), ((ma 37), .inl (E 0, 384, .inl mf37_0)), ((ma 43), .inl (E 0, 130, .inl mf43))] H := hP
          have hD := toW hP hD rfl
          refine lv_aload_n hx hb dX9_done_35 rfl (lv_at hl 0 rfl) ?_
          refine lv_aload_n hx hb dX9_done_36 rfl (lv_at hl 0 rfl) ?_
          refine va_get (D := D) (ci := 9) (v := .ref (ma 43)) (C := RX9) (T := TX9) (N := 68) hx hb htb iX9 hown hK.1 hP 0 rfl rfl 43 (by decide) (htb _ k_1001) (fun _ h9 => h9) rfl dX9_done_37 ?_
          refine lv_aload_n hx hb dX9_done_40 rfl (lv_at hl 0 rfl) ?_
          refine va_get (D := D) (ci := 9) (v := .int z_11) (C := RX9) (T := TX9) (N := 68) hx hb htb iX9 hown hK.1 hP 0 rfl rfl 44 (by decide) (htb _ k_1002) (fun _ h9 => h9) rfl dX9_done_41 ?_
          refine va_iald hx hb hK.1 hP 3 0 rfl rfl (g_in rfl (by omega) (by omega)) dX9_done_44 ?_
          refine lv_topi (fun z_12 ez_12 => ?_)
          have kz_12 := congrArg Int32.toInt ez_12
          have qz_12 : z_12.toInt = 5 ∨ (10 ≤ z_12.toInt ∧ z_12.toInt ≤ 71) := by rw [ez_12]; exact v1_0.2.2 _ (by have hc := i_clamp0 (x := z_11) (by omega); omega)
          have qqz_12 : z_12.toInt = z_6.toInt := by rw [ez_12, ez_6, clampE (i := z_5) (j := z_11) (by omega) (by omega)]
          refine lv_iconst (v := 0) hx hb dX9_done_45 (by decide) ?_
          have hPc := hP.sub (ws' := [(mh, .inr (9, G9 ma mcode mtoday moffs mmany msumW msumA msumR msumWW msumWA msumAA msumWR msumAR mupper mlower mrates mtaped mlaid_0 mat mtk mtkAt mtkNumber z_11 mlisted mdealtMany)), ((ma 36), .inl (E 0, 384, .inl mf36_0)), ((ma 37), .inl (E 0, 384, .inl mf37_0))]) [0, 1, 2] rfl
          have hDc := hD.sub (ws' := [(mh, .inr (9, G9 ma mcode mtoday moffs mmany msumW msumA msumR msumWW msumWA msumAA msumWR msumAR mupper mlower mrates mtaped mlaid_0 mat mtk mtkAt mtkNumber z_11 mlisted mdealtMany)), ((ma 36), .inl (E 0, 384, .inl mf36_0)), ((ma 37), .inl (E 0, 384, .inl mf37_0))]) [0, 1, 2] (by decide) rfl
          refine aft_v (runMV (rest := []) (As := [.int z_12, .int 0]) hx hb hml hown htb hK (g_X9_lay l D E mh ma mcode mtoday moffs mmany msumW msumA msumR msumWW msumWA msumAA msumWR msumAR mupper mlower mrates mtaped mlaid_0 mat mtk mtkAt mtkNumber z_11 mlisted mdealtMany mf36_0 mf37_0 z_12 0 _ (by (try dsimp only); omega) (by (try dsimp only); omega)) ok_X9_lay k_1376 k_1378 ks_57 k_9 k_1379 ⟨(Nat.le_of_ble_eq_true rfl), (Nat.le_of_ble_eq_true rfl)⟩ ⟨(Nat.le_of_ble_eq_true rfl), (Nat.le_of_ble_eq_true rfl)⟩ hl.1 (Nat.le_of_ble_eq_true rfl) rfl rfl dX9_done_46 hPc hDc rfl rfl 0 rfl) hP hD hS hA [0, 1, 2] [3] (wr := [((ma 43), .inl (E 0, 130, .inl mf43))]) rfl rfl (by decide) (by decide) (fun u_15 H locs hw_14 hP hD hS => ?_)
          clear hPc hDc
          obtain ⟨w_16, w_17, w_18⟩ := u_15
          try dsimp only at hw_14
          have hP : va_P D vwCl [((ma 43), .inl (E 0, 130, .inl mf43)), (mh, .inr (9, G9 ma mcode mtoday moffs mmany msumW msumA msumR msumWW msumWA msumAA msumWR msumAR mupper mlower mrates mtaped w_18 mat mtk mtkAt mtkNumber z_11 mlisted mdealtMany)), ((ma 36), .inl (E 0, 384, .inl w_16)), ((ma 37), .inl (E 0, 384, .inl w_17))] H := hP
          have hD := toW hP hD rfl
          obtain ⟨hw_14_0, hw_14_1, hw_14_2⟩ := hw_14
          try simp only [t_0] at hw_14_0
          try simp only [t_0] at hw_14_1
          try simp only [t_0] at hw_14_2
          rw [ix256 (a := mlaid_0) (g_add t_256 rfl (by omega) (by omega)) (by omega)] at hw_14_0
          rw [ix256 (a := mlaid_0) (g_add t_256 rfl (by omega) (by omega)) (by omega)] at hw_14_2
          have low7_21 : LOW mf37 w_17 := LOW_u v4_0 hw_14_2
          have low_20 : LOW mf36 w_16 := LOW_u v2_0 hw_14_0
          have pi_19 : PI w_16 mf43 w_18 z_11 1 := PI_pop v1_0 (by omega) (by omega) (by omega) ez_12 (by omega) hw_14_1 hw_14_0
          refine lv_goto (tgt := 0) hx hb dX9_done_49 (by decide) ?_
          have hP := hP.sub (ws' := [(mh, .inr (9, G9 ma mcode mtoday moffs mmany msumW msumA msumR msumWW msumWA msumAA msumWR msumAR mupper mlower mrates mtaped w_18 mat mtk mtkAt mtkNumber z_11 mlisted mdealtMany)), ((ma 36), .inl (E 0, 384, .inl w_16)), ((ma 37), .inl (E 0, 384, .inl w_17)), ((ma 43), .inl (E 0, 130, .inl mf43))]) [1, 2, 3, 0] rfl
          have hD := hD.sub (ws' := [(mh, .inr (9, G9 ma mcode mtoday moffs mmany msumW msumA msumR msumWW msumWA msumAA msumWR msumAR mupper mlower mrates mtaped w_18 mat mtk mtkAt mtkNumber z_11 mlisted mdealtMany)), ((ma 36), .inl (E 0, 384, .inl w_16)), ((ma 37), .inl (E 0, 384, .inl w_17)), ((ma 43), .inl (E 0, 130, .inl mf43))]) [1, 2, 3, 0] (by decide) rfl
          exact ih_2 w_18 z_11 w_16 w_17 _ _ _ (by (try dsimp only); omega) (by (try dsimp only); omega) pi_19 low_20 (by have hne : (z_12 : Int32).toInt ≠ 1 := (by omega); rw [← v3_0, show (mwaits_0).toNatClampNeg = (z_11).toNatClampNeg + 1 by have h1 := i_clamp0 (x := z_11) (by omega); have h2 := i_clamp0 (x := mwaits_0) (by omega); omega, popK_y (k := p0.toInt) (f := mf43) (w := (z_11).toNatClampNeg) (by rw [← ez_12]; unfold tgt; omega), clampS (by omega) hw_14_1, hw_14_0, hw_14_2, oM_upd, if_neg hne, ← ez_12]) low7_21 hP hD hS (lv_sub hl [0, 1] rfl)
  exact loop_1 131 mlaid mwaits mf36 mf37 _ _ _ (by (try dsimp only); omega) (by (try dsimp only); omega) gpi LOW_r rfl LOW_r hP hD hS (lv_sub hl [0, 1] rfl)
set_option maxHeartbeats 4000000 in
set_option maxRecDepth 100000 in
theorem g_X9_advance (l : Launch) (D : va_G) (E : Nat → Nat) (mh : Nat) (ma : Nat → Nat) (mcode : Int32) (mtoday : Int32) (moffs : Int32) (mmany : Int64) (msumW : Int64) (msumA : Int64) (msumR : Int64) (msumWW : Int64) (msumWA : Int64) (msumAA : Int64) (msumWR : Int64) (msumAR : Int64) (mupper : Int64) (mlower : Int64) (mrates : Int32) (mtaped : Int32) (mlaid : Int32) (mat : Int32) (mtk : Int32) (mtkAt : Int32) (mtkNumber : Int32) (mwaits : Int32) (mlisted : Int32) (mdealtMany : Int32) (mf32 : Nat → Int32) (p0 : Int32) (sz : Nat) (hi_m : (0 ≤ mtoday.toInt ∧ mtoday.toInt ≤ 399) ∧ (0 ≤ moffs.toInt ∧ moffs.toInt ≤ 60) ∧ (0 ≤ mrates.toInt ∧ mrates.toInt ≤ 60) ∧ (0 ≤ mtaped.toInt ∧ mtaped.toInt ≤ 120) ∧ (0 ≤ mlisted.toInt ∧ mlisted.toInt ≤ 9) ∧ (0 ≤ mdealtMany.toInt ∧ mdealtMany.toInt ≤ 9)) (g0 : 0 ≤ mat.toInt ∧ mat.toInt ≤ mtaped.toInt) : Met l yX9_advance (wl yX9_advance cX9_advance 6 none) (RM 1 0 0) (mu_P D E [.ref mh, .int p0] [(mh, .inr (9, G9 ma mcode mtoday moffs mmany msumW msumA msumR msumWW msumWA msumAA msumWR msumAR mupper mlower mrates mtaped mlaid mat mtk mtkAt mtkNumber mwaits mlisted mdealtMany)), ((ma 32), .inl (E 2, 120, .inl mf32))] sz) (va_Qv (fun (u : (Int32) × (Int32) × (Int32) × (Int32)) => (mat.toInt ≤ u.2.2.1.toInt ∧ u.2.2.1.toInt ≤ u.1.toInt ∧ u.1.toInt ≤ mtaped.toInt ∧ (u.2.1.toInt = 0 ∨ u.2.2.1.toInt + 1 ≤ u.1.toInt) ∧ 0 ≤ u.2.1.toInt ∧ u.2.1.toInt ≤ 123) ∧ (TKA mf32 (mtaped).toNatClampNeg p0.toInt (mat).toNatClampNeg u.1 u.2.2.1 u.2.1 u.2.2.2)) (mu_B D (va_A [(mh, .inr (9, G9 ma mcode mtoday moffs mmany msumW msumA msumR msumWW msumWA msumAA msumWR msumAR mupper mlower mrates mtaped mlaid mat mtk mtkAt mtkNumber mwaits mlisted mdealtMany)), ((ma 32), .inl (E 2, 120, .inl mf32))] sz) (fun (u : (Int32) × (Int32) × (Int32) × (Int32)) => [(mh, .inr (9, G9 ma mcode mtoday moffs mmany msumW msumA msumR msumWW msumWA msumAA msumWR msumAR mupper mlower mrates mtaped mlaid u.1 u.2.1 u.2.2.1 u.2.2.2 mwaits mlisted mdealtMany)), ((ma 32), .inl (E 2, 120, .inl mf32))])) (va_A [(mh, .inr (9, G9 ma mcode mtoday moffs mmany msumW msumA msumR msumWW msumWA msumAA msumWR msumAR mupper mlower mrates mtaped mlaid mat mtk mtkAt mtkNumber mwaits mlisted mdealtMany)), ((ma 32), .inl (E 2, 120, .inl mf32))] sz)) 0 0 (va_A [(mh, .inr (9, G9 ma mcode mtoday moffs mmany msumW msumA msumR msumWW msumWA msumAA msumWR msumAR mupper mlower mrates mtaped mlaid mat mtk mtkAt mtkNumber mwaits mlisted mdealtMany)), ((ma 32), .inl (E 2, 120, .inl mf32))] sz) := by
  refine Met.ofW (cc := cX9_advance) (maxL := 6) (ret := none) (by decide) rfl ?_
  intro p e s m args below meth c s₁ B hml hv
  obtain ⟨rfl, hsz, hP, hK, hD0⟩ := hv
  have hx := B.exec; have hb := B.bytes; have hr := B.returns
  have hts := atoms_spec (ws := wl yX9_advance cX9_advance 6 none) B.pre
  have htb : ∀ w ∈ tb, w.before _ s = true := fun w h => hts w (List.mem_cons_of_mem _ h)
  have hown : s.vm.findClass RX9 = some m.cls := findClass_of_methodNamed B.named
  have hlocks := B.notSynchronized
  subst hsz
  have hD := hD0.self (sz := s.heap.size)
  generalize hAe : va_A [(mh, .inr (9, G9 ma mcode mtoday moffs mmany msumW msumA msumR msumWW msumWA msumAA msumWR msumAR mupper mlower mrates mtaped mlaid mat mtk mtkAt mtkNumber mwaits mlisted mdealtMany)), ((ma 32), .inl (E 2, 120, .inl mf32))] s.heap.size = A at hD ⊢
  have hA : ∀ q : Nat, s.heap.size ≤ q → A q := fun q h => by rw [← hAe]; exact Or.inr h
  have hS : va_S A s.heap s.heap [] := va_S.rf
  have hP : va_P D vwCl [(mh, .inr (9, G9 ma mcode mtoday moffs mmany msumW msumA msumR msumWW msumWA msumAA msumWR msumAR mupper mlower mrates mtaped mlaid mat mtk mtkAt mtkNumber mwaits mlisted mdealtMany)), ((ma 32), .inl (E 2, 120, .inl mf32))] s.heap := hP
  have hl := lv_entry ([.ref mh, .int p0]) (n := 6) (Nat.le_of_ble_eq_true rfl)
  rw [lg_entry_eq]
  generalize (lg_sl ([.ref mh, .int p0]) ++ List.replicate (6 - (lg_sl ([.ref mh, .int p0])).length) Slot.unset).toArray = ls at hl ⊢
  have hl : lv_has ls 6 [(0, .ref mh), (1, .int p0)] := hl
  have lo_p0 := i_lo p0; have hi_p0 := i_hi p0
  have loop_1 : ∀ (N_3 : Nat) (mat_0 : Int32) (H : Heap) (locs : List Loc) (ls : Array Slot), mtaped.toInt - mat_0.toInt < (N_3 : Int) → (mat.toInt ≤ mat_0.toInt ∧ mat_0.toInt ≤ mtaped.toInt) → (skp 32 32 mf32 ((mtaped).toNatClampNeg - (mat_0).toNatClampNeg) (mat_0).toNatClampNeg = tkS mf32 (mtaped).toNatClampNeg (mat).toNatClampNeg) → va_P D vwCl [(mh, .inr (9, G9 ma mcode mtoday moffs mmany msumW msumA msumR msumWW msumWA msumAA msumWR msumAR mupper mlower mrates mtaped mlaid mat_0 mtk mtkAt mtkNumber mwaits mlisted mdealtMany)), ((ma 32), .inl (E 2, 120, .inl mf32))] H → va_D A [(mh, .inr (9, G9 ma mcode mtoday moffs mmany msumW msumA msumR msumWW msumWA msumAA msumWR msumAR mupper mlower mrates mtaped mlaid mat_0 mtk mtkAt mtkNumber mwaits mlisted mdealtMany)), ((ma 32), .inl (E 2, 120, .inl mf32))] → va_S A s.heap H locs → lv_has ls 6 [(0, .ref mh), (1, .int p0)] → W p l e (headSpec (wl yX9_advance cX9_advance 6 none) (RM 1 0 0)).room s m [Value.ref mh, .int p0].toArray below meth c H locs 0 0 (MQ below (va_Qv (fun (u : (Int32) × (Int32) × (Int32) × (Int32)) => (mat.toInt ≤ u.2.2.1.toInt ∧ u.2.2.1.toInt ≤ u.1.toInt ∧ u.1.toInt ≤ mtaped.toInt ∧ (u.2.1.toInt = 0 ∨ u.2.2.1.toInt + 1 ≤ u.1.toInt) ∧ 0 ≤ u.2.1.toInt ∧ u.2.1.toInt ≤ 123) ∧ (TKA mf32 (mtaped).toNatClampNeg p0.toInt (mat).toNatClampNeg u.1 u.2.2.1 u.2.1 u.2.2.2)) (mu_B D A (fun (u : (Int32) × (Int32) × (Int32) × (Int32)) => [(mh, .inr (9, G9 ma mcode mtoday moffs mmany msumW msumA msumR msumWW msumWA msumAA msumWR msumAR mupper mlower mrates mtaped mlaid u.1 u.2.1 u.2.2.1 u.2.2.2 mwaits mlisted mdealtMany)), ((ma 32), .inl (E 2, 120, .inl mf32))])) A) [Value.ref mh, .int p0].toArray s 0 0 A) (F0 m 0 ls []) := by
    intro N_3
    induction N_3 with
    | zero => intro mat_0 H locs ls hm v0_0 v1_0 _ _ _ _; exfalso; omega
    | succ N_3 ih_2 =>
      intro mat_0 H locs ls hm v0_0 v1_0 hP hD hS hl
      have lo_mat_0 := i_lo mat_0; have hi_mat_0 := i_hi mat_0
      refine lv_aload_n hx hb dX9_advance_0 rfl (lv_at hl 0 rfl) ?_
      refine va_get (D := D) (ci := 9) (v := .int mat_0) (C := RX9) (T := TX9) (N := 68) hx hb htb iX9 hown hK.1 hP 0 rfl rfl 39 (by decide) (htb _ k_997) (fun _ h9 => h9) rfl dX9_advance_1 ?_
      refine lv_aload_n hx hb dX9_advance_4 rfl (lv_at hl 0 rfl) ?_
      refine va_get (D := D) (ci := 9) (v := .int mtaped) (C := RX9) (T := TX9) (N := 68) hx hb htb iX9 hown hK.1 hP 0 rfl rfl 33 (by decide) (htb _ k_991) (fun _ h9 => h9) rfl dX9_advance_5 ?_
      refine lv_icmp_ge (tgt := 38) hx hb dX9_advance_8 (by decide) (fun c_4 => ?_) (fun c_4 => ?_)
      ·
        have ic_4 : mtaped.toInt ≤ mat_0.toInt := by first | exact (g_le rfl rfl).mp c_4 | (have h := mt (g_lt rfl rfl).mpr c_4; omega)
        clear c_4
        refine lv_aload_n hx hb dX9_advance_38 rfl (lv_at hl 0 rfl) ?_
        refine lv_aload_n hx hb dX9_advance_39 rfl (lv_at hl 0 rfl) ?_
        refine va_get (D := D) (ci := 9) (v := .int mat_0) (C := RX9) (T := TX9) (N := 68) hx hb htb iX9 hown hK.1 hP 0 rfl rfl 39 (by decide) (htb _ k_997) (fun _ h9 => h9) rfl dX9_advance_40 ?_
        refine va_put (D := D) (ci := 9) (v := .int mat_0) (ty := .int) (C := RX9) (T := TX9) (N := 68) hx hb htb iX9 tyX9 tyX9_ok nmX9 hown hK.1 hP hD hS 0 rfl rfl 41 (by decide) (htb _ k_999) (fun _ h9 => h9) rfl (by decide +kernel) rfl rfl (Nat.le_of_ble_eq_true rfl) dX9_advance_43 (fun H locs hP hD hS => ?_)
        have hP : va_P D vwCl [(mh, .inr (9, G9 ma mcode mtoday moffs mmany msumW msumA msumR msumWW msumWA msumAA msumWR msumAR mupper mlower mrates mtaped mlaid mat_0 mtk mat_0 mtkNumber mwaits mlisted mdealtMany)), ((ma 32), .inl (E 2, 120, .inl mf32))] H := hP
        have hD := toW hP hD rfl
        have hts9 : tkS mf32 (mtaped).toNatClampNeg (mat).toNatClampNeg = (mat_0).toNatClampNeg := by have c0 := i_clamp0 (x := mat_0) (by omega); have c1 := i_clamp0 (x := mtaped) (by omega); rw [← v1_0]; first | exact skp_z (by omega) | exact skp_no (by omega)
        refine lv_aload_n hx hb dX9_advance_46 rfl (lv_at hl 0 rfl) ?_
        refine va_get (D := D) (ci := 9) (v := .int mat_0) (C := RX9) (T := TX9) (N := 68) hx hb htb iX9 hown hK.1 hP 0 rfl rfl 39 (by decide) (htb _ k_997) (fun _ h9 => h9) rfl dX9_advance_47 ?_
        refine lv_aload_n hx hb dX9_advance_50 rfl (lv_at hl 0 rfl) ?_
        refine va_get (D := D) (ci := 9) (v := .int mtaped) (C := RX9) (T := TX9) (N := 68) hx hb htb iX9 hown hK.1 hP 0 rfl rfl 33 (by decide) (htb _ k_991) (fun _ h9 => h9) rfl dX9_advance_51 ?_
        refine lv_icmp_ne (tgt := 63) hx hb dX9_advance_54 (by decide) (fun c_5 => ?_) (fun c_5 => ?_)
        ·
          have ic_5 : mat_0.toInt ≠ mtaped.toInt := mt (g_eq rfl rfl).mpr c_5
          clear c_5
          refine lv_aload_n hx hb dX9_advance_63 rfl (lv_at hl 0 rfl) ?_
          refine va_get (D := D) (ci := 9) (v := .ref (ma 32)) (C := RX9) (T := TX9) (N := 68) hx hb htb iX9 hown hK.1 hP 0 rfl rfl 32 (by decide) (htb _ k_990) (fun _ h9 => h9) rfl dX9_advance_64 ?_
          refine lv_aload_n hx hb dX9_advance_67 rfl (lv_at hl 0 rfl) ?_
          refine va_get (D := D) (ci := 9) (v := .int mat_0) (C := RX9) (T := TX9) (N := 68) hx hb htb iX9 hown hK.1 hP 0 rfl rfl 39 (by decide) (htb _ k_997) (fun _ h9 => h9) rfl dX9_advance_68 ?_
          refine va_bald hx hb hK.1 hP 1 2 rfl rfl (g_in rfl (by omega) (by omega)) dX9_advance_71 ?_
          refine lv_topi (fun z_6 ez_6 => ?_)
          have kz_6 := congrArg Int32.toInt ez_6
          refine lv_istore_n (lv' := [(2, .int z_6), (0, .ref mh), (1, .int p0)]) hx hb dX9_advance_72 rfl hl (by decide) rfl (fun ls hl => ?_)
          refine lv_iload_n hx hb dX9_advance_73 rfl (lv_at hl 0 rfl) ?_
          refine callRS (rest := []) (As := [.int z_6]) hx hb hml hown htb hK (g_X9_isLetter l D E z_6 ) ok_X9_isLetter k_1342 k_1343 k_9 k_1344 ⟨(Nat.le_of_ble_eq_true rfl), (Nat.le_of_ble_eq_true rfl)⟩ ⟨(Nat.le_of_ble_eq_true rfl), (Nat.le_of_ble_eq_true rfl)⟩ hl.1 (Nat.le_of_ble_eq_true rfl) rfl rfl dX9_advance_74 (hP.sub (ws' := ([] : va_W)) [] rfl) (fun r_7 hw_8 => ?_)
          rcases hw_8 with ⟨hr_7, hw_8⟩ | ⟨hr_7, hw_8⟩
          ·
            refine W_top (y := .int 1) (by rw [hr_7]) ?_
            refine lv_if_eq (tgt := 180) hx hb dX9_advance_77 (by decide) (fun c_10 => absurd c_10 (by decide)) (fun c_10 => ?_)
            refine lv_lconst (v := 0) hx hb dX9_advance_80 (by decide) ?_
            refine lv_lstore_n (lv' := [(3, .long 0), (2, .int z_6), (0, .ref mh), (1, .int p0)]) hx hb dX9_advance_81 rfl hl (by decide) rfl (fun ls hl => ?_)
            refine lv_iconst (v := 0) hx hb dX9_advance_82 (by decide) ?_
            refine lv_istore (lv' := [(5, .int 0), (3, .long 0), (2, .int z_6), (0, .ref mh), (1, .int p0)]) hx hb dX9_advance_83 hl (by decide) rfl (fun ls hl => ?_)
            have loop_11 : ∀ (N_13 : Nat) (L5_85 : Int32) (mat_85 : Int32) (L3_85 : Int64) (H : Heap) (locs : List Loc) (ls : Array Slot), mtaped.toInt - mat_85.toInt < (N_13 : Int) → (mat_0.toInt ≤ mat_85.toInt ∧ mat_85.toInt ≤ mtaped.toInt ∧ mat_0.toInt < mtaped.toInt ∧ mat.toInt ≤ mat_0.toInt ∧ (mat_0.toInt + 1 ≤ mat_85.toInt ∨ (97 ≤ (mf32 (mat_85).toNatClampNeg).toInt ∧ (mf32 (mat_85).toNatClampNeg).toInt ≤ 122))) → (0 ≤ L5_85.toInt ∧ L5_85.toInt ≤ mat_85.toInt ∧ L5_85.toInt = mat_85.toInt - mat_0.toInt) → (skp 97 122 mf32 ((mtaped).toNatClampNeg - (mat_85).toNatClampNeg) (mat_85).toNatClampNeg = teE mf32 (mtaped).toNatClampNeg (mat_0).toNatClampNeg) → (L5_85.toInt ≤ 7 → (L3_85 : Int64).toInt = encW mf32 (mat_0).toNatClampNeg (L5_85).toNatClampNeg) → (∀ k : Nat, (k : Int) < L5_85.toInt → 97 ≤ (mf32 ((mat_0).toNatClampNeg + k)).toInt ∧ (mf32 ((mat_0).toNatClampNeg + k)).toInt ≤ 122) → va_P D vwCl [(mh, .inr (9, G9 ma mcode mtoday moffs mmany msumW msumA msumR msumWW msumWA msumAA msumWR msumAR mupper mlower mrates mtaped mlaid mat_85 mtk mat_0 mtkNumber mwaits mlisted mdealtMany)), ((ma 32), .inl (E 2, 120, .inl mf32))] H → va_D A [(mh, .inr (9, G9 ma mcode mtoday moffs mmany msumW msumA msumR msumWW msumWA msumAA msumWR msumAR mupper mlower mrates mtaped mlaid mat_85 mtk mat_0 mtkNumber mwaits mlisted mdealtMany)), ((ma 32), .inl (E 2, 120, .inl mf32))] → va_S A s.heap H locs → lv_has ls 6 [(5, .int L5_85), (3, .long L3_85), (2, .int z_6), (0, .ref mh), (1, .int p0)] → W p l e (headSpec (wl yX9_advance cX9_advance 6 none) (RM 1 0 0)).room s m [Value.ref mh, .int p0].toArray below meth c H locs 0 0 (MQ below (va_Qv (fun (u : (Int32) × (Int32) × (Int32) × (Int32)) => (mat.toInt ≤ u.2.2.1.toInt ∧ u.2.2.1.toInt ≤ u.1.toInt ∧ u.1.toInt ≤ mtaped.toInt ∧ (u.2.1.toInt = 0 ∨ u.2.2.1.toInt + 1 ≤ u.1.toInt) ∧ 0 ≤ u.2.1.toInt ∧ u.2.1.toInt ≤ 123) ∧ (TKA mf32 (mtaped).toNatClampNeg p0.toInt (mat).toNatClampNeg u.1 u.2.2.1 u.2.1 u.2.2.2)) (mu_B D A (fun (u : (Int32) × (Int32) × (Int32) × (Int32)) => [(mh, .inr (9, G9 ma mcode mtoday moffs mmany msumW msumA msumR msumWW msumWA msumAA msumWR msumAR mupper mlower mrates mtaped mlaid u.1 u.2.1 u.2.2.1 u.2.2.2 mwaits mlisted mdealtMany)), ((ma 32), .inl (E 2, 120, .inl mf32))])) A) [Value.ref mh, .int p0].toArray s 0 0 A) (F0 m 85 ls []) := by
              intro N_13
              induction N_13 with
              | zero => intro L5_85 mat_85 L3_85 H locs ls hm v0_85 v1_85 v2_85 v3_85 v4_85 _ _ _ _; exfalso; omega
              | succ N_13 ih_12 =>
                intro L5_85 mat_85 L3_85 H locs ls hm v0_85 v1_85 v2_85 v3_85 v4_85 hP hD hS hl
                have lo_L5_85 := i_lo L5_85; have hi_L5_85 := i_hi L5_85
                have lo_mat_85 := i_lo mat_85; have hi_mat_85 := i_hi mat_85
                refine lv_aload_n hx hb dX9_advance_85 rfl (lv_at hl 3 rfl) ?_
                refine va_get (D := D) (ci := 9) (v := .int mat_85) (C := RX9) (T := TX9) (N := 68) hx hb htb iX9 hown hK.1 hP 0 rfl rfl 39 (by decide) (htb _ k_997) (fun _ h9 => h9) rfl dX9_advance_86 ?_
                refine lv_aload_n hx hb dX9_advance_89 rfl (lv_at hl 3 rfl) ?_
                refine va_get (D := D) (ci := 9) (v := .int mtaped) (C := RX9) (T := TX9) (N := 68) hx hb htb iX9 hown hK.1 hP 0 rfl rfl 33 (by decide) (htb _ k_991) (fun _ h9 => h9) rfl dX9_advance_90 ?_
                refine lv_icmp_ge (tgt := 159) hx hb dX9_advance_93 (by decide) (fun c_14 => ?_) (fun c_14 => ?_)
                ·
                  have ic_14 : mtaped.toInt ≤ mat_85.toInt := by first | exact (g_le rfl rfl).mp c_14 | (have h := mt (g_lt rfl rfl).mpr c_14; omega)
                  clear c_14
                  refine lv_aload_n hx hb dX9_advance_159 rfl (lv_at hl 3 rfl) ?_
                  refine lv_iload hx hb dX9_advance_160 (lv_at hl 0 rfl) ?_
                  refine lv_bipush (v := 6) hx hb dX9_advance_162 (by decide) ?_
                  refine lv_icmp_le (tgt := 171) hx hb dX9_advance_164 (by decide) (fun c_15 => ?_) (fun c_15 => ?_)
                  ·
                    have ic_15 : L5_85.toInt ≤ 6 := by first | exact (g_le rfl t_6).mp c_15 | (have h := mt (g_lt t_6 rfl).mpr c_15; omega)
                    clear c_15
                    refine lv_lload_n hx hb dX9_advance_171 rfl (lv_at hl 1 rfl) ?_
                    refine lv_iload_n hx hb dX9_advance_172 rfl (lv_at hl 4 rfl) ?_
                    refine callRS (rest := [.ref mh]) (As := [.long L3_85, .int p0]) hx hb hml hown htb hK (g_X9_wordOf l D E L3_85 p0 ) ok_X9_wordOf k_1347 k_1348 k_9 k_1349 ⟨(Nat.le_of_ble_eq_true rfl), (Nat.le_of_ble_eq_true rfl)⟩ ⟨(Nat.le_of_ble_eq_true rfl), (Nat.le_of_ble_eq_true rfl)⟩ hl.1 (Nat.le_of_ble_eq_true rfl) rfl rfl dX9_advance_173 (hP.sub (ws' := ([] : va_W)) [] rfl) (fun r_16 hw_17 => ?_)
                    refine va_put (D := D) (ci := 9) (v := .int r_16) (ty := .int) (C := RX9) (T := TX9) (N := 68) hx hb htb iX9 tyX9 tyX9_ok nmX9 hown hK.1 hP hD hS 0 rfl rfl 40 (by decide) (htb _ k_998) (fun _ h9 => h9) rfl (by decide +kernel) rfl rfl (Nat.le_of_ble_eq_true rfl) dX9_advance_176 (fun H locs hP hD hS => ?_)
                    have hP : va_P D vwCl [(mh, .inr (9, G9 ma mcode mtoday moffs mmany msumW msumA msumR msumWW msumWA msumAA msumWR msumAR mupper mlower mrates mtaped mlaid mat_85 r_16 mat_0 mtkNumber mwaits mlisted mdealtMany)), ((ma 32), .inl (E 2, 120, .inl mf32))] H := hP
                    have hD := toW hP hD rfl
                    have hP9 := hP.sub (ws' := [(mh, .inr (9, G9 ma mcode mtoday moffs mmany msumW msumA msumR msumWW msumWA msumAA msumWR msumAR mupper mlower mrates mtaped mlaid mat_85 r_16 mat_0 mtkNumber mwaits mlisted mdealtMany)), ((ma 32), .inl (E 2, 120, .inl mf32))]) [0, 1] rfl
                    have hD9 := hD.sub (ws' := [(mh, .inr (9, G9 ma mcode mtoday moffs mmany msumW msumA msumR msumWW msumWA msumAA msumWR msumAR mupper mlower mrates mtaped mlaid mat_85 r_16 mat_0 mtkNumber mwaits mlisted mdealtMany)), ((ma 32), .inl (E 2, 120, .inl mf32))]) [0, 1] (by decide) rfl
                    exact W.vret hx hb hr (fun t ht hW => ⟨⟨(mat_85, r_16, mat_0, mtkNumber), rfl, ⟨(by (try dsimp only); omega), (by (try dsimp only); have hl2 := t_2; have hl1 := t_1; have c0 := i_clamp0 (x := mat) (by omega); have c1 := i_clamp0 (x := mtaped) (by omega); have c2 := i_clamp0 (x := mat_0) (by omega); have c3 := i_clamp0 (x := mat_85) (by omega); have he9 : (mat_85 : Int32).toInt = (teE mf32 (mtaped).toNatClampNeg (mat_0).toNatClampNeg : Nat) := (by rw [← v2_85]; first | (rw [skp_z (by omega)]; omega) | (rw [skp_no (by omega)]; omega)); exact TKA_l (by omega) hts9 (by omega) (by omega) (by rw [← ez_6]; omega) he9 (wd_eq (n5 := L5_85) (L := L3_85) (by omega) (fun h9 => by rw [show teE mf32 (mtaped).toNatClampNeg (mat_0).toNatClampNeg - (mat_0).toNatClampNeg = (L5_85).toNatClampNeg by have c9 := i_clamp0 (x := L5_85) (by omega); omega]; exact v3_85 h9) (Or.inr ⟨by omega, hw_17.1⟩)))⟩, by rw [ht]; exact hP9, hD9⟩, hS.F ht⟩) hS.2.2 dX9_advance_179
                  ·
                    have ic_15 : 6 < L5_85.toInt := by first | exact (g_lt t_6 rfl).mp c_15 | (have h := mt (g_le rfl t_6).mpr c_15; omega)
                    clear c_15
                    refine lv_iconst (v := 2) hx hb dX9_advance_167 (by decide) ?_
                    refine lv_goto (tgt := 176) hx hb dX9_advance_168 (by decide) ?_
                    refine va_put (D := D) (ci := 9) (v := .int 2) (ty := .int) (C := RX9) (T := TX9) (N := 68) hx hb htb iX9 tyX9 tyX9_ok nmX9 hown hK.1 hP hD hS 0 rfl rfl 40 (by decide) (htb _ k_998) (fun _ h9 => h9) rfl (by decide +kernel) rfl rfl (Nat.le_of_ble_eq_true rfl) dX9_advance_176 (fun H locs hP hD hS => ?_)
                    have hP : va_P D vwCl [(mh, .inr (9, G9 ma mcode mtoday moffs mmany msumW msumA msumR msumWW msumWA msumAA msumWR msumAR mupper mlower mrates mtaped mlaid mat_85 2 mat_0 mtkNumber mwaits mlisted mdealtMany)), ((ma 32), .inl (E 2, 120, .inl mf32))] H := hP
                    have hD := toW hP hD rfl
                    have hP9 := hP.sub (ws' := [(mh, .inr (9, G9 ma mcode mtoday moffs mmany msumW msumA msumR msumWW msumWA msumAA msumWR msumAR mupper mlower mrates mtaped mlaid mat_85 2 mat_0 mtkNumber mwaits mlisted mdealtMany)), ((ma 32), .inl (E 2, 120, .inl mf32))]) [0, 1] rfl
                    have hD9 := hD.sub (ws' := [(mh, .inr (9, G9 ma mcode mtoday moffs mmany msumW msumA msumR msumWW msumWA msumAA msumWR msumAR mupper mlower mrates mtaped mlaid mat_85 2 mat_0 mtkNumber mwaits mlisted mdealtMany)), ((ma 32), .inl (E 2, 120, .inl mf32))]) [0, 1] (by decide) rfl
                    exact W.vret hx hb hr (fun t ht hW => ⟨⟨(mat_85, (2 : Int32), mat_0, mtkNumber), rfl, ⟨(by have h0 := t_2; (try dsimp only); omega), (by (try dsimp only); have hl2 := t_2; have hl1 := t_1; have c0 := i_clamp0 (x := mat) (by omega); have c1 := i_clamp0 (x := mtaped) (by omega); have c2 := i_clamp0 (x := mat_0) (by omega); have c3 := i_clamp0 (x := mat_85) (by omega); have he9 : (mat_85 : Int32).toInt = (teE mf32 (mtaped).toNatClampNeg (mat_0).toNatClampNeg : Nat) := (by rw [← v2_85]; first | (rw [skp_z (by omega)]; omega) | (rw [skp_no (by omega)]; omega)); exact TKA_l (by omega) hts9 (by omega) (by omega) (by rw [← ez_6]; omega) he9 (wd_eq (n5 := L5_85) (L := L3_85) (by omega) (fun h9 => by rw [show teE mf32 (mtaped).toNatClampNeg (mat_0).toNatClampNeg - (mat_0).toNatClampNeg = (L5_85).toNatClampNeg by have c9 := i_clamp0 (x := L5_85) (by omega); omega]; exact v3_85 h9) (Or.inl ⟨by omega, by omega⟩)))⟩, by rw [ht]; exact hP9, hD9⟩, hS.F ht⟩) hS.2.2 dX9_advance_179
                ·
                  have ic_14 : mat_85.toInt < mtaped.toInt := by first | exact (g_lt rfl rfl).mp c_14 | (have h := mt (g_le rfl rfl).mpr c_14; omega)
                  clear c_14
                  refine lv_aload_n hx hb dX9_advance_96 rfl (lv_at hl 3 rfl) ?_
                  refine va_get (D := D) (ci := 9) (v := .ref (ma 32)) (C := RX9) (T := TX9) (N := 68) hx hb htb iX9 hown hK.1 hP 0 rfl rfl 32 (by decide) (htb _ k_990) (fun _ h9 => h9) rfl dX9_advance_97 ?_
                  refine lv_aload_n hx hb dX9_advance_100 rfl (lv_at hl 3 rfl) ?_
                  refine va_get (D := D) (ci := 9) (v := .int mat_85) (C := RX9) (T := TX9) (N := 68) hx hb htb iX9 hown hK.1 hP 0 rfl rfl 39 (by decide) (htb _ k_997) (fun _ h9 => h9) rfl dX9_advance_101 ?_
                  refine va_bald hx hb hK.1 hP 1 2 rfl rfl (g_in rfl (by omega) (by omega)) dX9_advance_104 ?_
                  refine lv_topi (fun z_19 ez_19 => ?_)
                  have kz_19 := congrArg Int32.toInt ez_19
                  refine callRS (rest := []) (As := [.int z_19]) hx hb hml hown htb hK (g_X9_isLetter l D E z_19 ) ok_X9_isLetter k_1342 k_1343 k_9 k_1344 ⟨(Nat.le_of_ble_eq_true rfl), (Nat.le_of_ble_eq_true rfl)⟩ ⟨(Nat.le_of_ble_eq_true rfl), (Nat.le_of_ble_eq_true rfl)⟩ hl.1 (Nat.le_of_ble_eq_true rfl) rfl rfl dX9_advance_105 (hP.sub (ws' := ([] : va_W)) [] rfl) (fun r_20 hw_21 => ?_)
                  rcases hw_21 with ⟨hr_20, hw_21⟩ | ⟨hr_20, hw_21⟩
                  ·
                    refine W_top (y := .int 1) (by rw [hr_20]) ?_
                    refine lv_if_eq (tgt := 159) hx hb dX9_advance_108 (by decide) (fun c_23 => absurd c_23 (by decide)) (fun c_23 => ?_)
                    refine lv_iload hx hb dX9_advance_111 (lv_at hl 0 rfl) ?_
                    refine lv_bipush (v := 7) hx hb dX9_advance_113 (by decide) ?_
                    refine lv_icmp_ge (tgt := 141) hx hb dX9_advance_115 (by decide) (fun c_24 => ?_) (fun c_24 => ?_)
                    ·
                      have ic_24 : 7 ≤ L5_85.toInt := by first | exact (g_le t_7 rfl).mp c_24 | (have h := mt (g_lt rfl t_7).mpr c_24; omega)
                      clear c_24
                      refine lv_lload_n hx hb dX9_advance_141 rfl (lv_at hl 1 rfl) ?_
                      refine lv_lstore_n (lv' := [(3, .long L3_85), (5, .int L5_85), (2, .int z_6), (0, .ref mh), (1, .int p0)]) hx hb dX9_advance_142 rfl hl (by decide) rfl (fun ls hl => ?_)
                      refine lv_aload_n hx hb dX9_advance_143 rfl (lv_at hl 3 rfl) ?_
                      refine lv_dup hx hb dX9_advance_144 rfl ?_
                      refine va_get (D := D) (ci := 9) (v := .int mat_85) (C := RX9) (T := TX9) (N := 68) hx hb htb iX9 hown hK.1 hP 0 rfl rfl 39 (by decide) (htb _ k_997) (fun _ h9 => h9) rfl dX9_advance_145 ?_
                      refine lv_iconst (v := 1) hx hb dX9_advance_148 (by decide) ?_
                      refine lv_iadd hx hb dX9_advance_149 ?_
                      refine lv_topi (fun z_25 ez_25 => ?_)
                      have jz_25 : z_25.toInt = mat_85.toInt + 1 := by rw [ez_25]; exact g_add rfl t_1 (by omega) (by omega)
                      refine va_put (D := D) (ci := 9) (v := .int z_25) (ty := .int) (C := RX9) (T := TX9) (N := 68) hx hb htb iX9 tyX9 tyX9_ok nmX9 hown hK.1 hP hD hS 0 rfl rfl 39 (by decide) (htb _ k_997) (fun _ h9 => h9) rfl (by decide +kernel) rfl rfl (Nat.le_of_ble_eq_true rfl) dX9_advance_150 (fun H locs hP hD hS => ?_)
                      have hP : va_P D vwCl [(mh, .inr (9, G9 ma mcode mtoday moffs mmany msumW msumA msumR msumWW msumWA msumAA msumWR msumAR mupper mlower mrates mtaped mlaid z_25 mtk mat_0 mtkNumber mwaits mlisted mdealtMany)), ((ma 32), .inl (E 2, 120, .inl mf32))] H := hP
                      have hD := toW hP hD rfl
                      obtain ⟨z_26, ez_26⟩ : ∃ y : Int32, y = L5_85 + 1 := ⟨_, rfl⟩
                      have jz_26 : z_26.toInt = L5_85.toInt + 1 := by rw [ez_26]; exact g_add rfl t_1 (by omega) (by omega)
                      refine lv_iinc (v := z_26) (lv' := [(5, .int z_26), (3, .long L3_85), (2, .int z_6), (0, .ref mh), (1, .int p0)]) hx hb dX9_advance_153 hl (k := 1) rfl (by rw [ez_26]; rfl) (by decide) rfl (fun ls hl => ?_)
                      refine lv_goto (tgt := 85) hx hb dX9_advance_156 (by decide) ?_
                      exact ih_12 z_26 z_25 L3_85 _ _ _ (by (try dsimp only); omega) (by (try dsimp only); omega) (by (try dsimp only); omega) (by rw [clampS (by omega) jz_25, ← skp_yes (lo := 97) (hi := 122) (f := mf32) (n := (mtaped).toNatClampNeg) (a := (mat_85).toNatClampNeg) (by have c0 := i_clamp0 (x := mat_85) (by omega); have c1 := i_clamp0 (x := mtaped) (by omega); omega) (by omega)]; exact v2_85) (fun h9 => absurd h9 (by omega)) (fill_q (P := fun k => 97 ≤ (mf32 ((mat_0).toNatClampNeg + k)).toInt ∧ (mf32 ((mat_0).toNatClampNeg + k)).toInt ≤ 122) (by omega) jz_26 v4_85 (by (try dsimp only); rw [show (mat_0).toNatClampNeg + (L5_85).toNatClampNeg = (mat_85).toNatClampNeg by have c0 := i_clamp0 (x := mat_85) (by omega); have c1 := i_clamp0 (x := mat_0) (by omega); have c2 := i_clamp0 (x := L5_85) (by omega); omega, ← ez_19]; omega)) hP hD hS (lv_sub hl [0, 1, 2, 3, 4] rfl)
                    ·
                      have ic_24 : L5_85.toInt < 7 := by first | exact (g_lt rfl t_7).mp c_24 | (have h := mt (g_le t_7 rfl).mpr c_24; omega)
                      clear c_24
                      refine lv_lload_n hx hb dX9_advance_118 rfl (lv_at hl 1 rfl) ?_
                      refine lv_ldc2 hx hb hown (htb _ k_1345) dX9_advance_119 ?_
                      refine lv_lmul hx hb dX9_advance_122 ?_
                      refine lv_topl (fun z_27 ez_27 => ?_)
                      refine lv_aload_n hx hb dX9_advance_123 rfl (lv_at hl 3 rfl) ?_
                      refine va_get (D := D) (ci := 9) (v := .ref (ma 32)) (C := RX9) (T := TX9) (N := 68) hx hb htb iX9 hown hK.1 hP 0 rfl rfl 32 (by decide) (htb _ k_990) (fun _ h9 => h9) rfl dX9_advance_124 ?_
                      refine lv_aload_n hx hb dX9_advance_127 rfl (lv_at hl 3 rfl) ?_
                      refine va_get (D := D) (ci := 9) (v := .int mat_85) (C := RX9) (T := TX9) (N := 68) hx hb htb iX9 hown hK.1 hP 0 rfl rfl 39 (by decide) (htb _ k_997) (fun _ h9 => h9) rfl dX9_advance_128 ?_
                      refine va_bald hx hb hK.1 hP 1 2 rfl rfl (g_in rfl (by omega) (by omega)) dX9_advance_131 ?_
                      refine lv_topi (fun z_28 ez_28 => ?_)
                      have kz_28 := congrArg Int32.toInt ez_28
                      obtain ⟨z_29, ez_29⟩ : ∃ y : Int64, (z_28 : Int32).toInt64 = y := ⟨_, rfl⟩
                      refine lv_i2l hx hb dX9_advance_132 ez_29 ?_
                      refine lv_ladd hx hb dX9_advance_133 ?_
                      refine lv_topl (fun z_30 ez_30 => ?_)
                      refine lv_ldc2 hx hb hown (htb _ k_1346) dX9_advance_134 ?_
                      refine lv_lsub hx hb dX9_advance_137 ?_
                      refine lv_topl (fun z_31 ez_31 => ?_)
                      refine lv_goto (tgt := 142) hx hb dX9_advance_138 (by decide) ?_
                      refine lv_lstore_n (lv' := [(3, .long z_31), (5, .int L5_85), (2, .int z_6), (0, .ref mh), (1, .int p0)]) hx hb dX9_advance_142 rfl hl (by decide) rfl (fun ls hl => ?_)
                      refine lv_aload_n hx hb dX9_advance_143 rfl (lv_at hl 3 rfl) ?_
                      refine lv_dup hx hb dX9_advance_144 rfl ?_
                      refine va_get (D := D) (ci := 9) (v := .int mat_85) (C := RX9) (T := TX9) (N := 68) hx hb htb iX9 hown hK.1 hP 0 rfl rfl 39 (by decide) (htb _ k_997) (fun _ h9 => h9) rfl dX9_advance_145 ?_
                      refine lv_iconst (v := 1) hx hb dX9_advance_148 (by decide) ?_
                      refine lv_iadd hx hb dX9_advance_149 ?_
                      refine lv_topi (fun z_32 ez_32 => ?_)
                      have jz_32 : z_32.toInt = mat_85.toInt + 1 := by rw [ez_32]; exact g_add rfl t_1 (by omega) (by omega)
                      refine va_put (D := D) (ci := 9) (v := .int z_32) (ty := .int) (C := RX9) (T := TX9) (N := 68) hx hb htb iX9 tyX9 tyX9_ok nmX9 hown hK.1 hP hD hS 0 rfl rfl 39 (by decide) (htb _ k_997) (fun _ h9 => h9) rfl (by decide +kernel) rfl rfl (Nat.le_of_ble_eq_true rfl) dX9_advance_150 (fun H locs hP hD hS => ?_)
                      have hP : va_P D vwCl [(mh, .inr (9, G9 ma mcode mtoday moffs mmany msumW msumA msumR msumWW msumWA msumAA msumWR msumAR mupper mlower mrates mtaped mlaid z_32 mtk mat_0 mtkNumber mwaits mlisted mdealtMany)), ((ma 32), .inl (E 2, 120, .inl mf32))] H := hP
                      have hD := toW hP hD rfl
                      obtain ⟨z_33, ez_33⟩ : ∃ y : Int32, y = L5_85 + 1 := ⟨_, rfl⟩
                      have jz_33 : z_33.toInt = L5_85.toInt + 1 := by rw [ez_33]; exact g_add rfl t_1 (by omega) (by omega)
                      refine lv_iinc (v := z_33) (lv' := [(5, .int z_33), (3, .long z_31), (2, .int z_6), (0, .ref mh), (1, .int p0)]) hx hb dX9_advance_153 hl (k := 1) rfl (by rw [ez_33]; rfl) (by decide) rfl (fun ls hl => ?_)
                      refine lv_goto (tgt := 85) hx hb dX9_advance_156 (by decide) ?_
                      exact ih_12 z_33 z_32 z_31 _ _ _ (by (try dsimp only); omega) (by (try dsimp only); omega) (by (try dsimp only); omega) (by rw [clampS (by omega) jz_32, ← skp_yes (lo := 97) (hi := 122) (f := mf32) (n := (mtaped).toNatClampNeg) (a := (mat_85).toNatClampNeg) (by have c0 := i_clamp0 (x := mat_85) (by omega); have c1 := i_clamp0 (x := mtaped) (by omega); omega) (by omega)]; exact v2_85) (fun h9 => by rw [clampS (by omega) jz_33]; exact enc_fin (b := z_28) (by omega) (by omega) (v3_85 (by omega)) v4_85 (by rw [show (mat_0).toNatClampNeg + (L5_85).toNatClampNeg = (mat_85).toNatClampNeg by have c0 := i_clamp0 (x := mat_85) (by omega); have c1 := i_clamp0 (x := mat_0) (by omega); have c2 := i_clamp0 (x := L5_85) (by omega); omega]; exact ez_28.symm) (by omega) (by first | (subst_vars; rfl) | subst_vars)) (fill_q (P := fun k => 97 ≤ (mf32 ((mat_0).toNatClampNeg + k)).toInt ∧ (mf32 ((mat_0).toNatClampNeg + k)).toInt ≤ 122) (by omega) jz_33 v4_85 (by (try dsimp only); rw [show (mat_0).toNatClampNeg + (L5_85).toNatClampNeg = (mat_85).toNatClampNeg by have c0 := i_clamp0 (x := mat_85) (by omega); have c1 := i_clamp0 (x := mat_0) (by omega); have c2 := i_clamp0 (x := L5_85) (by omega); omega, ← ez_28]; omega)) hP hD hS (lv_sub hl [0, 1, 2, 3, 4] rfl)
                  ·
                    refine W_top (y := .int 0) (by rw [hr_20]) ?_
                    refine lv_if_eq (tgt := 159) hx hb dX9_advance_108 (by decide) (fun c_34 => ?_) (fun c_34 => absurd (by decide) c_34)
                    refine lv_aload_n hx hb dX9_advance_159 rfl (lv_at hl 3 rfl) ?_
                    refine lv_iload hx hb dX9_advance_160 (lv_at hl 0 rfl) ?_
                    refine lv_bipush (v := 6) hx hb dX9_advance_162 (by decide) ?_
                    refine lv_icmp_le (tgt := 171) hx hb dX9_advance_164 (by decide) (fun c_35 => ?_) (fun c_35 => ?_)
                    ·
                      have ic_35 : L5_85.toInt ≤ 6 := by first | exact (g_le rfl t_6).mp c_35 | (have h := mt (g_lt t_6 rfl).mpr c_35; omega)
                      clear c_35
                      refine lv_lload_n hx hb dX9_advance_171 rfl (lv_at hl 1 rfl) ?_
                      refine lv_iload_n hx hb dX9_advance_172 rfl (lv_at hl 4 rfl) ?_
                      refine callRS (rest := [.ref mh]) (As := [.long L3_85, .int p0]) hx hb hml hown htb hK (g_X9_wordOf l D E L3_85 p0 ) ok_X9_wordOf k_1347 k_1348 k_9 k_1349 ⟨(Nat.le_of_ble_eq_true rfl), (Nat.le_of_ble_eq_true rfl)⟩ ⟨(Nat.le_of_ble_eq_true rfl), (Nat.le_of_ble_eq_true rfl)⟩ hl.1 (Nat.le_of_ble_eq_true rfl) rfl rfl dX9_advance_173 (hP.sub (ws' := ([] : va_W)) [] rfl) (fun r_36 hw_37 => ?_)
                      refine va_put (D := D) (ci := 9) (v := .int r_36) (ty := .int) (C := RX9) (T := TX9) (N := 68) hx hb htb iX9 tyX9 tyX9_ok nmX9 hown hK.1 hP hD hS 0 rfl rfl 40 (by decide) (htb _ k_998) (fun _ h9 => h9) rfl (by decide +kernel) rfl rfl (Nat.le_of_ble_eq_true rfl) dX9_advance_176 (fun H locs hP hD hS => ?_)
                      have hP : va_P D vwCl [(mh, .inr (9, G9 ma mcode mtoday moffs mmany msumW msumA msumR msumWW msumWA msumAA msumWR msumAR mupper mlower mrates mtaped mlaid mat_85 r_36 mat_0 mtkNumber mwaits mlisted mdealtMany)), ((ma 32), .inl (E 2, 120, .inl mf32))] H := hP
                      have hD := toW hP hD rfl
                      have hP9 := hP.sub (ws' := [(mh, .inr (9, G9 ma mcode mtoday moffs mmany msumW msumA msumR msumWW msumWA msumAA msumWR msumAR mupper mlower mrates mtaped mlaid mat_85 r_36 mat_0 mtkNumber mwaits mlisted mdealtMany)), ((ma 32), .inl (E 2, 120, .inl mf32))]) [0, 1] rfl
                      have hD9 := hD.sub (ws' := [(mh, .inr (9, G9 ma mcode mtoday moffs mmany msumW msumA msumR msumWW msumWA msumAA msumWR msumAR mupper mlower mrates mtaped mlaid mat_85 r_36 mat_0 mtkNumber mwaits mlisted mdealtMany)), ((ma 32), .inl (E 2, 120, .inl mf32))]) [0, 1] (by decide) rfl
                      exact W.vret hx hb hr (fun t ht hW => ⟨⟨(mat_85, r_36, mat_0, mtkNumber), rfl, ⟨(by (try dsimp only); omega), (by (try dsimp only); have hl2 := t_2; have hl1 := t_1; have c0 := i_clamp0 (x := mat) (by omega); have c1 := i_clamp0 (x := mtaped) (by omega); have c2 := i_clamp0 (x := mat_0) (by omega); have c3 := i_clamp0 (x := mat_85) (by omega); have he9 : (mat_85 : Int32).toInt = (teE mf32 (mtaped).toNatClampNeg (mat_0).toNatClampNeg : Nat) := (by rw [← v2_85]; first | (rw [skp_z (by omega)]; omega) | (rw [skp_no (by omega)]; omega)); exact TKA_l (by omega) hts9 (by omega) (by omega) (by rw [← ez_6]; omega) he9 (wd_eq (n5 := L5_85) (L := L3_85) (by omega) (fun h9 => by rw [show teE mf32 (mtaped).toNatClampNeg (mat_0).toNatClampNeg - (mat_0).toNatClampNeg = (L5_85).toNatClampNeg by have c9 := i_clamp0 (x := L5_85) (by omega); omega]; exact v3_85 h9) (Or.inr ⟨by omega, hw_37.1⟩)))⟩, by rw [ht]; exact hP9, hD9⟩, hS.F ht⟩) hS.2.2 dX9_advance_179
                    ·
                      have ic_35 : 6 < L5_85.toInt := by first | exact (g_lt t_6 rfl).mp c_35 | (have h := mt (g_le rfl t_6).mpr c_35; omega)
                      clear c_35
                      refine lv_iconst (v := 2) hx hb dX9_advance_167 (by decide) ?_
                      refine lv_goto (tgt := 176) hx hb dX9_advance_168 (by decide) ?_
                      refine va_put (D := D) (ci := 9) (v := .int 2) (ty := .int) (C := RX9) (T := TX9) (N := 68) hx hb htb iX9 tyX9 tyX9_ok nmX9 hown hK.1 hP hD hS 0 rfl rfl 40 (by decide) (htb _ k_998) (fun _ h9 => h9) rfl (by decide +kernel) rfl rfl (Nat.le_of_ble_eq_true rfl) dX9_advance_176 (fun H locs hP hD hS => ?_)
                      have hP : va_P D vwCl [(mh, .inr (9, G9 ma mcode mtoday moffs mmany msumW msumA msumR msumWW msumWA msumAA msumWR msumAR mupper mlower mrates mtaped mlaid mat_85 2 mat_0 mtkNumber mwaits mlisted mdealtMany)), ((ma 32), .inl (E 2, 120, .inl mf32))] H := hP
                      have hD := toW hP hD rfl
                      have hP9 := hP.sub (ws' := [(mh, .inr (9, G9 ma mcode mtoday moffs mmany msumW msumA msumR msumWW msumWA msumAA msumWR msumAR mupper mlower mrates mtaped mlaid mat_85 2 mat_0 mtkNumber mwaits mlisted mdealtMany)), ((ma 32), .inl (E 2, 120, .inl mf32))]) [0, 1] rfl
                      have hD9 := hD.sub (ws' := [(mh, .inr (9, G9 ma mcode mtoday moffs mmany msumW msumA msumR msumWW msumWA msumAA msumWR msumAR mupper mlower mrates mtaped mlaid mat_85 2 mat_0 mtkNumber mwaits mlisted mdealtMany)), ((ma 32), .inl (E 2, 120, .inl mf32))]) [0, 1] (by decide) rfl
                      exact W.vret hx hb hr (fun t ht hW => ⟨⟨(mat_85, (2 : Int32), mat_0, mtkNumber), rfl, ⟨(by have h0 := t_2; (try dsimp only); omega), (by (try dsimp only); have hl2 := t_2; have hl1 := t_1; have c0 := i_clamp0 (x := mat) (by omega); have c1 := i_clamp0 (x := mtaped) (by omega); have c2 := i_clamp0 (x := mat_0) (by omega); have c3 := i_clamp0 (x := mat_85) (by omega); have he9 : (mat_85 : Int32).toInt = (teE mf32 (mtaped).toNatClampNeg (mat_0).toNatClampNeg : Nat) := (by rw [← v2_85]; first | (rw [skp_z (by omega)]; omega) | (rw [skp_no (by omega)]; omega)); exact TKA_l (by omega) hts9 (by omega) (by omega) (by rw [← ez_6]; omega) he9 (wd_eq (n5 := L5_85) (L := L3_85) (by omega) (fun h9 => by rw [show teE mf32 (mtaped).toNatClampNeg (mat_0).toNatClampNeg - (mat_0).toNatClampNeg = (L5_85).toNatClampNeg by have c9 := i_clamp0 (x := L5_85) (by omega); omega]; exact v3_85 h9) (Or.inl ⟨by omega, by omega⟩)))⟩, by rw [ht]; exact hP9, hD9⟩, hS.F ht⟩) hS.2.2 dX9_advance_179
            exact loop_11 121 0 mat_0 0 _ _ _ (by have h0 := t_0; (try dsimp only); omega) (by have h0 := t_0; (try dsimp only); omega) (by have h0 := t_0; (try dsimp only); omega) (by have c0 := i_clamp0 (x := mat_0) (by omega); have c1 := i_clamp0 (x := mtaped) (by omega); exact (teE_l (f := mf32) (n := (mtaped).toNatClampNeg) (s := (mat_0).toNatClampNeg) (by omega) (by rw [← ez_6]; omega)).symm) (fun _ => by rw [clamp_0]; rfl) (fun k hk => absurd hk (by have h0 := t_0; omega)) hP hD hS (lv_sub hl [0, 1, 2, 3, 4] rfl)
          ·
            refine W_top (y := .int 0) (by rw [hr_7]) ?_
            refine lv_if_eq (tgt := 180) hx hb dX9_advance_77 (by decide) (fun c_39 => ?_) (fun c_39 => absurd (by decide) c_39)
            refine lv_iload_n hx hb dX9_advance_180 rfl (lv_at hl 0 rfl) ?_
            refine callRS (rest := []) (As := [.int z_6]) hx hb hml hown htb hK (g_X9_isDigit l D E z_6 ) ok_X9_isDigit k_1366 k_1367 k_9 k_1368 ⟨(Nat.le_of_ble_eq_true rfl), (Nat.le_of_ble_eq_true rfl)⟩ ⟨(Nat.le_of_ble_eq_true rfl), (Nat.le_of_ble_eq_true rfl)⟩ hl.1 (Nat.le_of_ble_eq_true rfl) rfl rfl dX9_advance_181 (hP.sub (ws' := ([] : va_W)) [] rfl) (fun r_40 hw_41 => ?_)
            rcases hw_41 with ⟨hr_40, hw_41⟩ | ⟨hr_40, hw_41⟩
            ·
              refine W_top (y := .int 1) (by rw [hr_40]) ?_
              refine lv_if_eq (tgt := 287) hx hb dX9_advance_184 (by decide) (fun c_43 => absurd c_43 (by decide)) (fun c_43 => ?_)
              refine lv_iconst (v := 0) hx hb dX9_advance_187 (by decide) ?_
              refine lv_istore_n (lv' := [(3, .int 0), (2, .int z_6), (0, .ref mh), (1, .int p0)]) hx hb dX9_advance_188 rfl hl (by decide) rfl (fun ls hl => ?_)
              refine lv_aload_n hx hb dX9_advance_189 rfl (lv_at hl 2 rfl) ?_
              refine lv_iconst (v := 0) hx hb dX9_advance_190 (by decide) ?_
              refine va_put (D := D) (ci := 9) (v := .int 0) (ty := .int) (C := RX9) (T := TX9) (N := 68) hx hb htb iX9 tyX9 tyX9_ok nmX9 hown hK.1 hP hD hS 0 rfl rfl 42 (by decide) (htb _ k_1000) (fun _ h9 => h9) rfl (by decide +kernel) rfl rfl (Nat.le_of_ble_eq_true rfl) dX9_advance_191 (fun H locs hP hD hS => ?_)
              have hP : va_P D vwCl [(mh, .inr (9, G9 ma mcode mtoday moffs mmany msumW msumA msumR msumWW msumWA msumAA msumWR msumAR mupper mlower mrates mtaped mlaid mat_0 mtk mat_0 0 mwaits mlisted mdealtMany)), ((ma 32), .inl (E 2, 120, .inl mf32))] H := hP
              have hD := toW hP hD rfl
              have loop_44 : ∀ (N_46 : Nat) (L3_194 : Int32) (mat_194 : Int32) (mtkNumber_194 : Int32) (H : Heap) (locs : List Loc) (ls : Array Slot), mtaped.toInt - mat_194.toInt < (N_46 : Int) → (mat_0.toInt ≤ mat_194.toInt ∧ mat_194.toInt ≤ mtaped.toInt ∧ mat_0.toInt < mtaped.toInt ∧ mat.toInt ≤ mat_0.toInt ∧ (mat_0.toInt + 1 ≤ mat_194.toInt ∨ (48 ≤ (mf32 (mat_194).toNatClampNeg).toInt ∧ (mf32 (mat_194).toNatClampNeg).toInt ≤ 57))) → (0 ≤ L3_194.toInt ∧ L3_194.toInt ≤ mat_194.toInt ∧ L3_194.toInt = mat_194.toInt - mat_0.toInt) → (skp 48 57 mf32 ((mtaped).toNatClampNeg - (mat_194).toNatClampNeg) (mat_194).toNatClampNeg = teE mf32 (mtaped).toNatClampNeg (mat_0).toNatClampNeg) → (L3_194.toInt ≤ 5 → mtkNumber_194 = numV mf32 (mat_0).toNatClampNeg (L3_194).toNatClampNeg) → va_P D vwCl [(mh, .inr (9, G9 ma mcode mtoday moffs mmany msumW msumA msumR msumWW msumWA msumAA msumWR msumAR mupper mlower mrates mtaped mlaid mat_194 mtk mat_0 mtkNumber_194 mwaits mlisted mdealtMany)), ((ma 32), .inl (E 2, 120, .inl mf32))] H → va_D A [(mh, .inr (9, G9 ma mcode mtoday moffs mmany msumW msumA msumR msumWW msumWA msumAA msumWR msumAR mupper mlower mrates mtaped mlaid mat_194 mtk mat_0 mtkNumber_194 mwaits mlisted mdealtMany)), ((ma 32), .inl (E 2, 120, .inl mf32))] → va_S A s.heap H locs → lv_has ls 6 [(3, .int L3_194), (2, .int z_6), (0, .ref mh), (1, .int p0)] → W p l e (headSpec (wl yX9_advance cX9_advance 6 none) (RM 1 0 0)).room s m [Value.ref mh, .int p0].toArray below meth c H locs 0 0 (MQ below (va_Qv (fun (u : (Int32) × (Int32) × (Int32) × (Int32)) => (mat.toInt ≤ u.2.2.1.toInt ∧ u.2.2.1.toInt ≤ u.1.toInt ∧ u.1.toInt ≤ mtaped.toInt ∧ (u.2.1.toInt = 0 ∨ u.2.2.1.toInt + 1 ≤ u.1.toInt) ∧ 0 ≤ u.2.1.toInt ∧ u.2.1.toInt ≤ 123) ∧ (TKA mf32 (mtaped).toNatClampNeg p0.toInt (mat).toNatClampNeg u.1 u.2.2.1 u.2.1 u.2.2.2)) (mu_B D A (fun (u : (Int32) × (Int32) × (Int32) × (Int32)) => [(mh, .inr (9, G9 ma mcode mtoday moffs mmany msumW msumA msumR msumWW msumWA msumAA msumWR msumAR mupper mlower mrates mtaped mlaid u.1 u.2.1 u.2.2.1 u.2.2.2 mwaits mlisted mdealtMany)), ((ma 32), .inl (E 2, 120, .inl mf32))])) A) [Value.ref mh, .int p0].toArray s 0 0 A) (F0 m 194 ls []) := by
                intro N_46
                induction N_46 with
                | zero => intro L3_194 mat_194 mtkNumber_194 H locs ls hm v0_194 v1_194 v2_194 v3_194 _ _ _ _; exfalso; omega
                | succ N_46 ih_45 =>
                  intro L3_194 mat_194 mtkNumber_194 H locs ls hm v0_194 v1_194 v2_194 v3_194 hP hD hS hl
                  have lo_L3_194 := i_lo L3_194; have hi_L3_194 := i_hi L3_194
                  have lo_mat_194 := i_lo mat_194; have hi_mat_194 := i_hi mat_194
                  have lo_mtkNumber_194 := i_lo mtkNumber_194; have hi_mtkNumber_194 := i_hi mtkNumber_194
                  refine lv_aload_n hx hb dX9_advance_194 rfl (lv_at hl 2 rfl) ?_
                  refine va_get (D := D) (ci := 9) (v := .int mat_194) (C := RX9) (T := TX9) (N := 68) hx hb htb iX9 hown hK.1 hP 0 rfl rfl 39 (by decide) (htb _ k_997) (fun _ h9 => h9) rfl dX9_advance_195 ?_
                  refine lv_aload_n hx hb dX9_advance_198 rfl (lv_at hl 2 rfl) ?_
                  refine va_get (D := D) (ci := 9) (v := .int mtaped) (C := RX9) (T := TX9) (N := 68) hx hb htb iX9 hown hK.1 hP 0 rfl rfl 33 (by decide) (htb _ k_991) (fun _ h9 => h9) rfl dX9_advance_199 ?_
                  refine lv_icmp_ge (tgt := 272) hx hb dX9_advance_202 (by decide) (fun c_47 => ?_) (fun c_47 => ?_)
                  ·
                    have ic_47 : mtaped.toInt ≤ mat_194.toInt := by first | exact (g_le rfl rfl).mp c_47 | (have h := mt (g_lt rfl rfl).mpr c_47; omega)
                    clear c_47
                    refine lv_aload_n hx hb dX9_advance_272 rfl (lv_at hl 2 rfl) ?_
                    refine lv_iload_n hx hb dX9_advance_273 rfl (lv_at hl 0 rfl) ?_
                    refine lv_iconst (v := 5) hx hb dX9_advance_274 (by decide) ?_
                    refine lv_icmp_le (tgt := 282) hx hb dX9_advance_275 (by decide) (fun c_48 => ?_) (fun c_48 => ?_)
                    ·
                      have ic_48 : L3_194.toInt ≤ 5 := by first | exact (g_le rfl t_5).mp c_48 | (have h := mt (g_lt t_5 rfl).mpr c_48; omega)
                      clear c_48
                      refine lv_iconst (v := 1) hx hb dX9_advance_282 (by decide) ?_
                      refine va_put (D := D) (ci := 9) (v := .int 1) (ty := .int) (C := RX9) (T := TX9) (N := 68) hx hb htb iX9 tyX9 tyX9_ok nmX9 hown hK.1 hP hD hS 0 rfl rfl 40 (by decide) (htb _ k_998) (fun _ h9 => h9) rfl (by decide +kernel) rfl rfl (Nat.le_of_ble_eq_true rfl) dX9_advance_283 (fun H locs hP hD hS => ?_)
                      have hP : va_P D vwCl [(mh, .inr (9, G9 ma mcode mtoday moffs mmany msumW msumA msumR msumWW msumWA msumAA msumWR msumAR mupper mlower mrates mtaped mlaid mat_194 1 mat_0 mtkNumber_194 mwaits mlisted mdealtMany)), ((ma 32), .inl (E 2, 120, .inl mf32))] H := hP
                      have hD := toW hP hD rfl
                      have hP9 := hP.sub (ws' := [(mh, .inr (9, G9 ma mcode mtoday moffs mmany msumW msumA msumR msumWW msumWA msumAA msumWR msumAR mupper mlower mrates mtaped mlaid mat_194 1 mat_0 mtkNumber_194 mwaits mlisted mdealtMany)), ((ma 32), .inl (E 2, 120, .inl mf32))]) [0, 1] rfl
                      have hD9 := hD.sub (ws' := [(mh, .inr (9, G9 ma mcode mtoday moffs mmany msumW msumA msumR msumWW msumWA msumAA msumWR msumAR mupper mlower mrates mtaped mlaid mat_194 1 mat_0 mtkNumber_194 mwaits mlisted mdealtMany)), ((ma 32), .inl (E 2, 120, .inl mf32))]) [0, 1] (by decide) rfl
                      exact W.vret hx hb hr (fun t ht hW => ⟨⟨(mat_194, (1 : Int32), mat_0, mtkNumber_194), rfl, ⟨(by have h0 := t_1; (try dsimp only); omega), (by (try dsimp only); have hl2 := t_2; have hl1 := t_1; have c0 := i_clamp0 (x := mat) (by omega); have c1 := i_clamp0 (x := mtaped) (by omega); have c2 := i_clamp0 (x := mat_0) (by omega); have c3 := i_clamp0 (x := mat_194) (by omega); have he9 : (mat_194 : Int32).toInt = (teE mf32 (mtaped).toNatClampNeg (mat_0).toNatClampNeg : Nat) := (by rw [← v2_194]; first | (rw [skp_z (by omega)]; omega) | (rw [skp_no (by omega)]; omega)); exact TKA_d (by omega) hts9 (by omega) (by omega) (by rw [← ez_6]; omega) he9 (Or.inr ⟨by omega, by omega, by rw [show ((mat_194 : Int32).toInt - (mat_0 : Int32).toInt).toNat = (L3_194).toNatClampNeg by have c9 := i_clamp0 (x := L3_194) (by omega); omega]; exact v3_194 (by omega)⟩))⟩, by rw [ht]; exact hP9, hD9⟩, hS.F ht⟩) hS.2.2 dX9_advance_286
                    ·
                      have ic_48 : 5 < L3_194.toInt := by first | exact (g_lt t_5 rfl).mp c_48 | (have h := mt (g_le rfl t_5).mpr c_48; omega)
                      clear c_48
                      refine lv_iconst (v := 2) hx hb dX9_advance_278 (by decide) ?_
                      refine lv_goto (tgt := 283) hx hb dX9_advance_279 (by decide) ?_
                      refine va_put (D := D) (ci := 9) (v := .int 2) (ty := .int) (C := RX9) (T := TX9) (N := 68) hx hb htb iX9 tyX9 tyX9_ok nmX9 hown hK.1 hP hD hS 0 rfl rfl 40 (by decide) (htb _ k_998) (fun _ h9 => h9) rfl (by decide +kernel) rfl rfl (Nat.le_of_ble_eq_true rfl) dX9_advance_283 (fun H locs hP hD hS => ?_)
                      have hP : va_P D vwCl [(mh, .inr (9, G9 ma mcode mtoday moffs mmany msumW msumA msumR msumWW msumWA msumAA msumWR msumAR mupper mlower mrates mtaped mlaid mat_194 2 mat_0 mtkNumber_194 mwaits mlisted mdealtMany)), ((ma 32), .inl (E 2, 120, .inl mf32))] H := hP
                      have hD := toW hP hD rfl
                      have hP9 := hP.sub (ws' := [(mh, .inr (9, G9 ma mcode mtoday moffs mmany msumW msumA msumR msumWW msumWA msumAA msumWR msumAR mupper mlower mrates mtaped mlaid mat_194 2 mat_0 mtkNumber_194 mwaits mlisted mdealtMany)), ((ma 32), .inl (E 2, 120, .inl mf32))]) [0, 1] rfl
                      have hD9 := hD.sub (ws' := [(mh, .inr (9, G9 ma mcode mtoday moffs mmany msumW msumA msumR msumWW msumWA msumAA msumWR msumAR mupper mlower mrates mtaped mlaid mat_194 2 mat_0 mtkNumber_194 mwaits mlisted mdealtMany)), ((ma 32), .inl (E 2, 120, .inl mf32))]) [0, 1] (by decide) rfl
                      exact W.vret hx hb hr (fun t ht hW => ⟨⟨(mat_194, (2 : Int32), mat_0, mtkNumber_194), rfl, ⟨(by have h0 := t_2; (try dsimp only); omega), (by (try dsimp only); have hl2 := t_2; have hl1 := t_1; have c0 := i_clamp0 (x := mat) (by omega); have c1 := i_clamp0 (x := mtaped) (by omega); have c2 := i_clamp0 (x := mat_0) (by omega); have c3 := i_clamp0 (x := mat_194) (by omega); have he9 : (mat_194 : Int32).toInt = (teE mf32 (mtaped).toNatClampNeg (mat_0).toNatClampNeg : Nat) := (by rw [← v2_194]; first | (rw [skp_z (by omega)]; omega) | (rw [skp_no (by omega)]; omega)); exact TKA_d (by omega) hts9 (by omega) (by omega) (by rw [← ez_6]; omega) he9 (Or.inl ⟨by omega, by omega⟩))⟩, by rw [ht]; exact hP9, hD9⟩, hS.F ht⟩) hS.2.2 dX9_advance_286
                  ·
                    have ic_47 : mat_194.toInt < mtaped.toInt := by first | exact (g_lt rfl rfl).mp c_47 | (have h := mt (g_le rfl rfl).mpr c_47; omega)
                    clear c_47
                    refine lv_aload_n hx hb dX9_advance_205 rfl (lv_at hl 2 rfl) ?_
                    refine va_get (D := D) (ci := 9) (v := .ref (ma 32)) (C := RX9) (T := TX9) (N := 68) hx hb htb iX9 hown hK.1 hP 0 rfl rfl 32 (by decide) (htb _ k_990) (fun _ h9 => h9) rfl dX9_advance_206 ?_
                    refine lv_aload_n hx hb dX9_advance_209 rfl (lv_at hl 2 rfl) ?_
                    refine va_get (D := D) (ci := 9) (v := .int mat_194) (C := RX9) (T := TX9) (N := 68) hx hb htb iX9 hown hK.1 hP 0 rfl rfl 39 (by decide) (htb _ k_997) (fun _ h9 => h9) rfl dX9_advance_210 ?_
                    refine va_bald hx hb hK.1 hP 1 2 rfl rfl (g_in rfl (by omega) (by omega)) dX9_advance_213 ?_
                    refine lv_topi (fun z_49 ez_49 => ?_)
                    have kz_49 := congrArg Int32.toInt ez_49
                    refine callRS (rest := []) (As := [.int z_49]) hx hb hml hown htb hK (g_X9_isDigit l D E z_49 ) ok_X9_isDigit k_1366 k_1367 k_9 k_1368 ⟨(Nat.le_of_ble_eq_true rfl), (Nat.le_of_ble_eq_true rfl)⟩ ⟨(Nat.le_of_ble_eq_true rfl), (Nat.le_of_ble_eq_true rfl)⟩ hl.1 (Nat.le_of_ble_eq_true rfl) rfl rfl dX9_advance_214 (hP.sub (ws' := ([] : va_W)) [] rfl) (fun r_50 hw_51 => ?_)
                    rcases hw_51 with ⟨hr_50, hw_51⟩ | ⟨hr_50, hw_51⟩
                    ·
                      refine W_top (y := .int 1) (by rw [hr_50]) ?_
                      refine lv_if_eq (tgt := 272) hx hb dX9_advance_217 (by decide) (fun c_53 => absurd c_53 (by decide)) (fun c_53 => ?_)
                      refine lv_aload_n hx hb dX9_advance_220 rfl (lv_at hl 2 rfl) ?_
                      refine lv_iload_n hx hb dX9_advance_221 rfl (lv_at hl 0 rfl) ?_
                      refine lv_iconst (v := 5) hx hb dX9_advance_222 (by decide) ?_
                      refine lv_icmp_ge (tgt := 249) hx hb dX9_advance_223 (by decide) (fun c_54 => ?_) (fun c_54 => ?_)
                      ·
                        have ic_54 : 5 ≤ L3_194.toInt := by first | exact (g_le t_5 rfl).mp c_54 | (have h := mt (g_lt rfl t_5).mpr c_54; omega)
                        clear c_54
                        refine lv_aload_n hx hb dX9_advance_249 rfl (lv_at hl 2 rfl) ?_
                        refine va_get (D := D) (ci := 9) (v := .int mtkNumber_194) (C := RX9) (T := TX9) (N := 68) hx hb htb iX9 hown hK.1 hP 0 rfl rfl 42 (by decide) (htb _ k_1000) (fun _ h9 => h9) rfl dX9_advance_250 ?_
                        refine va_put (D := D) (ci := 9) (v := .int mtkNumber_194) (ty := .int) (C := RX9) (T := TX9) (N := 68) hx hb htb iX9 tyX9 tyX9_ok nmX9 hown hK.1 hP hD hS 0 rfl rfl 42 (by decide) (htb _ k_1000) (fun _ h9 => h9) rfl (by decide +kernel) rfl rfl (Nat.le_of_ble_eq_true rfl) dX9_advance_253 (fun H locs hP hD hS => ?_)
                        have hP : va_P D vwCl [(mh, .inr (9, G9 ma mcode mtoday moffs mmany msumW msumA msumR msumWW msumWA msumAA msumWR msumAR mupper mlower mrates mtaped mlaid mat_194 mtk mat_0 mtkNumber_194 mwaits mlisted mdealtMany)), ((ma 32), .inl (E 2, 120, .inl mf32))] H := hP
                        have hD := toW hP hD rfl
                        refine lv_aload_n hx hb dX9_advance_256 rfl (lv_at hl 2 rfl) ?_
                        refine lv_dup hx hb dX9_advance_257 rfl ?_
                        refine va_get (D := D) (ci := 9) (v := .int mat_194) (C := RX9) (T := TX9) (N := 68) hx hb htb iX9 hown hK.1 hP 0 rfl rfl 39 (by decide) (htb _ k_997) (fun _ h9 => h9) rfl dX9_advance_258 ?_
                        refine lv_iconst (v := 1) hx hb dX9_advance_261 (by decide) ?_
                        refine lv_iadd hx hb dX9_advance_262 ?_
                        refine lv_topi (fun z_55 ez_55 => ?_)
                        have jz_55 : z_55.toInt = mat_194.toInt + 1 := by rw [ez_55]; exact g_add rfl t_1 (by omega) (by omega)
                        refine va_put (D := D) (ci := 9) (v := .int z_55) (ty := .int) (C := RX9) (T := TX9) (N := 68) hx hb htb iX9 tyX9 tyX9_ok nmX9 hown hK.1 hP hD hS 0 rfl rfl 39 (by decide) (htb _ k_997) (fun _ h9 => h9) rfl (by decide +kernel) rfl rfl (Nat.le_of_ble_eq_true rfl) dX9_advance_263 (fun H locs hP hD hS => ?_)
                        have hP : va_P D vwCl [(mh, .inr (9, G9 ma mcode mtoday moffs mmany msumW msumA msumR msumWW msumWA msumAA msumWR msumAR mupper mlower mrates mtaped mlaid z_55 mtk mat_0 mtkNumber_194 mwaits mlisted mdealtMany)), ((ma 32), .inl (E 2, 120, .inl mf32))] H := hP
                        have hD := toW hP hD rfl
                        obtain ⟨z_56, ez_56⟩ : ∃ y : Int32, y = L3_194 + 1 := ⟨_, rfl⟩
                        have jz_56 : z_56.toInt = L3_194.toInt + 1 := by rw [ez_56]; exact g_add rfl t_1 (by omega) (by omega)
                        refine lv_iinc (v := z_56) (lv' := [(3, .int z_56), (2, .int z_6), (0, .ref mh), (1, .int p0)]) hx hb dX9_advance_266 hl (k := 0) rfl (by rw [ez_56]; rfl) (by decide) rfl (fun ls hl => ?_)
                        refine lv_goto (tgt := 194) hx hb dX9_advance_269 (by decide) ?_
                        exact ih_45 z_56 z_55 mtkNumber_194 _ _ _ (by (try dsimp only); omega) (by (try dsimp only); omega) (by (try dsimp only); omega) (by rw [clampS (by omega) jz_55, ← skp_yes (lo := 48) (hi := 57) (f := mf32) (n := (mtaped).toNatClampNeg) (a := (mat_194).toNatClampNeg) (by have c0 := i_clamp0 (x := mat_194) (by omega); have c1 := i_clamp0 (x := mtaped) (by omega); omega) (by omega)]; exact v2_194) (fun h9 => absurd h9 (by omega)) hP hD hS (lv_sub hl [0, 1, 2, 3] rfl)
                      ·
                        have ic_54 : L3_194.toInt < 5 := by first | exact (g_lt rfl t_5).mp c_54 | (have h := mt (g_le t_5 rfl).mpr c_54; omega)
                        clear c_54
                        refine lv_bipush (v := 10) hx hb dX9_advance_226 (by decide) ?_
                        refine lv_aload_n hx hb dX9_advance_228 rfl (lv_at hl 2 rfl) ?_
                        refine va_get (D := D) (ci := 9) (v := .int mtkNumber_194) (C := RX9) (T := TX9) (N := 68) hx hb htb iX9 hown hK.1 hP 0 rfl rfl 42 (by decide) (htb _ k_1000) (fun _ h9 => h9) rfl dX9_advance_229 ?_
                        refine lv_imul hx hb dX9_advance_232 ?_
                        refine lv_topi (fun z_57 ez_57 => ?_)
                        refine lv_aload_n hx hb dX9_advance_233 rfl (lv_at hl 2 rfl) ?_
                        refine va_get (D := D) (ci := 9) (v := .ref (ma 32)) (C := RX9) (T := TX9) (N := 68) hx hb htb iX9 hown hK.1 hP 0 rfl rfl 32 (by decide) (htb _ k_990) (fun _ h9 => h9) rfl dX9_advance_234 ?_
                        refine lv_aload_n hx hb dX9_advance_237 rfl (lv_at hl 2 rfl) ?_
                        refine va_get (D := D) (ci := 9) (v := .int mat_194) (C := RX9) (T := TX9) (N := 68) hx hb htb iX9 hown hK.1 hP 0 rfl rfl 39 (by decide) (htb _ k_997) (fun _ h9 => h9) rfl dX9_advance_238 ?_
                        refine va_bald hx hb hK.1 hP 1 2 rfl rfl (g_in rfl (by omega) (by omega)) dX9_advance_241 ?_
                        refine lv_topi (fun z_58 ez_58 => ?_)
                        have kz_58 := congrArg Int32.toInt ez_58
                        refine lv_iadd hx hb dX9_advance_242 ?_
                        refine lv_topi (fun z_59 ez_59 => ?_)
                        refine lv_bipush (v := 48) hx hb dX9_advance_243 (by decide) ?_
                        refine lv_isub hx hb dX9_advance_245 ?_
                        refine lv_topi (fun z_60 ez_60 => ?_)
                        refine lv_goto (tgt := 253) hx hb dX9_advance_246 (by decide) ?_
                        refine va_put (D := D) (ci := 9) (v := .int z_60) (ty := .int) (C := RX9) (T := TX9) (N := 68) hx hb htb iX9 tyX9 tyX9_ok nmX9 hown hK.1 hP hD hS 0 rfl rfl 42 (by decide) (htb _ k_1000) (fun _ h9 => h9) rfl (by decide +kernel) rfl rfl (Nat.le_of_ble_eq_true rfl) dX9_advance_253 (fun H locs hP hD hS => ?_)
                        have hP : va_P D vwCl [(mh, .inr (9, G9 ma mcode mtoday moffs mmany msumW msumA msumR msumWW msumWA msumAA msumWR msumAR mupper mlower mrates mtaped mlaid mat_194 mtk mat_0 z_60 mwaits mlisted mdealtMany)), ((ma 32), .inl (E 2, 120, .inl mf32))] H := hP
                        have hD := toW hP hD rfl
                        refine lv_aload_n hx hb dX9_advance_256 rfl (lv_at hl 2 rfl) ?_
                        refine lv_dup hx hb dX9_advance_257 rfl ?_
                        refine va_get (D := D) (ci := 9) (v := .int mat_194) (C := RX9) (T := TX9) (N := 68) hx hb htb iX9 hown hK.1 hP 0 rfl rfl 39 (by decide) (htb _ k_997) (fun _ h9 => h9) rfl dX9_advance_258 ?_
                        refine lv_iconst (v := 1) hx hb dX9_advance_261 (by decide) ?_
                        refine lv_iadd hx hb dX9_advance_262 ?_
                        refine lv_topi (fun z_61 ez_61 => ?_)
                        have jz_61 : z_61.toInt = mat_194.toInt + 1 := by rw [ez_61]; exact g_add rfl t_1 (by omega) (by omega)
                        refine va_put (D := D) (ci := 9) (v := .int z_61) (ty := .int) (C := RX9) (T := TX9) (N := 68) hx hb htb iX9 tyX9 tyX9_ok nmX9 hown hK.1 hP hD hS 0 rfl rfl 39 (by decide) (htb _ k_997) (fun _ h9 => h9) rfl (by decide +kernel) rfl rfl (Nat.le_of_ble_eq_true rfl) dX9_advance_263 (fun H locs hP hD hS => ?_)
                        have hP : va_P D vwCl [(mh, .inr (9, G9 ma mcode mtoday moffs mmany msumW msumA msumR msumWW msumWA msumAA msumWR msumAR mupper mlower mrates mtaped mlaid z_61 mtk mat_0 z_60 mwaits mlisted mdealtMany)), ((ma 32), .inl (E 2, 120, .inl mf32))] H := hP
                        have hD := toW hP hD rfl
                        obtain ⟨z_62, ez_62⟩ : ∃ y : Int32, y = L3_194 + 1 := ⟨_, rfl⟩
                        have jz_62 : z_62.toInt = L3_194.toInt + 1 := by rw [ez_62]; exact g_add rfl t_1 (by omega) (by omega)
                        refine lv_iinc (v := z_62) (lv' := [(3, .int z_62), (2, .int z_6), (0, .ref mh), (1, .int p0)]) hx hb dX9_advance_266 hl (k := 0) rfl (by rw [ez_62]; rfl) (by decide) rfl (fun ls hl => ?_)
                        refine lv_goto (tgt := 194) hx hb dX9_advance_269 (by decide) ?_
                        exact ih_45 z_62 z_61 z_60 _ _ _ (by (try dsimp only); omega) (by (try dsimp only); omega) (by (try dsimp only); omega) (by rw [clampS (by omega) jz_61, ← skp_yes (lo := 48) (hi := 57) (f := mf32) (n := (mtaped).toNatClampNeg) (a := (mat_194).toNatClampNeg) (by have c0 := i_clamp0 (x := mat_194) (by omega); have c1 := i_clamp0 (x := mtaped) (by omega); omega) (by omega)]; exact v2_194) (fun h9 => by rw [clampS (by omega) jz_62]; exact num_fin (b := z_58) (v3_194 (by omega)) (by rw [show (mat_0).toNatClampNeg + (L3_194).toNatClampNeg = (mat_194).toNatClampNeg by have c0 := i_clamp0 (x := mat_194) (by omega); have c1 := i_clamp0 (x := mat_0) (by omega); have c2 := i_clamp0 (x := L3_194) (by omega); omega]; exact ez_58.symm) (by first | (subst_vars; rfl) | subst_vars)) hP hD hS (lv_sub hl [0, 1, 2, 3] rfl)
                    ·
                      refine W_top (y := .int 0) (by rw [hr_50]) ?_
                      refine lv_if_eq (tgt := 272) hx hb dX9_advance_217 (by decide) (fun c_63 => ?_) (fun c_63 => absurd (by decide) c_63)
                      refine lv_aload_n hx hb dX9_advance_272 rfl (lv_at hl 2 rfl) ?_
                      refine lv_iload_n hx hb dX9_advance_273 rfl (lv_at hl 0 rfl) ?_
                      refine lv_iconst (v := 5) hx hb dX9_advance_274 (by decide) ?_
                      refine lv_icmp_le (tgt := 282) hx hb dX9_advance_275 (by decide) (fun c_64 => ?_) (fun c_64 => ?_)
                      ·
                        have ic_64 : L3_194.toInt ≤ 5 := by first | exact (g_le rfl t_5).mp c_64 | (have h := mt (g_lt t_5 rfl).mpr c_64; omega)
                        clear c_64
                        refine lv_iconst (v := 1) hx hb dX9_advance_282 (by decide) ?_
                        refine va_put (D := D) (ci := 9) (v := .int 1) (ty := .int) (C := RX9) (T := TX9) (N := 68) hx hb htb iX9 tyX9 tyX9_ok nmX9 hown hK.1 hP hD hS 0 rfl rfl 40 (by decide) (htb _ k_998) (fun _ h9 => h9) rfl (by decide +kernel) rfl rfl (Nat.le_of_ble_eq_true rfl) dX9_advance_283 (fun H locs hP hD hS => ?_)
                        have hP : va_P D vwCl [(mh, .inr (9, G9 ma mcode mtoday moffs mmany msumW msumA msumR msumWW msumWA msumAA msumWR msumAR mupper mlower mrates mtaped mlaid mat_194 1 mat_0 mtkNumber_194 mwaits mlisted mdealtMany)), ((ma 32), .inl (E 2, 120, .inl mf32))] H := hP
                        have hD := toW hP hD rfl
                        have hP9 := hP.sub (ws' := [(mh, .inr (9, G9 ma mcode mtoday moffs mmany msumW msumA msumR msumWW msumWA msumAA msumWR msumAR mupper mlower mrates mtaped mlaid mat_194 1 mat_0 mtkNumber_194 mwaits mlisted mdealtMany)), ((ma 32), .inl (E 2, 120, .inl mf32))]) [0, 1] rfl
                        have hD9 := hD.sub (ws' := [(mh, .inr (9, G9 ma mcode mtoday moffs mmany msumW msumA msumR msumWW msumWA msumAA msumWR msumAR mupper mlower mrates mtaped mlaid mat_194 1 mat_0 mtkNumber_194 mwaits mlisted mdealtMany)), ((ma 32), .inl (E 2, 120, .inl mf32))]) [0, 1] (by decide) rfl
                        exact W.vret hx hb hr (fun t ht hW => ⟨⟨(mat_194, (1 : Int32), mat_0, mtkNumber_194), rfl, ⟨(by have h0 := t_1; (try dsimp only); omega), (by (try dsimp only); have hl2 := t_2; have hl1 := t_1; have c0 := i_clamp0 (x := mat) (by omega); have c1 := i_clamp0 (x := mtaped) (by omega); have c2 := i_clamp0 (x := mat_0) (by omega); have c3 := i_clamp0 (x := mat_194) (by omega); have he9 : (mat_194 : Int32).toInt = (teE mf32 (mtaped).toNatClampNeg (mat_0).toNatClampNeg : Nat) := (by rw [← v2_194]; first | (rw [skp_z (by omega)]; omega) | (rw [skp_no (by omega)]; omega)); exact TKA_d (by omega) hts9 (by omega) (by omega) (by rw [← ez_6]; omega) he9 (Or.inr ⟨by omega, by omega, by rw [show ((mat_194 : Int32).toInt - (mat_0 : Int32).toInt).toNat = (L3_194).toNatClampNeg by have c9 := i_clamp0 (x := L3_194) (by omega); omega]; exact v3_194 (by omega)⟩))⟩, by rw [ht]; exact hP9, hD9⟩, hS.F ht⟩) hS.2.2 dX9_advance_286
                      ·
                        have ic_64 : 5 < L3_194.toInt := by first | exact (g_lt t_5 rfl).mp c_64 | (have h := mt (g_le rfl t_5).mpr c_64; omega)
                        clear c_64
                        refine lv_iconst (v := 2) hx hb dX9_advance_278 (by decide) ?_
                        refine lv_goto (tgt := 283) hx hb dX9_advance_279 (by decide) ?_
                        refine va_put (D := D) (ci := 9) (v := .int 2) (ty := .int) (C := RX9) (T := TX9) (N := 68) hx hb htb iX9 tyX9 tyX9_ok nmX9 hown hK.1 hP hD hS 0 rfl rfl 40 (by decide) (htb _ k_998) (fun _ h9 => h9) rfl (by decide +kernel) rfl rfl (Nat.le_of_ble_eq_true rfl) dX9_advance_283 (fun H locs hP hD hS => ?_)
                        have hP : va_P D vwCl [(mh, .inr (9, G9 ma mcode mtoday moffs mmany msumW msumA msumR msumWW msumWA msumAA msumWR msumAR mupper mlower mrates mtaped mlaid mat_194 2 mat_0 mtkNumber_194 mwaits mlisted mdealtMany)), ((ma 32), .inl (E 2, 120, .inl mf32))] H := hP
                        have hD := toW hP hD rfl
                        have hP9 := hP.sub (ws' := [(mh, .inr (9, G9 ma mcode mtoday moffs mmany msumW msumA msumR msumWW msumWA msumAA msumWR msumAR mupper mlower mrates mtaped mlaid mat_194 2 mat_0 mtkNumber_194 mwaits mlisted mdealtMany)), ((ma 32), .inl (E 2, 120, .inl mf32))]) [0, 1] rfl
                        have hD9 := hD.sub (ws' := [(mh, .inr (9, G9 ma mcode mtoday moffs mmany msumW msumA msumR msumWW msumWA msumAA msumWR msumAR mupper mlower mrates mtaped mlaid mat_194 2 mat_0 mtkNumber_194 mwaits mlisted mdealtMany)), ((ma 32), .inl (E 2, 120, .inl mf32))]) [0, 1] (by decide) rfl
                        exact W.vret hx hb hr (fun t ht hW => ⟨⟨(mat_194, (2 : Int32), mat_0, mtkNumber_194), rfl, ⟨(by have h0 := t_2; (try dsimp only); omega), (by (try dsimp only); have hl2 := t_2; have hl1 := t_1; have c0 := i_clamp0 (x := mat) (by omega); have c1 := i_clamp0 (x := mtaped) (by omega); have c2 := i_clamp0 (x := mat_0) (by omega); have c3 := i_clamp0 (x := mat_194) (by omega); have he9 : (mat_194 : Int32).toInt = (teE mf32 (mtaped).toNatClampNeg (mat_0).toNatClampNeg : Nat) := (by rw [← v2_194]; first | (rw [skp_z (by omega)]; omega) | (rw [skp_no (by omega)]; omega)); exact TKA_d (by omega) hts9 (by omega) (by omega) (by rw [← ez_6]; omega) he9 (Or.inl ⟨by omega, by omega⟩))⟩, by rw [ht]; exact hP9, hD9⟩, hS.F ht⟩) hS.2.2 dX9_advance_286
              exact loop_44 121 0 mat_0 0 _ _ _ (by have h0 := t_0; (try dsimp only); omega) (by have h0 := t_0; (try dsimp only); omega) (by have h0 := t_0; (try dsimp only); omega) (by have c0 := i_clamp0 (x := mat_0) (by omega); have c1 := i_clamp0 (x := mtaped) (by omega); exact (teE_d (f := mf32) (n := (mtaped).toNatClampNeg) (s := (mat_0).toNatClampNeg) (by omega) (by rw [← ez_6]; omega)).symm) (fun _ => by rw [clamp_0]; rfl) hP hD hS (lv_sub hl [0, 1, 2, 3] rfl)
            ·
              refine W_top (y := .int 0) (by rw [hr_40]) ?_
              refine lv_if_eq (tgt := 287) hx hb dX9_advance_184 (by decide) (fun c_65 => ?_) (fun c_65 => absurd (by decide) c_65)
              refine lv_aload_n hx hb dX9_advance_287 rfl (lv_at hl 1 rfl) ?_
              refine lv_dup hx hb dX9_advance_288 rfl ?_
              refine va_get (D := D) (ci := 9) (v := .int mat_0) (C := RX9) (T := TX9) (N := 68) hx hb htb iX9 hown hK.1 hP 0 rfl rfl 39 (by decide) (htb _ k_997) (fun _ h9 => h9) rfl dX9_advance_289 ?_
              refine lv_iconst (v := 1) hx hb dX9_advance_292 (by decide) ?_
              refine lv_iadd hx hb dX9_advance_293 ?_
              refine lv_topi (fun z_66 ez_66 => ?_)
              have jz_66 : z_66.toInt = mat_0.toInt + 1 := by rw [ez_66]; exact g_add rfl t_1 (by omega) (by omega)
              refine va_put (D := D) (ci := 9) (v := .int z_66) (ty := .int) (C := RX9) (T := TX9) (N := 68) hx hb htb iX9 tyX9 tyX9_ok nmX9 hown hK.1 hP hD hS 0 rfl rfl 39 (by decide) (htb _ k_997) (fun _ h9 => h9) rfl (by decide +kernel) rfl rfl (Nat.le_of_ble_eq_true rfl) dX9_advance_294 (fun H locs hP hD hS => ?_)
              have hP : va_P D vwCl [(mh, .inr (9, G9 ma mcode mtoday moffs mmany msumW msumA msumR msumWW msumWA msumAA msumWR msumAR mupper mlower mrates mtaped mlaid z_66 mtk mat_0 mtkNumber mwaits mlisted mdealtMany)), ((ma 32), .inl (E 2, 120, .inl mf32))] H := hP
              have hD := toW hP hD rfl
              refine lv_aload_n hx hb dX9_advance_297 rfl (lv_at hl 1 rfl) ?_
              refine lv_iload_n hx hb dX9_advance_298 rfl (lv_at hl 0 rfl) ?_
              refine callRS (rest := [.ref mh]) (As := [.int z_6]) hx hb hml hown htb hK (g_X9_signOf l D E z_6 ) ok_X9_signOf k_1369 k_1370 k_9 k_1371 ⟨(Nat.le_of_ble_eq_true rfl), (Nat.le_of_ble_eq_true rfl)⟩ ⟨(Nat.le_of_ble_eq_true rfl), (Nat.le_of_ble_eq_true rfl)⟩ hl.1 (Nat.le_of_ble_eq_true rfl) rfl rfl dX9_advance_299 (hP.sub (ws' := ([] : va_W)) [] rfl) (fun r_67 hw_68 => ?_)
              refine va_put (D := D) (ci := 9) (v := .int r_67) (ty := .int) (C := RX9) (T := TX9) (N := 68) hx hb htb iX9 tyX9 tyX9_ok nmX9 hown hK.1 hP hD hS 0 rfl rfl 40 (by decide) (htb _ k_998) (fun _ h9 => h9) rfl (by decide +kernel) rfl rfl (Nat.le_of_ble_eq_true rfl) dX9_advance_302 (fun H locs hP hD hS => ?_)
              have hP : va_P D vwCl [(mh, .inr (9, G9 ma mcode mtoday moffs mmany msumW msumA msumR msumWW msumWA msumAA msumWR msumAR mupper mlower mrates mtaped mlaid z_66 r_67 mat_0 mtkNumber mwaits mlisted mdealtMany)), ((ma 32), .inl (E 2, 120, .inl mf32))] H := hP
              have hD := toW hP hD rfl
              have hP9 := hP.sub (ws' := [(mh, .inr (9, G9 ma mcode mtoday moffs mmany msumW msumA msumR msumWW msumWA msumAA msumWR msumAR mupper mlower mrates mtaped mlaid z_66 r_67 mat_0 mtkNumber mwaits mlisted mdealtMany)), ((ma 32), .inl (E 2, 120, .inl mf32))]) [0, 1] rfl
              have hD9 := hD.sub (ws' := [(mh, .inr (9, G9 ma mcode mtoday moffs mmany msumW msumA msumR msumWW msumWA msumAA msumWR msumAR mupper mlower mrates mtaped mlaid z_66 r_67 mat_0 mtkNumber mwaits mlisted mdealtMany)), ((ma 32), .inl (E 2, 120, .inl mf32))]) [0, 1] (by decide) rfl
              exact W.vret hx hb hr (fun t ht hW => ⟨⟨(z_66, r_67, mat_0, mtkNumber), rfl, ⟨(by (try dsimp only); omega), (by (try dsimp only); have hl2 := t_2; have hl1 := t_1; have c0 := i_clamp0 (x := mat) (by omega); have c1 := i_clamp0 (x := mtaped) (by omega); have c2 := i_clamp0 (x := mat_0) (by omega); have c3 := i_clamp0 (x := z_66) (by omega); exact TKA_s (by omega) hts9 (by omega) (by omega) (by rw [← ez_6]; omega) (by rw [← ez_6]; omega) (by omega) (by rw [← ez_6]; exact hw_68.1))⟩, by rw [ht]; exact hP9, hD9⟩, hS.F ht⟩) hS.2.2 dX9_advance_305
        ·
          have ic_5 : mat_0.toInt = mtaped.toInt := (g_eq rfl rfl).mp c_5
          clear c_5
          refine lv_aload_n hx hb dX9_advance_57 rfl (lv_at hl 0 rfl) ?_
          refine lv_iconst (v := 0) hx hb dX9_advance_58 (by decide) ?_
          refine va_put (D := D) (ci := 9) (v := .int 0) (ty := .int) (C := RX9) (T := TX9) (N := 68) hx hb htb iX9 tyX9 tyX9_ok nmX9 hown hK.1 hP hD hS 0 rfl rfl 40 (by decide) (htb _ k_998) (fun _ h9 => h9) rfl (by decide +kernel) rfl rfl (Nat.le_of_ble_eq_true rfl) dX9_advance_59 (fun H locs hP hD hS => ?_)
          have hP : va_P D vwCl [(mh, .inr (9, G9 ma mcode mtoday moffs mmany msumW msumA msumR msumWW msumWA msumAA msumWR msumAR mupper mlower mrates mtaped mlaid mat_0 0 mat_0 mtkNumber mwaits mlisted mdealtMany)), ((ma 32), .inl (E 2, 120, .inl mf32))] H := hP
          have hD := toW hP hD rfl
          have hP9 := hP.sub (ws' := [(mh, .inr (9, G9 ma mcode mtoday moffs mmany msumW msumA msumR msumWW msumWA msumAA msumWR msumAR mupper mlower mrates mtaped mlaid mat_0 0 mat_0 mtkNumber mwaits mlisted mdealtMany)), ((ma 32), .inl (E 2, 120, .inl mf32))]) [0, 1] rfl
          have hD9 := hD.sub (ws' := [(mh, .inr (9, G9 ma mcode mtoday moffs mmany msumW msumA msumR msumWW msumWA msumAA msumWR msumAR mupper mlower mrates mtaped mlaid mat_0 0 mat_0 mtkNumber mwaits mlisted mdealtMany)), ((ma 32), .inl (E 2, 120, .inl mf32))]) [0, 1] (by decide) rfl
          exact W.vret hx hb hr (fun t ht hW => ⟨⟨(mat_0, (0 : Int32), mat_0, mtkNumber), rfl, ⟨(by have h0 := t_0; (try dsimp only); omega), (by (try dsimp only); have c0 := i_clamp0 (x := mat) (by omega); have c1 := i_clamp0 (x := mtaped) (by omega); have c2 := i_clamp0 (x := mat_0) (by omega); exact TKA_end (by omega) hts9 (by omega) t_0)⟩, by rw [ht]; exact hP9, hD9⟩, hS.F ht⟩) hS.2.2 dX9_advance_62
      ·
        have ic_4 : mat_0.toInt < mtaped.toInt := by first | exact (g_lt rfl rfl).mp c_4 | (have h := mt (g_le rfl rfl).mpr c_4; omega)
        clear c_4
        refine lv_aload_n hx hb dX9_advance_11 rfl (lv_at hl 0 rfl) ?_
        refine va_get (D := D) (ci := 9) (v := .ref (ma 32)) (C := RX9) (T := TX9) (N := 68) hx hb htb iX9 hown hK.1 hP 0 rfl rfl 32 (by decide) (htb _ k_990) (fun _ h9 => h9) rfl dX9_advance_12 ?_
        refine lv_aload_n hx hb dX9_advance_15 rfl (lv_at hl 0 rfl) ?_
        refine va_get (D := D) (ci := 9) (v := .int mat_0) (C := RX9) (T := TX9) (N := 68) hx hb htb iX9 hown hK.1 hP 0 rfl rfl 39 (by decide) (htb _ k_997) (fun _ h9 => h9) rfl dX9_advance_16 ?_
        refine va_bald hx hb hK.1 hP 1 2 rfl rfl (g_in rfl (by omega) (by omega)) dX9_advance_19 ?_
        refine lv_topi (fun z_70 ez_70 => ?_)
        have kz_70 := congrArg Int32.toInt ez_70
        refine lv_bipush (v := 32) hx hb dX9_advance_20 (by decide) ?_
        refine lv_icmp_ne (tgt := 38) hx hb dX9_advance_22 (by decide) (fun c_71 => ?_) (fun c_71 => ?_)
        ·
          have ic_71 : z_70.toInt ≠ 32 := mt (g_eq rfl t_32).mpr c_71
          clear c_71
          refine lv_aload_n hx hb dX9_advance_38 rfl (lv_at hl 0 rfl) ?_
          refine lv_aload_n hx hb dX9_advance_39 rfl (lv_at hl 0 rfl) ?_
          refine va_get (D := D) (ci := 9) (v := .int mat_0) (C := RX9) (T := TX9) (N := 68) hx hb htb iX9 hown hK.1 hP 0 rfl rfl 39 (by decide) (htb _ k_997) (fun _ h9 => h9) rfl dX9_advance_40 ?_
          refine va_put (D := D) (ci := 9) (v := .int mat_0) (ty := .int) (C := RX9) (T := TX9) (N := 68) hx hb htb iX9 tyX9 tyX9_ok nmX9 hown hK.1 hP hD hS 0 rfl rfl 41 (by decide) (htb _ k_999) (fun _ h9 => h9) rfl (by decide +kernel) rfl rfl (Nat.le_of_ble_eq_true rfl) dX9_advance_43 (fun H locs hP hD hS => ?_)
          have hP : va_P D vwCl [(mh, .inr (9, G9 ma mcode mtoday moffs mmany msumW msumA msumR msumWW msumWA msumAA msumWR msumAR mupper mlower mrates mtaped mlaid mat_0 mtk mat_0 mtkNumber mwaits mlisted mdealtMany)), ((ma 32), .inl (E 2, 120, .inl mf32))] H := hP
          have hD := toW hP hD rfl
          have hts9 : tkS mf32 (mtaped).toNatClampNeg (mat).toNatClampNeg = (mat_0).toNatClampNeg := by have c0 := i_clamp0 (x := mat_0) (by omega); have c1 := i_clamp0 (x := mtaped) (by omega); rw [← v1_0]; first | exact skp_z (by omega) | exact skp_no (by omega)
          refine lv_aload_n hx hb dX9_advance_46 rfl (lv_at hl 0 rfl) ?_
          refine va_get (D := D) (ci := 9) (v := .int mat_0) (C := RX9) (T := TX9) (N := 68) hx hb htb iX9 hown hK.1 hP 0 rfl rfl 39 (by decide) (htb _ k_997) (fun _ h9 => h9) rfl dX9_advance_47 ?_
          refine lv_aload_n hx hb dX9_advance_50 rfl (lv_at hl 0 rfl) ?_
          refine va_get (D := D) (ci := 9) (v := .int mtaped) (C := RX9) (T := TX9) (N := 68) hx hb htb iX9 hown hK.1 hP 0 rfl rfl 33 (by decide) (htb _ k_991) (fun _ h9 => h9) rfl dX9_advance_51 ?_
          refine lv_icmp_ne (tgt := 63) hx hb dX9_advance_54 (by decide) (fun c_72 => ?_) (fun c_72 => ?_)
          ·
            have ic_72 : mat_0.toInt ≠ mtaped.toInt := mt (g_eq rfl rfl).mpr c_72
            clear c_72
            refine lv_aload_n hx hb dX9_advance_63 rfl (lv_at hl 0 rfl) ?_
            refine va_get (D := D) (ci := 9) (v := .ref (ma 32)) (C := RX9) (T := TX9) (N := 68) hx hb htb iX9 hown hK.1 hP 0 rfl rfl 32 (by decide) (htb _ k_990) (fun _ h9 => h9) rfl dX9_advance_64 ?_
            refine lv_aload_n hx hb dX9_advance_67 rfl (lv_at hl 0 rfl) ?_
            refine va_get (D := D) (ci := 9) (v := .int mat_0) (C := RX9) (T := TX9) (N := 68) hx hb htb iX9 hown hK.1 hP 0 rfl rfl 39 (by decide) (htb _ k_997) (fun _ h9 => h9) rfl dX9_advance_68 ?_
            refine va_bald hx hb hK.1 hP 1 2 rfl rfl (g_in rfl (by omega) (by omega)) dX9_advance_71 ?_
            refine lv_topi (fun z_73 ez_73 => ?_)
            have kz_73 := congrArg Int32.toInt ez_73
            refine lv_istore_n (lv' := [(2, .int z_73), (0, .ref mh), (1, .int p0)]) hx hb dX9_advance_72 rfl hl (by decide) rfl (fun ls hl => ?_)
            refine lv_iload_n hx hb dX9_advance_73 rfl (lv_at hl 0 rfl) ?_
            refine callRS (rest := []) (As := [.int z_73]) hx hb hml hown htb hK (g_X9_isLetter l D E z_73 ) ok_X9_isLetter k_1342 k_1343 k_9 k_1344 ⟨(Nat.le_of_ble_eq_true rfl), (Nat.le_of_ble_eq_true rfl)⟩ ⟨(Nat.le_of_ble_eq_true rfl), (Nat.le_of_ble_eq_true rfl)⟩ hl.1 (Nat.le_of_ble_eq_true rfl) rfl rfl dX9_advance_74 (hP.sub (ws' := ([] : va_W)) [] rfl) (fun r_74 hw_75 => ?_)
            rcases hw_75 with ⟨hr_74, hw_75⟩ | ⟨hr_74, hw_75⟩
            ·
              refine W_top (y := .int 1) (by rw [hr_74]) ?_
              refine lv_if_eq (tgt := 180) hx hb dX9_advance_77 (by decide) (fun c_77 => absurd c_77 (by decide)) (fun c_77 => ?_)
              refine lv_lconst (v := 0) hx hb dX9_advance_80 (by decide) ?_
              refine lv_lstore_n (lv' := [(3, .long 0), (2, .int z_73), (0, .ref mh), (1, .int p0)]) hx hb dX9_advance_81 rfl hl (by decide) rfl (fun ls hl => ?_)
              refine lv_iconst (v := 0) hx hb dX9_advance_82 (by decide) ?_
              refine lv_istore (lv' := [(5, .int 0), (3, .long 0), (2, .int z_73), (0, .ref mh), (1, .int p0)]) hx hb dX9_advance_83 hl (by decide) rfl (fun ls hl => ?_)
              have loop_78 : ∀ (N_80 : Nat) (L5_85 : Int32) (mat_85 : Int32) (L3_85 : Int64) (H : Heap) (locs : List Loc) (ls : Array Slot), mtaped.toInt - mat_85.toInt < (N_80 : Int) → (mat_0.toInt ≤ mat_85.toInt ∧ mat_85.toInt ≤ mtaped.toInt ∧ mat_0.toInt < mtaped.toInt ∧ mat.toInt ≤ mat_0.toInt ∧ (mat_0.toInt + 1 ≤ mat_85.toInt ∨ (97 ≤ (mf32 (mat_85).toNatClampNeg).toInt ∧ (mf32 (mat_85).toNatClampNeg).toInt ≤ 122))) → (0 ≤ L5_85.toInt ∧ L5_85.toInt ≤ mat_85.toInt ∧ L5_85.toInt = mat_85.toInt - mat_0.toInt) → (skp 97 122 mf32 ((mtaped).toNatClampNeg - (mat_85).toNatClampNeg) (mat_85).toNatClampNeg = teE mf32 (mtaped).toNatClampNeg (mat_0).toNatClampNeg) → (L5_85.toInt ≤ 7 → (L3_85 : Int64).toInt = encW mf32 (mat_0).toNatClampNeg (L5_85).toNatClampNeg) → (∀ k : Nat, (k : Int) < L5_85.toInt → 97 ≤ (mf32 ((mat_0).toNatClampNeg + k)).toInt ∧ (mf32 ((mat_0).toNatClampNeg + k)).toInt ≤ 122) → va_P D vwCl [(mh, .inr (9, G9 ma mcode mtoday moffs mmany msumW msumA msumR msumWW msumWA msumAA msumWR msumAR mupper mlower mrates mtaped mlaid mat_85 mtk mat_0 mtkNumber mwaits mlisted mdealtMany)), ((ma 32), .inl (E 2, 120, .inl mf32))] H → va_D A [(mh, .inr (9, G9 ma mcode mtoday moffs mmany msumW msumA msumR msumWW msumWA msumAA msumWR msumAR mupper mlower mrates mtaped mlaid mat_85 mtk mat_0 mtkNumber mwaits mlisted mdealtMany)), ((ma 32), .inl (E 2, 120, .inl mf32))] → va_S A s.heap H locs → lv_has ls 6 [(5, .int L5_85), (3, .long L3_85), (2, .int z_73), (0, .ref mh), (1, .int p0)] → W p l e (headSpec (wl yX9_advance cX9_advance 6 none) (RM 1 0 0)).room s m [Value.ref mh, .int p0].toArray below meth c H locs 0 0 (MQ below (va_Qv (fun (u : (Int32) × (Int32) × (Int32) × (Int32)) => (mat.toInt ≤ u.2.2.1.toInt ∧ u.2.2.1.toInt ≤ u.1.toInt ∧ u.1.toInt ≤ mtaped.toInt ∧ (u.2.1.toInt = 0 ∨ u.2.2.1.toInt + 1 ≤ u.1.toInt) ∧ 0 ≤ u.2.1.toInt ∧ u.2.1.toInt ≤ 123) ∧ (TKA mf32 (mtaped).toNatClampNeg p0.toInt (mat).toNatClampNeg u.1 u.2.2.1 u.2.1 u.2.2.2)) (mu_B D A (fun (u : (Int32) × (Int32) × (Int32) × (Int32)) => [(mh, .inr (9, G9 ma mcode mtoday moffs mmany msumW msumA msumR msumWW msumWA msumAA msumWR msumAR mupper mlower mrates mtaped mlaid u.1 u.2.1 u.2.2.1 u.2.2.2 mwaits mlisted mdealtMany)), ((ma 32), .inl (E 2, 120, .inl mf32))])) A) [Value.ref mh, .int p0].toArray s 0 0 A) (F0 m 85 ls []) := by
                intro N_80
                induction N_80 with
                | zero => intro L5_85 mat_85 L3_85 H locs ls hm v0_85 v1_85 v2_85 v3_85 v4_85 _ _ _ _; exfalso; omega
                | succ N_80 ih_79 =>
                  intro L5_85 mat_85 L3_85 H locs ls hm v0_85 v1_85 v2_85 v3_85 v4_85 hP hD hS hl
                  have lo_L5_85 := i_lo L5_85; have hi_L5_85 := i_hi L5_85
                  have lo_mat_85 := i_lo mat_85; have hi_mat_85 := i_hi mat_85
                  refine lv_aload_n hx hb dX9_advance_85 rfl (lv_at hl 3 rfl) ?_
                  refine va_get (D := D) (ci := 9) (v := .int mat_85) (C := RX9) (T := TX9) (N := 68) hx hb htb iX9 hown hK.1 hP 0 rfl rfl 39 (by decide) (htb _ k_997) (fun _ h9 => h9) rfl dX9_advance_86 ?_
                  refine lv_aload_n hx hb dX9_advance_89 rfl (lv_at hl 3 rfl) ?_
                  refine va_get (D := D) (ci := 9) (v := .int mtaped) (C := RX9) (T := TX9) (N := 68) hx hb htb iX9 hown hK.1 hP 0 rfl rfl 33 (by decide) (htb _ k_991) (fun _ h9 => h9) rfl dX9_advance_90 ?_
                  refine lv_icmp_ge (tgt := 159) hx hb dX9_advance_93 (by decide) (fun c_81 => ?_) (fun c_81 => ?_)
                  ·
                    have ic_81 : mtaped.toInt ≤ mat_85.toInt := by first | exact (g_le rfl rfl).mp c_81 | (have h := mt (g_lt rfl rfl).mpr c_81; omega)
                    clear c_81
                    refine lv_aload_n hx hb dX9_advance_159 rfl (lv_at hl 3 rfl) ?_
                    refine lv_iload hx hb dX9_advance_160 (lv_at hl 0 rfl) ?_
                    refine lv_bipush (v := 6) hx hb dX9_advance_162 (by decide) ?_
                    refine lv_icmp_le (tgt := 171) hx hb dX9_advance_164 (by decide) (fun c_82 => ?_) (fun c_82 => ?_)
                    ·
                      have ic_82 : L5_85.toInt ≤ 6 := by first | exact (g_le rfl t_6).mp c_82 | (have h := mt (g_lt t_6 rfl).mpr c_82; omega)
                      clear c_82
                      refine lv_lload_n hx hb dX9_advance_171 rfl (lv_at hl 1 rfl) ?_
                      refine lv_iload_n hx hb dX9_advance_172 rfl (lv_at hl 4 rfl) ?_
                      refine callRS (rest := [.ref mh]) (As := [.long L3_85, .int p0]) hx hb hml hown htb hK (g_X9_wordOf l D E L3_85 p0 ) ok_X9_wordOf k_1347 k_1348 k_9 k_1349 ⟨(Nat.le_of_ble_eq_true rfl), (Nat.le_of_ble_eq_true rfl)⟩ ⟨(Nat.le_of_ble_eq_true rfl), (Nat.le_of_ble_eq_true rfl)⟩ hl.1 (Nat.le_of_ble_eq_true rfl) rfl rfl dX9_advance_173 (hP.sub (ws' := ([] : va_W)) [] rfl) (fun r_83 hw_84 => ?_)
                      refine va_put (D := D) (ci := 9) (v := .int r_83) (ty := .int) (C := RX9) (T := TX9) (N := 68) hx hb htb iX9 tyX9 tyX9_ok nmX9 hown hK.1 hP hD hS 0 rfl rfl 40 (by decide) (htb _ k_998) (fun _ h9 => h9) rfl (by decide +kernel) rfl rfl (Nat.le_of_ble_eq_true rfl) dX9_advance_176 (fun H locs hP hD hS => ?_)
                      have hP : va_P D vwCl [(mh, .inr (9, G9 ma mcode mtoday moffs mmany msumW msumA msumR msumWW msumWA msumAA msumWR msumAR mupper mlower mrates mtaped mlaid mat_85 r_83 mat_0 mtkNumber mwaits mlisted mdealtMany)), ((ma 32), .inl (E 2, 120, .inl mf32))] H := hP
                      have hD := toW hP hD rfl
                      have hP9 := hP.sub (ws' := [(mh, .inr (9, G9 ma mcode mtoday moffs mmany msumW msumA msumR msumWW msumWA msumAA msumWR msumAR mupper mlower mrates mtaped mlaid mat_85 r_83 mat_0 mtkNumber mwaits mlisted mdealtMany)), ((ma 32), .inl (E 2, 120, .inl mf32))]) [0, 1] rfl
                      have hD9 := hD.sub (ws' := [(mh, .inr (9, G9 ma mcode mtoday moffs mmany msumW msumA msumR msumWW msumWA msumAA msumWR msumAR mupper mlower mrates mtaped mlaid mat_85 r_83 mat_0 mtkNumber mwaits mlisted mdealtMany)), ((ma 32), .inl (E 2, 120, .inl mf32))]) [0, 1] (by decide) rfl
                      exact W.vret hx hb hr (fun t ht hW => ⟨⟨(mat_85, r_83, mat_0, mtkNumber), rfl, ⟨(by (try dsimp only); omega), (by (try dsimp only); have hl2 := t_2; have hl1 := t_1; have c0 := i_clamp0 (x := mat) (by omega); have c1 := i_clamp0 (x := mtaped) (by omega); have c2 := i_clamp0 (x := mat_0) (by omega); have c3 := i_clamp0 (x := mat_85) (by omega); have he9 : (mat_85 : Int32).toInt = (teE mf32 (mtaped).toNatClampNeg (mat_0).toNatClampNeg : Nat) := (by rw [← v2_85]; first | (rw [skp_z (by omega)]; omega) | (rw [skp_no (by omega)]; omega)); exact TKA_l (by omega) hts9 (by omega) (by omega) (by rw [← ez_73]; omega) he9 (wd_eq (n5 := L5_85) (L := L3_85) (by omega) (fun h9 => by rw [show teE mf32 (mtaped).toNatClampNeg (mat_0).toNatClampNeg - (mat_0).toNatClampNeg = (L5_85).toNatClampNeg by have c9 := i_clamp0 (x := L5_85) (by omega); omega]; exact v3_85 h9) (Or.inr ⟨by omega, hw_84.1⟩)))⟩, by rw [ht]; exact hP9, hD9⟩, hS.F ht⟩) hS.2.2 dX9_advance_179
                    ·
                      have ic_82 : 6 < L5_85.toInt := by first | exact (g_lt t_6 rfl).mp c_82 | (have h := mt (g_le rfl t_6).mpr c_82; omega)
                      clear c_82
                      refine lv_iconst (v := 2) hx hb dX9_advance_167 (by decide) ?_
                      refine lv_goto (tgt := 176) hx hb dX9_advance_168 (by decide) ?_
                      refine va_put (D := D) (ci := 9) (v := .int 2) (ty := .int) (C := RX9) (T := TX9) (N := 68) hx hb htb iX9 tyX9 tyX9_ok nmX9 hown hK.1 hP hD hS 0 rfl rfl 40 (by decide) (htb _ k_998) (fun _ h9 => h9) rfl (by decide +kernel) rfl rfl (Nat.le_of_ble_eq_true rfl) dX9_advance_176 (fun H locs hP hD hS => ?_)
                      have hP : va_P D vwCl [(mh, .inr (9, G9 ma mcode mtoday moffs mmany msumW msumA msumR msumWW msumWA msumAA msumWR msumAR mupper mlower mrates mtaped mlaid mat_85 2 mat_0 mtkNumber mwaits mlisted mdealtMany)), ((ma 32), .inl (E 2, 120, .inl mf32))] H := hP
                      have hD := toW hP hD rfl
                      have hP9 := hP.sub (ws' := [(mh, .inr (9, G9 ma mcode mtoday moffs mmany msumW msumA msumR msumWW msumWA msumAA msumWR msumAR mupper mlower mrates mtaped mlaid mat_85 2 mat_0 mtkNumber mwaits mlisted mdealtMany)), ((ma 32), .inl (E 2, 120, .inl mf32))]) [0, 1] rfl
                      have hD9 := hD.sub (ws' := [(mh, .inr (9, G9 ma mcode mtoday moffs mmany msumW msumA msumR msumWW msumWA msumAA msumWR msumAR mupper mlower mrates mtaped mlaid mat_85 2 mat_0 mtkNumber mwaits mlisted mdealtMany)), ((ma 32), .inl (E 2, 120, .inl mf32))]) [0, 1] (by decide) rfl
                      exact W.vret hx hb hr (fun t ht hW => ⟨⟨(mat_85, (2 : Int32), mat_0, mtkNumber), rfl, ⟨(by have h0 := t_2; (try dsimp only); omega), (by (try dsimp only); have hl2 := t_2; have hl1 := t_1; have c0 := i_clamp0 (x := mat) (by omega); have c1 := i_clamp0 (x := mtaped) (by omega); have c2 := i_clamp0 (x := mat_0) (by omega); have c3 := i_clamp0 (x := mat_85) (by omega); have he9 : (mat_85 : Int32).toInt = (teE mf32 (mtaped).toNatClampNeg (mat_0).toNatClampNeg : Nat) := (by rw [← v2_85]; first | (rw [skp_z (by omega)]; omega) | (rw [skp_no (by omega)]; omega)); exact TKA_l (by omega) hts9 (by omega) (by omega) (by rw [← ez_73]; omega) he9 (wd_eq (n5 := L5_85) (L := L3_85) (by omega) (fun h9 => by rw [show teE mf32 (mtaped).toNatClampNeg (mat_0).toNatClampNeg - (mat_0).toNatClampNeg = (L5_85).toNatClampNeg by have c9 := i_clamp0 (x := L5_85) (by omega); omega]; exact v3_85 h9) (Or.inl ⟨by omega, by omega⟩)))⟩, by rw [ht]; exact hP9, hD9⟩, hS.F ht⟩) hS.2.2 dX9_advance_179
                  ·
                    have ic_81 : mat_85.toInt < mtaped.toInt := by first | exact (g_lt rfl rfl).mp c_81 | (have h := mt (g_le rfl rfl).mpr c_81; omega)
                    clear c_81
                    refine lv_aload_n hx hb dX9_advance_96 rfl (lv_at hl 3 rfl) ?_
                    refine va_get (D := D) (ci := 9) (v := .ref (ma 32)) (C := RX9) (T := TX9) (N := 68) hx hb htb iX9 hown hK.1 hP 0 rfl rfl 32 (by decide) (htb _ k_990) (fun _ h9 => h9) rfl dX9_advance_97 ?_
                    refine lv_aload_n hx hb dX9_advance_100 rfl (lv_at hl 3 rfl) ?_
                    refine va_get (D := D) (ci := 9) (v := .int mat_85) (C := RX9) (T := TX9) (N := 68) hx hb htb iX9 hown hK.1 hP 0 rfl rfl 39 (by decide) (htb _ k_997) (fun _ h9 => h9) rfl dX9_advance_101 ?_
                    refine va_bald hx hb hK.1 hP 1 2 rfl rfl (g_in rfl (by omega) (by omega)) dX9_advance_104 ?_
                    refine lv_topi (fun z_86 ez_86 => ?_)
                    have kz_86 := congrArg Int32.toInt ez_86
                    refine callRS (rest := []) (As := [.int z_86]) hx hb hml hown htb hK (g_X9_isLetter l D E z_86 ) ok_X9_isLetter k_1342 k_1343 k_9 k_1344 ⟨(Nat.le_of_ble_eq_true rfl), (Nat.le_of_ble_eq_true rfl)⟩ ⟨(Nat.le_of_ble_eq_true rfl), (Nat.le_of_ble_eq_true rfl)⟩ hl.1 (Nat.le_of_ble_eq_true rfl) rfl rfl dX9_advance_105 (hP.sub (ws' := ([] : va_W)) [] rfl) (fun r_87 hw_88 => ?_)
                    rcases hw_88 with ⟨hr_87, hw_88⟩ | ⟨hr_87, hw_88⟩
                    ·
                      refine W_top (y := .int 1) (by rw [hr_87]) ?_
                      refine lv_if_eq (tgt := 159) hx hb dX9_advance_108 (by decide) (fun c_90 => absurd c_90 (by decide)) (fun c_90 => ?_)
                      refine lv_iload hx hb dX9_advance_111 (lv_at hl 0 rfl) ?_
                      refine lv_bipush (v := 7) hx hb dX9_advance_113 (by decide) ?_
                      refine lv_icmp_ge (tgt := 141) hx hb dX9_advance_115 (by decide) (fun c_91 => ?_) (fun c_91 => ?_)
                      ·
                        have ic_91 : 7 ≤ L5_85.toInt := by first | exact (g_le t_7 rfl).mp c_91 | (have h := mt (g_lt rfl t_7).mpr c_91; omega)
                        clear c_91
                        refine lv_lload_n hx hb dX9_advance_141 rfl (lv_at hl 1 rfl) ?_
                        refine lv_lstore_n (lv' := [(3, .long L3_85), (5, .int L5_85), (2, .int z_73), (0, .ref mh), (1, .int p0)]) hx hb dX9_advance_142 rfl hl (by decide) rfl (fun ls hl => ?_)
                        refine lv_aload_n hx hb dX9_advance_143 rfl (lv_at hl 3 rfl) ?_
                        refine lv_dup hx hb dX9_advance_144 rfl ?_
                        refine va_get (D := D) (ci := 9) (v := .int mat_85) (C := RX9) (T := TX9) (N := 68) hx hb htb iX9 hown hK.1 hP 0 rfl rfl 39 (by decide) (htb _ k_997) (fun _ h9 => h9) rfl dX9_advance_145 ?_
                        refine lv_iconst (v := 1) hx hb dX9_advance_148 (by decide) ?_
                        refine lv_iadd hx hb dX9_advance_149 ?_
                        refine lv_topi (fun z_92 ez_92 => ?_)
                        have jz_92 : z_92.toInt = mat_85.toInt + 1 := by rw [ez_92]; exact g_add rfl t_1 (by omega) (by omega)
                        refine va_put (D := D) (ci := 9) (v := .int z_92) (ty := .int) (C := RX9) (T := TX9) (N := 68) hx hb htb iX9 tyX9 tyX9_ok nmX9 hown hK.1 hP hD hS 0 rfl rfl 39 (by decide) (htb _ k_997) (fun _ h9 => h9) rfl (by decide +kernel) rfl rfl (Nat.le_of_ble_eq_true rfl) dX9_advance_150 (fun H locs hP hD hS => ?_)
                        have hP : va_P D vwCl [(mh, .inr (9, G9 ma mcode mtoday moffs mmany msumW msumA msumR msumWW msumWA msumAA msumWR msumAR mupper mlower mrates mtaped mlaid z_92 mtk mat_0 mtkNumber mwaits mlisted mdealtMany)), ((ma 32), .inl (E 2, 120, .inl mf32))] H := hP
                        have hD := toW hP hD rfl
                        obtain ⟨z_93, ez_93⟩ : ∃ y : Int32, y = L5_85 + 1 := ⟨_, rfl⟩
                        have jz_93 : z_93.toInt = L5_85.toInt + 1 := by rw [ez_93]; exact g_add rfl t_1 (by omega) (by omega)
                        refine lv_iinc (v := z_93) (lv' := [(5, .int z_93), (3, .long L3_85), (2, .int z_73), (0, .ref mh), (1, .int p0)]) hx hb dX9_advance_153 hl (k := 1) rfl (by rw [ez_93]; rfl) (by decide) rfl (fun ls hl => ?_)
                        refine lv_goto (tgt := 85) hx hb dX9_advance_156 (by decide) ?_
                        exact ih_79 z_93 z_92 L3_85 _ _ _ (by (try dsimp only); omega) (by (try dsimp only); omega) (by (try dsimp only); omega) (by rw [clampS (by omega) jz_92, ← skp_yes (lo := 97) (hi := 122) (f := mf32) (n := (mtaped).toNatClampNeg) (a := (mat_85).toNatClampNeg) (by have c0 := i_clamp0 (x := mat_85) (by omega); have c1 := i_clamp0 (x := mtaped) (by omega); omega) (by omega)]; exact v2_85) (fun h9 => absurd h9 (by omega)) (fill_q (P := fun k => 97 ≤ (mf32 ((mat_0).toNatClampNeg + k)).toInt ∧ (mf32 ((mat_0).toNatClampNeg + k)).toInt ≤ 122) (by omega) jz_93 v4_85 (by (try dsimp only); rw [show (mat_0).toNatClampNeg + (L5_85).toNatClampNeg = (mat_85).toNatClampNeg by have c0 := i_clamp0 (x := mat_85) (by omega); have c1 := i_clamp0 (x := mat_0) (by omega); have c2 := i_clamp0 (x := L5_85) (by omega); omega, ← ez_86]; omega)) hP hD hS (lv_sub hl [0, 1, 2, 3, 4] rfl)
                      ·
                        have ic_91 : L5_85.toInt < 7 := by first | exact (g_lt rfl t_7).mp c_91 | (have h := mt (g_le t_7 rfl).mpr c_91; omega)
                        clear c_91
                        refine lv_lload_n hx hb dX9_advance_118 rfl (lv_at hl 1 rfl) ?_
                        refine lv_ldc2 hx hb hown (htb _ k_1345) dX9_advance_119 ?_
                        refine lv_lmul hx hb dX9_advance_122 ?_
                        refine lv_topl (fun z_94 ez_94 => ?_)
                        refine lv_aload_n hx hb dX9_advance_123 rfl (lv_at hl 3 rfl) ?_
                        refine va_get (D := D) (ci := 9) (v := .ref (ma 32)) (C := RX9) (T := TX9) (N := 68) hx hb htb iX9 hown hK.1 hP 0 rfl rfl 32 (by decide) (htb _ k_990) (fun _ h9 => h9) rfl dX9_advance_124 ?_
                        refine lv_aload_n hx hb dX9_advance_127 rfl (lv_at hl 3 rfl) ?_
                        refine va_get (D := D) (ci := 9) (v := .int mat_85) (C := RX9) (T := TX9) (N := 68) hx hb htb iX9 hown hK.1 hP 0 rfl rfl 39 (by decide) (htb _ k_997) (fun _ h9 => h9) rfl dX9_advance_128 ?_
                        refine va_bald hx hb hK.1 hP 1 2 rfl rfl (g_in rfl (by omega) (by omega)) dX9_advance_131 ?_
                        refine lv_topi (fun z_95 ez_95 => ?_)
                        have kz_95 := congrArg Int32.toInt ez_95
                        obtain ⟨z_96, ez_96⟩ : ∃ y : Int64, (z_95 : Int32).toInt64 = y := ⟨_, rfl⟩
                        refine lv_i2l hx hb dX9_advance_132 ez_96 ?_
                        refine lv_ladd hx hb dX9_advance_133 ?_
                        refine lv_topl (fun z_97 ez_97 => ?_)
                        refine lv_ldc2 hx hb hown (htb _ k_1346) dX9_advance_134 ?_
                        refine lv_lsub hx hb dX9_advance_137 ?_
                        refine lv_topl (fun z_98 ez_98 => ?_)
                        refine lv_goto (tgt := 142) hx hb dX9_advance_138 (by decide) ?_
                        refine lv_lstore_n (lv' := [(3, .long z_98), (5, .int L5_85), (2, .int z_73), (0, .ref mh), (1, .int p0)]) hx hb dX9_advance_142 rfl hl (by decide) rfl (fun ls hl => ?_)
                        refine lv_aload_n hx hb dX9_advance_143 rfl (lv_at hl 3 rfl) ?_
                        refine lv_dup hx hb dX9_advance_144 rfl ?_
                        refine va_get (D := D) (ci := 9) (v := .int mat_85) (C := RX9) (T := TX9) (N := 68) hx hb htb iX9 hown hK.1 hP 0 rfl rfl 39 (by decide) (htb _ k_997) (fun _ h9 => h9) rfl dX9_advance_145 ?_
                        refine lv_iconst (v := 1) hx hb dX9_advance_148 (by decide) ?_
                        refine lv_iadd hx hb dX9_advance_149 ?_
                        refine lv_topi (fun z_99 ez_99 => ?_)
                        have jz_99 : z_99.toInt = mat_85.toInt + 1 := by rw [ez_99]; exact g_add rfl t_1 (by omega) (by omega)
                        refine va_put (D := D) (ci := 9) (v := .int z_99) (ty := .int) (C := RX9) (T := TX9) (N := 68) hx hb htb iX9 tyX9 tyX9_ok nmX9 hown hK.1 hP hD hS 0 rfl rfl 39 (by decide) (htb _ k_997) (fun _ h9 => h9) rfl (by decide +kernel) rfl rfl (Nat.le_of_ble_eq_true rfl) dX9_advance_150 (fun H locs hP hD hS => ?_)
                        have hP : va_P D vwCl [(mh, .inr (9, G9 ma mcode mtoday moffs mmany msumW msumA msumR msumWW msumWA msumAA msumWR msumAR mupper mlower mrates mtaped mlaid z_99 mtk mat_0 mtkNumber mwaits mlisted mdealtMany)), ((ma 32), .inl (E 2, 120, .inl mf32))] H := hP
                        have hD := toW hP hD rfl
                        obtain ⟨z_100, ez_100⟩ : ∃ y : Int32, y = L5_85 + 1 := ⟨_, rfl⟩
                        have jz_100 : z_100.toInt = L5_85.toInt + 1 := by rw [ez_100]; exact g_add rfl t_1 (by omega) (by omega)
                        refine lv_iinc (v := z_100) (lv' := [(5, .int z_100), (3, .long z_98), (2, .int z_73), (0, .ref mh), (1, .int p0)]) hx hb dX9_advance_153 hl (k := 1) rfl (by rw [ez_100]; rfl) (by decide) rfl (fun ls hl => ?_)
                        refine lv_goto (tgt := 85) hx hb dX9_advance_156 (by decide) ?_
                        exact ih_79 z_100 z_99 z_98 _ _ _ (by (try dsimp only); omega) (by (try dsimp only); omega) (by (try dsimp only); omega) (by rw [clampS (by omega) jz_99, ← skp_yes (lo := 97) (hi := 122) (f := mf32) (n := (mtaped).toNatClampNeg) (a := (mat_85).toNatClampNeg) (by have c0 := i_clamp0 (x := mat_85) (by omega); have c1 := i_clamp0 (x := mtaped) (by omega); omega) (by omega)]; exact v2_85) (fun h9 => by rw [clampS (by omega) jz_100]; exact enc_fin (b := z_95) (by omega) (by omega) (v3_85 (by omega)) v4_85 (by rw [show (mat_0).toNatClampNeg + (L5_85).toNatClampNeg = (mat_85).toNatClampNeg by have c0 := i_clamp0 (x := mat_85) (by omega); have c1 := i_clamp0 (x := mat_0) (by omega); have c2 := i_clamp0 (x := L5_85) (by omega); omega]; exact ez_95.symm) (by omega) (by first | (subst_vars; rfl) | subst_vars)) (fill_q (P := fun k => 97 ≤ (mf32 ((mat_0).toNatClampNeg + k)).toInt ∧ (mf32 ((mat_0).toNatClampNeg + k)).toInt ≤ 122) (by omega) jz_100 v4_85 (by (try dsimp only); rw [show (mat_0).toNatClampNeg + (L5_85).toNatClampNeg = (mat_85).toNatClampNeg by have c0 := i_clamp0 (x := mat_85) (by omega); have c1 := i_clamp0 (x := mat_0) (by omega); have c2 := i_clamp0 (x := L5_85) (by omega); omega, ← ez_95]; omega)) hP hD hS (lv_sub hl [0, 1, 2, 3, 4] rfl)
                    ·
                      refine W_top (y := .int 0) (by rw [hr_87]) ?_
                      refine lv_if_eq (tgt := 159) hx hb dX9_advance_108 (by decide) (fun c_101 => ?_) (fun c_101 => absurd (by decide) c_101)
                      refine lv_aload_n hx hb dX9_advance_159 rfl (lv_at hl 3 rfl) ?_
                      refine lv_iload hx hb dX9_advance_160 (lv_at hl 0 rfl) ?_
                      refine lv_bipush (v := 6) hx hb dX9_advance_162 (by decide) ?_
                      refine lv_icmp_le (tgt := 171) hx hb dX9_advance_164 (by decide) (fun c_102 => ?_) (fun c_102 => ?_)
                      ·
                        have ic_102 : L5_85.toInt ≤ 6 := by first | exact (g_le rfl t_6).mp c_102 | (have h := mt (g_lt t_6 rfl).mpr c_102; omega)
                        clear c_102
                        refine lv_lload_n hx hb dX9_advance_171 rfl (lv_at hl 1 rfl) ?_
                        refine lv_iload_n hx hb dX9_advance_172 rfl (lv_at hl 4 rfl) ?_
                        refine callRS (rest := [.ref mh]) (As := [.long L3_85, .int p0]) hx hb hml hown htb hK (g_X9_wordOf l D E L3_85 p0 ) ok_X9_wordOf k_1347 k_1348 k_9 k_1349 ⟨(Nat.le_of_ble_eq_true rfl), (Nat.le_of_ble_eq_true rfl)⟩ ⟨(Nat.le_of_ble_eq_true rfl), (Nat.le_of_ble_eq_true rfl)⟩ hl.1 (Nat.le_of_ble_eq_true rfl) rfl rfl dX9_advance_173 (hP.sub (ws' := ([] : va_W)) [] rfl) (fun r_103 hw_104 => ?_)
                        refine va_put (D := D) (ci := 9) (v := .int r_103) (ty := .int) (C := RX9) (T := TX9) (N := 68) hx hb htb iX9 tyX9 tyX9_ok nmX9 hown hK.1 hP hD hS 0 rfl rfl 40 (by decide) (htb _ k_998) (fun _ h9 => h9) rfl (by decide +kernel) rfl rfl (Nat.le_of_ble_eq_true rfl) dX9_advance_176 (fun H locs hP hD hS => ?_)
                        have hP : va_P D vwCl [(mh, .inr (9, G9 ma mcode mtoday moffs mmany msumW msumA msumR msumWW msumWA msumAA msumWR msumAR mupper mlower mrates mtaped mlaid mat_85 r_103 mat_0 mtkNumber mwaits mlisted mdealtMany)), ((ma 32), .inl (E 2, 120, .inl mf32))] H := hP
                        have hD := toW hP hD rfl
                        have hP9 := hP.sub (ws' := [(mh, .inr (9, G9 ma mcode mtoday moffs mmany msumW msumA msumR msumWW msumWA msumAA msumWR msumAR mupper mlower mrates mtaped mlaid mat_85 r_103 mat_0 mtkNumber mwaits mlisted mdealtMany)), ((ma 32), .inl (E 2, 120, .inl mf32))]) [0, 1] rfl
                        have hD9 := hD.sub (ws' := [(mh, .inr (9, G9 ma mcode mtoday moffs mmany msumW msumA msumR msumWW msumWA msumAA msumWR msumAR mupper mlower mrates mtaped mlaid mat_85 r_103 mat_0 mtkNumber mwaits mlisted mdealtMany)), ((ma 32), .inl (E 2, 120, .inl mf32))]) [0, 1] (by decide) rfl
                        exact W.vret hx hb hr (fun t ht hW => ⟨⟨(mat_85, r_103, mat_0, mtkNumber), rfl, ⟨(by (try dsimp only); omega), (by (try dsimp only); have hl2 := t_2; have hl1 := t_1; have c0 := i_clamp0 (x := mat) (by omega); have c1 := i_clamp0 (x := mtaped) (by omega); have c2 := i_clamp0 (x := mat_0) (by omega); have c3 := i_clamp0 (x := mat_85) (by omega); have he9 : (mat_85 : Int32).toInt = (teE mf32 (mtaped).toNatClampNeg (mat_0).toNatClampNeg : Nat) := (by rw [← v2_85]; first | (rw [skp_z (by omega)]; omega) | (rw [skp_no (by omega)]; omega)); exact TKA_l (by omega) hts9 (by omega) (by omega) (by rw [← ez_73]; omega) he9 (wd_eq (n5 := L5_85) (L := L3_85) (by omega) (fun h9 => by rw [show teE mf32 (mtaped).toNatClampNeg (mat_0).toNatClampNeg - (mat_0).toNatClampNeg = (L5_85).toNatClampNeg by have c9 := i_clamp0 (x := L5_85) (by omega); omega]; exact v3_85 h9) (Or.inr ⟨by omega, hw_104.1⟩)))⟩, by rw [ht]; exact hP9, hD9⟩, hS.F ht⟩) hS.2.2 dX9_advance_179
                      ·
                        have ic_102 : 6 < L5_85.toInt := by first | exact (g_lt t_6 rfl).mp c_102 | (have h := mt (g_le rfl t_6).mpr c_102; omega)
                        clear c_102
                        refine lv_iconst (v := 2) hx hb dX9_advance_167 (by decide) ?_
                        refine lv_goto (tgt := 176) hx hb dX9_advance_168 (by decide) ?_
                        refine va_put (D := D) (ci := 9) (v := .int 2) (ty := .int) (C := RX9) (T := TX9) (N := 68) hx hb htb iX9 tyX9 tyX9_ok nmX9 hown hK.1 hP hD hS 0 rfl rfl 40 (by decide) (htb _ k_998) (fun _ h9 => h9) rfl (by decide +kernel) rfl rfl (Nat.le_of_ble_eq_true rfl) dX9_advance_176 (fun H locs hP hD hS => ?_)
                        have hP : va_P D vwCl [(mh, .inr (9, G9 ma mcode mtoday moffs mmany msumW msumA msumR msumWW msumWA msumAA msumWR msumAR mupper mlower mrates mtaped mlaid mat_85 2 mat_0 mtkNumber mwaits mlisted mdealtMany)), ((ma 32), .inl (E 2, 120, .inl mf32))] H := hP
                        have hD := toW hP hD rfl
                        have hP9 := hP.sub (ws' := [(mh, .inr (9, G9 ma mcode mtoday moffs mmany msumW msumA msumR msumWW msumWA msumAA msumWR msumAR mupper mlower mrates mtaped mlaid mat_85 2 mat_0 mtkNumber mwaits mlisted mdealtMany)), ((ma 32), .inl (E 2, 120, .inl mf32))]) [0, 1] rfl
                        have hD9 := hD.sub (ws' := [(mh, .inr (9, G9 ma mcode mtoday moffs mmany msumW msumA msumR msumWW msumWA msumAA msumWR msumAR mupper mlower mrates mtaped mlaid mat_85 2 mat_0 mtkNumber mwaits mlisted mdealtMany)), ((ma 32), .inl (E 2, 120, .inl mf32))]) [0, 1] (by decide) rfl
                        exact W.vret hx hb hr (fun t ht hW => ⟨⟨(mat_85, (2 : Int32), mat_0, mtkNumber), rfl, ⟨(by have h0 := t_2; (try dsimp only); omega), (by (try dsimp only); have hl2 := t_2; have hl1 := t_1; have c0 := i_clamp0 (x := mat) (by omega); have c1 := i_clamp0 (x := mtaped) (by omega); have c2 := i_clamp0 (x := mat_0) (by omega); have c3 := i_clamp0 (x := mat_85) (by omega); have he9 : (mat_85 : Int32).toInt = (teE mf32 (mtaped).toNatClampNeg (mat_0).toNatClampNeg : Nat) := (by rw [← v2_85]; first | (rw [skp_z (by omega)]; omega) | (rw [skp_no (by omega)]; omega)); exact TKA_l (by omega) hts9 (by omega) (by omega) (by rw [← ez_73]; omega) he9 (wd_eq (n5 := L5_85) (L := L3_85) (by omega) (fun h9 => by rw [show teE mf32 (mtaped).toNatClampNeg (mat_0).toNatClampNeg - (mat_0).toNatClampNeg = (L5_85).toNatClampNeg by have c9 := i_clamp0 (x := L5_85) (by omega); omega]; exact v3_85 h9) (Or.inl ⟨by omega, by omega⟩)))⟩, by rw [ht]; exact hP9, hD9⟩, hS.F ht⟩) hS.2.2 dX9_advance_179
              exact loop_78 121 0 mat_0 0 _ _ _ (by have h0 := t_0; (try dsimp only); omega) (by have h0 := t_0; (try dsimp only); omega) (by have h0 := t_0; (try dsimp only); omega) (by have c0 := i_clamp0 (x := mat_0) (by omega); have c1 := i_clamp0 (x := mtaped) (by omega); exact (teE_l (f := mf32) (n := (mtaped).toNatClampNeg) (s := (mat_0).toNatClampNeg) (by omega) (by rw [← ez_73]; omega)).symm) (fun _ => by rw [clamp_0]; rfl) (fun k hk => absurd hk (by have h0 := t_0; omega)) hP hD hS (lv_sub hl [0, 1, 2, 3, 4] rfl)
            ·
              refine W_top (y := .int 0) (by rw [hr_74]) ?_
              refine lv_if_eq (tgt := 180) hx hb dX9_advance_77 (by decide) (fun c_106 => ?_) (fun c_106 => absurd (by decide) c_106)
              refine lv_iload_n hx hb dX9_advance_180 rfl (lv_at hl 0 rfl) ?_
              refine callRS (rest := []) (As := [.int z_73]) hx hb hml hown htb hK (g_X9_isDigit l D E z_73 ) ok_X9_isDigit k_1366 k_1367 k_9 k_1368 ⟨(Nat.le_of_ble_eq_true rfl), (Nat.le_of_ble_eq_true rfl)⟩ ⟨(Nat.le_of_ble_eq_true rfl), (Nat.le_of_ble_eq_true rfl)⟩ hl.1 (Nat.le_of_ble_eq_true rfl) rfl rfl dX9_advance_181 (hP.sub (ws' := ([] : va_W)) [] rfl) (fun r_107 hw_108 => ?_)
              rcases hw_108 with ⟨hr_107, hw_108⟩ | ⟨hr_107, hw_108⟩
              ·
                refine W_top (y := .int 1) (by rw [hr_107]) ?_
                refine lv_if_eq (tgt := 287) hx hb dX9_advance_184 (by decide) (fun c_110 => absurd c_110 (by decide)) (fun c_110 => ?_)
                refine lv_iconst (v := 0) hx hb dX9_advance_187 (by decide) ?_
                refine lv_istore_n (lv' := [(3, .int 0), (2, .int z_73), (0, .ref mh), (1, .int p0)]) hx hb dX9_advance_188 rfl hl (by decide) rfl (fun ls hl => ?_)
                refine lv_aload_n hx hb dX9_advance_189 rfl (lv_at hl 2 rfl) ?_
                refine lv_iconst (v := 0) hx hb dX9_advance_190 (by decide) ?_
                refine va_put (D := D) (ci := 9) (v := .int 0) (ty := .int) (C := RX9) (T := TX9) (N := 68) hx hb htb iX9 tyX9 tyX9_ok nmX9 hown hK.1 hP hD hS 0 rfl rfl 42 (by decide) (htb _ k_1000) (fun _ h9 => h9) rfl (by decide +kernel) rfl rfl (Nat.le_of_ble_eq_true rfl) dX9_advance_191 (fun H locs hP hD hS => ?_)
                have hP : va_P D vwCl [(mh, .inr (9, G9 ma mcode mtoday moffs mmany msumW msumA msumR msumWW msumWA msumAA msumWR msumAR mupper mlower mrates mtaped mlaid mat_0 mtk mat_0 0 mwaits mlisted mdealtMany)), ((ma 32), .inl (E 2, 120, .inl mf32))] H := hP
                have hD := toW hP hD rfl
                have loop_111 : ∀ (N_113 : Nat) (L3_194 : Int32) (mat_194 : Int32) (mtkNumber_194 : Int32) (H : Heap) (locs : List Loc) (ls : Array Slot), mtaped.toInt - mat_194.toInt < (N_113 : Int) → (mat_0.toInt ≤ mat_194.toInt ∧ mat_194.toInt ≤ mtaped.toInt ∧ mat_0.toInt < mtaped.toInt ∧ mat.toInt ≤ mat_0.toInt ∧ (mat_0.toInt + 1 ≤ mat_194.toInt ∨ (48 ≤ (mf32 (mat_194).toNatClampNeg).toInt ∧ (mf32 (mat_194).toNatClampNeg).toInt ≤ 57))) → (0 ≤ L3_194.toInt ∧ L3_194.toInt ≤ mat_194.toInt ∧ L3_194.toInt = mat_194.toInt - mat_0.toInt) → (skp 48 57 mf32 ((mtaped).toNatClampNeg - (mat_194).toNatClampNeg) (mat_194).toNatClampNeg = teE mf32 (mtaped).toNatClampNeg (mat_0).toNatClampNeg) → (L3_194.toInt ≤ 5 → mtkNumber_194 = numV mf32 (mat_0).toNatClampNeg (L3_194).toNatClampNeg) → va_P D vwCl [(mh, .inr (9, G9 ma mcode mtoday moffs mmany msumW msumA msumR msumWW msumWA msumAA msumWR msumAR mupper mlower mrates mtaped mlaid mat_194 mtk mat_0 mtkNumber_194 mwaits mlisted mdealtMany)), ((ma 32), .inl (E 2, 120, .inl mf32))] H → va_D A [(mh, .inr (9, G9 ma mcode mtoday moffs mmany msumW msumA msumR msumWW msumWA msumAA msumWR msumAR mupper mlower mrates mtaped mlaid mat_194 mtk mat_0 mtkNumber_194 mwaits mlisted mdealtMany)), ((ma 32), .inl (E 2, 120, .inl mf32))] → va_S A s.heap H locs → lv_has ls 6 [(3, .int L3_194), (2, .int z_73), (0, .ref mh), (1, .int p0)] → W p l e (headSpec (wl yX9_advance cX9_advance 6 none) (RM 1 0 0)).room s m [Value.ref mh, .int p0].toArray below meth c H locs 0 0 (MQ below (va_Qv (fun (u : (Int32) × (Int32) × (Int32) × (Int32)) => (mat.toInt ≤ u.2.2.1.toInt ∧ u.2.2.1.toInt ≤ u.1.toInt ∧ u.1.toInt ≤ mtaped.toInt ∧ (u.2.1.toInt = 0 ∨ u.2.2.1.toInt + 1 ≤ u.1.toInt) ∧ 0 ≤ u.2.1.toInt ∧ u.2.1.toInt ≤ 123) ∧ (TKA mf32 (mtaped).toNatClampNeg p0.toInt (mat).toNatClampNeg u.1 u.2.2.1 u.2.1 u.2.2.2)) (mu_B D A (fun (u : (Int32) × (Int32) × (Int32) × (Int32)) => [(mh, .inr (9, G9 ma mcode mtoday moffs mmany msumW msumA msumR msumWW msumWA msumAA msumWR msumAR mupper mlower mrates mtaped mlaid u.1 u.2.1 u.2.2.1 u.2.2.2 mwaits mlisted mdealtMany)), ((ma 32), .inl (E 2, 120, .inl mf32))])) A) [Value.ref mh, .int p0].toArray s 0 0 A) (F0 m 194 ls []) := by
                  intro N_113
                  induction N_113 with
                  | zero => intro L3_194 mat_194 mtkNumber_194 H locs ls hm v0_194 v1_194 v2_194 v3_194 _ _ _ _; exfalso; omega
                  | succ N_113 ih_112 =>
                    intro L3_194 mat_194 mtkNumber_194 H locs ls hm v0_194 v1_194 v2_194 v3_194 hP hD hS hl
                    have lo_L3_194 := i_lo L3_194; have hi_L3_194 := i_hi L3_194
                    have lo_mat_194 := i_lo mat_194; have hi_mat_194 := i_hi mat_194
                    have lo_mtkNumber_194 := i_lo mtkNumber_194; have hi_mtkNumber_194 := i_hi mtkNumber_194
                    refine lv_aload_n hx hb dX9_advance_194 rfl (lv_at hl 2 rfl) ?_
                    refine va_get (D := D) (ci := 9) (v := .int mat_194) (C := RX9) (T := TX9) (N := 68) hx hb htb iX9 hown hK.1 hP 0 rfl rfl 39 (by decide) (htb _ k_997) (fun _ h9 => h9) rfl dX9_advance_195 ?_
                    refine lv_aload_n hx hb dX9_advance_198 rfl (lv_at hl 2 rfl) ?_
                    refine va_get (D := D) (ci := 9) (v := .int mtaped) (C := RX9) (T := TX9) (N := 68) hx hb htb iX9 hown hK.1 hP 0 rfl rfl 33 (by decide) (htb _ k_991) (fun _ h9 => h9) rfl dX9_advance_199 ?_
                    refine lv_icmp_ge (tgt := 272) hx hb dX9_advance_202 (by decide) (fun c_114 => ?_) (fun c_114 => ?_)
                    ·
                      have ic_114 : mtaped.toInt ≤ mat_194.toInt := by first | exact (g_le rfl rfl).mp c_114 | (have h := mt (g_lt rfl rfl).mpr c_114; omega)
                      clear c_114
                      refine lv_aload_n hx hb dX9_advance_272 rfl (lv_at hl 2 rfl) ?_
                      refine lv_iload_n hx hb dX9_advance_273 rfl (lv_at hl 0 rfl) ?_
                      refine lv_iconst (v := 5) hx hb dX9_advance_274 (by decide) ?_
                      refine lv_icmp_le (tgt := 282) hx hb dX9_advance_275 (by decide) (fun c_115 => ?_) (fun c_115 => ?_)
                      ·
                        have ic_115 : L3_194.toInt ≤ 5 := by first | exact (g_le rfl t_5).mp c_115 | (have h := mt (g_lt t_5 rfl).mpr c_115; omega)
                        clear c_115
                        refine lv_iconst (v := 1) hx hb dX9_advance_282 (by decide) ?_
                        refine va_put (D := D) (ci := 9) (v := .int 1) (ty := .int) (C := RX9) (T := TX9) (N := 68) hx hb htb iX9 tyX9 tyX9_ok nmX9 hown hK.1 hP hD hS 0 rfl rfl 40 (by decide) (htb _ k_998) (fun _ h9 => h9) rfl (by decide +kernel) rfl rfl (Nat.le_of_ble_eq_true rfl) dX9_advance_283 (fun H locs hP hD hS => ?_)
                        have hP : va_P D vwCl [(mh, .inr (9, G9 ma mcode mtoday moffs mmany msumW msumA msumR msumWW msumWA msumAA msumWR msumAR mupper mlower mrates mtaped mlaid mat_194 1 mat_0 mtkNumber_194 mwaits mlisted mdealtMany)), ((ma 32), .inl (E 2, 120, .inl mf32))] H := hP
                        have hD := toW hP hD rfl
                        have hP9 := hP.sub (ws' := [(mh, .inr (9, G9 ma mcode mtoday moffs mmany msumW msumA msumR msumWW msumWA msumAA msumWR msumAR mupper mlower mrates mtaped mlaid mat_194 1 mat_0 mtkNumber_194 mwaits mlisted mdealtMany)), ((ma 32), .inl (E 2, 120, .inl mf32))]) [0, 1] rfl
                        have hD9 := hD.sub (ws' := [(mh, .inr (9, G9 ma mcode mtoday moffs mmany msumW msumA msumR msumWW msumWA msumAA msumWR msumAR mupper mlower mrates mtaped mlaid mat_194 1 mat_0 mtkNumber_194 mwaits mlisted mdealtMany)), ((ma 32), .inl (E 2, 120, .inl mf32))]) [0, 1] (by decide) rfl
                        exact W.vret hx hb hr (fun t ht hW => ⟨⟨(mat_194, (1 : Int32), mat_0, mtkNumber_194), rfl, ⟨(by have h0 := t_1; (try dsimp only); omega), (by (try dsimp only); have hl2 := t_2; have hl1 := t_1; have c0 := i_clamp0 (x := mat) (by omega); have c1 := i_clamp0 (x := mtaped) (by omega); have c2 := i_clamp0 (x := mat_0) (by omega); have c3 := i_clamp0 (x := mat_194) (by omega); have he9 : (mat_194 : Int32).toInt = (teE mf32 (mtaped).toNatClampNeg (mat_0).toNatClampNeg : Nat) := (by rw [← v2_194]; first | (rw [skp_z (by omega)]; omega) | (rw [skp_no (by omega)]; omega)); exact TKA_d (by omega) hts9 (by omega) (by omega) (by rw [← ez_73]; omega) he9 (Or.inr ⟨by omega, by omega, by rw [show ((mat_194 : Int32).toInt - (mat_0 : Int32).toInt).toNat = (L3_194).toNatClampNeg by have c9 := i_clamp0 (x := L3_194) (by omega); omega]; exact v3_194 (by omega)⟩))⟩, by rw [ht]; exact hP9, hD9⟩, hS.F ht⟩) hS.2.2 dX9_advance_286
                      ·
                        have ic_115 : 5 < L3_194.toInt := by first | exact (g_lt t_5 rfl).mp c_115 | (have h := mt (g_le rfl t_5).mpr c_115; omega)
                        clear c_115
                        refine lv_iconst (v := 2) hx hb dX9_advance_278 (by decide) ?_
                        refine lv_goto (tgt := 283) hx hb dX9_advance_279 (by decide) ?_
                        refine va_put (D := D) (ci := 9) (v := .int 2) (ty := .int) (C := RX9) (T := TX9) (N := 68) hx hb htb iX9 tyX9 tyX9_ok nmX9 hown hK.1 hP hD hS 0 rfl rfl 40 (by decide) (htb _ k_998) (fun _ h9 => h9) rfl (by decide +kernel) rfl rfl (Nat.le_of_ble_eq_true rfl) dX9_advance_283 (fun H locs hP hD hS => ?_)
                        have hP : va_P D vwCl [(mh, .inr (9, G9 ma mcode mtoday moffs mmany msumW msumA msumR msumWW msumWA msumAA msumWR msumAR mupper mlower mrates mtaped mlaid mat_194 2 mat_0 mtkNumber_194 mwaits mlisted mdealtMany)), ((ma 32), .inl (E 2, 120, .inl mf32))] H := hP
                        have hD := toW hP hD rfl
                        have hP9 := hP.sub (ws' := [(mh, .inr (9, G9 ma mcode mtoday moffs mmany msumW msumA msumR msumWW msumWA msumAA msumWR msumAR mupper mlower mrates mtaped mlaid mat_194 2 mat_0 mtkNumber_194 mwaits mlisted mdealtMany)), ((ma 32), .inl (E 2, 120, .inl mf32))]) [0, 1] rfl
                        have hD9 := hD.sub (ws' := [(mh, .inr (9, G9 ma mcode mtoday moffs mmany msumW msumA msumR msumWW msumWA msumAA msumWR msumAR mupper mlower mrates mtaped mlaid mat_194 2 mat_0 mtkNumber_194 mwaits mlisted mdealtMany)), ((ma 32), .inl (E 2, 120, .inl mf32))]) [0, 1] (by decide) rfl
                        exact W.vret hx hb hr (fun t ht hW => ⟨⟨(mat_194, (2 : Int32), mat_0, mtkNumber_194), rfl, ⟨(by have h0 := t_2; (try dsimp only); omega), (by (try dsimp only); have hl2 := t_2; have hl1 := t_1; have c0 := i_clamp0 (x := mat) (by omega); have c1 := i_clamp0 (x := mtaped) (by omega); have c2 := i_clamp0 (x := mat_0) (by omega); have c3 := i_clamp0 (x := mat_194) (by omega); have he9 : (mat_194 : Int32).toInt = (teE mf32 (mtaped).toNatClampNeg (mat_0).toNatClampNeg : Nat) := (by rw [← v2_194]; first | (rw [skp_z (by omega)]; omega) | (rw [skp_no (by omega)]; omega)); exact TKA_d (by omega) hts9 (by omega) (by omega) (by rw [← ez_73]; omega) he9 (Or.inl ⟨by omega, by omega⟩))⟩, by rw [ht]; exact hP9, hD9⟩, hS.F ht⟩) hS.2.2 dX9_advance_286
                    ·
                      have ic_114 : mat_194.toInt < mtaped.toInt := by first | exact (g_lt rfl rfl).mp c_114 | (have h := mt (g_le rfl rfl).mpr c_114; omega)
                      clear c_114
                      refine lv_aload_n hx hb dX9_advance_205 rfl (lv_at hl 2 rfl) ?_
                      refine va_get (D := D) (ci := 9) (v := .ref (ma 32)) (C := RX9) (T := TX9) (N := 68) hx hb htb iX9 hown hK.1 hP 0 rfl rfl 32 (by decide) (htb _ k_990) (fun _ h9 => h9) rfl dX9_advance_206 ?_
                      refine lv_aload_n hx hb dX9_advance_209 rfl (lv_at hl 2 rfl) ?_
                      refine va_get (D := D) (ci := 9) (v := .int mat_194) (C := RX9) (T := TX9) (N := 68) hx hb htb iX9 hown hK.1 hP 0 rfl rfl 39 (by decide) (htb _ k_997) (fun _ h9 => h9) rfl dX9_advance_210 ?_
                      refine va_bald hx hb hK.1 hP 1 2 rfl rfl (g_in rfl (by omega) (by omega)) dX9_advance_213 ?_
                      refine lv_topi (fun z_116 ez_116 => ?_)
                      have kz_116 := congrArg Int32.toInt ez_116
                      refine callRS (rest := []) (As := [.int z_116]) hx hb hml hown htb hK (g_X9_isDigit l D E z_116 ) ok_X9_isDigit k_1366 k_1367 k_9 k_1368 ⟨(Nat.le_of_ble_eq_true rfl), (Nat.le_of_ble_eq_true rfl)⟩ ⟨(Nat.le_of_ble_eq_true rfl), (Nat.le_of_ble_eq_true rfl)⟩ hl.1 (Nat.le_of_ble_eq_true rfl) rfl rfl dX9_advance_214 (hP.sub (ws' := ([] : va_W)) [] rfl) (fun r_117 hw_118 => ?_)
                      rcases hw_118 with ⟨hr_117, hw_118⟩ | ⟨hr_117, hw_118⟩
                      ·
                        refine W_top (y := .int 1) (by rw [hr_117]) ?_
                        refine lv_if_eq (tgt := 272) hx hb dX9_advance_217 (by decide) (fun c_120 => absurd c_120 (by decide)) (fun c_120 => ?_)
                        refine lv_aload_n hx hb dX9_advance_220 rfl (lv_at hl 2 rfl) ?_
                        refine lv_iload_n hx hb dX9_advance_221 rfl (lv_at hl 0 rfl) ?_
                        refine lv_iconst (v := 5) hx hb dX9_advance_222 (by decide) ?_
                        refine lv_icmp_ge (tgt := 249) hx hb dX9_advance_223 (by decide) (fun c_121 => ?_) (fun c_121 => ?_)
                        ·
                          have ic_121 : 5 ≤ L3_194.toInt := by first | exact (g_le t_5 rfl).mp c_121 | (have h := mt (g_lt rfl t_5).mpr c_121; omega)
                          clear c_121
                          refine lv_aload_n hx hb dX9_advance_249 rfl (lv_at hl 2 rfl) ?_
                          refine va_get (D := D) (ci := 9) (v := .int mtkNumber_194) (C := RX9) (T := TX9) (N := 68) hx hb htb iX9 hown hK.1 hP 0 rfl rfl 42 (by decide) (htb _ k_1000) (fun _ h9 => h9) rfl dX9_advance_250 ?_
                          refine va_put (D := D) (ci := 9) (v := .int mtkNumber_194) (ty := .int) (C := RX9) (T := TX9) (N := 68) hx hb htb iX9 tyX9 tyX9_ok nmX9 hown hK.1 hP hD hS 0 rfl rfl 42 (by decide) (htb _ k_1000) (fun _ h9 => h9) rfl (by decide +kernel) rfl rfl (Nat.le_of_ble_eq_true rfl) dX9_advance_253 (fun H locs hP hD hS => ?_)
                          have hP : va_P D vwCl [(mh, .inr (9, G9 ma mcode mtoday moffs mmany msumW msumA msumR msumWW msumWA msumAA msumWR msumAR mupper mlower mrates mtaped mlaid mat_194 mtk mat_0 mtkNumber_194 mwaits mlisted mdealtMany)), ((ma 32), .inl (E 2, 120, .inl mf32))] H := hP
                          have hD := toW hP hD rfl
                          refine lv_aload_n hx hb dX9_advance_256 rfl (lv_at hl 2 rfl) ?_
                          refine lv_dup hx hb dX9_advance_257 rfl ?_
                          refine va_get (D := D) (ci := 9) (v := .int mat_194) (C := RX9) (T := TX9) (N := 68) hx hb htb iX9 hown hK.1 hP 0 rfl rfl 39 (by decide) (htb _ k_997) (fun _ h9 => h9) rfl dX9_advance_258 ?_
                          refine lv_iconst (v := 1) hx hb dX9_advance_261 (by decide) ?_
                          refine lv_iadd hx hb dX9_advance_262 ?_
                          refine lv_topi (fun z_122 ez_122 => ?_)
                          have jz_122 : z_122.toInt = mat_194.toInt + 1 := by rw [ez_122]; exact g_add rfl t_1 (by omega) (by omega)
                          refine va_put (D := D) (ci := 9) (v := .int z_122) (ty := .int) (C := RX9) (T := TX9) (N := 68) hx hb htb iX9 tyX9 tyX9_ok nmX9 hown hK.1 hP hD hS 0 rfl rfl 39 (by decide) (htb _ k_997) (fun _ h9 => h9) rfl (by decide +kernel) rfl rfl (Nat.le_of_ble_eq_true rfl) dX9_advance_263 (fun H locs hP hD hS => ?_)
                          have hP : va_P D vwCl [(mh, .inr (9, G9 ma mcode mtoday moffs mmany msumW msumA msumR msumWW msumWA msumAA msumWR msumAR mupper mlower mrates mtaped mlaid z_122 mtk mat_0 mtkNumber_194 mwaits mlisted mdealtMany)), ((ma 32), .inl (E 2, 120, .inl mf32))] H := hP
                          have hD := toW hP hD rfl
                          obtain ⟨z_123, ez_123⟩ : ∃ y : Int32, y = L3_194 + 1 := ⟨_, rfl⟩
                          have jz_123 : z_123.toInt = L3_194.toInt + 1 := by rw [ez_123]; exact g_add rfl t_1 (by omega) (by omega)
                          refine lv_iinc (v := z_123) (lv' := [(3, .int z_123), (2, .int z_73), (0, .ref mh), (1, .int p0)]) hx hb dX9_advance_266 hl (k := 0) rfl (by rw [ez_123]; rfl) (by decide) rfl (fun ls hl => ?_)
                          refine lv_goto (tgt := 194) hx hb dX9_advance_269 (by decide) ?_
                          exact ih_112 z_123 z_122 mtkNumber_194 _ _ _ (by (try dsimp only); omega) (by (try dsimp only); omega) (by (try dsimp only); omega) (by rw [clampS (by omega) jz_122, ← skp_yes (lo := 48) (hi := 57) (f := mf32) (n := (mtaped).toNatClampNeg) (a := (mat_194).toNatClampNeg) (by have c0 := i_clamp0 (x := mat_194) (by omega); have c1 := i_clamp0 (x := mtaped) (by omega); omega) (by omega)]; exact v2_194) (fun h9 => absurd h9 (by omega)) hP hD hS (lv_sub hl [0, 1, 2, 3] rfl)
                        ·
                          have ic_121 : L3_194.toInt < 5 := by first | exact (g_lt rfl t_5).mp c_121 | (have h := mt (g_le t_5 rfl).mpr c_121; omega)
                          clear c_121
                          refine lv_bipush (v := 10) hx hb dX9_advance_226 (by decide) ?_
                          refine lv_aload_n hx hb dX9_advance_228 rfl (lv_at hl 2 rfl) ?_
                          refine va_get (D := D) (ci := 9) (v := .int mtkNumber_194) (C := RX9) (T := TX9) (N := 68) hx hb htb iX9 hown hK.1 hP 0 rfl rfl 42 (by decide) (htb _ k_1000) (fun _ h9 => h9) rfl dX9_advance_229 ?_
                          refine lv_imul hx hb dX9_advance_232 ?_
                          refine lv_topi (fun z_124 ez_124 => ?_)
                          refine lv_aload_n hx hb dX9_advance_233 rfl (lv_at hl 2 rfl) ?_
                          refine va_get (D := D) (ci := 9) (v := .ref (ma 32)) (C := RX9) (T := TX9) (N := 68) hx hb htb iX9 hown hK.1 hP 0 rfl rfl 32 (by decide) (htb _ k_990) (fun _ h9 => h9) rfl dX9_advance_234 ?_
                          refine lv_aload_n hx hb dX9_advance_237 rfl (lv_at hl 2 rfl) ?_
                          refine va_get (D := D) (ci := 9) (v := .int mat_194) (C := RX9) (T := TX9) (N := 68) hx hb htb iX9 hown hK.1 hP 0 rfl rfl 39 (by decide) (htb _ k_997) (fun _ h9 => h9) rfl dX9_advance_238 ?_
                          refine va_bald hx hb hK.1 hP 1 2 rfl rfl (g_in rfl (by omega) (by omega)) dX9_advance_241 ?_
                          refine lv_topi (fun z_125 ez_125 => ?_)
                          have kz_125 := congrArg Int32.toInt ez_125
                          refine lv_iadd hx hb dX9_advance_242 ?_
                          refine lv_topi (fun z_126 ez_126 => ?_)
                          refine lv_bipush (v := 48) hx hb dX9_advance_243 (by decide) ?_
                          refine lv_isub hx hb dX9_advance_245 ?_
                          refine lv_topi (fun z_127 ez_127 => ?_)
                          refine lv_goto (tgt := 253) hx hb dX9_advance_246 (by decide) ?_
                          refine va_put (D := D) (ci := 9) (v := .int z_127) (ty := .int) (C := RX9) (T := TX9) (N := 68) hx hb htb iX9 tyX9 tyX9_ok nmX9 hown hK.1 hP hD hS 0 rfl rfl 42 (by decide) (htb _ k_1000) (fun _ h9 => h9) rfl (by decide +kernel) rfl rfl (Nat.le_of_ble_eq_true rfl) dX9_advance_253 (fun H locs hP hD hS => ?_)
                          have hP : va_P D vwCl [(mh, .inr (9, G9 ma mcode mtoday moffs mmany msumW msumA msumR msumWW msumWA msumAA msumWR msumAR mupper mlower mrates mtaped mlaid mat_194 mtk mat_0 z_127 mwaits mlisted mdealtMany)), ((ma 32), .inl (E 2, 120, .inl mf32))] H := hP
                          have hD := toW hP hD rfl
                          refine lv_aload_n hx hb dX9_advance_256 rfl (lv_at hl 2 rfl) ?_
                          refine lv_dup hx hb dX9_advance_257 rfl ?_
                          refine va_get (D := D) (ci := 9) (v := .int mat_194) (C := RX9) (T := TX9) (N := 68) hx hb htb iX9 hown hK.1 hP 0 rfl rfl 39 (by decide) (htb _ k_997) (fun _ h9 => h9) rfl dX9_advance_258 ?_
                          refine lv_iconst (v := 1) hx hb dX9_advance_261 (by decide) ?_
                          refine lv_iadd hx hb dX9_advance_262 ?_
                          refine lv_topi (fun z_128 ez_128 => ?_)
                          have jz_128 : z_128.toInt = mat_194.toInt + 1 := by rw [ez_128]; exact g_add rfl t_1 (by omega) (by omega)
                          refine va_put (D := D) (ci := 9) (v := .int z_128) (ty := .int) (C := RX9) (T := TX9) (N := 68) hx hb htb iX9 tyX9 tyX9_ok nmX9 hown hK.1 hP hD hS 0 rfl rfl 39 (by decide) (htb _ k_997) (fun _ h9 => h9) rfl (by decide +kernel) rfl rfl (Nat.le_of_ble_eq_true rfl) dX9_advance_263 (fun H locs hP hD hS => ?_)
                          have hP : va_P D vwCl [(mh, .inr (9, G9 ma mcode mtoday moffs mmany msumW msumA msumR msumWW msumWA msumAA msumWR msumAR mupper mlower mrates mtaped mlaid z_128 mtk mat_0 z_127 mwaits mlisted mdealtMany)), ((ma 32), .inl (E 2, 120, .inl mf32))] H := hP
                          have hD := toW hP hD rfl
                          obtain ⟨z_129, ez_129⟩ : ∃ y : Int32, y = L3_194 + 1 := ⟨_, rfl⟩
                          have jz_129 : z_129.toInt = L3_194.toInt + 1 := by rw [ez_129]; exact g_add rfl t_1 (by omega) (by omega)
                          refine lv_iinc (v := z_129) (lv' := [(3, .int z_129), (2, .int z_73), (0, .ref mh), (1, .int p0)]) hx hb dX9_advance_266 hl (k := 0) rfl (by rw [ez_129]; rfl) (by decide) rfl (fun ls hl => ?_)
                          refine lv_goto (tgt := 194) hx hb dX9_advance_269 (by decide) ?_
                          exact ih_112 z_129 z_128 z_127 _ _ _ (by (try dsimp only); omega) (by (try dsimp only); omega) (by (try dsimp only); omega) (by rw [clampS (by omega) jz_128, ← skp_yes (lo := 48) (hi := 57) (f := mf32) (n := (mtaped).toNatClampNeg) (a := (mat_194).toNatClampNeg) (by have c0 := i_clamp0 (x := mat_194) (by omega); have c1 := i_clamp0 (x := mtaped) (by omega); omega) (by omega)]; exact v2_194) (fun h9 => by rw [clampS (by omega) jz_129]; exact num_fin (b := z_125) (v3_194 (by omega)) (by rw [show (mat_0).toNatClampNeg + (L3_194).toNatClampNeg = (mat_194).toNatClampNeg by have c0 := i_clamp0 (x := mat_194) (by omega); have c1 := i_clamp0 (x := mat_0) (by omega); have c2 := i_clamp0 (x := L3_194) (by omega); omega]; exact ez_125.symm) (by first | (subst_vars; rfl) | subst_vars)) hP hD hS (lv_sub hl [0, 1, 2, 3] rfl)
                      ·
                        refine W_top (y := .int 0) (by rw [hr_117]) ?_
                        refine lv_if_eq (tgt := 272) hx hb dX9_advance_217 (by decide) (fun c_130 => ?_) (fun c_130 => absurd (by decide) c_130)
                        refine lv_aload_n hx hb dX9_advance_272 rfl (lv_at hl 2 rfl) ?_
                        refine lv_iload_n hx hb dX9_advance_273 rfl (lv_at hl 0 rfl) ?_
                        refine lv_iconst (v := 5) hx hb dX9_advance_274 (by decide) ?_
                        refine lv_icmp_le (tgt := 282) hx hb dX9_advance_275 (by decide) (fun c_131 => ?_) (fun c_131 => ?_)
                        ·
                          have ic_131 : L3_194.toInt ≤ 5 := by first | exact (g_le rfl t_5).mp c_131 | (have h := mt (g_lt t_5 rfl).mpr c_131; omega)
                          clear c_131
                          refine lv_iconst (v := 1) hx hb dX9_advance_282 (by decide) ?_
                          refine va_put (D := D) (ci := 9) (v := .int 1) (ty := .int) (C := RX9) (T := TX9) (N := 68) hx hb htb iX9 tyX9 tyX9_ok nmX9 hown hK.1 hP hD hS 0 rfl rfl 40 (by decide) (htb _ k_998) (fun _ h9 => h9) rfl (by decide +kernel) rfl rfl (Nat.le_of_ble_eq_true rfl) dX9_advance_283 (fun H locs hP hD hS => ?_)
                          have hP : va_P D vwCl [(mh, .inr (9, G9 ma mcode mtoday moffs mmany msumW msumA msumR msumWW msumWA msumAA msumWR msumAR mupper mlower mrates mtaped mlaid mat_194 1 mat_0 mtkNumber_194 mwaits mlisted mdealtMany)), ((ma 32), .inl (E 2, 120, .inl mf32))] H := hP
                          have hD := toW hP hD rfl
                          have hP9 := hP.sub (ws' := [(mh, .inr (9, G9 ma mcode mtoday moffs mmany msumW msumA msumR msumWW msumWA msumAA msumWR msumAR mupper mlower mrates mtaped mlaid mat_194 1 mat_0 mtkNumber_194 mwaits mlisted mdealtMany)), ((ma 32), .inl (E 2, 120, .inl mf32))]) [0, 1] rfl
                          have hD9 := hD.sub (ws' := [(mh, .inr (9, G9 ma mcode mtoday moffs mmany msumW msumA msumR msumWW msumWA msumAA msumWR msumAR mupper mlower mrates mtaped mlaid mat_194 1 mat_0 mtkNumber_194 mwaits mlisted mdealtMany)), ((ma 32), .inl (E 2, 120, .inl mf32))]) [0, 1] (by decide) rfl
                          exact W.vret hx hb hr (fun t ht hW => ⟨⟨(mat_194, (1 : Int32), mat_0, mtkNumber_194), rfl, ⟨(by have h0 := t_1; (try dsimp only); omega), (by (try dsimp only); have hl2 := t_2; have hl1 := t_1; have c0 := i_clamp0 (x := mat) (by omega); have c1 := i_clamp0 (x := mtaped) (by omega); have c2 := i_clamp0 (x := mat_0) (by omega); have c3 := i_clamp0 (x := mat_194) (by omega); have he9 : (mat_194 : Int32).toInt = (teE mf32 (mtaped).toNatClampNeg (mat_0).toNatClampNeg : Nat) := (by rw [← v2_194]; first | (rw [skp_z (by omega)]; omega) | (rw [skp_no (by omega)]; omega)); exact TKA_d (by omega) hts9 (by omega) (by omega) (by rw [← ez_73]; omega) he9 (Or.inr ⟨by omega, by omega, by rw [show ((mat_194 : Int32).toInt - (mat_0 : Int32).toInt).toNat = (L3_194).toNatClampNeg by have c9 := i_clamp0 (x := L3_194) (by omega); omega]; exact v3_194 (by omega)⟩))⟩, by rw [ht]; exact hP9, hD9⟩, hS.F ht⟩) hS.2.2 dX9_advance_286
                        ·
                          have ic_131 : 5 < L3_194.toInt := by first | exact (g_lt t_5 rfl).mp c_131 | (have h := mt (g_le rfl t_5).mpr c_131; omega)
                          clear c_131
                          refine lv_iconst (v := 2) hx hb dX9_advance_278 (by decide) ?_
                          refine lv_goto (tgt := 283) hx hb dX9_advance_279 (by decide) ?_
                          refine va_put (D := D) (ci := 9) (v := .int 2) (ty := .int) (C := RX9) (T := TX9) (N := 68) hx hb htb iX9 tyX9 tyX9_ok nmX9 hown hK.1 hP hD hS 0 rfl rfl 40 (by decide) (htb _ k_998) (fun _ h9 => h9) rfl (by decide +kernel) rfl rfl (Nat.le_of_ble_eq_true rfl) dX9_advance_283 (fun H locs hP hD hS => ?_)
                          have hP : va_P D vwCl [(mh, .inr (9, G9 ma mcode mtoday moffs mmany msumW msumA msumR msumWW msumWA msumAA msumWR msumAR mupper mlower mrates mtaped mlaid mat_194 2 mat_0 mtkNumber_194 mwaits mlisted mdealtMany)), ((ma 32), .inl (E 2, 120, .inl mf32))] H := hP
                          have hD := toW hP hD rfl
                          have hP9 := hP.sub (ws' := [(mh, .inr (9, G9 ma mcode mtoday moffs mmany msumW msumA msumR msumWW msumWA msumAA msumWR msumAR mupper mlower mrates mtaped mlaid mat_194 2 mat_0 mtkNumber_194 mwaits mlisted mdealtMany)), ((ma 32), .inl (E 2, 120, .inl mf32))]) [0, 1] rfl
                          have hD9 := hD.sub (ws' := [(mh, .inr (9, G9 ma mcode mtoday moffs mmany msumW msumA msumR msumWW msumWA msumAA msumWR msumAR mupper mlower mrates mtaped mlaid mat_194 2 mat_0 mtkNumber_194 mwaits mlisted mdealtMany)), ((ma 32), .inl (E 2, 120, .inl mf32))]) [0, 1] (by decide) rfl
                          exact W.vret hx hb hr (fun t ht hW => ⟨⟨(mat_194, (2 : Int32), mat_0, mtkNumber_194), rfl, ⟨(by have h0 := t_2; (try dsimp only); omega), (by (try dsimp only); have hl2 := t_2; have hl1 := t_1; have c0 := i_clamp0 (x := mat) (by omega); have c1 := i_clamp0 (x := mtaped) (by omega); have c2 := i_clamp0 (x := mat_0) (by omega); have c3 := i_clamp0 (x := mat_194) (by omega); have he9 : (mat_194 : Int32).toInt = (teE mf32 (mtaped).toNatClampNeg (mat_0).toNatClampNeg : Nat) := (by rw [← v2_194]; first | (rw [skp_z (by omega)]; omega) | (rw [skp_no (by omega)]; omega)); exact TKA_d (by omega) hts9 (by omega) (by omega) (by rw [← ez_73]; omega) he9 (Or.inl ⟨by omega, by omega⟩))⟩, by rw [ht]; exact hP9, hD9⟩, hS.F ht⟩) hS.2.2 dX9_advance_286
                exact loop_111 121 0 mat_0 0 _ _ _ (by have h0 := t_0; (try dsimp only); omega) (by have h0 := t_0; (try dsimp only); omega) (by have h0 := t_0; (try dsimp only); omega) (by have c0 := i_clamp0 (x := mat_0) (by omega); have c1 := i_clamp0 (x := mtaped) (by omega); exact (teE_d (f := mf32) (n := (mtaped).toNatClampNeg) (s := (mat_0).toNatClampNeg) (by omega) (by rw [← ez_73]; omega)).symm) (fun _ => by rw [clamp_0]; rfl) hP hD hS (lv_sub hl [0, 1, 2, 3] rfl)
              ·
                refine W_top (y := .int 0) (by rw [hr_107]) ?_
                refine lv_if_eq (tgt := 287) hx hb dX9_advance_184 (by decide) (fun c_132 => ?_) (fun c_132 => absurd (by decide) c_132)
                refine lv_aload_n hx hb dX9_advance_287 rfl (lv_at hl 1 rfl) ?_
                refine lv_dup hx hb dX9_advance_288 rfl ?_
                refine va_get (D := D) (ci := 9) (v := .int mat_0) (C := RX9) (T := TX9) (N := 68) hx hb htb iX9 hown hK.1 hP 0 rfl rfl 39 (by decide) (htb _ k_997) (fun _ h9 => h9) rfl dX9_advance_289 ?_
                refine lv_iconst (v := 1) hx hb dX9_advance_292 (by decide) ?_
                refine lv_iadd hx hb dX9_advance_293 ?_
                refine lv_topi (fun z_133 ez_133 => ?_)
                have jz_133 : z_133.toInt = mat_0.toInt + 1 := by rw [ez_133]; exact g_add rfl t_1 (by omega) (by omega)
                refine va_put (D := D) (ci := 9) (v := .int z_133) (ty := .int) (C := RX9) (T := TX9) (N := 68) hx hb htb iX9 tyX9 tyX9_ok nmX9 hown hK.1 hP hD hS 0 rfl rfl 39 (by decide) (htb _ k_997) (fun _ h9 => h9) rfl (by decide +kernel) rfl rfl (Nat.le_of_ble_eq_true rfl) dX9_advance_294 (fun H locs hP hD hS => ?_)
                have hP : va_P D vwCl [(mh, .inr (9, G9 ma mcode mtoday moffs mmany msumW msumA msumR msumWW msumWA msumAA msumWR msumAR mupper mlower mrates mtaped mlaid z_133 mtk mat_0 mtkNumber mwaits mlisted mdealtMany)), ((ma 32), .inl (E 2, 120, .inl mf32))] H := hP
                have hD := toW hP hD rfl
                refine lv_aload_n hx hb dX9_advance_297 rfl (lv_at hl 1 rfl) ?_
                refine lv_iload_n hx hb dX9_advance_298 rfl (lv_at hl 0 rfl) ?_
                refine callRS (rest := [.ref mh]) (As := [.int z_73]) hx hb hml hown htb hK (g_X9_signOf l D E z_73 ) ok_X9_signOf k_1369 k_1370 k_9 k_1371 ⟨(Nat.le_of_ble_eq_true rfl), (Nat.le_of_ble_eq_true rfl)⟩ ⟨(Nat.le_of_ble_eq_true rfl), (Nat.le_of_ble_eq_true rfl)⟩ hl.1 (Nat.le_of_ble_eq_true rfl) rfl rfl dX9_advance_299 (hP.sub (ws' := ([] : va_W)) [] rfl) (fun r_134 hw_135 => ?_)
                refine va_put (D := D) (ci := 9) (v := .int r_134) (ty := .int) (C := RX9) (T := TX9) (N := 68) hx hb htb iX9 tyX9 tyX9_ok nmX9 hown hK.1 hP hD hS 0 rfl rfl 40 (by decide) (htb _ k_998) (fun _ h9 => h9) rfl (by decide +kernel) rfl rfl (Nat.le_of_ble_eq_true rfl) dX9_advance_302 (fun H locs hP hD hS => ?_)
                have hP : va_P D vwCl [(mh, .inr (9, G9 ma mcode mtoday moffs mmany msumW msumA msumR msumWW msumWA msumAA msumWR msumAR mupper mlower mrates mtaped mlaid z_133 r_134 mat_0 mtkNumber mwaits mlisted mdealtMany)), ((ma 32), .inl (E 2, 120, .inl mf32))] H := hP
                have hD := toW hP hD rfl
                have hP9 := hP.sub (ws' := [(mh, .inr (9, G9 ma mcode mtoday moffs mmany msumW msumA msumR msumWW msumWA msumAA msumWR msumAR mupper mlower mrates mtaped mlaid z_133 r_134 mat_0 mtkNumber mwaits mlisted mdealtMany)), ((ma 32), .inl (E 2, 120, .inl mf32))]) [0, 1] rfl
                have hD9 := hD.sub (ws' := [(mh, .inr (9, G9 ma mcode mtoday moffs mmany msumW msumA msumR msumWW msumWA msumAA msumWR msumAR mupper mlower mrates mtaped mlaid z_133 r_134 mat_0 mtkNumber mwaits mlisted mdealtMany)), ((ma 32), .inl (E 2, 120, .inl mf32))]) [0, 1] (by decide) rfl
                exact W.vret hx hb hr (fun t ht hW => ⟨⟨(z_133, r_134, mat_0, mtkNumber), rfl, ⟨(by (try dsimp only); omega), (by (try dsimp only); have hl2 := t_2; have hl1 := t_1; have c0 := i_clamp0 (x := mat) (by omega); have c1 := i_clamp0 (x := mtaped) (by omega); have c2 := i_clamp0 (x := mat_0) (by omega); have c3 := i_clamp0 (x := z_133) (by omega); exact TKA_s (by omega) hts9 (by omega) (by omega) (by rw [← ez_73]; omega) (by rw [← ez_73]; omega) (by omega) (by rw [← ez_73]; exact hw_135.1))⟩, by rw [ht]; exact hP9, hD9⟩, hS.F ht⟩) hS.2.2 dX9_advance_305
          ·
            have ic_72 : mat_0.toInt = mtaped.toInt := (g_eq rfl rfl).mp c_72
            clear c_72
            refine lv_aload_n hx hb dX9_advance_57 rfl (lv_at hl 0 rfl) ?_
            refine lv_iconst (v := 0) hx hb dX9_advance_58 (by decide) ?_
            refine va_put (D := D) (ci := 9) (v := .int 0) (ty := .int) (C := RX9) (T := TX9) (N := 68) hx hb htb iX9 tyX9 tyX9_ok nmX9 hown hK.1 hP hD hS 0 rfl rfl 40 (by decide) (htb _ k_998) (fun _ h9 => h9) rfl (by decide +kernel) rfl rfl (Nat.le_of_ble_eq_true rfl) dX9_advance_59 (fun H locs hP hD hS => ?_)
            have hP : va_P D vwCl [(mh, .inr (9, G9 ma mcode mtoday moffs mmany msumW msumA msumR msumWW msumWA msumAA msumWR msumAR mupper mlower mrates mtaped mlaid mat_0 0 mat_0 mtkNumber mwaits mlisted mdealtMany)), ((ma 32), .inl (E 2, 120, .inl mf32))] H := hP
            have hD := toW hP hD rfl
            have hP9 := hP.sub (ws' := [(mh, .inr (9, G9 ma mcode mtoday moffs mmany msumW msumA msumR msumWW msumWA msumAA msumWR msumAR mupper mlower mrates mtaped mlaid mat_0 0 mat_0 mtkNumber mwaits mlisted mdealtMany)), ((ma 32), .inl (E 2, 120, .inl mf32))]) [0, 1] rfl
            have hD9 := hD.sub (ws' := [(mh, .inr (9, G9 ma mcode mtoday moffs mmany msumW msumA msumR msumWW msumWA msumAA msumWR msumAR mupper mlower mrates mtaped mlaid mat_0 0 mat_0 mtkNumber mwaits mlisted mdealtMany)), ((ma 32), .inl (E 2, 120, .inl mf32))]) [0, 1] (by decide) rfl
            exact W.vret hx hb hr (fun t ht hW => ⟨⟨(mat_0, (0 : Int32), mat_0, mtkNumber), rfl, ⟨(by have h0 := t_0; (try dsimp only); omega), (by (try dsimp only); have c0 := i_clamp0 (x := mat) (by omega); have c1 := i_clamp0 (x := mtaped) (by omega); have c2 := i_clamp0 (x := mat_0) (by omega); exact TKA_end (by omega) hts9 (by omega) t_0)⟩, by rw [ht]; exact hP9, hD9⟩, hS.F ht⟩) hS.2.2 dX9_advance_62
        ·
          have ic_71 : z_70.toInt = 32 := (g_eq rfl t_32).mp c_71
          clear c_71
          refine lv_aload_n hx hb dX9_advance_25 rfl (lv_at hl 0 rfl) ?_
          refine lv_dup hx hb dX9_advance_26 rfl ?_
          refine va_get (D := D) (ci := 9) (v := .int mat_0) (C := RX9) (T := TX9) (N := 68) hx hb htb iX9 hown hK.1 hP 0 rfl rfl 39 (by decide) (htb _ k_997) (fun _ h9 => h9) rfl dX9_advance_27 ?_
          refine lv_iconst (v := 1) hx hb dX9_advance_30 (by decide) ?_
          refine lv_iadd hx hb dX9_advance_31 ?_
          refine lv_topi (fun z_137 ez_137 => ?_)
          have jz_137 : z_137.toInt = mat_0.toInt + 1 := by rw [ez_137]; exact g_add rfl t_1 (by omega) (by omega)
          refine va_put (D := D) (ci := 9) (v := .int z_137) (ty := .int) (C := RX9) (T := TX9) (N := 68) hx hb htb iX9 tyX9 tyX9_ok nmX9 hown hK.1 hP hD hS 0 rfl rfl 39 (by decide) (htb _ k_997) (fun _ h9 => h9) rfl (by decide +kernel) rfl rfl (Nat.le_of_ble_eq_true rfl) dX9_advance_32 (fun H locs hP hD hS => ?_)
          have hP : va_P D vwCl [(mh, .inr (9, G9 ma mcode mtoday moffs mmany msumW msumA msumR msumWW msumWA msumAA msumWR msumAR mupper mlower mrates mtaped mlaid z_137 mtk mtkAt mtkNumber mwaits mlisted mdealtMany)), ((ma 32), .inl (E 2, 120, .inl mf32))] H := hP
          have hD := toW hP hD rfl
          refine lv_goto (tgt := 0) hx hb dX9_advance_35 (by decide) ?_
          exact ih_2 z_137 _ _ _ (by (try dsimp only); omega) (by (try dsimp only); omega) (by rw [clampS (by omega) jz_137, ← skp_yes (lo := 32) (hi := 32) (f := mf32) (n := (mtaped).toNatClampNeg) (a := (mat_0).toNatClampNeg) (by have c0 := i_clamp0 (x := mat_0) (by omega); have c1 := i_clamp0 (x := mtaped) (by omega); omega) (by omega)]; exact v1_0) hP hD hS (lv_sub hl [0, 1] rfl)
  exact loop_1 121 mat _ _ _ (by (try dsimp only); omega) (by (try dsimp only); omega) rfl hP hD hS (lv_sub hl [0, 1] rfl)
end
