/-! ===== rules as code: heights, well-formedness, the waiting ===== -/
def dl (w : Int32) : Int := if w.toInt = 1 ∨ 100 ≤ w.toInt then 1 else if w.toInt = 30 ∨ w.toInt = 70 ∨ w.toInt = 71 then 0 else -1
def okS (w : Int32) (h : Int) : Prop := (w.toInt = 1 ∨ (100 ≤ w.toInt ∧ w.toInt ≤ 123)) ∨ ((w.toInt = 30 ∨ w.toInt = 70 ∨ w.toInt = 71) ∧ 1 ≤ h) ∨ (w.toInt ≠ 1 ∧ w.toInt < 100 ∧ 2 ≤ h)
def hgt (f : Nat → Int32) (b : Nat) : Nat → Int
  | 0 => 0
  | j + 1 => hgt f b j + dl (f (b + j))
theorem hgt_succ (f : Nat → Int32) (b j : Nat) : hgt f b (j + 1) = hgt f b j + dl (f (b + j)) := rfl
def WFc (f : Nat → Int32) (b n : Nat) : Prop := ∀ j, j < n → okS (f (b + j)) (hgt f b j)
def cntB (g : Nat → Int32) : Nat → Int
  | 0 => 0
  | k + 1 => cntB g k + (if (g k).toInt = 5 ∨ (g k).toInt = 30 ∨ (g k).toInt = 70 ∨ (g k).toInt = 71 then 0 else 1)
theorem cntB_succ (g : Nat → Int32) (k : Nat) : cntB g (k + 1) = cntB g k + (if (g k).toInt = 5 ∨ (g k).toInt = 30 ∨ (g k).toInt = 70 ∨ (g k).toInt = 71 then 0 else 1) := rfl
theorem cntB_0 (g : Nat → Int32) : ∀ k : Nat, 0 ≤ cntB g k
  | 0 => Int.le_refl 0
  | k + 1 => by
    have h := cntB_0 g k
    rw [cntB_succ]
    split <;> omega
theorem hgt_congr {f g : Nat → Int32} {b c : Nat} : ∀ n : Nat, (∀ j, j < n → f (b + j) = g (c + j)) → hgt f b n = hgt g c n
  | 0, _ => rfl
  | n + 1, h => by rw [hgt_succ, hgt_succ, hgt_congr n (fun j hj => h j (by omega)), h n (by omega)]
theorem WFc_congr {f g : Nat → Int32} {b c n : Nat} (h : ∀ j, j < n → f (b + j) = g (c + j)) (hf : WFc f b n) : WFc g c n := by
  intro j hj
  rw [← h j hj, ← hgt_congr j (fun k hk => h k (by omega))]
  exact hf j hj
theorem WF_push {f : Nat → Int32} {b n : Nat} {w : Int32} (h : WFc f b n) (hw : okS w (hgt f b n)) : WFc (upd f (b + n) w) b (n + 1) ∧ hgt (upd f (b + n) w) b (n + 1) = hgt f b n + dl w := by
  have e : ∀ j, j < n → upd f (b + n) w (b + j) = f (b + j) := fun j hj => by unfold upd; rw [if_neg (by omega)]
  have e2 : upd f (b + n) w (b + n) = w := by unfold upd; rw [if_pos rfl]
  refine ⟨fun j hj => ?_, ?_⟩
  · rcases Nat.lt_or_ge j n with q | q
    · rw [e j q, hgt_congr j (g := f) (c := b) (fun k hk => e k (by omega))]; exact h j q
    · have : j = n := by omega
      subst this
      rw [e2, hgt_congr j (g := f) (c := b) (fun k hk => e k (by omega))]; exact hw
  · rw [hgt_succ, e2, hgt_congr n (g := f) (c := b) e]
theorem cntB_congr {f g : Nat → Int32} : ∀ n : Nat, (∀ j, j < n → f j = g j) → cntB f n = cntB g n
  | 0, _ => rfl
  | n + 1, h => by rw [cntB_succ, cntB_succ, cntB_congr n (fun j hj => h j (by omega)), h n (by omega)]
def PI (f g : Nat → Int32) (laid waits : Int32) (e : Int) : Prop := WFc f 256 laid.toNatClampNeg ∧ hgt f 256 laid.toNatClampNeg = cntB g waits.toNatClampNeg + e ∧ ∀ k : Nat, (k : Int) < waits.toInt → (g k).toInt = 5 ∨ (10 ≤ (g k).toInt ∧ (g k).toInt ≤ 71)
theorem PI_cast {f g : Nat → Int32} {a b : Int32} {e e2 : Int} (h : PI f g a b e) (he : e = e2) : PI f g a b e2 := by rw [← he]; exact h
theorem PI_0 {f g : Nat → Int32} {e : Int} (he : e = 0) : PI f g 0 0 e := by
  subst he
  have h0 : (0 : Int32).toNatClampNeg = 0 := by decide
  have h1 : (0 : Int32).toInt = 0 := by decide
  refine ⟨by rw [h0]; exact fun j hj => absurd hj (Nat.not_lt_zero j), by rw [h0]; rfl, fun k hk => by rw [h1] at hk; omega⟩
theorem ix256 {z a : Int32} (hz : z.toInt = 256 + a.toInt) (h0 : 0 ≤ a.toInt) : z.toNatClampNeg = 256 + a.toNatClampNeg := by
  have h1 := i_clamp0 h0
  have h2 := i_clamp0 (x := z) (by omega)
  omega
theorem PI_opd {f f2 g : Nat → Int32} {a a2 b w : Int32} {e : Int} (h : PI f g a b e) (he : e = 0) (h0 : 0 ≤ a.toInt) (hw : w.toInt = 1 ∨ (100 ≤ w.toInt ∧ w.toInt ≤ 123)) (ha : a2.toInt = a.toInt + 1) (hf : f2 = upd f (256 + a.toNatClampNeg) w) : PI f2 g a2 b 1 := by
  subst he; subst hf
  obtain ⟨h1, h2, h3⟩ := h
  obtain ⟨p1, p2⟩ := WF_push (w := w) h1 (Or.inl hw)
  refine ⟨?_, ?_, h3⟩
  · rw [clampS h0 ha]; exact p1
  · rw [clampS h0 ha, p2, h2]
    unfold dl
    rw [if_pos (by omega)]
    omega
theorem PI_pop {f f2 g : Nat → Int32} {a a2 b b2 w : Int32} (h : PI f g a b 1) (h0 : 0 ≤ a.toInt) (hb0 : 0 ≤ b2.toInt) (hb : b.toInt = b2.toInt + 1) (hw : w = g b2.toNatClampNeg) (hw5 : w.toInt ≠ 5) (ha : a2.toInt = a.toInt + 1) (hf : f2 = upd f (256 + a.toNatClampNeg) w) : PI f2 g a2 b2 1 := by
  subst hf
  obtain ⟨h1, h2, h3⟩ := h
  have hc := i_clamp0 hb0
  have hw3 := h3 b2.toNatClampNeg (by omega)
  rw [← hw] at hw3
  rw [clampS hb0 hb, cntB_succ, ← hw] at h2
  have hB := cntB_0 g b2.toNatClampNeg
  by_cases hu : w.toInt = 30 ∨ w.toInt = 70 ∨ w.toInt = 71
  · rw [if_pos (by omega)] at h2
    obtain ⟨p1, p2⟩ := WF_push (w := w) h1 (Or.inr (Or.inl ⟨hu, by omega⟩))
    refine ⟨by rw [clampS h0 ha]; exact p1, ?_, fun k hk => h3 k (by omega)⟩
    rw [clampS h0 ha, p2, h2]
    unfold dl
    rw [if_neg (by omega), if_pos hu]
    omega
  · rw [if_neg (by omega)] at h2
    obtain ⟨p1, p2⟩ := WF_push (w := w) h1 (Or.inr (Or.inr ⟨by omega, by omega, by omega⟩))
    refine ⟨by rw [clampS h0 ha]; exact p1, ?_, fun k hk => h3 k (by omega)⟩
    rw [clampS h0 ha, p2, h2]
    unfold dl
    rw [if_neg (by omega), if_neg hu]
    omega
theorem PI_push {f g : Nat → Int32} {a b b2 w : Int32} {e : Int} (h : PI f g a b e) (hb0 : 0 ≤ b.toInt) (hb : b2.toInt = b.toInt + 1) (hw : (e = 0 ∧ (w.toInt = 5 ∨ w.toInt = 30 ∨ w.toInt = 70 ∨ w.toInt = 71)) ∨ (e = 1 ∧ 10 ≤ w.toInt ∧ w.toInt < 70 ∧ w.toInt ≠ 30)) : PI f (upd g b.toNatClampNeg w) a b2 0 := by
  obtain ⟨h1, h2, h3⟩ := h
  have hc := i_clamp0 hb0
  have e1 : ∀ j, j < b.toNatClampNeg → g j = upd g b.toNatClampNeg w j := fun j hj => by unfold upd; rw [if_neg (by omega)]
  have e2 : upd g b.toNatClampNeg w b.toNatClampNeg = w := by unfold upd; rw [if_pos rfl]
  refine ⟨h1, ?_, fun k hk => ?_⟩
  · rw [clampS hb0 hb, cntB_succ, e2, h2, cntB_congr b.toNatClampNeg e1]
    rcases hw with hw | hw
    · rw [if_pos hw.2]; omega
    · rw [if_neg (by omega)]; omega
  · by_cases q : k = b.toNatClampNeg
    · subst q
      rw [e2]; omega
    · rw [← e1 k (by omega)]; exact h3 k (by omega)
theorem PI_open {f g : Nat → Int32} {a b b2 : Int32} (h : PI f g a b 1) (hb0 : 0 ≤ b2.toInt) (hb : b.toInt = b2.toInt + 1) (hw : (g b2.toNatClampNeg).toInt = 5) : PI f g a b2 1 := by
  obtain ⟨h1, h2, h3⟩ := h
  rw [clampS hb0 hb, cntB_succ, if_pos (Or.inl hw)] at h2
  exact ⟨h1, by omega, fun k hk => h3 k (by omega)⟩
def LOW (f g : Nat → Int32) : Prop := ∀ k : Nat, k < 256 → g k = f k
theorem LOW_r {f : Nat → Int32} : LOW f f := fun _ _ => rfl
theorem LOW_t {f g h : Nat → Int32} (h1 : LOW f g) (h2 : LOW g h) : LOW f h := fun k hk => (h2 k hk).trans (h1 k hk)
theorem LOW_u {f g f2 : Nat → Int32} {a : Nat} {w : Int32} (h : LOW f g) (hf : f2 = upd g (256 + a) w) : LOW f f2 := fun k hk => by
  rw [hf]; unfold upd; rw [if_neg (by omega)]; exact h k hk
def JW (f g : Nat → Int32) : Prop := ∀ w : Nat, w < 2 → WFc f (128 * w) (g w).toNatClampNeg
theorem JW_low {f g h : Nat → Int32} (hj : JW f g) (hg : ∀ k : Nat, k < 2 → 0 ≤ (g k).toInt ∧ (g k).toInt ≤ 127) (hl : LOW f h) : JW h g := fun w hw => by
  refine WFc_congr (fun j hj => ?_) (hj w hw)
  have h1 := hg w hw
  have h2 := i_clamp0 h1.1
  exact (hl _ (by omega)).symm
/-- what a step finds -/
theorem WF_at {f : Nat → Int32} {b n : Nat} {z i : Int32} {H : Int} (h : WFc f b n) (hb : (b : Int) ≤ i.toInt) (hi : i.toInt < b + n) (hz : z = f i.toNatClampNeg) (hH : H = hgt f b (i.toInt - b).toNat) : (z.toInt = 1 ∨ (100 ≤ z.toInt ∧ z.toInt ≤ 123)) ∨ ((z.toInt = 30 ∨ z.toInt = 70 ∨ z.toInt = 71) ∧ 1 ≤ H) ∨ (z.toInt ≠ 1 ∧ z.toInt < 100 ∧ 2 ≤ H) := by
  have hc := i_clamp0 (x := i) (by omega)
  have h1 := h (i.toInt - b).toNat (by omega)
  rw [show b + (i.toInt - b).toNat = i.toNatClampNeg by omega, ← hz, ← hH] at h1
  exact h1
theorem hgt_at {f : Nat → Int32} {b : Nat} {i j : Int32} (hb : (b : Int) ≤ i.toInt) (hj : j.toInt = i.toInt + 1) : hgt f b (j.toInt - b).toNat = hgt f b (i.toInt - b).toNat + dl (f i.toNatClampNeg) := by
  have hc := i_clamp0 (x := i) (by omega)
  rw [show (j.toInt - b).toNat = (i.toInt - b).toNat + 1 by omega, hgt_succ, show b + (i.toInt - b).toNat = i.toNatClampNeg by omega]
/-- a rule is laid into its place -/
def CPY (f g : Nat → Int32) (b n : Nat) : Prop := ∀ k : Nat, g k = if b ≤ k ∧ k < b + n then f (256 + (k - b)) else f k
theorem CPY_0 {f : Nat → Int32} {b n : Nat} (h : n = 0) : CPY f f b n := fun k => by rw [if_neg (by omega)]
theorem CPY_s {f g : Nat → Int32} {b n : Nat} {x i j : Int32} (h : CPY f g b n) (hb : b + n ≤ 256) (hi : i.toNatClampNeg = b + n) (hj : j.toNatClampNeg = 256 + n) (hx : x = g j.toNatClampNeg) : CPY f (upd g i.toNatClampNeg x) b (n + 1) := fun k => by
  unfold upd
  by_cases e : k = i.toNatClampNeg
  · rw [if_pos e, hx, h, if_neg (by omega), if_pos (by omega), hj, e, hi]
    congr 1
    omega
  · rw [if_neg e, h k]
    by_cases q : b ≤ k ∧ k < b + n
    · rw [if_pos q, if_pos (by omega)]
    · rw [if_neg q, if_neg (by omega)]
theorem JW_cpy {f g r : Nat → Int32} {w : Nat} {a : Int32} {n : Nat} (hj : JW f r) (hr : ∀ k : Nat, k < 2 → 0 ≤ (r k).toInt ∧ (r k).toInt ≤ 127) (hw : w < 2) (hn : n ≤ 127) (ha : a.toNatClampNeg = n) (hf : WFc f 256 n) (hc : CPY f g (128 * w) n) : JW g (upd r w a) := fun v hv => by
  by_cases e : v = w
  · subst e
    have e2 : upd r v a v = a := by unfold upd; rw [if_pos rfl]
    rw [e2, ha]
    refine WFc_congr (fun j hj2 => ?_) hf
    rw [hc, if_pos (by omega)]
    congr 1
    omega
  · have e2 : upd r w a v = r v := by unfold upd; rw [if_neg e]
    have h1 := hr v hv
    have h2 := i_clamp0 h1.1
    rw [e2]
    refine WFc_congr (fun j hj2 => ?_) (hj v hv)
    rw [hc, if_neg (by omega)]
/-- what the reference's rule() does: a fault and where it is, or a rule that is laid down at its place -/
def RMK (wh : Int32) (f34 f35 f36 f37 g34 g35 g36 g37 : Nat → Int32) (R : Int → List (Int × Int) → Prop) (r : Int32) : Prop :=
  (∃ v : Int, 0 ≤ v ∧ r.toInt = -100 - v ∧ R v [] ∧ g34 = f34 ∧ g35 = f35 ∧ LOW f36 g36 ∧ LOW f37 g37) ∨
  (r.toInt = 1 ∧ ∃ (la : Int32) (h36 h37 : Nat → Int32), 0 ≤ la.toInt ∧ la.toInt ≤ 120 ∧ R (-1) (oM h36 h37 256 la.toNatClampNeg) ∧ LOW f36 h36 ∧ LOW f37 h37 ∧ g34 = upd f34 wh.toNatClampNeg 1 ∧ g35 = upd f35 wh.toNatClampNeg la ∧ CPY h36 g36 (128 * wh.toNatClampNeg) la.toNatClampNeg ∧ CPY h37 g37 (128 * wh.toNatClampNeg) la.toNatClampNeg)
