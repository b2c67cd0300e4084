/-! ===== the class and the reference, tied: what is tied, and how it goes on ===== -/
def isW (k : Int32) : Prop := k.toInt = 0 ∨ k.toInt = 1
def KK1 (X1 X2 M1 M2 : Nat → Int32) : Prop := ∀ k : Nat, k < 16 → X1 k = M1 k ∧ ((X1 k).toInt = -5 ∨ (X1 k).toInt = 0 ∨ (X1 k).toInt = 1 ∨ (X1 k).toInt = 2) ∧ X2 k = M2 k ∧ ((X1 k).toInt = 1 → -50 ≤ (X2 k).toInt ∧ (X2 k).toInt ≤ 50)
theorem KK1_put {X1 X2 M1 M2 : Nat → Int32} (h : KK1 X1 X2 M1 M2) {a v : Int32} {p : Nat} (ha : a.toInt = -5 ∨ a.toInt = 0 ∨ a.toInt = 1 ∨ a.toInt = 2) (hv : a.toInt = 1 → -50 ≤ v.toInt ∧ v.toInt ≤ 50) : KK1 (upd X1 p a) (upd X2 p v) (upd M1 p a) (upd M2 p v) := fun k hk => by
  by_cases e : k = p
  · subst e
    rw [u_at, u_at, u_at, u_at]
    exact ⟨rfl, ha, rfl, hv⟩
  · rw [u_ne e, u_ne e, u_ne e, u_ne e]
    exact h k hk
theorem KK1_take {X1 X2 M1 M2 : Nat → Int32} (h : KK1 X1 X2 M1 M2) {p : Nat} : KK1 (upd X1 p (-5)) X2 (upd M1 p (-5)) M2 := fun k hk => by
  by_cases e : k = p
  · subst e
    rw [u_at, u_at]
    exact ⟨rfl, Or.inl (by decide), (h k hk).2.2.1, fun q => absurd q (by decide)⟩
  · rw [u_ne e, u_ne e]
    exact h k hk
def WR (a b : Int32) : Prop := (a.toInt = -100 ∧ b.toInt = -1000) ∨ (a = b ∧ -50 ≤ a.toInt ∧ a.toInt ≤ 50)
def KK2 (X0 M0 : Nat → Int32) : Prop := ∀ d : Nat, d < 400 → WR (X0 d) (M0 d)
theorem KK2_w {X0 M0 : Nat → Int32} (h : KK2 X0 M0) {a b : Int32} {p : Nat} (hab : WR a b) : KK2 (upd X0 p a) (upd M0 p b) := fun k hk => by
  by_cases e : k = p
  · subst e
    rw [u_at, u_at]
    exact hab
  · rw [u_ne e, u_ne e]
    exact h k hk
def KK3 (n : Int32) (X4 X5 X6 X7 X8 M9 M10 M11 M12 M13 : Nat → Int32) : Prop := ∀ i : Nat, (i : Int) < n.toInt → X4 i = M9 i ∧ X5 i = M10 i ∧ X6 i = M11 i ∧ X7 i = M12 i ∧ X8 i = M13 i ∧ (1 ≤ (X4 i).toInt ∧ (X4 i).toInt ≤ 5) ∧ (-10000 ≤ (X7 i).toInt ∧ (X7 i).toInt ≤ 10000)
theorem KK3_off {n n' a b c v t : Int32} {X4 X5 X6 X7 X8 M9 M10 M11 M12 M13 : Nat → Int32} (h : KK3 n X4 X5 X6 X7 X8 M9 M10 M11 M12 M13) (h0 : 0 ≤ n.toInt) (hn : n'.toInt = n.toInt + 1) (ha : 1 ≤ a.toInt ∧ a.toInt ≤ 5) (hv : -10000 ≤ v.toInt ∧ v.toInt ≤ 10000) :
    KK3 n' (upd X4 n.toNatClampNeg a) (upd X5 n.toNatClampNeg b) (upd X6 n.toNatClampNeg c) (upd X7 n.toNatClampNeg v) (upd X8 n.toNatClampNeg t) (upd M9 n.toNatClampNeg a) (upd M10 n.toNatClampNeg b) (upd M11 n.toNatClampNeg c) (upd M12 n.toNatClampNeg v) (upd M13 n.toNatClampNeg t) := fun i hi => by
  have hc := i_clamp0 h0
  by_cases e : i = n.toNatClampNeg
  · subst e
    exact ⟨by rw [u_at, u_at], by rw [u_at, u_at], by rw [u_at, u_at], by rw [u_at, u_at], by rw [u_at, u_at], by rw [u_at]; exact ha, by rw [u_at]; exact hv⟩
  · simp only [u_ne e]
    exact h i (by omega)
theorem KK3_n {n n' : Int32} {X4 X5 X6 X7 X8 M9 M10 M11 M12 M13 : Nat → Int32} (h : KK3 n X4 X5 X6 X7 X8 M9 M10 M11 M12 M13) (hn : n'.toInt = n.toInt) : KK3 n' X4 X5 X6 X7 X8 M9 M10 M11 M12 M13 := fun i hi => h i (by omega)
/-- one day of one watch -/
def WD (wf : Nat → Nat → Int32) (M3 M4 M5 M6 M7 : Nat → Int32) (p d : Nat) : Prop :=
  (((wf 1 d).toInt = -1 ∧ (M3 (400 * p + d)).toInt = 0) ∨ ((M3 (400 * p + d)).toInt ≠ 0 ∧ wf 1 d = M5 (400 * p + d) ∧ (0 ≤ (wf 1 d).toInt ∧ (wf 1 d).toInt ≤ 5) ∧ wf 0 d = M4 (400 * p + d) ∧ (-100000 ≤ (wf 0 d).toInt ∧ (wf 0 d).toInt ≤ 100000)))
  ∧ ((wf 2 d &&& 1).toInt ≠ 0 ↔ (M6 (400 * p + d)).toInt ≠ 0) ∧ ((wf 2 d &&& 2).toInt ≠ 0 ↔ (M7 (400 * p + d)).toInt ≠ 0)
def WHd (wf : Nat → Nat → Int32) (M8 : Nat → Int32) (t : Int) (p : Nat) : Prop :=
  (∀ d : Nat, (d : Int) ≤ t → d < 400 → wf 3 d = M8 (400 * p + d)) ∧ (∀ d : Nat, d < 400 → t ≤ (d : Int) → wf 3 d = wf 3 t.toNat)
def KK4 (t : Int32) (X1 : Nat → Int32) (wf : Nat → Nat → Nat → Int32) (M3 M4 M5 M6 M7 M8 : Nat → Int32) : Prop := ∀ p : Nat, p < 16 → isW (X1 p) → (∀ d : Nat, d < 400 → WD (wf p) M3 M4 M5 M6 M7 p d) ∧ WHd (wf p) M8 t.toInt p
theorem KK4_days {t t' : Int32} {X1 : Nat → Int32} {wf : Nat → Nat → Nat → Int32} {M3 M4 M5 M6 M7 M8 M8' : Nat → Int32} (h : KK4 t X1 wf M3 M4 M5 M6 M7 M8) (h0 : 0 ≤ t.toInt) (h1 : t.toInt ≤ t'.toInt) (h2 : t'.toInt ≤ 399) (hd : HD2 M8 M8' t.toInt t'.toInt 0) : KK4 t' X1 wf M3 M4 M5 M6 M7 M8' := fun p hp hw => by
  obtain ⟨a1, a2, a3⟩ := h p hp hw
  refine ⟨a1, fun d hd1 hd2 => ?_, fun d hd1 hd2 => ?_⟩
  · rw [hd p d hp hd2]
    by_cases q : t.toInt < (d : Int)
    · rw [if_pos (by omega), a3 d hd2 (by omega)]
      exact a2 t.toInt.toNat (by omega) (by omega)
    · rw [if_neg (by omega)]
      exact a2 d (by omega) hd2
  · rw [a3 d hd1 (by omega), a3 t'.toInt.toNat (by omega) (by omega)]
/-- the same rows elsewhere -/
theorem WD_eq {wf : Nat → Nat → Int32} {M3 M4 M5 M6 M7 N3 N4 N5 N6 N7 : Nat → Int32} {p d : Nat} (h : WD wf M3 M4 M5 M6 M7 p d) (h3 : N3 (400 * p + d) = M3 (400 * p + d)) (h4 : N4 (400 * p + d) = M4 (400 * p + d)) (h5 : N5 (400 * p + d) = M5 (400 * p + d)) (h6 : N6 (400 * p + d) = M6 (400 * p + d)) (h7 : N7 (400 * p + d) = M7 (400 * p + d)) : WD wf N3 N4 N5 N6 N7 p d := by
  unfold WD
  rw [h3, h4, h5, h6, h7]
  exact h
/-- one place changes -/
theorem KK4_at {t : Int32} {X1 Y1 : Nat → Int32} {wf : Nat → Nat → Nat → Int32} {gw : Nat → Nat → Int32} {M3 M4 M5 M6 M7 M8 N3 N4 N5 N6 N7 N8 : Nat → Int32} {p : Nat} (h : KK4 t X1 wf M3 M4 M5 M6 M7 M8) (hX : ∀ q : Nat, q ≠ p → Y1 q = X1 q)
    (hs : ∀ q d : Nat, q ≠ p → d < 400 → N3 (400 * q + d) = M3 (400 * q + d) ∧ N4 (400 * q + d) = M4 (400 * q + d) ∧ N5 (400 * q + d) = M5 (400 * q + d) ∧ N6 (400 * q + d) = M6 (400 * q + d) ∧ N7 (400 * q + d) = M7 (400 * q + d) ∧ N8 (400 * q + d) = M8 (400 * q + d))
    (hn : isW (Y1 p) → (∀ d : Nat, d < 400 → WD gw N3 N4 N5 N6 N7 p d) ∧ WHd gw N8 t.toInt p) : KK4 t Y1 (va_up wf p gw) N3 N4 N5 N6 N7 N8 := fun q hq hw => by
  by_cases e : q = p
  · subst e
    rw [up_at]
    exact hn hw
  · rw [up_ne e]
    rw [hX q e] at hw
    obtain ⟨a1, a2, a3⟩ := h q hq hw
    refine ⟨fun d hd => ?_, fun d hd1 hd2 => ?_, a3⟩
    · obtain ⟨b3, b4, b5, b6, b7, b8⟩ := hs q d e hd
      exact WD_eq (a1 d hd) b3 b4 b5 b6 b7
    · rw [(hs q d e hd2).2.2.2.2.2]
      exact a2 d hd1 hd2
/-- no watch there, behind it -/
theorem KK4_no {t : Int32} {X1 Y1 : Nat → Int32} {wf : Nat → Nat → Nat → Int32} {M3 M4 M5 M6 M7 M8 N3 N4 N5 N6 N7 N8 : Nat → Int32} {p : Nat} (h : KK4 t X1 wf M3 M4 M5 M6 M7 M8) (hX : ∀ q : Nat, q ≠ p → Y1 q = X1 q)
    (hs : ∀ q d : Nat, q ≠ p → d < 400 → N3 (400 * q + d) = M3 (400 * q + d) ∧ N4 (400 * q + d) = M4 (400 * q + d) ∧ N5 (400 * q + d) = M5 (400 * q + d) ∧ N6 (400 * q + d) = M6 (400 * q + d) ∧ N7 (400 * q + d) = M7 (400 * q + d) ∧ N8 (400 * q + d) = M8 (400 * q + d))
    (hn : ¬ isW (Y1 p)) : KK4 t Y1 wf N3 N4 N5 N6 N7 N8 := fun q hq hw => by
  by_cases e : q = p
  · subst e
    exact absurd hw hn
  · rw [hX q e] at hw
    obtain ⟨a1, a2, a3⟩ := h q hq hw
    refine ⟨fun d hd => ?_, fun d hd1 hd2 => ?_, a3⟩
    · obtain ⟨b3, b4, b5, b6, b7, b8⟩ := hs q d e hd
      exact WD_eq (a1 d hd) b3 b4 b5 b6 b7
    · rw [(hs q d e hd2).2.2.2.2.2]
      exact a2 d hd1 hd2
theorem fil_ne {f g : Nat → Int32} {p q d : Nat} {v : Int32} (h : FIL f g (400 * (p : Int)) (400 * (p : Int) + 400) v) (e : q ≠ p) (hd : d < 400) : g (400 * q + d) = f (400 * q + d) := by
  rw [h (400 * q + d), if_neg (by omega)]
theorem fil_at {f g : Nat → Int32} {p d : Nat} {v : Int32} (h : FIL f g (400 * (p : Int)) (400 * (p : Int) + 400) v) (hd : d < 400) : g (400 * p + d) = v := by
  rw [h (400 * p + d), if_pos (by omega)]
theorem KK4_put {t a : Int32} {X1 : Nat → Int32} {wf : Nat → Nat → Nat → Int32} {gw : Nat → Nat → Int32} {M3 M4 M5 M6 M7 M8 N3 N6 N7 N8 : Nat → Int32} {p : Nat} (h : KK4 t X1 wf M3 M4 M5 M6 M7 M8) (ht : 0 ≤ t.toInt ∧ t.toInt ≤ 399) (hN : NEW4 (gw 0) (gw 1) (gw 2) (gw 3) 400)
    (f3 : FIL M3 N3 (400 * (p : Int)) (400 * (p : Int) + 400) 0) (f6 : FIL M6 N6 (400 * (p : Int)) (400 * (p : Int) + 400) 0) (f7 : FIL M7 N7 (400 * (p : Int)) (400 * (p : Int) + 400) 0) (f8 : FIL M8 N8 (400 * (p : Int)) (400 * (p : Int) + 400) (-1)) : KK4 t (upd X1 p a) (va_up wf p gw) N3 M4 M5 N6 N7 N8 := by
  refine KK4_at h (fun q e => u_ne e) (fun q d e hd => ⟨fil_ne f3 e hd, rfl, rfl, fil_ne f6 e hd, fil_ne f7 e hd, fil_ne f8 e hd⟩) (fun _ => ⟨fun d hd => ?_, fun d h1 hd => ?_, fun d hd h1 => ?_⟩)
  · obtain ⟨n0, n1, n2, n3⟩ := hN d (by omega)
    refine ⟨Or.inl ⟨by rw [n1]; decide, by rw [fil_at f3 hd]; decide⟩, ?_, ?_⟩
    · rw [n2, fil_at f6 hd]; decide
    · rw [n2, fil_at f7 hd]; decide
  · rw [(hN d (by omega)).2.2.2, fil_at f8 hd]
  · rw [(hN d (by omega)).2.2.2, (hN t.toInt.toNat (by omega)).2.2.2]
theorem KK4_glass {t a : Int32} {X1 : Nat → Int32} {wf : Nat → Nat → Nat → Int32} {M3 M4 M5 M6 M7 M8 N3 N6 N7 N8 : Nat → Int32} {p : Nat} (h : KK4 t X1 wf M3 M4 M5 M6 M7 M8) (ha : a.toInt = 2)
    (f3 : FIL M3 N3 (400 * (p : Int)) (400 * (p : Int) + 400) 0) (f6 : FIL M6 N6 (400 * (p : Int)) (400 * (p : Int) + 400) 0) (f7 : FIL M7 N7 (400 * (p : Int)) (400 * (p : Int) + 400) 0) (f8 : FIL M8 N8 (400 * (p : Int)) (400 * (p : Int) + 400) (-1)) : KK4 t (upd X1 p a) wf N3 M4 M5 N6 N7 N8 := by
  refine KK4_no h (fun q e => u_ne e) (fun q d e hd => ⟨fil_ne f3 e hd, rfl, rfl, fil_ne f6 e hd, fil_ne f7 e hd, fil_ne f8 e hd⟩) (fun hw => ?_)
  rw [u_at] at hw
  unfold isW at hw
  omega
theorem KK4_take {t : Int32} {X1 : Nat → Int32} {wf : Nat → Nat → Nat → Int32} {M3 M4 M5 M6 M7 M8 : Nat → Int32} {p : Nat} (h : KK4 t X1 wf M3 M4 M5 M6 M7 M8) : KK4 t (upd X1 p (-5)) wf M3 M4 M5 M6 M7 M8 := by
  refine KK4_no h (fun q e => u_ne e) (fun q d e hd => ⟨rfl, rfl, rfl, rfl, rfl, rfl⟩) (fun hw => ?_)
  rw [u_at] at hw
  exact absurd hw (by unfold isW; decide)
theorem u_row {f : Nat → Int32} {p q d e : Nat} {v : Int32} (h : q ≠ p) (hd : d < 400) (he : e < 400) : upd f (400 * p + e) v (400 * q + d) = f (400 * q + d) := u_ne (by omega)
theorem KK4_compare {t er sr : Int32} {X1 : Nat → Int32} {wf : Nat → Nat → Nat → Int32} {gw : Nat → Nat → Int32} {M3 M4 M5 M6 M7 M8 : Nat → Int32} {p e : Nat} (h : KK4 t X1 wf M3 M4 M5 M6 M7 M8) (hp : p < 16) (he : e < 400) (hsr : 0 ≤ sr.toInt ∧ sr.toInt ≤ 5) (her : -100000 ≤ er.toInt ∧ er.toInt ≤ 100000)
    (g0 : gw 0 = upd (wf p 0) e er) (g1 : gw 1 = upd (wf p 1) e sr) (g2 : gw 2 = wf p 2) (g3 : gw 3 = wf p 3) : KK4 t X1 (va_up wf p gw) (upd M3 (400 * p + e) 1) (upd M4 (400 * p + e) er) (upd M5 (400 * p + e) sr) M6 M7 M8 := by
  refine KK4_at h (fun q _ => rfl) (fun q d hq hd => ⟨u_row hq hd he, u_row hq hd he, u_row hq hd he, rfl, rfl, rfl⟩) (fun hw => ?_)
  obtain ⟨a1, a2, a3⟩ := h p hp hw
  refine ⟨fun d hd => ?_, ?_⟩
  · obtain ⟨b1, b2, b3⟩ := a1 d hd
    unfold WD
    rw [g0, g1, g2]
    refine ⟨?_, b2, b3⟩
    by_cases q : d = e
    · subst q
      exact Or.inr ⟨by rw [u_at]; decide, by rw [u_at, u_at], by rw [u_at]; exact hsr, by rw [u_at, u_at], by rw [u_at]; exact her⟩
    · have q2 : 400 * p + d ≠ 400 * p + e := by omega
      rw [u_ne q, u_ne q, u_ne q2, u_ne q2, u_ne q2]
      exact b1
  · unfold WHd
    rw [g3]
    exact ⟨a2, a3⟩
theorem a_or_r (x y z : Int32) : (x ||| y) &&& z = (x &&& z) ||| (y &&& z) := Int32.toBitVec_inj.1 BitVec.and_or_distrib_right
theorem or_same {x m : Int32} (hm : ¬ m = 0) : ((x ||| m) &&& m).toInt ≠ 0 := by
  rw [a_or_r, Int32.and_self]
  intro h
  have h2 : (x &&& m) ||| m = 0 := i_eq.mpr (by rw [h]; rfl)
  rw [Int32.or_eq_zero_iff] at h2
  exact hm h2.2
theorem or_other {x m k : Int32} (hk : m &&& k = 0) : (x ||| m) &&& k = x &&& k := by rw [a_or_r, hk, Int32.or_zero]
/-- a mark that is new -/
theorem KK4_repair {t : Int32} {X1 : Nat → Int32} {wf : Nat → Nat → Nat → Int32} {gw : Nat → Nat → Int32} {M3 M4 M5 M6 M7 M8 : Nat → Int32} {p e : Nat} (h : KK4 t X1 wf M3 M4 M5 M6 M7 M8) (hp : p < 16) (he : e < 400)
    (g2 : gw 2 = upd (wf p 2) e (wf p 2 e ||| 1) ∨ ((wf p 2 e &&& 1).toInt ≠ 0 ∧ gw 2 = wf p 2)) (g0 : gw 0 = wf p 0) (g1 : gw 1 = wf p 1) (g3 : gw 3 = wf p 3) : KK4 t X1 (va_up wf p gw) M3 M4 M5 (upd M6 (400 * p + e) 1) M7 M8 := by
  refine KK4_at h (fun q _ => rfl) (fun q d hq hd => ⟨rfl, rfl, rfl, u_row hq hd he, rfl, rfl⟩) (fun hw => ?_)
  obtain ⟨a1, a2, a3⟩ := h p hp hw
  refine ⟨fun d hd => ?_, ?_⟩
  · obtain ⟨b1, b2, b3⟩ := a1 d hd
    unfold WD
    rw [g0, g1]
    refine ⟨b1, ?_, ?_⟩
    · by_cases q : d = e
      · subst q
        rw [u_at]
        refine ⟨fun _ => by decide, fun _ => ?_⟩
        rcases g2 with g2 | ⟨g4, g2⟩
        · rw [g2, u_at]; exact or_same (by decide)
        · rw [g2]; exact g4
      · rw [u_ne (show 400 * p + d ≠ 400 * p + e by omega)]
        rcases g2 with g2 | ⟨g4, g2⟩
        · rw [g2, u_ne q]; exact b2
        · rw [g2]; exact b2
    · rcases g2 with g2 | ⟨g4, g2⟩
      · by_cases q : d = e
        · subst q
          rw [g2, u_at, or_other (by decide)]; exact b3
        · rw [g2, u_ne q]; exact b3
      · rw [g2]; exact b3
  · unfold WHd
    rw [g3]
    exact ⟨a2, a3⟩
theorem KK4_late {t : Int32} {X1 : Nat → Int32} {wf : Nat → Nat → Nat → Int32} {gw : Nat → Nat → Int32} {M3 M4 M5 M6 M7 M8 : Nat → Int32} {p e : Nat} (h : KK4 t X1 wf M3 M4 M5 M6 M7 M8) (hp : p < 16) (he : e < 400)
    (g2 : gw 2 = upd (wf p 2) e (wf p 2 e ||| 2) ∨ ((wf p 2 e &&& 2).toInt ≠ 0 ∧ gw 2 = wf p 2)) (g0 : gw 0 = wf p 0) (g1 : gw 1 = wf p 1) (g3 : gw 3 = wf p 3) : KK4 t X1 (va_up wf p gw) M3 M4 M5 M6 (upd M7 (400 * p + e) 1) M8 := by
  refine KK4_at h (fun q _ => rfl) (fun q d hq hd => ⟨rfl, rfl, rfl, rfl, u_row hq hd he, rfl⟩) (fun hw => ?_)
  obtain ⟨a1, a2, a3⟩ := h p hp hw
  refine ⟨fun d hd => ?_, ?_⟩
  · obtain ⟨b1, b2, b3⟩ := a1 d hd
    unfold WD
    rw [g0, g1]
    refine ⟨b1, ?_, ?_⟩
    · rcases g2 with g2 | ⟨g4, g2⟩
      · by_cases q : d = e
        · subst q
          rw [g2, u_at, or_other (by decide)]; exact b2
        · rw [g2, u_ne q]; exact b2
      · rw [g2]; exact b2
    · by_cases q : d = e
      · subst q
        rw [u_at]
        refine ⟨fun _ => by decide, fun _ => ?_⟩
        rcases g2 with g2 | ⟨g4, g2⟩
        · rw [g2, u_at]; exact or_same (by decide)
        · rw [g2]; exact g4
      · rw [u_ne (show 400 * p + d ≠ 400 * p + e by omega)]
        rcases g2 with g2 | ⟨g4, g2⟩
        · rw [g2, u_ne q]; exact b3
        · rw [g2]; exact b3
  · unfold WHd
    rw [g3]
    exact ⟨a2, a3⟩
/-- nothing of the watch's rows but where it stands has changed -/
theorem va_self {α : Type} {f : Nat → α} {i : Nat} {x : α} (h : x = f i) : va_up f i x = f := by
  funext j
  by_cases e : j = i
  · subst e; rw [up_at, h]
  · rw [up_ne e]
theorem wf_ext {g h : Nat → Nat → Int32} (e0 : g 0 = h 0) (e1 : g 1 = h 1) (e2 : g 2 = h 2) (e3 : g 3 = h 3) : ∀ k : Nat, k < 4 → g k = h k := fun k hk => by
  rcases (show k = 0 ∨ k = 1 ∨ k = 2 ∨ k = 3 by omega) with rfl | rfl | rfl | rfl
  · exact e0
  · exact e1
  · exact e2
  · exact e3
theorem WD_wf {g h : Nat → Nat → Int32} {M3 M4 M5 M6 M7 : Nat → Int32} {p d : Nat} (hw : WD h M3 M4 M5 M6 M7 p d) (e : ∀ k : Nat, k < 4 → g k = h k) : WD g M3 M4 M5 M6 M7 p d := by
  unfold WD
  rw [e 0 (by decide), e 1 (by decide), e 2 (by decide)]
  exact hw
theorem WH_wf {g h : Nat → Nat → Int32} {M8 : Nat → Int32} {p : Nat} {t : Int} (hw : WHd h M8 t p) (e : ∀ k : Nat, k < 4 → g k = h k) : WHd g M8 t p := by
  unfold WHd
  rw [e 3 (by decide)]
  exact hw
theorem KK4_same {t : Int32} {X1 : Nat → Int32} {wf : Nat → Nat → Nat → Int32} {gw : Nat → Nat → Int32} {M3 M4 M5 M6 M7 M8 : Nat → Int32} {p : Nat} (h : KK4 t X1 wf M3 M4 M5 M6 M7 M8) (hp : p < 16) (e : ∀ k : Nat, k < 4 → gw k = wf p k) : KK4 t X1 (va_up wf p gw) M3 M4 M5 M6 M7 M8 :=
  KK4_at h (fun _ _ => rfl) (fun _ _ _ _ => ⟨rfl, rfl, rfl, rfl, rfl, rfl⟩) (fun hw => ⟨fun d hd => WD_wf ((h p hp hw).1 d hd) e, WH_wf (h p hp hw).2 e⟩)
/-- another holder from today on -/
theorem WH_give {t : Int32} {g h : Nat → Nat → Int32} {M8 : Nat → Int32} {v : Int32} {p : Nat} (ht : 0 ≤ t.toInt ∧ t.toInt ≤ 399) (hw : WHd h M8 t.toInt p) (hg : GIV (h 3) (g 3) t.toInt v) {N8 : Nat → Int32} (h1 : N8 (400 * p + t.toInt.toNat) = v) (h2 : ∀ d : Nat, d < 400 → d ≠ t.toInt.toNat → N8 (400 * p + d) = M8 (400 * p + d)) : WHd g N8 t.toInt p := by
  refine ⟨fun d hd1 hd2 => ?_, fun d hd1 hd2 => ?_⟩
  · rw [hg d hd2]
    by_cases q : d = t.toInt.toNat
    · subst q
      rw [if_pos (by omega), h1]
    · rw [if_neg (by omega), h2 d hd2 q]
      exact hw.1 d hd1 hd2
  · rw [hg d hd1, hg t.toInt.toNat (by omega), if_pos (by omega), if_pos (by omega)]
theorem KK4_give {t v : Int32} {X1 : Nat → Int32} {wf : Nat → Nat → Nat → Int32} {gw : Nat → Nat → Int32} {M3 M4 M5 M6 M7 M8 : Nat → Int32} {p : Nat} (h : KK4 t X1 wf M3 M4 M5 M6 M7 M8) (hp : p < 16) (ht : 0 ≤ t.toInt ∧ t.toInt ≤ 399)
    (g0 : gw 0 = wf p 0) (g1 : gw 1 = wf p 1) (g2 : gw 2 = wf p 2) (g3 : GIV (wf p 3) (gw 3) t.toInt v) : KK4 t X1 (va_up wf p gw) M3 M4 M5 M6 M7 (upd M8 (400 * p + t.toInt.toNat) v) := by
  refine KK4_at h (fun q _ => rfl) (fun q d hq hd => ⟨rfl, rfl, rfl, rfl, rfl, u_row hq hd (by omega)⟩) (fun hw => ?_)
  obtain ⟨a1, a2⟩ := h p hp hw
  refine ⟨fun d hd => ?_, WH_give ht a2 g3 u_at (fun d hd hq => u_ne (by omega))⟩
  have b := a1 d hd
  unfold WD at b ⊢
  rw [g0, g1, g2]
  exact b
/-- ships -/
def SP (t : Int) (X1 : Nat → Int32) (wf : Nat → Nat → Nat → Int32) (j : Nat) (x : Int32) : Prop := (0 ≤ x.toInt ∧ x.toInt ≤ 15) ∧ isW (X1 x.toNatClampNeg) ∧ (wf x.toNatClampNeg 3 t.toNat).toInt = 100 + (j : Int)
def SR (t : Int) (X1 : Nat → Int32) (wf : Nat → Nat → Nat → Int32) (gv : Nat → Int32) (g0 : Nat → Int32) (M25 M26 M28 : Nat → Int32) (j : Nat) : Prop :=
  gv 1 = M25 j ∧ ((gv 1).toInt = 0 ∨ (gv 1).toInt = 1 ∨ (gv 1).toInt = 2) ∧ ((gv 1).toInt ≠ 0 → gv 2 = M26 j ∧ ∀ i : Nat, i < 3 → g0 i = M28 (3 * j + i))
  ∧ ((gv 1).toInt = 1 → (0 ≤ (gv 2).toInt ∧ (gv 2).toInt ≤ t) ∧ (∀ i : Nat, i < 3 → SP t X1 wf j (g0 i)) ∧ (g0 0).toInt ≠ (g0 1).toInt ∧ (g0 0).toInt ≠ (g0 2).toInt ∧ (g0 1).toInt ≠ (g0 2).toInt)
def KK5 (t : Int32) (X1 : Nat → Int32) (wf : Nat → Nat → Nat → Int32) (yv : Nat → Nat → Int32) (yf : Nat → Nat → Nat → Int32) (M25 M26 M28 : Nat → Int32) : Prop := ∀ j : Nat, j < 5 → SR t.toInt X1 wf (yv j) (yf j 0) M25 M26 M28 j
theorem KK5_mono {t t' : Int32} {X1 Y1 : Nat → Int32} {wf wf' : Nat → Nat → Nat → Int32} {yv : Nat → Nat → Int32} {yf : Nat → Nat → Nat → Int32} {M25 M26 M28 : Nat → Int32} (h : KK5 t X1 wf yv yf M25 M26 M28) (ht : t.toInt ≤ t'.toInt) (hs : ∀ (j : Nat) (x : Int32), j < 5 → SP t.toInt X1 wf j x → SP t'.toInt Y1 wf' j x) : KK5 t' Y1 wf' yv yf M25 M26 M28 := fun j hj => by
  obtain ⟨a1, a2, a3, a4⟩ := h j hj
  refine ⟨a1, a2, a3, fun q => ?_⟩
  obtain ⟨b1, b2, b3⟩ := a4 q
  exact ⟨by omega, fun i hi => hs j _ hj (b2 i hi), b3⟩
theorem SP_days {t t' : Int32} {X1 : Nat → Int32} {wf : Nat → Nat → Nat → Int32} {M3 M4 M5 M6 M7 M8 : Nat → Int32} (h : KK4 t X1 wf M3 M4 M5 M6 M7 M8) (h1 : t.toInt ≤ t'.toInt) (h2 : 0 ≤ t.toInt ∧ t'.toInt ≤ 399) (j : Nat) (x : Int32) (hj : j < 5) (hx : SP t.toInt X1 wf j x) : SP t'.toInt X1 wf j x := by
  obtain ⟨a1, a2, a3⟩ := hx
  have hc := i_clamp0 a1.1
  refine ⟨a1, a2, ?_⟩
  rw [(h x.toNatClampNeg (by omega) a2).2.2 t'.toInt.toNat (by omega) (by omega)]
  exact a3
theorem SP_ne {t : Int} {X1 Y1 : Nat → Int32} {wf : Nat → Nat → Nat → Int32} {gw : Nat → Nat → Int32} {p j : Nat} {x : Int32} (hx : SP t X1 wf j x) (hn : x.toNatClampNeg ≠ p) (hX : ∀ q : Nat, q ≠ p → Y1 q = X1 q) : SP t Y1 (va_up wf p gw) j x := by
  obtain ⟨a1, a2, a3⟩ := hx
  refine ⟨a1, ?_, ?_⟩
  · rw [hX _ hn]; exact a2
  · rw [up_ne hn]; exact a3
theorem SP_nx {t : Int} {X1 Y1 : Nat → Int32} {wf : Nat → Nat → Nat → Int32} {p j : Nat} {x : Int32} (hx : SP t X1 wf j x) (hn : x.toNatClampNeg ≠ p) (hX : ∀ q : Nat, q ≠ p → Y1 q = X1 q) : SP t Y1 wf j x := by
  obtain ⟨a1, a2, a3⟩ := hx
  refine ⟨a1, ?_, a3⟩
  rw [hX _ hn]; exact a2
theorem SP_w3 {t : Int} {X1 : Nat → Int32} {wf : Nat → Nat → Nat → Int32} {gw : Nat → Nat → Int32} {p j : Nat} {x : Int32} (hx : SP t X1 wf j x) (hg : gw 3 = wf p 3) : SP t X1 (va_up wf p gw) j x := by
  obtain ⟨a1, a2, a3⟩ := hx
  refine ⟨a1, a2, ?_⟩
  by_cases e : x.toNatClampNeg = p
  · rw [e, up_at, hg, ← e]; exact a3
  · rw [up_ne e]; exact a3
theorem SP_k {t : Int} {X1 : Nat → Int32} {wf : Nat → Nat → Nat → Int32} {p j : Nat} {x : Int32} (hx : SP t X1 wf j x) (hn : ¬ isW (X1 p)) : x.toNatClampNeg ≠ p := fun e => by
  obtain ⟨a1, a2, a3⟩ := hx
  rw [e] at a2
  exact hn a2
theorem SP_h {t : Int} {X1 : Nat → Int32} {wf : Nat → Nat → Nat → Int32} {p j : Nat} {x : Int32} (hx : SP t X1 wf j x) (hn : (wf p 3 t.toNat).toInt ≤ 99) : x.toNatClampNeg ≠ p := fun e => by
  obtain ⟨a1, a2, a3⟩ := hx
  rw [e] at a3
  omega
/-! ===== errors and rates of both sides ===== -/
theorem errS_off {sg fr to bz od : Nat → Int32} {src day k v0 : Int32} (hk : -1 ≤ k.toInt) : ∀ n : Nat, errS sg fr to bz od src day k v0 n = v0 - offS sg fr to bz od src day k n
  | 0 => by show v0 = v0 - 0; simp
  | n + 1 => by
    rw [errS_succ, offS_succ, errS_off hk n]
    by_cases h : (sg n).toInt = src.toInt ∧ ((fr n).toInt ≤ day.toInt ∧ day.toInt ≤ (to n).toInt) ∧ (k.toInt = -1 ∨ (od n).toInt ≤ k.toInt)
    · rw [if_pos h, if_pos (by omega)]
      generalize offS sg fr to bz od src day k n = x
      generalize bz n = y
      rw [Int32.sub_eq_add_neg, Int32.sub_eq_add_neg, Int32.sub_eq_add_neg, Int32.neg_add, Int32.add_assoc, show -x - y = -x + -y from Int32.sub_eq_add_neg _ _]
    · rw [if_neg h, if_neg (by omega)]
theorem offS_congr {sg fr to bz od sg' fr' to' bz' od' : Nat → Int32} {src day k : Int32} : ∀ n : Nat, (∀ i, i < n → sg i = sg' i ∧ fr i = fr' i ∧ to i = to' i ∧ bz i = bz' i ∧ od i = od' i) → offS sg fr to bz od src day k n = offS sg' fr' to' bz' od' src day k n
  | 0, _ => rfl
  | n + 1, h => by
    obtain ⟨h1, h2, h3, h4, h5⟩ := h n (by omega)
    rw [offS_succ, offS_succ, offS_congr n (fun i hi => h i (by omega)), h1, h2, h3, h4, h5]
theorem offS_none {sg fr to bz od : Nat → Int32} {src day k : Int32} : ∀ n : Nat, (∀ i, i < n → (sg i).toInt ≠ src.toInt) → offS sg fr to bz od src day k n = 0
  | 0, _ => rfl
  | n + 1, h => by
    rw [offS_succ, if_neg (fun q => h n (by omega) q.1), offS_none n (fun i hi => h i (by omega))]
/-- how far offs can go -/
theorem offS_abs {sg fr to bz od : Nat → Int32} {src day k : Int32} : ∀ n : Nat, n ≤ 60 → (∀ i, i < n → -10000 ≤ (bz i).toInt ∧ (bz i).toInt ≤ 10000) → -(10000 * (n : Int)) ≤ (offS sg fr to bz od src day k n).toInt ∧ (offS sg fr to bz od src day k n).toInt ≤ 10000 * (n : Int)
  | 0, _, _ => by show -(10000 * ((0 : Nat) : Int)) ≤ (0 : Int32).toInt ∧ (0 : Int32).toInt ≤ 10000 * ((0 : Nat) : Int); decide
  | n + 1, hn, h => by
    have ih := offS_abs (sg := sg) (fr := fr) (to := to) (od := od) (src := src) (day := day) (k := k) n (by omega) (fun i hi => h i (by omega))
    have hb := h n (by omega)
    rw [offS_succ]
    split
    · rw [i_add (by omega) (by omega)]
      omega
    · omega
theorem ix400 {p d : Int32} (hp : 0 ≤ p.toInt ∧ p.toInt ≤ 15) (hd : 0 ≤ d.toInt ∧ d.toInt ≤ 399) : (400 * p + d).toNatClampNeg = 400 * p.toNatClampNeg + d.toNatClampNeg := by
  have h4 : (400 : Int32).toInt = 400 := by decide
  have e1 : (400 * p).toInt = 400 * p.toInt := g_mul h4 rfl (by omega) (by omega)
  have e2 : (400 * p + d).toInt = 400 * p.toInt + d.toInt := g_add e1 rfl (by omega) (by omega)
  have c0 := i_clamp0 (x := 400 * p + d) (by omega)
  have c1 := i_clamp0 hp.1
  have c2 := i_clamp0 hd.1
  omega
theorem and3 (x : Int32) : (x &&& 3).toInt ≠ 0 ↔ (x &&& 1).toInt ≠ 0 ∨ (x &&& 2).toInt ≠ 0 := by
  have e0 : ∀ y : Int32, y.toInt = 0 ↔ y = 0 := fun y => ⟨fun h => i_eq.mpr (by rw [h]; rfl), fun h => by rw [h]; rfl⟩
  rw [Ne, Ne, Ne, e0, e0, e0]
  have key : x &&& 3 = 0 ↔ (x &&& 1 = 0 ∧ x &&& 2 = 0) := by
    constructor
    · intro h
      constructor
      · have : x &&& 1 = (x &&& 3) &&& 1 := by rw [Int32.and_assoc]; rfl
        rw [this, h]; rfl
      · have : x &&& 2 = (x &&& 3) &&& 2 := by rw [Int32.and_assoc]; rfl
        rw [this, h]; rfl
    · intro h
      have : x &&& 3 = (x &&& 1) ||| (x &&& 2) := by rw [show (3 : Int32) = 1 ||| 2 by decide]; exact Int32.toBitVec_inj.1 BitVec.and_or_distrib_left
      rw [this, h.1, h.2]; rfl
  rw [key]
  constructor
  · intro h
    by_cases q : x &&& 1 = 0
    · exact Or.inr (fun q2 => h ⟨q, q2⟩)
    · exact Or.inl q
  · intro h q
    rcases h with h | h
    · exact h q.1
    · exact h q.2
theorem eX_err {wf : Nat → Nat → Int32} {X4 X5 X6 X7 X8 M3 M4 M5 M6 M7 M9 M10 M11 M12 M13 : Nat → Int32} {n n' p d k : Int32} (hp : 0 ≤ p.toInt ∧ p.toInt ≤ 15) (hd : 0 ≤ d.toInt ∧ d.toInt ≤ 399) (hk : -1 ≤ k.toInt) (hn : n.toInt = n'.toInt) (hn0 : 0 ≤ n.toInt) (h3 : KK3 n X4 X5 X6 X7 X8 M9 M10 M11 M12 M13) (hw : WD wf M3 M4 M5 M6 M7 p.toNatClampNeg d.toNatClampNeg) :
    eX (wf 0) (wf 1) X4 X5 X6 X7 X8 n d k = errF M3 M4 M5 M9 M10 M11 M12 M13 n' p d k := by
  have hc := i_clamp0 hn0
  have e1 := i_eq.mpr hn
  subst e1
  unfold eX errF
  rw [ix400 hp hd]
  rcases hw.1 with ⟨a1, a2⟩ | ⟨a1, a2, a3, a4, a5⟩
  · rw [if_neg (by omega), if_pos a2]
  · rw [if_pos (by omega), if_neg a1, errS_off hk, a4]
    congr 1
    unfold sumF
    have hcg := offS_congr (src := wf 1 d.toNatClampNeg) (day := d) (k := k) n.toNatClampNeg (fun i hi => (fun q => ⟨q.1, q.2.1, q.2.2.1, q.2.2.2.1, q.2.2.2.2.1⟩) (h3 i (by omega)))
    by_cases q : (wf 1 d.toNatClampNeg).toInt = 0
    · rw [if_pos q, ← a2, ← hcg, offS_none _ (fun i hi => by have := (h3 i (by omega)).2.2.2.2.2.1; omega)]
    · rw [if_neg q, ← a2, hcg]
theorem szF_le {x : Int32} (h : -2147483647 ≤ x.toInt) : 999 < (szF x).toInt ↔ ¬ (-999 ≤ x.toInt ∧ x.toInt ≤ 999) := by
  unfold szF
  split
  · rw [i_neg h]; omega
  · omega
theorem sub_small {a b : Int32} (ha : -700000 ≤ a.toInt ∧ a.toInt ≤ 700000) (hb : -700000 ≤ b.toInt ∧ b.toInt ≤ 700000) : (b - a).toInt = b.toInt - a.toInt := i_sub (by omega) (by omega)
theorem szF_small {a b : Int32} (ha : -700000 ≤ a.toInt ∧ a.toInt ≤ 700000) (hb : -700000 ≤ b.toInt ∧ b.toInt ≤ 700000) : 999 < (szF (b - a)).toInt ↔ ¬ (-999 ≤ (b - a).toInt ∧ (b - a).toInt ≤ 999) := szF_le (by rw [sub_small ha hb]; omega)
/-- an error that is there is not far -/
theorem eX_abs {wf : Nat → Nat → Int32} {X4 X5 X6 X7 X8 M3 M4 M5 M6 M7 M9 M10 M11 M12 M13 : Nat → Int32} {n d k : Int32} {p : Nat} (hd : 0 ≤ d.toInt ∧ d.toInt ≤ 399) (hn : 0 ≤ n.toInt ∧ n.toInt ≤ 60) (h3 : KK3 n X4 X5 X6 X7 X8 M9 M10 M11 M12 M13) (hw : WD wf M3 M4 M5 M6 M7 p d.toNatClampNeg) :
    (eX (wf 0) (wf 1) X4 X5 X6 X7 X8 n d k).toInt = -2000000000 ∨ (-700000 ≤ (eX (wf 0) (wf 1) X4 X5 X6 X7 X8 n d k).toInt ∧ (eX (wf 0) (wf 1) X4 X5 X6 X7 X8 n d k).toInt ≤ 700000) := by
  have hc := i_clamp0 hn.1
  unfold eX
  rcases hw.1 with ⟨a1, a2⟩ | ⟨a1, a2, a3, a4, a5⟩
  · rw [if_neg (by omega)]; exact Or.inl (by decide)
  · rw [if_pos (by omega)]
    have hs : -600000 ≤ (sumF X4 X5 X6 X7 X8 n (wf 1 d.toNatClampNeg) d k).toInt ∧ (sumF X4 X5 X6 X7 X8 n (wf 1 d.toNatClampNeg) d k).toInt ≤ 600000 := by
      unfold sumF
      split
      · decide
      · have h9 := offS_abs (sg := X4) (fr := X5) (to := X6) (bz := X7) (od := X8) (src := wf 1 d.toNatClampNeg) (day := d) (k := k) n.toNatClampNeg (by omega) (fun i hi => (h3 i (by omega)).2.2.2.2.2.2)
        omega
    generalize sumF X4 X5 X6 X7 X8 n (wf 1 d.toNatClampNeg) d k = x at hs ⊢
    rw [i_sub (by omega) (by omega)]
    omega
theorem rX_rat {wf : Nat → Nat → Int32} {X4 X5 X6 X7 X8 M3 M4 M5 M6 M7 M9 M10 M11 M12 M13 : Nat → Int32} {n n' p d k : Int32} (hp : 0 ≤ p.toInt ∧ p.toInt ≤ 15) (hd : 0 ≤ d.toInt ∧ d.toInt ≤ 398) (hk : -1 ≤ k.toInt) (hn : n.toInt = n'.toInt) (hn0 : 0 ≤ n.toInt ∧ n.toInt ≤ 60) (h3 : KK3 n X4 X5 X6 X7 X8 M9 M10 M11 M12 M13) (hw : ∀ e : Nat, e < 400 → WD wf M3 M4 M5 M6 M7 p.toNatClampNeg e) :
    rX (wf 0) (wf 1) (wf 2) X4 X5 X6 X7 X8 n d k = ratF M3 M4 M5 M6 M7 M9 M10 M11 M12 M13 n' p d k := by
  have h1 : (1 : Int32).toInt = 1 := by decide
  have hd1 : (d + 1).toInt = d.toInt + 1 := g_add rfl h1 (by omega) (by omega)
  have hc := i_clamp0 hd.1
  have hc1 := i_clamp0 (x := d + 1) (by omega)
  have ha : (400 * p + d).toInt = 400 * p.toInt + d.toInt := by
    have h4 : (400 : Int32).toInt = 400 := by decide
    exact g_add (g_mul h4 rfl (by omega) (by omega)) rfl (by omega) (by omega)
  have hix := ix400 hp (d := d) (by omega)
  have hix1 : (400 * p + d + 1).toNatClampNeg = 400 * p.toNatClampNeg + (d + 1).toNatClampNeg := by
    have e2 : (400 * p + d + 1).toInt = 400 * p.toInt + d.toInt + 1 := g_add ha h1 (by omega) (by omega)
    have c0 := i_clamp0 (x := 400 * p + d + 1) (by omega)
    have c1 := i_clamp0 hp.1
    omega
  unfold rX ratF rbX ratG
  have hw1 := hw (d + 1).toNatClampNeg (by omega)
  have hw0 := hw d.toNatClampNeg (by omega)
  rw [← eX_err hp (d := d) (by omega) hk hn hn0.1 h3 hw0, ← eX_err hp (d := d + 1) (by omega) hk hn hn0.1 h3 hw1, hix, hix1]
  have m3 := and3 (wf 2 (d + 1).toNatClampNeg)
  have D0 : 0 ≤ d.toInt ∧ d.toInt ≤ 399 := by omega
  have D1 : 0 ≤ (d + 1).toInt ∧ (d + 1).toInt ≤ 399 := by omega
  have cnd : (((0 ≤ d.toInt ∧ d.toInt ≤ 399) ∧ (wf 2 d.toNatClampNeg &&& 2).toInt ≠ 0) ∨ ((0 ≤ (d + 1).toInt ∧ (d + 1).toInt ≤ 399) ∧ (wf 2 (d + 1).toNatClampNeg &&& 3).toInt ≠ 0)) ↔ ((M6 (400 * p.toNatClampNeg + (d + 1).toNatClampNeg)).toInt ≠ 0 ∨ (M7 (400 * p.toNatClampNeg + d.toNatClampNeg)).toInt ≠ 0 ∨ (M7 (400 * p.toNatClampNeg + (d + 1).toNatClampNeg)).toInt ≠ 0) := by
    have r1 := hw1.2.1
    have l1 := hw1.2.2
    have l0 := hw0.2.2
    rw [m3, r1, l1, l0]
    constructor
    · rintro (⟨_, h⟩ | ⟨_, h | h⟩)
      · exact Or.inr (Or.inl h)
      · exact Or.inl h
      · exact Or.inr (Or.inr h)
    · rintro (h | h | h)
      · exact Or.inr ⟨D1, Or.inl h⟩
      · exact Or.inl ⟨D0, h⟩
      · exact Or.inr ⟨D1, Or.inr h⟩
  have b0 := eX_abs (k := k) (d := d) D0 hn0 h3 hw0
  have b1 := eX_abs (k := k) (d := d + 1) D1 hn0 h3 hw1
  generalize eX (wf 0) (wf 1) X4 X5 X6 X7 X8 n d k = a at b0 ⊢
  generalize eX (wf 0) (wf 1) X4 X5 X6 X7 X8 n (d + 1) k = b at b1 ⊢
  by_cases c1 : a.toInt = -2000000000 ∨ b.toInt = -2000000000 ∨ ¬ (-999 ≤ (b - a).toInt ∧ (b - a).toInt ≤ 999)
  · rw [if_pos c1]
    have c3 : a.toInt = -2000000000 ∨ b.toInt = -2000000000 ∨ 999 < (szF (b - a)).toInt := by
      by_cases qa : a.toInt = -2000000000
      · exact Or.inl qa
      · by_cases qb : b.toInt = -2000000000
        · exact Or.inr (Or.inl qb)
        · rcases c1 with c | c | c
          · exact Or.inl c
          · exact Or.inr (Or.inl c)
          · exact Or.inr (Or.inr ((szF_small (b0.resolve_left qa) (b1.resolve_left qb)).mpr c))
    rw [if_pos c3]
    split <;> rfl
  · rw [if_neg c1]
    have c3 : ¬ (a.toInt = -2000000000 ∨ b.toInt = -2000000000 ∨ 999 < (szF (b - a)).toInt) := by
      have qa : ¬ a.toInt = -2000000000 := fun h => c1 (Or.inl h)
      have qb : ¬ b.toInt = -2000000000 := fun h => c1 (Or.inr (Or.inl h))
      rintro (h | h | h)
      · exact qa h
      · exact qb h
      · exact c1 (Or.inr (Or.inr ((szF_small (b0.resolve_left qa) (b1.resolve_left qb)).mp h)))
    rw [if_neg c3]
    by_cases c2 : (((0 ≤ d.toInt ∧ d.toInt ≤ 399) ∧ (wf 2 d.toNatClampNeg &&& 2).toInt ≠ 0) ∨ ((0 ≤ (d + 1).toInt ∧ (d + 1).toInt ≤ 399) ∧ (wf 2 (d + 1).toNatClampNeg &&& 3).toInt ≠ 0))
    · rw [if_pos c2, if_pos (cnd.mp c2)]
    · rw [if_neg c2, if_neg (mt cnd.mpr c2)]
/-- on day 399 there is none -/
theorem rX_last {f0 f1 f2 X4 X5 X6 X7 X8 : Nat → Int32} {n d k : Int32} (hd : d.toInt = 399) : (rX f0 f1 f2 X4 X5 X6 X7 X8 n d k).toInt = -2000000000 := by
  have h1 : (1 : Int32).toInt = 1 := by decide
  have hd1 : (d + 1).toInt = d.toInt + 1 := g_add rfl h1 (by omega) (by omega)
  have e : eX f0 f1 X4 X5 X6 X7 X8 n (d + 1) k = -2000000000 := by unfold eX; rw [if_neg (by omega)]
  unfold rX rbX
  rw [e, if_pos (Or.inr (Or.inl (by decide)))]
  decide
theorem ageN_M {f M6 : Nat → Int32} {p : Nat} : ∀ d : Nat, d < 400 → (∀ e : Nat, e < 400 → ((f e &&& 1).toInt ≠ 0 ↔ (M6 (400 * p + e)).toInt ≠ 0)) → ageN f d = agM M6 (400 * p) d
  | 0, _, _ => rfl
  | d + 1, hd, h => by
    have h1 := h (d + 1) hd
    rw [ageN_succ, agM_succ, ageN_M d (by omega) h]
    by_cases q : (f (d + 1) &&& 1).toInt ≠ 0
    · rw [if_pos q, if_pos (h1.mp q)]
    · rw [if_neg q, if_neg (mt h1.mpr q)]
theorem awN_M {f M8 : Nat → Int32} {p : Nat} : ∀ n : Nat, (∀ d : Nat, d < n → f d = M8 (400 * p + d)) → awN f n = awM M8 (400 * p) n
  | 0, _ => rfl
  | n + 1, h => by rw [awN_succ, awM_succ, awN_M n (fun d hd => h d (by omega)), h n (by omega)]
theorem chN_congr {A B A' B' : Int32 → Int32} {p : Int32} : ∀ n : Nat, (∀ j : Nat, j < n → A (p + nI j) = A' (p + nI j) ∧ B (p + nI j) = B' (p + nI j)) → chN A B p n = chN A' B' p n
  | 0, _ => rfl
  | n + 1, h => by rw [chN_succ, chN_succ, chN_congr n (fun j hj => h j (by omega)), (h n (by omega)).1, (h n (by omega)).2]
theorem rateL_cnt {A B : Int32 → Int32} {p : Int32} : ∀ n : Nat, (∀ j : Nat, j < n → A (p + nI j) = B (p + nI j)) → ((rateL A p n).length : Int) = cntF B p n
  | 0, _ => rfl
  | n + 1, h => by
    have ih := rateL_cnt n (fun j hj => h j (by omega))
    rw [rateL_succ, cntF_succ, ← ih, h n (by omega)]
    split
    · omega
    · rw [List.length_append]; simp
theorem pnI {p : Int32} {j : Nat} {n : Int} (h0 : 0 ≤ p.toInt) (hj : p.toInt + (j : Int) ≤ n) (hn : n ≤ 2147483647) : (p + nI j).toInt = p.toInt + j := by
  have hp := i_hi p
  exact g_add rfl (nI_toInt (by omega)) (by omega) (by omega)
theorem cnK_W {f : Nat → Int32} : ∀ n : Nat, cnK f 0 n + cnK f 1 n = cnW f n
  | 0 => rfl
  | n + 1 => by
    have ih := cnK_W (f := f) n
    rw [cnK_succ, cnK_succ, cnW_succ]
    by_cases q0 : (f n).toInt = 0
    · rw [if_pos q0, if_neg (by omega), if_pos (Or.inl q0)]; omega
    · by_cases q1 : (f n).toInt = 1
      · rw [if_neg q0, if_pos q1, if_pos (Or.inr q1)]; omega
      · rw [if_neg q0, if_neg q1, if_neg (by omega)]; omega
theorem cnK_G {f : Nat → Int32} : ∀ n : Nat, cnK f 2 n = cnG f n
  | 0 => rfl
  | n + 1 => by rw [cnK_succ, cnG_succ, cnK_G n]
theorem cn_congr {f g : Nat → Int32} : ∀ n : Nat, (∀ k : Nat, k < n → f k = g k) → cnW f n = cnW g n ∧ cnG f n = cnG g n
  | 0, _ => ⟨rfl, rfl⟩
  | n + 1, h => by
    have ih := cn_congr n (fun k hk => h k (by omega))
    rw [cnW_succ, cnW_succ, cnG_succ, cnG_succ, ih.1, ih.2, h n (by omega)]
    exact ⟨rfl, rfl⟩
/-- start, going, doubt of each watch of each ship -/
def KK6 (yf : Nat → Nat → Nat → Int32) (M29 M30 M31 : Nat → Int32) : Prop := ∀ j : Nat, j < 5 → ∀ k : Nat, k < 3 → yf j 1 k = M29 (3 * j + k) ∧ yf j 2 k = M30 (3 * j + k) ∧ yf j 3 k = M31 (3 * j + k)
theorem KK6_same {yf : Nat → Nat → Nat → Int32} {M29 M30 M31 : Nat → Int32} {i : Nat} {gf : Nat → Nat → Int32} (h : KK6 yf M29 M30 M31) (h1 : gf 1 = yf i 1) (h2 : gf 2 = yf i 2) (h3 : gf 3 = yf i 3) : KK6 (va_up yf i gf) M29 M30 M31 := fun j hj k hk => by
  by_cases e : j = i
  · subst e
    rw [up_at, h1, h2, h3]
    exact h j hj k hk
  · rw [up_ne e]
    exact h j hj k hk
