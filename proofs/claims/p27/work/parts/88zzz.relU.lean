def TU (zx : XS) (zm : MS) : Prop := RUT 0 0 (xV zx 13) (xF zx 18) (xF zx 19) (mF zm 18 0) (mF zm 19 0) (mF zm 20) (mF zm 21) ∧ RUT 1 128 (xV zx 14) (xF zx 21) (xF zx 22) (mF zm 18 1) (mF zm 19 1) (mF zm 20) (mF zm 21)
theorem TU_k {zx zx' : XS} {zm zm' : MS} (h : TU zx zm) (kx : K4X zx zx') (km : K4M zm zm') : TU zx' zm' := by
  obtain ⟨a1, a2, a3, a4, a5, a6⟩ := kx
  obtain ⟨b1, b2, b3, b4⟩ := km
  unfold TU at h ⊢
  rw [a1, a2, a3, a4, a5, a6, b1, b2, b3, b4]
  exact h
def TRY (zx : XS) (zm : MS) : Prop := TR2 zx zm ∧ TT zx zm ∧ TU zx zm
theorem TRY_init {zx : XS} {zm : MS} (h : TRZ zx zm) (h1 : xV zx 13 = 0 ∧ xV zx 14 = 0) (h2 : ∀ j : Nat, mF zm 18 j = 0) : TRY zx zm := by
  have z : (0 : Int32).toInt = 0 := by decide
  refine ⟨h.1, h.2, ?_⟩
  unfold TU
  rw [h1.1, h1.2, h2 0, h2 1]
  exact ⟨Or.inl ⟨z, z⟩, Or.inl ⟨z, z⟩⟩
theorem ST4_rule {p0 rx rm : Int32} {zx zx' : XS} {zm zm' : MS} (hI : XI zx) (h : TR zx zm) (hM : MI zm) (h2 : TU zx zm) (h3 : TT zx zm) (hx : RX_X8_rule p0 rx zx zx') (hm : RM_X9_rule p0 rm zm zm') : TU zx' zm' := by
  obtain ⟨⟨t0, t1, t2, t3⟩, q1, q2, q3, q4, q5, q6⟩ := h
  have hb := hI.1
  have hb1 := hI.2.1
  have hn4 : 0 ≤ (xV zx 4).toInt ∧ (xV zx 4).toInt ≤ 120 := hI.2.2.2.1
  have ht4 : (mV zm 4).toInt = (xV zx 4).toInt := t2.symm
  have hr := (hM.2.2.2.2.2.2.2.1)
  have r0 := hr 0 (by decide)
  have r1 := hr 1 (by decide)
  have c0 := i_clamp0 r0.1
  have c1 := i_clamp0 r1.1
  obtain ⟨⟨hpx, hf⟩, hx⟩ := hx
  obtain ⟨hpm, kmv1, kmv2, kmv11, kmv12, kmf0, kmf1, kmf2, kmf3, kmf4, kmf5, kmf6, kmf7, kmf8, kmf9, kmf10, kmf11, kmf12, kmf13, kmf25, kmf26, kmf28, kmf29, kmf30, kmf31, kmf39, kmf40, kmf17, kmf27, kmf32, kmf33, kmf34, kmf35⟩ := hm
  have he : (mV zm 4) = xV zx 4 := i_eq.mpr ht4
  rw [he] at hpm
  unfold TT at h3
  have u0 := h2.1
  have u1 := h2.2
  have cl0 : (0 : Int32).toNatClampNeg = 0 := by decide
  have cl1 : (1 : Int32).toNatClampNeg = 1 := by decide
  have one : (1 : Int32).toInt ≠ 0 := by decide
  rcases hpm with ⟨d, -, d2⟩ | ⟨d, -, d2, d3, d4, d5, d6⟩
  · rcases d2 with ⟨v, v0, e1, ⟨F1, f1⟩, g1, g2, g3, g4⟩ | ⟨e1, la, h36, h37, l0, l1, ⟨F1, f1⟩, g3, g4, g5, g6, g7, g8⟩
    · have hlo : ∀ {B : Nat} {m : Int32}, B + m.toNatClampNeg ≤ 256 → ∀ k, k < m.toNatClampNeg → mF zm' 20 (B + k) = mF zm 20 (B + k) ∧ mF zm' 21 (B + k) = mF zm 21 (B + k) := fun hB k hk => ⟨g3 _ (by omega), g4 _ (by omega)⟩
      have hkeep : (xV zx' 13 = xV zx 13 ∧ xF zx' 18 = xF zx 18 ∧ xF zx' 19 = xF zx 19) ∧ (xV zx' 14 = xV zx 14 ∧ xF zx' 21 = xF zx 21 ∧ xF zx' 22 = xF zx 22) := by
        rcases hpx with ⟨_, _, _, k1, k2⟩ | ⟨c, _, c1, h1, k2⟩ | ⟨c, _, c1, h1, k1⟩ | ⟨_, _, _, k1, k2⟩
        · exact ⟨k1, k2⟩
        · exfalso
          obtain ⟨F2, f2⟩ := h1
          rw [c] at f1
          have h9 : v = -1 := congrArg Prod.fst (READ_eq h3 (fun hl => wdA hl) f1 f2)
          omega
        · exfalso
          obtain ⟨F2, f2⟩ := h1
          rw [c] at f1
          have h9 : v = -1 := congrArg Prod.fst (READ_eq h3 (fun hl => wdB hl) f1 f2)
          omega
        · exact ⟨k1, k2⟩
      obtain ⟨⟨a1, a2, a3⟩, b1, b2, b3⟩ := hkeep
      unfold TU
      rw [a1, a2, a3, b1, b2, b3, g1, g2]
      exact ⟨RUT_low u0 (hlo (by omega)), RUT_low u1 (hlo (by omega))⟩
    · have hla := i_clamp0 l0
      have no : ∀ {sn : Nat} {sf : Nat → Int32}, (∀ {s k : Nat}, (∀ i, i < k → 97 ≤ (xF zx 12 (s + i)).toInt ∧ (xF zx 12 (s + i)).toInt ≤ 122) → wdC sn sf (xF zx 12) s k = wdK p0.toInt (xF zx 12) s k) → ¬ RAF sn sf (xF zx 12) (xV zx 4).toNatClampNeg rx.toInt := fun hw hh => by
        obtain ⟨v2, w0, e2, F2, f2⟩ := hh
        have h9 : (-1 : Int) = v2 := congrArg Prod.fst (READ_eq h3 hw f1 f2)
        omega
      rcases hpx with ⟨_, _, k0, k1, k2⟩ | ⟨c, _, ce, h1, k2⟩ | ⟨c, _, ce, h1, k1⟩ | ⟨cn, _⟩
      · exfalso
        rcases k0 with ⟨c, h1⟩ | ⟨c, h1⟩
        · exact no (fun hl => by rw [c]; exact wdA hl) h1
        · exact no (fun hl => by rw [c]; exact wdB hl) h1
      · obtain ⟨F2, f2⟩ := h1
        rw [c] at f1
        have h9 : oM h36 h37 256 la.toNatClampNeg = oC (20 * whN 60) (xF zx' 18) (xF zx' 19) (xV zx' 13).toNatClampNeg := congrArg Prod.snd (READ_eq h3 (fun hl => wdA hl) f1 f2)
        have ep : p0 = 0 := i_eq.mpr c
        subst ep
        obtain ⟨b1, b2, b3⟩ := k2
        unfold TU
        rw [b1, b2, b3, g5, g6, cl0]
        refine ⟨?_, ?_⟩
        · rw [uq_at, uq_at]
          exact RUT_new (Or.inl rfl) one f1 h9.symm (fun k hk => ⟨by rw [g7, cl0, if_pos (by omega)]; congr 1; omega, by rw [g8, cl0, if_pos (by omega)]; congr 1; omega⟩)
        · rw [uq_ne (by decide), uq_ne (by decide)]
          exact RUT_low u1 (fun k hk => ⟨by rw [g7, cl0, if_neg (by omega)]; exact g3 _ (by omega), by rw [g8, cl0, if_neg (by omega)]; exact g4 _ (by omega)⟩)
      · obtain ⟨F2, f2⟩ := h1
        rw [c] at f1
        have h9 : oM h36 h37 256 la.toNatClampNeg = oC (20 * whN 35) (xF zx' 21) (xF zx' 22) (xV zx' 14).toNatClampNeg := congrArg Prod.snd (READ_eq h3 (fun hl => wdB hl) f1 f2)
        have ep : p0 = 1 := i_eq.mpr c
        subst ep
        obtain ⟨b1, b2, b3⟩ := k1
        unfold TU
        rw [b1, b2, b3, g5, g6, cl1]
        refine ⟨?_, ?_⟩
        · rw [uq_ne (by decide), uq_ne (by decide)]
          exact RUT_low u0 (fun k hk => ⟨by rw [g7, cl1, if_neg (by omega)]; exact g3 _ (by omega), by rw [g8, cl1, if_neg (by omega)]; exact g4 _ (by omega)⟩)
        · rw [uq_at, uq_at]
          exact RUT_new (Or.inr rfl) one f1 h9.symm (fun k hk => ⟨by rw [g7, cl1, if_pos (by omega)]; exact congrArg h36 (by omega), by rw [g8, cl1, if_pos (by omega)]; exact congrArg h37 (by omega)⟩)
      · exact absurd d cn
  · have hkeep : (xV zx' 13 = xV zx 13 ∧ xF zx' 18 = xF zx 18 ∧ xF zx' 19 = xF zx 19) ∧ (xV zx' 14 = xV zx 14 ∧ xF zx' 21 = xF zx 21 ∧ xF zx' 22 = xF zx 22) := by
      rcases hpx with ⟨c, _⟩ | ⟨c, _⟩ | ⟨c, _⟩ | ⟨_, _, _, k1, k2⟩
      · exact absurd c d
      · exfalso; omega
      · exfalso; omega
      · exact ⟨k1, k2⟩
    obtain ⟨⟨a1, a2, a3⟩, b1, b2, b3⟩ := hkeep
    unfold TU
    rw [a1, a2, a3, b1, b2, b3, d3, d4, d5, d6]
    exact h2
def JLM (zm : MS) (p p1 p2 : Int32) : List (Int32 × Int32) := rateL (fun d => ratF (mF zm 3) (mF zm 4) (mF zm 5) (mF zm 6) (mF zm 7) (mF zm 9) (mF zm 10) (mF zm 11) (mF zm 12) (mF zm 13) (mV zm 2) p d (-1)) p1 (p2.toInt - p1.toInt).toNat
theorem TRI9 {zx : XS} {zm : MS} {p p1 p2 : Int32} (h : TR zx zm) (hI : XI zx) (hp : 0 ≤ p.toInt ∧ p.toInt ≤ 15) (hs : 0 ≤ p1.toInt ∧ p2.toInt ≤ 399 ∧ p1.toInt < p2.toInt ∧ p2.toInt - p1.toInt ≤ 60) (hW : XWK zx p) : JLX zx p p1 p2 = JLM zm p p1 p2 ∧ (∀ i : Nat, i < (JLX zx p p1 p2).length → -999 ≤ (vL (JLX zx p p1 p2) i).toInt ∧ (vL (JLX zx p p1 p2) i).toInt ≤ 999) ∧ wsM (wmF (mF zm 1) (mF zm 2) (mF zm 0) p) (JLX zx p p1 p2) = WSZ zx p (JLX zx p p1 p2) := by
  obtain ⟨⟨t0, t1, t2, t3⟩, q1, q2, q3, q4, q5, q6⟩ := h
  have hb1 := hI.2.1
  have hw := q4 _ (cl16 hp) hW
  have hm1 : (-1 : Int32).toInt = -1 := by decide
  have hk := q1 _ (cl16 hp)
  refine ⟨?_, fun i hi => ?_, wsMX (fun i hi => ?_)⟩
  · exact rateL_congr _ (fun j hj => by
      have hd2 := pnI (p := p1) (j := j) (n := 399) hs.1 (by omega) (by omega)
      exact rX_rat hp (d := p1 + nI j) (by omega) (by omega) t1 hb1 q3 hw.1)
  · obtain ⟨v1, v2⟩ := rateL_vals _ _ (vL_mem hi)
    have v1 : vL (JLX zx p p1 p2) i = _ := v1
    rw [v1]
    exact rbX_r v2
  · obtain ⟨j, hj, ej⟩ := rateL_days _ _ (vL_mem hi)
    have hd2 := pnI (p := p1) (j := j) (n := 399) hs.1 (by omega) (by omega)
    have ej : dL (JLX zx p p1 p2) i = p1 + nI j := ej
    rw [← ej] at hd2
    have hd4 : (dL (JLX zx p p1 p2) i).toNatClampNeg < 400 := cl400 (by omega)
    have hww := q2 _ hd4
    unfold wmF
    rw [← hk.1, ← hk.2.2.1]
    by_cases b : (xF zx 1 (p).toNatClampNeg).toInt = 1
    · rw [if_pos b, if_pos b]
      have := hk.2.2.2 b
      exact Or.inr ⟨by omega, rfl, by omega, this.1, this.2⟩
    · rw [if_neg b, if_neg b]
      rcases hww with ⟨g1, g2⟩ | ⟨g1, g2⟩
      · exact Or.inl ⟨g2, g1⟩
      · rw [← g1]
        exact Or.inr ⟨by omega, rfl, by omega, g2.1, g2.2⟩
theorem TRIW {zx : XS} {zm : MS} {p p1 p2 r r' : Int32} (h : TR zx zm) (hI : XI zx) (hM : MI zm) (h2 : TU zx zm) (hp : 0 ≤ p.toInt ∧ p.toInt ≤ 15) (hs : 0 ≤ p1.toInt ∧ p2.toInt ≤ 399 ∧ p1.toInt < p2.toInt ∧ p2.toInt - p1.toInt ≤ 60) (hW : XWK zx p) (h13 : (xV zx 13).toInt ≠ 0) (h1 : 1 ≤ (JLX zx p p1 p2).length) (a : WOX zx p p1 p2 r) (b : TRM (JLM zm p p1 p2) (mF zm 18 0) (mF zm 20) (mF zm 21) (mF zm 19 0) (p2 - p1) (wsM (wmF (mF zm 1) (mF zm 2) (mF zm 0) p) (JLM zm p p1 p2)) r') : r = r' := by
  obtain ⟨e1, e2, e3⟩ := TRI9 h hI hp hs hW
  rw [← e1] at b
  have hh := RUT_has h2.1
  have hz : (xV zx 13).toInt ≤ 120 := (hI.2.2.2.2.2.2.2.1).2
  have hw : WFc (mF zm 20) 0 (mF zm 19 0).toNatClampNeg := (hM.2.2.2.2.2.2.2.2.2.2.2.2) 0 (by decide)
  rcases b with ⟨b1 | b1, b2⟩ | ⟨b1, b2, b3⟩
  · exact absurd (hh.mp b1) h13
  · omega
  · exact WOT_eq h2.1 b1 hz hw h1 e2 e3 a b3
theorem AN4_trial {p0 p1 p2 rx rm : Int32} {zx zx' : XS} {zm zm' : MS} (hI : XI zx) (h : TR zx zm) (hM : MI zm) (h2 : TU zx zm) (hx : RX_X8_trial p0 p1 p2 rx zx zx') (hm : RM_X9_trial p0 p1 p2 rm zm zm') : rx = rm := by
  have q1 := h.2.1
  obtain ⟨hpm, kmv1, kmv2, kmv4, kmv11, kmv12, kmf0, kmf1, kmf2, kmf3, kmf4, kmf5, kmf6, kmf7, kmf8, kmf9, kmf10, kmf11, kmf12, kmf13, kmf25, kmf26, kmf28, kmf29, kmf30, kmf31, kmf39, kmf40, kmf17, kmf18, kmf19, kmf20, kmf21, kmf27, kmf32, kmf33, kmf34, kmf35⟩ := hm
  rcases hx with hx | hx
  ·
    obtain ⟨hcx, hpx, kxv0, kxv1, kxv4, kxv9, kxv10, kxv13, kxv14, kxf0, kxf1, kxf2, kxf4, kxf5, kxf6, kxf7, kxf8, kxf13, kxf15, kxf12, kxf18, kxf19, kxf21, kxf22, _, _, kwf, kyv, kyf⟩ := hx
    have hp := cl16 (p := p0) ⟨hcx.1, hcx.2.1⟩
    have hk := (q1 _ hp).1
    have hkt := congrArg Int32.toInt hk
    rcases hpx with ⟨c, e⟩ | ⟨c, e⟩ <;> rcases hpm with ⟨d, f⟩ | ⟨d, d2, f⟩
    · exact i_eq.mpr (by omega)
    · exfalso; omega
    · exfalso; omega
    · have hW : XWK zx p0 := hcx.2.2
      obtain ⟨e1, e2, e3⟩ := TRI9 h hI ⟨hcx.1, hcx.2.1⟩ c hW
      have hh := RUT_has h2.1
      rcases e with ⟨a1, a2⟩ | ⟨a1, a2, a3⟩
      · rcases f with ⟨f1, f2⟩ | ⟨f1, f2, f3⟩
        · exact i_eq.mpr (by omega)
        · exfalso
          rcases a1 with a1 | a1
          · exact f1 (hh.mpr a1)
          · have a1 : (JLX zx p0 p1 p2).length = 0 := a1
            have f2 : 1 ≤ (JLM zm p0 p1 p2).length := f2
            rw [← e1] at f2
            omega
      · exact TRIW h hI hM h2 ⟨hcx.1, hcx.2.1⟩ c hW a1 a2 a3 f
  ·
    obtain ⟨hcx, hpx, kxv0, kxv1, kxv4, kxv9, kxv10, kxv13, kxv14, kxf0, kxf1, kxf2, kxf4, kxf5, kxf6, kxf7, kxf8, kxf13, kxf15, kxf12, kxf18, kxf19, kxf21, kxf22, _, _, kwf, kyv, kyf⟩ := hx
    rcases hpm with ⟨d, f⟩ | ⟨d, d2, f⟩
    · exact i_eq.mpr (by omega)
    · exfalso
      have hkt := congrArg Int32.toInt (q1 _ (cl16 d.1)).1
      have hkk := (q1 _ (cl16 d.1)).2.1
      omega
theorem AN4_order {p0 p1 p2 rx rm : Int32} {zx zx' : XS} {zm zm' : MS} (hI : XI zx) (h : TR zx zm) (hM : MI zm) (h2 : TU zx zm) (hx : RX_X8_order p0 p1 p2 rx zx zx') (hm : RM_X9_order p0 p1 p2 rm zm zm') : rx = rm := by
  have q1 := h.2.1
  obtain ⟨hpm, kmv1, kmv2, kmv4, kmv11, kmv12, kmf0, kmf1, kmf2, kmf3, kmf4, kmf5, kmf6, kmf7, kmf8, kmf9, kmf10, kmf11, kmf12, kmf13, kmf25, kmf26, kmf28, kmf29, kmf30, kmf31, kmf39, kmf40, kmf17, kmf18, kmf19, kmf20, kmf21, kmf27, kmf32, kmf33, kmf34, kmf35⟩ := hm
  have hx := hx.2
  have hh := RUT_has h2.1
  have hw9 : ∀ {p : Int32}, (0 ≤ p.toInt ∧ p.toInt ≤ 15) → (XWK zx p ↔ ((mF zm 1 (p).toNatClampNeg).toInt ≠ -5 ∧ (mF zm 1 (p).toNatClampNeg).toInt ≠ 2)) := fun hp => kd_W q1 hp
  rcases hx with ⟨r1, c⟩ | ⟨c, c2, c3⟩ | ⟨c, c2, c3, c4⟩ | ⟨c, c2, c3, c4, mine, c5, c6⟩
  · rcases hpm with ⟨d, f⟩ | ⟨d, f⟩ | ⟨d, f⟩
    · exact i_eq.mpr (by omega)
    · exact absurd d c
    · exact absurd d c
  · have hn := fun x => c2 ((hw9 c.1).mpr x)
    have hk := (q1 _ (cl16 c.1)).1
    have hkt := congrArg Int32.toInt hk
    have hkk := (q1 _ (cl16 c.1)).2.1
    rcases hpm with ⟨d, f⟩ | ⟨d, f⟩ | ⟨d, f, g⟩
    · exact absurd c f
    · unfold XLK at c3
      exact i_eq.mpr (by omega)
    · exact absurd f hn
  · have hy := (hw9 c.1).mp c2
    obtain ⟨e1, e2, e3⟩ := TRI9 h hI c.1 c.2 c2
    rcases hpm with ⟨d, f⟩ | ⟨d, f⟩ | ⟨d, f, g⟩
    · exact absurd c f
    · exfalso; omega
    · rcases g with ⟨g1, g2⟩ | ⟨g1, g2⟩
      · exact i_eq.mpr (by omega)
      · exfalso
        have g1b : 1 ≤ (JLM zm p0 p1 p2).length := g1.2
        rw [← e1] at g1b
        rcases c3 with c3 | c3
        · exact g1.1 (hh.mpr c3)
        · omega
  · have hy := (hw9 c.1).mp c2
    obtain ⟨e1, e2, e3⟩ := TRI9 h hI c.1 c.2 c2
    rcases hpm with ⟨d, f⟩ | ⟨d, f⟩ | ⟨d, f, g⟩
    · exact absurd c f
    · exfalso; omega
    · rcases g with ⟨g1, g2⟩ | ⟨g1, mine', g2, g3⟩
      · exfalso
        refine g1 ⟨fun x => c3 (hh.mp x), ?_⟩
        show 1 ≤ (JLM zm p0 p1 p2).length
        rw [← e1]; exact c4
      · have em : mine = mine' := TRIW h hI hM h2 c.1 c.2 c2 c3 c4 c5 g2
        subst em
        have hoN : ∀ k : Nat, k < 16 → (0 ≤ (Int32.ofNat k).toInt ∧ (Int32.ofNat k).toInt ≤ 15) ∧ (Int32.ofNat k).toNatClampNeg = k := fun k hk => by
          have e9 : (Int32.ofNat k).toInt = (k : Int) := Int32.toInt_ofNat_of_lt (by omega)
          refine ⟨by omega, ?_⟩
          show (Int32.ofNat k).toInt.toNat = k
          omega
        refine i_eq.mpr (ORDP_eq (fun k hk => ?_) (fun k hk hw => ?_) (fun k hk hw hl v v' a b => ?_) 16 _ _ (Nat.le_refl 16) c6 g3)
        · obtain ⟨a, b⟩ := hoN k hk
          have hk1 := (q1 k hk).1
          unfold XWK
          rw [b, hk1]
        · obtain ⟨a, b⟩ := hoN k hk
          exact (TRI9 h hI a c.2 hw).1
        · obtain ⟨a', b'⟩ := hoN k hk
          exact TRIW h hI hM h2 a' c.2 hw c3 hl a b
