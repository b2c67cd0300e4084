def RK (zx : XS) (zm : MS) : Prop := KK1 (xF zx 1) (xF zx 2) (mF zm 1) (mF zm 2) ∧ KK2 (xF zx 0) (mF zm 0) ∧ KK3 (xV zx 1) (xF zx 4) (xF zx 5) (xF zx 6) (xF zx 7) (xF zx 8) (mF zm 9) (mF zm 10) (mF zm 11) (mF zm 12) (mF zm 13)
  ∧ KK4 (xV zx 0) (xF zx 1) (xwf zx) (mF zm 3) (mF zm 4) (mF zm 5) (mF zm 6) (mF zm 7) (mF zm 8) ∧ KK5 (xV zx 0) (xF zx 1) (xwf zx) (xyv zx) (xyf zx) (mF zm 25) (mF zm 26) (mF zm 28) ∧ KK6 (xyf zx) (mF zm 29) (mF zm 30) (mF zm 31)
def T4 (zx : XS) (zm : MS) : Prop := (xV zx 0).toInt = (mV zm 1).toInt ∧ (xV zx 1).toInt = (mV zm 2).toInt ∧ (xV zx 4).toInt = (mV zm 4).toInt ∧ (xV zx 9).toInt = (mV zm 11).toInt
def TR (zx : XS) (zm : MS) : Prop := T4 zx zm ∧ RK zx zm
theorem TR_kq {zx zx' : XS} {zm zm' : MS} (h : TR zx zm) (kx : KQX zx zx') (km : KQM zm zm') (h4 : (xV zx' 4).toInt = (mV zm' 4).toInt) (h9 : (xV zx' 9).toInt = (mV zm' 11).toInt) : TR zx' zm' := by
  obtain ⟨⟨t0, t1, t2, t3⟩, hr⟩ := h
  obtain ⟨a0, a1, f0, f1, f2, f4, f5, f6, f7, f8, w, v, f⟩ := kx
  obtain ⟨b1, b2, g0, g1, g2, g3, g4, g5, g6, g7, g8, g9, g10, g11, g12, g13, g25, g26, g28, g29, g30, g31⟩ := km
  refine ⟨⟨by rw [a0, b1]; exact t0, by rw [a1, b2]; exact t1, h4, h9⟩, ?_⟩
  unfold RK at hr ⊢
  rw [a0, a1, f0, f1, f2, f4, f5, f6, f7, f8, w, v, f, g0, g1, g2, g3, g4, g5, g6, g7, g8, g9, g10, g11, g12, g13, g25, g26, g28, g29, g30, g31]
  exact hr
theorem TR_kp {zx zx' : XS} {zm zm' : MS} (h : TR zx zm) (kx : KPX zx zx') (km : KPM zm zm') (km2 : KQM zm zm') : TR zx' zm' := by
  have kx2 := KQX.of kx
  obtain ⟨h1, h2, h3, h4, h5⟩ := kx
  obtain ⟨m1, m2, m3, m4, m5⟩ := km
  exact TR_kq h kx2 km2 (by rw [h3, m3]; exact h.1.2.2.1) (by rw [h4, m4]; exact h.1.2.2.2)
theorem KQ_X8_rule {p0 r : Int32} {s s' : XS} (h : RX_X8_rule p0 r s s') : KQX s s' := by
  obtain ⟨_, a0, a1, a9, f0, f1, f2, f4, f5, f6, f7, f8, _, _, w, v, f, _⟩ := h
  exact ⟨a0, a1, f0, f1, f2, f4, f5, f6, f7, f8, w, v, f⟩
theorem KK5_sight {t : Int32} {X1 : Nat → Int32} {wf : Nat → Nat → Nat → Int32} {yv : Nat → Nat → Int32} {yf : Nat → Nat → Nat → Int32} {M25 M26 M28 : Nat → Int32} {i : Nat} {gv : Nat → Int32} {gf : Nat → Nat → Int32} (h : KK5 t X1 wf yv yf M25 M26 M28) (h1 : gv 1 = yv i 1) (h2 : gv 2 = yv i 2) (h3 : gf 0 = yf i 0) : KK5 t X1 wf (va_up yv i gv) (va_up yf i gf) M25 M26 M28 := fun j hj => by
  by_cases e : j = i
  · subst e
    have b := h j hj
    rw [up_at, up_at]
    unfold SR at b ⊢
    rw [h1, h2, h3]
    exact b
  · rw [up_ne e, up_ne e]
    exact h j hj
theorem cl16 {p : Int32} (h : 0 ≤ p.toInt ∧ p.toInt ≤ 15) : p.toNatClampNeg < 16 := by have := i_clamp0 h.1; omega
theorem cl400 {p : Int32} (h : 0 ≤ p.toInt ∧ p.toInt ≤ 399) : p.toNatClampNeg < 400 := by have := i_clamp0 h.1; omega
theorem cl5 {p : Int32} (h : 0 ≤ p.toInt ∧ p.toInt ≤ 4) : p.toNatClampNeg < 5 := by have := i_clamp0 h.1; omega
theorem ST_days {p0 rx rm : Int32} {zx zx' : XS} {zm zm' : MS} (hI : XI zx) (h : TR zx zm) (hx : RX_X8_days p0 rx zx zx') (hm : RM_X9_days p0 rm zm zm') : TR zx' zm' := by
  obtain ⟨⟨t0, t1, t2, t3⟩, q1, q2, q3, q4, q5, q6⟩ := h
  have hb := hI.1
  have hb1 := hI.2.1
  obtain ⟨hpx, kxv1, kxv4, kxv9, kxv10, kxv13, kxv14, kxf0, kxf1, kxf2, kxf4, kxf5, kxf6, kxf7, kxf8, kxf13, kxf15, kxf12, kxf18, kxf19, kxf21, kxf22, _, _, kwf, kyv, kyf⟩ := hx
  obtain ⟨hpm, kmv2, kmv4, kmv11, kmv12, kmf0, kmf1, kmf2, kmf3, kmf4, kmf5, kmf6, kmf7, kmf9, kmf10, kmf11, kmf12, kmf13, kmf25, kmf26, kmf28, kmf29, kmf30, kmf31, kmf39, kmf40, kmf17, kmf18, kmf19, kmf20, kmf21, kmf27, kmf32, kmf33, kmf34, kmf35⟩ := hm
  have hq : (xV zx 0).toInt ≤ (xV zx' 0).toInt ∧ (xV zx' 0).toInt ≤ 399 ∧ (xV zx' 0).toInt = (mV zm' 1).toInt := by
    rcases hpx with h1 | h1 <;> rcases hpm with h2 | h2 <;> omega
  have hd : HD2 (mF zm 8) (mF zm' 8) (xV zx 0).toInt (xV zx' 0).toInt 0 := by
    rcases hpm with ⟨_, _, _, h4⟩ | ⟨_, _, e, h4⟩
    · rw [t0, hq.2.2]; exact h4
    · rw [h4]; exact HD2_0 (by omega)
  refine ⟨⟨hq.2.2, by rw [kxv1, kmv2]; exact t1, by rw [kxv4, kmv4]; exact t2, by rw [kxv9, kmv11]; exact t3⟩, ?_⟩
  unfold RK
  rw [kxv1, kxf0, kxf1, kxf2, kxf4, kxf5, kxf6, kxf7, kxf8, kwf, kyv, kyf, kmf0, kmf1, kmf2, kmf3, kmf4, kmf5, kmf6, kmf7, kmf9, kmf10, kmf11, kmf12, kmf13, kmf25, kmf26, kmf28, kmf29, kmf30, kmf31]
  exact ⟨q1, q2, q3, KK4_days q4 hb.1 hq.1 hq.2.1 hd, KK5_mono q5 hq.1 (SP_days q4 hq.1 ⟨hb.1, hq.2.1⟩), q6⟩
theorem ST_warmth {p0 p1 rx rm : Int32} {zx zx' : XS} {zm zm' : MS} (hI : XI zx) (h : TR zx zm) (hx : RX_X8_warmth p0 p1 rx zx zx') (hm : RM_X9_warmth p0 p1 rm zm zm') : TR zx' zm' := by
  obtain ⟨⟨t0, t1, t2, t3⟩, q1, q2, q3, q4, q5, q6⟩ := h
  have hb := hI.1
  have hb1 := hI.2.1
  obtain ⟨hpx, kxv0, kxv1, kxv4, kxv9, kxv10, kxv13, kxv14, kxf1, kxf2, kxf4, kxf5, kxf6, kxf7, kxf8, kxf13, kxf15, kxf12, kxf18, kxf19, kxf21, kxf22, _, _, kwf, kyv, kyf⟩ := hx
  obtain ⟨hpm, kmv1, kmv2, kmv4, kmv11, kmv12, kmf1, kmf2, kmf3, kmf4, kmf5, kmf6, kmf7, kmf8, kmf9, kmf10, kmf11, kmf12, kmf13, kmf25, kmf26, kmf28, kmf29, kmf30, kmf31, kmf39, kmf40, kmf17, kmf18, kmf19, kmf20, kmf21, kmf27, kmf32, kmf33, kmf34, kmf35⟩ := hm
  refine ⟨⟨by rw [kxv0, kmv1]; exact t0, by rw [kxv1, kmv2]; exact t1, by rw [kxv4, kmv4]; exact t2, by rw [kxv9, kmv11]; exact t3⟩, ?_⟩
  unfold RK
  rw [kxv0, kxv1, kxf1, kxf2, kxf4, kxf5, kxf6, kxf7, kxf8, kwf, kyv, kyf, kmf1, kmf2, kmf3, kmf4, kmf5, kmf6, kmf7, kmf8, kmf9, kmf10, kmf11, kmf12, kmf13, kmf25, kmf26, kmf28, kmf29, kmf30, kmf31]
  refine ⟨q1, ?_, q3, q4, q5, q6⟩
  rcases hpx with ⟨_, c1, e1⟩ | ⟨_, c1, e1⟩ <;> rcases hpm with ⟨_, c2, e2⟩ | ⟨_, c2, e2⟩
  · rw [e1]
    rcases e2 with ⟨u, e2⟩ | ⟨u, e2⟩
    · rw [e2]; exact KK2_w q2 (Or.inl ⟨u, by decide⟩)
    · rw [e2]; exact KK2_w q2 (Or.inr ⟨rfl, by omega⟩)
  · exact absurd c1 c2
  · exact absurd c2 c1
  · rw [e1, e2]; exact q2
theorem ST_put {p0 p1 p2 rx rm : Int32} {zx zx' : XS} {zm zm' : MS} (hI : XI zx) (h : TR zx zm) (hx : RX_X8_put p0 p1 p2 rx zx zx') (hm : RM_X9_put p0 p1 p2 rm zm zm') : TR zx' zm' := by
  obtain ⟨⟨t0, t1, t2, t3⟩, q1, q2, q3, q4, q5, q6⟩ := h
  have hb := hI.1
  have hb1 := hI.2.1
  obtain ⟨hpm, kmv1, kmv2, kmv4, kmv11, kmv12, kmf0, kmf4, kmf5, kmf9, kmf10, kmf11, kmf12, kmf13, kmf25, kmf26, kmf28, kmf29, kmf30, kmf31, kmf39, kmf40, kmf17, kmf18, kmf19, kmf20, kmf21, kmf27, kmf32, kmf33, kmf34, kmf35⟩ := hm
  rcases hx with hx | hx | hx
  ·
    obtain ⟨gw, ewf, hcx, hpx, kxv0, kxv1, kxv4, kxv9, kxv10, kxv13, kxv14, kxf0, kxf4, kxf5, kxf6, kxf7, kxf8, kxf13, kxf15, kxf12, kxf18, kxf19, kxf21, kxf22, _, _, kyv, kyf⟩ := hx
    obtain ⟨_, e1, e2, hN⟩ := hpx
    have hp := cl16 hcx.1
    have hc := i_clamp0 hcx.1.1
    have hk := (q1 _ hp).1
    have hkm : ((mF zm 1) (p0).toNatClampNeg).toInt = -5 := by rw [← hk]; exact hcx.2.2.2
    refine ⟨⟨by rw [kxv0, kmv1]; exact t0, by rw [kxv1, kmv2]; exact t1, by rw [kxv4, kmv4]; exact t2, by rw [kxv9, kmv11]; exact t3⟩, ?_⟩
    unfold RK
    rw [kxv0, kxv1, kxf0, kxf4, kxf5, kxf6, kxf7, kxf8, kyv, kyf, kmf0, kmf4, kmf5, kmf9, kmf10, kmf11, kmf12, kmf13, kmf25, kmf26, kmf28, kmf29, kmf30, kmf31]
    rcases hpm with ⟨_, _, _, _, f1, f2, f3, f6, f7, f8⟩ | ⟨_, c, _⟩ | ⟨_, _, _, c, _⟩
    · rw [← hc] at f3 f6 f7 f8
      rw [e1, e2, ewf, f1, f2]
      refine ⟨KK1_put q1 (by omega) (by omega), q2, q3, KK4_put q4 hb hN f3 f6 f7 f8, KK5_mono q5 (Int.le_refl _) (fun j x hj hx => SP_ne hx (SP_k hx (by unfold isW; omega)) (fun q e => u_ne e)), q6⟩
    · exact absurd ⟨hcx.1, hcx.2.1⟩ c
    · exact absurd hkm c
  ·
    obtain ⟨gw, ewf, hcx, hpx, kxv0, kxv1, kxv4, kxv9, kxv10, kxv13, kxv14, kxf0, kxf4, kxf5, kxf6, kxf7, kxf8, kxf13, kxf15, kxf12, kxf18, kxf19, kxf21, kxf22, _, _, kyv, kyf⟩ := hx
    obtain ⟨_, e1, e2, hN⟩ := hpx
    have hp := cl16 hcx.1
    have hc := i_clamp0 hcx.1.1
    have hk := (q1 _ hp).1
    have hkm : ((mF zm 1) (p0).toNatClampNeg).toInt = -5 := by rw [← hk]; exact hcx.2.2.2
    refine ⟨⟨by rw [kxv0, kmv1]; exact t0, by rw [kxv1, kmv2]; exact t1, by rw [kxv4, kmv4]; exact t2, by rw [kxv9, kmv11]; exact t3⟩, ?_⟩
    unfold RK
    rw [kxv0, kxv1, kxf0, kxf4, kxf5, kxf6, kxf7, kxf8, kyv, kyf, kmf0, kmf4, kmf5, kmf9, kmf10, kmf11, kmf12, kmf13, kmf25, kmf26, kmf28, kmf29, kmf30, kmf31]
    rcases hpm with ⟨_, _, _, _, f1, f2, f3, f6, f7, f8⟩ | ⟨_, c, _⟩ | ⟨_, _, _, c, _⟩
    · rw [← hc] at f3 f6 f7 f8
      rw [e1, e2, ewf, f1, f2]
      refine ⟨KK1_put q1 (by omega) (by omega), q2, q3, KK4_put q4 hb hN f3 f6 f7 f8, KK5_mono q5 (Int.le_refl _) (fun j x hj hx => SP_ne hx (SP_k hx (by unfold isW; omega)) (fun q e => u_ne e)), q6⟩
    · exact absurd ⟨hcx.1, hcx.2.1⟩ c
    · exact absurd hkm c
  ·
    obtain ⟨hcx, hpx, kxv0, kxv1, kxv4, kxv9, kxv10, kxv13, kxv14, kxf0, kxf4, kxf5, kxf6, kxf7, kxf8, kxf13, kxf15, kxf12, kxf18, kxf19, kxf21, kxf22, _, _, kwf, kyv, kyf⟩ := hx
    refine ⟨⟨by rw [kxv0, kmv1]; exact t0, by rw [kxv1, kmv2]; exact t1, by rw [kxv4, kmv4]; exact t2, by rw [kxv9, kmv11]; exact t3⟩, ?_⟩
    unfold RK
    rw [kxv0, kxv1, kxf0, kxf4, kxf5, kxf6, kxf7, kxf8, kwf, kyv, kyf, kmf0, kmf4, kmf5, kmf9, kmf10, kmf11, kmf12, kmf13, kmf25, kmf26, kmf28, kmf29, kmf30, kmf31]
    rcases hpx with ⟨c, _, e1, e2⟩ | ⟨c, c3, _, e1, e2⟩ | ⟨c, c3, c4, _, e1, e2⟩
    · rcases hpm with ⟨_, d1, d2, _⟩ | ⟨_, _, f1, f2, f3, f6, f7, f8⟩ | ⟨_, d1, d2, _⟩
      · exact absurd ⟨d1, d2⟩ c
      · rw [e1, e2, f1, f2, f3, f6, f7, f8]; exact ⟨q1, q2, q3, q4, q5, q6⟩
      · exact absurd ⟨d1, d2⟩ c
    · have hk := (q1 _ (cl16 c.1)).1
      rw [hk] at c3
      rcases hpm with ⟨_, _, _, d, _⟩ | ⟨_, d, _⟩ | ⟨_, _, _, _, f1, f2, f3, f6, f7, f8⟩
      · exact absurd d c3
      · exact absurd c d
      · rw [e1, e2, f1, f2, f3, f6, f7, f8]; exact ⟨q1, q2, q3, q4, q5, q6⟩
    · have hk := (q1 _ (cl16 c.1)).1
      have hc := i_clamp0 c.1.1
      rcases hpm with ⟨_, _, _, _, f1, f2, f3, f6, f7, f8⟩ | ⟨_, d, _⟩ | ⟨_, _, _, d, _⟩
      · rw [← hc] at f3 f6 f7 f8
        rw [e1, e2, f1, f2]
        exact ⟨KK1_put q1 (by omega) (by omega), q2, q3, KK4_glass q4 c4 f3 f6 f7 f8, KK5_mono q5 (Int.le_refl _) (fun j x hj hx => SP_nx hx (SP_k hx (by unfold isW; omega)) (fun q e => u_ne e)), q6⟩
      · exact absurd c d
      · exact absurd (by rw [← hk]; exact c3) d
theorem ST_take {p0 rx rm : Int32} {zx zx' : XS} {zm zm' : MS} (hI : XI zx) (h : TR zx zm) (hx : RX_X8_take p0 rx zx zx') (hm : RM_X9_take p0 rm zm zm') : TR zx' zm' := by
  obtain ⟨⟨t0, t1, t2, t3⟩, q1, q2, q3, q4, q5, q6⟩ := h
  have hb := hI.1
  have hb1 := hI.2.1
  obtain ⟨hpm, kmv1, kmv2, kmv4, kmv11, kmv12, kmf0, kmf2, kmf3, kmf4, kmf5, kmf6, kmf7, kmf8, kmf9, kmf10, kmf11, kmf12, kmf13, kmf25, kmf26, kmf28, kmf29, kmf30, kmf31, kmf39, kmf40, kmf17, kmf18, kmf19, kmf20, kmf21, kmf27, kmf32, kmf33, kmf34, kmf35⟩ := hm
  rcases hx with hx | hx
  ·
    obtain ⟨hcx, hpx, kxv0, kxv1, kxv4, kxv9, kxv10, kxv13, kxv14, kxf0, kxf2, kxf4, kxf5, kxf6, kxf7, kxf8, kxf13, kxf15, kxf12, kxf18, kxf19, kxf21, kxf22, _, _, kwf, kyv, kyf⟩ := hx
    have hp := cl16 (p := p0) ⟨hcx.1, hcx.2.1⟩
    have hk := (q1 _ hp).1
    have hw := q4 _ hp hcx.2.2
    have hct := i_clamp0 hb.1
    have hto : (xwf zx (p0).toNatClampNeg 3 (xV zx 0).toNatClampNeg).toInt = (mF zm 8 (400 * p0 + mV zm 1).toNatClampNeg).toInt := by
      rw [← i_eq.mpr t0, ix400 ⟨hcx.1, hcx.2.1⟩ hb]
      exact congrArg Int32.toInt (hw.2.1 _ (by omega) (by omega))
    refine ⟨⟨by rw [kxv0, kmv1]; exact t0, by rw [kxv1, kmv2]; exact t1, by rw [kxv4, kmv4]; exact t2, by rw [kxv9, kmv11]; exact t3⟩, ?_⟩
    unfold RK
    rw [kxv0, kxv1, kxf0, kxf2, kxf4, kxf5, kxf6, kxf7, kxf8, kwf, kyv, kyf, kmf0, kmf2, kmf3, kmf4, kmf5, kmf6, kmf7, kmf8, kmf9, kmf10, kmf11, kmf12, kmf13, kmf25, kmf26, kmf28, kmf29, kmf30, kmf31]
    rw [hk] at hcx
    rcases hpx with ⟨c, _, e1⟩ | ⟨c, _, e1⟩
    · rcases hpm with ⟨_, _, _, d, f1⟩ | ⟨_, d, f1⟩ | ⟨_, _, d, f1⟩ | ⟨_, _, d, f1⟩
      · exfalso; omega
      · exfalso; omega
      · exfalso; omega
      · rw [e1, f1]; exact ⟨q1, q2, q3, q4, q5, q6⟩
    · rcases hpm with ⟨_, _, _, d, f1⟩ | ⟨_, d, f1⟩ | ⟨_, _, d, f1⟩ | ⟨_, _, d, f1⟩
      · rw [e1, f1]
        refine ⟨KK1_take q1, q2, q3, KK4_take q4, KK5_mono q5 (Int.le_refl _) (fun j x hj hx => SP_nx hx (SP_h hx ?_) (fun q e => u_ne e)), q6⟩
        rw [show (xV zx 0).toInt.toNat = (xV zx 0).toNatClampNeg from rfl]
        omega
      · exfalso; omega
      · exfalso; omega
      · exfalso; omega
  ·
    obtain ⟨hcx, hpx, kxv0, kxv1, kxv4, kxv9, kxv10, kxv13, kxv14, kxf0, kxf2, kxf4, kxf5, kxf6, kxf7, kxf8, kxf13, kxf15, kxf12, kxf18, kxf19, kxf21, kxf22, _, _, kwf, kyv, kyf⟩ := hx
    refine ⟨⟨by rw [kxv0, kmv1]; exact t0, by rw [kxv1, kmv2]; exact t1, by rw [kxv4, kmv4]; exact t2, by rw [kxv9, kmv11]; exact t3⟩, ?_⟩
    unfold RK
    rw [kxv0, kxv1, kxf0, kxf2, kxf4, kxf5, kxf6, kxf7, kxf8, kwf, kyv, kyf, kmf0, kmf2, kmf3, kmf4, kmf5, kmf6, kmf7, kmf8, kmf9, kmf10, kmf11, kmf12, kmf13, kmf25, kmf26, kmf28, kmf29, kmf30, kmf31]
    rcases hpx with ⟨_, c, e1⟩ | ⟨c, c2, _, e1⟩ | ⟨c, c2, _, e1⟩
    · rcases hpm with ⟨_, d, _, _, f1⟩ | ⟨_, d, f1⟩ | ⟨_, d, _, f1⟩ | ⟨_, d, _, f1⟩
      · exact absurd d c
      · rw [e1, f1]; exact ⟨q1, q2, q3, q4, q5, q6⟩
      · exact absurd d c
      · exact absurd d c
    · have hk := (q1 _ (cl16 c)).1
      rw [hk] at c2
      rcases hpm with ⟨_, _, d, _, f1⟩ | ⟨_, d, f1⟩ | ⟨_, _, d, f1⟩ | ⟨_, _, d, f1⟩
      · exact absurd c2 d
      · exact absurd c d
      · rw [e1, f1]; exact ⟨q1, q2, q3, q4, q5, q6⟩
      · exfalso; omega
    · have hk := (q1 _ (cl16 c)).1
      have hnw : ¬ isW (xF zx 1 (p0).toNatClampNeg) := fun hh => hcx ⟨c.1, c.2, hh⟩
      rw [hk] at c2
      rcases hpm with ⟨_, _, d, _, f1⟩ | ⟨_, d, f1⟩ | ⟨_, _, d, f1⟩ | ⟨_, _, d, f1⟩
      · rw [e1, f1]
        exact ⟨KK1_take q1, q2, q3, KK4_take q4, KK5_mono q5 (Int.le_refl _) (fun j x hj hx => SP_nx hx (SP_k hx hnw) (fun q e => u_ne e)), q6⟩
      · exact absurd c d
      · exact absurd d c2
      · exact absurd (show isW _ from by unfold isW; rw [hk]; exact d.1) hnw
theorem ST_compare {p0 p1 p2 p3 rx rm : Int32} {zx zx' : XS} {zm zm' : MS} (hI : XI zx) (h : TR zx zm) (hx : RX_X8_compare p0 p1 p2 p3 rx zx zx') (hm : RM_X9_compare p0 p1 p2 p3 rm zm zm') : TR zx' zm' := by
  obtain ⟨⟨t0, t1, t2, t3⟩, q1, q2, q3, q4, q5, q6⟩ := h
  have hb := hI.1
  have hb1 := hI.2.1
  obtain ⟨hpm, kmv1, kmv2, kmv4, kmv11, kmv12, kmf0, kmf1, kmf2, kmf6, kmf7, kmf8, kmf9, kmf10, kmf11, kmf12, kmf13, kmf25, kmf26, kmf28, kmf29, kmf30, kmf31, kmf39, kmf40, kmf17, kmf18, kmf19, kmf20, kmf21, kmf27, kmf32, kmf33, kmf34, kmf35⟩ := hm
  rcases hx with hx | hx
  ·
    obtain ⟨gw, ewf, hcx, hpx, kxv0, kxv1, kxv4, kxv9, kxv10, kxv13, kxv14, kxf0, kxf1, kxf2, kxf4, kxf5, kxf6, kxf7, kxf8, kxf13, kxf15, kxf12, kxf18, kxf19, kxf21, kxf22, _, _, gw2, gw3, kyv, kyf⟩ := hx
    have hp := cl16 (p := p0) ⟨hcx.1, hcx.2.1⟩
    have hk := (q1 _ hp).1
    have hw := q4 _ hp hcx.2.2
    have hkk := (q1 _ hp).2.1
    have hkt := congrArg Int32.toInt hk
    have hct := i_clamp0 hb.1
    refine ⟨⟨by rw [kxv0, kmv1]; exact t0, by rw [kxv1, kmv2]; exact t1, by rw [kxv4, kmv4]; exact t2, by rw [kxv9, kmv11]; exact t3⟩, ?_⟩
    unfold RK
    rw [kxv0, kxv1, kxf0, kxf1, kxf2, kxf4, kxf5, kxf6, kxf7, kxf8, kyv, kyf, kmf0, kmf1, kmf2, kmf6, kmf7, kmf8, kmf9, kmf10, kmf11, kmf12, kmf13, kmf25, kmf26, kmf28, kmf29, kmf30, kmf31]
    rw [ewf]
    rcases hpx with ⟨c, _, e0, e1⟩ | ⟨c, c2, _, e0, e1⟩ | ⟨c, c2, _, e0, e1⟩
    · rcases hpm with ⟨_, d, f3, f4, f5⟩ | ⟨d, _, f3, f4, f5⟩ | ⟨d, _, _, _, f3, f4, f5⟩ | ⟨d, _, _, _, f3, f4, f5⟩
      · rw [f3, f4, f5]; exact ⟨q1, q2, q3, KK4_same q4 hp (wf_ext e0 e1 gw2 gw3), KK5_mono q5 (Int.le_refl _) (fun j x hj hx => SP_w3 hx gw3), q6⟩
      · exfalso; omega
      · exfalso; omega
      · exfalso; omega
    · have hix := ix400 (p := p0) (d := p1) ⟨hcx.1, hcx.2.1⟩ (by omega)
      have hd := hw.1 (p1).toNatClampNeg (cl400 (by omega))
      have hh := hw.2.1 (p1).toNatClampNeg (by have := i_clamp0 (x := p1) (by omega); omega) (cl400 (by omega))
      have hht := congrArg Int32.toInt hh
      rcases hpm with ⟨_, d, f3, f4, f5⟩ | ⟨d, _, f3, f4, f5⟩ | ⟨d, _, _, _, f3, f4, f5⟩ | ⟨d, _, d3, _, f3, f4, f5⟩
      · exfalso; omega
      · exfalso; omega
      · rw [f3, f4, f5]; exact ⟨q1, q2, q3, KK4_same q4 hp (wf_ext e0 e1 gw2 gw3), KK5_mono q5 (Int.le_refl _) (fun j x hj hx => SP_w3 hx gw3), q6⟩
      · exfalso
        rw [hix] at d3
        rcases hd.1 with g | g <;> omega
    · have hix := ix400 (p := p0) (d := p1) ⟨hcx.1, hcx.2.1⟩ (by omega)
      have hd := hw.1 (p1).toNatClampNeg (cl400 (by omega))
      have hh := hw.2.1 (p1).toNatClampNeg (by have := i_clamp0 (x := p1) (by omega); omega) (cl400 (by omega))
      have hht := congrArg Int32.toInt hh
      rcases hpm with ⟨_, d, f3, f4, f5⟩ | ⟨d, _, f3, f4, f5⟩ | ⟨d, _, d3, _, f3, f4, f5⟩ | ⟨d, _, d3, _, f3, f4, f5⟩
      · exfalso; omega
      · exfalso; omega
      · exfalso
        rw [hix] at d3
        rcases hd.1 with g | g <;> omega
      · rw [f3, f4, f5, hix]
        exact ⟨q1, q2, q3, KK4_compare q4 hp (cl400 (by omega)) (by omega) (by omega) e0 e1 gw2 gw3, KK5_mono q5 (Int.le_refl _) (fun j x hj hx => SP_w3 hx gw3), q6⟩
  ·
    obtain ⟨hcx, hpx, kxv0, kxv1, kxv4, kxv9, kxv10, kxv13, kxv14, kxf0, kxf1, kxf2, kxf4, kxf5, kxf6, kxf7, kxf8, kxf13, kxf15, kxf12, kxf18, kxf19, kxf21, kxf22, _, _, kwf, kyv, kyf⟩ := hx
    refine ⟨⟨by rw [kxv0, kmv1]; exact t0, by rw [kxv1, kmv2]; exact t1, by rw [kxv4, kmv4]; exact t2, by rw [kxv9, kmv11]; exact t3⟩, ?_⟩
    unfold RK
    rw [kxv0, kxv1, kxf0, kxf1, kxf2, kxf4, kxf5, kxf6, kxf7, kxf8, kwf, kyv, kyf, kmf0, kmf1, kmf2, kmf6, kmf7, kmf8, kmf9, kmf10, kmf11, kmf12, kmf13, kmf25, kmf26, kmf28, kmf29, kmf30, kmf31]
    rcases hpm with ⟨_, d, f3, f4, f5⟩ | ⟨d, _, f3, f4, f5⟩ | ⟨d, _, _, _, f3, f4, f5⟩ | ⟨d, d2, _, _, f3, f4, f5⟩
    · rw [f3, f4, f5]; exact ⟨q1, q2, q3, q4, q5, q6⟩
    · rw [f3, f4, f5]; exact ⟨q1, q2, q3, q4, q5, q6⟩
    · rw [f3, f4, f5]; exact ⟨q1, q2, q3, q4, q5, q6⟩
    · exfalso
      have hk := q1 _ (cl16 d.1)
      have hkt := congrArg Int32.toInt hk.1
      have hkk := hk.2.1
      omega
theorem ST_repair {p0 p1 rx rm : Int32} {zx zx' : XS} {zm zm' : MS} (hI : XI zx) (h : TR zx zm) (hx : RX_X8_repair p0 p1 rx zx zx') (hm : RM_X9_repair p0 p1 rm zm zm') : TR zx' zm' := by
  obtain ⟨⟨t0, t1, t2, t3⟩, q1, q2, q3, q4, q5, q6⟩ := h
  have hb := hI.1
  have hb1 := hI.2.1
  obtain ⟨hpm, kmv1, kmv2, kmv4, kmv11, kmv12, kmf0, kmf1, kmf2, kmf3, kmf4, kmf5, kmf7, kmf8, kmf9, kmf10, kmf11, kmf12, kmf13, kmf25, kmf26, kmf28, kmf29, kmf30, kmf31, kmf39, kmf40, kmf17, kmf18, kmf19, kmf20, kmf21, kmf27, kmf32, kmf33, kmf34, kmf35⟩ := hm
  rcases hx with hx | hx
  ·
    obtain ⟨gw, ewf, hcx, hpx, kxv0, kxv1, kxv4, kxv9, kxv10, kxv13, kxv14, kxf0, kxf1, kxf2, kxf4, kxf5, kxf6, kxf7, kxf8, kxf13, kxf15, kxf12, kxf18, kxf19, kxf21, kxf22, _, _, gw0, gw1, gw3, kyv, kyf⟩ := hx
    have hp := cl16 (p := p0) ⟨hcx.1, hcx.2.1⟩
    have hk := (q1 _ hp).1
    have hw := q4 _ hp hcx.2.2
    have hkk := (q1 _ hp).2.1
    have hkt := congrArg Int32.toInt hk
    have hct := i_clamp0 hb.1
    refine ⟨⟨by rw [kxv0, kmv1]; exact t0, by rw [kxv1, kmv2]; exact t1, by rw [kxv4, kmv4]; exact t2, by rw [kxv9, kmv11]; exact t3⟩, ?_⟩
    unfold RK
    rw [kxv0, kxv1, kxf0, kxf1, kxf2, kxf4, kxf5, kxf6, kxf7, kxf8, kyv, kyf, kmf0, kmf1, kmf2, kmf3, kmf4, kmf5, kmf7, kmf8, kmf9, kmf10, kmf11, kmf12, kmf13, kmf25, kmf26, kmf28, kmf29, kmf30, kmf31]
    rw [ewf]
    rcases hpx with ⟨c, _, e2⟩ | ⟨c, c2, _, e2⟩ | ⟨c, c2, _, e2⟩
    · rcases hpm with ⟨_, d, f⟩ | ⟨d, _, f⟩ | ⟨d, _, _, f⟩
      · rw [f]; exact ⟨q1, q2, q3, KK4_same q4 hp (wf_ext gw0 gw1 e2 gw3), KK5_mono q5 (Int.le_refl _) (fun j x hj hx => SP_w3 hx gw3), q6⟩
      · exfalso; omega
      · exfalso; omega
    · have hix := ix400 (p := p0) (d := p1) ⟨hcx.1, hcx.2.1⟩ (by omega)
      rcases hpm with ⟨_, d, f⟩ | ⟨d, _, f⟩ | ⟨d, _, _, f⟩
      · exfalso; omega
      · exfalso; omega
      · rw [f, hix]
        exact ⟨q1, q2, q3, KK4_repair q4 hp (cl400 (by omega)) (Or.inr ⟨c2, e2⟩) gw0 gw1 gw3, KK5_mono q5 (Int.le_refl _) (fun j x hj hx => SP_w3 hx gw3), q6⟩
    · have hix := ix400 (p := p0) (d := p1) ⟨hcx.1, hcx.2.1⟩ (by omega)
      rcases hpm with ⟨_, d, f⟩ | ⟨d, _, f⟩ | ⟨d, _, _, f⟩
      · exfalso; omega
      · exfalso; omega
      · rw [f, hix]
        exact ⟨q1, q2, q3, KK4_repair q4 hp (cl400 (by omega)) (Or.inl e2) gw0 gw1 gw3, KK5_mono q5 (Int.le_refl _) (fun j x hj hx => SP_w3 hx gw3), q6⟩
  ·
    obtain ⟨hcx, hpx, kxv0, kxv1, kxv4, kxv9, kxv10, kxv13, kxv14, kxf0, kxf1, kxf2, kxf4, kxf5, kxf6, kxf7, kxf8, kxf13, kxf15, kxf12, kxf18, kxf19, kxf21, kxf22, _, _, kwf, kyv, kyf⟩ := hx
    refine ⟨⟨by rw [kxv0, kmv1]; exact t0, by rw [kxv1, kmv2]; exact t1, by rw [kxv4, kmv4]; exact t2, by rw [kxv9, kmv11]; exact t3⟩, ?_⟩
    unfold RK
    rw [kxv0, kxv1, kxf0, kxf1, kxf2, kxf4, kxf5, kxf6, kxf7, kxf8, kwf, kyv, kyf, kmf0, kmf1, kmf2, kmf3, kmf4, kmf5, kmf7, kmf8, kmf9, kmf10, kmf11, kmf12, kmf13, kmf25, kmf26, kmf28, kmf29, kmf30, kmf31]
    rcases hpm with ⟨_, d, f⟩ | ⟨d, _, f⟩ | ⟨d, d2, _, f⟩
    · rw [f]; exact ⟨q1, q2, q3, q4, q5, q6⟩
    · rw [f]; exact ⟨q1, q2, q3, q4, q5, q6⟩
    · exfalso
      have hk := q1 _ (cl16 d.1)
      have hkt := congrArg Int32.toInt hk.1
      have hkk := hk.2.1
      omega
theorem ST_late {p0 p1 rx rm : Int32} {zx zx' : XS} {zm zm' : MS} (hI : XI zx) (h : TR zx zm) (hx : RX_X8_late p0 p1 rx zx zx') (hm : RM_X9_late p0 p1 rm zm zm') : TR zx' zm' := by
  obtain ⟨⟨t0, t1, t2, t3⟩, q1, q2, q3, q4, q5, q6⟩ := h
  have hb := hI.1
  have hb1 := hI.2.1
  obtain ⟨hpm, kmv1, kmv2, kmv4, kmv11, kmv12, kmf0, kmf1, kmf2, kmf3, kmf4, kmf5, kmf6, kmf8, kmf9, kmf10, kmf11, kmf12, kmf13, kmf25, kmf26, kmf28, kmf29, kmf30, kmf31, kmf39, kmf40, kmf17, kmf18, kmf19, kmf20, kmf21, kmf27, kmf32, kmf33, kmf34, kmf35⟩ := hm
  rcases hx with hx | hx
  ·
    obtain ⟨gw, ewf, hcx, hpx, kxv0, kxv1, kxv4, kxv9, kxv10, kxv13, kxv14, kxf0, kxf1, kxf2, kxf4, kxf5, kxf6, kxf7, kxf8, kxf13, kxf15, kxf12, kxf18, kxf19, kxf21, kxf22, _, _, gw0, gw1, gw3, kyv, kyf⟩ := hx
    have hp := cl16 (p := p0) ⟨hcx.1, hcx.2.1⟩
    have hk := (q1 _ hp).1
    have hw := q4 _ hp hcx.2.2
    have hkk := (q1 _ hp).2.1
    have hkt := congrArg Int32.toInt hk
    have hct := i_clamp0 hb.1
    refine ⟨⟨by rw [kxv0, kmv1]; exact t0, by rw [kxv1, kmv2]; exact t1, by rw [kxv4, kmv4]; exact t2, by rw [kxv9, kmv11]; exact t3⟩, ?_⟩
    unfold RK
    rw [kxv0, kxv1, kxf0, kxf1, kxf2, kxf4, kxf5, kxf6, kxf7, kxf8, kyv, kyf, kmf0, kmf1, kmf2, kmf3, kmf4, kmf5, kmf6, kmf8, kmf9, kmf10, kmf11, kmf12, kmf13, kmf25, kmf26, kmf28, kmf29, kmf30, kmf31]
    rw [ewf]
    rcases hpx with ⟨c, _, e2⟩ | ⟨c, c2, _, e2⟩ | ⟨c, c2, _, e2⟩
    · rcases hpm with ⟨_, d, f⟩ | ⟨d, _, f⟩ | ⟨d, _, _, f⟩
      · rw [f]; exact ⟨q1, q2, q3, KK4_same q4 hp (wf_ext gw0 gw1 e2 gw3), KK5_mono q5 (Int.le_refl _) (fun j x hj hx => SP_w3 hx gw3), q6⟩
      · exfalso; omega
      · exfalso; omega
    · have hix := ix400 (p := p0) (d := p1) ⟨hcx.1, hcx.2.1⟩ (by omega)
      rcases hpm with ⟨_, d, f⟩ | ⟨d, _, f⟩ | ⟨d, _, _, f⟩
      · exfalso; omega
      · exfalso; omega
      · rw [f, hix]
        exact ⟨q1, q2, q3, KK4_late q4 hp (cl400 (by omega)) (Or.inr ⟨c2, e2⟩) gw0 gw1 gw3, KK5_mono q5 (Int.le_refl _) (fun j x hj hx => SP_w3 hx gw3), q6⟩
    · have hix := ix400 (p := p0) (d := p1) ⟨hcx.1, hcx.2.1⟩ (by omega)
      rcases hpm with ⟨_, d, f⟩ | ⟨d, _, f⟩ | ⟨d, _, _, f⟩
      · exfalso; omega
      · exfalso; omega
      · rw [f, hix]
        exact ⟨q1, q2, q3, KK4_late q4 hp (cl400 (by omega)) (Or.inl e2) gw0 gw1 gw3, KK5_mono q5 (Int.le_refl _) (fun j x hj hx => SP_w3 hx gw3), q6⟩
  ·
    obtain ⟨hcx, hpx, kxv0, kxv1, kxv4, kxv9, kxv10, kxv13, kxv14, kxf0, kxf1, kxf2, kxf4, kxf5, kxf6, kxf7, kxf8, kxf13, kxf15, kxf12, kxf18, kxf19, kxf21, kxf22, _, _, kwf, kyv, kyf⟩ := hx
    refine ⟨⟨by rw [kxv0, kmv1]; exact t0, by rw [kxv1, kmv2]; exact t1, by rw [kxv4, kmv4]; exact t2, by rw [kxv9, kmv11]; exact t3⟩, ?_⟩
    unfold RK
    rw [kxv0, kxv1, kxf0, kxf1, kxf2, kxf4, kxf5, kxf6, kxf7, kxf8, kwf, kyv, kyf, kmf0, kmf1, kmf2, kmf3, kmf4, kmf5, kmf6, kmf8, kmf9, kmf10, kmf11, kmf12, kmf13, kmf25, kmf26, kmf28, kmf29, kmf30, kmf31]
    rcases hpm with ⟨_, d, f⟩ | ⟨d, _, f⟩ | ⟨d, d2, _, f⟩
    · rw [f]; exact ⟨q1, q2, q3, q4, q5, q6⟩
    · rw [f]; exact ⟨q1, q2, q3, q4, q5, q6⟩
    · exfalso
      have hk := q1 _ (cl16 d.1)
      have hkt := congrArg Int32.toInt hk.1
      have hkk := hk.2.1
      omega
theorem ST_off {p0 p1 p2 p3 rx rm : Int32} {zx zx' : XS} {zm zm' : MS} (hI : XI zx) (h : TR zx zm) (hx : RX_X8_off p0 p1 p2 p3 rx zx zx') (hm : RM_X9_off p0 p1 p2 p3 rm zm zm') : TR zx' zm' := by
  obtain ⟨⟨t0, t1, t2, t3⟩, q1, q2, q3, q4, q5, q6⟩ := h
  have hb := hI.1
  have hb1 := hI.2.1
  obtain ⟨hpx, kxv0, kxv4, kxv9, kxv10, kxv13, kxv14, kxf0, kxf1, kxf2, kxf13, kxf15, kxf12, kxf18, kxf19, kxf21, kxf22, _, _, kwf, kyv, kyf⟩ := hx
  obtain ⟨hpm, kmv1, kmv4, kmv11, kmv12, kmf0, kmf1, kmf2, kmf3, kmf4, kmf5, kmf6, kmf7, kmf8, kmf25, kmf26, kmf28, kmf29, kmf30, kmf31, kmf39, kmf40, kmf17, kmf18, kmf19, kmf20, kmf21, kmf27, kmf32, kmf33, kmf34, kmf35⟩ := hm
  have hq : (xV zx' 1).toInt = (mV zm' 2).toInt := by
    rcases hpx with h1 | h1 | h1 <;> rcases hpm with h2 | h2 | h2 <;> omega
  refine ⟨⟨by rw [kxv0, kmv1]; exact t0, hq, by rw [kxv4, kmv4]; exact t2, by rw [kxv9, kmv11]; exact t3⟩, ?_⟩
  unfold RK
  rw [kxv0, kxf0, kxf1, kxf2, kwf, kyv, kyf, kmf0, kmf1, kmf2, kmf3, kmf4, kmf5, kmf6, kmf7, kmf8, kmf25, kmf26, kmf28, kmf29, kmf30, kmf31]
  refine ⟨q1, q2, ?_, q4, q5, q6⟩
  rcases hpx with ⟨c, _, n, e4, e5, e6, e7, e8⟩ | ⟨c, c2, _, n, e4, e5, e6, e7, e8⟩ | ⟨c, c2, c3, n, e4, e5, e6, e7, e8⟩
  · rcases hpm with ⟨d, _, n2, f9, f10, f11, f12, f13⟩ | ⟨d, d2, _, n2, f9, f10, f11, f12, f13⟩ | ⟨d, d2, _, n2, f9, f10, f11, f12, f13⟩
    · rw [e4, e5, e6, e7, e8, f9, f10, f11, f12, f13]; exact KK3_n q3 n
    · exact absurd d c
    · exact absurd d c
  · rcases hpm with ⟨d, _, n2, f9, f10, f11, f12, f13⟩ | ⟨d, d2, _, n2, f9, f10, f11, f12, f13⟩ | ⟨d, d2, _, n2, f9, f10, f11, f12, f13⟩
    · exact absurd c d
    · rw [e4, e5, e6, e7, e8, f9, f10, f11, f12, f13]; exact KK3_n q3 n
    · exfalso; omega
  · rcases hpm with ⟨d, _, n2, f9, f10, f11, f12, f13⟩ | ⟨d, d2, _, n2, f9, f10, f11, f12, f13⟩ | ⟨d, d2, _, n2, f9, f10, f11, f12, f13⟩
    · exact absurd c d
    · exfalso; omega
    · rw [e4, e5, e6, e7, e8, f9, f10, f11, f12, f13, ← i_eq.mpr t1, ← i_eq.mpr t0]
      exact KK3_off q3 (by omega) (by omega) c.1 c.2.2.2.2
theorem ST_lend {p0 p1 rx rm : Int32} {zx zx' : XS} {zm zm' : MS} (hI : XI zx) (h : TR zx zm) (hx : RX_X8_lend p0 p1 rx zx zx') (hm : RM_X9_lend p0 p1 rm zm zm') : TR zx' zm' := by
  obtain ⟨⟨t0, t1, t2, t3⟩, q1, q2, q3, q4, q5, q6⟩ := h
  have hb := hI.1
  have hb1 := hI.2.1
  obtain ⟨hpm, kmv1, kmv2, kmv4, kmv11, kmv12, kmf0, kmf1, kmf2, kmf3, kmf4, kmf5, kmf6, kmf7, kmf9, kmf10, kmf11, kmf12, kmf13, kmf25, kmf26, kmf28, kmf29, kmf30, kmf31, kmf39, kmf40, kmf17, kmf18, kmf19, kmf20, kmf21, kmf27, kmf32, kmf33, kmf34, kmf35⟩ := hm
  rcases hx with hx | hx
  ·
    obtain ⟨gw, ewf, hcx, hpx, kxv0, kxv1, kxv4, kxv9, kxv10, kxv13, kxv14, kxf0, kxf1, kxf2, kxf4, kxf5, kxf6, kxf7, kxf8, kxf13, kxf15, kxf12, kxf18, kxf19, kxf21, kxf22, _, _, gw0, gw1, gw2, kyv, kyf⟩ := hx
    have hp := cl16 (p := p0) ⟨hcx.1, hcx.2.1⟩
    have hk := (q1 _ hp).1
    have hw := q4 _ hp hcx.2.2
    have hkk := (q1 _ hp).2.1
    have hkt := congrArg Int32.toInt hk
    have hct := i_clamp0 hb.1
    have hto : (xwf zx (p0).toNatClampNeg 3 (xV zx 0).toNatClampNeg).toInt = (mF zm 8 (400 * p0 + mV zm 1).toNatClampNeg).toInt := by
      rw [← i_eq.mpr t0, ix400 ⟨hcx.1, hcx.2.1⟩ hb]
      exact congrArg Int32.toInt (hw.2.1 _ (by omega) (by omega))
    have hix : (400 * p0 + mV zm 1).toNatClampNeg = 400 * (p0).toNatClampNeg + (xV zx 0).toInt.toNat := by
      rw [← i_eq.mpr t0, ix400 ⟨hcx.1, hcx.2.1⟩ hb]; rfl
    refine ⟨⟨by rw [kxv0, kmv1]; exact t0, by rw [kxv1, kmv2]; exact t1, by rw [kxv4, kmv4]; exact t2, by rw [kxv9, kmv11]; exact t3⟩, ?_⟩
    unfold RK
    rw [kxv0, kxv1, kxf0, kxf1, kxf2, kxf4, kxf5, kxf6, kxf7, kxf8, kyv, kyf, kmf0, kmf1, kmf2, kmf3, kmf4, kmf5, kmf6, kmf7, kmf9, kmf10, kmf11, kmf12, kmf13, kmf25, kmf26, kmf28, kmf29, kmf30, kmf31]
    rw [ewf]
    rcases hpx with ⟨c, _, e3⟩ | ⟨c, c2, _, e3⟩ | ⟨c, c2, _, e3⟩
    · rcases hpm with ⟨_, d, f⟩ | ⟨d, _, f⟩ | ⟨d, _, _, _, f⟩ | ⟨d, _, _, _, f⟩
      · rw [f]; exact ⟨q1, q2, q3, KK4_same q4 hp (wf_ext gw0 gw1 gw2 e3), KK5_mono q5 (Int.le_refl _) (fun j x hj hx => SP_w3 hx e3), q6⟩
      · exfalso; omega
      · exfalso; omega
      · exfalso; omega
    · rcases hpm with ⟨_, d, f⟩ | ⟨d, _, f⟩ | ⟨d, _, _, _, f⟩ | ⟨d, _, d2, _, f⟩
      · exfalso; omega
      · exfalso; omega
      · rw [f]; exact ⟨q1, q2, q3, KK4_same q4 hp (wf_ext gw0 gw1 gw2 e3), KK5_mono q5 (Int.le_refl _) (fun j x hj hx => SP_w3 hx e3), q6⟩
      · exfalso; omega
    · rcases hpm with ⟨_, d, f⟩ | ⟨d, _, f⟩ | ⟨d, _, d2, _, f⟩ | ⟨d, _, _, _, f⟩
      · exfalso; omega
      · exfalso; omega
      · exfalso; omega
      · rw [f, hix]
        refine ⟨q1, q2, q3, KK4_give q4 hp hb gw0 gw1 gw2 e3, KK5_mono q5 (Int.le_refl _) (fun j x hj hx => SP_ne hx (SP_h hx ?_) (fun q _ => rfl)), q6⟩
        rw [show (xV zx 0).toInt.toNat = (xV zx 0).toNatClampNeg from rfl]
        omega
  ·
    obtain ⟨hcx, hpx, kxv0, kxv1, kxv4, kxv9, kxv10, kxv13, kxv14, kxf0, kxf1, kxf2, kxf4, kxf5, kxf6, kxf7, kxf8, kxf13, kxf15, kxf12, kxf18, kxf19, kxf21, kxf22, _, _, kwf, kyv, kyf⟩ := hx
    refine ⟨⟨by rw [kxv0, kmv1]; exact t0, by rw [kxv1, kmv2]; exact t1, by rw [kxv4, kmv4]; exact t2, by rw [kxv9, kmv11]; exact t3⟩, ?_⟩
    unfold RK
    rw [kxv0, kxv1, kxf0, kxf1, kxf2, kxf4, kxf5, kxf6, kxf7, kxf8, kwf, kyv, kyf, kmf0, kmf1, kmf2, kmf3, kmf4, kmf5, kmf6, kmf7, kmf9, kmf10, kmf11, kmf12, kmf13, kmf25, kmf26, kmf28, kmf29, kmf30, kmf31]
    rcases hpm with ⟨_, d, f⟩ | ⟨d, _, f⟩ | ⟨d, _, _, _, f⟩ | ⟨d, d2, _, _, f⟩
    · rw [f]; exact ⟨q1, q2, q3, q4, q5, q6⟩
    · rw [f]; exact ⟨q1, q2, q3, q4, q5, q6⟩
    · rw [f]; exact ⟨q1, q2, q3, q4, q5, q6⟩
    · exfalso
      have hk := q1 _ (cl16 d.1)
      have hkt := congrArg Int32.toInt hk.1
      have hkk := hk.2.1
      omega
theorem ST_home {p0 rx rm : Int32} {zx zx' : XS} {zm zm' : MS} (hI : XI zx) (h : TR zx zm) (hx : RX_X8_home p0 rx zx zx') (hm : RM_X9_home p0 rm zm zm') : TR zx' zm' := by
  obtain ⟨⟨t0, t1, t2, t3⟩, q1, q2, q3, q4, q5, q6⟩ := h
  have hb := hI.1
  have hb1 := hI.2.1
  obtain ⟨hpm, kmv1, kmv2, kmv4, kmv11, kmv12, kmf0, kmf1, kmf2, kmf3, kmf4, kmf5, kmf6, kmf7, kmf9, kmf10, kmf11, kmf12, kmf13, kmf25, kmf26, kmf28, kmf29, kmf30, kmf31, kmf39, kmf40, kmf17, kmf18, kmf19, kmf20, kmf21, kmf27, kmf32, kmf33, kmf34, kmf35⟩ := hm
  rcases hx with hx | hx
  ·
    obtain ⟨gw, ewf, hcx, hpx, kxv0, kxv1, kxv4, kxv9, kxv10, kxv13, kxv14, kxf0, kxf1, kxf2, kxf4, kxf5, kxf6, kxf7, kxf8, kxf13, kxf15, kxf12, kxf18, kxf19, kxf21, kxf22, _, _, gw0, gw1, gw2, kyv, kyf⟩ := hx
    have hp := cl16 (p := p0) ⟨hcx.1, hcx.2.1⟩
    have hk := (q1 _ hp).1
    have hw := q4 _ hp hcx.2.2
    have hkk := (q1 _ hp).2.1
    have hkt := congrArg Int32.toInt hk
    have hct := i_clamp0 hb.1
    have hto : (xwf zx (p0).toNatClampNeg 3 (xV zx 0).toNatClampNeg).toInt = (mF zm 8 (400 * p0 + mV zm 1).toNatClampNeg).toInt := by
      rw [← i_eq.mpr t0, ix400 ⟨hcx.1, hcx.2.1⟩ hb]
      exact congrArg Int32.toInt (hw.2.1 _ (by omega) (by omega))
    have hix : (400 * p0 + mV zm 1).toNatClampNeg = 400 * (p0).toNatClampNeg + (xV zx 0).toInt.toNat := by
      rw [← i_eq.mpr t0, ix400 ⟨hcx.1, hcx.2.1⟩ hb]; rfl
    refine ⟨⟨by rw [kxv0, kmv1]; exact t0, by rw [kxv1, kmv2]; exact t1, by rw [kxv4, kmv4]; exact t2, by rw [kxv9, kmv11]; exact t3⟩, ?_⟩
    unfold RK
    rw [kxv0, kxv1, kxf0, kxf1, kxf2, kxf4, kxf5, kxf6, kxf7, kxf8, kyv, kyf, kmf0, kmf1, kmf2, kmf3, kmf4, kmf5, kmf6, kmf7, kmf9, kmf10, kmf11, kmf12, kmf13, kmf25, kmf26, kmf28, kmf29, kmf30, kmf31]
    rw [ewf]
    rcases hpx with ⟨c, _, e3⟩ | ⟨c, _, e3⟩
    · rcases hpm with ⟨d, f⟩ | ⟨d, d1, d2, _, f⟩ | ⟨d, d1, d2, _, f⟩
      · exfalso; omega
      · rw [f]; exact ⟨q1, q2, q3, KK4_same q4 hp (wf_ext gw0 gw1 gw2 e3), KK5_mono q5 (Int.le_refl _) (fun j x hj hx => SP_w3 hx e3), q6⟩
      · exfalso; omega
    · rcases hpm with ⟨d, f⟩ | ⟨d, d1, d2, _, f⟩ | ⟨d, d1, d2, _, f⟩
      · exfalso; omega
      · exfalso; omega
      · rw [f, hix]
        refine ⟨q1, q2, q3, KK4_give q4 hp hb gw0 gw1 gw2 e3, KK5_mono q5 (Int.le_refl _) (fun j x hj hx => SP_ne hx (SP_h hx ?_) (fun q _ => rfl)), q6⟩
        rw [show (xV zx 0).toInt.toNat = (xV zx 0).toNatClampNeg from rfl]
        omega
  ·
    obtain ⟨hcx, hpx, kxv0, kxv1, kxv4, kxv9, kxv10, kxv13, kxv14, kxf0, kxf1, kxf2, kxf4, kxf5, kxf6, kxf7, kxf8, kxf13, kxf15, kxf12, kxf18, kxf19, kxf21, kxf22, _, _, kwf, kyv, kyf⟩ := hx
    refine ⟨⟨by rw [kxv0, kmv1]; exact t0, by rw [kxv1, kmv2]; exact t1, by rw [kxv4, kmv4]; exact t2, by rw [kxv9, kmv11]; exact t3⟩, ?_⟩
    unfold RK
    rw [kxv0, kxv1, kxf0, kxf1, kxf2, kxf4, kxf5, kxf6, kxf7, kxf8, kwf, kyv, kyf, kmf0, kmf1, kmf2, kmf3, kmf4, kmf5, kmf6, kmf7, kmf9, kmf10, kmf11, kmf12, kmf13, kmf25, kmf26, kmf28, kmf29, kmf30, kmf31]
    rcases hpm with ⟨d, f⟩ | ⟨d, d1, d2, _, f⟩ | ⟨d, d1, d2, _, f⟩
    · rw [f]; exact ⟨q1, q2, q3, q4, q5, q6⟩
    · rw [f]; exact ⟨q1, q2, q3, q4, q5, q6⟩
    · exfalso
      have hk := q1 _ (cl16 d)
      have hkt := congrArg Int32.toInt hk.1
      have hkk := hk.2.1
      omega
theorem ST_sight {p0 p1 p2 p3 p4 rx rm : Int32} {zx zx' : XS} {zm zm' : MS} (hI : XI zx) (h : TR zx zm) (hx : RX_X8_sight p0 p1 p2 p3 p4 rx zx zx') (hm : RM_X9_sight p0 p1 p2 p3 p4 rm zm zm') : TR zx' zm' := by
  obtain ⟨⟨t0, t1, t2, t3⟩, q1, q2, q3, q4, q5, q6⟩ := h
  have hb := hI.1
  have hb1 := hI.2.1
  obtain ⟨hpm, kmv1, kmv2, kmv4, kmv11, kmv12, kmf0, kmf1, kmf2, kmf3, kmf4, kmf5, kmf6, kmf7, kmf8, kmf9, kmf10, kmf11, kmf12, kmf13, kmf25, kmf26, kmf28, kmf29, kmf30, kmf31, kmf39, kmf40, kmf17, kmf18, kmf19, kmf20, kmf21, kmf27, kmf32⟩ := hm
  rcases hx with hx | hx
  ·
    obtain ⟨gv, gf, eyv, eyf, hcx, hpx, kxv0, kxv1, kxv4, kxv9, kxv10, kxv13, kxv14, kxf0, kxf1, kxf2, kxf4, kxf5, kxf6, kxf7, kxf8, kxf13, kxf15, kxf12, kxf18, kxf19, kxf21, kxf22, _, _, kwf, gv1, gv2, gv3, gf0, gf1, gf2, gf3, gf4⟩ := hx
    refine ⟨⟨by rw [kxv0, kmv1]; exact t0, by rw [kxv1, kmv2]; exact t1, by rw [kxv4, kmv4]; exact t2, by rw [kxv9, kmv11]; exact t3⟩, ?_⟩
    unfold RK
    rw [kxv0, kxv1, kxf0, kxf1, kxf2, kxf4, kxf5, kxf6, kxf7, kxf8, kwf, kmf0, kmf1, kmf2, kmf3, kmf4, kmf5, kmf6, kmf7, kmf8, kmf9, kmf10, kmf11, kmf12, kmf13, kmf25, kmf26, kmf28, kmf29, kmf30, kmf31]
    rw [eyv, eyf]
    exact ⟨q1, q2, q3, q4, KK5_sight q5 gv1 gv2 gf0, KK6_same q6 gf1 gf2 gf3⟩
  ·
    obtain ⟨hcx, hpx, kxv0, kxv1, kxv4, kxv9, kxv10, kxv13, kxv14, kxf0, kxf1, kxf2, kxf4, kxf5, kxf6, kxf7, kxf8, kxf13, kxf15, kxf12, kxf18, kxf19, kxf21, kxf22, _, _, kwf, kyv, kyf⟩ := hx
    refine ⟨⟨by rw [kxv0, kmv1]; exact t0, by rw [kxv1, kmv2]; exact t1, by rw [kxv4, kmv4]; exact t2, by rw [kxv9, kmv11]; exact t3⟩, ?_⟩
    unfold RK
    rw [kxv0, kxv1, kxf0, kxf1, kxf2, kxf4, kxf5, kxf6, kxf7, kxf8, kwf, kyv, kyf, kmf0, kmf1, kmf2, kmf3, kmf4, kmf5, kmf6, kmf7, kmf8, kmf9, kmf10, kmf11, kmf12, kmf13, kmf25, kmf26, kmf28, kmf29, kmf30, kmf31]
    exact ⟨q1, q2, q3, q4, q5, q6⟩
theorem ST_feed {p0 p1 rx rm : Int32} {zx zx' : XS} {zm zm' : MS} (hI : XI zx) (h : TR zx zm) (hx : RX_X8_feed p0 p1 rx zx zx') (hm : RM_X9_feed p0 p1 rm zm zm') : TR zx' zm' := by
  obtain ⟨⟨t0, t1, t2, t3⟩, q1, q2, q3, q4, q5, q6⟩ := h
  have hb := hI.1
  have hb1 := hI.2.1
  have kx := KQ_X8_feed hx
  have km := KQ_X9_feed hm
  obtain ⟨hpx, kxv0, kxv1, kxv9, kxv10, kxv13, kxv14, kxf0, kxf1, kxf2, kxf4, kxf5, kxf6, kxf7, kxf8, kxf13, kxf15, kxf18, kxf19, kxf21, kxf22, _, _, kwf, kyv, kyf⟩ := hx
  obtain ⟨hpm, kmv1, kmv2, kmv11, kmv12, kmf0, kmf1, kmf2, kmf3, kmf4, kmf5, kmf6, kmf7, kmf8, kmf9, kmf10, kmf11, kmf12, kmf13, kmf25, kmf26, kmf28, kmf29, kmf30, kmf31, kmf39, kmf40, kmf18, kmf19, kmf20, kmf21, kmf27, kmf32, kmf33, kmf34, kmf35⟩ := hm
  refine TR_kq ⟨⟨t0, t1, t2, t3⟩, q1, q2, q3, q4, q5, q6⟩ kx km ?_ ?_
  · rcases hpx with h1 | h1 | h1 <;> rcases hpm with h2 | h2 | h2 <;> omega
  · rw [kxv9, kmv11]; exact t3
theorem ST_rule {p0 rx rm : Int32} {zx zx' : XS} {zm zm' : MS} (hI : XI zx) (h : TR zx zm) (hx : RX_X8_rule p0 rx zx zx') (hm : RM_X9_rule p0 rm zm zm') : TR zx' zm' := by
  obtain ⟨⟨t0, t1, t2, t3⟩, q1, q2, q3, q4, q5, q6⟩ := h
  have hb := hI.1
  have hb1 := hI.2.1
  have kx := KQ_X8_rule hx
  have km := KQ_X9_rule hm
  obtain ⟨⟨hpx, _⟩, kxv0, kxv1, kxv9, _⟩ := hx
  obtain ⟨hpm, kmv1, kmv2, kmv11, kmv12, kmf0, kmf1, kmf2, kmf3, kmf4, kmf5, kmf6, kmf7, kmf8, kmf9, kmf10, kmf11, kmf12, kmf13, kmf25, kmf26, kmf28, kmf29, kmf30, kmf31, kmf39, kmf40, kmf17, kmf27, kmf32, kmf33, kmf34, kmf35⟩ := hm
  refine TR_kq ⟨⟨t0, t1, t2, t3⟩, q1, q2, q3, q4, q5, q6⟩ kx km ?_ ?_
  · rcases hpx with h1 | h1 | h1 | h1 <;> rcases hpm with h2 | h2 <;> omega
  · rw [kxv9, kmv11]; exact t3
theorem ST_doubt {p0 rx rm : Int32} {zx zx' : XS} {zm zm' : MS} (hI : XI zx) (h : TR zx zm) (hx : RX_X8_doubt p0 rx zx zx') (hm : RM_X9_doubt p0 rm zm zm') : TR zx' zm' := by
  obtain ⟨⟨t0, t1, t2, t3⟩, q1, q2, q3, q4, q5, q6⟩ := h
  have hb := hI.1
  have hb1 := hI.2.1
  have kx := KQ_X8_doubt hx
  have km := KQ_X9_doubt hm
  obtain ⟨hpx, kxv0, kxv1, kxv4, kxv10, kxv13, kxv14, kxf0, kxf1, kxf2, kxf4, kxf5, kxf6, kxf7, kxf8, kxf15, kxf12, kxf18, kxf19, kxf21, kxf22, _, _, kwf, kyv, kyf⟩ := hx
  obtain ⟨hpm, kmv1, kmv2, kmv4, kmv12, kmf0, kmf1, kmf2, kmf3, kmf4, kmf5, kmf6, kmf7, kmf8, kmf9, kmf10, kmf11, kmf12, kmf13, kmf25, kmf26, kmf28, kmf29, kmf30, kmf31, kmf40, kmf17, kmf18, kmf19, kmf20, kmf21, kmf27, kmf32, kmf33, kmf34, kmf35⟩ := hm
  refine TR_kq ⟨⟨t0, t1, t2, t3⟩, q1, q2, q3, q4, q5, q6⟩ kx km ?_ ?_
  · rw [kxv4, kmv4]; exact t2
  · rcases hpx with h1 | h1 | h1 <;> rcases hpm with h2 | h2 | h2 <;> omega
theorem ST_deal {p0 p1 p2 rx rm : Int32} {zx zx' : XS} {zm zm' : MS} (hI : XI zx) (h : TR zx zm) (hx : RX_X8_deal p0 p1 p2 rx zx zx') (hm : RM_X9_deal p0 p1 p2 rm zm zm') : TR zx' zm' := by
  obtain ⟨⟨t0, t1, t2, t3⟩, q1, q2, q3, q4, q5, q6⟩ := h
  have hb := hI.1
  have hb1 := hI.2.1
  have kx := KQ_X8_deal hx
  have km := KQ_X9_deal hm
  obtain ⟨hpx, kxv0, kxv1, kxv4, kxv13, kxv14, kxf0, kxf1, kxf2, kxf4, kxf5, kxf6, kxf7, kxf8, kxf13, kxf12, kxf18, kxf19, kxf21, kxf22, _, _, kwf, kyv, kyf⟩ := hx
  obtain ⟨hpm, kmv1, kmv2, kmv4, kmf0, kmf1, kmf2, kmf3, kmf4, kmf5, kmf6, kmf7, kmf8, kmf9, kmf10, kmf11, kmf12, kmf13, kmf25, kmf26, kmf28, kmf29, kmf30, kmf31, kmf39, kmf17, kmf18, kmf19, kmf20, kmf21, kmf27, kmf32, kmf33, kmf34, kmf35⟩ := hm
  refine TR_kq ⟨⟨t0, t1, t2, t3⟩, q1, q2, q3, q4, q5, q6⟩ kx km ?_ ?_
  · rw [kxv4, kmv4]; exact t2
  · rcases hpx with h1 | h1 | h1 <;> rcases hpm with h2 | h2 | h2 <;> omega
