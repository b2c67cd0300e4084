theorem AN_terms {p0 p1 p2 rx rm : Int32} {zx zx' : XS} {zm zm' : MS} (hI : XI zx) (h : TR zx zm) (hx : RX_X8_terms p0 p1 p2 rx zx zx') (hm : RM_X9_terms p0 p1 p2 rm zm zm') : rx = rm := by
  obtain ⟨⟨t0, t1, t2, t3⟩, q1, q2, q3, q4, q5, q6⟩ := h
  have hb := hI.1
  have hb1 := hI.2.1
  obtain ⟨hpm, kmv1, kmv2, kmv4, kmv11, kmf0, kmf1, kmf2, kmf3, kmf4, kmf5, kmf6, kmf7, kmf8, kmf9, kmf10, kmf11, kmf12, kmf13, kmf25, kmf26, kmf28, kmf29, kmf30, kmf31⟩ := hm
  rcases hx with hx | hx
  ·
    obtain ⟨hcx, hpx, kxv0, kxv1, kxv4, kxv9, kxf0, kxf1, kxf2, kxf4, kxf5, kxf6, kxf7, kxf8, _, _, kwf, kyv, kyf⟩ := hx
    have hp := cl16 (p := p0) ⟨hcx.1, hcx.2.1⟩
    have hk := (q1 _ hp).1
    have hw := q4 _ hp hcx.2.2
    have hkk := (q1 _ hp).2.1
    have hkt := congrArg Int32.toInt hk
    have hct := i_clamp0 hb.1
    have hm1 : (-1 : Int32).toInt = -1 := by decide
    have hcp := i_clamp0 hcx.1
    rcases hpx with ⟨r1, c⟩ | ⟨c, e⟩
    · rcases hpm with h2 | h2 | h2
      · exact i_eq.mpr (by omega)
      · exfalso; omega
      · exfalso; omega
    · rcases hpm with h2 | h2 | h2
      · exfalso; omega
      · exfalso; omega
      · obtain ⟨t, hR, hO, h60⟩ := law9R (zm := zm) (p := p0) ⟨hcx.1, hcx.2.1⟩ c q1 q2 q3 hb1 t1 hw.1
        have h3 := h2.2.2
        rw [← law9 (p := p0) ⟨hcx.1, hcx.2.1⟩ c q1 q2 q3 hb1 t1 hw.1] at h3
        have hc := cnt9 hR h60
        rcases e with ⟨e1, e2⟩ | ⟨e1, e2⟩ <;> rcases h3 with ⟨g1, g2⟩ | ⟨g1, g2⟩
        · exact i_eq.mpr (by omega)
        · exact absurd (hc.1.mp e1) g1
        · exact absurd (hc.1.mpr g1) e1
        · exact i_eq.mpr (by rw [e2, g2]; exact frm_eq hR (hc.2 g1) h60)
  ·
    obtain ⟨hcx, hpx, kxv0, kxv1, kxv4, kxv9, kxf0, kxf1, kxf2, kxf4, kxf5, kxf6, kxf7, kxf8, _, _, kwf, kyv, kyf⟩ := hx
    by_cases hp : 0 ≤ p0.toInt ∧ p0.toInt ≤ 15
    · have hkt := congrArg Int32.toInt (q1 _ (cl16 hp)).1
      have hkk := (q1 _ (cl16 hp)).2.1
      rcases hpx with h1 | h1 <;> rcases hpm with h2 | h2 | h2 <;> first | exact i_eq.mpr (by omega) | (exfalso; omega)
    · rcases hpx with h1 | h1 <;> rcases hpm with h2 | h2 | h2 <;> first | exact i_eq.mpr (by omega) | (exfalso; omega)
