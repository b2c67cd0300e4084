theorem AN_days {p0 rx rm : Int32} {zx zx' : XS} {zm zm' : MS} (hI : XI zx) (h : TR zx zm) (hx : RX_X8_days p0 rx zx zx') (hm : RM_X9_days p0 rm zm zm') : rx = rm := by
  obtain ⟨⟨t0, t1, t2, t3⟩, q1, q2, q3, q4, q5, q6⟩ := h
  have hb := hI.1
  have hb1 := hI.2.1
  obtain ⟨hpx, kxv1, kxv4, kxv9, kxv10, kxv13, kxv14, kxf0, kxf1, kxf2, kxf4, kxf5, kxf6, kxf7, kxf8, kxf13, kxf15, kxf12, kxf18, kxf19, kxf21, kxf22, _, _, kwf, kyv, kyf⟩ := hx
  obtain ⟨hpm, kmv2, kmv4, kmv11, kmv12, kmf0, kmf1, kmf2, kmf3, kmf4, kmf5, kmf6, kmf7, kmf9, kmf10, kmf11, kmf12, kmf13, kmf25, kmf26, kmf28, kmf29, kmf30, kmf31, kmf39, kmf40, kmf17, kmf18, kmf19, kmf20, kmf21, kmf27, kmf32, kmf33, kmf34, kmf35⟩ := hm
  rcases hpx with h1 | h1 <;> rcases hpm with h2 | h2 <;> first | exact i_eq.mpr (by omega) | (exfalso; omega)
theorem AN_warmth {p0 p1 rx rm : Int32} {zx zx' : XS} {zm zm' : MS} (hI : XI zx) (h : TR zx zm) (hx : RX_X8_warmth p0 p1 rx zx zx') (hm : RM_X9_warmth p0 p1 rm zm zm') : rx = rm := by
  obtain ⟨⟨t0, t1, t2, t3⟩, q1, q2, q3, q4, q5, q6⟩ := h
  have hb := hI.1
  have hb1 := hI.2.1
  obtain ⟨hpx, kxv0, kxv1, kxv4, kxv9, kxv10, kxv13, kxv14, kxf1, kxf2, kxf4, kxf5, kxf6, kxf7, kxf8, kxf13, kxf15, kxf12, kxf18, kxf19, kxf21, kxf22, _, _, kwf, kyv, kyf⟩ := hx
  obtain ⟨hpm, kmv1, kmv2, kmv4, kmv11, kmv12, kmf1, kmf2, kmf3, kmf4, kmf5, kmf6, kmf7, kmf8, kmf9, kmf10, kmf11, kmf12, kmf13, kmf25, kmf26, kmf28, kmf29, kmf30, kmf31, kmf39, kmf40, kmf17, kmf18, kmf19, kmf20, kmf21, kmf27, kmf32, kmf33, kmf34, kmf35⟩ := hm
  rcases hpx with h1 | h1 <;> rcases hpm with h2 | h2 <;> first | exact i_eq.mpr (by omega) | (exfalso; omega)
theorem AN_off {p0 p1 p2 p3 rx rm : Int32} {zx zx' : XS} {zm zm' : MS} (hI : XI zx) (h : TR zx zm) (hx : RX_X8_off p0 p1 p2 p3 rx zx zx') (hm : RM_X9_off p0 p1 p2 p3 rm zm zm') : rx = rm := by
  obtain ⟨⟨t0, t1, t2, t3⟩, q1, q2, q3, q4, q5, q6⟩ := h
  have hb := hI.1
  have hb1 := hI.2.1
  obtain ⟨hpx, kxv0, kxv4, kxv9, kxv10, kxv13, kxv14, kxf0, kxf1, kxf2, kxf13, kxf15, kxf12, kxf18, kxf19, kxf21, kxf22, _, _, kwf, kyv, kyf⟩ := hx
  obtain ⟨hpm, kmv1, kmv4, kmv11, kmv12, kmf0, kmf1, kmf2, kmf3, kmf4, kmf5, kmf6, kmf7, kmf8, kmf25, kmf26, kmf28, kmf29, kmf30, kmf31, kmf39, kmf40, kmf17, kmf18, kmf19, kmf20, kmf21, kmf27, kmf32, kmf33, kmf34, kmf35⟩ := hm
  rcases hpx with h1 | h1 | h1 <;> rcases hpm with h2 | h2 | h2 <;> first | exact i_eq.mpr (by omega) | (exfalso; omega)
theorem AN_feed {p0 p1 rx rm : Int32} {zx zx' : XS} {zm zm' : MS} (hI : XI zx) (h : TR zx zm) (hx : RX_X8_feed p0 p1 rx zx zx') (hm : RM_X9_feed p0 p1 rm zm zm') : rx = rm := by
  obtain ⟨⟨t0, t1, t2, t3⟩, q1, q2, q3, q4, q5, q6⟩ := h
  have hb := hI.1
  have hb1 := hI.2.1
  obtain ⟨hpx, kxv0, kxv1, kxv9, kxv10, kxv13, kxv14, kxf0, kxf1, kxf2, kxf4, kxf5, kxf6, kxf7, kxf8, kxf13, kxf15, kxf18, kxf19, kxf21, kxf22, _, _, kwf, kyv, kyf⟩ := hx
  obtain ⟨hpm, kmv1, kmv2, kmv11, kmv12, kmf0, kmf1, kmf2, kmf3, kmf4, kmf5, kmf6, kmf7, kmf8, kmf9, kmf10, kmf11, kmf12, kmf13, kmf25, kmf26, kmf28, kmf29, kmf30, kmf31, kmf39, kmf40, kmf18, kmf19, kmf20, kmf21, kmf27, kmf32, kmf33, kmf34, kmf35⟩ := hm
  rcases hpx with h1 | h1 | h1 <;> rcases hpm with h2 | h2 | h2 <;> first | exact i_eq.mpr (by omega) | (exfalso; omega)
theorem AN_doubt {p0 rx rm : Int32} {zx zx' : XS} {zm zm' : MS} (hI : XI zx) (h : TR zx zm) (hx : RX_X8_doubt p0 rx zx zx') (hm : RM_X9_doubt p0 rm zm zm') : rx = rm := by
  obtain ⟨⟨t0, t1, t2, t3⟩, q1, q2, q3, q4, q5, q6⟩ := h
  have hb := hI.1
  have hb1 := hI.2.1
  obtain ⟨hpx, kxv0, kxv1, kxv4, kxv10, kxv13, kxv14, kxf0, kxf1, kxf2, kxf4, kxf5, kxf6, kxf7, kxf8, kxf15, kxf12, kxf18, kxf19, kxf21, kxf22, _, _, kwf, kyv, kyf⟩ := hx
  obtain ⟨hpm, kmv1, kmv2, kmv4, kmv12, kmf0, kmf1, kmf2, kmf3, kmf4, kmf5, kmf6, kmf7, kmf8, kmf9, kmf10, kmf11, kmf12, kmf13, kmf25, kmf26, kmf28, kmf29, kmf30, kmf31, kmf40, kmf17, kmf18, kmf19, kmf20, kmf21, kmf27, kmf32, kmf33, kmf34, kmf35⟩ := hm
  rcases hpx with h1 | h1 | h1 <;> rcases hpm with h2 | h2 | h2 <;> first | exact i_eq.mpr (by omega) | (exfalso; omega)
theorem AN_holds {p0 rx rm : Int32} {zx zx' : XS} {zm zm' : MS} (hI : XI zx) (h : TR zx zm) (hx : RX_X8_holds p0 rx zx zx') (hm : RM_X9_holds p0 rm zm zm') : rx = rm := by
  obtain ⟨⟨t0, t1, t2, t3⟩, q1, q2, q3, q4, q5, q6⟩ := h
  have hb := hI.1
  have hb1 := hI.2.1
  obtain ⟨hpx, kxv0, kxv1, kxv4, kxv9, kxv10, kxv13, kxv14, kxf0, kxf1, kxf2, kxf4, kxf5, kxf6, kxf7, kxf8, kxf13, kxf15, kxf12, kxf18, kxf19, kxf21, kxf22, _, _, kwf, kyv, kyf⟩ := hx
  obtain ⟨hpm, kmv1, kmv2, kmv4, kmv11, kmv12, kmf0, kmf1, kmf2, kmf3, kmf4, kmf5, kmf6, kmf7, kmf8, kmf9, kmf10, kmf11, kmf12, kmf13, kmf25, kmf26, kmf28, kmf29, kmf30, kmf31, kmf39, kmf40, kmf17, kmf18, kmf19, kmf20, kmf21, kmf27, kmf32, kmf33, kmf34, kmf35⟩ := hm
  rcases hpx with ⟨c, e⟩ | ⟨c, e⟩ <;> rcases hpm with ⟨d, f⟩ | ⟨d, f⟩
  · rw [e, f]; exact (q1 _ (cl16 c)).1
  · exact absurd c d
  · exact absurd d c
  · exact i_eq.mpr (by omega)
theorem AN_read {p0 rx rm : Int32} {zx zx' : XS} {zm zm' : MS} (hI : XI zx) (h : TR zx zm) (hx : RX_X8_read p0 rx zx zx') (hm : RM_X9_read p0 rm zm zm') : rx = rm := by
  obtain ⟨⟨t0, t1, t2, t3⟩, q1, q2, q3, q4, q5, q6⟩ := h
  have hb := hI.1
  have hb1 := hI.2.1
  obtain ⟨hpx, kxv0, kxv1, kxv4, kxv9, kxv10, kxv13, kxv14, kxf0, kxf1, kxf2, kxf4, kxf5, kxf6, kxf7, kxf8, kxf13, kxf15, kxf12, kxf18, kxf19, kxf21, kxf22, _, _, kwf, kyv, kyf⟩ := hx
  obtain ⟨hpm, kmv1, kmv2, kmv4, kmv11, kmv12, kmf0, kmf1, kmf2, kmf3, kmf4, kmf5, kmf6, kmf7, kmf8, kmf9, kmf10, kmf11, kmf12, kmf13, kmf25, kmf26, kmf28, kmf29, kmf30, kmf31, kmf39, kmf40, kmf17, kmf18, kmf19, kmf20, kmf21, kmf27, kmf32, kmf33, kmf34, kmf35⟩ := hm
  rcases hpx with ⟨c, e⟩ | ⟨c, e⟩ <;> rcases hpm with ⟨d, f⟩ | ⟨d, f⟩
  · rw [e, f]; exact (q1 _ (cl16 c.1)).2.2.1
  · exfalso; have := congrArg Int32.toInt (q1 _ (cl16 c.1)).1; omega
  · exfalso; have := congrArg Int32.toInt (q1 _ (cl16 d.1)).1; omega
  · exact i_eq.mpr (by omega)
theorem AN_put {p0 p1 p2 rx rm : Int32} {zx zx' : XS} {zm zm' : MS} (hI : XI zx) (h : TR zx zm) (hx : RX_X8_put p0 p1 p2 rx zx zx') (hm : RM_X9_put p0 p1 p2 rm zm zm') : rx = rm := by
  obtain ⟨⟨t0, t1, t2, t3⟩, q1, q2, q3, q4, q5, q6⟩ := h
  have hb := hI.1
  have hb1 := hI.2.1
  obtain ⟨hpm, kmv1, kmv2, kmv4, kmv11, kmv12, kmf0, kmf4, kmf5, kmf9, kmf10, kmf11, kmf12, kmf13, kmf25, kmf26, kmf28, kmf29, kmf30, kmf31, kmf39, kmf40, kmf17, kmf18, kmf19, kmf20, kmf21, kmf27, kmf32, kmf33, kmf34, kmf35⟩ := hm
  by_cases hp : 0 ≤ p0.toInt ∧ p0.toInt ≤ 15
  · have hkt := congrArg Int32.toInt (q1 _ (cl16 hp)).1
    rcases hx with hx | hx | hx
    · obtain ⟨gw, ewf, hcx, hpx, kxv0, kxv1, kxv4, kxv9, kxv10, kxv13, kxv14, kxf0, kxf4, kxf5, kxf6, kxf7, kxf8, kxf13, kxf15, kxf12, kxf18, kxf19, kxf21, kxf22, _, _, kyv, kyf⟩ := hx
      rcases hpm with h2 | h2 | h2 <;> first | exact i_eq.mpr (by omega) | (exfalso; omega)
    · obtain ⟨gw, ewf, hcx, hpx, kxv0, kxv1, kxv4, kxv9, kxv10, kxv13, kxv14, kxf0, kxf4, kxf5, kxf6, kxf7, kxf8, kxf13, kxf15, kxf12, kxf18, kxf19, kxf21, kxf22, _, _, kyv, kyf⟩ := hx
      rcases hpm with h2 | h2 | h2 <;> first | exact i_eq.mpr (by omega) | (exfalso; omega)
    · obtain ⟨hcx, hpx, kxv0, kxv1, kxv4, kxv9, kxv10, kxv13, kxv14, kxf0, kxf4, kxf5, kxf6, kxf7, kxf8, kxf13, kxf15, kxf12, kxf18, kxf19, kxf21, kxf22, _, _, kwf, kyv, kyf⟩ := hx
      rcases hpx with h1 | h1 | h1 <;> rcases hpm with h2 | h2 | h2 <;> first | exact i_eq.mpr (by omega) | (exfalso; omega)
  · rcases hx with hx | hx | hx
    · obtain ⟨gw, ewf, hcx, hpx, kxv0, kxv1, kxv4, kxv9, kxv10, kxv13, kxv14, kxf0, kxf4, kxf5, kxf6, kxf7, kxf8, kxf13, kxf15, kxf12, kxf18, kxf19, kxf21, kxf22, _, _, kyv, kyf⟩ := hx
      exfalso; omega
    · obtain ⟨gw, ewf, hcx, hpx, kxv0, kxv1, kxv4, kxv9, kxv10, kxv13, kxv14, kxf0, kxf4, kxf5, kxf6, kxf7, kxf8, kxf13, kxf15, kxf12, kxf18, kxf19, kxf21, kxf22, _, _, kyv, kyf⟩ := hx
      exfalso; omega
    · obtain ⟨hcx, hpx, kxv0, kxv1, kxv4, kxv9, kxv10, kxv13, kxv14, kxf0, kxf4, kxf5, kxf6, kxf7, kxf8, kxf13, kxf15, kxf12, kxf18, kxf19, kxf21, kxf22, _, _, kwf, kyv, kyf⟩ := hx
      rcases hpx with h1 | h1 | h1 <;> rcases hpm with h2 | h2 | h2 <;> first | exact i_eq.mpr (by omega) | (exfalso; omega)
theorem AN_take {p0 rx rm : Int32} {zx zx' : XS} {zm zm' : MS} (hI : XI zx) (h : TR zx zm) (hx : RX_X8_take p0 rx zx zx') (hm : RM_X9_take p0 rm zm zm') : rx = rm := by
  obtain ⟨⟨t0, t1, t2, t3⟩, q1, q2, q3, q4, q5, q6⟩ := h
  have hb := hI.1
  have hb1 := hI.2.1
  obtain ⟨hpm, kmv1, kmv2, kmv4, kmv11, kmv12, kmf0, kmf2, kmf3, kmf4, kmf5, kmf6, kmf7, kmf8, kmf9, kmf10, kmf11, kmf12, kmf13, kmf25, kmf26, kmf28, kmf29, kmf30, kmf31, kmf39, kmf40, kmf17, kmf18, kmf19, kmf20, kmf21, kmf27, kmf32, kmf33, kmf34, kmf35⟩ := hm
  rcases hx with hx | hx
  ·
    obtain ⟨hcx, hpx, kxv0, kxv1, kxv4, kxv9, kxv10, kxv13, kxv14, kxf0, kxf2, kxf4, kxf5, kxf6, kxf7, kxf8, kxf13, kxf15, kxf12, kxf18, kxf19, kxf21, kxf22, _, _, kwf, kyv, kyf⟩ := hx
    have hp := cl16 (p := p0) ⟨hcx.1, hcx.2.1⟩
    have hk := (q1 _ hp).1
    have hw := q4 _ hp hcx.2.2
    have hkk := (q1 _ hp).2.1
    have hkt := congrArg Int32.toInt hk
    have hct := i_clamp0 hb.1
    have hto : (xwf zx (p0).toNatClampNeg 3 (xV zx 0).toNatClampNeg).toInt = (mF zm 8 (400 * p0 + mV zm 1).toNatClampNeg).toInt := by
      rw [← i_eq.mpr t0, ix400 ⟨hcx.1, hcx.2.1⟩ hb]
      exact congrArg Int32.toInt (hw.2.1 _ (by omega) (by omega))
    rcases hpx with h1 | h1 <;> rcases hpm with h2 | h2 | h2 | h2 <;> first | exact i_eq.mpr (by omega) | (exfalso; omega)
  ·
    obtain ⟨hcx, hpx, kxv0, kxv1, kxv4, kxv9, kxv10, kxv13, kxv14, kxf0, kxf2, kxf4, kxf5, kxf6, kxf7, kxf8, kxf13, kxf15, kxf12, kxf18, kxf19, kxf21, kxf22, _, _, kwf, kyv, kyf⟩ := hx
    by_cases hp : 0 ≤ p0.toInt ∧ p0.toInt ≤ 15
    · have hkt := congrArg Int32.toInt (q1 _ (cl16 hp)).1
      have hkk := (q1 _ (cl16 hp)).2.1
      rcases hpx with h1 | h1 | h1 <;> rcases hpm with h2 | h2 | h2 | h2 <;> first | exact i_eq.mpr (by omega) | (exfalso; omega)
    · rcases hpx with h1 | h1 | h1 <;> rcases hpm with h2 | h2 | h2 | h2 <;> first | exact i_eq.mpr (by omega) | (exfalso; omega)
theorem AN_compare {p0 p1 p2 p3 rx rm : Int32} {zx zx' : XS} {zm zm' : MS} (hI : XI zx) (h : TR zx zm) (hx : RX_X8_compare p0 p1 p2 p3 rx zx zx') (hm : RM_X9_compare p0 p1 p2 p3 rm zm zm') : rx = rm := by
  obtain ⟨⟨t0, t1, t2, t3⟩, q1, q2, q3, q4, q5, q6⟩ := h
  have hb := hI.1
  have hb1 := hI.2.1
  obtain ⟨hpm, kmv1, kmv2, kmv4, kmv11, kmv12, kmf0, kmf1, kmf2, kmf6, kmf7, kmf8, kmf9, kmf10, kmf11, kmf12, kmf13, kmf25, kmf26, kmf28, kmf29, kmf30, kmf31, kmf39, kmf40, kmf17, kmf18, kmf19, kmf20, kmf21, kmf27, kmf32, kmf33, kmf34, kmf35⟩ := hm
  rcases hx with hx | hx
  ·
    obtain ⟨gw, ewf, hcx, hpx, kxv0, kxv1, kxv4, kxv9, kxv10, kxv13, kxv14, kxf0, kxf1, kxf2, kxf4, kxf5, kxf6, kxf7, kxf8, kxf13, kxf15, kxf12, kxf18, kxf19, kxf21, kxf22, _, _, gw2, gw3, kyv, kyf⟩ := hx
    have hp := cl16 (p := p0) ⟨hcx.1, hcx.2.1⟩
    have hk := (q1 _ hp).1
    have hw := q4 _ hp hcx.2.2
    have hkk := (q1 _ hp).2.1
    have hkt := congrArg Int32.toInt hk
    have hct := i_clamp0 hb.1
    by_cases hpa : 0 ≤ p1.toInt ∧ p1.toInt ≤ (xV zx 0).toInt
    · have hix := ix400 (p := p0) (d := p1) ⟨hcx.1, hcx.2.1⟩ (by omega)
      have hd := (hw.1 (p1).toNatClampNeg (cl400 (by omega))).1
      have hht := congrArg Int32.toInt (hw.2.1 (p1).toNatClampNeg (by have := i_clamp0 (x := p1) (by omega); omega) (cl400 (by omega)))
      rw [hix] at hpm
      rcases hpx with h1 | h1 | h1 <;> rcases hpm with h2 | h2 | h2 | h2 <;> rcases hd with h3 | h3 <;> first | exact i_eq.mpr (by omega) | (exfalso; omega)
    · rcases hpx with h1 | h1 | h1 <;> rcases hpm with h2 | h2 | h2 | h2 <;> first | exact i_eq.mpr (by omega) | (exfalso; omega)
  ·
    obtain ⟨hcx, hpx, kxv0, kxv1, kxv4, kxv9, kxv10, kxv13, kxv14, kxf0, kxf1, kxf2, kxf4, kxf5, kxf6, kxf7, kxf8, kxf13, kxf15, kxf12, kxf18, kxf19, kxf21, kxf22, _, _, kwf, kyv, kyf⟩ := hx
    by_cases hp : 0 ≤ p0.toInt ∧ p0.toInt ≤ 15
    · have hkt := congrArg Int32.toInt (q1 _ (cl16 hp)).1
      have hkk := (q1 _ (cl16 hp)).2.1
      rcases hpx with h1 | h1 <;> rcases hpm with h2 | h2 | h2 | h2 <;> first | exact i_eq.mpr (by omega) | (exfalso; omega)
    · rcases hpx with h1 | h1 <;> rcases hpm with h2 | h2 | h2 | h2 <;> first | exact i_eq.mpr (by omega) | (exfalso; omega)
theorem AN_repair {p0 p1 rx rm : Int32} {zx zx' : XS} {zm zm' : MS} (hI : XI zx) (h : TR zx zm) (hx : RX_X8_repair p0 p1 rx zx zx') (hm : RM_X9_repair p0 p1 rm zm zm') : rx = rm := by
  obtain ⟨⟨t0, t1, t2, t3⟩, q1, q2, q3, q4, q5, q6⟩ := h
  have hb := hI.1
  have hb1 := hI.2.1
  obtain ⟨hpm, kmv1, kmv2, kmv4, kmv11, kmv12, kmf0, kmf1, kmf2, kmf3, kmf4, kmf5, kmf7, kmf8, kmf9, kmf10, kmf11, kmf12, kmf13, kmf25, kmf26, kmf28, kmf29, kmf30, kmf31, kmf39, kmf40, kmf17, kmf18, kmf19, kmf20, kmf21, kmf27, kmf32, kmf33, kmf34, kmf35⟩ := hm
  rcases hx with hx | hx
  ·
    obtain ⟨gw, ewf, hcx, hpx, kxv0, kxv1, kxv4, kxv9, kxv10, kxv13, kxv14, kxf0, kxf1, kxf2, kxf4, kxf5, kxf6, kxf7, kxf8, kxf13, kxf15, kxf12, kxf18, kxf19, kxf21, kxf22, _, _, gw0, gw1, gw3, kyv, kyf⟩ := hx
    have hp := cl16 (p := p0) ⟨hcx.1, hcx.2.1⟩
    have hk := (q1 _ hp).1
    have hw := q4 _ hp hcx.2.2
    have hkk := (q1 _ hp).2.1
    have hkt := congrArg Int32.toInt hk
    have hct := i_clamp0 hb.1
    by_cases hpa : 0 ≤ p1.toInt ∧ p1.toInt ≤ (xV zx 0).toInt
    · have hix := ix400 (p := p0) (d := p1) ⟨hcx.1, hcx.2.1⟩ (by omega)
      have hd := (hw.1 (p1).toNatClampNeg (cl400 (by omega))).2.1
      rw [hix] at hpm
      rcases hpx with h1 | h1 | h1 <;> rcases hpm with h2 | h2 | h2 <;> first | exact i_eq.mpr (by omega) | (exfalso; omega)
    · rcases hpx with h1 | h1 | h1 <;> rcases hpm with h2 | h2 | h2 <;> first | exact i_eq.mpr (by omega) | (exfalso; omega)
  ·
    obtain ⟨hcx, hpx, kxv0, kxv1, kxv4, kxv9, kxv10, kxv13, kxv14, kxf0, kxf1, kxf2, kxf4, kxf5, kxf6, kxf7, kxf8, kxf13, kxf15, kxf12, kxf18, kxf19, kxf21, kxf22, _, _, kwf, kyv, kyf⟩ := hx
    by_cases hp : 0 ≤ p0.toInt ∧ p0.toInt ≤ 15
    · have hkt := congrArg Int32.toInt (q1 _ (cl16 hp)).1
      have hkk := (q1 _ (cl16 hp)).2.1
      rcases hpx with h1 | h1 <;> rcases hpm with h2 | h2 | h2 <;> first | exact i_eq.mpr (by omega) | (exfalso; omega)
    · rcases hpx with h1 | h1 <;> rcases hpm with h2 | h2 | h2 <;> first | exact i_eq.mpr (by omega) | (exfalso; omega)
theorem AN_late {p0 p1 rx rm : Int32} {zx zx' : XS} {zm zm' : MS} (hI : XI zx) (h : TR zx zm) (hx : RX_X8_late p0 p1 rx zx zx') (hm : RM_X9_late p0 p1 rm zm zm') : rx = rm := by
  obtain ⟨⟨t0, t1, t2, t3⟩, q1, q2, q3, q4, q5, q6⟩ := h
  have hb := hI.1
  have hb1 := hI.2.1
  obtain ⟨hpm, kmv1, kmv2, kmv4, kmv11, kmv12, kmf0, kmf1, kmf2, kmf3, kmf4, kmf5, kmf6, kmf8, kmf9, kmf10, kmf11, kmf12, kmf13, kmf25, kmf26, kmf28, kmf29, kmf30, kmf31, kmf39, kmf40, kmf17, kmf18, kmf19, kmf20, kmf21, kmf27, kmf32, kmf33, kmf34, kmf35⟩ := hm
  rcases hx with hx | hx
  ·
    obtain ⟨gw, ewf, hcx, hpx, kxv0, kxv1, kxv4, kxv9, kxv10, kxv13, kxv14, kxf0, kxf1, kxf2, kxf4, kxf5, kxf6, kxf7, kxf8, kxf13, kxf15, kxf12, kxf18, kxf19, kxf21, kxf22, _, _, gw0, gw1, gw3, kyv, kyf⟩ := hx
    have hp := cl16 (p := p0) ⟨hcx.1, hcx.2.1⟩
    have hk := (q1 _ hp).1
    have hw := q4 _ hp hcx.2.2
    have hkk := (q1 _ hp).2.1
    have hkt := congrArg Int32.toInt hk
    have hct := i_clamp0 hb.1
    by_cases hpa : 0 ≤ p1.toInt ∧ p1.toInt ≤ (xV zx 0).toInt
    · have hix := ix400 (p := p0) (d := p1) ⟨hcx.1, hcx.2.1⟩ (by omega)
      have hd := (hw.1 (p1).toNatClampNeg (cl400 (by omega))).2.2
      rw [hix] at hpm
      rcases hpx with h1 | h1 | h1 <;> rcases hpm with h2 | h2 | h2 <;> first | exact i_eq.mpr (by omega) | (exfalso; omega)
    · rcases hpx with h1 | h1 | h1 <;> rcases hpm with h2 | h2 | h2 <;> first | exact i_eq.mpr (by omega) | (exfalso; omega)
  ·
    obtain ⟨hcx, hpx, kxv0, kxv1, kxv4, kxv9, kxv10, kxv13, kxv14, kxf0, kxf1, kxf2, kxf4, kxf5, kxf6, kxf7, kxf8, kxf13, kxf15, kxf12, kxf18, kxf19, kxf21, kxf22, _, _, kwf, kyv, kyf⟩ := hx
    by_cases hp : 0 ≤ p0.toInt ∧ p0.toInt ≤ 15
    · have hkt := congrArg Int32.toInt (q1 _ (cl16 hp)).1
      have hkk := (q1 _ (cl16 hp)).2.1
      rcases hpx with h1 | h1 <;> rcases hpm with h2 | h2 | h2 <;> first | exact i_eq.mpr (by omega) | (exfalso; omega)
    · rcases hpx with h1 | h1 <;> rcases hpm with h2 | h2 | h2 <;> first | exact i_eq.mpr (by omega) | (exfalso; omega)
theorem AN_error {p0 p1 p2 rx rm : Int32} {zx zx' : XS} {zm zm' : MS} (hI : XI zx) (h : TR zx zm) (hx : RX_X8_error p0 p1 p2 rx zx zx') (hm : RM_X9_error p0 p1 p2 rm zm zm') : rx = rm := by
  obtain ⟨⟨t0, t1, t2, t3⟩, q1, q2, q3, q4, q5, q6⟩ := h
  have hb := hI.1
  have hb1 := hI.2.1
  obtain ⟨hpm, kmv1, kmv2, kmv4, kmv11, kmv12, kmf0, kmf1, kmf2, kmf3, kmf4, kmf5, kmf6, kmf7, kmf8, kmf9, kmf10, kmf11, kmf12, kmf13, kmf25, kmf26, kmf28, kmf29, kmf30, kmf31, kmf39, kmf40, kmf17, kmf18, kmf19, kmf20, kmf21, kmf27, kmf32, kmf33, kmf34, kmf35⟩ := hm
  rcases hx with hx | hx
  ·
    obtain ⟨hcx, hpx, kxv0, kxv1, kxv4, kxv9, kxv10, kxv13, kxv14, kxf0, kxf1, kxf2, kxf4, kxf5, kxf6, kxf7, kxf8, kxf13, kxf15, kxf12, kxf18, kxf19, kxf21, kxf22, _, _, kwf, kyv, kyf⟩ := hx
    have hp := cl16 (p := p0) ⟨hcx.1, hcx.2.1⟩
    have hk := (q1 _ hp).1
    have hw := q4 _ hp hcx.2.2
    have hkk := (q1 _ hp).2.1
    have hkt := congrArg Int32.toInt hk
    have hct := i_clamp0 hb.1
    rcases hpx with ⟨c, e⟩ | ⟨c, e⟩ <;> rcases hpm with ⟨d, f⟩ | ⟨d, f⟩
    · rw [e, f]
      exact eX_err d.1 c.1 c.2.1 t1 hb1.1 q3 (hw.1 _ (cl400 c.1))
    · exfalso; omega
    · exfalso; omega
    · exact i_eq.mpr (by omega)
  ·
    obtain ⟨hcx, hpx, kxv0, kxv1, kxv4, kxv9, kxv10, kxv13, kxv14, kxf0, kxf1, kxf2, kxf4, kxf5, kxf6, kxf7, kxf8, kxf13, kxf15, kxf12, kxf18, kxf19, kxf21, kxf22, _, _, kwf, kyv, kyf⟩ := hx
    rcases hpm with ⟨d, f⟩ | ⟨d, f⟩
    · exfalso
      have hkt := congrArg Int32.toInt (q1 _ (cl16 d.1)).1
      have hkk := (q1 _ (cl16 d.1)).2.1
      omega
    · exact i_eq.mpr (by omega)
theorem AN_rate {p0 p1 p2 rx rm : Int32} {zx zx' : XS} {zm zm' : MS} (hI : XI zx) (h : TR zx zm) (hx : RX_X8_rate p0 p1 p2 rx zx zx') (hm : RM_X9_rate p0 p1 p2 rm zm zm') : rx = rm := by
  obtain ⟨⟨t0, t1, t2, t3⟩, q1, q2, q3, q4, q5, q6⟩ := h
  have hb := hI.1
  have hb1 := hI.2.1
  obtain ⟨hpm, kmv1, kmv2, kmv4, kmv11, kmv12, kmf0, kmf1, kmf2, kmf3, kmf4, kmf5, kmf6, kmf7, kmf8, kmf9, kmf10, kmf11, kmf12, kmf13, kmf25, kmf26, kmf28, kmf29, kmf30, kmf31, kmf39, kmf40, kmf17, kmf18, kmf19, kmf20, kmf21, kmf27, kmf32, kmf33, kmf34, kmf35⟩ := hm
  rcases hx with hx | hx
  ·
    obtain ⟨hcx, hpx, kxv0, kxv1, kxv4, kxv9, kxv10, kxv13, kxv14, kxf0, kxf1, kxf2, kxf4, kxf5, kxf6, kxf7, kxf8, kxf13, kxf15, kxf12, kxf18, kxf19, kxf21, kxf22, _, _, kwf, kyv, kyf⟩ := hx
    have hp := cl16 (p := p0) ⟨hcx.1, hcx.2.1⟩
    have hk := (q1 _ hp).1
    have hw := q4 _ hp hcx.2.2
    have hkk := (q1 _ hp).2.1
    have hkt := congrArg Int32.toInt hk
    have hct := i_clamp0 hb.1
    rcases hpx with ⟨c, e⟩ | ⟨c, e⟩ <;> rcases hpm with ⟨d, f⟩ | ⟨d, f⟩
    · rw [e, f]
      exact rX_rat d.1 d.2.2.1 c.2.1 t1 hb1 q3 hw.1
    · have h9 := rX_last (f0 := xwf zx (p0).toNatClampNeg 0) (f1 := xwf zx (p0).toNatClampNeg 1) (f2 := xwf zx (p0).toNatClampNeg 2) (X4 := xF zx 4) (X5 := xF zx 5) (X6 := xF zx 6) (X7 := xF zx 7) (X8 := xF zx 8) (n := xV zx 1) (d := p1) (k := p2) (by omega)
      rw [← e] at h9
      exact i_eq.mpr (by omega)
    · exfalso; omega
    · exact i_eq.mpr (by omega)
  ·
    obtain ⟨hcx, hpx, kxv0, kxv1, kxv4, kxv9, kxv10, kxv13, kxv14, kxf0, kxf1, kxf2, kxf4, kxf5, kxf6, kxf7, kxf8, kxf13, kxf15, kxf12, kxf18, kxf19, kxf21, kxf22, _, _, kwf, kyv, kyf⟩ := hx
    rcases hpm with ⟨d, f⟩ | ⟨d, f⟩
    · exfalso
      have hkt := congrArg Int32.toInt (q1 _ (cl16 d.1)).1
      have hkk := (q1 _ (cl16 d.1)).2.1
      omega
    · exact i_eq.mpr (by omega)
theorem AN_age {p0 p1 rx rm : Int32} {zx zx' : XS} {zm zm' : MS} (hI : XI zx) (h : TR zx zm) (hx : RX_X8_age p0 p1 rx zx zx') (hm : RM_X9_age p0 p1 rm zm zm') : rx = rm := by
  obtain ⟨⟨t0, t1, t2, t3⟩, q1, q2, q3, q4, q5, q6⟩ := h
  have hb := hI.1
  have hb1 := hI.2.1
  obtain ⟨hpm, kmv1, kmv2, kmv4, kmv11, kmv12, kmf0, kmf1, kmf2, kmf3, kmf4, kmf5, kmf6, kmf7, kmf8, kmf9, kmf10, kmf11, kmf12, kmf13, kmf25, kmf26, kmf28, kmf29, kmf30, kmf31, kmf39, kmf40, kmf17, kmf18, kmf19, kmf20, kmf21, kmf27, kmf32, kmf33, kmf34, kmf35⟩ := hm
  rcases hx with hx | hx
  ·
    obtain ⟨hcx, hpx, kxv0, kxv1, kxv4, kxv9, kxv10, kxv13, kxv14, kxf0, kxf1, kxf2, kxf4, kxf5, kxf6, kxf7, kxf8, kxf13, kxf15, kxf12, kxf18, kxf19, kxf21, kxf22, _, _, kwf, kyv, kyf⟩ := hx
    have hp := cl16 (p := p0) ⟨hcx.1, hcx.2.1⟩
    have hk := (q1 _ hp).1
    have hw := q4 _ hp hcx.2.2
    have hkk := (q1 _ hp).2.1
    have hkt := congrArg Int32.toInt hk
    have hct := i_clamp0 hb.1
    have hcp := i_clamp0 hcx.1
    rcases hpx with ⟨c, e⟩ | ⟨c, e⟩
    · rcases hpm with h2 | h2 | h2 <;> first | exact i_eq.mpr (by omega) | (exfalso; omega)
    · have h9 := ageN_M (f := xwf zx (p0).toNatClampNeg 2) (M6 := mF zm 6) (p := (p0).toNatClampNeg) (p1.toInt).toNat (by omega) (fun k hk9 => (hw.1 k hk9).2.1)
      rw [show 400 * (p0).toNatClampNeg = (400 * p0.toInt).toNat by omega] at h9
      rcases hpm with h2 | h2 | h2
      · exfalso; omega
      · exfalso; omega
      · exact i_eq.mpr (by rw [e, h2.2.2, h9])
  ·
    obtain ⟨hcx, hpx, kxv0, kxv1, kxv4, kxv9, kxv10, kxv13, kxv14, kxf0, kxf1, kxf2, kxf4, kxf5, kxf6, kxf7, kxf8, kxf13, kxf15, kxf12, kxf18, kxf19, kxf21, kxf22, _, _, kwf, kyv, kyf⟩ := hx
    by_cases hp : 0 ≤ p0.toInt ∧ p0.toInt ≤ 15
    · have hkt := congrArg Int32.toInt (q1 _ (cl16 hp)).1
      have hkk := (q1 _ (cl16 hp)).2.1
      rcases hpx with h1 | h1 <;> rcases hpm with h2 | h2 | h2 <;> first | exact i_eq.mpr (by omega) | (exfalso; omega)
    · rcases hpx with h1 | h1 <;> rcases hpm with h2 | h2 | h2 <;> first | exact i_eq.mpr (by omega) | (exfalso; omega)
theorem AN_changed {p0 p1 p2 p3 rx rm : Int32} {zx zx' : XS} {zm zm' : MS} (hI : XI zx) (h : TR zx zm) (hx : RX_X8_changed p0 p1 p2 p3 rx zx zx') (hm : RM_X9_changed p0 p1 p2 p3 rm zm zm') : rx = rm := by
  obtain ⟨⟨t0, t1, t2, t3⟩, q1, q2, q3, q4, q5, q6⟩ := h
  have hb := hI.1
  have hb1 := hI.2.1
  obtain ⟨hpm, kmv1, kmv2, kmv4, kmv11, kmv12, kmf0, kmf1, kmf2, kmf3, kmf4, kmf5, kmf6, kmf7, kmf8, kmf9, kmf10, kmf11, kmf12, kmf13, kmf25, kmf26, kmf28, kmf29, kmf30, kmf31, kmf39, kmf40, kmf17, kmf18, kmf19, kmf20, kmf21, kmf27, kmf32, kmf33, kmf34, kmf35⟩ := hm
  rcases hx with hx | hx
  ·
    obtain ⟨hcx, hpx, kxv0, kxv1, kxv4, kxv9, kxv10, kxv13, kxv14, kxf0, kxf1, kxf2, kxf4, kxf5, kxf6, kxf7, kxf8, kxf13, kxf15, kxf12, kxf18, kxf19, kxf21, kxf22, _, _, kwf, kyv, kyf⟩ := hx
    have hp := cl16 (p := p0) ⟨hcx.1, hcx.2.1⟩
    have hk := (q1 _ hp).1
    have hw := q4 _ hp hcx.2.2
    have hkk := (q1 _ hp).2.1
    have hkt := congrArg Int32.toInt hk
    have hct := i_clamp0 hb.1
    have hm1 : (-1 : Int32).toInt = -1 := by decide
    rcases hpx with ⟨c, e⟩ | ⟨c, e⟩
    · rcases hpm with h2 | h2 | h2 <;> first | exact i_eq.mpr (by omega) | (exfalso; omega)
    · rcases hpm with h2 | h2 | h2
      · exfalso; omega
      · exfalso; omega
      · refine i_eq.mpr ?_
        rw [e, h2.2.2]
        refine chN_congr _ (fun j hj => ?_)
        have hd2 := pnI (p := p1) (j := j) (n := 399) c.1.1 (by omega) (by omega)
        exact ⟨rX_rat ⟨hcx.1, hcx.2.1⟩ (d := p1 + nI j) (by omega) (by omega) t1 hb1 q3 hw.1, rX_rat ⟨hcx.1, hcx.2.1⟩ (d := p1 + nI j) (by omega) (by omega) t1 hb1 q3 hw.1⟩
  ·
    obtain ⟨hcx, hpx, kxv0, kxv1, kxv4, kxv9, kxv10, kxv13, kxv14, kxf0, kxf1, kxf2, kxf4, kxf5, kxf6, kxf7, kxf8, kxf13, kxf15, kxf12, kxf18, kxf19, kxf21, kxf22, _, _, kwf, kyv, kyf⟩ := hx
    by_cases hp : 0 ≤ p0.toInt ∧ p0.toInt ≤ 15
    · have hkt := congrArg Int32.toInt (q1 _ (cl16 hp)).1
      have hkk := (q1 _ (cl16 hp)).2.1
      rcases hpx with h1 | h1 <;> rcases hpm with h2 | h2 | h2 <;> first | exact i_eq.mpr (by omega) | (exfalso; omega)
    · rcases hpx with h1 | h1 <;> rcases hpm with h2 | h2 | h2 <;> first | exact i_eq.mpr (by omega) | (exfalso; omega)
theorem AN_law {p0 p1 p2 rx rm : Int32} {zx zx' : XS} {zm zm' : MS} (hI : XI zx) (h : TR zx zm) (hx : RX_X8_law p0 p1 p2 rx zx zx') (hm : RM_X9_law p0 p1 p2 rm zm zm') : rx = rm := by
  obtain ⟨⟨t0, t1, t2, t3⟩, q1, q2, q3, q4, q5, q6⟩ := h
  have hb := hI.1
  have hb1 := hI.2.1
  obtain ⟨hpm, kmv1, kmv2, kmv4, kmv11, kmv12, kmf0, kmf1, kmf2, kmf3, kmf4, kmf5, kmf6, kmf7, kmf8, kmf9, kmf10, kmf11, kmf12, kmf13, kmf25, kmf26, kmf28, kmf29, kmf30, kmf31, kmf39, kmf40, kmf17, kmf18, kmf19, kmf20, kmf21, kmf27, kmf32, kmf33, kmf34, kmf35⟩ := hm
  rcases hx with hx | hx
  ·
    obtain ⟨hcx, hpx, kxv0, kxv1, kxv4, kxv9, kxv10, kxv13, kxv14, kxf0, kxf1, kxf2, kxf4, kxf5, kxf6, kxf7, kxf8, kxf13, kxf15, kxf12, kxf18, kxf19, kxf21, kxf22, _, _, kwf, kyv, kyf⟩ := hx
    have hp := cl16 (p := p0) ⟨hcx.1, hcx.2.1⟩
    have hk := (q1 _ hp).1
    have hw := q4 _ hp hcx.2.2
    have hkk := (q1 _ hp).2.1
    have hkt := congrArg Int32.toInt hk
    have hct := i_clamp0 hb.1
    have hm1 : (-1 : Int32).toInt = -1 := by decide
    have hcp := i_clamp0 hcx.1
    rcases hpx with ⟨r1, c⟩ | ⟨c, e⟩
    · rcases hpm with h2 | h2 | h2
      · exact i_eq.mpr (by omega)
      · exfalso; omega
      · exfalso; omega
    · rcases hpm with h2 | h2 | h2
      · exfalso; omega
      · exfalso; omega
      · rw [e, h2.2.2, law9 (p := p0) ⟨hcx.1, hcx.2.1⟩ c q1 q2 q3 hb1 t1 hw.1]
  ·
    obtain ⟨hcx, hpx, kxv0, kxv1, kxv4, kxv9, kxv10, kxv13, kxv14, kxf0, kxf1, kxf2, kxf4, kxf5, kxf6, kxf7, kxf8, kxf13, kxf15, kxf12, kxf18, kxf19, kxf21, kxf22, _, _, kwf, kyv, kyf⟩ := hx
    by_cases hp : 0 ≤ p0.toInt ∧ p0.toInt ≤ 15
    · have hkt := congrArg Int32.toInt (q1 _ (cl16 hp)).1
      have hkk := (q1 _ (cl16 hp)).2.1
      rcases hpx with h1 | h1 <;> rcases hpm with h2 | h2 | h2 <;> first | exact i_eq.mpr (by omega) | (exfalso; omega)
    · rcases hpx with h1 | h1 <;> rcases hpm with h2 | h2 | h2 <;> first | exact i_eq.mpr (by omega) | (exfalso; omega)
theorem AN_terms {p0 p1 p2 rx rm : Int32} {zx zx' : XS} {zm zm' : MS} (hI : XI zx) (h : TR zx zm) (hx : RX_X8_terms p0 p1 p2 rx zx zx') (hm : RM_X9_terms p0 p1 p2 rm zm zm') : rx = rm := by
  obtain ⟨⟨t0, t1, t2, t3⟩, q1, q2, q3, q4, q5, q6⟩ := h
  have hb := hI.1
  have hb1 := hI.2.1
  obtain ⟨hpm, kmv1, kmv2, kmv4, kmv11, kmv12, kmf0, kmf1, kmf2, kmf3, kmf4, kmf5, kmf6, kmf7, kmf8, kmf9, kmf10, kmf11, kmf12, kmf13, kmf25, kmf26, kmf28, kmf29, kmf30, kmf31, kmf39, kmf40, kmf17, kmf18, kmf19, kmf20, kmf21, kmf27, kmf32, kmf33, kmf34, kmf35⟩ := hm
  rcases hx with hx | hx
  ·
    obtain ⟨hcx, hpx, kxv0, kxv1, kxv4, kxv9, kxv10, kxv13, kxv14, kxf0, kxf1, kxf2, kxf4, kxf5, kxf6, kxf7, kxf8, kxf13, kxf15, kxf12, kxf18, kxf19, kxf21, kxf22, _, _, kwf, kyv, kyf⟩ := hx
    have hp := cl16 (p := p0) ⟨hcx.1, hcx.2.1⟩
    have hk := (q1 _ hp).1
    have hw := q4 _ hp hcx.2.2
    have hkk := (q1 _ hp).2.1
    have hkt := congrArg Int32.toInt hk
    have hct := i_clamp0 hb.1
    have hm1 : (-1 : Int32).toInt = -1 := by decide
    have hcp := i_clamp0 hcx.1
    rcases hpx with ⟨r1, c⟩ | ⟨c, e⟩
    · rcases hpm with h2 | h2 | h2
      · exact i_eq.mpr (by omega)
      · exfalso; omega
      · exfalso; omega
    · rcases hpm with h2 | h2 | h2
      · exfalso; omega
      · exfalso; omega
      · obtain ⟨t, hR, hO, h60⟩ := law9R (zm := zm) (p := p0) ⟨hcx.1, hcx.2.1⟩ c q1 q2 q3 hb1 t1 hw.1
        have h3 := h2.2.2
        rw [← law9 (p := p0) ⟨hcx.1, hcx.2.1⟩ c q1 q2 q3 hb1 t1 hw.1] at h3
        have hc := cnt9 hR h60
        rcases e with ⟨e1, e2⟩ | ⟨e1, e2⟩ <;> rcases h3 with ⟨g1, g2⟩ | ⟨g1, g2⟩
        · exact i_eq.mpr (by omega)
        · exact absurd (hc.1.mp e1) g1
        · exact absurd (hc.1.mpr g1) e1
        · exact i_eq.mpr (by rw [e2, g2]; exact frm_eq hR (hc.2 g1) h60)
  ·
    obtain ⟨hcx, hpx, kxv0, kxv1, kxv4, kxv9, kxv10, kxv13, kxv14, kxf0, kxf1, kxf2, kxf4, kxf5, kxf6, kxf7, kxf8, kxf13, kxf15, kxf12, kxf18, kxf19, kxf21, kxf22, _, _, kwf, kyv, kyf⟩ := hx
    by_cases hp : 0 ≤ p0.toInt ∧ p0.toInt ≤ 15
    · have hkt := congrArg Int32.toInt (q1 _ (cl16 hp)).1
      have hkk := (q1 _ (cl16 hp)).2.1
      rcases hpx with h1 | h1 <;> rcases hpm with h2 | h2 | h2 <;> first | exact i_eq.mpr (by omega) | (exfalso; omega)
    · rcases hpx with h1 | h1 <;> rcases hpm with h2 | h2 | h2 <;> first | exact i_eq.mpr (by omega) | (exfalso; omega)
theorem AN_foretold {p0 p1 p2 p3 p4 rx rm : Int32} {zx zx' : XS} {zm zm' : MS} (hI : XI zx) (h : TR zx zm) (hx : RX_X8_foretold p0 p1 p2 p3 p4 rx zx zx') (hm : RM_X9_foretold p0 p1 p2 p3 p4 rm zm zm') : rx = rm := by
  obtain ⟨⟨t0, t1, t2, t3⟩, q1, q2, q3, q4, q5, q6⟩ := h
  have hb := hI.1
  have hb1 := hI.2.1
  obtain ⟨hpm, kmv1, kmv2, kmv4, kmv11, kmv12, kmf0, kmf1, kmf2, kmf3, kmf4, kmf5, kmf6, kmf7, kmf8, kmf9, kmf10, kmf11, kmf12, kmf13, kmf25, kmf26, kmf28, kmf29, kmf30, kmf31, kmf39, kmf40, kmf17, kmf18, kmf19, kmf20, kmf21, kmf27, kmf32, kmf33, kmf34, kmf35⟩ := hm
  rcases hx with hx | hx
  ·
    obtain ⟨hcx, hpx, kxv0, kxv1, kxv4, kxv9, kxv10, kxv13, kxv14, kxf0, kxf1, kxf2, kxf4, kxf5, kxf6, kxf7, kxf8, kxf13, kxf15, kxf12, kxf18, kxf19, kxf21, kxf22, _, _, kwf, kyv, kyf⟩ := hx
    have hp := cl16 (p := p0) ⟨hcx.1, hcx.2.1⟩
    have hk := (q1 _ hp).1
    have hw := q4 _ hp hcx.2.2
    have hkk := (q1 _ hp).2.1
    have hkt := congrArg Int32.toInt hk
    have hct := i_clamp0 hb.1
    have hm1 : (-1 : Int32).toInt = -1 := by decide
    have hcp := i_clamp0 hcx.1
    rcases hpx with ⟨c, e⟩ | ⟨c, e⟩
    · rcases hpm with ⟨d, f⟩ | ⟨d, d2, f⟩ | ⟨d, d2, f⟩
      · exact i_eq.mpr (by omega)
      · exact i_eq.mpr (by omega)
      · exfalso; omega
    · rcases hpm with ⟨d, f⟩ | ⟨d, d2, f⟩ | ⟨d, d2, f⟩
      · exfalso; omega
      · obtain ⟨t, hR, hO, h60⟩ := law9R (zm := zm) (p := p0) ⟨hcx.1, hcx.2.1⟩ c.1 q1 q2 q3 hb1 t1 hw.1
        rw [← law9 (p := p0) ⟨hcx.1, hcx.2.1⟩ c.1 q1 q2 q3 hb1 t1 hw.1] at d2
        rcases e with ⟨e1, e2⟩ | ⟨e1, e2⟩
        · exact i_eq.mpr (by omega)
        · exact absurd ((cnt9 hR h60).1.mpr d2) e1
      · obtain ⟨t, hR, hO, h60⟩ := law9R (zm := zm) (p := p0) ⟨hcx.1, hcx.2.1⟩ c.1 q1 q2 q3 hb1 t1 hw.1
        rw [← law9 (p := p0) ⟨hcx.1, hcx.2.1⟩ c.1 q1 q2 q3 hb1 t1 hw.1] at d2 f
        rcases e with ⟨e1, e2⟩ | ⟨e1, e2⟩
        · exact absurd ((cnt9 hR h60).1.mp e1) d2
        · obtain ⟨U, L, g1, g2, g3, g4, g5⟩ := tho_eq hR hO ((cnt9 hR h60).2 d2) h60 c.2.1 c.2.2
          exact res_eq g1 g2 g3 g4 g5 e2 f
  ·
    obtain ⟨hcx, hpx, kxv0, kxv1, kxv4, kxv9, kxv10, kxv13, kxv14, kxf0, kxf1, kxf2, kxf4, kxf5, kxf6, kxf7, kxf8, kxf13, kxf15, kxf12, kxf18, kxf19, kxf21, kxf22, _, _, kwf, kyv, kyf⟩ := hx
    rcases hpm with ⟨d, f⟩ | ⟨d, d2, f⟩ | ⟨d, d2, f⟩
    · exact i_eq.mpr (by omega)
    · exact i_eq.mpr (by omega)
    · exfalso
      have hkt := congrArg Int32.toInt (q1 _ (cl16 d.1.1)).1
      have hkk := (q1 _ (cl16 d.1.1)).2.1
      omega
theorem AN_jump {p0 p1 p2 p3 rx rm : Int32} {zx zx' : XS} {zm zm' : MS} (hI : XI zx) (h : TR zx zm) (hx : RX_X8_jump p0 p1 p2 p3 rx zx zx') (hm : RM_X9_jump p0 p1 p2 p3 rm zm zm') : rx = rm := by
  obtain ⟨⟨t0, t1, t2, t3⟩, q1, q2, q3, q4, q5, q6⟩ := h
  have hb := hI.1
  have hb1 := hI.2.1
  obtain ⟨hpm, kmv1, kmv2, kmv4, kmv11, kmv12, kmf0, kmf1, kmf2, kmf3, kmf4, kmf5, kmf6, kmf7, kmf8, kmf9, kmf10, kmf11, kmf12, kmf13, kmf25, kmf26, kmf28, kmf29, kmf30, kmf31, kmf39, kmf40, kmf17, kmf18, kmf19, kmf20, kmf21, kmf27, kmf32, kmf33, kmf34, kmf35⟩ := hm
  rcases hx with hx | hx
  ·
    obtain ⟨hcx, hpx, kxv0, kxv1, kxv4, kxv9, kxv10, kxv13, kxv14, kxf0, kxf1, kxf2, kxf4, kxf5, kxf6, kxf7, kxf8, kxf13, kxf15, kxf12, kxf18, kxf19, kxf21, kxf22, _, _, kwf, kyv, kyf⟩ := hx
    have hp := cl16 (p := p0) ⟨hcx.1, hcx.2.1⟩
    have hk := (q1 _ hp).1
    have hw := q4 _ hp hcx.2.2
    have hkk := (q1 _ hp).2.1
    have hkt := congrArg Int32.toInt hk
    have hct := i_clamp0 hb.1
    have hm1 : (-1 : Int32).toInt = -1 := by decide
    rcases hpx with ⟨r1, c⟩ | ⟨c, e⟩
    · rcases hpm with h2 | h2 | h2 <;> first | exact i_eq.mpr (by omega) | (exfalso; omega)
    · rcases hpm with h2 | h2 | h2
      · exfalso; omega
      · exfalso; omega
      · refine i_eq.mpr ?_
        rw [e, h2.2.2]
        congr 1
        refine rateL_congr _ (fun j hj => ?_)
        have hd2 := pnI (p := p1) (j := j) (n := 399) c.2.1 (by omega) (by omega)
        exact rX_rat ⟨hcx.1, hcx.2.1⟩ (d := p1 + nI j) (by omega) (by omega) t1 hb1 q3 hw.1
  ·
    obtain ⟨hcx, hpx, kxv0, kxv1, kxv4, kxv9, kxv10, kxv13, kxv14, kxf0, kxf1, kxf2, kxf4, kxf5, kxf6, kxf7, kxf8, kxf13, kxf15, kxf12, kxf18, kxf19, kxf21, kxf22, _, _, kwf, kyv, kyf⟩ := hx
    by_cases hp : 0 ≤ p0.toInt ∧ p0.toInt ≤ 15
    · have hkt := congrArg Int32.toInt (q1 _ (cl16 hp)).1
      have hkk := (q1 _ (cl16 hp)).2.1
      rcases hpx with h1 | h1 <;> rcases hpm with h2 | h2 | h2 <;> first | exact i_eq.mpr (by omega) | (exfalso; omega)
    · rcases hpx with h1 | h1 <;> rcases hpm with h2 | h2 | h2 <;> first | exact i_eq.mpr (by omega) | (exfalso; omega)
theorem AN_lend {p0 p1 rx rm : Int32} {zx zx' : XS} {zm zm' : MS} (hI : XI zx) (h : TR zx zm) (hx : RX_X8_lend p0 p1 rx zx zx') (hm : RM_X9_lend p0 p1 rm zm zm') : rx = rm := by
  obtain ⟨⟨t0, t1, t2, t3⟩, q1, q2, q3, q4, q5, q6⟩ := h
  have hb := hI.1
  have hb1 := hI.2.1
  obtain ⟨hpm, kmv1, kmv2, kmv4, kmv11, kmv12, kmf0, kmf1, kmf2, kmf3, kmf4, kmf5, kmf6, kmf7, kmf9, kmf10, kmf11, kmf12, kmf13, kmf25, kmf26, kmf28, kmf29, kmf30, kmf31, kmf39, kmf40, kmf17, kmf18, kmf19, kmf20, kmf21, kmf27, kmf32, kmf33, kmf34, kmf35⟩ := hm
  rcases hx with hx | hx
  ·
    obtain ⟨gw, ewf, hcx, hpx, kxv0, kxv1, kxv4, kxv9, kxv10, kxv13, kxv14, kxf0, kxf1, kxf2, kxf4, kxf5, kxf6, kxf7, kxf8, kxf13, kxf15, kxf12, kxf18, kxf19, kxf21, kxf22, _, _, gw0, gw1, gw2, kyv, kyf⟩ := hx
    have hp := cl16 (p := p0) ⟨hcx.1, hcx.2.1⟩
    have hk := (q1 _ hp).1
    have hw := q4 _ hp hcx.2.2
    have hkk := (q1 _ hp).2.1
    have hkt := congrArg Int32.toInt hk
    have hct := i_clamp0 hb.1
    have hto : (xwf zx (p0).toNatClampNeg 3 (xV zx 0).toNatClampNeg).toInt = (mF zm 8 (400 * p0 + mV zm 1).toNatClampNeg).toInt := by
      rw [← i_eq.mpr t0, ix400 ⟨hcx.1, hcx.2.1⟩ hb]
      exact congrArg Int32.toInt (hw.2.1 _ (by omega) (by omega))
    rcases hpx with h1 | h1 | h1 <;> rcases hpm with h2 | h2 | h2 | h2 <;> first | exact i_eq.mpr (by omega) | (exfalso; omega)
  ·
    obtain ⟨hcx, hpx, kxv0, kxv1, kxv4, kxv9, kxv10, kxv13, kxv14, kxf0, kxf1, kxf2, kxf4, kxf5, kxf6, kxf7, kxf8, kxf13, kxf15, kxf12, kxf18, kxf19, kxf21, kxf22, _, _, kwf, kyv, kyf⟩ := hx
    by_cases hp : 0 ≤ p0.toInt ∧ p0.toInt ≤ 15
    · have hkt := congrArg Int32.toInt (q1 _ (cl16 hp)).1
      have hkk := (q1 _ (cl16 hp)).2.1
      rcases hpx with h1 | h1 <;> rcases hpm with h2 | h2 | h2 | h2 <;> first | exact i_eq.mpr (by omega) | (exfalso; omega)
    · rcases hpx with h1 | h1 <;> rcases hpm with h2 | h2 | h2 | h2 <;> first | exact i_eq.mpr (by omega) | (exfalso; omega)
theorem AN_home {p0 rx rm : Int32} {zx zx' : XS} {zm zm' : MS} (hI : XI zx) (h : TR zx zm) (hx : RX_X8_home p0 rx zx zx') (hm : RM_X9_home p0 rm zm zm') : rx = rm := by
  obtain ⟨⟨t0, t1, t2, t3⟩, q1, q2, q3, q4, q5, q6⟩ := h
  have hb := hI.1
  have hb1 := hI.2.1
  obtain ⟨hpm, kmv1, kmv2, kmv4, kmv11, kmv12, kmf0, kmf1, kmf2, kmf3, kmf4, kmf5, kmf6, kmf7, kmf9, kmf10, kmf11, kmf12, kmf13, kmf25, kmf26, kmf28, kmf29, kmf30, kmf31, kmf39, kmf40, kmf17, kmf18, kmf19, kmf20, kmf21, kmf27, kmf32, kmf33, kmf34, kmf35⟩ := hm
  rcases hx with hx | hx
  ·
    obtain ⟨gw, ewf, hcx, hpx, kxv0, kxv1, kxv4, kxv9, kxv10, kxv13, kxv14, kxf0, kxf1, kxf2, kxf4, kxf5, kxf6, kxf7, kxf8, kxf13, kxf15, kxf12, kxf18, kxf19, kxf21, kxf22, _, _, gw0, gw1, gw2, kyv, kyf⟩ := hx
    have hp := cl16 (p := p0) ⟨hcx.1, hcx.2.1⟩
    have hk := (q1 _ hp).1
    have hw := q4 _ hp hcx.2.2
    have hkk := (q1 _ hp).2.1
    have hkt := congrArg Int32.toInt hk
    have hct := i_clamp0 hb.1
    have hto : (xwf zx (p0).toNatClampNeg 3 (xV zx 0).toNatClampNeg).toInt = (mF zm 8 (400 * p0 + mV zm 1).toNatClampNeg).toInt := by
      rw [← i_eq.mpr t0, ix400 ⟨hcx.1, hcx.2.1⟩ hb]
      exact congrArg Int32.toInt (hw.2.1 _ (by omega) (by omega))
    rcases hpx with h1 | h1 <;> rcases hpm with h2 | h2 | h2 <;> first | exact i_eq.mpr (by omega) | (exfalso; omega)
  ·
    obtain ⟨hcx, hpx, kxv0, kxv1, kxv4, kxv9, kxv10, kxv13, kxv14, kxf0, kxf1, kxf2, kxf4, kxf5, kxf6, kxf7, kxf8, kxf13, kxf15, kxf12, kxf18, kxf19, kxf21, kxf22, _, _, kwf, kyv, kyf⟩ := hx
    by_cases hp : 0 ≤ p0.toInt ∧ p0.toInt ≤ 15
    · have hkt := congrArg Int32.toInt (q1 _ (cl16 hp)).1
      have hkk := (q1 _ (cl16 hp)).2.1
      rcases hpx with h1 | h1 <;> rcases hpm with h2 | h2 | h2 <;> first | exact i_eq.mpr (by omega) | (exfalso; omega)
    · rcases hpx with h1 | h1 <;> rcases hpm with h2 | h2 | h2 <;> first | exact i_eq.mpr (by omega) | (exfalso; omega)
theorem AN_holder {p0 p1 rx rm : Int32} {zx zx' : XS} {zm zm' : MS} (hI : XI zx) (h : TR zx zm) (hx : RX_X8_holder p0 p1 rx zx zx') (hm : RM_X9_holder p0 p1 rm zm zm') : rx = rm := by
  obtain ⟨⟨t0, t1, t2, t3⟩, q1, q2, q3, q4, q5, q6⟩ := h
  have hb := hI.1
  have hb1 := hI.2.1
  obtain ⟨hpm, kmv1, kmv2, kmv4, kmv11, kmv12, kmf0, kmf1, kmf2, kmf3, kmf4, kmf5, kmf6, kmf7, kmf8, kmf9, kmf10, kmf11, kmf12, kmf13, kmf25, kmf26, kmf28, kmf29, kmf30, kmf31, kmf39, kmf40, kmf17, kmf18, kmf19, kmf20, kmf21, kmf27, kmf32, kmf33, kmf34, kmf35⟩ := hm
  rcases hx with hx | hx
  ·
    obtain ⟨hcx, hpx, kxv0, kxv1, kxv4, kxv9, kxv10, kxv13, kxv14, kxf0, kxf1, kxf2, kxf4, kxf5, kxf6, kxf7, kxf8, kxf13, kxf15, kxf12, kxf18, kxf19, kxf21, kxf22, _, _, kwf, kyv, kyf⟩ := hx
    have hp := cl16 (p := p0) ⟨hcx.1, hcx.2.1⟩
    have hk := (q1 _ hp).1
    have hw := q4 _ hp hcx.2.2
    have hkk := (q1 _ hp).2.1
    have hkt := congrArg Int32.toInt hk
    have hct := i_clamp0 hb.1
    rcases hpx with ⟨c, e⟩ | ⟨c, e⟩ <;> rcases hpm with ⟨d, f⟩ | ⟨d, f⟩
    · have hht := congrArg Int32.toInt (hw.2.1 (p1).toNatClampNeg (by have := i_clamp0 (x := p1) (by omega); omega) (cl400 (by omega)))
      rw [ix400 ⟨hcx.1, hcx.2.1⟩ (by omega)] at f
      exact i_eq.mpr (by rw [e, f, hht])
    · exfalso; omega
    · exfalso; omega
    · exact i_eq.mpr (by omega)
  ·
    obtain ⟨hcx, hpx, kxv0, kxv1, kxv4, kxv9, kxv10, kxv13, kxv14, kxf0, kxf1, kxf2, kxf4, kxf5, kxf6, kxf7, kxf8, kxf13, kxf15, kxf12, kxf18, kxf19, kxf21, kxf22, _, _, kwf, kyv, kyf⟩ := hx
    rcases hpm with ⟨d, f⟩ | ⟨d, f⟩
    · exfalso
      have hkt := congrArg Int32.toInt (q1 _ (cl16 d.1)).1
      have hkk := (q1 _ (cl16 d.1)).2.1
      omega
    · exact i_eq.mpr (by omega)
theorem AN_away {p0 rx rm : Int32} {zx zx' : XS} {zm zm' : MS} (hI : XI zx) (h : TR zx zm) (hx : RX_X8_away p0 rx zx zx') (hm : RM_X9_away p0 rm zm zm') : rx = rm := by
  obtain ⟨⟨t0, t1, t2, t3⟩, q1, q2, q3, q4, q5, q6⟩ := h
  have hb := hI.1
  have hb1 := hI.2.1
  obtain ⟨hpm, kmv1, kmv2, kmv4, kmv11, kmv12, kmf0, kmf1, kmf2, kmf3, kmf4, kmf5, kmf6, kmf7, kmf8, kmf9, kmf10, kmf11, kmf12, kmf13, kmf25, kmf26, kmf28, kmf29, kmf30, kmf31, kmf39, kmf40, kmf17, kmf18, kmf19, kmf20, kmf21, kmf27, kmf32, kmf33, kmf34, kmf35⟩ := hm
  rcases hx with hx | hx
  ·
    obtain ⟨hcx, hpx, kxv0, kxv1, kxv4, kxv9, kxv10, kxv13, kxv14, kxf0, kxf1, kxf2, kxf4, kxf5, kxf6, kxf7, kxf8, kxf13, kxf15, kxf12, kxf18, kxf19, kxf21, kxf22, _, _, kwf, kyv, kyf⟩ := hx
    have hp := cl16 (p := p0) ⟨hcx.1, hcx.2.1⟩
    have hk := (q1 _ hp).1
    have hw := q4 _ hp hcx.2.2
    have hkk := (q1 _ hp).2.1
    have hkt := congrArg Int32.toInt hk
    have hct := i_clamp0 hb.1
    have hcp := i_clamp0 hcx.1
    have h9 := awN_M (f := xwf zx (p0).toNatClampNeg 3) (M8 := mF zm 8) (p := (p0).toNatClampNeg) ((xV zx 0).toInt + 1).toNat (fun d hd => hw.2.1 d (by omega) (by omega))
    rw [show 400 * (p0).toNatClampNeg = (400 * p0.toInt).toNat by omega, t0] at h9
    rcases hpm with h2 | h2
    · exfalso; omega
    · exact i_eq.mpr (by rw [hpx, h2.2.2, ← h9, t0])
  ·
    obtain ⟨hcx, hpx, kxv0, kxv1, kxv4, kxv9, kxv10, kxv13, kxv14, kxf0, kxf1, kxf2, kxf4, kxf5, kxf6, kxf7, kxf8, kxf13, kxf15, kxf12, kxf18, kxf19, kxf21, kxf22, _, _, kwf, kyv, kyf⟩ := hx
    by_cases hp : 0 ≤ p0.toInt ∧ p0.toInt ≤ 15
    · have hkt := congrArg Int32.toInt (q1 _ (cl16 hp)).1
      have hkk := (q1 _ (cl16 hp)).2.1
      rcases hpx with h1 | h1 <;> rcases hpm with h2 | h2 <;> first | exact i_eq.mpr (by omega) | (exfalso; omega)
    · rcases hpx with h1 | h1 <;> rcases hpm with h2 | h2 <;> first | exact i_eq.mpr (by omega) | (exfalso; omega)
theorem AN_state {p0 rx rm : Int32} {zx zx' : XS} {zm zm' : MS} (hI : XI zx) (h : TR zx zm) (hx : RX_X8_state p0 rx zx zx') (hm : RM_X9_state p0 rm zm zm') : rx = rm := by
  obtain ⟨⟨t0, t1, t2, t3⟩, q1, q2, q3, q4, q5, q6⟩ := h
  have hb := hI.1
  have hb1 := hI.2.1
  obtain ⟨hpm, kmv1, kmv2, kmv4, kmv11, kmv12, kmf0, kmf1, kmf2, kmf3, kmf4, kmf5, kmf6, kmf7, kmf8, kmf9, kmf10, kmf11, kmf12, kmf13, kmf25, kmf26, kmf28, kmf29, kmf30, kmf31, kmf39, kmf40, kmf17, kmf18, kmf19, kmf20, kmf21, kmf27, kmf32, kmf33, kmf34, kmf35⟩ := hm
  rcases hx with hx | hx
  ·
    obtain ⟨hcx, hpx, kxv0, kxv1, kxv4, kxv9, kxv10, kxv13, kxv14, kxf0, kxf1, kxf2, kxf4, kxf5, kxf6, kxf7, kxf8, kxf13, kxf15, kxf12, kxf18, kxf19, kxf21, kxf22, _, _, kwf, kyv, kyf⟩ := hx
    rcases hpm with ⟨d, f⟩ | ⟨d, f⟩
    · rw [hpx, f]; exact (q5 _ (cl5 d)).1
    · exact absurd hcx d
  ·
    obtain ⟨hcx, hpx, kxv0, kxv1, kxv4, kxv9, kxv10, kxv13, kxv14, kxf0, kxf1, kxf2, kxf4, kxf5, kxf6, kxf7, kxf8, kxf13, kxf15, kxf12, kxf18, kxf19, kxf21, kxf22, _, _, kwf, kyv, kyf⟩ := hx
    rcases hpm with ⟨d, f⟩ | ⟨d, f⟩
    · exact absurd d hcx
    · exact i_eq.mpr (by omega)
theorem AN_carried {p0 p1 p2 rx rm : Int32} {zx zx' : XS} {zm zm' : MS} (hI : XI zx) (h : TR zx zm) (hx : RX_X8_carried p0 p1 p2 rx zx zx') (hm : RM_X9_carried p0 p1 p2 rm zm zm') : rx = rm := by
  obtain ⟨⟨t0, t1, t2, t3⟩, q1, q2, q3, q4, q5, q6⟩ := h
  have hb := hI.1
  have hb1 := hI.2.1
  obtain ⟨hpm, kmv1, kmv2, kmv4, kmv11, kmv12, kmf0, kmf1, kmf2, kmf3, kmf4, kmf5, kmf6, kmf7, kmf8, kmf9, kmf10, kmf11, kmf12, kmf13, kmf25, kmf26, kmf28, kmf29, kmf30, kmf31, kmf39, kmf40, kmf17, kmf18, kmf19, kmf20, kmf21, kmf27, kmf32, kmf33, kmf34, kmf35⟩ := hm
  rcases hx with hx | hx
  ·
    obtain ⟨hcx, hpx, kxv0, kxv1, kxv4, kxv9, kxv10, kxv13, kxv14, kxf0, kxf1, kxf2, kxf4, kxf5, kxf6, kxf7, kxf8, kxf13, kxf15, kxf12, kxf18, kxf19, kxf21, kxf22, _, _, kwf, kyv, kyf⟩ := hx
    have hs := q5 _ (cl5 hcx)
    have es := congrArg Int32.toInt hs.1
    rcases hpx with ⟨c, k, e⟩ | ⟨c, k, e⟩ | ⟨c, k, e⟩ | ⟨c, k, e⟩ | ⟨c, e⟩ <;> rcases hpm with ⟨d, l, f⟩ | ⟨d, l, f⟩ | ⟨d, l, f⟩ | ⟨d, l, f⟩ | ⟨d, f⟩ <;> first
      | (exfalso; omega)
      | exact i_eq.mpr (by omega)
      | (rw [e, f, ix3 hcx p1 (by omega)]; exact (hs.2.2.1 (by omega)).2 _ (by have c1 := i_clamp0 (x := p1) (by omega); omega))
      | (rw [e, f, ix3 hcx p1 (by omega)]; exact (q6 _ (cl5 hcx) _ (by have c1 := i_clamp0 (x := p1) (by omega); omega)).1)
      | (rw [e, f, ix3 hcx p1 (by omega)]; exact (q6 _ (cl5 hcx) _ (by have c1 := i_clamp0 (x := p1) (by omega); omega)).2.1)
      | (rw [e, f, ix3 hcx p1 (by omega)]; exact (q6 _ (cl5 hcx) _ (by have c1 := i_clamp0 (x := p1) (by omega); omega)).2.2)
  ·
    obtain ⟨hcx, hpx, kxv0, kxv1, kxv4, kxv9, kxv10, kxv13, kxv14, kxf0, kxf1, kxf2, kxf4, kxf5, kxf6, kxf7, kxf8, kxf13, kxf15, kxf12, kxf18, kxf19, kxf21, kxf22, _, _, kwf, kyv, kyf⟩ := hx
    rcases hpm with ⟨d, l, f⟩ | ⟨d, l, f⟩ | ⟨d, l, f⟩ | ⟨d, l, f⟩ | ⟨d, f⟩ <;> first
      | (exfalso; omega)
      | exact i_eq.mpr (by omega)
theorem AN_count {p0 rx rm : Int32} {zx zx' : XS} {zm zm' : MS} (hI : XI zx) (h : TR zx zm) (hx : RX_X8_count p0 rx zx zx') (hm : RM_X9_count p0 rm zm zm') : rx = rm := by
  obtain ⟨⟨t0, t1, t2, t3⟩, q1, q2, q3, q4, q5, q6⟩ := h
  have hb := hI.1
  have hb1 := hI.2.1
  obtain ⟨hpx, kxv0, kxv1, kxv4, kxv9, kxv10, kxv13, kxv14, kxf0, kxf1, kxf2, kxf4, kxf5, kxf6, kxf7, kxf8, kxf13, kxf15, kxf12, kxf18, kxf19, kxf21, kxf22, _, _, kwf, kyv, kyf⟩ := hx
  obtain ⟨hpm, kmv1, kmv2, kmv4, kmv11, kmv12, kmf0, kmf1, kmf2, kmf3, kmf4, kmf5, kmf6, kmf7, kmf8, kmf9, kmf10, kmf11, kmf12, kmf13, kmf25, kmf26, kmf28, kmf29, kmf30, kmf31, kmf39, kmf40, kmf17, kmf18, kmf19, kmf20, kmf21, kmf27, kmf32, kmf33, kmf34, kmf35⟩ := hm
  have k0 := cnK_W (f := xF zx 1) 16
  have k2 := cnK_G (f := xF zx 1) 16
  have kc := cn_congr (f := xF zx 1) (g := mF zm 1) 16 (fun k hk => (q1 k hk).1)
  have ks : cnS (mF zm 25) 5 = (if (xyv zx 0 1).toInt = 1 then 1 else 0) + (if (xyv zx 1 1).toInt = 1 then 1 else 0) + (if (xyv zx 2 1).toInt = 1 then 1 else 0) + (if (xyv zx 3 1).toInt = 1 then 1 else 0) + (if (xyv zx 4 1).toInt = 1 then 1 else 0) := by
    rw [(q5 0 (by decide)).1, (q5 1 (by decide)).1, (q5 2 (by decide)).1, (q5 3 (by decide)).1, (q5 4 (by decide)).1, cnS_succ, cnS_succ, cnS_succ, cnS_succ, cnS_succ]
    show 0 + _ + _ + _ + _ + _ = _
    rw [Int.zero_add]
  rw [← ks] at hpx
  rw [k0, k2, kc.1, kc.2] at hpx
  rcases hpx with h1 | h1 | h1 | h1 | h1 | h1 | h1 | h1 <;> rcases hpm with h2 | h2 | h2 | h2 | h2 | h2 | h2 | h2 <;> first | exact i_eq.mpr (by omega) | (exfalso; omega)
theorem AN_sail {p0 p1 p2 p3 rx rm : Int32} {zx zx' : XS} {zm zm' : MS} (hI : XI zx) (h : TR zx zm) (hx : RX_X8_sail p0 p1 p2 p3 rx zx zx') (hm : RM_X9_sail p0 p1 p2 p3 rm zm zm') : rx = rm := by
  obtain ⟨⟨t0, t1, t2, t3⟩, q1, q2, q3, q4, q5, q6⟩ := h
  have hb := hI.1
  have hb1 := hI.2.1
  obtain ⟨hpm, kmv1, kmv2, kmv4, kmv11, kmv12, kmf0, kmf1, kmf2, kmf3, kmf4, kmf5, kmf6, kmf7, kmf9, kmf10, kmf11, kmf12, kmf13, kmf39, kmf40, kmf17, kmf18, kmf19, kmf20, kmf21, kmf27, kmf32, kmf34, kmf35, hxk0⟩ := hm
  rcases hx with ⟨r, c, hk⟩ | ⟨c, c2, hk⟩ | ⟨c, c2, c3, r, hk⟩ | ⟨c, c2, c3, r, hk⟩ | ⟨c, c2, c3, c4, r, -⟩
  · rcases hpm with ⟨r2, d, f⟩ | ⟨d, d2, f⟩ | ⟨d, d2, d3, r2, f⟩ | ⟨d, d2, d3, r2, f⟩ | ⟨d, d2, d3, d4, r2, f⟩
    · exact i_eq.mpr (by omega)
    · exact absurd d c
    · exact absurd d c
    · exact absurd d c
    · exact absurd d c
  · have e1 := congrArg Int32.toInt (q1 _ (cl16 c.2.1)).1
    have e2 := congrArg Int32.toInt (q1 _ (cl16 c.2.2.1)).1
    have e3 := congrArg Int32.toInt (q1 _ (cl16 c.2.2.2.1)).1
    have g1 := (q1 _ (cl16 c.2.1)).2.1
    have g2 := (q1 _ (cl16 c.2.2.1)).2.1
    have g3 := (q1 _ (cl16 c.2.2.2.1)).2.1
    have no : ¬ ((((mF zm 1) (p1).toNatClampNeg).toInt ≠ -5 ∧ ((mF zm 1) (p1).toNatClampNeg).toInt ≠ 2) ∧ (((mF zm 1) (p2).toNatClampNeg).toInt ≠ -5 ∧ ((mF zm 1) (p2).toNatClampNeg).toInt ≠ 2) ∧ (((mF zm 1) (p3).toNatClampNeg).toInt ≠ -5 ∧ ((mF zm 1) (p3).toNatClampNeg).toInt ≠ 2)) := fun d2 => by
      rcases c2 with c2 | c2 | c2
      · exact c2.1 ((kd_W q1 c.2.1).mpr d2.1)
      · exact c2.2.1 ((kd_W q1 c.2.2.1).mpr d2.2.1)
      · exact c2.2.2.1 ((kd_W q1 c.2.2.2.1).mpr d2.2.2)
    rcases hpm with ⟨r2, d, f⟩ | ⟨d, d2, f⟩ | ⟨d, d2, d3, r2, f⟩ | ⟨d, d2, d3, r2, f⟩ | ⟨d, d2, d3, d4, r2, f⟩
    · exact absurd c d
    · unfold XWK XLK at c2
      clear no f hk
      exact i_eq.mpr (by omega)
    · exact absurd d2 no
    · exact absurd d2 no
    · exact absurd d2 no
  · have g1 := (kd_W q1 c.2.1).mp c2.1
    have g2 := (kd_W q1 c.2.2.1).mp c2.2.1
    have g3 := (kd_W q1 c.2.2.2.1).mp c2.2.2
    rw [(q5 _ (cl5 c.1)).1] at c3
    rcases hpm with ⟨r2, d, f⟩ | ⟨d, d2, f⟩ | ⟨d, d2, d3, r2, f⟩ | ⟨d, d2, d3, r2, f⟩ | ⟨d, d2, d3, d4, r2, f⟩
    · exact absurd c d
    · exfalso; omega
    · exact i_eq.mpr (by omega)
    · exact i_eq.mpr (by omega)
    · exact absurd c3 d3
  · have g1 := (kd_W q1 c.2.1).mp c2.1
    have g2 := (kd_W q1 c.2.2.1).mp c2.2.1
    have g3 := (kd_W q1 c.2.2.2.1).mp c2.2.2
    rcases hpm with ⟨r2, d, f⟩ | ⟨d, d2, f⟩ | ⟨d, d2, d3, r2, f⟩ | ⟨d, d2, d3, r2, f⟩ | ⟨d, d2, d3, d4, r2, f⟩
    · exact absurd c d
    · exfalso; omega
    · exact i_eq.mpr (by omega)
    · exact i_eq.mpr (by omega)
    · exact absurd ⟨(FIT_may hI t0 t1 q3 q4 c.2.1 c2.1).mpr d4.1, (FIT_may hI t0 t1 q3 q4 c.2.2.1 c2.2.1).mpr d4.2.1, (FIT_may hI t0 t1 q3 q4 c.2.2.2.1 c2.2.2).mpr d4.2.2⟩ c3
  · have g1 := (kd_W q1 c.2.1).mp c2.1
    have g2 := (kd_W q1 c.2.2.1).mp c2.2.1
    have g3 := (kd_W q1 c.2.2.2.1).mp c2.2.2
    rw [(q5 _ (cl5 c.1)).1] at c3
    rcases hpm with ⟨r2, d, f⟩ | ⟨d, d2, f⟩ | ⟨d, d2, d3, r2, f⟩ | ⟨d, d2, d3, r2, f⟩ | ⟨d, d2, d3, d4, r2, f⟩
    · exact absurd c d
    · exfalso; omega
    · exact absurd d3 c3
    · exact absurd ⟨(FIT_may hI t0 t1 q3 q4 c.2.1 c2.1).mp c4.1, (FIT_may hI t0 t1 q3 q4 c.2.2.1 c2.2.1).mp c4.2.1, (FIT_may hI t0 t1 q3 q4 c.2.2.2.1 c2.2.2).mp c4.2.2⟩ d3
    · exact i_eq.mpr (by omega)
theorem AN_back {p0 p1 p2 p3 rx rm : Int32} {zx zx' : XS} {zm zm' : MS} (hI : XI zx) (h : TR zx zm) (hx : RX_X8_back p0 p1 p2 p3 rx zx zx') (hm : RM_X9_back p0 p1 p2 p3 rm zm zm') : rx = rm := by
  obtain ⟨⟨t0, t1, t2, t3⟩, q1, q2, q3, q4, q5, q6⟩ := h
  have hb := hI.1
  have hb1 := hI.2.1
  obtain ⟨hpm, kmv1, kmv2, kmv4, kmv11, kmv12, kmf0, kmf1, kmf2, kmf6, kmf7, kmf9, kmf10, kmf11, kmf12, kmf13, kmf26, kmf28, kmf29, kmf30, kmf31, kmf39, kmf40, kmf17, kmf18, kmf19, kmf20, kmf21, kmf33, kmf34, kmf35, hxk0⟩ := hm
  rcases hx with ⟨r, c, hk⟩ | ⟨c, c2, r, hk⟩ | ⟨c, c2, c3, r, z1, z2, z3, hC, u1, u2, u3⟩
  · rcases hpm with ⟨r2, d, -⟩ | ⟨d, d2, r2, -⟩ | ⟨d, d2, -⟩
    · exact i_eq.mpr (by omega)
    · exact absurd d c
    · exact absurd d c
  · have hs := q5 _ (cl5 c.1)
    have e1 := congrArg Int32.toInt hs.1
    rcases hpm with ⟨r2, d, -⟩ | ⟨d, d2, r2, -⟩ | ⟨d, d2, -⟩
    · exact absurd c d
    · exact i_eq.mpr (by omega)
    · exfalso
      by_cases q : (xyv zx (p0).toNatClampNeg 1).toInt = 1
      · have g2 := congrArg Int32.toInt (hs.2.2.1 (by omega)).1
        have g3 := (hs.2.2.2 q).1
        omega
      · omega
  · have hs := q5 _ (cl5 c.1)
    have g2 := hs.2.2.1 (by omega)
    obtain ⟨g4, g5, g6, g7, g8⟩ := hs.2.2.2 c2
    have w0 := g5 0 (by decide)
    have w1 := g5 1 (by decide)
    have w2 := g5 2 (by decide)
    have hS := CAMEB_of rfl rfl rfl (s := zx) ⟨w0.1.1, w0.1.2, w0.2.1⟩ ⟨w1.1.1, w1.1.2, w1.2.1⟩ ⟨w2.1.1, w2.1.2, w2.2.1⟩ g6 g7 g8 hC u1 u2 u3
    have e1 := congrArg Int32.toInt hs.1
    have e2 := congrArg Int32.toInt g2.1
    rcases hpm with ⟨r2, d, -⟩ | ⟨d, d2, r2, -⟩ | ⟨d, d2, f3, f4, f5, f8, f25, r2⟩
    · exact absurd c d
    · exfalso; omega
    · rw [r, hS.2.2.2.2.2.2.1, r2, g2.1, i_eq.mpr t0]
