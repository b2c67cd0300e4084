theorem AN_carried {p0 p1 p2 rx rm : Int32} {zx zx' : XS} {zm zm' : MS} (hI : XI zx) (h : TR zx zm) (hx : RX_X8_carried p0 p1 p2 rx zx zx') (hm : RM_X9_carried p0 p1 p2 rm zm zm') : rx = rm := by
  obtain ⟨⟨t0, t1, t2, t3⟩, q1, q2, q3, q4, q5, q6⟩ := h
  have hb := hI.1
  have hb1 := hI.2.1
  obtain ⟨hpm, kmv1, kmv2, kmv4, kmv11, kmf0, kmf1, kmf2, kmf3, kmf4, kmf5, kmf6, kmf7, kmf8, kmf9, kmf10, kmf11, kmf12, kmf13, kmf25, kmf26, kmf28, kmf29, kmf30, kmf31⟩ := hm
  rcases hx with hx | hx
  ·
    obtain ⟨hcx, hpx, kxv0, kxv1, kxv4, kxv9, kxf0, kxf1, kxf2, kxf4, kxf5, kxf6, kxf7, kxf8, _, _, kwf, kyv, kyf⟩ := hx
    have hs := q5 _ (cl5 hcx)
    have es := congrArg Int32.toInt hs.1
    rcases hpx with ⟨c, k, e⟩ | ⟨c, k, e⟩ | ⟨c, k, e⟩ | ⟨c, k, e⟩ | ⟨c, e⟩ <;> rcases hpm with ⟨d, l, f⟩ | ⟨d, l, f⟩ | ⟨d, l, f⟩ | ⟨d, l, f⟩ | ⟨d, f⟩ <;> first
      | (exfalso; omega)
      | exact i_eq.mpr (by omega)
      | (rw [e, f, ix3 hcx p1 (by omega)]; exact (hs.2.2.1 (by omega)).2 _ (by have c1 := i_clamp0 (x := p1) (by omega); omega))
      | (rw [e, f, ix3 hcx p1 (by omega)]; exact (q6 _ (cl5 hcx) _ (by have c1 := i_clamp0 (x := p1) (by omega); omega)).1)
      | (rw [e, f, ix3 hcx p1 (by omega)]; exact (q6 _ (cl5 hcx) _ (by have c1 := i_clamp0 (x := p1) (by omega); omega)).2.1)
      | (rw [e, f, ix3 hcx p1 (by omega)]; exact (q6 _ (cl5 hcx) _ (by have c1 := i_clamp0 (x := p1) (by omega); omega)).2.2)
  ·
    obtain ⟨hcx, hpx, kxv0, kxv1, kxv4, kxv9, kxf0, kxf1, kxf2, kxf4, kxf5, kxf6, kxf7, kxf8, _, _, kwf, kyv, kyf⟩ := hx
    rcases hpm with ⟨d, l, f⟩ | ⟨d, l, f⟩ | ⟨d, l, f⟩ | ⟨d, l, f⟩ | ⟨d, f⟩ <;> first
      | (exfalso; omega)
      | exact i_eq.mpr (by omega)
