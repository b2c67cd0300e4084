theorem AN_read {p0 rx rm : Int32} {zx zx' : XS} {zm zm' : MS} (hI : XI zx) (h : TR zx zm) (hx : RX_X8_read p0 rx zx zx') (hm : RM_X9_read p0 rm zm zm') : rx = rm := by
  obtain ⟨⟨t0, t1, t2, t3⟩, q1, q2, q3, q4, q5⟩ := h
  have hb := hI.1
  have hb1 := hI.2.1
  obtain ⟨hpx, kxv0, kxv1, kxv4, kxv9, kxf0, kxf1, kxf2, kxf4, kxf5, kxf6, kxf7, kxf8, _, _, kwf, kyv, kyf⟩ := hx
  obtain ⟨hpm, kmv1, kmv2, kmv4, kmv11, kmf0, kmf1, kmf2, kmf3, kmf4, kmf5, kmf6, kmf7, kmf8, kmf9, kmf10, kmf11, kmf12, kmf13, kmf25, kmf26, kmf28⟩ := hm
  rcases hpx with ⟨c, e⟩ | ⟨c, e⟩ <;> rcases hpm with ⟨d, f⟩ | ⟨d, f⟩
  · rw [e, f]; exact (q1 _ (cl16 c.1)).2.2
  · exfalso; have := congrArg Int32.toInt (q1 _ (cl16 c.1)).1; omega
  · exfalso; have := congrArg Int32.toInt (q1 _ (cl16 d.1)).1; omega
  · exact i_eq.mpr (by omega)
