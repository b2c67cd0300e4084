theorem AN_put {p0 p1 p2 rx rm : Int32} {zx zx' : XS} {zm zm' : MS} (hI : XI zx) (h : TR zx zm) (hx : RX_X8_put p0 p1 p2 rx zx zx') (hm : RM_X9_put p0 p1 p2 rm zm zm') : rx = rm := by
  obtain ⟨⟨t0, t1, t2, t3⟩, q1, q2, q3, q4, q5⟩ := h
  have hb := hI.1
  have hb1 := hI.2.1
  obtain ⟨hpm, kmv1, kmv2, kmv4, kmv11, kmf0, kmf4, kmf5, kmf9, kmf10, kmf11, kmf12, kmf13, kmf25, kmf26, kmf28⟩ := hm
  by_cases hp : 0 ≤ p0.toInt ∧ p0.toInt ≤ 15
  · have hkt := congrArg Int32.toInt (q1 _ (cl16 hp)).1
    rcases hx with hx | hx | hx
    · obtain ⟨gw, ewf, hcx, hpx, kxv0, kxv1, kxv4, kxv9, kxf0, kxf4, kxf5, kxf6, kxf7, kxf8, _, _, kyv, kyf⟩ := hx
      rcases hpm with h2 | h2 | h2 <;> first | exact i_eq.mpr (by omega) | (exfalso; omega)
    · obtain ⟨gw, ewf, hcx, hpx, kxv0, kxv1, kxv4, kxv9, kxf0, kxf4, kxf5, kxf6, kxf7, kxf8, _, _, kyv, kyf⟩ := hx
      rcases hpm with h2 | h2 | h2 <;> first | exact i_eq.mpr (by omega) | (exfalso; omega)
    · obtain ⟨hcx, hpx, kxv0, kxv1, kxv4, kxv9, kxf0, kxf4, kxf5, kxf6, kxf7, kxf8, _, _, kwf, kyv, kyf⟩ := hx
      rcases hpx with h1 | h1 | h1 <;> rcases hpm with h2 | h2 | h2 <;> first | exact i_eq.mpr (by omega) | (exfalso; omega)
  · rcases hx with hx | hx | hx
    · obtain ⟨gw, ewf, hcx, hpx, kxv0, kxv1, kxv4, kxv9, kxf0, kxf4, kxf5, kxf6, kxf7, kxf8, _, _, kyv, kyf⟩ := hx
      exfalso; omega
    · obtain ⟨gw, ewf, hcx, hpx, kxv0, kxv1, kxv4, kxv9, kxf0, kxf4, kxf5, kxf6, kxf7, kxf8, _, _, kyv, kyf⟩ := hx
      exfalso; omega
    · obtain ⟨hcx, hpx, kxv0, kxv1, kxv4, kxv9, kxf0, kxf4, kxf5, kxf6, kxf7, kxf8, _, _, kwf, kyv, kyf⟩ := hx
      rcases hpx with h1 | h1 | h1 <;> rcases hpm with h2 | h2 | h2 <;> first | exact i_eq.mpr (by omega) | (exfalso; omega)
