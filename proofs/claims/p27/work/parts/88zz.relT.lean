def TT (zx : XS) (zm : MS) : Prop := SBY (mF zm 17) (xF zx 12) (xV zx 4).toNatClampNeg
def TRZ (zx : XS) (zm : MS) : Prop := TR2 zx zm ∧ TT zx zm
theorem TT_k {zx zx' : XS} {zm zm' : MS} (h : TT zx zm) (kx : K3X zx zx') (km : K3M zm zm') : TT zx' zm' := by
  obtain ⟨a4, af⟩ := kx
  obtain ⟨b4, bf⟩ := km
  unfold TT at h ⊢
  rw [a4, af, bf]
  exact h
theorem TRZ_init {zx : XS} {zm : MS} (h : TR2 zx zm) (h4 : xV zx 4 = 0) : TRZ zx zm := ⟨h, by unfold TT; rw [h4, clamp_0]; exact fun i hi => absurd hi (by omega)⟩
theorem K3_X8_order {p0 p1 p2 r : Int32} {s s' : XS} (h : RX_X8_order p0 p1 p2 r s s') : K3X s s' := K3X.of h.1
theorem K4_X8_order {p0 p1 p2 r : Int32} {s s' : XS} (h : RX_X8_order p0 p1 p2 r s s') : K4X s s' := K4X.of h.1
theorem K3_X8_sail {p0 p1 p2 p3 r : Int32} {s s' : XS} (h : RX_X8_sail p0 p1 p2 p3 r s s') : K3X s s' := by
  rcases h with h | h | h | h | h
  · exact K3X.of h.2.2
  · exact K3X.of h.2.2
  · exact K3X.of h.2.2.2.2
  · exact K3X.of h.2.2.2.2
  · obtain ⟨-, -, -, -, -, z1, z2, z3, z4, k1, hL, h0, h1, h2⟩ := h
    exact (K3X.of k1).tr ((K3_X5_leave hL).tr ((K3_X8_board h0).tr ((K3_X8_board h1).tr (K3_X8_board h2))))
theorem K4_X8_sail {p0 p1 p2 p3 r : Int32} {s s' : XS} (h : RX_X8_sail p0 p1 p2 p3 r s s') : K4X s s' := by
  rcases h with h | h | h | h | h
  · exact K4X.of h.2.2
  · exact K4X.of h.2.2
  · exact K4X.of h.2.2.2.2
  · exact K4X.of h.2.2.2.2
  · obtain ⟨-, -, -, -, -, z1, z2, z3, z4, k1, hL, h0, h1, h2⟩ := h
    exact (K4X.of k1).tr ((K4_X5_leave hL).tr ((K4_X8_board h0).tr ((K4_X8_board h1).tr (K4_X8_board h2))))
theorem K3_X8_back {p0 p1 p2 p3 r : Int32} {s s' : XS} (h : RX_X8_back p0 p1 p2 p3 r s s') : K3X s s' := by
  rcases h with h | h | h
  · exact K3X.of h.2.2
  · exact K3X.of h.2.2.2
  · obtain ⟨-, -, -, -, z1, z2, z3, hC, h0, h1, h2⟩ := h
    exact (K3_X5_comeBack hC).tr ((K3_X8_unload h0).tr ((K3_X8_unload h1).tr (K3_X8_unload h2)))
theorem K4_X8_back {p0 p1 p2 p3 r : Int32} {s s' : XS} (h : RX_X8_back p0 p1 p2 p3 r s s') : K4X s s' := by
  rcases h with h | h | h
  · exact K4X.of h.2.2
  · exact K4X.of h.2.2.2
  · obtain ⟨-, -, -, -, z1, z2, z3, hC, h0, h1, h2⟩ := h
    exact (K4_X5_comeBack hC).tr ((K4_X8_unload h0).tr ((K4_X8_unload h1).tr (K4_X8_unload h2)))
theorem ST3_feed {p0 p1 rx rm : Int32} {zx zx' : XS} {zm zm' : MS} (hI : XI zx) (h : TR zx zm) (h2 : TT zx zm) (hx : RX_X8_feed p0 p1 rx zx zx') (hm : RM_X9_feed p0 p1 rm zm zm') : TT zx' zm' := by
  obtain ⟨⟨t0, t1, t2, t3⟩, q1, q2, q3, q4, q5, q6⟩ := h
  have hn4 : 0 ≤ (xV zx 4).toInt ∧ (xV zx 4).toInt ≤ 120 := hI.2.2.2.1
  have ht4 : (mV zm 4).toInt = (xV zx 4).toInt := t2.symm
  obtain ⟨hpx, kxv0, kxv1, kxv9, kxv10, kxv13, kxv14, kxf0, kxf1, kxf2, kxf4, kxf5, kxf6, kxf7, kxf8, kxf13, kxf15, kxf18, kxf19, kxf21, kxf22, _, _, kwf, kyv, kyf⟩ := hx
  obtain ⟨hpm, kmv1, kmv2, kmv11, kmv12, kmf0, kmf1, kmf2, kmf3, kmf4, kmf5, kmf6, kmf7, kmf8, kmf9, kmf10, kmf11, kmf12, kmf13, kmf25, kmf26, kmf28, kmf29, kmf30, kmf31, kmf39, kmf40, kmf18, kmf19, kmf20, kmf21, kmf27, kmf32, kmf33, kmf34, kmf35⟩ := hm
  unfold TT at h2 ⊢
  rcases hpx with ⟨c, _, n, e⟩ | ⟨c, c2, _, n, e⟩ | ⟨c, c2, r, n, e⟩ <;> rcases hpm with ⟨d, _, n2, f⟩ | ⟨d, d2, _, n2, f⟩ | ⟨d, d2, r2, n2, f⟩
  · rw [e, f, i_eq.mpr n]; exact h2
  · exact absurd d c
  · exact absurd d c
  · exact absurd c d
  · rw [e, f, i_eq.mpr n]; exact h2
  · exfalso; omega
  · exact absurd c d
  · exfalso; omega
  · have c0 := i_clamp0 hn4.1
    have c1 := i_clamp0 (x := p0) (by omega)
    have c2 := i_clamp0 (x := xV zx' 4) (by omega)
    rw [show (xV zx' 4).toNatClampNeg = (xV zx 4).toNatClampNeg + (p0).toNatClampNeg by omega]
    rw [show (mV zm 4) = xV zx 4 from i_eq.mpr ht4] at f
    exact SBY_fed h2 f e
theorem ST3_rule {p0 rx rm : Int32} {zx zx' : XS} {zm zm' : MS} (hI : XI zx) (h : TR zx zm) (h2 : TT zx zm) (hx : RX_X8_rule p0 rx zx zx') (hm : RM_X9_rule p0 rm zm zm') : TT zx' zm' := by
  obtain ⟨⟨t0, t1, t2, t3⟩, q1, q2, q3, q4, q5, q6⟩ := h
  have hn4 : 0 ≤ (xV zx 4).toInt ∧ (xV zx 4).toInt ≤ 120 := hI.2.2.2.1
  have ht4 : (mV zm 4).toInt = (xV zx 4).toInt := t2.symm
  obtain ⟨⟨hpx, hf⟩, hx⟩ := hx
  obtain ⟨hpm, kmv1, kmv2, kmv11, kmv12, kmf0, kmf1, kmf2, kmf3, kmf4, kmf5, kmf6, kmf7, kmf8, kmf9, kmf10, kmf11, kmf12, kmf13, kmf25, kmf26, kmf28, kmf29, kmf30, kmf31, kmf39, kmf40, kmf17, kmf27, kmf32, kmf33, kmf34, kmf35⟩ := hm
  unfold TT at h2 ⊢
  by_cases c : 0 ≤ p0.toInt ∧ p0.toInt ≤ 1
  · have z : (xV zx' 4).toInt = 0 := by rcases hpx with h1 | h1 | h1 | h1 <;> omega
    have c2 := i_clamp0 (x := xV zx' 4) (by omega)
    rw [show (xV zx' 4).toNatClampNeg = 0 by omega]
    exact fun i hi => absurd hi (by omega)
  · have z : (xV zx' 4).toInt = (xV zx 4).toInt := by rcases hpx with h1 | h1 | h1 | h1 <;> omega
    rw [i_eq.mpr z, hf, kmf17]
    exact h2
theorem AN3_rule {p0 rx rm : Int32} {zx zx' : XS} {zm zm' : MS} (hI : XI zx) (h : TR zx zm) (h2 : TT zx zm) (hx : RX_X8_rule p0 rx zx zx') (hm : RM_X9_rule p0 rm zm zm') : rx = rm := by
  obtain ⟨⟨t0, t1, t2, t3⟩, q1, q2, q3, q4, q5, q6⟩ := h
  have hn4 : 0 ≤ (xV zx 4).toInt ∧ (xV zx 4).toInt ≤ 120 := hI.2.2.2.1
  have ht4 : (mV zm 4).toInt = (xV zx 4).toInt := t2.symm
  obtain ⟨⟨hpx, hf⟩, hx⟩ := hx
  obtain ⟨hpm, kmv1, kmv2, kmv11, kmv12, kmf0, kmf1, kmf2, kmf3, kmf4, kmf5, kmf6, kmf7, kmf8, kmf9, kmf10, kmf11, kmf12, kmf13, kmf25, kmf26, kmf28, kmf29, kmf30, kmf31, kmf39, kmf40, kmf17, kmf27, kmf32, kmf33, kmf34, kmf35⟩ := hm
  have he : (mV zm 4) = xV zx 4 := i_eq.mpr ht4
  rw [he] at hpm
  have m1 : ((-1 : Int32)).toInt = -1 := by decide
  rcases hpm with ⟨d, -, d2⟩ | ⟨d, -, d2, -⟩
  · have hx2 : ∃ (sn : Nat) (sf : Nat → Int32), (∀ {s k : Nat}, (∀ i, i < k → 97 ≤ (xF zx 12 (s + i)).toInt ∧ (xF zx 12 (s + i)).toInt ≤ 122) → wdC sn sf (xF zx 12) s k = wdK p0.toInt (xF zx 12) s k) ∧ ((RAF sn sf (xF zx 12) (xV zx 4).toNatClampNeg rx.toInt) ∨ (rx.toInt = 1 ∧ ∃ O, RAG sn sf (xF zx 12) (xV zx 4).toNatClampNeg O)) := by
      rcases hpx with ⟨c, _, h1 | h1, _⟩ | ⟨c, _, c1, h1, _⟩ | ⟨c, _, c1, h1, _⟩ | ⟨c, _⟩
      · exact ⟨60, tw6, fun hl => by rw [h1.1]; exact wdA hl, Or.inl h1.2⟩
      · exact ⟨35, tw7, fun hl => by rw [h1.1]; exact wdB hl, Or.inl h1.2⟩
      · exact ⟨60, tw6, fun hl => by rw [c]; exact wdA hl, Or.inr ⟨c1, _, h1⟩⟩
      · exact ⟨35, tw7, fun hl => by rw [c]; exact wdB hl, Or.inr ⟨c1, _, h1⟩⟩
      · exact absurd d c
    obtain ⟨sn, sf, hw, hx3⟩ := hx2
    rcases d2 with ⟨v, v0, e1, ⟨F1, f1⟩, _⟩ | ⟨e1, la, h36, h37, _, _, ⟨F1, f1⟩, _⟩
    · rcases hx3 with ⟨v2, w0, e2, F2, f2⟩ | ⟨e2, O, F2, f2⟩
      · have := congrArg Prod.fst (READ_eq h2 hw f1 f2)
        exact i_eq.mpr (by have h9 : v = v2 := this; omega)
      · have := congrArg Prod.fst (READ_eq h2 hw f1 f2)
        exfalso
        have h9 : v = -1 := this
        omega
    · rcases hx3 with ⟨v2, w0, e2, F2, f2⟩ | ⟨e2, O, F2, f2⟩
      · have := congrArg Prod.fst (READ_eq h2 hw f1 f2)
        exfalso
        have h9 : -1 = v2 := this
        omega
      · exact i_eq.mpr (by omega)
  · have z : rx.toInt = -1 := by rcases hpx with h1 | h1 | h1 | h1 <;> omega
    exact i_eq.mpr (by omega)
