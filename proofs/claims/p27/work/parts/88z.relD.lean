def DLR (n sh : Int32) (d b : Nat → Int32) (dm : Int32) (li dt : Nat → Int32) : Prop := (∀ i : Nat, (i : Int) < n.toInt → d i = li i ∧ 1 ≤ (li i).toInt ∧ (li i).toInt ≤ 9999) ∧ sh.toInt = dm.toInt ∧ ∀ i : Nat, (i : Int) < sh.toInt → DG (b i) (dt i)
def TR2 (zx : XS) (zm : MS) : Prop := DLR (xV zx 9) (xV zx 10) (xF zx 13) (xF zx 15) (mV zm 12) (mF zm 39) (mF zm 40)
theorem TR2_k {zx zx' : XS} {zm zm' : MS} (h : TR2 zx zm) (kx : K2X zx zx') (km : K2M zm zm') : TR2 zx' zm' := by
  obtain ⟨a9, a1, a2, a3⟩ := kx
  obtain ⟨b1, b2, b3⟩ := km
  unfold TR2 at h ⊢
  rw [a9, a1, a2, a3, b1, b2, b3]
  exact h
theorem K2_X8_order {p0 p1 p2 r : Int32} {s s' : XS} (h : RX_X8_order p0 p1 p2 r s s') : K2X s s' := K2X.of h.1
theorem K2_X8_sail {p0 p1 p2 p3 r : Int32} {s s' : XS} (h : RX_X8_sail p0 p1 p2 p3 r s s') : K2X s s' := by
  rcases h with h | h | h | h | h
  · exact K2X.of h.2.2
  · exact K2X.of h.2.2
  · exact K2X.of h.2.2.2.2
  · exact K2X.of h.2.2.2.2
  · obtain ⟨-, -, -, -, -, z1, z2, z3, z4, k1, hL, h0, h1, h2⟩ := h
    exact (K2X.of k1).tr ((K2_X5_leave hL).tr ((K2_X8_board h0).tr ((K2_X8_board h1).tr (K2_X8_board h2))))
theorem K2_X8_back {p0 p1 p2 p3 r : Int32} {s s' : XS} (h : RX_X8_back p0 p1 p2 p3 r s s') : K2X s s' := by
  rcases h with h | h | h
  · exact K2X.of h.2.2
  · exact K2X.of h.2.2.2
  · obtain ⟨-, -, -, -, z1, z2, z3, hC, h0, h1, h2⟩ := h
    exact (K2_X5_comeBack hC).tr ((K2_X8_unload h0).tr ((K2_X8_unload h1).tr (K2_X8_unload h2)))
theorem K2_X8_rule {p0 r : Int32} {s s' : XS} (h : RX_X8_rule p0 r s s') : K2X s s' := by
  obtain ⟨_, a0, a1, a9, f0, f1, f2, f4, f5, f6, f7, f8, _, _, w, v, f, k⟩ := h
  exact k
theorem TR2_init {zx : XS} {zm : MS} (hx : xV zx 9 = 0 ∧ xV zx 10 = 0) (hm : mV zm 12 = 0) : TR2 zx zm := by
  have z : (0 : Int32).toInt = 0 := by decide
  unfold TR2
  rw [hx.1, hx.2, hm]
  exact ⟨fun i hi => by omega, rfl, fun i hi => by omega⟩
theorem DLR_add {n n' sh : Int32} {d b : Nat → Int32} {dm : Int32} {li dt : Nat → Int32} {v : Int32} (h : DLR n sh d b dm li dt) (h0 : 0 ≤ n.toInt) (hn : n'.toInt = n.toInt + 1) (hv : 1 ≤ v.toInt ∧ v.toInt ≤ 9999) : DLR n' sh (upd d n.toNatClampNeg v) b dm (upd li n.toNatClampNeg v) dt := by
  have hc := i_clamp0 h0
  refine ⟨fun i hi => ?_, h.2⟩
  by_cases q : i = n.toNatClampNeg
  · subst q; rw [upd_at, upd_at]; exact ⟨rfl, hv⟩
  · rw [upd_ne q, upd_ne q]; exact h.1 i (by omega)
theorem ST2_doubt {p0 rx rm : Int32} {zx zx' : XS} {zm zm' : MS} (hI : XI zx) (h : TR zx zm) (h2 : TR2 zx zm) (hx : RX_X8_doubt p0 rx zx zx') (hm : RM_X9_doubt p0 rm zm zm') : TR2 zx' zm' := by
  obtain ⟨⟨t0, t1, t2, t3⟩, q1, q2, q3, q4, q5, q6⟩ := h
  have hn9 : 0 ≤ (xV zx 9).toInt ∧ (xV zx 9).toInt ≤ 9 := hI.2.2.2.2.1
  obtain ⟨hpx, kxv0, kxv1, kxv4, kxv10, kxv13, kxv14, kxf0, kxf1, kxf2, kxf4, kxf5, kxf6, kxf7, kxf8, kxf15, kxf12, kxf18, kxf19, kxf21, kxf22, _, _, kwf, kyv, kyf⟩ := hx
  obtain ⟨hpm, kmv1, kmv2, kmv4, kmv12, kmf0, kmf1, kmf2, kmf3, kmf4, kmf5, kmf6, kmf7, kmf8, kmf9, kmf10, kmf11, kmf12, kmf13, kmf25, kmf26, kmf28, kmf29, kmf30, kmf31, kmf40, kmf17, kmf18, kmf19, kmf20, kmf21, kmf27, kmf32, kmf33, kmf34, kmf35⟩ := hm
  unfold TR2 at h2 ⊢
  rw [kxv10, kxf15, kmv12, kmf40]
  rcases hpx with ⟨c, _, n, e⟩ | ⟨c, c2, _, n, e⟩ | ⟨c, c2, r, n, e⟩ <;> rcases hpm with ⟨d, _, n2, f⟩ | ⟨d, d2, _, n2, f⟩ | ⟨d, d2, r2, n2, f⟩
  · rw [e, f, i_eq.mpr n]; exact h2
  · exact absurd d c
  · exact absurd d c
  · exact absurd c d
  · rw [e, f, i_eq.mpr n]; exact h2
  · exfalso; omega
  · exact absurd c d
  · exfalso; omega
  · rw [e, f, show (mV zm 11) = xV zx 9 from i_eq.mpr t3.symm]; exact DLR_add h2 hn9.1 (by omega) c
theorem ST2_deal {p0 p1 p2 rx rm : Int32} {zx zx' : XS} {zm zm' : MS} (hI : XI zx) (h : TR zx zm) (h2 : TR2 zx zm) (hx : RX_X8_deal p0 p1 p2 rx zx zx') (hm : RM_X9_deal p0 p1 p2 rm zm zm') : TR2 zx' zm' := by
  obtain ⟨⟨t0, t1, t2, t3⟩, q1, q2, q3, q4, q5, q6⟩ := h
  have hn9 : 0 ≤ (xV zx 9).toInt ∧ (xV zx 9).toInt ≤ 9 := hI.2.2.2.2.1
  have key : ∀ {b' dt' : Nat → Int32}, ((1 ≤ p0.toInt ∧ p0.toInt ≤ 400) ∧ (0 ≤ p1.toInt ∧ p1.toInt ≤ 400) ∧ (0 ≤ p2.toInt ∧ p2.toInt ≤ 400) ∧ ¬ (p1.toInt = 0 ∧ p2.toInt ≠ 0)) → ¬ ((p1.toInt = 0 ∧ (xV zx 9).toInt < 3) ∨ (p1.toInt ≠ 0 ∧ p2.toInt = 0 ∧ (xV zx 9).toInt < 6) ∨ (p1.toInt ≠ 0 ∧ p2.toInt ≠ 0 ∧ (xV zx 9).toInt < 9)) → SHX (xF zx 13) (upd (upd (upd (xF zx 16) 0 p0) 1 p1) 2 p2) (xF zx 14) (xF zx 15) (xV zx 9) (shI p1 p2) rx b' → ((rm, dt') : SM) = fdM (shN p1 p2) (mV zm 11).toNatClampNeg (upd (upd (upd (mF zm 42) 0 p0) 1 p1) 2 p2) (mF zm 39) ((-1), mF zm 40) (4 ^ (mV zm 11).toNatClampNeg) → rx = rm ∧ ∀ i : Nat, (i : Int) < (xV zx 9).toInt → DG (b' i) (dt' i) := by
    intro b' dt' c c2 e f
    have hc := i_clamp0 hn9.1
    rw [show (mV zm 11) = xV zx 9 from i_eq.mpr t3.symm] at f
    have hs : (shI p1 p2).toInt = (shN p1 p2 : Nat) ∧ 1 ≤ shN p1 p2 ∧ shN p1 p2 ≤ 3 ∧ 3 * shN p1 p2 ≤ (xV zx 9).toNatClampNeg := by
      unfold shI shN
      by_cases a : p1.toInt = 0
      · rw [if_pos a, if_pos a]; exact ⟨by decide, by omega, by omega, by omega⟩
      · rw [if_neg a, if_neg a]
        by_cases a2 : p2.toInt = 0
        · rw [if_pos a2, if_pos a2]; exact ⟨by decide, by omega, by omega, by omega⟩
        · rw [if_neg a2, if_neg a2]; exact ⟨by decide, by omega, by omega, by omega⟩
    have hD := DEAL (hc.symm ▸ rfl) hs.1 hs.2.1 hs.2.2.1 hs.2.2.2 (by omega) (fun i hi => h2.1 i (by omega)) (fun s hs => by
      rcases (show s = 0 ∨ s = 1 ∨ s = 2 by omega) with rfl | rfl | rfl
      · rw [upd_ne (by decide), upd_ne (by decide), upd_at, upd_ne (by decide), upd_ne (by decide), upd_at]; exact ⟨rfl, by omega, by omega⟩
      · rw [upd_ne (by decide), upd_at, upd_ne (by decide), upd_at]; exact ⟨rfl, by omega, by omega⟩
      · rw [upd_at, upd_at]; exact ⟨rfl, by omega, by omega⟩) e f
    exact ⟨hD.1, fun i hi => hD.2 i (by omega)⟩
  obtain ⟨hpx, kxv0, kxv1, kxv4, kxv13, kxv14, kxf0, kxf1, kxf2, kxf4, kxf5, kxf6, kxf7, kxf8, kxf13, kxf12, kxf18, kxf19, kxf21, kxf22, _, _, kwf, kyv, kyf⟩ := hx
  obtain ⟨hpm, kmv1, kmv2, kmv4, kmf0, kmf1, kmf2, kmf3, kmf4, kmf5, kmf6, kmf7, kmf8, kmf9, kmf10, kmf11, kmf12, kmf13, kmf25, kmf26, kmf28, kmf29, kmf30, kmf31, kmf39, kmf17, kmf18, kmf19, kmf20, kmf21, kmf27, kmf32, kmf33, kmf34, kmf35⟩ := hm
  have hmn : (mV zm 11).toInt = (xV zx 9).toInt := t3.symm
  unfold TR2 at h2 ⊢
  rw [kxf13, kmf39]
  rcases hpx with ⟨c, _, n, e, e2⟩ | ⟨c, c2, _, n, e, e2⟩ | ⟨c, c2, n, m, e⟩ <;> rcases hpm with ⟨d, _, n2, f, f2⟩ | ⟨d, d2, _, n2, f, f2⟩ | ⟨d, d2, n2, m2, f⟩
  · rw [e, e2, f, f2, i_eq.mpr n]; exact h2
  · exact absurd d c
  · exact absurd d c
  · exact absurd c d
  · rw [e, e2, f, f2, i_eq.mpr n]; exact h2
  · rw [hmn] at d2; exact absurd c2 d2
  · exact absurd c d
  · rw [hmn] at d2; exact absurd d2 c2
  · have hk := key c c2 e f
    exact ⟨fun i hi => by omega, by omega, fun i hi => hk.2 i (by omega)⟩
theorem AN2_deal {p0 p1 p2 rx rm : Int32} {zx zx' : XS} {zm zm' : MS} (hI : XI zx) (h : TR zx zm) (h2 : TR2 zx zm) (hx : RX_X8_deal p0 p1 p2 rx zx zx') (hm : RM_X9_deal p0 p1 p2 rm zm zm') : rx = rm := by
  obtain ⟨⟨t0, t1, t2, t3⟩, q1, q2, q3, q4, q5, q6⟩ := h
  have hn9 : 0 ≤ (xV zx 9).toInt ∧ (xV zx 9).toInt ≤ 9 := hI.2.2.2.2.1
  have key : ∀ {b' dt' : Nat → Int32}, ((1 ≤ p0.toInt ∧ p0.toInt ≤ 400) ∧ (0 ≤ p1.toInt ∧ p1.toInt ≤ 400) ∧ (0 ≤ p2.toInt ∧ p2.toInt ≤ 400) ∧ ¬ (p1.toInt = 0 ∧ p2.toInt ≠ 0)) → ¬ ((p1.toInt = 0 ∧ (xV zx 9).toInt < 3) ∨ (p1.toInt ≠ 0 ∧ p2.toInt = 0 ∧ (xV zx 9).toInt < 6) ∨ (p1.toInt ≠ 0 ∧ p2.toInt ≠ 0 ∧ (xV zx 9).toInt < 9)) → SHX (xF zx 13) (upd (upd (upd (xF zx 16) 0 p0) 1 p1) 2 p2) (xF zx 14) (xF zx 15) (xV zx 9) (shI p1 p2) rx b' → ((rm, dt') : SM) = fdM (shN p1 p2) (mV zm 11).toNatClampNeg (upd (upd (upd (mF zm 42) 0 p0) 1 p1) 2 p2) (mF zm 39) ((-1), mF zm 40) (4 ^ (mV zm 11).toNatClampNeg) → rx = rm ∧ ∀ i : Nat, (i : Int) < (xV zx 9).toInt → DG (b' i) (dt' i) := by
    intro b' dt' c c2 e f
    have hc := i_clamp0 hn9.1
    rw [show (mV zm 11) = xV zx 9 from i_eq.mpr t3.symm] at f
    have hs : (shI p1 p2).toInt = (shN p1 p2 : Nat) ∧ 1 ≤ shN p1 p2 ∧ shN p1 p2 ≤ 3 ∧ 3 * shN p1 p2 ≤ (xV zx 9).toNatClampNeg := by
      unfold shI shN
      by_cases a : p1.toInt = 0
      · rw [if_pos a, if_pos a]; exact ⟨by decide, by omega, by omega, by omega⟩
      · rw [if_neg a, if_neg a]
        by_cases a2 : p2.toInt = 0
        · rw [if_pos a2, if_pos a2]; exact ⟨by decide, by omega, by omega, by omega⟩
        · rw [if_neg a2, if_neg a2]; exact ⟨by decide, by omega, by omega, by omega⟩
    have hD := DEAL (hc.symm ▸ rfl) hs.1 hs.2.1 hs.2.2.1 hs.2.2.2 (by omega) (fun i hi => h2.1 i (by omega)) (fun s hs => by
      rcases (show s = 0 ∨ s = 1 ∨ s = 2 by omega) with rfl | rfl | rfl
      · rw [upd_ne (by decide), upd_ne (by decide), upd_at, upd_ne (by decide), upd_ne (by decide), upd_at]; exact ⟨rfl, by omega, by omega⟩
      · rw [upd_ne (by decide), upd_at, upd_ne (by decide), upd_at]; exact ⟨rfl, by omega, by omega⟩
      · rw [upd_at, upd_at]; exact ⟨rfl, by omega, by omega⟩) e f
    exact ⟨hD.1, fun i hi => hD.2 i (by omega)⟩
  obtain ⟨hpx, kxv0, kxv1, kxv4, kxv13, kxv14, kxf0, kxf1, kxf2, kxf4, kxf5, kxf6, kxf7, kxf8, kxf13, kxf12, kxf18, kxf19, kxf21, kxf22, _, _, kwf, kyv, kyf⟩ := hx
  obtain ⟨hpm, kmv1, kmv2, kmv4, kmf0, kmf1, kmf2, kmf3, kmf4, kmf5, kmf6, kmf7, kmf8, kmf9, kmf10, kmf11, kmf12, kmf13, kmf25, kmf26, kmf28, kmf29, kmf30, kmf31, kmf39, kmf17, kmf18, kmf19, kmf20, kmf21, kmf27, kmf32, kmf33, kmf34, kmf35⟩ := hm
  have hmn : (mV zm 11).toInt = (xV zx 9).toInt := t3.symm
  rcases hpx with ⟨c, r1, n, e, e2⟩ | ⟨c, c2, r1, n, e, e2⟩ | ⟨c, c2, n, m, e⟩ <;> rcases hpm with ⟨d, r2, n2, f, f2⟩ | ⟨d, d2, r2, n2, f, f2⟩ | ⟨d, d2, n2, m2, f⟩
  · exact i_eq.mpr (by omega)
  · exact absurd d c
  · exact absurd d c
  · exact absurd c d
  · exact i_eq.mpr (by omega)
  · rw [hmn] at d2; exact absurd c2 d2
  · exact absurd c d
  · rw [hmn] at d2; exact absurd d2 c2
  · exact (key c c2 e f).1
theorem AN2_dealt {p0 rx rm : Int32} {zx zx' : XS} {zm zm' : MS} (hI : XI zx) (h : TR zx zm) (h2 : TR2 zx zm) (hx : RX_X8_dealt p0 rx zx zx') (hm : RM_X9_dealt p0 rm zm zm') : rx = rm := by
  obtain ⟨⟨t0, t1, t2, t3⟩, q1, q2, q3, q4, q5, q6⟩ := h
  have hn9 : 0 ≤ (xV zx 9).toInt ∧ (xV zx 9).toInt ≤ 9 := hI.2.2.2.2.1
  obtain ⟨hpx, kxv0, kxv1, kxv4, kxv9, kxv10, kxv13, kxv14, kxf0, kxf1, kxf2, kxf4, kxf5, kxf6, kxf7, kxf8, kxf13, kxf15, kxf12, kxf18, kxf19, kxf21, kxf22, _, _, kwf, kyv, kyf⟩ := hx
  obtain ⟨hpm, kmv1, kmv2, kmv4, kmv11, kmv12, kmf0, kmf1, kmf2, kmf3, kmf4, kmf5, kmf6, kmf7, kmf8, kmf9, kmf10, kmf11, kmf12, kmf13, kmf25, kmf26, kmf28, kmf29, kmf30, kmf31, kmf39, kmf40, kmf17, kmf18, kmf19, kmf20, kmf21, kmf27, kmf32, kmf33, kmf34, kmf35⟩ := hm
  have hsh : (xV zx 10).toInt = (mV zm 12).toInt := h2.2.1
  rcases hpx with ⟨c, e⟩ | ⟨c, e⟩
  · rcases hpm with ⟨d, f⟩ | ⟨d, d2, f⟩ | ⟨d, d2, f⟩
    · exact i_eq.mpr (by omega)
    · exfalso; omega
    · exfalso; omega
  · have hc := i_clamp0 c.1
    have hD := h2.2.2 (p0).toNatClampNeg (by omega)
    rcases hpm with ⟨d, f⟩ | ⟨d, d2, f⟩ | ⟨d, d2, f⟩
    · exfalso; omega
    · rcases hD with ⟨a, a2⟩ | ⟨a, a2⟩
      · rw [← e] at a2; exact i_eq.mpr (by omega)
      · exact absurd d2 a
    · rcases hD with ⟨a, a2⟩ | ⟨a, a2⟩
      · exact absurd a d2
      · rw [e, f]; exact a2
