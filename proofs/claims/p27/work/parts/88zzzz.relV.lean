/-! ===== sights tied ===== -/
def SV (yv : Nat → Int32) (yf : Nat → Nat → Int32) (M49 M54 M55 M56 M57 : Nat → Int32) (j : Nat) : Prop :=
  yv 0 = M55 j ∧ (0 < (yv 0).toInt → (yv 1).toInt ≠ 0)
  ∧ (∀ k : Nat, (k : Int) < (yv 0).toInt → yf 5 k = M56 (40 * j + k) ∧ (0 ≤ (yf 5 k - yv 2).toInt ∧ (yf 5 k - yv 2).toInt ≤ 399) ∧ ∀ i : Nat, i < 3 → yf 6 (3 * k + i) = M57 (3 * (40 * j + k) + i) ∧ -2000000 ≤ (yf 6 (3 * k + i)).toInt ∧ (yf 6 (3 * k + i)).toInt ≤ 2000000)
  ∧ ((yv 1).toInt ≠ 0 → ∀ i : Nat, i < 3 → (-700000 ≤ (yf 1 i).toInt ∧ (yf 1 i).toInt ≤ 700000) ∧ (-999 ≤ (yf 2 i).toInt ∧ (yf 2 i).toInt ≤ 999))
  ∧ ((yv 1).toInt = 2 → yv 3 = M49 j ∧ 1 ≤ (yv 3).toInt ∧ ∀ i : Nat, i < 3 → yf 4 i = M54 (3 * j + i) ∧ -100000 ≤ (yf 4 i).toInt ∧ (yf 4 i).toInt ≤ 100000)
theorem eX_in {wf : Nat → Nat → Int32} {X4 X5 X6 X7 X8 M3 M4 M5 M6 M7 M9 M10 M11 M12 M13 : Nat → Int32} {n d k : Int32} {p : Nat} (hd : 0 ≤ d.toInt ∧ d.toInt ≤ 399) (hn : 0 ≤ n.toInt ∧ n.toInt ≤ 60) (h3 : KK3 n X4 X5 X6 X7 X8 M9 M10 M11 M12 M13) (hw : WD wf M3 M4 M5 M6 M7 p d.toNatClampNeg) (hc : (wf 1 d.toNatClampNeg).toInt ≠ -1) :
    -700000 ≤ (eX (wf 0) (wf 1) X4 X5 X6 X7 X8 n d k).toInt ∧ (eX (wf 0) (wf 1) X4 X5 X6 X7 X8 n d k).toInt ≤ 700000 := by
  have hcl := i_clamp0 hn.1
  unfold eX
  rcases hw.1 with ⟨a1, a2⟩ | ⟨a1, a2, a3, a4, a5⟩
  · exact absurd a1 hc
  · rw [if_pos (by omega)]
    have hs : -600000 ≤ (sumF X4 X5 X6 X7 X8 n (wf 1 d.toNatClampNeg) d k).toInt ∧ (sumF X4 X5 X6 X7 X8 n (wf 1 d.toNatClampNeg) d k).toInt ≤ 600000 := by
      unfold sumF
      split
      · decide
      · have h9 := offS_abs (sg := X4) (fr := X5) (to := X6) (bz := X7) (od := X8) (src := wf 1 d.toNatClampNeg) (day := d) (k := k) n.toNatClampNeg (by omega) (fun i hi => (h3 i (by omega)).2.2.2.2.2.2)
        omega
    generalize sumF X4 X5 X6 X7 X8 n (wf 1 d.toNatClampNeg) d k = x at hs ⊢
    rw [i_sub (by omega) (by omega)]
    omega
theorem goX_in {l : List (Int32 × Int32)} (h1 : 1 ≤ l.length) (hl : l.length ≤ 60) (hv : ∀ i : Nat, i < l.length → -999 ≤ (vL l i).toInt ∧ (vL l i).toInt ≤ 999) : -999 ≤ (goX l).toInt ∧ (goX l).toInt ≤ 999 := by
  obtain ⟨a, b, c⟩ := sums_eq l.length hl hv
  have hp : (0 : Int) < (l.length : Int) := by omega
  have d1 : -999 ≤ (sumI (vL l) l.length).toInt / (l.length : Int) := Int.le_ediv_of_mul_le hp (by omega)
  have d2 : (sumI (vL l) l.length).toInt / (l.length : Int) ≤ 999 := by
    have := Int.ediv_lt_of_lt_mul (a := (sumI (vL l) l.length).toInt) (b := 1000) hp (by omega)
    omega
  unfold goX
  rw [ofI_s (by omega)]
  exact ⟨d1, d2⟩
/-- products and quotients within bounds -/
theorem mul_399 {n d : Int} (hn : 0 ≤ n ∧ n ≤ 399) (hd : -800000 ≤ d ∧ d ≤ 800000) : -319200000 ≤ n * d ∧ n * d ≤ 319200000 := by
  have h1 : n * d ≤ 399 * 800000 := by
    rcases (show 0 ≤ d ∨ d < 0 by omega) with h | h
    · exact Int.mul_le_mul hn.2 hd.2 h (by omega)
    · have := Int.mul_nonpos_of_nonneg_of_nonpos hn.1 (show d ≤ 0 by omega); omega
  have h2 : n * (-d) ≤ 399 * 800000 := by
    rcases (show 0 ≤ -d ∨ -d < 0 by omega) with h | h
    · exact Int.mul_le_mul hn.2 (by omega) h (by omega)
    · have := Int.mul_nonpos_of_nonneg_of_nonpos hn.1 (show -d ≤ 0 by omega); omega
  rw [Int.mul_neg] at h2
  omega
theorem div_in {a v B : Int} (hv : 1 ≤ v) (hB : 0 ≤ B) (h : -B ≤ a ∧ a ≤ B) : -B ≤ a / v ∧ a / v ≤ B := by
  have hm : B * 1 ≤ B * v := Int.mul_le_mul_of_nonneg_left hv hB
  have h1 : -B ≤ a / v := Int.le_ediv_of_mul_le (by omega) (by rw [Int.neg_mul]; omega)
  have h2 : a / v ≤ B := by
    have := Int.ediv_lt_of_lt_mul (a := a) (b := B + 1) (c := v) (by omega) (by rw [Int.add_mul]; omega)
    omega
  exact ⟨h1, h2⟩
theorem ofI_b {x : Int} (h : -2147483648 ≤ x ∧ x ≤ 2147483647) : (Int32.ofInt x).toInt = x := Int32.toInt_ofInt_of_le (by omega) (by omega)
theorem i_mul' {a b : Int32} (h : -2147483648 ≤ a.toInt * b.toInt ∧ a.toInt * b.toInt ≤ 2147483647) : (a * b).toInt = a.toInt * b.toInt := g_mul rfl rfl h.1 h.2
theorem oN_3 {k : Nat} (hk : k < 3) : (Int32.ofNat k).toInt = (k : Int) ∧ (Int32.ofNat k).toNatClampNeg = k := by
  have e9 : (Int32.ofNat k).toInt = (k : Int) := Int32.toInt_ofNat_of_lt (by omega)
  refine ⟨e9, ?_⟩
  show (Int32.ofNat k).toInt.toNat = k
  omega
theorem TM_eq {sg vo vo' sa : Int32} {f1 f2 f4 f5 f6 M51 M52 M54 M56 M57 : Nat → Int32} {p1 : Int32} {j k : Nat} (hk : k < 3) (hp : 0 ≤ p1.toInt ∧ p1.toInt < 40) (h5 : f5 p1.toNatClampNeg = M56 (40 * j + p1.toNatClampNeg)) (hn : 0 ≤ (f5 p1.toNatClampNeg - sa).toInt ∧ (f5 p1.toNatClampNeg - sa).toInt ≤ 399)
    (h6 : f6 (3 * p1.toNatClampNeg + k) = M57 (3 * (40 * j + p1.toNatClampNeg) + k) ∧ -2000000 ≤ (f6 (3 * p1.toNatClampNeg + k)).toInt ∧ (f6 (3 * p1.toNatClampNeg + k)).toInt ≤ 2000000) (h1 : f1 k = M51 (3 * j + k) ∧ -700000 ≤ (f1 k).toInt ∧ (f1 k).toInt ≤ 700000) (h2 : f2 k = M52 (3 * j + k) ∧ -999 ≤ (f2 k).toInt ∧ (f2 k).toInt ≤ 999)
    (h4 : sg.toInt = 2 → vo = vo' ∧ 1 ≤ vo.toInt ∧ f4 k = M54 (3 * j + k) ∧ -100000 ≤ (f4 k).toInt ∧ (f4 k).toInt ≤ 100000) :
    tmX sg vo sa f1 f2 f4 f5 f6 p1 (Int32.ofNat k) = tmM sg vo' sa M51 M52 M54 M56 M57 j p1.toNatClampNeg k ∧ -400000000 ≤ (tmM sg vo' sa M51 M52 M54 M56 M57 j p1.toNatClampNeg k).toInt ∧ (tmM sg vo' sa M51 M52 M54 M56 M57 j p1.toNatClampNeg k).toInt ≤ 400000000 := by
  obtain ⟨e1, e2⟩ := oN_3 hk
  have hc := i_clamp0 hp.1
  have t3 : (3 : Int32).toInt = 3 := by decide
  have m3 : (3 * p1).toInt = 3 * p1.toInt := g_mul t3 rfl (by omega) (by omega)
  have a3 : (3 * p1 + Int32.ofNat k).toInt = 3 * p1.toInt + k := by rw [i_add (by omega) (by omega), m3, e1]
  have ei : (3 * p1 + Int32.ofNat k).toNatClampNeg = 3 * p1.toNatClampNeg + k := by
    have := i_clamp0 (x := 3 * p1 + Int32.ofNat k) (by omega)
    omega
  obtain ⟨h6, b6⟩ := h6
  obtain ⟨h1, b1⟩ := h1
  obtain ⟨h2, b2⟩ := h2
  rw [h5] at hn
  rw [h6] at b6
  rw [h1] at b1
  rw [h2] at b2
  unfold tmX tmM
  rw [e2, ei, h5, h6, h1, h2]
  generalize M56 (40 * j + p1.toNatClampNeg) - sa = n at hn ⊢
  generalize M57 (3 * (40 * j + p1.toNatClampNeg) + k) = x at b6 ⊢
  generalize M51 (3 * j + k) = st at b1 ⊢
  generalize M52 (3 * j + k) = g at b2 ⊢
  have s1 : (x - st).toInt = x.toInt - st.toInt := i_sub (by omega) (by omega)
  by_cases c : sg.toInt = 2
  · obtain ⟨ve, v1, f4e, b4⟩ := h4 c
    subst ve
    rw [f4e] at b4
    rw [if_pos ⟨c, by omega⟩, if_pos c, f4e]
    generalize M54 (3 * j + k) = en at b4 ⊢
    have s2 : (en - st).toInt = en.toInt - st.toInt := i_sub (by omega) (by omega)
    have hm := mul_399 hn (d := (en - st).toInt) (by omega)
    have hq := div_in (a := n.toInt * (en - st).toInt) (v := vo.toInt) (B := 319200000) v1 (by omega) hm
    unfold fdI
    rw [i_mul' (by omega)]
    refine ⟨rfl, ?_⟩
    have eq := ofI_b (x := n.toInt * (en - st).toInt / vo.toInt) (by omega)
    rw [i_sub (by omega) (by omega), s1, eq]
    omega
  · rw [if_neg (fun h => c h.1), if_neg c]
    refine ⟨rfl, ?_⟩
    have hm := mul_399 hn (d := g.toInt) (by omega)
    have e3 : (g * n).toInt = n.toInt * g.toInt := by rw [i_mul' (by rw [Int.mul_comm]; omega), Int.mul_comm]
    rw [i_sub (by omega) (by omega), s1, e3]
    omega
theorem WD_eq9 {sg vo vo' sa : Int32} {f3 f5 M53 M56 : Nat → Int32} {p1 : Int32} {j k : Nat} (hk : k < 3) (h5 : f5 p1.toNatClampNeg = M56 (40 * j + p1.toNatClampNeg)) (h3 : f3 k = M53 (3 * j + k)) (hv : sg.toInt = 2 → vo = vo') : wdX sg vo sa f3 f5 p1 (Int32.ofNat k) = wdM sg vo' sa M53 M56 j p1.toNatClampNeg k := by
  obtain ⟨e1, e2⟩ := oN_3 hk
  unfold wdX wdM
  rw [e2, h5, h3]
  generalize M56 (40 * j + p1.toNatClampNeg) - sa = n
  by_cases c : sg.toInt = 2
  · have ve := hv c
    subst ve
    rw [if_pos c]
    by_cases d : (vo - n).toInt < n.toInt
    · rw [if_pos ⟨c, d⟩, mnI_y d]
    · rw [if_neg (fun h => d h.2), mnI_n d]
  · rw [if_neg c, if_neg (fun h => c h.1)]
theorem OF_eq {t t' : Nat → Int32} {k : Nat} (hk : k < 3) (h : ∀ i : Nat, i < 3 → t i = t' i ∧ -400000000 ≤ (t' i).toInt ∧ (t' i).toInt ≤ 400000000) : ofX t k = ofM t' k := by
  have ha := h ((k + 1) % 3) (by omega)
  have hb := h ((k + 2) % 3) (by omega)
  have hx := h k hk
  have two : (2 : Int32).toInt = 2 := by decide
  unfold ofX ofM
  rw [ha.1, hb.1, hx.1]
  congr 1
  have e : (t' ((k + 1) % 3) + t' ((k + 2) % 3)).toInt = (t' ((k + 1) % 3)).toInt + (t' ((k + 2) % 3)).toInt := i_add (by omega) (by omega)
  have f : (fdI (t' ((k + 1) % 3) + t' ((k + 2) % 3)) 2).toInt = ((t' ((k + 1) % 3)).toInt + (t' ((k + 2) % 3)).toInt) / 2 := by
    unfold fdI
    rw [e, two]
    exact ofI_b (by omega)
  refine i_eq.mpr ?_
  rw [i_sub (by omega) (by omega), f]
  exact (ofI_b (by omega)).symm
theorem DR_eq {t t' db db' : Nat → Int32} {n n' sz has m : Int32} {sg va f36 f37 : Nat → Int32} (h : ∀ i : Nat, i < 3 → t i = t' i ∧ -400000000 ≤ (t' i).toInt ∧ (t' i).toInt ≤ 400000000) (hd : ∀ i : Nat, i < 3 → db i = db' i) (hn : n = n') (hR : RUT 1 128 sz sg va has m f36 f37) (hz : sz.toInt ≤ 120) (hw : WFc f36 128 m.toNatClampNeg) (d d' : Int) (a : DRX t db n sg va sz d) (b : DRM t' db' n' has f36 f37 m d') : d = d' := by
  have hh := RUT_has hR
  rcases a with ⟨a1, a2⟩ | ⟨a1, m1, a2⟩
  · rcases b with ⟨b1, b2⟩ | ⟨b1, m2, b2⟩
    · omega
    · exact absurd (hh.mpr a1) b1
  · rcases b with ⟨b1, b2⟩ | ⟨b1, m2, b2⟩
    · exact absurd (hh.mp b1) a1
    · refine (DPP_eq (fun k v v' hk x y => ?_) 3 _ _ _ _ (Nat.le_refl 3) a2 b2).1
      obtain ⟨g, ⟨g0, g1, g2, g3⟩, e⟩ := x
      obtain ⟨g', ⟨g0', g1', g2', g3'⟩, s⟩ := y
      rw [e]
      refine SAY_eq (Or.inr rfl) hR b1 hz hw (fun i hi => ?_) s
      unfold nQ at hi
      rcases (show i = 20 ∨ i = 21 ∨ i = 22 ∨ i = 23 by omega) with q | q | q | q <;> subst q
      · show g 0 = g' 20
        rw [g0, g0', OF_eq hk h]
      · show g 1 = g' 21
        rw [g1, g1', hd k hk]
      · show g 2 = g' 22
        rw [g2, g2', hn]
      · show g 3 = g' 23
        rw [g3, g3']
def TV (zx : XS) (zm : MS) : Prop := ∀ j : Nat, j < 5 → SV (xyv zx j) (xyf zx j) (mF zm 27) (mF zm 32) (mF zm 33) (mF zm 34) (mF zm 35) j
theorem TV_k {zx zx' : XS} {zm zm' : MS} (h : TV zx zm) (kx : K5X zx zx') (km : K5M zm zm') : TV zx' zm' := by
  obtain ⟨a1, a2⟩ := kx
  obtain ⟨b1, b2, b3, b4, b5⟩ := km
  unfold TV at h ⊢
  rw [a1, a2, b1, b2, b3, b4, b5]
  exact h
theorem TV_init {zx : XS} {zm : MS} (h1 : ∀ j : Nat, xyv zx j 1 = 0) (h0 : ∀ j : Nat, xyv zx j 0 = 0) (h5 : ∀ j : Nat, mF zm 33 j = 0) : TV zx zm := fun j hj => by
  have z : (0 : Int32).toInt = 0 := by decide
  unfold SV
  rw [h1 j, h0 j, h5 j, z]
  exact ⟨rfl, fun h => absurd h (by omega), fun k hk => absurd hk (by omega), fun h => absurd rfl h, fun h => absurd h (by omega)⟩
theorem K5X.of {s t : XS} (h : KPX s t) : K5X s t := by
  obtain ⟨h1, h2, h3, h4, h5, h6, h7, h8, h9, h10, h11, h12, h13, h14, h15, h16, h17, h18⟩ := h
  exact ⟨h16, h17⟩
theorem K5_X8_order {p0 p1 p2 r : Int32} {s s' : XS} (h : RX_X8_order p0 p1 p2 r s s') : K5X s s' := K5X.of h.1
theorem K5_X8_rule {p0 r : Int32} {s s' : XS} (h : RX_X8_rule p0 r s s') : K5X s s' := by
  obtain ⟨_, a0, a1, a9, f0, f1, f2, f4, f5, f6, f7, f8, _, _, w, v, f, k⟩ := h
  exact ⟨v, f⟩
/-- a ship's other numbers, while it sails and comes back -/
theorem BRD_5 {p0 k p : Int32} {s s' : XS} (h : RX_X8_board p0 k p s s') : xyv s' (p0).toNatClampNeg 0 = xyv s (p0).toNatClampNeg 0 := by
  obtain ⟨gw, gv, gf, eyv, eyf, ewf, hpx, kxv0, kxv1, kxv4, kxv9, kxv10, kxv13, kxv14, kxf0, kxf1, kxf2, kxf4, kxf5, kxf6, kxf7, kxf8, kxf13, kxf15, kxf12, kxf18, kxf19, kxf21, kxf22, _, _, gw0, gw1, gw2, gv0, gv1, gv2, gv3, gf4, gf5, gf6⟩ := h
  rw [eyv, up_at]; exact gv0
theorem LEV_5 {j : Nat} {p0 : Int32} {s s' : XS} (h : RX_X5_leave j p0 s s') : (xyv s' j 0).toInt = 0 := by
  obtain ⟨gv, gf, eyv, eyf, hpx, kxv0, kxv1, kxv4, kxv9, kxv10, kxv13, kxv14, kxf0, kxf1, kxf2, kxf4, kxf5, kxf6, kxf7, kxf8, kxf13, kxf15, kxf12, kxf18, kxf19, kxf21, kxf22, _, _, kwf, gv3, gf0, gf1, gf2, gf3, gf4, gf5, gf6⟩ := h
  rw [eyv, up_at]; exact hpx.2.2
theorem CMB_5 {j : Nat} {p0 : Int32} {s s' : XS} (h : RX_X5_comeBack j p0 s s') : xyv s' j 0 = xyv s j 0 ∧ xyf s' j 4 = xyf s j 4 ∧ xyf s' j 5 = xyf s j 5 ∧ xyf s' j 6 = xyf s j 6 := by
  obtain ⟨gv, gf, eyv, eyf, hpx, kxv0, kxv1, kxv4, kxv9, kxv10, kxv13, kxv14, kxf0, kxf1, kxf2, kxf4, kxf5, kxf6, kxf7, kxf8, kxf13, kxf15, kxf12, kxf18, kxf19, kxf21, kxf22, _, _, kwf, gv0, gv2, gf0, gf1, gf2, gf3, gf4, gf5, gf6⟩ := h
  rw [eyv, eyf, up_at, up_at]; exact ⟨gv0, gf4, gf5, gf6⟩
theorem UNL_5 {j : Nat} {k e : Int32} {s s' : XS} (h : RX_X8_unload j k e s s') : xyv s' j 0 = xyv s j 0 ∧ xyf s' j 4 = upd (xyf s j 4) (k).toNatClampNeg e ∧ xyf s' j 5 = xyf s j 5 ∧ xyf s' j 6 = xyf s j 6 := by
  rcases h with h | h
  · obtain ⟨gw, gv, gf, eyv, eyf, ewf, hcx, hpx, hxk0, kxv0, kxv1, kxv4, kxv9, kxv10, kxv13, kxv14, kxf0, kxf1, kxf2, kxf4, kxf5, kxf6, kxf7, kxf8, kxf13, kxf15, kxf12, kxf18, kxf19, kxf21, kxf22, _, _, gw2, gv0, gv1, gv2, gv3, gf0, gf1, gf2, gf3, gf5, gf6⟩ := h
    rw [eyv, eyf, up_at, up_at]; exact ⟨gv0, hxk0, gf5, gf6⟩
  · obtain ⟨gv, gf, eyv, eyf, hcx, hpx, kxv0, kxv1, kxv4, kxv9, kxv10, kxv13, kxv14, kxf0, kxf1, kxf2, kxf4, kxf5, kxf6, kxf7, kxf8, kxf13, kxf15, kxf12, kxf18, kxf19, kxf21, kxf22, _, _, kwf, gv0, gv1, gv2, gv3, gf0, gf1, gf2, gf3, gf5, gf6⟩ := h
    rw [eyv, eyf, up_at, up_at]; exact ⟨gv0, hpx, gf5, gf6⟩
theorem ST5_sight {p0 p1 p2 p3 p4 rx rm : Int32} {zx zx' : XS} {zm zm' : MS} (hI : XI zx) (h : TR zx zm) (h5 : TV zx zm) (hx : RX_X8_sight p0 p1 p2 p3 p4 rx zx zx') (hm : RM_X9_sight p0 p1 p2 p3 p4 rm zm zm') : TV zx' zm' := by
  have hI0 := hI
  have h0 := h
  obtain ⟨⟨t0, t1, t2, t3⟩, q1, q2, q3, q4, q5, q6⟩ := h
  have hb := hI.1
  have hb1 := hI.2.1
  obtain ⟨hpm, kmv1, kmv2, kmv4, kmv11, kmv12, kmf0, kmf1, kmf2, kmf3, kmf4, kmf5, kmf6, kmf7, kmf8, kmf9, kmf10, kmf11, kmf12, kmf13, kmf25, kmf26, kmf28, kmf29, kmf30, kmf31, kmf39, kmf40, kmf17, kmf18, kmf19, kmf20, kmf21, kmf27, kmf32⟩ := hm
  rcases hx with hx | hx
  ·
    obtain ⟨gv, gf, eyv, eyf, hcx, hpx, kxv0, kxv1, kxv4, kxv9, kxv10, kxv13, kxv14, kxf0, kxf1, kxf2, kxf4, kxf5, kxf6, kxf7, kxf8, kxf13, kxf15, kxf12, kxf18, kxf19, kxf21, kxf22, _, _, kwf, gv1, gv2, gv3, gf0, gf1, gf2, gf3, gf4⟩ := hx
    have hp := cl5 hcx
    have hc := i_clamp0 hcx.1
    obtain ⟨r1, r2, r3, r4⟩ := q5 _ hp
    obtain ⟨s1, s2, s3, s4, s5⟩ := h5 _ hp
    have hsg := hI.2.2.2.2.2.2.2.2.2.2.2.2 _ hp
    have es1 := congrArg Int32.toInt s1
    have er1 := congrArg Int32.toInt r1
    have cn := i_clamp0 (x := xyv zx (p0).toNatClampNeg 0) hsg.1
    -- what the last sight was
    have last : 1 ≤ (xyv zx (p0).toNatClampNeg 0).toInt → xyf zx (p0).toNatClampNeg 5 ((xyv zx (p0).toNatClampNeg 0).toInt - 1).toNat = mF zm 34 (40 * (p0).toNatClampNeg + ((mF zm 33 (p0).toNatClampNeg).toInt - 1).toNat) := fun h1 => by
      have h9 := (s3 ((xyv zx (p0).toNatClampNeg 0).toInt - 1).toNat (by omega)).1
      rw [h9, ← s1]
    have oth : ∀ j : Nat, j < 5 → j ≠ (p0).toNatClampNeg → ∀ k : Nat, (k : Int) < (xyv zx j 0).toInt → 40 * j + k ≠ 40 * (p0).toNatClampNeg + (mF zm 33 (p0).toNatClampNeg).toNatClampNeg ∨ 40 ≤ (mF zm 33 (p0).toNatClampNeg).toInt := fun j hj hne k hk => by
      have hj2 := hI.2.2.2.2.2.2.2.2.2.2.2.2 j hj
      have c9 := i_clamp0 (x := mF zm 33 (p0).toNatClampNeg) (by omega)
      omega
    have same : (gv 0 = xyv zx (p0).toNatClampNeg 0 ∧ gf 5 = xyf zx (p0).toNatClampNeg 5 ∧ gf 6 = xyf zx (p0).toNatClampNeg 6) → (mF zm' 33 = mF zm 33 ∧ mF zm' 34 = mF zm 34 ∧ mF zm' 35 = mF zm 35) → TV zx' zm' := fun a b => by
      intro j hj
      rw [eyv, eyf, b.1, b.2.1, b.2.2, kmf27, kmf32]
      by_cases e : j = (p0).toNatClampNeg
      · subst e
        rw [up_at, up_at]
        unfold SV
        rw [a.1, gv1, gv2, gv3, gf1, gf2, gf4, a.2.1, a.2.2]
        exact h5 _ hp
      · rw [up_ne e, up_ne e]; exact h5 j hj
    rcases hpm with ⟨⟨⟨d1, d2, d3, d4, d5⟩, d6, d7, d8, d9⟩, u55, u56, u57⟩ | ⟨nd, u⟩
    · have e2 := (r3 (by omega)).1
      have ee2 := congrArg Int32.toInt e2
      have hm1 : (1 : Int32).toInt = 1 := by decide
      rcases hpx with ⟨_, c, c2⟩ | ⟨_, c, c2⟩ | ⟨_, c, c2⟩ | ⟨c, c1, c2, c3, _, c4, c5, c6⟩
      · exfalso
        rcases c with c | c
        · exact c ⟨by omega, by omega, by omega, by omega⟩
        · refine c (fun _ => ⟨by omega, ?_⟩)
          by_cases z : (xyv zx (p0).toNatClampNeg 0).toInt = 0
          · exact Or.inl z
          · right
            have h9 := congrArg Int32.toInt (last (by omega))
            rcases d8 with d8 | d8
            · omega
            · omega
      · exfalso; omega
      · exfalso; omega
      · have g4 := r4 c1
        have e0 : gv 0 = mF zm 33 (p0).toNatClampNeg + 1 := i_eq.mpr (by rw [i_add (by omega) (by omega), hm1]; omega)
        have cN := i_clamp0 (x := mF zm 33 (p0).toNatClampNeg) (by omega)
        have hN : (mF zm 33 (p0).toNatClampNeg).toNatClampNeg = (xyv zx (p0).toNatClampNeg 0).toNatClampNeg := by rw [s1]
        intro j hj
        rw [eyv, eyf, u55, u56, u57, kmf27, kmf32]
        by_cases e : j = (p0).toNatClampNeg
        · subst e
          rw [up_at, up_at]
          unfold SV
          rw [gv1, gv2, gv3, gf1, gf2, gf4, c5, c6, hN]
          refine ⟨by rw [e0, uq_at], fun _ => by omega, fun k hk => ?_, s4, s5⟩
          by_cases q : k = (xyv zx (p0).toNatClampNeg 0).toNatClampNeg
          · subst q
            have hd : (p1 - xyv zx (p0).toNatClampNeg 2).toInt = p1.toInt - (xyv zx (p0).toNatClampNeg 2).toInt := i_sub (by omega) (by omega)
            rw [uq_at, uq_at]
            refine ⟨rfl, by omega, fun i hi => ?_⟩
            rcases (show i = 0 ∨ i = 1 ∨ i = 2 by omega) with z | z | z <;> subst z
            · rw [uq_ne (by omega), uq_ne (by omega), uq_at, uq_ne (by omega), uq_ne (by omega), Nat.add_zero, uq_at]; exact ⟨rfl, d3⟩
            · rw [uq_ne (by omega), uq_at, uq_ne (by omega), uq_at]; exact ⟨rfl, d4⟩
            · rw [uq_at, uq_at]; exact ⟨rfl, d5⟩
          · have h9 := s3 k (by omega)
            rw [uq_ne q, uq_ne (by omega)]
            refine ⟨h9.1, h9.2.1, fun i hi => ?_⟩
            have h8 := h9.2.2 i hi
            rw [uq_ne (by omega), uq_ne (by omega), uq_ne (by omega), uq_ne (by omega), uq_ne (by omega), uq_ne (by omega)]
            exact h8
        · rw [up_ne e, up_ne e]
          obtain ⟨v1, v2, v3, v4, v5⟩ := h5 j hj
          have hj2 := hI.2.2.2.2.2.2.2.2.2.2.2.2 j hj
          refine ⟨by rw [uq_ne e]; exact v1, v2, fun k hk => ?_, v4, v5⟩
          have h9 := v3 k hk
          have ne := (oth j hj e k hk).resolve_right (by omega)
          rw [uq_ne ne]
          refine ⟨h9.1, h9.2.1, fun i hi => ?_⟩
          have h8 := h9.2.2 i hi
          rw [uq_ne (by omega), uq_ne (by omega), uq_ne (by omega)]
          exact h8
    · rcases hpx with ⟨_, c, c2⟩ | ⟨_, c, c2⟩ | ⟨_, c, c2⟩ | ⟨c, c1, c2, c3, _, c4, c5, c6⟩
      · exact same c2 u
      · exact same c2 u
      · exact same c2 u
      · exfalso
        have e2 := (r3 (by omega)).1
        have ee2 := congrArg Int32.toInt e2
        obtain ⟨f1, f2⟩ := c2 (by omega)
        refine nd ⟨⟨hcx, by omega, c.2.1, c.2.2.1, c.2.2.2⟩, by omega, by omega, ?_, by omega⟩
        by_cases z : (mF zm 33 (p0).toNatClampNeg).toInt = 0
        · exact Or.inl z
        · right
          have h9 := congrArg Int32.toInt (last (by omega))
          rcases f2 with f2 | f2
          · omega
          · omega
  ·
    obtain ⟨hcx, hpx, kxv0, kxv1, kxv4, kxv9, kxv10, kxv13, kxv14, kxf0, kxf1, kxf2, kxf4, kxf5, kxf6, kxf7, kxf8, kxf13, kxf15, kxf12, kxf18, kxf19, kxf21, kxf22, _, _, kwf, kyv, kyf⟩ := hx
    rcases hpm with ⟨⟨⟨d1, _⟩, _⟩, _⟩ | ⟨nd, u⟩
    · exact absurd d1 hcx
    · intro j hj
      rw [kyv, kyf, u.1, u.2.1, u.2.2, kmf27, kmf32]
      exact h5 j hj
theorem ST5_sail {p0 p1 p2 p3 rx rm : Int32} {zx zx' : XS} {zm zm' : MS} (hI : XI zx) (h : TR zx zm) (h5 : TV zx zm) (hx : RX_X8_sail p0 p1 p2 p3 rx zx zx') (hm : RM_X9_sail p0 p1 p2 p3 rm zm zm') : TV zx' zm' := by
  have hI0 := hI
  have h0 := h
  obtain ⟨⟨t0, t1, t2, t3⟩, q1, q2, q3, q4, q5, q6⟩ := h
  have hb := hI.1
  have hb1 := hI.2.1
  have hr : rx = rm := AN_sail hI0 h0 hx hm
  obtain ⟨hpm, kmv1, kmv2, kmv4, kmv11, kmv12, kmf0, kmf1, kmf2, kmf3, kmf4, kmf5, kmf6, kmf7, kmf9, kmf10, kmf11, kmf12, kmf13, kmf39, kmf40, kmf17, kmf18, kmf19, kmf20, kmf21, kmf27, kmf32, kmf34, kmf35, hxk0⟩ := hm
  have m1 : (1 : Int32).toInt = 1 := by decide
  have keep : rx.toInt ≠ 1 → KPX zx zx' → TV zx' zm' := fun hr1 hk => by
    rcases hxk0 with ⟨a, b⟩ | ⟨a, b⟩
    · exfalso; rw [hr] at hr1; exact hr1 a
    · exact TV_k h5 (K5X.of hk) ⟨kmf27, kmf32, b, kmf34, kmf35⟩
  rcases hx with ⟨r, c, hk⟩ | ⟨c, c2, hk⟩ | ⟨c, c2, c3, r, hk⟩ | ⟨c, c2, c3, r, hk⟩ | ⟨c, c2, c3, c4, r, z1, z2, z3, z4, k1, hL, b1, b2, b3⟩
  · exact keep (by omega) hk
  · refine keep ?_ hk
    unfold XLK at c2
    omega
  · exact keep (by omega) hk
  · exact keep (by omega) hk
  · have hS := SAILED_of c c4.1 c4.2.1 c4.2.2 k1 hL b1 b2 b3
    have hz : (xyv zx' (p0).toNatClampNeg 0).toInt = 0 := by rw [BRD_5 b3, BRD_5 b2, BRD_5 b1]; exact LEV_5 hL
    obtain ⟨hK, hw, ⟨ga, gb, gc⟩, ho, hy1, hy2, hy3, hy4⟩ := hS
    rcases hxk0 with ⟨a, b⟩ | ⟨a, b⟩
    · have in9 : ∀ p : Int32, (0 ≤ p.toInt ∧ p.toInt ≤ 15) → XWK zx p → FITX zx p → (-700000 ≤ (ERX zx p).toInt ∧ (ERX zx p).toInt ≤ 700000) ∧ (-999 ≤ (goX (RLX zx p)).toInt ∧ (goX (RLX zx p)).toInt ≤ 999) := fun p hp hW hF => by
        have hw4 := q4 _ (cl16 hp) hW
        have hlo := loD_r hb
        refine ⟨eX_in hb hb1 q3 (hw4.1 _ (cl400 hb)) hF.2.1, goX_in (by have h9 : 2 ≤ (RLX zx p).length := hF.2.2; omega) (Nat.le_trans (rateL_len _ _ _) (by omega)) (fun i hi => ?_)⟩
        obtain ⟨v1, v2⟩ := rateL_vals _ _ (vL_mem hi)
        have v1 : vL (RLX zx p) i = _ := v1
        rw [v1]
        exact rbX_r v2
      intro j hj
      rw [kmf27, kmf32, b, kmf34, kmf35]
      by_cases e : j = (p0).toNatClampNeg
      · subst e
        refine ⟨i_eq.mpr (by rw [hz, uq_at]; rfl), fun h => absurd h (by omega), fun k hk => absurd hk (by omega), fun _ i hi => ?_, fun h => absurd h (by omega)⟩
        obtain ⟨e1, e2, e3⟩ := hy4 i hi
        rw [e1, e2]
        rcases (show i = 0 ∨ i = 1 ∨ i = 2 by omega) with z | z | z <;> subst z
        · exact in9 p1 c.2.1 c2.1 c4.1
        · exact in9 p2 c.2.2.1 c2.2.1 c4.2.1
        · exact in9 p3 c.2.2.2.1 c2.2.2 c4.2.2
      · obtain ⟨o1, o2⟩ := ho j e
        rw [o1, o2]
        unfold SV
        rw [uq_ne e]
        exact h5 j hj
    · exfalso; rw [hr] at r; exact a r
theorem ST5_back {p0 p1 p2 p3 rx rm : Int32} {zx zx' : XS} {zm zm' : MS} (hI : XI zx) (h : TR zx zm) (h5 : TV zx zm) (hx : RX_X8_back p0 p1 p2 p3 rx zx zx') (hm : RM_X9_back p0 p1 p2 p3 rm zm zm') : TV zx' zm' := by
  have hI0 := hI
  have h0 := h
  obtain ⟨⟨t0, t1, t2, t3⟩, q1, q2, q3, q4, q5, q6⟩ := h
  have hb := hI.1
  have hb1 := hI.2.1
  obtain ⟨hpm, kmv1, kmv2, kmv4, kmv11, kmv12, kmf0, kmf1, kmf2, kmf6, kmf7, kmf9, kmf10, kmf11, kmf12, kmf13, kmf26, kmf28, kmf29, kmf30, kmf31, kmf39, kmf40, kmf17, kmf18, kmf19, kmf20, kmf21, kmf33, kmf34, kmf35, hxk0⟩ := hm
  have keep : mF zm' 25 = mF zm 25 → KPX zx zx' → TV zx' zm' := fun f25 hk => by
    rcases hxk0 with ⟨a1, a2, _⟩ | ⟨_, b, d⟩
    · exfalso; rw [f25] at a2; omega
    · exact TV_k h5 (K5X.of hk) ⟨b, d, kmf33, kmf34, kmf35⟩
  rcases hx with ⟨r, c, hk⟩ | ⟨c, c2, r, hk⟩ | ⟨c, c2, c3, r, z1, z2, z3, hC, u1, u2, u3⟩
  · rcases hpm with ⟨_, d, f3, f4, f5, f8, f25, _⟩ | ⟨d, d2, _, f3, f4, f5, f8, f25, _⟩ | ⟨d, d2, f⟩
    · exact keep f25 hk
    · exact keep f25 hk
    · exact absurd d c
  · rcases hpm with ⟨_, d, f3, f4, f5, f8, f25, _⟩ | ⟨d, d2, _, f3, f4, f5, f8, f25, _⟩ | ⟨d, d2, f⟩
    · exact keep f25 hk
    · exact keep f25 hk
    · exfalso
      have hs := q5 _ (cl5 c.1)
      have e1 := congrArg Int32.toInt hs.1
      have e2 := hs.2.2.1
      have e3 := hs.2.2.2
      by_cases q : (xyv zx (p0).toNatClampNeg 1).toInt = 1
      · have g2 := congrArg Int32.toInt (e2 (by omega)).1
        have g3 := (e3 q).1
        omega
      · omega
  · have hp := cl5 c.1
    obtain ⟨r1, r2, r3, r4⟩ := q5 _ hp
    obtain ⟨s1, s2, s3, s4, s5⟩ := h5 _ hp
    have g2 := r3 (by omega)
    obtain ⟨g4, g5, g6, g7, g8⟩ := r4 c2
    have w0 := g5 0 (by decide)
    have w1 := g5 1 (by decide)
    have w2 := g5 2 (by decide)
    have hS := CAMEB_of rfl rfl rfl (s := zx) ⟨w0.1.1, w0.1.2, w0.2.1⟩ ⟨w1.1.1, w1.1.2, w1.2.1⟩ ⟨w2.1.1, w2.1.2, w2.2.1⟩ g6 g7 g8 hC u1 u2 u3
    have er1 := congrArg Int32.toInt r1
    have er2 := congrArg Int32.toInt g2.1
    obtain ⟨x10, x14, x15, x16⟩ := CMB_5 hC
    obtain ⟨x20, x24, x25, x26⟩ := UNL_5 u1
    obtain ⟨x30, x34, x35, x36⟩ := UNL_5 u2
    obtain ⟨x40, x44, x45, x46⟩ := UNL_5 u3
    rcases hpm with ⟨_, d, f⟩ | ⟨d, d2, _, f⟩ | ⟨d, d2, f3, f4, f5, f8, f25, _⟩
    · exact absurd c d
    · exfalso; omega
    · obtain ⟨hK, hw, ⟨ga, gb, gc⟩, ho, hy1, hy2, hy3, hy4, hy5⟩ := hS
      rcases hxk0 with ⟨a1, a2, u49, u54⟩ | ⟨b, _, _⟩
      · have hta := i_eq.mpr t0
        have n0 : (0 : Int32).toNatClampNeg = 0 := by decide
        have n1 : (1 : Int32).toNatClampNeg = 1 := by decide
        have n2 : (2 : Int32).toNatClampNeg = 2 := by decide
        rw [ix3 c.1 0 (by decide), ix3 c.1 1 (by decide), ix3 c.1 2 (by decide), n0, n1, n2] at u54
        have hd : (xV zx 0 - xyv zx (p0).toNatClampNeg 2).toInt = (xV zx 0).toInt - (xyv zx (p0).toNatClampNeg 2).toInt := i_sub (by omega) (by omega)
        intro j hj
        rw [u49, u54, kmf33, kmf34, kmf35]
        by_cases e : j = (p0).toNatClampNeg
        · subst e
          have e0 : xyv zx' (p0).toNatClampNeg 0 = xyv zx (p0).toNatClampNeg 0 := by rw [x40, x30, x20, x10]
          have e5 : xyf zx' (p0).toNatClampNeg 5 = xyf zx (p0).toNatClampNeg 5 := by rw [x45, x35, x25, x15]
          have e6 : xyf zx' (p0).toNatClampNeg 6 = xyf zx (p0).toNatClampNeg 6 := by rw [x46, x36, x26, x16]
          have e4 : xyf zx' (p0).toNatClampNeg 4 = upd (upd (upd (xyf zx (p0).toNatClampNeg 4) 0 p1) 1 p2) 2 p3 := by rw [x44, x34, x24, x14, n0, n1, n2]
          unfold SV
          rw [e0, e5, e6, e4, hy2, hy3, hy5.1, hy5.2.1]
          refine ⟨s1, fun _ => by omega, s3, fun _ => s4 (by omega), fun _ => ⟨by rw [uq_at, hta, g2.1], by omega, fun i hi => ?_⟩⟩
          rcases (show i = 0 ∨ i = 1 ∨ i = 2 by omega) with z | z | z <;> subst z
          · rw [uq_ne (by decide), uq_ne (by decide), uq_at, uq_ne (by omega), uq_ne (by omega), uq_at]; exact ⟨rfl, c.2.1⟩
          · rw [uq_ne (by decide), uq_at, uq_ne (by omega), uq_at]; exact ⟨rfl, c.2.2.1⟩
          · rw [uq_at, uq_at]; exact ⟨rfl, c.2.2.2⟩
        · obtain ⟨o1, o2⟩ := ho j e
          rw [o1, o2]
          obtain ⟨v1, v2, v3, v4, v5⟩ := h5 j hj
          refine ⟨v1, v2, v3, v4, fun h => ?_⟩
          obtain ⟨y1, y2, y3⟩ := v5 h
          rw [uq_ne e]
          refine ⟨y1, y2, fun i hi => ?_⟩
          rw [uq_ne (by omega), uq_ne (by omega), uq_ne (by omega)]
          exact y3 i hi
      · exfalso
        rw [f25] at b
        have h9 := congrFun b (p0).toNatClampNeg
        rw [uq_at] at h9
        have h8 := congrArg Int32.toInt h9
        have t2' : (2 : Int32).toInt = 2 := by decide
        omega
theorem AN5_told {p0 p1 p2 rx rm : Int32} {zx zx' : XS} {zm zm' : MS} (hI : XI zx) (h : TR zx zm) (hM : MI zm) (h2 : TU zx zm) (h5 : TV zx zm) (hx : RX_X8_told p0 p1 p2 rx zx zx') (hm : RM_X9_told p0 p1 p2 rm zm zm') : rx = rm := by
  have hI0 := hI
  have h0 := h
  obtain ⟨⟨t0, t1, t2, t3⟩, q1, q2, q3, q4, q5, q6⟩ := h
  have hb := hI.1
  have hb1 := hI.2.1
  obtain ⟨hpm, kmv1, kmv2, kmv4, kmv11, kmv12, kmf0, kmf1, kmf2, kmf3, kmf4, kmf5, kmf6, kmf7, kmf8, kmf9, kmf10, kmf11, kmf12, kmf13, kmf25, kmf26, kmf28, kmf29, kmf30, kmf31, kmf39, kmf40, kmf17, kmf18, kmf19, kmf20, kmf21, kmf27, kmf32, kmf33, kmf34, kmf35⟩ := hm
  rcases hx with hx | hx
  ·
    obtain ⟨hcx, hpx, kxv0, kxv1, kxv4, kxv9, kxv10, kxv13, kxv14, kxf0, kxf1, kxf2, kxf4, kxf5, kxf6, kxf7, kxf8, kxf13, kxf15, kxf12, kxf18, kxf19, kxf21, kxf22, _, _, kwf, kyv, kyf⟩ := hx
    have hp := cl5 hcx
    obtain ⟨r1, r2, r3, r4⟩ := q5 _ hp
    obtain ⟨s1, s2, s3, s4, s5⟩ := h5 _ hp
    have hsg := hI.2.2.2.2.2.2.2.2.2.2.2.2 _ hp
    have es1 := congrArg Int32.toInt s1
    rcases hpx with ⟨c, e⟩ | ⟨c, e⟩ <;> rcases hpm with ⟨d, f⟩ | ⟨d, f⟩
    · exact i_eq.mpr (by omega)
    · exfalso; omega
    · exfalso; omega
    · have hc1 := i_clamp0 c.1.1
      have st0 := s2 (by omega)
      have r3' := (r3 st0).1
      obtain ⟨k1, k2, k3⟩ := s3 (p1).toNatClampNeg (by omega)
      have hHB : (mF zm 25 (p0).toNatClampNeg).toInt = 2 → 0 < (mF zm 27 (p0).toNatClampNeg).toInt := fun h9 => by
        obtain ⟨y1, y2, y3⟩ := s5 (by rw [r1]; exact h9)
        rw [← y1]; omega
      have hz : (xV zx 14).toInt ≤ 120 := (hI.2.2.2.2.2.2.2.2.1).2
      have hw : WFc (mF zm 20) 128 (mF zm 19 1).toNatClampNeg := (hM.2.2.2.2.2.2.2.2.2.2.2.2) 1 (by decide)
      have f := f hHB
      rw [r1, r3'] at e
      rw [r3'] at k2
      have tm := fun (k : Nat) (hk : k < 3) => TM_eq (sg := mF zm 25 (p0).toNatClampNeg) (vo := xyv zx (p0).toNatClampNeg 3) (vo' := mF zm 27 (p0).toNatClampNeg) (sa := mF zm 26 (p0).toNatClampNeg) (M51 := mF zm 29) (M52 := mF zm 30) (M54 := mF zm 32) (M56 := mF zm 34) (M57 := mF zm 35) (p1 := p1) (j := (p0).toNatClampNeg) hk ⟨c.1.1, by omega⟩ k1 k2 (k3 k hk) ⟨(q6 _ hp k hk).1, (s4 st0 k hk).1⟩ ⟨(q6 _ hp k hk).2.1, (s4 st0 k hk).2⟩ (fun h9 => by
        obtain ⟨y1, y2, y3⟩ := s5 (by rw [r1]; exact h9)
        exact ⟨y1, y2, y3 k hk⟩)
      refine TLD_eq k1 (fun k hk => ⟨(tm k hk).1, WD_eq9 hk k1 (q6 _ hp k hk).2.2 (fun h9 => (s5 (by rw [r1]; exact h9)).1)⟩) ?_ e f
      exact DR_eq tm (fun k hk => (q6 _ hp k hk).2.2) (by rw [k1]) h2.2 hz hw
  ·
    obtain ⟨hcx, hpx, kxv0, kxv1, kxv4, kxv9, kxv10, kxv13, kxv14, kxf0, kxf1, kxf2, kxf4, kxf5, kxf6, kxf7, kxf8, kxf13, kxf15, kxf12, kxf18, kxf19, kxf21, kxf22, _, _, kwf, kyv, kyf⟩ := hx
    rcases hpm with ⟨d, f⟩ | ⟨d, f⟩
    · exact i_eq.mpr (by omega)
    · exact absurd d.1 hcx
