/-! ===== ships: sailing, coming back ===== -/
/-- the rates of the thirty days ahead of today -/
def RLX (s : XS) (p : Int32) : List (Int32 × Int32) := rateL (rXn (xwf s (p).toNatClampNeg 0) (xwf s (p).toNatClampNeg 1) (xwf s (p).toNatClampNeg 2) (xF s 4) (xF s 5) (xF s 6) (xF s 7) (xF s 8) (xV s 1)) (loD (xV s 0)) ((xV s 0).toInt - (loD (xV s 0)).toInt).toNat
theorem RLX_eq {s t : XS} {p : Int32} (h : KFX s t) (e0 : xwf t (p).toNatClampNeg 0 = xwf s (p).toNatClampNeg 0) (e1 : xwf t (p).toNatClampNeg 1 = xwf s (p).toNatClampNeg 1) (e2 : xwf t (p).toNatClampNeg 2 = xwf s (p).toNatClampNeg 2) : RLX t p = RLX s p := by
  obtain ⟨h1, h2, h3, h4, h5, h6, h7, h8, h9, h10, h11, h12⟩ := h
  unfold RLX
  rw [h1, h2, h8, h9, h10, h11, h12, e0, e1, e2]
/-- its error today -/
def ERX (s : XS) (p : Int32) : Int32 := eX (xwf s (p).toNatClampNeg 0) (xwf s (p).toNatClampNeg 1) (xF s 4) (xF s 5) (xF s 6) (xF s 7) (xF s 8) (xV s 1) (xV s 0) (-1)
theorem ERX_eq {s t : XS} {p : Int32} (h : KFX s t) (e0 : xwf t (p).toNatClampNeg 0 = xwf s (p).toNatClampNeg 0) (e1 : xwf t (p).toNatClampNeg 1 = xwf s (p).toNatClampNeg 1) : ERX t p = ERX s p := by
  obtain ⟨h1, h2, h3, h4, h5, h6, h7, h8, h9, h10, h11, h12⟩ := h
  unfold ERX
  rw [h1, h2, h8, h9, h10, h11, h12, e0, e1]
theorem ask3_map {a b c : Int32} {g : Int32 → Int32} : ∀ i : Nat, i < 3 → ask3 (g a) (g b) (g c) i = g (ask3 a b c i)
  | 0, _ => rfl
  | 1, _ => rfl
  | 2, _ => rfl
  | n + 3, h => by omega
/-- a place's watch goes to another holder -/
def WGV (s s' : XS) (v : Int32) (q : Nat) : Prop := xwf s' q 0 = xwf s q 0 ∧ xwf s' q 1 = xwf s q 1 ∧ xwf s' q 2 = xwf s q 2 ∧ GIV (xwf s q 3) (xwf s' q 3) (xV s 0).toInt v
def OTH (s s' : XS) (i : Nat) : Prop := ∀ j : Nat, j ≠ i → xyv s' j = xyv s j ∧ xyf s' j = xyf s j
theorem OTH.tr {s t u : XS} {i : Nat} (h : OTH s t i) (k : OTH t u i) : OTH s u i := fun j hj => ⟨(k j hj).1.trans (h j hj).1, (k j hj).2.trans (h j hj).2⟩
theorem OTH.of {s t : XS} {i : Nat} {gv : Nat → Int32} {gf : Nat → Nat → Int32} (hv : xyv t = va_up (xyv s) i gv) (hf : xyf t = va_up (xyf s) i gf) : OTH s t i := fun j hj => by rw [hv, hf, up_ne hj, up_ne hj]; exact ⟨rfl, rfl⟩
def BRD (p0 k p : Int32) (s s' : XS) : Prop := KFX s s' ∧ (∀ q : Nat, q ≠ (p).toNatClampNeg → xwf s' q = xwf s q) ∧ WGV s s' (100 + p0) (p).toNatClampNeg ∧ OTH s s' (p0).toNatClampNeg ∧ (xyv s' (p0).toNatClampNeg 1 = xyv s (p0).toNatClampNeg 1 ∧ xyv s' (p0).toNatClampNeg 2 = xyv s (p0).toNatClampNeg 2) ∧ xyf s' (p0).toNatClampNeg 0 = upd (xyf s (p0).toNatClampNeg 0) (k).toNatClampNeg p ∧ xyf s' (p0).toNatClampNeg 1 = upd (xyf s (p0).toNatClampNeg 1) (k).toNatClampNeg (ERX s p) ∧ xyf s' (p0).toNatClampNeg 2 = upd (xyf s (p0).toNatClampNeg 2) (k).toNatClampNeg (goX (RLX s p)) ∧ xyf s' (p0).toNatClampNeg 3 = upd (xyf s (p0).toNatClampNeg 3) (k).toNatClampNeg (duX (RLX s p))
theorem BRD_of {p0 k p : Int32} {s s' : XS} (h : RX_X8_board p0 k p s s') (hl : (RLX s p).length ≠ 0) : BRD p0 k p s s' := by
  have hK := KF_X8_board h
  obtain ⟨gw, gv, gf, eyv, eyf, ewf, hpx, kxv0, kxv1, kxv4, kxv9, kxv10, kxv13, kxv14, kxf0, kxf1, kxf2, kxf4, kxf5, kxf6, kxf7, kxf8, kxf13, kxf15, kxf12, kxf18, kxf19, kxf21, kxf22, _, _, gw0, gw1, gw2, gv0, gv1, gv2, gv3, gf4, gf5, gf6⟩ := h
  rcases hpx with ⟨c, _⟩ | ⟨c, e0, e3, e4, e5, e6⟩
  · exact absurd c hl
  · refine ⟨hK, fun q hq => by rw [ewf, up_ne hq], ?_, OTH.of eyv eyf, ?_, ?_, ?_, ?_, ?_⟩
    · unfold WGV
      rw [ewf, up_at]
      exact ⟨gw0, gw1, gw2, e3⟩
    · rw [eyv, up_at]
      exact ⟨gv1, gv2⟩
    · rw [eyf, up_at]
      exact e0
    · rw [eyf, up_at]
      exact e4
    · rw [eyf, up_at]
      exact e5
    · rw [eyf, up_at]
      exact e6
def SAILED (p0 a b c : Int32) (s s' : XS) : Prop := KFX s s' ∧ (∀ q : Nat, q ≠ (a).toNatClampNeg → q ≠ (b).toNatClampNeg → q ≠ (c).toNatClampNeg → xwf s' q = xwf s q) ∧ (WGV s s' (100 + p0) (a).toNatClampNeg ∧ WGV s s' (100 + p0) (b).toNatClampNeg ∧ WGV s s' (100 + p0) (c).toNatClampNeg) ∧ OTH s s' (p0).toNatClampNeg ∧ (xyv s' (p0).toNatClampNeg 1).toInt = 1 ∧ xyv s' (p0).toNatClampNeg 2 = xV s 0 ∧ (∀ i : Nat, i < 3 → xyf s' (p0).toNatClampNeg 0 i = ask3 a b c i) ∧ (∀ i : Nat, i < 3 → xyf s' (p0).toNatClampNeg 1 i = ERX s (ask3 a b c i) ∧ xyf s' (p0).toNatClampNeg 2 i = goX (RLX s (ask3 a b c i)) ∧ xyf s' (p0).toNatClampNeg 3 i = duX (RLX s (ask3 a b c i)))
theorem ne_cl {a b : Int32} (ha : 0 ≤ a.toInt) (hb : 0 ≤ b.toInt) (h : a.toInt ≠ b.toInt) : (a).toNatClampNeg ≠ (b).toNatClampNeg := by
  have h1 := i_clamp0 ha
  have h2 := i_clamp0 hb
  omega
theorem WGV_l {s t u : XS} {v : Int32} {q : Nat} (h : WGV t u v q) (e : xwf t q = xwf s q) (hV : xV t 0 = xV s 0) : WGV s u v q := by
  unfold WGV at h ⊢
  rw [e, hV] at h
  exact h
theorem WGV_r {s t u : XS} {v : Int32} {q : Nat} (h : WGV s t v q) (e : xwf u q = xwf t q) : WGV s u v q := by
  unfold WGV at h ⊢
  rw [e]
  exact h
theorem SAILED_of {p0 a b c : Int32} {s z1 z2 z3 z4 s' : XS} (hB : XSB p0 a b c) (fa : FITX s a) (fb : FITX s b) (fc : FITX s c) (k1 : KPX s z1) (hL : RX_X5_leave (p0).toNatClampNeg (xV z1 0) z1 z2) (b1 : RX_X8_board p0 0 a z2 z3) (b2 : RX_X8_board p0 1 b z3 z4) (b3 : RX_X8_board p0 2 c z4 s') : SAILED p0 a b c s s' := by
  obtain ⟨h0, ha, hb, hc, nab, nac, nbc⟩ := hB
  have ab := ne_cl ha.1 hb.1 nab
  have ac := ne_cl ha.1 hc.1 nac
  have bc := ne_cl hb.1 hc.1 nbc
  obtain ⟨w1, v1, f1⟩ := KPX_w k1
  have K1 := KFX.of k1
  have K2 := K1.tr (KF_X5_leave hL)
  obtain ⟨gv, gf, eyv, eyf, hpx, kxv0, kxv1, kxv4, kxv9, kxv10, kxv13, kxv14, kxf0, kxf1, kxf2, kxf4, kxf5, kxf6, kxf7, kxf8, kxf13, kxf15, kxf12, kxf18, kxf19, kxf21, kxf22, _, _, kwf, gv3, gf0, gf1, gf2, gf3, gf4, gf5, gf6⟩ := hL
  have w2 : xwf z2 = xwf s := by rw [kwf, w1]
  have O2 : OTH s z2 (p0).toNatClampNeg := fun j hj => by rw [eyv, eyf, up_ne hj, up_ne hj, v1, f1]; exact ⟨rfl, rfl⟩
  have y1 : (xyv z2 (p0).toNatClampNeg 1).toInt = 1 := by rw [eyv, up_at]; exact hpx.1
  have y2 : xyv z2 (p0).toNatClampNeg 2 = xV s 0 := by rw [eyv, up_at, hpx.2.1]; exact K1.1
  have r1 : (RLX z2 a).length ≠ 0 := by rw [RLX_eq K2 (by rw [w2]) (by rw [w2]) (by rw [w2])]; have := fa.2.2; unfold RLX; omega
  obtain ⟨c1, d1, g1, o1, ⟨u1, u2⟩, p1, pe1, pg1, pd1⟩ := BRD_of b1 r1
  have K3 := K2.tr c1
  have e3b : xwf z3 (b).toNatClampNeg = xwf s (b).toNatClampNeg := by rw [d1 _ ab.symm, w2]
  have r2 : (RLX z3 b).length ≠ 0 := by rw [RLX_eq K3 (by rw [e3b]) (by rw [e3b]) (by rw [e3b])]; have := fb.2.2; unfold RLX; omega
  obtain ⟨c2, d2, g2, o2, ⟨u3, u4⟩, p2, pe2, pg2, pd2⟩ := BRD_of b2 r2
  have K4 := K3.tr c2
  have e4c : xwf z4 (c).toNatClampNeg = xwf s (c).toNatClampNeg := by rw [d2 _ bc.symm, d1 _ ac.symm, w2]
  have r3 : (RLX z4 c).length ≠ 0 := by rw [RLX_eq K4 (by rw [e4c]) (by rw [e4c]) (by rw [e4c])]; have := fc.2.2; unfold RLX; omega
  obtain ⟨c3, d3, g3, o3, ⟨u5, u6⟩, p3, pe3, pg3, pd3⟩ := BRD_of b3 r3
  have K5 := K4.tr c3
  refine ⟨K5, fun q hqa hqb hqc => by rw [d3 q hqc, d2 q hqb, d1 q hqa, w2], ⟨?_, ?_, ?_⟩, ((O2.tr o1).tr o2).tr o3, by rw [u5, u3, u1]; exact y1, by rw [u6, u4, u2]; exact y2, ?_, ?_⟩
  · exact WGV_r (WGV_r (WGV_l g1 (by rw [w2]) K2.1) (d2 _ ab)) (d3 _ ac)
  · exact WGV_r (WGV_l g2 e3b K3.1) (d3 _ bc)
  · exact WGV_l g3 e4c K4.1
  · intro i hi
    rw [p3, p2, p1]
    exact ask_u i hi
  · intro i hi
    have x2 : ERX z2 a = ERX s a ∧ RLX z2 a = RLX s a := ⟨ERX_eq K2 (by rw [w2]) (by rw [w2]), RLX_eq K2 (by rw [w2]) (by rw [w2]) (by rw [w2])⟩
    have x3 : ERX z3 b = ERX s b ∧ RLX z3 b = RLX s b := ⟨ERX_eq K3 (by rw [e3b]) (by rw [e3b]), RLX_eq K3 (by rw [e3b]) (by rw [e3b]) (by rw [e3b])⟩
    have x4 : ERX z4 c = ERX s c ∧ RLX z4 c = RLX s c := ⟨ERX_eq K4 (by rw [e4c]) (by rw [e4c]), RLX_eq K4 (by rw [e4c]) (by rw [e4c]) (by rw [e4c])⟩
    refine ⟨?_, ?_, ?_⟩
    · rw [pe3, pe2, pe1, ask_u i hi, x2.1, x3.1, x4.1]
      exact ask3_map (g := ERX s) i hi
    · rw [pg3, pg2, pg1, ask_u i hi, x2.2, x3.2, x4.2]
      exact ask3_map (g := fun p => goX (RLX s p)) i hi
    · rw [pd3, pd2, pd1, ask_u i hi, x2.2, x3.2, x4.2]
      exact ask3_map (g := fun p => duX (RLX s p)) i hi
def UNL (j : Nat) (e x : Int32) (s s' : XS) : Prop := KFX s s' ∧ (∀ q : Nat, q ≠ (x).toNatClampNeg → xwf s' q = xwf s q) ∧ (xwf s' (x).toNatClampNeg 0 = upd (xwf s (x).toNatClampNeg 0) (xV s 0).toNatClampNeg e ∧ xwf s' (x).toNatClampNeg 1 = upd (xwf s (x).toNatClampNeg 1) (xV s 0).toNatClampNeg 0 ∧ xwf s' (x).toNatClampNeg 2 = xwf s (x).toNatClampNeg 2 ∧ GIV (xwf s (x).toNatClampNeg 3) (xwf s' (x).toNatClampNeg 3) (xV s 0).toInt (-1)) ∧ OTH s s' j ∧ (xyv s' j 1 = xyv s j 1 ∧ xyv s' j 2 = xyv s j 2 ∧ xyv s' j 3 = xyv s j 3) ∧ xyf s' j 0 = xyf s j 0 ∧ (xyf s' j 1 = xyf s j 1 ∧ xyf s' j 2 = xyf s j 2 ∧ xyf s' j 3 = xyf s j 3)
theorem UNL_of {j : Nat} {k e x : Int32} {s s' : XS} (h : RX_X8_unload j k e s s') (hx : xyf s j 0 (k).toNatClampNeg = x) (hw : 0 ≤ x.toInt ∧ x.toInt ≤ 15 ∧ ((xF s 1 (x).toNatClampNeg).toInt = 0 ∨ (xF s 1 (x).toNatClampNeg).toInt = 1)) : UNL j e x s s' := by
  have hK := KF_X8_unload h
  subst hx
  rcases h with h | h
  · obtain ⟨gw, gv, gf, eyv, eyf, ewf, hcx, hpx, hxk0, kxv0, kxv1, kxv4, kxv9, kxv10, kxv13, kxv14, kxf0, kxf1, kxf2, kxf4, kxf5, kxf6, kxf7, kxf8, kxf13, kxf15, kxf12, kxf18, kxf19, kxf21, kxf22, _, _, gw2, gv0, gv1, gv2, gv3, gf0, gf1, gf2, gf3, gf5, gf6⟩ := h
    refine ⟨hK, fun q hq => by rw [ewf, up_ne hq], ?_, OTH.of eyv eyf, ?_, ?_, ?_⟩
    · rw [ewf, up_at]
      exact ⟨hpx.1, hpx.2.1, gw2, hpx.2.2⟩
    · rw [eyv, up_at]
      exact ⟨gv1, gv2, gv3⟩
    · rw [eyf, up_at]
      exact gf0
    · rw [eyf, up_at]
      exact ⟨gf1, gf2, gf3⟩
  · obtain ⟨gv, gf, eyv, eyf, hcx, hpx, kxv0, kxv1, kxv4, kxv9, kxv10, kxv13, kxv14, kxf0, kxf1, kxf2, kxf4, kxf5, kxf6, kxf7, kxf8, kxf13, kxf15, kxf12, kxf18, kxf19, kxf21, kxf22, _, _, kwf, gv0, gv1, gv2, gv3, gf0, gf1, gf2, gf3, gf5, gf6⟩ := h
    exact absurd hw hcx
/-- one that is back: told, and the office's -/
def WBK (s s' : XS) (e : Int32) (q : Nat) : Prop := xwf s' q 0 = upd (xwf s q 0) (xV s 0).toNatClampNeg e ∧ xwf s' q 1 = upd (xwf s q 1) (xV s 0).toNatClampNeg 0 ∧ xwf s' q 2 = xwf s q 2 ∧ GIV (xwf s q 3) (xwf s' q 3) (xV s 0).toInt (-1)
theorem WBK_l {s t u : XS} {v : Int32} {q : Nat} (h : WBK t u v q) (e : xwf t q = xwf s q) (hV : xV t 0 = xV s 0) : WBK s u v q := by
  unfold WBK at h ⊢
  rw [e, hV] at h
  exact h
theorem WBK_r {s t u : XS} {v : Int32} {q : Nat} (h : WBK s t v q) (e : xwf u q = xwf t q) : WBK s u v q := by
  unfold WBK at h ⊢
  rw [e]
  exact h
def CAMEB (j : Nat) (a b c x y z : Int32) (s s' : XS) : Prop := KFX s s' ∧ (∀ q : Nat, q ≠ (x).toNatClampNeg → q ≠ (y).toNatClampNeg → q ≠ (z).toNatClampNeg → xwf s' q = xwf s q) ∧ (WBK s s' a (x).toNatClampNeg ∧ WBK s s' b (y).toNatClampNeg ∧ WBK s s' c (z).toNatClampNeg) ∧ OTH s s' j ∧ (xyv s' j 1).toInt = 2 ∧ xyv s' j 2 = xyv s j 2 ∧ xyv s' j 3 = xV s 0 - xyv s j 2 ∧ xyf s' j 0 = xyf s j 0 ∧ (xyf s' j 1 = xyf s j 1 ∧ xyf s' j 2 = xyf s j 2 ∧ xyf s' j 3 = xyf s j 3)
def PLW (s : XS) (x : Int32) : Prop := 0 ≤ x.toInt ∧ x.toInt ≤ 15 ∧ ((xF s 1 (x).toNatClampNeg).toInt = 0 ∨ (xF s 1 (x).toNatClampNeg).toInt = 1)
theorem PLW_kf {s t : XS} {x : Int32} (h : PLW s x) (k : KFX s t) : PLW t x := by
  unfold PLW at h ⊢
  rw [k.2.2.2.2.2.1]
  exact h
theorem CAMEB_of {j : Nat} {a b c x y z : Int32} {s z1 z2 z3 s' : XS} (hx : xyf s j 0 0 = x) (hy : xyf s j 0 1 = y) (hz : xyf s j 0 2 = z) (wx : PLW s x) (wy : PLW s y) (wz : PLW s z) (nxy : x.toInt ≠ y.toInt) (nxz : x.toInt ≠ z.toInt) (nyz : y.toInt ≠ z.toInt) (hC : RX_X5_comeBack j (xV s 0) s z1) (u1 : RX_X8_unload j 0 a z1 z2) (u2 : RX_X8_unload j 1 b z2 z3) (u3 : RX_X8_unload j 2 c z3 s') : CAMEB j a b c x y z s s' := by
  have xy := ne_cl wx.1 wy.1 nxy
  have xz := ne_cl wx.1 wz.1 nxz
  have yz := ne_cl wy.1 wz.1 nyz
  have n0 : (0 : Int32).toNatClampNeg = 0 := by decide
  have n1 : (1 : Int32).toNatClampNeg = 1 := by decide
  have n2 : (2 : Int32).toNatClampNeg = 2 := by decide
  have K1 := KF_X5_comeBack hC
  obtain ⟨gv, gf, eyv, eyf, hpx, kxv0, kxv1, kxv4, kxv9, kxv10, kxv13, kxv14, kxf0, kxf1, kxf2, kxf4, kxf5, kxf6, kxf7, kxf8, kxf13, kxf15, kxf12, kxf18, kxf19, kxf21, kxf22, _, _, kwf, gv0, gv2, gf0, gf1, gf2, gf3, gf4, gf5, gf6⟩ := hC
  have O1 : OTH s z1 j := OTH.of eyv eyf
  have y1 : (xyv z1 j 1).toInt = 2 := by rw [eyv, up_at]; exact hpx.1
  have y2 : xyv z1 j 2 = xyv s j 2 := by rw [eyv, up_at]; exact gv2
  have y3 : xyv z1 j 3 = xV s 0 - xyv s j 2 := by rw [eyv, up_at]; exact hpx.2
  have f1 : xyf z1 j 0 = xyf s j 0 := by rw [eyf, up_at]; exact gf0
  have h1 : xyf z1 j 1 = xyf s j 1 ∧ xyf z1 j 2 = xyf s j 2 ∧ xyf z1 j 3 = xyf s j 3 := by rw [eyf, up_at]; exact ⟨gf1, gf2, gf3⟩
  obtain ⟨k2, d2, g2, o2, ⟨v21, v22, v23⟩, f2, h2⟩ := UNL_of u1 (x := x) (by rw [f1, n0]; exact hx) (PLW_kf wx K1)
  have K2 := K1.tr k2
  obtain ⟨k3, d3, g3, o3, ⟨v31, v32, v33⟩, f3, h3⟩ := UNL_of u2 (x := y) (by rw [f2, f1, n1]; exact hy) (PLW_kf wy K2)
  have K3 := K2.tr k3
  obtain ⟨k4, d4, g4, o4, ⟨v41, v42, v43⟩, f4, h4⟩ := UNL_of u3 (x := z) (by rw [f3, f2, f1, n2]; exact hz) (PLW_kf wz K3)
  have K4 := K3.tr k4
  refine ⟨K4, fun q q1 q2 q3 => by rw [d4 q q3, d3 q q2, d2 q q1, kwf], ⟨?_, ?_, ?_⟩, ((O1.tr o2).tr o3).tr o4, by rw [v41, v31, v21]; exact y1, by rw [v42, v32, v22]; exact y2, by rw [v43, v33, v23]; exact y3, by rw [f4, f3, f2, f1], by rw [h4.1, h3.1, h2.1, h1.1], by rw [h4.2.1, h3.2.1, h2.2.1, h1.2.1], by rw [h4.2.2, h3.2.2, h2.2.2, h1.2.2]⟩
  · exact WBK_r (WBK_r (WBK_l (s := s) g2 (by rw [kwf]) K1.1) (d3 _ xy)) (d4 _ xz)
  · exact WBK_r (WBK_l (s := s) g3 (by rw [d2 _ xy.symm, kwf]) K2.1) (d4 _ yz)
  · exact WBK_l (s := s) g4 (by rw [d3 _ yz.symm, d2 _ xz.symm, kwf]) K3.1
theorem kd_W {X1 X2 M1 M2 : Nat → Int32} {p : Int32} (h : KK1 X1 X2 M1 M2) (hp : 0 ≤ p.toInt ∧ p.toInt ≤ 15) : ((X1 (p).toNatClampNeg).toInt = 0 ∨ (X1 (p).toNatClampNeg).toInt = 1) ↔ ((M1 (p).toNatClampNeg).toInt ≠ -5 ∧ (M1 (p).toNatClampNeg).toInt ≠ 2) := by
  have h1 := h _ (cl16 hp)
  have h2 := congrArg Int32.toInt h1.1
  have h3 := h1.2.1
  omega
theorem loD_r {t : Int32} (h : 0 ≤ t.toInt ∧ t.toInt ≤ 399) : 0 ≤ (loD t).toInt ∧ (loD t).toInt ≤ t.toInt ∧ t.toInt - (loD t).toInt ≤ 30 := by
  unfold loD
  split
  · have h0 : (0 : Int32).toInt = 0 := by decide
    omega
  · have h3 : (30 : Int32).toInt = 30 := by decide
    rw [g_sub rfl h3 (by omega) (by omega)]
    omega
theorem FIT_may {zx : XS} {zm : MS} {p : Int32} (hI : XI zx) (t0 : (xV zx 0).toInt = (mV zm 1).toInt) (t1 : (xV zx 1).toInt = (mV zm 2).toInt) (q3 : KK3 (xV zx 1) (xF zx 4) (xF zx 5) (xF zx 6) (xF zx 7) (xF zx 8) (mF zm 9) (mF zm 10) (mF zm 11) (mF zm 12) (mF zm 13)) (q4 : KK4 (xV zx 0) (xF zx 1) (xwf zx) (mF zm 3) (mF zm 4) (mF zm 5) (mF zm 6) (mF zm 7) (mF zm 8)) (hp : 0 ≤ p.toInt ∧ p.toInt ≤ 15) (hw : XWK zx p) :
    FITX zx p ↔ (((mF zm 8) (400 * p + (mV zm 1)).toNatClampNeg).toInt = -1 ∧ ((mF zm 3) (400 * p + (mV zm 1)).toNatClampNeg).toInt ≠ 0 ∧ (mV zm 1).toInt ≠ 0 ∧ 2 ≤ cntF (fun d => ratF (mF zm 3) (mF zm 4) (mF zm 5) (mF zm 6) (mF zm 7) (mF zm 9) (mF zm 10) (mF zm 11) (mF zm 12) (mF zm 13) (mV zm 2) p d (-1)) (loD (mV zm 1)) ((mV zm 1).toInt - (loD (mV zm 1)).toInt).toNat) := by
  have hb := hI.1
  have hb1 := hI.2.1
  have hta := i_eq.mpr t0
  rw [← hta]
  unfold FITX
  have hw4 := q4 _ (cl16 hp) hw
  have hct := i_clamp0 hb.1
  rw [ix400 hp hb]
  have hh := congrArg Int32.toInt (hw4.2.1 (xV zx 0).toNatClampNeg (by omega) (by omega))
  have hd := (hw4.1 (xV zx 0).toNatClampNeg (by omega)).1
  have hlo := loD_r hb
  have hm1 : (-1 : Int32).toInt = -1 := by decide
  have hl := rateL_cnt (A := rXn (xwf zx (p).toNatClampNeg 0) (xwf zx (p).toNatClampNeg 1) (xwf zx (p).toNatClampNeg 2) (xF zx 4) (xF zx 5) (xF zx 6) (xF zx 7) (xF zx 8) (xV zx 1)) (B := fun d => ratF (mF zm 3) (mF zm 4) (mF zm 5) (mF zm 6) (mF zm 7) (mF zm 9) (mF zm 10) (mF zm 11) (mF zm 12) (mF zm 13) (mV zm 2) p d (-1)) (p := loD (xV zx 0)) ((xV zx 0).toInt - (loD (xV zx 0)).toInt).toNat (fun j hj => by
    have hd2 := pnI (p := loD (xV zx 0)) (j := j) (n := 399) hlo.1 (by omega) (by omega)
    exact rX_rat hp (d := loD (xV zx 0) + nI j) (by omega) (by omega) t1 hb1 q3 hw4.1)
  have hz : (xV zx 0).toInt = 0 → ((rateL (rXn (xwf zx (p).toNatClampNeg 0) (xwf zx (p).toNatClampNeg 1) (xwf zx (p).toNatClampNeg 2) (xF zx 4) (xF zx 5) (xF zx 6) (xF zx 7) (xF zx 8) (xV zx 1)) (loD (xV zx 0)) ((xV zx 0).toInt - (loD (xV zx 0)).toInt).toNat).length = 0) := fun h0 => by
    rw [show ((xV zx 0).toInt - (loD (xV zx 0)).toInt).toNat = 0 by omega]
    rfl
  generalize (rateL (rXn (xwf zx (p).toNatClampNeg 0) (xwf zx (p).toNatClampNeg 1) (xwf zx (p).toNatClampNeg 2) (xF zx 4) (xF zx 5) (xF zx 6) (xF zx 7) (xF zx 8) (xV zx 1)) (loD (xV zx 0)) ((xV zx 0).toInt - (loD (xV zx 0)).toInt).toNat).length = len at hl hz ⊢
  rw [← hl]
  constructor
  · intro h
    refine ⟨by omega, ?_, fun h0 => by have := hz h0; omega, by omega⟩
    rcases hd with g | g
    · omega
    · exact g.1
  · intro h
    refine ⟨by omega, ?_, by omega⟩
    rcases hd with g | g
    · omega
    · omega
theorem u3v {f : Nat → Int32} {i j k n : Nat} {v : Int32} (h : n = i ∨ n = j ∨ n = k) : upd (upd (upd f i v) j v) k v n = v := by
  by_cases e : n = k
  · rw [e, u_at]
  · rw [u_ne e]
    by_cases e2 : n = j
    · rw [e2, u_at]
    · rw [u_ne e2, show n = i by omega, u_at]
theorem u3n {f : Nat → Int32} {i j k n : Nat} {u v w : Int32} (h1 : n ≠ i) (h2 : n ≠ j) (h3 : n ≠ k) : upd (upd (upd f i u) j v) k w n = f n := by rw [u_ne h3, u_ne h2, u_ne h1]
theorem u3_0 {f : Nat → Int32} {i j k : Nat} {u v w : Int32} (h2 : i ≠ j) (h3 : i ≠ k) : upd (upd (upd f i u) j v) k w i = u := by rw [u_ne h3, u_ne h2, u_at]
theorem u3_1 {f : Nat → Int32} {i j k : Nat} {u v w : Int32} (h3 : j ≠ k) : upd (upd (upd f i u) j v) k w j = v := by rw [u_ne h3, u_at]
theorem u3_2 {f : Nat → Int32} {i j k : Nat} {u v w : Int32} : upd (upd (upd f i u) j v) k w k = w := u_at
theorem WD3 {g h : Nat → Nat → Int32} {M3 M4 M5 M6 M7 : Nat → Int32} {p d : Nat} (hw : WD h M3 M4 M5 M6 M7 p d) (e0 : g 0 = h 0) (e1 : g 1 = h 1) (e2 : g 2 = h 2) : WD g M3 M4 M5 M6 M7 p d := by
  unfold WD at hw ⊢
  rw [e0, e1, e2]
  exact hw
theorem KK4_3 {t : Int32} {X1 : Nat → Int32} {wf wf' : Nat → Nat → Nat → Int32} {M3 M4 M5 M6 M7 M8 N3 N4 N5 N8 : Nat → Int32} {A B C : Nat} (h : KK4 t X1 wf M3 M4 M5 M6 M7 M8) (hw : ∀ q : Nat, q ≠ A → q ≠ B → q ≠ C → wf' q = wf q)
    (hs : ∀ q d : Nat, q ≠ A → q ≠ B → q ≠ C → d < 400 → N3 (400 * q + d) = M3 (400 * q + d) ∧ N4 (400 * q + d) = M4 (400 * q + d) ∧ N5 (400 * q + d) = M5 (400 * q + d) ∧ N8 (400 * q + d) = M8 (400 * q + d))
    (hn : ∀ q : Nat, q = A ∨ q = B ∨ q = C → q < 16 → isW (X1 q) → (∀ d : Nat, d < 400 → WD (wf' q) N3 N4 N5 M6 M7 q d) ∧ WHd (wf' q) N8 t.toInt q) : KK4 t X1 wf' N3 N4 N5 M6 M7 N8 := fun q hq hk => by
  by_cases e : q = A ∨ q = B ∨ q = C
  · exact hn q e hq hk
  · rw [hw q (by omega) (by omega) (by omega)]
    obtain ⟨a1, a2, a3⟩ := h q hq hk
    refine ⟨fun d hd => ?_, fun d hd1 hd2 => ?_, a3⟩
    · obtain ⟨b3, b4, b5, b8⟩ := hs q d (by omega) (by omega) (by omega) hd
      exact WD_eq (a1 d hd) b3 b4 b5 rfl rfl
    · rw [(hs q d (by omega) (by omega) (by omega) hd2).2.2.2]
      exact a2 d hd1 hd2
theorem KK4_sail {zx zx' : XS} {p0 a b c : Int32} {M3 M4 M5 M6 M7 M8 : Nat → Int32} (h : KK4 (xV zx 0) (xF zx 1) (xwf zx) M3 M4 M5 M6 M7 M8) (hb : 0 ≤ (xV zx 0).toInt ∧ (xV zx 0).toInt ≤ 399) (hc : XSB p0 a b c) (hw : ∀ q : Nat, q ≠ (a).toNatClampNeg → q ≠ (b).toNatClampNeg → q ≠ (c).toNatClampNeg → xwf zx' q = xwf zx q) (ga : WGV zx zx' (100 + p0) (a).toNatClampNeg) (gb : WGV zx zx' (100 + p0) (b).toNatClampNeg) (gc : WGV zx zx' (100 + p0) (c).toNatClampNeg) :
    KK4 (xV zx 0) (xF zx 1) (xwf zx') M3 M4 M5 M6 M7 (hseq M8 (ask3 a b c) (xV zx 0) (100 + p0) 3) := by
  obtain ⟨h0, ha, hbb, hcc, nab, nac, nbc⟩ := hc
  have ct := i_clamp0 hb.1
  have e : hseq M8 (ask3 a b c) (xV zx 0) (100 + p0) 3 = upd (upd (upd M8 (400 * (a).toNatClampNeg + (xV zx 0).toNatClampNeg) (100 + p0)) (400 * (b).toNatClampNeg + (xV zx 0).toNatClampNeg) (100 + p0)) (400 * (c).toNatClampNeg + (xV zx 0).toNatClampNeg) (100 + p0) := by
    rw [← ix400 ha hb, ← ix400 hbb hb, ← ix400 hcc hb]
    rfl
  rw [e]
  refine KK4_3 h hw (fun q d h1 h2 h3 hd => ⟨rfl, rfl, rfl, u3n (by omega) (by omega) (by omega)⟩) (fun q hq h16 hk => ?_)
  have hg : WGV zx zx' (100 + p0) q := by
    rcases hq with e | e | e
    · rw [e]; exact ga
    · rw [e]; exact gb
    · rw [e]; exact gc
  obtain ⟨e0, e1, e2, e3⟩ := hg
  obtain ⟨a1, a2⟩ := h q h16 hk
  refine ⟨fun d hd => WD3 (a1 d hd) e0 e1 e2, WH_give hb a2 e3 ?_ (fun d hd hne => ?_)⟩
  · rw [show (xV zx 0).toInt.toNat = (xV zx 0).toNatClampNeg from rfl]
    exact u3v (by omega)
  · rw [show (xV zx 0).toInt.toNat = (xV zx 0).toNatClampNeg from rfl] at hne
    exact u3n (by omega) (by omega) (by omega)
theorem SP_o {t : Int} {X1 : Nat → Int32} {wf wf' : Nat → Nat → Nat → Int32} {j : Nat} {x : Int32} (h : SP t X1 wf j x) (e : wf' (x).toNatClampNeg = wf (x).toNatClampNeg) : SP t X1 wf' j x := by
  obtain ⟨a1, a2, a3⟩ := h
  exact ⟨a1, a2, by rw [e]; exact a3⟩
theorem KK5_sail {zx zx' : XS} {p0 a b c : Int32} {M25 M26 M28 : Nat → Int32} (h : KK5 (xV zx 0) (xF zx 1) (xwf zx) (xyv zx) (xyf zx) M25 M26 M28) (hb : 0 ≤ (xV zx 0).toInt ∧ (xV zx 0).toInt ≤ 399) (hc : XSB p0 a b c) (wa : XWK zx a) (wb : XWK zx b) (wc : XWK zx c) (fa : ((xwf zx (a).toNatClampNeg 3) ((xV zx 0)).toNatClampNeg).toInt = -1) (fb : ((xwf zx (b).toNatClampNeg 3) ((xV zx 0)).toNatClampNeg).toInt = -1) (fc : ((xwf zx (c).toNatClampNeg 3) ((xV zx 0)).toNatClampNeg).toInt = -1)
    (hw : ∀ q : Nat, q ≠ (a).toNatClampNeg → q ≠ (b).toNatClampNeg → q ≠ (c).toNatClampNeg → xwf zx' q = xwf zx q) (ga : WGV zx zx' (100 + p0) (a).toNatClampNeg) (gb : WGV zx zx' (100 + p0) (b).toNatClampNeg) (gc : WGV zx zx' (100 + p0) (c).toNatClampNeg) (ho : OTH zx zx' (p0).toNatClampNeg) (hy1 : (xyv zx' (p0).toNatClampNeg 1).toInt = 1) (hy2 : xyv zx' (p0).toNatClampNeg 2 = xV zx 0) (hy3 : ∀ i : Nat, i < 3 → xyf zx' (p0).toNatClampNeg 0 i = ask3 a b c i) :
    KK5 (xV zx 0) (xF zx 1) (xwf zx') (xyv zx') (xyf zx') (upd M25 (p0).toNatClampNeg 1) (upd M26 (p0).toNatClampNeg (xV zx 0)) (cseq M28 (ask3 a b c) p0 3) := by
  obtain ⟨h0, ha, hbb, hcc, nab, nac, nbc⟩ := hc
  have ec : cseq M28 (ask3 a b c) p0 3 = upd (upd (upd M28 (3 * (p0).toNatClampNeg + 0) a) (3 * (p0).toNatClampNeg + 1) b) (3 * (p0).toNatClampNeg + 2) c := rfl
  rw [ec]
  have c0 := i_clamp0 h0.1
  have h100 : (100 + p0).toInt = 100 + p0.toInt := by
    have h1 : (100 : Int32).toInt = 100 := by decide
    exact g_add h1 rfl (by omega) (by omega)
  intro j hj
  by_cases e : j = (p0).toNatClampNeg
  · subst e
    have hol : ∀ x : Int32, WGV zx zx' (100 + p0) (x).toNatClampNeg → (xwf zx' (x).toNatClampNeg 3 (xV zx 0).toInt.toNat).toInt = 100 + ((p0).toNatClampNeg : Int) := fun x hg => by
      rw [hg.2.2.2 (xV zx 0).toInt.toNat (by omega), if_pos (by omega), h100]
      omega
    refine ⟨?_, Or.inr (Or.inl hy1), fun _ => ⟨?_, fun i hi => ?_⟩, fun _ => ⟨?_, fun i hi => ?_, ?_, ?_, ?_⟩⟩
    · rw [u_at]
      exact i_eq.mpr (by rw [hy1]; decide)
    · rw [u_at]; exact hy2
    · rw [hy3 i hi]
      rcases (show i = 0 ∨ i = 1 ∨ i = 2 by omega) with rfl | rfl | rfl
      · rw [u3_0 (by omega) (by omega)]; rfl
      · rw [u3_1 (by omega)]; rfl
      · rw [u3_2]; rfl
    · rw [hy2]; omega
    · rw [hy3 i hi]
      rcases (show i = 0 ∨ i = 1 ∨ i = 2 by omega) with rfl | rfl | rfl
      · exact ⟨ha, wa, hol a ga⟩
      · exact ⟨hbb, wb, hol b gb⟩
      · exact ⟨hcc, wc, hol c gc⟩
    · rw [hy3 0 (by decide), hy3 1 (by decide)]; exact nab
    · rw [hy3 0 (by decide), hy3 2 (by decide)]; exact nac
    · rw [hy3 1 (by decide), hy3 2 (by decide)]; exact nbc
  · obtain ⟨a1, a2, a3, a4⟩ := h j hj
    rw [(ho j e).1, (ho j e).2]
    refine ⟨by rw [u_ne e]; exact a1, a2, fun q => ⟨by rw [u_ne e]; exact (a3 q).1, fun i hi => ?_⟩, fun q => ?_⟩
    · rw [u3n (by omega) (by omega) (by omega)]; exact (a3 q).2 i hi
    · obtain ⟨b1, b2, b3⟩ := a4 q
      refine ⟨b1, fun i hi => ?_, b3⟩
      have hs := b2 i hi
      refine SP_o hs (hw _ (SP_h hs ?_) (SP_h hs ?_) (SP_h hs ?_))
      · rw [show (xV zx 0).toInt.toNat = (xV zx 0).toNatClampNeg from rfl]; omega
      · rw [show (xV zx 0).toInt.toNat = (xV zx 0).toNatClampNeg from rfl]; omega
      · rw [show (xV zx 0).toInt.toNat = (xV zx 0).toNatClampNeg from rfl]; omega
theorem ix3 {p : Int32} (hp : 0 ≤ p.toInt ∧ p.toInt ≤ 4) (k : Int32) (hk : 0 ≤ k.toInt ∧ k.toInt ≤ 2) : (3 * p + k).toNatClampNeg = 3 * (p).toNatClampNeg + (k).toNatClampNeg := by
  have h3 : (3 : Int32).toInt = 3 := by decide
  have e1 : (3 * p).toInt = 3 * p.toInt := g_mul h3 rfl (by omega) (by omega)
  have e2 : (3 * p + k).toInt = 3 * p.toInt + k.toInt := g_add e1 rfl (by omega) (by omega)
  have c0 := i_clamp0 (x := 3 * p + k) (by omega)
  have c1 := i_clamp0 hp.1
  have c2 := i_clamp0 hk.1
  omega
/-- a comparison of today, and the office's from today on -/
theorem back_one {zx zx' : XS} {e : Int32} {M3 M4 M5 M6 M7 M8 N3 N4 N5 N8 : Nat → Int32} {q : Nat} (hb : 0 ≤ (xV zx 0).toInt ∧ (xV zx 0).toInt ≤ 399) (he : -100000 ≤ e.toInt ∧ e.toInt ≤ 100000) (h : (∀ d : Nat, d < 400 → WD (xwf zx q) M3 M4 M5 M6 M7 q d) ∧ WHd (xwf zx q) M8 (xV zx 0).toInt q) (g : WBK zx zx' e q)
    (h3 : (N3 (400 * q + (xV zx 0).toNatClampNeg)).toInt ≠ 0) (h4 : N4 (400 * q + (xV zx 0).toNatClampNeg) = e) (h5 : N5 (400 * q + (xV zx 0).toNatClampNeg) = 0) (h8 : N8 (400 * q + (xV zx 0).toNatClampNeg) = -1)
    (hs : ∀ d : Nat, d < 400 → d ≠ (xV zx 0).toNatClampNeg → N3 (400 * q + d) = M3 (400 * q + d) ∧ N4 (400 * q + d) = M4 (400 * q + d) ∧ N5 (400 * q + d) = M5 (400 * q + d) ∧ N8 (400 * q + d) = M8 (400 * q + d)) :
    (∀ d : Nat, d < 400 → WD (xwf zx' q) N3 N4 N5 M6 M7 q d) ∧ WHd (xwf zx' q) N8 (xV zx 0).toInt q := by
  obtain ⟨g0, g1, g2, g3⟩ := g
  obtain ⟨a1, a2⟩ := h
  refine ⟨fun d hd => ?_, WH_give hb a2 g3 h8 (fun d hd hne => (hs d hd hne).2.2.2)⟩
  obtain ⟨b1, b2, b3⟩ := a1 d hd
  by_cases e2 : d = (xV zx 0).toNatClampNeg
  · subst e2
    unfold WD
    rw [g0, g1, g2, u_at, u_at, h4, h5]
    exact ⟨Or.inr ⟨h3, rfl, by decide, rfl, he⟩, b2, b3⟩
  · obtain ⟨c3, c4, c5, c8⟩ := hs d hd e2
    unfold WD
    rw [g0, g1, g2, u_ne e2, u_ne e2, c3, c4, c5]
    exact ⟨b1, b2, b3⟩
theorem KK4_back {zx zx' : XS} {p0 a b c x y z : Int32} {M3 M4 M5 M6 M7 M8 : Nat → Int32} {j : Nat} (h : KK4 (xV zx 0) (xF zx 1) (xwf zx) M3 M4 M5 M6 M7 M8) (hb : 0 ≤ (xV zx 0).toInt ∧ (xV zx 0).toInt ≤ 399) (hc : XBB p0 a b c) (w0 : SP (xV zx 0).toInt (xF zx 1) (xwf zx) j x) (w1 : SP (xV zx 0).toInt (xF zx 1) (xwf zx) j y) (w2 : SP (xV zx 0).toInt (xF zx 1) (xwf zx) j z) (nxy : x.toInt ≠ y.toInt) (nxz : x.toInt ≠ z.toInt) (nyz : y.toInt ≠ z.toInt)
    (hw : ∀ q : Nat, q ≠ (x).toNatClampNeg → q ≠ (y).toNatClampNeg → q ≠ (z).toNatClampNeg → xwf zx' q = xwf zx q) (ga : WBK zx zx' a (x).toNatClampNeg) (gb : WBK zx zx' b (y).toNatClampNeg) (gc : WBK zx zx' c (z).toNatClampNeg) :
    KK4 (xV zx 0) (xF zx 1) (xwf zx') (upd (upd (upd M3 (400 * x + xV zx 0).toNatClampNeg 1) (400 * y + xV zx 0).toNatClampNeg 1) (400 * z + xV zx 0).toNatClampNeg 1) (upd (upd (upd M4 (400 * x + xV zx 0).toNatClampNeg a) (400 * y + xV zx 0).toNatClampNeg b) (400 * z + xV zx 0).toNatClampNeg c) (upd (upd (upd M5 (400 * x + xV zx 0).toNatClampNeg 0) (400 * y + xV zx 0).toNatClampNeg 0) (400 * z + xV zx 0).toNatClampNeg 0) M6 M7 (upd (upd (upd M8 (400 * x + xV zx 0).toNatClampNeg (-1)) (400 * y + xV zx 0).toNatClampNeg (-1)) (400 * z + xV zx 0).toNatClampNeg (-1)) := by
  have xy := ne_cl w0.1.1 w1.1.1 nxy
  have xz := ne_cl w0.1.1 w2.1.1 nxz
  have yz := ne_cl w1.1.1 w2.1.1 nyz
  have ct := i_clamp0 hb.1
  rw [ix400 w0.1 hb, ix400 w1.1 hb, ix400 w2.1 hb]
  refine KK4_3 h hw (fun q d h1 h2 h3 hd => ⟨u3n (by omega) (by omega) (by omega), u3n (by omega) (by omega) (by omega), u3n (by omega) (by omega) (by omega), u3n (by omega) (by omega) (by omega)⟩) (fun q hq h16 hk => ?_)
  have hsame : ∀ d : Nat, d < 400 → d ≠ (xV zx 0).toNatClampNeg → ∀ (f : Nat → Int32) (u v w : Int32), upd (upd (upd f (400 * (x).toNatClampNeg + (xV zx 0).toNatClampNeg) u) (400 * (y).toNatClampNeg + (xV zx 0).toNatClampNeg) v) (400 * (z).toNatClampNeg + (xV zx 0).toNatClampNeg) w (400 * q + d) = f (400 * q + d) := fun d hd hne f u v w => u3n (by omega) (by omega) (by omega)
  have hone : (1 : Int32).toInt ≠ 0 := by decide
  rcases hq with e | e | e
  · subst e
    exact back_one hb hc.2.1 (h _ h16 hk) ga (by rw [u3_0 (by omega) (by omega)]; exact hone) (u3_0 (by omega) (by omega)) (u3_0 (by omega) (by omega)) (u3_0 (by omega) (by omega)) (fun d hd hne => ⟨hsame d hd hne _ _ _ _, hsame d hd hne _ _ _ _, hsame d hd hne _ _ _ _, hsame d hd hne _ _ _ _⟩)
  · subst e
    exact back_one hb hc.2.2.1 (h _ h16 hk) gb (by rw [u3_1 (by omega)]; exact hone) (u3_1 (by omega)) (u3_1 (by omega)) (u3_1 (by omega)) (fun d hd hne => ⟨hsame d hd hne _ _ _ _, hsame d hd hne _ _ _ _, hsame d hd hne _ _ _ _, hsame d hd hne _ _ _ _⟩)
  · subst e
    exact back_one hb hc.2.2.2 (h _ h16 hk) gc (by rw [u3_2]; exact hone) u3_2 u3_2 u3_2 (fun d hd hne => ⟨hsame d hd hne _ _ _ _, hsame d hd hne _ _ _ _, hsame d hd hne _ _ _ _, hsame d hd hne _ _ _ _⟩)
theorem KK5_back {zx zx' : XS} {M25 M26 M28 : Nat → Int32} {x y z : Int32} {i : Nat} (h : KK5 (xV zx 0) (xF zx 1) (xwf zx) (xyv zx) (xyf zx) M25 M26 M28) (hb : 0 ≤ (xV zx 0).toInt ∧ (xV zx 0).toInt ≤ 399) (hi : i < 5) (w0 : SP (xV zx 0).toInt (xF zx 1) (xwf zx) i x) (w1 : SP (xV zx 0).toInt (xF zx 1) (xwf zx) i y) (w2 : SP (xV zx 0).toInt (xF zx 1) (xwf zx) i z)
    (hw : ∀ q : Nat, q ≠ (x).toNatClampNeg → q ≠ (y).toNatClampNeg → q ≠ (z).toNatClampNeg → xwf zx' q = xwf zx q) (ho : OTH zx zx' i) (hy1 : (xyv zx' i 1).toInt = 2) (hy2 : xyv zx' i 2 = xyv zx i 2) (hy4 : xyf zx' i 0 = xyf zx i 0) (h1 : (xyv zx i 1).toInt = 1) :
    KK5 (xV zx 0) (xF zx 1) (xwf zx') (xyv zx') (xyf zx') (upd M25 i 2) M26 M28 := by
  intro j hj
  obtain ⟨a1, a2, a3, a4⟩ := h j hj
  by_cases e : j = i
  · subst e
    refine ⟨by rw [u_at]; exact i_eq.mpr (by rw [hy1]; decide), Or.inr (Or.inr hy1), fun _ => ?_, fun q => by omega⟩
    rw [hy2, hy4]
    exact a3 (by omega)
  · rw [(ho j e).1, (ho j e).2]
    refine ⟨by rw [u_ne e]; exact a1, a2, a3, fun q => ?_⟩
    obtain ⟨b1, b2, b3⟩ := a4 q
    refine ⟨b1, fun k hk => ?_, b3⟩
    have hs := b2 k hk
    have hne : ∀ v : Int32, SP (xV zx 0).toInt (xF zx 1) (xwf zx) i v → (xyf zx j 0 k).toNatClampNeg ≠ (v).toNatClampNeg := fun v hv he => by
      have g1 := hs.2.2
      have g2 := hv.2.2
      rw [he] at g1
      omega
    exact SP_o hs (hw _ (hne x w0) (hne y w1) (hne z w2))
/-- the nine sums are the same -/
theorem law9 {zx : XS} {zm : MS} {p p1 p2 : Int32} (hp : 0 ≤ p.toInt ∧ p.toInt ≤ 15) (hs : 0 ≤ p1.toInt ∧ p2.toInt ≤ 399 ∧ p1.toInt < p2.toInt ∧ p2.toInt - p1.toInt ≤ 60) (q1 : KK1 (xF zx 1) (xF zx 2) (mF zm 1) (mF zm 2)) (q2 : KK2 (xF zx 0) (mF zm 0)) (q3 : KK3 (xV zx 1) (xF zx 4) (xF zx 5) (xF zx 6) (xF zx 7) (xF zx 8) (mF zm 9) (mF zm 10) (mF zm 11) (mF zm 12) (mF zm 13)) (hb1 : 0 ≤ (xV zx 1).toInt ∧ (xV zx 1).toInt ≤ 60) (t1 : (xV zx 1).toInt = (mV zm 2).toInt) (hw : ∀ d : Nat, d < 400 → WD (xwf zx (p).toNatClampNeg) (mF zm 3) (mF zm 4) (mF zm 5) (mF zm 6) (mF zm 7) (p).toNatClampNeg d) :
    fold9 (fun d => wmF (xF zx 1) (xF zx 2) (xF zx 0) p d) (fun d => agX (xwf zx (p).toNatClampNeg 2) d) (-100) (rateL (rXn (xwf zx (p).toNatClampNeg 0) (xwf zx (p).toNatClampNeg 1) (xwf zx (p).toNatClampNeg 2) (xF zx 4) (xF zx 5) (xF zx 6) (xF zx 7) (xF zx 8) (xV zx 1)) p1 (p2.toInt - p1.toInt).toNat)
    = fold9 (fun d => wmF (mF zm 1) (mF zm 2) (mF zm 0) p d) (fun d => agI (mF zm 6) (400 * p.toInt).toNat d) (-1000) (rateL (fun d => ratF (mF zm 3) (mF zm 4) (mF zm 5) (mF zm 6) (mF zm 7) (mF zm 9) (mF zm 10) (mF zm 11) (mF zm 12) (mF zm 13) (mV zm 2) p d (-1)) p1 (p2.toInt - p1.toInt).toNat) := by
  have hm1 : (-1 : Int32).toInt = -1 := by decide
  have hcp := i_clamp0 hp.1
  have hl := rateL_congr (A := rXn (xwf zx (p).toNatClampNeg 0) (xwf zx (p).toNatClampNeg 1) (xwf zx (p).toNatClampNeg 2) (xF zx 4) (xF zx 5) (xF zx 6) (xF zx 7) (xF zx 8) (xV zx 1)) (B := fun d => ratF (mF zm 3) (mF zm 4) (mF zm 5) (mF zm 6) (mF zm 7) (mF zm 9) (mF zm 10) (mF zm 11) (mF zm 12) (mF zm 13) (mV zm 2) p d (-1)) (p := p1) (p2.toInt - p1.toInt).toNat (fun j hj => by
    have hd2 := pnI (p := p1) (j := j) (n := 399) hs.1 (by omega) (by omega)
    exact rX_rat hp (d := p1 + nI j) (by omega) (by omega) t1 hb1 q3 hw)
  rw [hl]
  refine fold9_rel _ _ (fun x hx => ?_)
  obtain ⟨j, hj, ej⟩ := rateL_days _ x hx
  have hd2 := pnI (p := p1) (j := j) (n := 399) hs.1 (by omega) (by omega)
  rw [← ej] at hd2
  have hk := q1 _ (cl16 hp)
  have hd4 : (x.1).toNatClampNeg < 400 := cl400 (by omega)
  have hww := q2 _ hd4
  refine ⟨?_, ?_⟩
  · (try dsimp only)
    unfold wmF
    rw [← hk.1, ← hk.2.2.1]
    by_cases b : (xF zx 1 (p).toNatClampNeg).toInt = 1
    · rw [if_pos b, if_pos b]
      have := hk.2.2.2 b
      exact Or.inr ⟨by omega, by omega, rfl⟩
    · rw [if_neg b, if_neg b]
      rcases hww with ⟨g1, g2⟩ | ⟨g1, g2⟩
      · exact Or.inl ⟨g1, g2⟩
      · rw [← g1]
        exact Or.inr ⟨by omega, by omega, rfl⟩
  · (try dsimp only)
    unfold agX agI
    rw [ageN_M (p := (p).toNatClampNeg) (M6 := mF zm 6) (x.1).toInt.toNat (by omega) (fun k hk9 => (hw k hk9).2.1), show 400 * (p).toNatClampNeg = (400 * p.toInt).toNat by omega]

theorem rbX_r {f2 : Nat → Int32} {day e e2 : Int32} (h : (rbX f2 day e e2).toInt ≠ -2000000000) : -999 ≤ (rbX f2 day e e2).toInt ∧ (rbX f2 day e e2).toInt ≤ 999 := by
  have hv : (-2000000000 : Int32).toInt = -2000000000 := by decide
  unfold rbX at h ⊢
  split at h
  · exact absurd hv h
  · rename_i c
    rw [if_neg c]
    split at h
    · exact absurd hv h
    · rename_i c2
      rw [if_neg c2]
      omega
theorem rateL_vals {R : Int32 → Int32} {p : Int32} : ∀ (n : Nat) (x : Int32 × Int32), x ∈ rateL R p n → x.2 = R x.1 ∧ (R x.1).toInt ≠ -2000000000
  | 0, x, h => by cases h
  | n + 1, x, h => by
    rw [rateL_succ] at h
    split at h
    · exact rateL_vals n x h
    · rename_i c
      rcases List.mem_append.mp h with h | h
      · exact rateL_vals n x h
      · rw [List.mem_singleton] at h
        rw [h]
        exact ⟨rfl, c⟩
/-- the nine sums are those of whole numbers within bounds -/
theorem law9R {zx : XS} {zm : MS} {p p1 p2 : Int32} (hp : 0 ≤ p.toInt ∧ p.toInt ≤ 15) (hs : 0 ≤ p1.toInt ∧ p2.toInt ≤ 399 ∧ p1.toInt < p2.toInt ∧ p2.toInt - p1.toInt ≤ 60) (q1 : KK1 (xF zx 1) (xF zx 2) (mF zm 1) (mF zm 2)) (q2 : KK2 (xF zx 0) (mF zm 0)) (q3 : KK3 (xV zx 1) (xF zx 4) (xF zx 5) (xF zx 6) (xF zx 7) (xF zx 8) (mF zm 9) (mF zm 10) (mF zm 11) (mF zm 12) (mF zm 13)) (hb1 : 0 ≤ (xV zx 1).toInt ∧ (xV zx 1).toInt ≤ 60) (t1 : (xV zx 1).toInt = (mV zm 2).toInt) (hw : ∀ d : Nat, d < 400 → WD (xwf zx (p).toNatClampNeg) (mF zm 3) (mF zm 4) (mF zm 5) (mF zm 6) (mF zm 7) (p).toNatClampNeg d) :
    ∃ t, R9 (fold9 (fun d => wmF (xF zx 1) (xF zx 2) (xF zx 0) p d) (fun d => agX (xwf zx (p).toNatClampNeg 2) d) (-100) (rateL (rXn (xwf zx (p).toNatClampNeg 0) (xwf zx (p).toNatClampNeg 1) (xwf zx (p).toNatClampNeg 2) (xF zx 4) (xF zx 5) (xF zx 6) (xF zx 7) (xF zx 8) (xV zx 1)) p1 (p2.toInt - p1.toInt).toNat)) t ∧ okT t ∧ t.length ≤ 60 := by
  have hcp := i_clamp0 hp.1
  refine R9_fold (Nat.le_trans (rateL_len _ _ _) (by omega)) (fun x hx => ?_)
  obtain ⟨j, hj, ej⟩ := rateL_days _ x hx
  obtain ⟨v1, v2⟩ := rateL_vals _ x hx
  have hd2 := pnI (p := p1) (j := j) (n := 399) hs.1 (by omega) (by omega)
  rw [← ej] at hd2
  have hk := q1 _ (cl16 hp)
  have hd4 : (x.1).toNatClampNeg < 400 := cl400 (by omega)
  have hww := q2 _ hd4
  refine ⟨?_, ?_, ?_⟩
  · rw [v1]
    exact rbX_r v2
  · (try dsimp only)
    unfold wmF
    by_cases b : (xF zx 1 (p).toNatClampNeg).toInt = 1
    · rw [if_pos b]
      exact Or.inr (hk.2.2.2 b)
    · rw [if_neg b]
      rcases hww with ⟨g1, g2⟩ | ⟨g1, g2⟩
      · exact Or.inl g1
      · exact Or.inr g2
  · (try dsimp only)
    have hr := ageN_r (xwf zx (p).toNatClampNeg 2) (x.1).toInt.toNat
    unfold agX
    rw [nI_toInt (by omega)]
    omega
theorem KK6_oth {zx zx' : XS} {i : Nat} {M29 M30 M31 : Nat → Int32} (h : KK6 (xyf zx) M29 M30 M31) (ho : OTH zx zx' i) (h5 : xyf zx' i 1 = xyf zx i 1 ∧ xyf zx' i 2 = xyf zx i 2 ∧ xyf zx' i 3 = xyf zx i 3) : KK6 (xyf zx') M29 M30 M31 := fun j hj k hk => by
  by_cases e : j = i
  · subst e
    rw [h5.1, h5.2.1, h5.2.2]
    exact h j hj k hk
  · rw [(ho j e).2]
    exact h j hj k hk
/-- the reference's words of a watch that sails -/
def errM (zm : MS) (p : Int32) : Int32 := errF (mF zm 3) (mF zm 4) (mF zm 5) (mF zm 9) (mF zm 10) (mF zm 11) (mF zm 12) (mF zm 13) (mV zm 2) p (mV zm 1) (-1)
def RLM (zm : MS) (p : Int32) : List (Int32 × Int32) := rateL (fun d => ratF (mF zm 3) (mF zm 4) (mF zm 5) (mF zm 6) (mF zm 7) (mF zm 9) (mF zm 10) (mF zm 11) (mF zm 12) (mF zm 13) (mV zm 2) p d (-1)) (loD (mV zm 1)) ((mV zm 1).toInt - (loD (mV zm 1)).toInt).toNat
theorem KK6_sail {zx zx' : XS} {p0 a b c : Int32} {M29 M30 M31 fE fG fD : Nat → Int32} (h : KK6 (xyf zx) M29 M30 M31) (ho : OTH zx zx' (p0).toNatClampNeg) (h4 : ∀ i : Nat, i < 3 → xyf zx' (p0).toNatClampNeg 1 i = ERX zx (ask3 a b c i) ∧ xyf zx' (p0).toNatClampNeg 2 i = goX (RLX zx (ask3 a b c i)) ∧ xyf zx' (p0).toNatClampNeg 3 i = duX (RLX zx (ask3 a b c i)))
    (h5 : ∀ k : Nat, k < 3 → ERX zx (ask3 a b c k) = fE k ∧ goX (RLX zx (ask3 a b c k)) = fG k ∧ duX (RLX zx (ask3 a b c k)) = fD k) :
    KK6 (xyf zx') (vseq M29 p0 fE 3) (vseq M30 p0 fG 3) (vseq M31 p0 fD 3) := fun j hj k hk => by
  by_cases e : j = (p0).toNatClampNeg
  · subst e
    rw [vseq_at 3 hk, vseq_at 3 hk, vseq_at 3 hk]
    obtain ⟨g1, g2, g3⟩ := h4 k hk
    rw [g1, g2, g3]
    exact h5 k hk
  · rw [(ho j e).2, vseq_ne 3 (fun q hq => by omega), vseq_ne 3 (fun q hq => by omega), vseq_ne 3 (fun q hq => by omega)]
    exact h j hj k hk
theorem SAIL3 {zx : XS} {zm : MS} {p : Int32} (hI : XI zx) (t0 : (xV zx 0).toInt = (mV zm 1).toInt) (t1 : (xV zx 1).toInt = (mV zm 2).toInt) (q3 : KK3 (xV zx 1) (xF zx 4) (xF zx 5) (xF zx 6) (xF zx 7) (xF zx 8) (mF zm 9) (mF zm 10) (mF zm 11) (mF zm 12) (mF zm 13)) (q4 : KK4 (xV zx 0) (xF zx 1) (xwf zx) (mF zm 3) (mF zm 4) (mF zm 5) (mF zm 6) (mF zm 7) (mF zm 8)) (hp : 0 ≤ p.toInt ∧ p.toInt ≤ 15) (hw : XWK zx p) (hf : FITX zx p) :
    ERX zx p = errM zm p ∧ goX (RLX zx p) = goM (RLM zm p) ∧ duX (RLX zx p) = duM (RLM zm p) := by
  have hb := hI.1
  have hb1 := hI.2.1
  have hta := i_eq.mpr t0
  have hw4 := q4 _ (cl16 hp) hw
  have hlo := loD_r hb
  have hm1 : (-1 : Int32).toInt = -1 := by decide
  have hl2 : 2 ≤ (RLX zx p).length := hf.2.2
  have el : RLX zx p = RLM zm p := by
    unfold RLX RLM
    rw [← hta]
    exact rateL_congr _ (fun j hj => by
      have hd2 := pnI (p := loD (xV zx 0)) (j := j) (n := 399) hlo.1 (by omega) (by omega)
      exact rX_rat hp (d := loD (xV zx 0) + nI j) (by omega) (by omega) t1 hb1 q3 hw4.1)
  have hv : ∀ i : Nat, i < (RLX zx p).length → -999 ≤ (vL (RLX zx p) i).toInt ∧ (vL (RLX zx p) i).toInt ≤ 999 := fun i hi => by
    obtain ⟨v1, v2⟩ := rateL_vals _ _ (vL_mem hi)
    have v1 : vL (RLX zx p) i = _ := v1
    rw [v1]
    exact rbX_r v2
  refine ⟨?_, ?_, ?_⟩
  · unfold ERX errM
    rw [← hta]
    exact eX_err hp hb (by omega) t1 hb1.1 q3 (hw4.1 _ (cl400 hb))
  · rw [← el]
    exact (go_eq (Nat.le_trans (rateL_len _ _ _) (by omega)) hv).symm
  · rw [← el]
    exact (du_eq (by omega) hv).symm
theorem ST_sail {p0 p1 p2 p3 rx rm : Int32} {zx zx' : XS} {zm zm' : MS} (hI : XI zx) (h : TR zx zm) (hx : RX_X8_sail p0 p1 p2 p3 rx zx zx') (hm : RM_X9_sail p0 p1 p2 p3 rm zm zm') : TR zx' zm' := by
  obtain ⟨⟨t0, t1, t2, t3⟩, q1, q2, q3, q4, q5, q6⟩ := h
  have hb := hI.1
  have hb1 := hI.2.1
  obtain ⟨hpm, kmv1, kmv2, kmv4, kmv11, kmv12, kmf0, kmf1, kmf2, kmf3, kmf4, kmf5, kmf6, kmf7, kmf9, kmf10, kmf11, kmf12, kmf13, kmf39, kmf40, kmf17, kmf18, kmf19, kmf20, kmf21, kmf27, kmf32, kmf34, kmf35, hxk0⟩ := hm
  have same : (mF zm' 8 = mF zm 8 ∧ mF zm' 25 = mF zm 25 ∧ mF zm' 26 = mF zm 26 ∧ mF zm' 28 = mF zm 28 ∧ mF zm' 29 = mF zm 29 ∧ mF zm' 30 = mF zm 30 ∧ mF zm' 31 = mF zm 31) → KPX zx zx' → TR zx' zm' := fun hh hk => by
    obtain ⟨f8, f25, f26, f28, f29, f30, f31⟩ := hh
    obtain ⟨h1, h2, h3, h4, h5⟩ := id hk
    exact TR_kq ⟨⟨t0, t1, t2, t3⟩, q1, q2, q3, q4, q5, q6⟩ (KQX.of hk) ⟨kmv1, kmv2, kmf0, kmf1, kmf2, kmf3, kmf4, kmf5, kmf6, kmf7, f8, kmf9, kmf10, kmf11, kmf12, kmf13, f25, f26, f28, f29, f30, f31⟩ (by rw [h3, kmv4]; exact t2) (by rw [h4, kmv11]; exact t3)
  rcases hx with ⟨_, c, hk⟩ | ⟨c, c2, hk⟩ | ⟨c, c2, c3, _, hk⟩ | ⟨c, c2, c3, _, hk⟩ | ⟨c, c2, c3, c4, _, z1, z2, z3, z4, k1, hL, b1, b2, b3⟩
  · rcases hpm with ⟨_, d, f⟩ | ⟨d, d2, f⟩ | ⟨d, d2, d3, _, f⟩ | ⟨d, d2, d3, _, f⟩ | ⟨d, d2, d3, d4, _, f⟩
    · exact same f hk
    · exact same f hk
    · exact same f hk
    · exact same f hk
    · exact absurd d c
  · rcases hpm with ⟨_, d, f⟩ | ⟨d, d2, f⟩ | ⟨d, d2, d3, _, f⟩ | ⟨d, d2, d3, _, f⟩ | ⟨d, d2, d3, d4, _, f⟩
    · exact same f hk
    · exact same f hk
    · exact same f hk
    · exact same f hk
    · exfalso
      have e1 := kd_W q1 c.2.1
      have e2 := kd_W q1 c.2.2.1
      have e3 := kd_W q1 c.2.2.2.1
      unfold XWK at c2
      rcases c2 with c2 | c2 | c2
      · exact c2.1 (e1.mpr d2.1)
      · exact c2.2.1 (e2.mpr d2.2.1)
      · exact c2.2.2.1 (e3.mpr d2.2.2)
  · rcases hpm with ⟨_, d, f⟩ | ⟨d, d2, f⟩ | ⟨d, d2, d3, _, f⟩ | ⟨d, d2, d3, _, f⟩ | ⟨d, d2, d3, d4, _, f⟩
    · exact same f hk
    · exact same f hk
    · exact same f hk
    · exact same f hk
    · exfalso
      rw [(q5 _ (cl5 c.1)).1] at c3
      exact d3 c3
  · rcases hpm with ⟨_, d, f⟩ | ⟨d, d2, f⟩ | ⟨d, d2, d3, _, f⟩ | ⟨d, d2, d3, _, f⟩ | ⟨d, d2, d3, d4, _, f⟩
    · exact same f hk
    · exact same f hk
    · exact same f hk
    · exact same f hk
    · exfalso
      exact c3 ⟨(FIT_may hI t0 t1 q3 q4 c.2.1 c2.1).mpr d4.1, (FIT_may hI t0 t1 q3 q4 c.2.2.1 c2.2.1).mpr d4.2.1, (FIT_may hI t0 t1 q3 q4 c.2.2.2.1 c2.2.2).mpr d4.2.2⟩
  · have hS := SAILED_of c c4.1 c4.2.1 c4.2.2 k1 hL b1 b2 b3
    rcases hpm with ⟨_, d, f⟩ | ⟨d, d2, f⟩ | ⟨d, d2, d3, _, f⟩ | ⟨d, d2, d3, _, f⟩ | ⟨d, d2, d3, d4, _, f8, f25, f26, f28, f29, f30, f31⟩
    · exact absurd c d
    · exfalso
      have e1 := kd_W q1 c.2.1
      have e2 := kd_W q1 c.2.2.1
      have e3 := kd_W q1 c.2.2.2.1
      have g1 := e1.mp c2.1
      have g2 := e2.mp c2.2.1
      have g3 := e3.mp c2.2.2
      omega
    · exfalso
      rw [← (q5 _ (cl5 c.1)).1] at d3
      exact c3 d3
    · exfalso
      exact d3 ⟨(FIT_may hI t0 t1 q3 q4 c.2.1 c2.1).mp c4.1, (FIT_may hI t0 t1 q3 q4 c.2.2.1 c2.2.1).mp c4.2.1, (FIT_may hI t0 t1 q3 q4 c.2.2.2.1 c2.2.2).mp c4.2.2⟩
    · obtain ⟨hK, hw, ⟨ga, gb, gc⟩, ho, hy1, hy2, hy3, hy4⟩ := hS
      have hL : ∀ k : Nat, k < 3 → ERX zx (ask3 p1 p2 p3 k) = errM zm (ask3 p1 p2 p3 k) ∧ goX (RLX zx (ask3 p1 p2 p3 k)) = goM (RLM zm (ask3 p1 p2 p3 k)) ∧ duX (RLX zx (ask3 p1 p2 p3 k)) = duM (RLM zm (ask3 p1 p2 p3 k)) := fun k hk => by
        rcases (show k = 0 ∨ k = 1 ∨ k = 2 by omega) with q | q | q <;> subst q
        · exact SAIL3 hI t0 t1 q3 q4 c.2.1 c2.1 c4.1
        · exact SAIL3 hI t0 t1 q3 q4 c.2.2.1 c2.2.1 c4.2.1
        · exact SAIL3 hI t0 t1 q3 q4 c.2.2.2.1 c2.2.2 c4.2.2
      obtain ⟨x0, x1, x4, x9, y0, y1, y2, y4, y5, y6, y7, y8⟩ := hK
      refine ⟨⟨by rw [x0, kmv1]; exact t0, by rw [x1, kmv2]; exact t1, by rw [x4, kmv4]; exact t2, by rw [x9, kmv11]; exact t3⟩, ?_⟩
      unfold RK
      rw [x0, x1, y0, y1, y2, y4, y5, y6, y7, y8, kmf0, kmf1, kmf2, kmf3, kmf4, kmf5, kmf6, kmf7, kmf9, kmf10, kmf11, kmf12, kmf13, f8, f25, f26, f28, f29, f30, f31]
      have hta := i_eq.mpr t0
      rw [← hta]
      exact ⟨q1, q2, q3, KK4_sail q4 hb c hw ga gb gc, KK5_sail q5 hb c c2.1 c2.2.1 c2.2.2 c4.1.1 c4.2.1.1 c4.2.2.1 hw ga gb gc ho hy1 hy2 hy3, KK6_sail q6 ho hy4 (fun k hk => by have h9 := hL k hk; unfold errM RLM at h9; rw [← hta] at h9; exact h9)⟩
theorem ST_back {p0 p1 p2 p3 rx rm : Int32} {zx zx' : XS} {zm zm' : MS} (hI : XI zx) (h : TR zx zm) (hx : RX_X8_back p0 p1 p2 p3 rx zx zx') (hm : RM_X9_back p0 p1 p2 p3 rm zm zm') : TR zx' zm' := by
  obtain ⟨⟨t0, t1, t2, t3⟩, q1, q2, q3, q4, q5, q6⟩ := h
  have hb := hI.1
  have hb1 := hI.2.1
  obtain ⟨hpm, kmv1, kmv2, kmv4, kmv11, kmv12, kmf0, kmf1, kmf2, kmf6, kmf7, kmf9, kmf10, kmf11, kmf12, kmf13, kmf26, kmf28, kmf29, kmf30, kmf31, kmf39, kmf40, kmf17, kmf18, kmf19, kmf20, kmf21, kmf33, kmf34, kmf35, hxk0⟩ := hm
  have same : (mF zm' 3 = mF zm 3 ∧ mF zm' 4 = mF zm 4 ∧ mF zm' 5 = mF zm 5 ∧ mF zm' 8 = mF zm 8 ∧ mF zm' 25 = mF zm 25) → KPX zx zx' → TR zx' zm' := fun hh hk => by
    obtain ⟨f3, f4, f5, f8, f25⟩ := hh
    obtain ⟨h1, h2, h3, h4, h5⟩ := id hk
    exact TR_kq ⟨⟨t0, t1, t2, t3⟩, q1, q2, q3, q4, q5, q6⟩ (KQX.of hk) ⟨kmv1, kmv2, kmf0, kmf1, kmf2, f3, f4, f5, kmf6, kmf7, f8, kmf9, kmf10, kmf11, kmf12, kmf13, f25, kmf26, kmf28, kmf29, kmf30, kmf31⟩ (by rw [h3, kmv4]; exact t2) (by rw [h4, kmv11]; exact t3)
  rcases hx with ⟨_, c, hk⟩ | ⟨c, c2, _, hk⟩ | ⟨c, c2, c3, _, z1, z2, z3, hC, u1, u2, u3⟩
  · rcases hpm with ⟨_, d, f3, f4, f5, f8, f25, _⟩ | ⟨d, d2, _, f3, f4, f5, f8, f25, _⟩ | ⟨d, d2, f⟩
    · exact same ⟨f3, f4, f5, f8, f25⟩ hk
    · exact same ⟨f3, f4, f5, f8, f25⟩ hk
    · exact absurd d c
  · rcases hpm with ⟨_, d, f3, f4, f5, f8, f25, _⟩ | ⟨d, d2, _, f3, f4, f5, f8, f25, _⟩ | ⟨d, d2, f⟩
    · exact same ⟨f3, f4, f5, f8, f25⟩ hk
    · exact same ⟨f3, f4, f5, f8, f25⟩ hk
    · exfalso
      have hs := q5 _ (cl5 c.1)
      have e1 := congrArg Int32.toInt hs.1
      have e2 := hs.2.2.1
      have e3 := hs.2.2.2
      by_cases q : (xyv zx (p0).toNatClampNeg 1).toInt = 1
      · have g2 := congrArg Int32.toInt (e2 (by omega)).1
        have g3 := (e3 q).1
        omega
      · omega
  · have hs := q5 _ (cl5 c.1)
    have g2 := hs.2.2.1 (by omega)
    obtain ⟨g4, g5, g6, g7, g8⟩ := hs.2.2.2 c2
    have w0 := g5 0 (by decide)
    have w1 := g5 1 (by decide)
    have w2 := g5 2 (by decide)
    have hS := CAMEB_of rfl rfl rfl (s := zx) ⟨w0.1.1, w0.1.2, w0.2.1⟩ ⟨w1.1.1, w1.1.2, w1.2.1⟩ ⟨w2.1.1, w2.1.2, w2.2.1⟩ g6 g7 g8 hC u1 u2 u3
    rcases hpm with ⟨_, d, f⟩ | ⟨d, d2, _, f⟩ | ⟨d, d2, f3, f4, f5, f8, f25, _⟩
    · exact absurd c d
    · exfalso
      have e1 := congrArg Int32.toInt hs.1
      have e2 := congrArg Int32.toInt g2.1
      omega
    · obtain ⟨hK, hw, ⟨ga, gb, gc⟩, ho, hy1, hy2, hy3, hy4, hy5⟩ := hS
      obtain ⟨x0, x1, x4, x9, y0, y1, y2, y4, y5, y6, y7, y8⟩ := hK
      refine ⟨⟨by rw [x0, kmv1]; exact t0, by rw [x1, kmv2]; exact t1, by rw [x4, kmv4]; exact t2, by rw [x9, kmv11]; exact t3⟩, ?_⟩
      unfold RK
      rw [x0, x1, y0, y1, y2, y4, y5, y6, y7, y8, kmf0, kmf1, kmf2, kmf6, kmf7, kmf9, kmf10, kmf11, kmf12, kmf13, kmf26, kmf28, kmf29, kmf30, kmf31, f3, f4, f5, f8, f25]
      have hta := i_eq.mpr t0
      have n0 : (0 : Int32).toNatClampNeg = 0 := by decide
      have n1 : (1 : Int32).toNatClampNeg = 1 := by decide
      have n2 : (2 : Int32).toNatClampNeg = 2 := by decide
      rw [← hta, ix3 c.1 0 (by decide), ix3 c.1 1 (by decide), ix3 c.1 2 (by decide), n0, n1, n2, ← g2.2 0 (by decide), ← g2.2 1 (by decide), ← g2.2 2 (by decide)]
      exact ⟨q1, q2, q3, KK4_back q4 hb c w0 w1 w2 g6 g7 g8 hw ga gb gc, KK5_back q5 hb (cl5 c.1) w0 w1 w2 hw ho hy1 hy2 hy4 c2, KK6_oth q6 ho hy5⟩
theorem TR_init {zx : XS} {zm : MS} (hx : xV zx 0 = 0 ∧ xV zx 1 = 0 ∧ xV zx 4 = 0 ∧ xV zx 9 = 0 ∧ (∀ k : Nat, k < 400 → xF zx 0 k = -100) ∧ (∀ k : Nat, k < 16 → xF zx 1 k = -5) ∧ (∀ k : Nat, k < 16 → xF zx 2 k = 0) ∧ (∀ j : Nat, xyv zx j 1 = 0) ∧ (∀ j i k : Nat, xyf zx j i k = 0)) (hm : mV zm 1 = 0 ∧ mV zm 2 = 0 ∧ mV zm 4 = 0 ∧ mV zm 11 = 0 ∧ (∀ k : Nat, k < 400 → mF zm 0 k = -1000) ∧ (∀ k : Nat, k < 16 → mF zm 1 k = -5) ∧ (∀ k : Nat, k < 16 → mF zm 2 k = 0) ∧ (∀ j : Nat, mF zm 25 j = 0) ∧ (∀ j : Nat, mF zm 29 j = 0 ∧ mF zm 30 j = 0 ∧ mF zm 31 j = 0)) : TR zx zm := by
  obtain ⟨x0, x1, x4, x9, xa, xb, xc, xd, xe⟩ := hx
  obtain ⟨m0, m1, m4, m9, ma, mb, mc, md, me⟩ := hm
  have z : (0 : Int32).toInt = 0 := by decide
  refine ⟨⟨by rw [x0, m0], by rw [x1, m1], by rw [x4, m4], by rw [x9, m9]⟩, fun k hk => ?_, fun d hd => ?_, fun i hi => ?_, fun p hp hw => ?_, fun j hj => ?_, fun j hj k hk => ?_⟩
  · rw [xb k hk, mb k hk, xc k hk, mc k hk]
    exact ⟨rfl, Or.inl (by decide), rfl, fun q => absurd q (by decide)⟩
  · rw [xa d hd, ma d hd]
    exact Or.inl ⟨by decide, by decide⟩
  · rw [x1, z] at hi
    omega
  · rw [xb p hp] at hw
    exact absurd hw (by unfold isW; decide)
  · refine ⟨by rw [xd, md], Or.inl (by rw [xd]; exact z), fun h => absurd (by rw [xd]; exact z) h, fun h => ?_⟩
    rw [xd, z] at h
    omega
  · rw [xe, xe, xe, (me _).1, (me _).2.1, (me _).2.2]
    exact ⟨rfl, rfl, rfl⟩
