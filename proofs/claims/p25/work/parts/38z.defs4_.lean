section
/-! ===== rules as code: heights, well-formedness, the waiting ===== -/
def dl (w : Int32) : Int := if w.toInt = 1 ∨ 100 ≤ w.toInt then 1 else if w.toInt = 30 ∨ w.toInt = 70 ∨ w.toInt = 71 then 0 else -1
def okS (w : Int32) (h : Int) : Prop := (w.toInt = 1 ∨ (100 ≤ w.toInt ∧ w.toInt ≤ 123)) ∨ ((w.toInt = 30 ∨ w.toInt = 70 ∨ w.toInt = 71) ∧ 1 ≤ h) ∨ (w.toInt ≠ 1 ∧ w.toInt < 100 ∧ 2 ≤ h)
def hgt (f : Nat → Int32) (b : Nat) : Nat → Int
  | 0 => 0
  | j + 1 => hgt f b j + dl (f (b + j))
theorem hgt_succ (f : Nat → Int32) (b j : Nat) : hgt f b (j + 1) = hgt f b j + dl (f (b + j)) := rfl
def WFc (f : Nat → Int32) (b n : Nat) : Prop := ∀ j, j < n → okS (f (b + j)) (hgt f b j)
def cntB (g : Nat → Int32) : Nat → Int
  | 0 => 0
  | k + 1 => cntB g k + (if (g k).toInt = 5 ∨ (g k).toInt = 30 ∨ (g k).toInt = 70 ∨ (g k).toInt = 71 then 0 else 1)
theorem cntB_succ (g : Nat → Int32) (k : Nat) : cntB g (k + 1) = cntB g k + (if (g k).toInt = 5 ∨ (g k).toInt = 30 ∨ (g k).toInt = 70 ∨ (g k).toInt = 71 then 0 else 1) := rfl
theorem cntB_0 (g : Nat → Int32) : ∀ k : Nat, 0 ≤ cntB g k
  | 0 => Int.le_refl 0
  | k + 1 => by
    have h := cntB_0 g k
    rw [cntB_succ]
    split <;> omega
theorem hgt_congr {f g : Nat → Int32} {b c : Nat} : ∀ n : Nat, (∀ j, j < n → f (b + j) = g (c + j)) → hgt f b n = hgt g c n
  | 0, _ => rfl
  | n + 1, h => by rw [hgt_succ, hgt_succ, hgt_congr n (fun j hj => h j (by omega)), h n (by omega)]
theorem WFc_congr {f g : Nat → Int32} {b c n : Nat} (h : ∀ j, j < n → f (b + j) = g (c + j)) (hf : WFc f b n) : WFc g c n := by
  intro j hj
  rw [← h j hj, ← hgt_congr j (fun k hk => h k (by omega))]
  exact hf j hj
theorem WF_push {f : Nat → Int32} {b n : Nat} {w : Int32} (h : WFc f b n) (hw : okS w (hgt f b n)) : WFc (upd f (b + n) w) b (n + 1) ∧ hgt (upd f (b + n) w) b (n + 1) = hgt f b n + dl w := by
  have e : ∀ j, j < n → upd f (b + n) w (b + j) = f (b + j) := fun j hj => by unfold upd; rw [if_neg (by omega)]
  have e2 : upd f (b + n) w (b + n) = w := by unfold upd; rw [if_pos rfl]
  refine ⟨fun j hj => ?_, ?_⟩
  · rcases Nat.lt_or_ge j n with q | q
    · rw [e j q, hgt_congr j (g := f) (c := b) (fun k hk => e k (by omega))]; exact h j q
    · have : j = n := by omega
      subst this
      rw [e2, hgt_congr j (g := f) (c := b) (fun k hk => e k (by omega))]; exact hw
  · rw [hgt_succ, e2, hgt_congr n (g := f) (c := b) e]
theorem cntB_congr {f g : Nat → Int32} : ∀ n : Nat, (∀ j, j < n → f j = g j) → cntB f n = cntB g n
  | 0, _ => rfl
  | n + 1, h => by rw [cntB_succ, cntB_succ, cntB_congr n (fun j hj => h j (by omega)), h n (by omega)]
def PI (f g : Nat → Int32) (laid waits : Int32) (e : Int) : Prop := WFc f 256 laid.toNatClampNeg ∧ hgt f 256 laid.toNatClampNeg = cntB g waits.toNatClampNeg + e ∧ ∀ k : Nat, (k : Int) < waits.toInt → (g k).toInt = 5 ∨ (10 ≤ (g k).toInt ∧ (g k).toInt ≤ 71)
theorem PI_cast {f g : Nat → Int32} {a b : Int32} {e e2 : Int} (h : PI f g a b e) (he : e = e2) : PI f g a b e2 := by rw [← he]; exact h
theorem PI_0 {f g : Nat → Int32} {e : Int} (he : e = 0) : PI f g 0 0 e := by
  subst he
  have h0 : (0 : Int32).toNatClampNeg = 0 := by decide
  have h1 : (0 : Int32).toInt = 0 := by decide
  refine ⟨by rw [h0]; exact fun j hj => absurd hj (Nat.not_lt_zero j), by rw [h0]; rfl, fun k hk => by rw [h1] at hk; omega⟩
theorem ix256 {z a : Int32} (hz : z.toInt = 256 + a.toInt) (h0 : 0 ≤ a.toInt) : z.toNatClampNeg = 256 + a.toNatClampNeg := by
  have h1 := i_clamp0 h0
  have h2 := i_clamp0 (x := z) (by omega)
  omega
theorem PI_opd {f f2 g : Nat → Int32} {a a2 b w : Int32} {e : Int} (h : PI f g a b e) (he : e = 0) (h0 : 0 ≤ a.toInt) (hw : w.toInt = 1 ∨ (100 ≤ w.toInt ∧ w.toInt ≤ 123)) (ha : a2.toInt = a.toInt + 1) (hf : f2 = upd f (256 + a.toNatClampNeg) w) : PI f2 g a2 b 1 := by
  subst he; subst hf
  obtain ⟨h1, h2, h3⟩ := h
  obtain ⟨p1, p2⟩ := WF_push (w := w) h1 (Or.inl hw)
  refine ⟨?_, ?_, h3⟩
  · rw [clampS h0 ha]; exact p1
  · rw [clampS h0 ha, p2, h2]
    unfold dl
    rw [if_pos (by omega)]
    omega
theorem PI_pop {f f2 g : Nat → Int32} {a a2 b b2 w : Int32} (h : PI f g a b 1) (h0 : 0 ≤ a.toInt) (hb0 : 0 ≤ b2.toInt) (hb : b.toInt = b2.toInt + 1) (hw : w = g b2.toNatClampNeg) (hw5 : w.toInt ≠ 5) (ha : a2.toInt = a.toInt + 1) (hf : f2 = upd f (256 + a.toNatClampNeg) w) : PI f2 g a2 b2 1 := by
  subst hf
  obtain ⟨h1, h2, h3⟩ := h
  have hc := i_clamp0 hb0
  have hw3 := h3 b2.toNatClampNeg (by omega)
  rw [← hw] at hw3
  rw [clampS hb0 hb, cntB_succ, ← hw] at h2
  have hB := cntB_0 g b2.toNatClampNeg
  by_cases hu : w.toInt = 30 ∨ w.toInt = 70 ∨ w.toInt = 71
  · rw [if_pos (by omega)] at h2
    obtain ⟨p1, p2⟩ := WF_push (w := w) h1 (Or.inr (Or.inl ⟨hu, by omega⟩))
    refine ⟨by rw [clampS h0 ha]; exact p1, ?_, fun k hk => h3 k (by omega)⟩
    rw [clampS h0 ha, p2, h2]
    unfold dl
    rw [if_neg (by omega), if_pos hu]
    omega
  · rw [if_neg (by omega)] at h2
    obtain ⟨p1, p2⟩ := WF_push (w := w) h1 (Or.inr (Or.inr ⟨by omega, by omega, by omega⟩))
    refine ⟨by rw [clampS h0 ha]; exact p1, ?_, fun k hk => h3 k (by omega)⟩
    rw [clampS h0 ha, p2, h2]
    unfold dl
    rw [if_neg (by omega), if_neg hu]
    omega
theorem PI_push {f g : Nat → Int32} {a b b2 w : Int32} {e : Int} (h : PI f g a b e) (hb0 : 0 ≤ b.toInt) (hb : b2.toInt = b.toInt + 1) (hw : (e = 0 ∧ (w.toInt = 5 ∨ w.toInt = 30 ∨ w.toInt = 70 ∨ w.toInt = 71)) ∨ (e = 1 ∧ 10 ≤ w.toInt ∧ w.toInt < 70 ∧ w.toInt ≠ 30)) : PI f (upd g b.toNatClampNeg w) a b2 0 := by
  obtain ⟨h1, h2, h3⟩ := h
  have hc := i_clamp0 hb0
  have e1 : ∀ j, j < b.toNatClampNeg → g j = upd g b.toNatClampNeg w j := fun j hj => by unfold upd; rw [if_neg (by omega)]
  have e2 : upd g b.toNatClampNeg w b.toNatClampNeg = w := by unfold upd; rw [if_pos rfl]
  refine ⟨h1, ?_, fun k hk => ?_⟩
  · rw [clampS hb0 hb, cntB_succ, e2, h2, cntB_congr b.toNatClampNeg e1]
    rcases hw with hw | hw
    · rw [if_pos hw.2]; omega
    · rw [if_neg (by omega)]; omega
  · by_cases q : k = b.toNatClampNeg
    · subst q
      rw [e2]; omega
    · rw [← e1 k (by omega)]; exact h3 k (by omega)
theorem PI_open {f g : Nat → Int32} {a b b2 : Int32} (h : PI f g a b 1) (hb0 : 0 ≤ b2.toInt) (hb : b.toInt = b2.toInt + 1) (hw : (g b2.toNatClampNeg).toInt = 5) : PI f g a b2 1 := by
  obtain ⟨h1, h2, h3⟩ := h
  rw [clampS hb0 hb, cntB_succ, if_pos (Or.inl hw)] at h2
  exact ⟨h1, by omega, fun k hk => h3 k (by omega)⟩
def LOW (f g : Nat → Int32) : Prop := ∀ k : Nat, k < 256 → g k = f k
theorem LOW_r {f : Nat → Int32} : LOW f f := fun _ _ => rfl
theorem LOW_t {f g h : Nat → Int32} (h1 : LOW f g) (h2 : LOW g h) : LOW f h := fun k hk => (h2 k hk).trans (h1 k hk)
theorem LOW_u {f g f2 : Nat → Int32} {a : Nat} {w : Int32} (h : LOW f g) (hf : f2 = upd g (256 + a) w) : LOW f f2 := fun k hk => by
  rw [hf]; unfold upd; rw [if_neg (by omega)]; exact h k hk
def JW (f g : Nat → Int32) : Prop := ∀ w : Nat, w < 2 → WFc f (128 * w) (g w).toNatClampNeg
theorem JW_low {f g h : Nat → Int32} (hj : JW f g) (hg : ∀ k : Nat, k < 2 → 0 ≤ (g k).toInt ∧ (g k).toInt ≤ 127) (hl : LOW f h) : JW h g := fun w hw => by
  refine WFc_congr (fun j hj => ?_) (hj w hw)
  have h1 := hg w hw
  have h2 := i_clamp0 h1.1
  exact (hl _ (by omega)).symm
/-- what a step finds -/
theorem WF_at {f : Nat → Int32} {b n : Nat} {z i : Int32} {H : Int} (h : WFc f b n) (hb : (b : Int) ≤ i.toInt) (hi : i.toInt < b + n) (hz : z = f i.toNatClampNeg) (hH : H = hgt f b (i.toInt - b).toNat) : (z.toInt = 1 ∨ (100 ≤ z.toInt ∧ z.toInt ≤ 123)) ∨ ((z.toInt = 30 ∨ z.toInt = 70 ∨ z.toInt = 71) ∧ 1 ≤ H) ∨ (z.toInt ≠ 1 ∧ z.toInt < 100 ∧ 2 ≤ H) := by
  have hc := i_clamp0 (x := i) (by omega)
  have h1 := h (i.toInt - b).toNat (by omega)
  rw [show b + (i.toInt - b).toNat = i.toNatClampNeg by omega, ← hz, ← hH] at h1
  exact h1
theorem hgt_at {f : Nat → Int32} {b : Nat} {i j : Int32} (hb : (b : Int) ≤ i.toInt) (hj : j.toInt = i.toInt + 1) : hgt f b (j.toInt - b).toNat = hgt f b (i.toInt - b).toNat + dl (f i.toNatClampNeg) := by
  have hc := i_clamp0 (x := i) (by omega)
  rw [show (j.toInt - b).toNat = (i.toInt - b).toNat + 1 by omega, hgt_succ, show b + (i.toInt - b).toNat = i.toNatClampNeg by omega]
/-- a rule is laid into its place -/
def CPY (f g : Nat → Int32) (b n : Nat) : Prop := ∀ k : Nat, g k = if b ≤ k ∧ k < b + n then f (256 + (k - b)) else f k
theorem CPY_0 {f : Nat → Int32} {b n : Nat} (h : n = 0) : CPY f f b n := fun k => by rw [if_neg (by omega)]
theorem CPY_s {f g : Nat → Int32} {b n : Nat} {x i j : Int32} (h : CPY f g b n) (hb : b + n ≤ 256) (hi : i.toNatClampNeg = b + n) (hj : j.toNatClampNeg = 256 + n) (hx : x = g j.toNatClampNeg) : CPY f (upd g i.toNatClampNeg x) b (n + 1) := fun k => by
  unfold upd
  by_cases e : k = i.toNatClampNeg
  · rw [if_pos e, hx, h, if_neg (by omega), if_pos (by omega), hj, e, hi]
    congr 1
    omega
  · rw [if_neg e, h k]
    by_cases q : b ≤ k ∧ k < b + n
    · rw [if_pos q, if_pos (by omega)]
    · rw [if_neg q, if_neg (by omega)]
theorem JW_cpy {f g r : Nat → Int32} {w : Nat} {a : Int32} {n : Nat} (hj : JW f r) (hr : ∀ k : Nat, k < 2 → 0 ≤ (r k).toInt ∧ (r k).toInt ≤ 127) (hw : w < 2) (hn : n ≤ 127) (ha : a.toNatClampNeg = n) (hf : WFc f 256 n) (hc : CPY f g (128 * w) n) : JW g (upd r w a) := fun v hv => by
  by_cases e : v = w
  · subst e
    have e2 : upd r v a v = a := by unfold upd; rw [if_pos rfl]
    rw [e2, ha]
    refine WFc_congr (fun j hj2 => ?_) hf
    rw [hc, if_pos (by omega)]
    congr 1
    omega
  · have e2 : upd r w a v = r v := by unfold upd; rw [if_neg e]
    have h1 := hr v hv
    have h2 := i_clamp0 h1.1
    rw [e2]
    refine WFc_congr (fun j hj2 => ?_) (hj v hv)
    rw [hc, if_neg (by omega)]
end
section
set_option maxHeartbeats 4000000 in
set_option maxRecDepth 100000 in
theorem g_X9_tight (l : Launch) (D : va_G) (E : Nat → Nat) (p0 : Int32) (g0 : 0 ≤ p0.toInt ∧ p0.toInt ≤ 200) : Met l yX9_tight (wl yX9_tight cX9_tight 1 (some .int)) (RM 0 0 0) (rd_P D E [.int p0] ([] : va_W)) (rd_Q (fun r => ((p0.toInt = 5 ∧ r.toInt = 0) ∨ (p0.toInt ≠ 5 ∧ r.toInt = p0.toInt / 10)))) 0 0 (fun _ => False) := by
  refine Met.ofW (cc := cX9_tight) (maxL := 1) (ret := (some .int)) (by decide) rfl ?_
  intro p e s m args below meth c s₁ B hml hv
  obtain ⟨rfl, hP, hK⟩ := hv
  have hx := B.exec; have hb := B.bytes; have hr := B.returns
  have hts := atoms_spec (ws := wl yX9_tight cX9_tight 1 (some .int)) B.pre
  have htb : ∀ w ∈ tb, w.before _ s = true := fun w h => hts w (List.mem_cons_of_mem _ h)
  have hown : s.vm.findClass RX9 = some m.cls := findClass_of_methodNamed B.named
  have hlocks := B.notSynchronized
  have hP : va_P D vwCl ([] : va_W) s.heap := hP
  have hl := lv_entry ([.int p0]) (n := 1) (Nat.le_of_ble_eq_true rfl)
  rw [lg_entry_eq]
  generalize (lg_sl ([.int p0]) ++ List.replicate (1 - (lg_sl ([.int p0])).length) Slot.unset).toArray = ls at hl ⊢
  have hl : lv_has ls 1 [(0, .int p0)] := hl
  have lo_p0 := i_lo p0; have hi_p0 := i_hi p0
  refine lv_iload_n hx hb dX9_tight_0 rfl (lv_at hl 0 rfl) ?_
  refine lv_iconst (v := 5) hx hb dX9_tight_1 (by decide) ?_
  refine lv_icmp_ne (tgt := 9) hx hb dX9_tight_2 (by decide) (fun c_1 => ?_) (fun c_1 => ?_)
  ·
    have ic_1 : p0.toInt ≠ 5 := mt (g_eq rfl t_5).mpr c_1
    clear c_1
    refine lv_iload_n hx hb dX9_tight_9 rfl (lv_at hl 0 rfl) ?_
    refine lv_bipush (v := 10) hx hb dX9_tight_10 (by decide) ?_
    refine lv_idiv hx hb dX9_tight_12 (by decide) ?_
    refine lv_topi (fun z_2 ez_2 => ?_)
    have jz_2 : z_2.toInt = p0.toInt / 10 := by rw [ez_2]; exact g_div rfl t_10 (by omega) (by decide)
    exact W.iret (v := z_2) hx hb hr (fun t ht hW => ⟨z_2, rfl, (by (try dsimp only); omega), ht⟩) (fun q h => by cases h) dX9_tight_13
  ·
    have ic_1 : p0.toInt = 5 := (g_eq rfl t_5).mp c_1
    clear c_1
    refine lv_iconst (v := 0) hx hb dX9_tight_5 (by decide) ?_
    refine lv_goto (tgt := 13) hx hb dX9_tight_6 (by decide) ?_
    exact W.iret (v := 0) hx hb hr (fun t ht hW => ⟨0, rfl, (by have h0 := t_0; (try dsimp only); omega), ht⟩) (fun q h => by cases h) dX9_tight_13
set_option maxHeartbeats 4000000 in
set_option maxRecDepth 100000 in
theorem g_X9_signOf (l : Launch) (D : va_G) (E : Nat → Nat) (p0 : Int32)  : Met l yX9_signOf (wl yX9_signOf cX9_signOf 1 (some .int)) (RM 0 0 0) (rd_P D E [.int p0] ([] : va_W)) (rd_Q (fun r => (2 ≤ r.toInt ∧ r.toInt ≤ 61))) 0 0 (fun _ => False) := by
  refine Met.ofW (cc := cX9_signOf) (maxL := 1) (ret := (some .int)) (by decide) rfl ?_
  intro p e s m args below meth c s₁ B hml hv
  obtain ⟨rfl, hP, hK⟩ := hv
  have hx := B.exec; have hb := B.bytes; have hr := B.returns
  have hts := atoms_spec (ws := wl yX9_signOf cX9_signOf 1 (some .int)) B.pre
  have htb : ∀ w ∈ tb, w.before _ s = true := fun w h => hts w (List.mem_cons_of_mem _ h)
  have hown : s.vm.findClass RX9 = some m.cls := findClass_of_methodNamed B.named
  have hlocks := B.notSynchronized
  have hP : va_P D vwCl ([] : va_W) s.heap := hP
  have hl := lv_entry ([.int p0]) (n := 1) (Nat.le_of_ble_eq_true rfl)
  rw [lg_entry_eq]
  generalize (lg_sl ([.int p0]) ++ List.replicate (1 - (lg_sl ([.int p0])).length) Slot.unset).toArray = ls at hl ⊢
  have hl : lv_has ls 1 [(0, .int p0)] := hl
  have lo_p0 := i_lo p0; have hi_p0 := i_hi p0
  refine lv_iload_n hx hb dX9_signOf_0 rfl (lv_at hl 0 rfl) ?_
  by_cases h_1 : p0.toInt < 40 ∨ 62 < p0.toInt
  ·
    refine lv_tableOut (tgt := 134) hx hb dX9_signOf_1 h_1 (by decide) ?_
    refine lv_iconst (v := 2) hx hb dX9_signOf_134 (by decide) ?_
    exact W.iret (v := 2) hx hb hr (fun t ht hW => ⟨2, rfl, (by have h0 := t_2; (try dsimp only); omega), ht⟩) (fun q h => by cases h) dX9_signOf_135
  ·
    have h_2 : p0.toInt = 40 ∨ p0.toInt = 41 ∨ p0.toInt = 42 ∨ p0.toInt = 43 ∨ p0.toInt = 44 ∨ p0.toInt = 45 ∨ p0.toInt = 46 ∨ p0.toInt = 47 ∨ p0.toInt = 48 ∨ p0.toInt = 49 ∨ p0.toInt = 50 ∨ p0.toInt = 51 ∨ p0.toInt = 52 ∨ p0.toInt = 53 ∨ p0.toInt = 54 ∨ p0.toInt = 55 ∨ p0.toInt = 56 ∨ p0.toInt = 57 ∨ p0.toInt = 58 ∨ p0.toInt = 59 ∨ p0.toInt = 60 ∨ p0.toInt = 61 ∨ p0.toInt = 62 := by omega
    rcases h_2 with h_2 | h_2 | h_2 | h_2 | h_2 | h_2 | h_2 | h_2 | h_2 | h_2 | h_2 | h_2 | h_2 | h_2 | h_2 | h_2 | h_2 | h_2 | h_2 | h_2 | h_2 | h_2 | h_2
    ·
      refine lv_tableIn (off := 107) (tgt := 108) hx hb dX9_signOf_1 (by omega) (by omega) (by rw [h_2]; decide) (by decide) ?_
      refine lv_iconst (v := 5) hx hb dX9_signOf_108 (by decide) ?_
      exact W.iret (v := 5) hx hb hr (fun t ht hW => ⟨5, rfl, (by have h0 := t_5; (try dsimp only); omega), ht⟩) (fun q h => by cases h) dX9_signOf_109
    ·
      refine lv_tableIn (off := 109) (tgt := 110) hx hb dX9_signOf_1 (by omega) (by omega) (by rw [h_2]; decide) (by decide) ?_
      refine lv_bipush (v := 6) hx hb dX9_signOf_110 (by decide) ?_
      exact W.iret (v := 6) hx hb hr (fun t ht hW => ⟨6, rfl, (by have h0 := t_6; (try dsimp only); omega), ht⟩) (fun q h => by cases h) dX9_signOf_112
    ·
      refine lv_tableIn (off := 112) (tgt := 113) hx hb dX9_signOf_1 (by omega) (by omega) (by rw [h_2]; decide) (by decide) ?_
      refine lv_bipush (v := 60) hx hb dX9_signOf_113 (by decide) ?_
      exact W.iret (v := 60) hx hb hr (fun t ht hW => ⟨60, rfl, (by have h0 := t_60; (try dsimp only); omega), ht⟩) (fun q h => by cases h) dX9_signOf_115
    ·
      refine lv_tableIn (off := 115) (tgt := 116) hx hb dX9_signOf_1 (by omega) (by omega) (by rw [h_2]; decide) (by decide) ?_
      refine lv_bipush (v := 50) hx hb dX9_signOf_116 (by decide) ?_
      exact W.iret (v := 50) hx hb hr (fun t ht hW => ⟨50, rfl, (by have h0 := t_50; (try dsimp only); omega), ht⟩) (fun q h => by cases h) dX9_signOf_118
    ·
      refine lv_tableIn (off := 133) (tgt := 134) hx hb dX9_signOf_1 (by omega) (by omega) (by rw [h_2]; decide) (by decide) ?_
      refine lv_iconst (v := 2) hx hb dX9_signOf_134 (by decide) ?_
      exact W.iret (v := 2) hx hb hr (fun t ht hW => ⟨2, rfl, (by have h0 := t_2; (try dsimp only); omega), ht⟩) (fun q h => by cases h) dX9_signOf_135
    ·
      refine lv_tableIn (off := 118) (tgt := 119) hx hb dX9_signOf_1 (by omega) (by omega) (by rw [h_2]; decide) (by decide) ?_
      refine lv_bipush (v := 51) hx hb dX9_signOf_119 (by decide) ?_
      exact W.iret (v := 51) hx hb hr (fun t ht hW => ⟨51, rfl, (by have h0 := t_51; (try dsimp only); omega), ht⟩) (fun q h => by cases h) dX9_signOf_121
    ·
      refine lv_tableIn (off := 133) (tgt := 134) hx hb dX9_signOf_1 (by omega) (by omega) (by rw [h_2]; decide) (by decide) ?_
      refine lv_iconst (v := 2) hx hb dX9_signOf_134 (by decide) ?_
      exact W.iret (v := 2) hx hb hr (fun t ht hW => ⟨2, rfl, (by have h0 := t_2; (try dsimp only); omega), ht⟩) (fun q h => by cases h) dX9_signOf_135
    ·
      refine lv_tableIn (off := 121) (tgt := 122) hx hb dX9_signOf_1 (by omega) (by omega) (by rw [h_2]; decide) (by decide) ?_
      refine lv_bipush (v := 61) hx hb dX9_signOf_122 (by decide) ?_
      exact W.iret (v := 61) hx hb hr (fun t ht hW => ⟨61, rfl, (by have h0 := t_61; (try dsimp only); omega), ht⟩) (fun q h => by cases h) dX9_signOf_124
    ·
      refine lv_tableIn (off := 133) (tgt := 134) hx hb dX9_signOf_1 (by omega) (by omega) (by rw [h_2]; decide) (by decide) ?_
      refine lv_iconst (v := 2) hx hb dX9_signOf_134 (by decide) ?_
      exact W.iret (v := 2) hx hb hr (fun t ht hW => ⟨2, rfl, (by have h0 := t_2; (try dsimp only); omega), ht⟩) (fun q h => by cases h) dX9_signOf_135
    ·
      refine lv_tableIn (off := 133) (tgt := 134) hx hb dX9_signOf_1 (by omega) (by omega) (by rw [h_2]; decide) (by decide) ?_
      refine lv_iconst (v := 2) hx hb dX9_signOf_134 (by decide) ?_
      exact W.iret (v := 2) hx hb hr (fun t ht hW => ⟨2, rfl, (by have h0 := t_2; (try dsimp only); omega), ht⟩) (fun q h => by cases h) dX9_signOf_135
    ·
      refine lv_tableIn (off := 133) (tgt := 134) hx hb dX9_signOf_1 (by omega) (by omega) (by rw [h_2]; decide) (by decide) ?_
      refine lv_iconst (v := 2) hx hb dX9_signOf_134 (by decide) ?_
      exact W.iret (v := 2) hx hb hr (fun t ht hW => ⟨2, rfl, (by have h0 := t_2; (try dsimp only); omega), ht⟩) (fun q h => by cases h) dX9_signOf_135
    ·
      refine lv_tableIn (off := 133) (tgt := 134) hx hb dX9_signOf_1 (by omega) (by omega) (by rw [h_2]; decide) (by decide) ?_
      refine lv_iconst (v := 2) hx hb dX9_signOf_134 (by decide) ?_
      exact W.iret (v := 2) hx hb hr (fun t ht hW => ⟨2, rfl, (by have h0 := t_2; (try dsimp only); omega), ht⟩) (fun q h => by cases h) dX9_signOf_135
    ·
      refine lv_tableIn (off := 133) (tgt := 134) hx hb dX9_signOf_1 (by omega) (by omega) (by rw [h_2]; decide) (by decide) ?_
      refine lv_iconst (v := 2) hx hb dX9_signOf_134 (by decide) ?_
      exact W.iret (v := 2) hx hb hr (fun t ht hW => ⟨2, rfl, (by have h0 := t_2; (try dsimp only); omega), ht⟩) (fun q h => by cases h) dX9_signOf_135
    ·
      refine lv_tableIn (off := 133) (tgt := 134) hx hb dX9_signOf_1 (by omega) (by omega) (by rw [h_2]; decide) (by decide) ?_
      refine lv_iconst (v := 2) hx hb dX9_signOf_134 (by decide) ?_
      exact W.iret (v := 2) hx hb hr (fun t ht hW => ⟨2, rfl, (by have h0 := t_2; (try dsimp only); omega), ht⟩) (fun q h => by cases h) dX9_signOf_135
    ·
      refine lv_tableIn (off := 133) (tgt := 134) hx hb dX9_signOf_1 (by omega) (by omega) (by rw [h_2]; decide) (by decide) ?_
      refine lv_iconst (v := 2) hx hb dX9_signOf_134 (by decide) ?_
      exact W.iret (v := 2) hx hb hr (fun t ht hW => ⟨2, rfl, (by have h0 := t_2; (try dsimp only); omega), ht⟩) (fun q h => by cases h) dX9_signOf_135
    ·
      refine lv_tableIn (off := 133) (tgt := 134) hx hb dX9_signOf_1 (by omega) (by omega) (by rw [h_2]; decide) (by decide) ?_
      refine lv_iconst (v := 2) hx hb dX9_signOf_134 (by decide) ?_
      exact W.iret (v := 2) hx hb hr (fun t ht hW => ⟨2, rfl, (by have h0 := t_2; (try dsimp only); omega), ht⟩) (fun q h => by cases h) dX9_signOf_135
    ·
      refine lv_tableIn (off := 133) (tgt := 134) hx hb dX9_signOf_1 (by omega) (by omega) (by rw [h_2]; decide) (by decide) ?_
      refine lv_iconst (v := 2) hx hb dX9_signOf_134 (by decide) ?_
      exact W.iret (v := 2) hx hb hr (fun t ht hW => ⟨2, rfl, (by have h0 := t_2; (try dsimp only); omega), ht⟩) (fun q h => by cases h) dX9_signOf_135
    ·
      refine lv_tableIn (off := 133) (tgt := 134) hx hb dX9_signOf_1 (by omega) (by omega) (by rw [h_2]; decide) (by decide) ?_
      refine lv_iconst (v := 2) hx hb dX9_signOf_134 (by decide) ?_
      exact W.iret (v := 2) hx hb hr (fun t ht hW => ⟨2, rfl, (by have h0 := t_2; (try dsimp only); omega), ht⟩) (fun q h => by cases h) dX9_signOf_135
    ·
      refine lv_tableIn (off := 133) (tgt := 134) hx hb dX9_signOf_1 (by omega) (by omega) (by rw [h_2]; decide) (by decide) ?_
      refine lv_iconst (v := 2) hx hb dX9_signOf_134 (by decide) ?_
      exact W.iret (v := 2) hx hb hr (fun t ht hW => ⟨2, rfl, (by have h0 := t_2; (try dsimp only); omega), ht⟩) (fun q h => by cases h) dX9_signOf_135
    ·
      refine lv_tableIn (off := 133) (tgt := 134) hx hb dX9_signOf_1 (by omega) (by omega) (by rw [h_2]; decide) (by decide) ?_
      refine lv_iconst (v := 2) hx hb dX9_signOf_134 (by decide) ?_
      exact W.iret (v := 2) hx hb hr (fun t ht hW => ⟨2, rfl, (by have h0 := t_2; (try dsimp only); omega), ht⟩) (fun q h => by cases h) dX9_signOf_135
    ·
      refine lv_tableIn (off := 124) (tgt := 125) hx hb dX9_signOf_1 (by omega) (by omega) (by rw [h_2]; decide) (by decide) ?_
      refine lv_bipush (v := 40) hx hb dX9_signOf_125 (by decide) ?_
      exact W.iret (v := 40) hx hb hr (fun t ht hW => ⟨40, rfl, (by have h0 := t_40; (try dsimp only); omega), ht⟩) (fun q h => by cases h) dX9_signOf_127
    ·
      refine lv_tableIn (off := 127) (tgt := 128) hx hb dX9_signOf_1 (by omega) (by omega) (by rw [h_2]; decide) (by decide) ?_
      refine lv_bipush (v := 41) hx hb dX9_signOf_128 (by decide) ?_
      exact W.iret (v := 41) hx hb hr (fun t ht hW => ⟨41, rfl, (by have h0 := t_41; (try dsimp only); omega), ht⟩) (fun q h => by cases h) dX9_signOf_130
    ·
      refine lv_tableIn (off := 130) (tgt := 131) hx hb dX9_signOf_1 (by omega) (by omega) (by rw [h_2]; decide) (by decide) ?_
      refine lv_bipush (v := 42) hx hb dX9_signOf_131 (by decide) ?_
      exact W.iret (v := 42) hx hb hr (fun t ht hW => ⟨42, rfl, (by have h0 := t_42; (try dsimp only); omega), ht⟩) (fun q h => by cases h) dX9_signOf_133
set_option maxHeartbeats 4000000 in
set_option maxRecDepth 100000 in
theorem g_X9_wordOf (l : Launch) (D : va_G) (E : Nat → Nat) (p0 : Int64) (p1 : Int32)  : Met l yX9_wordOf (wl yX9_wordOf cX9_wordOf 3 (some .int)) (RM 0 0 0) (rd_P D E [.long p0, .int p1] ([] : va_W)) (rd_Q (fun r => (2 ≤ r.toInt ∧ r.toInt ≤ 123))) 0 0 (fun _ => False) := by
  refine Met.ofW (cc := cX9_wordOf) (maxL := 3) (ret := (some .int)) (by decide) rfl ?_
  intro p e s m args below meth c s₁ B hml hv
  obtain ⟨rfl, hP, hK⟩ := hv
  have hx := B.exec; have hb := B.bytes; have hr := B.returns
  have hts := atoms_spec (ws := wl yX9_wordOf cX9_wordOf 3 (some .int)) B.pre
  have htb : ∀ w ∈ tb, w.before _ s = true := fun w h => hts w (List.mem_cons_of_mem _ h)
  have hown : s.vm.findClass RX9 = some m.cls := findClass_of_methodNamed B.named
  have hlocks := B.notSynchronized
  have hP : va_P D vwCl ([] : va_W) s.heap := hP
  have hl := lv_entry ([.long p0, .int p1]) (n := 3) (Nat.le_of_ble_eq_true rfl)
  rw [lg_entry_eq]
  generalize (lg_sl ([.long p0, .int p1]) ++ List.replicate (3 - (lg_sl ([.long p0, .int p1])).length) Slot.unset).toArray = ls at hl ⊢
  have hl : lv_has ls 3 [(0, .long p0), (2, .int p1)] := hl
  have lo_p1 := i_lo p1; have hi_p1 := i_hi p1
  refine lv_lload_n hx hb dX9_wordOf_0 rfl (lv_at hl 0 rfl) ?_
  refine lv_ldc2 hx hb hown (htb _ k_1350) dX9_wordOf_1 ?_
  refine W.lcmp hx hb dX9_wordOf_4 ?_
  refine lv_topi (fun z_1 ez_1 => ?_)
  refine lv_if_ne (tgt := 11) hx hb dX9_wordOf_5 (by decide) (fun c_2 => ?_) (fun c_2 => ?_)
  ·
    have lc_3 : ¬ (p0 : Int64) = ((423) : Int64) := lc_ne (by rw [← ez_1]; exact c_2)
    refine lv_lload_n hx hb dX9_wordOf_11 rfl (lv_at hl 0 rfl) ?_
    refine lv_ldc2 hx hb hown (htb _ k_1351) dX9_wordOf_12 ?_
    refine W.lcmp hx hb dX9_wordOf_15 ?_
    refine lv_topi (fun z_4 ez_4 => ?_)
    refine lv_if_ne (tgt := 22) hx hb dX9_wordOf_16 (by decide) (fun c_5 => ?_) (fun c_5 => ?_)
    ·
      have lc_6 : ¬ (p0 : Int64) = ((1111) : Int64) := lc_ne (by rw [← ez_4]; exact c_5)
      refine lv_lload_n hx hb dX9_wordOf_22 rfl (lv_at hl 0 rfl) ?_
      refine lv_ldc2 hx hb hown (htb _ k_1352) dX9_wordOf_23 ?_
      refine W.lcmp hx hb dX9_wordOf_26 ?_
      refine lv_topi (fun z_7 ez_7 => ?_)
      refine lv_if_ne (tgt := 33) hx hb dX9_wordOf_27 (by decide) (fun c_8 => ?_) (fun c_8 => ?_)
      ·
        have lc_9 : ¬ (p0 : Int64) = ((10631) : Int64) := lc_ne (by rw [← ez_7]; exact c_8)
        refine lv_lload_n hx hb dX9_wordOf_33 rfl (lv_at hl 0 rfl) ?_
        refine lv_ldc2 hx hb hown (htb _ k_1353) dX9_wordOf_34 ?_
        refine W.lcmp hx hb dX9_wordOf_37 ?_
        refine lv_topi (fun z_10 ez_10 => ?_)
        refine lv_if_ne (tgt := 44) hx hb dX9_wordOf_38 (by decide) (fun c_11 => ?_) (fun c_11 => ?_)
        ·
          have lc_12 : ¬ (p0 : Int64) = ((802) : Int64) := lc_ne (by rw [← ez_10]; exact c_11)
          refine lv_lload_n hx hb dX9_wordOf_44 rfl (lv_at hl 0 rfl) ?_
          refine lv_ldc2 hx hb hown (htb _ k_1354) dX9_wordOf_45 ?_
          refine W.lcmp hx hb dX9_wordOf_48 ?_
          refine lv_topi (fun z_13 ez_13 => ?_)
          refine lv_if_ne (tgt := 64) hx hb dX9_wordOf_49 (by decide) (fun c_14 => ?_) (fun c_14 => ?_)
          ·
            have lc_15 : ¬ (p0 : Int64) = ((80155) : Int64) := lc_ne (by rw [← ez_13]; exact c_14)
            refine lv_iload_n hx hb dX9_wordOf_64 rfl (lv_at hl 1 rfl) ?_
            refine lv_if_ne (tgt := 160) hx hb dX9_wordOf_65 (by decide) (fun c_16 => ?_) (fun c_16 => ?_)
            ·
              have ic_16 : p1.toInt ≠ 0 := mt (g_eq rfl t_0).mpr c_16
              clear c_16
              refine lv_lload_n hx hb dX9_wordOf_160 rfl (lv_at hl 0 rfl) ?_
              refine lv_ldc2 hx hb hown (htb _ k_1363) dX9_wordOf_161 ?_
              refine W.lcmp hx hb dX9_wordOf_164 ?_
              refine lv_topi (fun z_17 ez_17 => ?_)
              refine lv_if_ne (tgt := 171) hx hb dX9_wordOf_165 (by decide) (fun c_18 => ?_) (fun c_18 => ?_)
              ·
                have lc_19 : ¬ (p0 : Int64) = ((11103) : Int64) := lc_ne (by rw [← ez_17]; exact c_18)
                refine lv_lload_n hx hb dX9_wordOf_171 rfl (lv_at hl 0 rfl) ?_
                refine lv_ldc2 hx hb hown (htb _ k_1364) dX9_wordOf_172 ?_
                refine W.lcmp hx hb dX9_wordOf_175 ?_
                refine lv_topi (fun z_20 ez_20 => ?_)
                refine lv_if_ne (tgt := 182) hx hb dX9_wordOf_176 (by decide) (fun c_21 => ?_) (fun c_21 => ?_)
                ·
                  have lc_22 : ¬ (p0 : Int64) = ((2436392) : Int64) := lc_ne (by rw [← ez_20]; exact c_21)
                  refine lv_lload_n hx hb dX9_wordOf_182 rfl (lv_at hl 0 rfl) ?_
                  refine lv_ldc2 hx hb hown (htb _ k_1365) dX9_wordOf_183 ?_
                  refine W.lcmp hx hb dX9_wordOf_186 ?_
                  refine lv_topi (fun z_23 ez_23 => ?_)
                  refine lv_if_ne (tgt := 195) hx hb dX9_wordOf_187 (by decide) (fun c_24 => ?_) (fun c_24 => ?_)
                  ·
                    have lc_25 : ¬ (p0 : Int64) = ((12387257) : Int64) := lc_ne (by rw [← ez_23]; exact c_24)
                    refine lv_iconst (v := 2) hx hb dX9_wordOf_195 (by decide) ?_
                    exact W.iret (v := 2) hx hb hr (fun t ht hW => ⟨2, rfl, (by have h0 := t_2; (try dsimp only); omega), ht⟩) (fun q h => by cases h) dX9_wordOf_196
                  ·
                    have lc_26 : (p0 : Int64) = ((12387257) : Int64) := lc_eq (by rw [← ez_23]; exact c_24)
                    refine lv_bipush (v := 123) hx hb dX9_wordOf_190 (by decide) ?_
                    refine lv_goto (tgt := 196) hx hb dX9_wordOf_192 (by decide) ?_
                    exact W.iret (v := 123) hx hb hr (fun t ht hW => ⟨123, rfl, (by have h0 := t_123; (try dsimp only); omega), ht⟩) (fun q h => by cases h) dX9_wordOf_196
                ·
                  have lc_27 : (p0 : Int64) = ((2436392) : Int64) := lc_eq (by rw [← ez_20]; exact c_21)
                  refine lv_bipush (v := 121) hx hb dX9_wordOf_179 (by decide) ?_
                  exact W.iret (v := 121) hx hb hr (fun t ht hW => ⟨121, rfl, (by have h0 := t_121; (try dsimp only); omega), ht⟩) (fun q h => by cases h) dX9_wordOf_181
              ·
                have lc_28 : (p0 : Int64) = ((11103) : Int64) := lc_eq (by rw [← ez_17]; exact c_18)
                refine lv_bipush (v := 120) hx hb dX9_wordOf_168 (by decide) ?_
                exact W.iret (v := 120) hx hb hr (fun t ht hW => ⟨120, rfl, (by have h0 := t_120; (try dsimp only); omega), ht⟩) (fun q h => by cases h) dX9_wordOf_170
            ·
              have ic_16 : p1.toInt = 0 := (g_eq rfl t_0).mp c_16
              clear c_16
              refine lv_lload_n hx hb dX9_wordOf_68 rfl (lv_at hl 0 rfl) ?_
              refine lv_ldc2 hx hb hown (htb _ k_1355) dX9_wordOf_69 ?_
              refine W.lcmp hx hb dX9_wordOf_72 ?_
              refine lv_topi (fun z_29 ez_29 => ?_)
              refine lv_if_ne (tgt := 79) hx hb dX9_wordOf_73 (by decide) (fun c_30 => ?_) (fun c_30 => ?_)
              ·
                have lc_31 : ¬ (p0 : Int64) = ((6476969) : Int64) := lc_ne (by rw [← ez_29]; exact c_30)
                refine lv_lload_n hx hb dX9_wordOf_79 rfl (lv_at hl 0 rfl) ?_
                refine lv_ldc2 hx hb hown (htb _ k_1356) dX9_wordOf_80 ?_
                refine W.lcmp hx hb dX9_wordOf_83 ?_
                refine lv_topi (fun z_32 ez_32 => ?_)
                refine lv_if_ne (tgt := 90) hx hb dX9_wordOf_84 (by decide) (fun c_33 => ?_) (fun c_33 => ?_)
                ·
                  have lc_34 : ¬ (p0 : Int64) = ((267347) : Int64) := lc_ne (by rw [← ez_32]; exact c_33)
                  refine lv_lload_n hx hb dX9_wordOf_90 rfl (lv_at hl 0 rfl) ?_
                  refine lv_ldc2 hx hb hown (htb _ k_1357) dX9_wordOf_91 ?_
                  refine W.lcmp hx hb dX9_wordOf_94 ?_
                  refine lv_topi (fun z_35 ez_35 => ?_)
                  refine lv_if_ne (tgt := 101) hx hb dX9_wordOf_95 (by decide) (fun c_36 => ?_) (fun c_36 => ?_)
                  ·
                    have lc_37 : ¬ (p0 : Int64) = ((385682) : Int64) := lc_ne (by rw [← ez_35]; exact c_36)
                    refine lv_lload_n hx hb dX9_wordOf_101 rfl (lv_at hl 0 rfl) ?_
                    refine lv_ldc2 hx hb hown (htb _ k_1358) dX9_wordOf_102 ?_
                    refine W.lcmp hx hb dX9_wordOf_105 ?_
                    refine lv_topi (fun z_38 ez_38 => ?_)
                    refine lv_if_ne (tgt := 112) hx hb dX9_wordOf_106 (by decide) (fun c_39 => ?_) (fun c_39 => ?_)
                    ·
                      have lc_40 : ¬ (p0 : Int64) = ((138961) : Int64) := lc_ne (by rw [← ez_38]; exact c_39)
                      refine lv_lload_n hx hb dX9_wordOf_112 rfl (lv_at hl 0 rfl) ?_
                      refine lv_ldc2 hx hb hown (htb _ k_1359) dX9_wordOf_113 ?_
                      refine W.lcmp hx hb dX9_wordOf_116 ?_
                      refine lv_topi (fun z_41 ez_41 => ?_)
                      refine lv_if_ne (tgt := 123) hx hb dX9_wordOf_117 (by decide) (fun c_42 => ?_) (fun c_42 => ?_)
                      ·
                        have lc_43 : ¬ (p0 : Int64) = ((212506) : Int64) := lc_ne (by rw [← ez_41]; exact c_42)
                        refine lv_lload_n hx hb dX9_wordOf_123 rfl (lv_at hl 0 rfl) ?_
                        refine lv_ldc2 hx hb hown (htb _ k_1360) dX9_wordOf_124 ?_
                        refine W.lcmp hx hb dX9_wordOf_127 ?_
                        refine lv_topi (fun z_44 ez_44 => ?_)
                        refine lv_if_ne (tgt := 134) hx hb dX9_wordOf_128 (by decide) (fun c_45 => ?_) (fun c_45 => ?_)
                        ·
                          have lc_46 : ¬ (p0 : Int64) = ((2486801) : Int64) := lc_ne (by rw [← ez_44]; exact c_45)
                          refine lv_lload_n hx hb dX9_wordOf_134 rfl (lv_at hl 0 rfl) ?_
                          refine lv_ldc2 hx hb hown (htb _ k_1361) dX9_wordOf_135 ?_
                          refine W.lcmp hx hb dX9_wordOf_138 ?_
                          refine lv_topi (fun z_47 ez_47 => ?_)
                          refine lv_if_ne (tgt := 145) hx hb dX9_wordOf_139 (by decide) (fun c_48 => ?_) (fun c_48 => ?_)
                          ·
                            have lc_49 : ¬ (p0 : Int64) = ((14431) : Int64) := lc_ne (by rw [← ez_47]; exact c_48)
                            refine lv_lload_n hx hb dX9_wordOf_145 rfl (lv_at hl 0 rfl) ?_
                            refine lv_ldc2 hx hb hown (htb _ k_1362) dX9_wordOf_146 ?_
                            refine W.lcmp hx hb dX9_wordOf_149 ?_
                            refine lv_topi (fun z_50 ez_50 => ?_)
                            refine lv_if_ne (tgt := 158) hx hb dX9_wordOf_150 (by decide) (fun c_51 => ?_) (fun c_51 => ?_)
                            ·
                              have lc_52 : ¬ (p0 : Int64) = ((453937) : Int64) := lc_ne (by rw [← ez_50]; exact c_51)
                              refine lv_iconst (v := 2) hx hb dX9_wordOf_158 (by decide) ?_
                              exact W.iret (v := 2) hx hb hr (fun t ht hW => ⟨2, rfl, (by have h0 := t_2; (try dsimp only); omega), ht⟩) (fun q h => by cases h) dX9_wordOf_159
                            ·
                              have lc_53 : (p0 : Int64) = ((453937) : Int64) := lc_eq (by rw [← ez_50]; exact c_51)
                              refine lv_bipush (v := 108) hx hb dX9_wordOf_153 (by decide) ?_
                              refine lv_goto (tgt := 159) hx hb dX9_wordOf_155 (by decide) ?_
                              exact W.iret (v := 108) hx hb hr (fun t ht hW => ⟨108, rfl, (by have h0 := t_108; (try dsimp only); omega), ht⟩) (fun q h => by cases h) dX9_wordOf_159
                          ·
                            have lc_54 : (p0 : Int64) = ((14431) : Int64) := lc_eq (by rw [← ez_47]; exact c_48)
                            refine lv_bipush (v := 107) hx hb dX9_wordOf_142 (by decide) ?_
                            exact W.iret (v := 107) hx hb hr (fun t ht hW => ⟨107, rfl, (by have h0 := t_107; (try dsimp only); omega), ht⟩) (fun q h => by cases h) dX9_wordOf_144
                        ·
                          have lc_55 : (p0 : Int64) = ((2486801) : Int64) := lc_eq (by rw [← ez_44]; exact c_45)
                          refine lv_bipush (v := 106) hx hb dX9_wordOf_131 (by decide) ?_
                          exact W.iret (v := 106) hx hb hr (fun t ht hW => ⟨106, rfl, (by have h0 := t_106; (try dsimp only); omega), ht⟩) (fun q h => by cases h) dX9_wordOf_133
                      ·
                        have lc_56 : (p0 : Int64) = ((212506) : Int64) := lc_eq (by rw [← ez_41]; exact c_42)
                        refine lv_bipush (v := 105) hx hb dX9_wordOf_120 (by decide) ?_
                        exact W.iret (v := 105) hx hb hr (fun t ht hW => ⟨105, rfl, (by have h0 := t_105; (try dsimp only); omega), ht⟩) (fun q h => by cases h) dX9_wordOf_122
                    ·
                      have lc_57 : (p0 : Int64) = ((138961) : Int64) := lc_eq (by rw [← ez_38]; exact c_39)
                      refine lv_bipush (v := 104) hx hb dX9_wordOf_109 (by decide) ?_
                      exact W.iret (v := 104) hx hb hr (fun t ht hW => ⟨104, rfl, (by have h0 := t_104; (try dsimp only); omega), ht⟩) (fun q h => by cases h) dX9_wordOf_111
                  ·
                    have lc_58 : (p0 : Int64) = ((385682) : Int64) := lc_eq (by rw [← ez_35]; exact c_36)
                    refine lv_bipush (v := 103) hx hb dX9_wordOf_98 (by decide) ?_
                    exact W.iret (v := 103) hx hb hr (fun t ht hW => ⟨103, rfl, (by have h0 := t_103; (try dsimp only); omega), ht⟩) (fun q h => by cases h) dX9_wordOf_100
                ·
                  have lc_59 : (p0 : Int64) = ((267347) : Int64) := lc_eq (by rw [← ez_32]; exact c_33)
                  refine lv_bipush (v := 102) hx hb dX9_wordOf_87 (by decide) ?_
                  exact W.iret (v := 102) hx hb hr (fun t ht hW => ⟨102, rfl, (by have h0 := t_102; (try dsimp only); omega), ht⟩) (fun q h => by cases h) dX9_wordOf_89
              ·
                have lc_60 : (p0 : Int64) = ((6476969) : Int64) := lc_eq (by rw [← ez_29]; exact c_30)
                refine lv_bipush (v := 101) hx hb dX9_wordOf_76 (by decide) ?_
                exact W.iret (v := 101) hx hb hr (fun t ht hW => ⟨101, rfl, (by have h0 := t_101; (try dsimp only); omega), ht⟩) (fun q h => by cases h) dX9_wordOf_78
          ·
            have lc_61 : (p0 : Int64) = ((80155) : Int64) := lc_eq (by rw [← ez_13]; exact c_14)
            refine lv_iload_n hx hb dX9_wordOf_52 rfl (lv_at hl 1 rfl) ?_
            refine lv_if_ne (tgt := 61) hx hb dX9_wordOf_53 (by decide) (fun c_62 => ?_) (fun c_62 => ?_)
            ·
              have ic_62 : p1.toInt ≠ 0 := mt (g_eq rfl t_0).mpr c_62
              clear c_62
              refine lv_bipush (v := 122) hx hb dX9_wordOf_61 (by decide) ?_
              exact W.iret (v := 122) hx hb hr (fun t ht hW => ⟨122, rfl, (by have h0 := t_122; (try dsimp only); omega), ht⟩) (fun q h => by cases h) dX9_wordOf_63
            ·
              have ic_62 : p1.toInt = 0 := (g_eq rfl t_0).mp c_62
              clear c_62
              refine lv_bipush (v := 100) hx hb dX9_wordOf_56 (by decide) ?_
              refine lv_goto (tgt := 63) hx hb dX9_wordOf_58 (by decide) ?_
              exact W.iret (v := 100) hx hb hr (fun t ht hW => ⟨100, rfl, (by have h0 := t_100; (try dsimp only); omega), ht⟩) (fun q h => by cases h) dX9_wordOf_63
        ·
          have lc_63 : (p0 : Int64) = ((802) : Int64) := lc_eq (by rw [← ez_10]; exact c_11)
          refine lv_bipush (v := 71) hx hb dX9_wordOf_41 (by decide) ?_
          exact W.iret (v := 71) hx hb hr (fun t ht hW => ⟨71, rfl, (by have h0 := t_71; (try dsimp only); omega), ht⟩) (fun q h => by cases h) dX9_wordOf_43
      ·
        have lc_64 : (p0 : Int64) = ((10631) : Int64) := lc_eq (by rw [← ez_7]; exact c_8)
        refine lv_bipush (v := 30) hx hb dX9_wordOf_30 (by decide) ?_
        exact W.iret (v := 30) hx hb hr (fun t ht hW => ⟨30, rfl, (by have h0 := t_30; (try dsimp only); omega), ht⟩) (fun q h => by cases h) dX9_wordOf_32
    ·
      have lc_65 : (p0 : Int64) = ((1111) : Int64) := lc_eq (by rw [← ez_4]; exact c_5)
      refine lv_bipush (v := 20) hx hb dX9_wordOf_19 (by decide) ?_
      exact W.iret (v := 20) hx hb hr (fun t ht hW => ⟨20, rfl, (by have h0 := t_20; (try dsimp only); omega), ht⟩) (fun q h => by cases h) dX9_wordOf_21
  ·
    have lc_66 : (p0 : Int64) = ((423) : Int64) := lc_eq (by rw [← ez_1]; exact c_2)
    refine lv_bipush (v := 10) hx hb dX9_wordOf_8 (by decide) ?_
    exact W.iret (v := 10) hx hb hr (fun t ht hW => ⟨10, rfl, (by have h0 := t_10; (try dsimp only); omega), ht⟩) (fun q h => by cases h) dX9_wordOf_10
set_option maxHeartbeats 4000000 in
set_option maxRecDepth 100000 in
theorem g_X9_both (l : Launch) (D : va_G) (E : Nat → Nat) (p0 : Int32) (p1 : Int32) (p2 : Int32)  : Met l yX9_both (wl yX9_both cX9_both 3 (some .int)) (RM 0 0 0) (rd_P D E [.int p0, .int p1, .int p2] ([] : va_W)) (rd_Q (fun r => True)) 0 0 (fun _ => False) := by
  refine Met.ofW (cc := cX9_both) (maxL := 3) (ret := (some .int)) (by decide) rfl ?_
  intro p e s m args below meth c s₁ B hml hv
  obtain ⟨rfl, hP, hK⟩ := hv
  have hx := B.exec; have hb := B.bytes; have hr := B.returns
  have hts := atoms_spec (ws := wl yX9_both cX9_both 3 (some .int)) B.pre
  have htb : ∀ w ∈ tb, w.before _ s = true := fun w h => hts w (List.mem_cons_of_mem _ h)
  have hown : s.vm.findClass RX9 = some m.cls := findClass_of_methodNamed B.named
  have hlocks := B.notSynchronized
  have hP : va_P D vwCl ([] : va_W) s.heap := hP
  have hl := lv_entry ([.int p0, .int p1, .int p2]) (n := 3) (Nat.le_of_ble_eq_true rfl)
  rw [lg_entry_eq]
  generalize (lg_sl ([.int p0, .int p1, .int p2]) ++ List.replicate (3 - (lg_sl ([.int p0, .int p1, .int p2])).length) Slot.unset).toArray = ls at hl ⊢
  have hl : lv_has ls 3 [(0, .int p0), (1, .int p1), (2, .int p2)] := hl
  have lo_p0 := i_lo p0; have hi_p0 := i_hi p0
  have lo_p1 := i_lo p1; have hi_p1 := i_hi p1
  have lo_p2 := i_lo p2; have hi_p2 := i_hi p2
  refine lv_iload_n hx hb dX9_both_0 rfl (lv_at hl 0 rfl) ?_
  by_cases h_1 : p0 = 10
  ·
    have ih_1 : p0.toInt = 10 := (g_eq rfl t_10).mp h_1
    refine lv_lookup (off := 75) (tgt := 76) hx hb dX9_both_1 (by decide) (by rw [ih_1]; decide) (by decide) ?_
    refine lv_iload_n hx hb dX9_both_76 rfl (lv_at hl 1 rfl) ?_
    refine lv_if_ne (tgt := 84) hx hb dX9_both_77 (by decide) (fun c_2 => ?_) (fun c_2 => ?_)
    ·
      have ic_2 : p1.toInt ≠ 0 := mt (g_eq rfl t_0).mpr c_2
      clear c_2
      refine lv_iconst (v := 1) hx hb dX9_both_84 (by decide) ?_
      refine lv_goto (tgt := 89) hx hb dX9_both_85 (by decide) ?_
      exact W.iret (v := 1) hx hb hr (fun t ht hW => ⟨1, rfl, trivial, ht⟩) (fun q h => by cases h) dX9_both_89
    ·
      have ic_2 : p1.toInt = 0 := (g_eq rfl t_0).mp c_2
      clear c_2
      refine lv_iload_n hx hb dX9_both_80 rfl (lv_at hl 2 rfl) ?_
      refine lv_if_eq (tgt := 88) hx hb dX9_both_81 (by decide) (fun c_3 => ?_) (fun c_3 => ?_)
      ·
        have ic_3 : p2.toInt = 0 := (g_eq rfl t_0).mp c_3
        clear c_3
        refine lv_iconst (v := 0) hx hb dX9_both_88 (by decide) ?_
        exact W.iret (v := 0) hx hb hr (fun t ht hW => ⟨0, rfl, trivial, ht⟩) (fun q h => by cases h) dX9_both_89
      ·
        have ic_3 : p2.toInt ≠ 0 := mt (g_eq rfl t_0).mpr c_3
        clear c_3
        refine lv_iconst (v := 1) hx hb dX9_both_84 (by decide) ?_
        refine lv_goto (tgt := 89) hx hb dX9_both_85 (by decide) ?_
        exact W.iret (v := 1) hx hb hr (fun t ht hW => ⟨1, rfl, trivial, ht⟩) (fun q h => by cases h) dX9_both_89
  ·
    have ih_1 : p0.toInt ≠ 10 := mt (g_eq rfl t_10).mpr h_1
    by_cases h_4 : p0 = 20
    ·
      have ih_4 : p0.toInt = 20 := (g_eq rfl t_20).mp h_4
      refine lv_lookup (off := 89) (tgt := 90) hx hb dX9_both_1 (by decide) (by rw [ih_4]; decide) (by decide) ?_
      refine lv_iload_n hx hb dX9_both_90 rfl (lv_at hl 1 rfl) ?_
      refine lv_if_eq (tgt := 102) hx hb dX9_both_91 (by decide) (fun c_5 => ?_) (fun c_5 => ?_)
      ·
        have ic_5 : p1.toInt = 0 := (g_eq rfl t_0).mp c_5
        clear c_5
        refine lv_iconst (v := 0) hx hb dX9_both_102 (by decide) ?_
        exact W.iret (v := 0) hx hb hr (fun t ht hW => ⟨0, rfl, trivial, ht⟩) (fun q h => by cases h) dX9_both_103
      ·
        have ic_5 : p1.toInt ≠ 0 := mt (g_eq rfl t_0).mpr c_5
        clear c_5
        refine lv_iload_n hx hb dX9_both_94 rfl (lv_at hl 2 rfl) ?_
        refine lv_if_eq (tgt := 102) hx hb dX9_both_95 (by decide) (fun c_6 => ?_) (fun c_6 => ?_)
        ·
          have ic_6 : p2.toInt = 0 := (g_eq rfl t_0).mp c_6
          clear c_6
          refine lv_iconst (v := 0) hx hb dX9_both_102 (by decide) ?_
          exact W.iret (v := 0) hx hb hr (fun t ht hW => ⟨0, rfl, trivial, ht⟩) (fun q h => by cases h) dX9_both_103
        ·
          have ic_6 : p2.toInt ≠ 0 := mt (g_eq rfl t_0).mpr c_6
          clear c_6
          refine lv_iconst (v := 1) hx hb dX9_both_98 (by decide) ?_
          refine lv_goto (tgt := 103) hx hb dX9_both_99 (by decide) ?_
          exact W.iret (v := 1) hx hb hr (fun t ht hW => ⟨1, rfl, trivial, ht⟩) (fun q h => by cases h) dX9_both_103
    ·
      have ih_4 : p0.toInt ≠ 20 := mt (g_eq rfl t_20).mpr h_4
      by_cases h_7 : p0 = 40
      ·
        have ih_7 : p0.toInt = 40 := (g_eq rfl t_40).mp h_7
        refine lv_lookup (off := 103) (tgt := 104) hx hb dX9_both_1 (by decide) (by rw [ih_7]; decide) (by decide) ?_
        refine lv_iload_n hx hb dX9_both_104 rfl (lv_at hl 1 rfl) ?_
        refine lv_iload_n hx hb dX9_both_105 rfl (lv_at hl 2 rfl) ?_
        refine lv_icmp_ge (tgt := 113) hx hb dX9_both_106 (by decide) (fun c_8 => ?_) (fun c_8 => ?_)
        ·
          have ic_8 : p2.toInt ≤ p1.toInt := by first | exact (g_le rfl rfl).mp c_8 | (have h := mt (g_lt rfl rfl).mpr c_8; omega)
          clear c_8
          refine lv_iconst (v := 0) hx hb dX9_both_113 (by decide) ?_
          exact W.iret (v := 0) hx hb hr (fun t ht hW => ⟨0, rfl, trivial, ht⟩) (fun q h => by cases h) dX9_both_114
        ·
          have ic_8 : p1.toInt < p2.toInt := by first | exact (g_lt rfl rfl).mp c_8 | (have h := mt (g_le rfl rfl).mpr c_8; omega)
          clear c_8
          refine lv_iconst (v := 1) hx hb dX9_both_109 (by decide) ?_
          refine lv_goto (tgt := 114) hx hb dX9_both_110 (by decide) ?_
          exact W.iret (v := 1) hx hb hr (fun t ht hW => ⟨1, rfl, trivial, ht⟩) (fun q h => by cases h) dX9_both_114
      ·
        have ih_7 : p0.toInt ≠ 40 := mt (g_eq rfl t_40).mpr h_7
        by_cases h_9 : p0 = 41
        ·
          have ih_9 : p0.toInt = 41 := (g_eq rfl t_41).mp h_9
          refine lv_lookup (off := 114) (tgt := 115) hx hb dX9_both_1 (by decide) (by rw [ih_9]; decide) (by decide) ?_
          refine lv_iload_n hx hb dX9_both_115 rfl (lv_at hl 1 rfl) ?_
          refine lv_iload_n hx hb dX9_both_116 rfl (lv_at hl 2 rfl) ?_
          refine lv_icmp_ne (tgt := 124) hx hb dX9_both_117 (by decide) (fun c_10 => ?_) (fun c_10 => ?_)
          ·
            have ic_10 : p1.toInt ≠ p2.toInt := mt (g_eq rfl rfl).mpr c_10
            clear c_10
            refine lv_iconst (v := 0) hx hb dX9_both_124 (by decide) ?_
            exact W.iret (v := 0) hx hb hr (fun t ht hW => ⟨0, rfl, trivial, ht⟩) (fun q h => by cases h) dX9_both_125
          ·
            have ic_10 : p1.toInt = p2.toInt := (g_eq rfl rfl).mp c_10
            clear c_10
            refine lv_iconst (v := 1) hx hb dX9_both_120 (by decide) ?_
            refine lv_goto (tgt := 125) hx hb dX9_both_121 (by decide) ?_
            exact W.iret (v := 1) hx hb hr (fun t ht hW => ⟨1, rfl, trivial, ht⟩) (fun q h => by cases h) dX9_both_125
        ·
          have ih_9 : p0.toInt ≠ 41 := mt (g_eq rfl t_41).mpr h_9
          by_cases h_11 : p0 = 42
          ·
            have ih_11 : p0.toInt = 42 := (g_eq rfl t_42).mp h_11
            refine lv_lookup (off := 125) (tgt := 126) hx hb dX9_both_1 (by decide) (by rw [ih_11]; decide) (by decide) ?_
            refine lv_iload_n hx hb dX9_both_126 rfl (lv_at hl 1 rfl) ?_
            refine lv_iload_n hx hb dX9_both_127 rfl (lv_at hl 2 rfl) ?_
            refine lv_icmp_le (tgt := 135) hx hb dX9_both_128 (by decide) (fun c_12 => ?_) (fun c_12 => ?_)
            ·
              have ic_12 : p1.toInt ≤ p2.toInt := by first | exact (g_le rfl rfl).mp c_12 | (have h := mt (g_lt rfl rfl).mpr c_12; omega)
              clear c_12
              refine lv_iconst (v := 0) hx hb dX9_both_135 (by decide) ?_
              exact W.iret (v := 0) hx hb hr (fun t ht hW => ⟨0, rfl, trivial, ht⟩) (fun q h => by cases h) dX9_both_136
            ·
              have ic_12 : p2.toInt < p1.toInt := by first | exact (g_lt rfl rfl).mp c_12 | (have h := mt (g_le rfl rfl).mpr c_12; omega)
              clear c_12
              refine lv_iconst (v := 1) hx hb dX9_both_131 (by decide) ?_
              refine lv_goto (tgt := 136) hx hb dX9_both_132 (by decide) ?_
              exact W.iret (v := 1) hx hb hr (fun t ht hW => ⟨1, rfl, trivial, ht⟩) (fun q h => by cases h) dX9_both_136
          ·
            have ih_11 : p0.toInt ≠ 42 := mt (g_eq rfl t_42).mpr h_11
            by_cases h_13 : p0 = 50
            ·
              have ih_13 : p0.toInt = 50 := (g_eq rfl t_50).mp h_13
              refine lv_lookup (off := 136) (tgt := 137) hx hb dX9_both_1 (by decide) (by rw [ih_13]; decide) (by decide) ?_
              refine lv_iload_n hx hb dX9_both_137 rfl (lv_at hl 1 rfl) ?_
              refine lv_iload_n hx hb dX9_both_138 rfl (lv_at hl 2 rfl) ?_
              refine lv_iadd hx hb dX9_both_139 ?_
              refine lv_topi (fun z_14 ez_14 => ?_)
              exact W.iret (v := z_14) hx hb hr (fun t ht hW => ⟨z_14, rfl, trivial, ht⟩) (fun q h => by cases h) dX9_both_140
            ·
              have ih_13 : p0.toInt ≠ 50 := mt (g_eq rfl t_50).mpr h_13
              by_cases h_15 : p0 = 51
              ·
                have ih_15 : p0.toInt = 51 := (g_eq rfl t_51).mp h_15
                refine lv_lookup (off := 140) (tgt := 141) hx hb dX9_both_1 (by decide) (by rw [ih_15]; decide) (by decide) ?_
                refine lv_iload_n hx hb dX9_both_141 rfl (lv_at hl 1 rfl) ?_
                refine lv_iload_n hx hb dX9_both_142 rfl (lv_at hl 2 rfl) ?_
                refine lv_isub hx hb dX9_both_143 ?_
                refine lv_topi (fun z_16 ez_16 => ?_)
                exact W.iret (v := z_16) hx hb hr (fun t ht hW => ⟨z_16, rfl, trivial, ht⟩) (fun q h => by cases h) dX9_both_144
              ·
                have ih_15 : p0.toInt ≠ 51 := mt (g_eq rfl t_51).mpr h_15
                by_cases h_17 : p0 = 60
                ·
                  have ih_17 : p0.toInt = 60 := (g_eq rfl t_60).mp h_17
                  refine lv_lookup (off := 144) (tgt := 145) hx hb dX9_both_1 (by decide) (by rw [ih_17]; decide) (by decide) ?_
                  refine lv_iload_n hx hb dX9_both_145 rfl (lv_at hl 1 rfl) ?_
                  refine lv_iload_n hx hb dX9_both_146 rfl (lv_at hl 2 rfl) ?_
                  refine lv_imul hx hb dX9_both_147 ?_
                  refine lv_topi (fun z_18 ez_18 => ?_)
                  exact W.iret (v := z_18) hx hb hr (fun t ht hW => ⟨z_18, rfl, trivial, ht⟩) (fun q h => by cases h) dX9_both_148
                ·
                  have ih_17 : p0.toInt ≠ 60 := mt (g_eq rfl t_60).mpr h_17
                  refine lv_lookup (off := 148) (tgt := 149) hx hb dX9_both_1 (by decide) (by rw [lv_osw h_1 t_10, lv_osw h_4 t_20, lv_osw h_7 t_40, lv_osw h_9 t_41, lv_osw h_11 t_42, lv_osw h_13 t_50, lv_osw h_15 t_51, lv_osw h_17 t_60]; rfl) (by decide) ?_
                  refine lv_iload_n hx hb dX9_both_149 rfl (lv_at hl 2 rfl) ?_
                  refine lv_if_ne (tgt := 157) hx hb dX9_both_150 (by decide) (fun c_19 => ?_) (fun c_19 => ?_)
                  ·
                    have ic_19 : p2.toInt ≠ 0 := mt (g_eq rfl t_0).mpr c_19
                    clear c_19
                    refine lv_iload_n hx hb dX9_both_157 rfl (lv_at hl 2 rfl) ?_
                    refine lv_iconst (v := (-1)) hx hb dX9_both_158 (by decide) ?_
                    refine lv_icmp_ne (tgt := 167) hx hb dX9_both_159 (by decide) (fun c_20 => ?_) (fun c_20 => ?_)
                    ·
                      have ic_20 : p2.toInt ≠ -1 := mt (g_eq rfl t_m1).mpr c_20
                      clear c_20
                      refine lv_iload_n hx hb dX9_both_167 rfl (lv_at hl 1 rfl) ?_
                      refine lv_iload_n hx hb dX9_both_168 rfl (lv_at hl 2 rfl) ?_
                      refine lv_idiv hx hb dX9_both_169 (fun h => absurd ((g_eq rfl t_0).mp h) (by omega)) ?_
                      refine lv_topi (fun z_21 ez_21 => ?_)
                      exact W.iret (v := z_21) hx hb hr (fun t ht hW => ⟨z_21, rfl, trivial, ht⟩) (fun q h => by cases h) dX9_both_170
                    ·
                      have ic_20 : p2.toInt = -1 := (g_eq rfl t_m1).mp c_20
                      clear c_20
                      refine lv_iload_n hx hb dX9_both_162 rfl (lv_at hl 1 rfl) ?_
                      refine lv_ineg hx hb dX9_both_163 ?_
                      refine lv_topi (fun z_22 ez_22 => ?_)
                      refine lv_goto (tgt := 170) hx hb dX9_both_164 (by decide) ?_
                      exact W.iret (v := z_22) hx hb hr (fun t ht hW => ⟨z_22, rfl, trivial, ht⟩) (fun q h => by cases h) dX9_both_170
                  ·
                    have ic_19 : p2.toInt = 0 := (g_eq rfl t_0).mp c_19
                    clear c_19
                    refine lv_iconst (v := 0) hx hb dX9_both_153 (by decide) ?_
                    refine lv_goto (tgt := 170) hx hb dX9_both_154 (by decide) ?_
                    exact W.iret (v := 0) hx hb hr (fun t ht hW => ⟨0, rfl, trivial, ht⟩) (fun q h => by cases h) dX9_both_170
set_option maxHeartbeats 4000000 in
set_option maxRecDepth 100000 in
theorem g_X9_lay (l : Launch) (D : va_G) (E : Nat → Nat) (mh : Nat) (ma : Nat → Nat) (mcode : Int32) (mtoday : Int32) (moffs : Int32) (mmany : Int64) (msumW : Int64) (msumA : Int64) (msumR : Int64) (msumWW : Int64) (msumWA : Int64) (msumAA : Int64) (msumWR : Int64) (msumAR : Int64) (mupper : Int64) (mlower : Int64) (mrates : Int32) (mtaped : Int32) (mlaid : Int32) (mat : Int32) (mtk : Int32) (mtkAt : Int32) (mtkNumber : Int32) (mwaits : Int32) (mlisted : Int32) (mdealtMany : Int32) (mf36 : Nat → Int32) (mf37 : Nat → Int32) (p0 : Int32) (p1 : Int32) (sz : Nat) (hi_m : (0 ≤ mtoday.toInt ∧ mtoday.toInt ≤ 399) ∧ (0 ≤ moffs.toInt ∧ moffs.toInt ≤ 60) ∧ (0 ≤ mrates.toInt ∧ mrates.toInt ≤ 60) ∧ (0 ≤ mtaped.toInt ∧ mtaped.toInt ≤ 120) ∧ (0 ≤ mlisted.toInt ∧ mlisted.toInt ≤ 9) ∧ (0 ≤ mdealtMany.toInt ∧ mdealtMany.toInt ≤ 9)) (g0 : 0 ≤ mlaid.toInt ∧ mlaid.toInt ≤ 127) : Met l yX9_lay (wl yX9_lay cX9_lay 3 none) (RM 0 0 0) (mu_P D E [.ref mh, .int p0, .int p1] [(mh, .inr (9, G9 ma mcode mtoday moffs mmany msumW msumA msumR msumWW msumWA msumAA msumWR msumAR mupper mlower mrates mtaped mlaid mat mtk mtkAt mtkNumber mwaits mlisted mdealtMany)), ((ma 36), .inl (E 0, 384, .inl mf36)), ((ma 37), .inl (E 0, 384, .inl mf37))] sz) (va_Qv (fun (u : (Nat → Int32) × (Nat → Int32) × (Int32)) => (u.1 = upd mf36 (256 + mlaid).toNatClampNeg p0) ∧ (u.2.2.toInt = mlaid.toInt + 1)) (mu_B D (va_A [(mh, .inr (9, G9 ma mcode mtoday moffs mmany msumW msumA msumR msumWW msumWA msumAA msumWR msumAR mupper mlower mrates mtaped mlaid mat mtk mtkAt mtkNumber mwaits mlisted mdealtMany)), ((ma 36), .inl (E 0, 384, .inl mf36)), ((ma 37), .inl (E 0, 384, .inl mf37))] sz) (fun (u : (Nat → Int32) × (Nat → Int32) × (Int32)) => [(mh, .inr (9, G9 ma mcode mtoday moffs mmany msumW msumA msumR msumWW msumWA msumAA msumWR msumAR mupper mlower mrates mtaped u.2.2 mat mtk mtkAt mtkNumber mwaits mlisted mdealtMany)), ((ma 36), .inl (E 0, 384, .inl u.1)), ((ma 37), .inl (E 0, 384, .inl u.2.1))])) (va_A [(mh, .inr (9, G9 ma mcode mtoday moffs mmany msumW msumA msumR msumWW msumWA msumAA msumWR msumAR mupper mlower mrates mtaped mlaid mat mtk mtkAt mtkNumber mwaits mlisted mdealtMany)), ((ma 36), .inl (E 0, 384, .inl mf36)), ((ma 37), .inl (E 0, 384, .inl mf37))] sz)) 0 0 (va_A [(mh, .inr (9, G9 ma mcode mtoday moffs mmany msumW msumA msumR msumWW msumWA msumAA msumWR msumAR mupper mlower mrates mtaped mlaid mat mtk mtkAt mtkNumber mwaits mlisted mdealtMany)), ((ma 36), .inl (E 0, 384, .inl mf36)), ((ma 37), .inl (E 0, 384, .inl mf37))] sz) := by
  refine Met.ofW (cc := cX9_lay) (maxL := 3) (ret := none) (by decide) rfl ?_
  intro p e s m args below meth c s₁ B hml hv
  obtain ⟨rfl, hsz, hP, hK, hD0⟩ := hv
  have hx := B.exec; have hb := B.bytes; have hr := B.returns
  have hts := atoms_spec (ws := wl yX9_lay cX9_lay 3 none) B.pre
  have htb : ∀ w ∈ tb, w.before _ s = true := fun w h => hts w (List.mem_cons_of_mem _ h)
  have hown : s.vm.findClass RX9 = some m.cls := findClass_of_methodNamed B.named
  have hlocks := B.notSynchronized
  subst hsz
  have hD := hD0.self (sz := s.heap.size)
  generalize hAe : va_A [(mh, .inr (9, G9 ma mcode mtoday moffs mmany msumW msumA msumR msumWW msumWA msumAA msumWR msumAR mupper mlower mrates mtaped mlaid mat mtk mtkAt mtkNumber mwaits mlisted mdealtMany)), ((ma 36), .inl (E 0, 384, .inl mf36)), ((ma 37), .inl (E 0, 384, .inl mf37))] s.heap.size = A at hD ⊢
  have hA : ∀ q : Nat, s.heap.size ≤ q → A q := fun q h => by rw [← hAe]; exact Or.inr h
  have hS : va_S A s.heap s.heap [] := va_S.rf
  have hP : va_P D vwCl [(mh, .inr (9, G9 ma mcode mtoday moffs mmany msumW msumA msumR msumWW msumWA msumAA msumWR msumAR mupper mlower mrates mtaped mlaid mat mtk mtkAt mtkNumber mwaits mlisted mdealtMany)), ((ma 36), .inl (E 0, 384, .inl mf36)), ((ma 37), .inl (E 0, 384, .inl mf37))] s.heap := hP
  have hl := lv_entry ([.ref mh, .int p0, .int p1]) (n := 3) (Nat.le_of_ble_eq_true rfl)
  rw [lg_entry_eq]
  generalize (lg_sl ([.ref mh, .int p0, .int p1]) ++ List.replicate (3 - (lg_sl ([.ref mh, .int p0, .int p1])).length) Slot.unset).toArray = ls at hl ⊢
  have hl : lv_has ls 3 [(0, .ref mh), (1, .int p0), (2, .int p1)] := hl
  have lo_p0 := i_lo p0; have hi_p0 := i_hi p0
  have lo_p1 := i_lo p1; have hi_p1 := i_hi p1
  refine lv_aload_n hx hb dX9_lay_0 rfl (lv_at hl 0 rfl) ?_
  refine va_get (D := D) (ci := 9) (v := .ref (ma 36)) (C := RX9) (T := TX9) (N := 68) hx hb htb iX9 hown hK.1 hP 0 rfl rfl 36 (by decide) (htb _ k_994) (fun _ h9 => h9) rfl dX9_lay_1 ?_
  refine lv_sipush (v := 256) hx hb dX9_lay_4 (by decide) ?_
  refine lv_aload_n hx hb dX9_lay_7 rfl (lv_at hl 0 rfl) ?_
  refine va_get (D := D) (ci := 9) (v := .int mlaid) (C := RX9) (T := TX9) (N := 68) hx hb htb iX9 hown hK.1 hP 0 rfl rfl 38 (by decide) (htb _ k_996) (fun _ h9 => h9) rfl dX9_lay_8 ?_
  refine lv_iadd hx hb dX9_lay_11 ?_
  refine lv_topi (fun z_1 ez_1 => ?_)
  have jz_1 : z_1.toInt = 256 + mlaid.toInt := by rw [ez_1]; exact g_add t_256 rfl (by omega) (by omega)
  refine lv_iload_n hx hb dX9_lay_12 rfl (lv_at hl 1 rfl) ?_
  refine va_iast hx hb hK.1 hP hD hS 1 0 rfl rfl (g_in rfl (by omega) (by omega)) dX9_lay_13 (fun H locs hP hD hS => ?_)
  have hP : va_P D vwCl [(mh, .inr (9, G9 ma mcode mtoday moffs mmany msumW msumA msumR msumWW msumWA msumAA msumWR msumAR mupper mlower mrates mtaped mlaid mat mtk mtkAt mtkNumber mwaits mlisted mdealtMany)), ((ma 36), .inl (E 0, 384, .inl (upd mf36 (z_1 : Int32).toNatClampNeg p0))), ((ma 37), .inl (E 0, 384, .inl mf37))] H := hP
  have hD := toW hP hD rfl
  refine lv_aload_n hx hb dX9_lay_14 rfl (lv_at hl 0 rfl) ?_
  refine va_get (D := D) (ci := 9) (v := .ref (ma 37)) (C := RX9) (T := TX9) (N := 68) hx hb htb iX9 hown hK.1 hP 0 rfl rfl 37 (by decide) (htb _ k_995) (fun _ h9 => h9) rfl dX9_lay_15 ?_
  refine lv_sipush (v := 256) hx hb dX9_lay_18 (by decide) ?_
  refine lv_aload_n hx hb dX9_lay_21 rfl (lv_at hl 0 rfl) ?_
  refine va_get (D := D) (ci := 9) (v := .int mlaid) (C := RX9) (T := TX9) (N := 68) hx hb htb iX9 hown hK.1 hP 0 rfl rfl 38 (by decide) (htb _ k_996) (fun _ h9 => h9) rfl dX9_lay_22 ?_
  refine lv_iadd hx hb dX9_lay_25 ?_
  refine lv_topi (fun z_2 ez_2 => ?_)
  have jz_2 : z_2.toInt = 256 + mlaid.toInt := by rw [ez_2]; exact g_add t_256 rfl (by omega) (by omega)
  refine lv_iload_n hx hb dX9_lay_26 rfl (lv_at hl 2 rfl) ?_
  refine va_iast hx hb hK.1 hP hD hS 2 0 rfl rfl (g_in rfl (by omega) (by omega)) dX9_lay_27 (fun H locs hP hD hS => ?_)
  have hP : va_P D vwCl [(mh, .inr (9, G9 ma mcode mtoday moffs mmany msumW msumA msumR msumWW msumWA msumAA msumWR msumAR mupper mlower mrates mtaped mlaid mat mtk mtkAt mtkNumber mwaits mlisted mdealtMany)), ((ma 36), .inl (E 0, 384, .inl (upd mf36 (z_1 : Int32).toNatClampNeg p0))), ((ma 37), .inl (E 0, 384, .inl (upd mf37 (z_2 : Int32).toNatClampNeg p1)))] H := hP
  have hD := toW hP hD rfl
  refine lv_aload_n hx hb dX9_lay_28 rfl (lv_at hl 0 rfl) ?_
  refine lv_dup hx hb dX9_lay_29 rfl ?_
  refine va_get (D := D) (ci := 9) (v := .int mlaid) (C := RX9) (T := TX9) (N := 68) hx hb htb iX9 hown hK.1 hP 0 rfl rfl 38 (by decide) (htb _ k_996) (fun _ h9 => h9) rfl dX9_lay_30 ?_
  refine lv_iconst (v := 1) hx hb dX9_lay_33 (by decide) ?_
  refine lv_iadd hx hb dX9_lay_34 ?_
  refine lv_topi (fun z_3 ez_3 => ?_)
  have jz_3 : z_3.toInt = mlaid.toInt + 1 := by rw [ez_3]; exact g_add rfl t_1 (by omega) (by omega)
  refine va_put (D := D) (ci := 9) (v := .int z_3) (ty := .int) (C := RX9) (T := TX9) (N := 68) hx hb htb iX9 tyX9 tyX9_ok nmX9 hown hK.1 hP hD hS 0 rfl rfl 38 (by decide) (htb _ k_996) (fun _ h9 => h9) rfl (by decide +kernel) rfl rfl (Nat.le_of_ble_eq_true rfl) dX9_lay_35 (fun H locs hP hD hS => ?_)
  have hP : va_P D vwCl [(mh, .inr (9, G9 ma mcode mtoday moffs mmany msumW msumA msumR msumWW msumWA msumAA msumWR msumAR mupper mlower mrates mtaped z_3 mat mtk mtkAt mtkNumber mwaits mlisted mdealtMany)), ((ma 36), .inl (E 0, 384, .inl (upd mf36 (z_1 : Int32).toNatClampNeg p0))), ((ma 37), .inl (E 0, 384, .inl (upd mf37 (z_2 : Int32).toNatClampNeg p1)))] H := hP
  have hD := toW hP hD rfl
  have hP9 := hP.sub (ws' := [(mh, .inr (9, G9 ma mcode mtoday moffs mmany msumW msumA msumR msumWW msumWA msumAA msumWR msumAR mupper mlower mrates mtaped z_3 mat mtk mtkAt mtkNumber mwaits mlisted mdealtMany)), ((ma 36), .inl (E 0, 384, .inl (upd mf36 (z_1 : Int32).toNatClampNeg p0))), ((ma 37), .inl (E 0, 384, .inl (upd mf37 (z_2 : Int32).toNatClampNeg p1)))]) [0, 1, 2] rfl
  have hD9 := hD.sub (ws' := [(mh, .inr (9, G9 ma mcode mtoday moffs mmany msumW msumA msumR msumWW msumWA msumAA msumWR msumAR mupper mlower mrates mtaped z_3 mat mtk mtkAt mtkNumber mwaits mlisted mdealtMany)), ((ma 36), .inl (E 0, 384, .inl (upd mf36 (z_1 : Int32).toNatClampNeg p0))), ((ma 37), .inl (E 0, 384, .inl (upd mf37 (z_2 : Int32).toNatClampNeg p1)))]) [0, 1, 2] (by decide) rfl
  exact W.vret hx hb hr (fun t ht hW => ⟨⟨((upd mf36 (z_1 : Int32).toNatClampNeg p0), (upd mf37 (z_2 : Int32).toNatClampNeg p1), z_3), rfl, ⟨(by (try dsimp only); subst_vars; rfl), (by (try dsimp only); omega)⟩, by rw [ht]; exact hP9, hD9⟩, hS.F ht⟩) hS.2.2 dX9_lay_38
set_option maxHeartbeats 4000000 in
set_option maxRecDepth 100000 in
theorem g_X9_opened (l : Launch) (D : va_G) (E : Nat → Nat) (mh : Nat) (ma : Nat → Nat) (mcode : Int32) (mtoday : Int32) (moffs : Int32) (mmany : Int64) (msumW : Int64) (msumA : Int64) (msumR : Int64) (msumWW : Int64) (msumWA : Int64) (msumAA : Int64) (msumWR : Int64) (msumAR : Int64) (mupper : Int64) (mlower : Int64) (mrates : Int32) (mtaped : Int32) (mlaid : Int32) (mat : Int32) (mtk : Int32) (mtkAt : Int32) (mtkNumber : Int32) (mwaits : Int32) (mlisted : Int32) (mdealtMany : Int32) (mf43 : Nat → Int32) (hi_m : (0 ≤ mtoday.toInt ∧ mtoday.toInt ≤ 399) ∧ (0 ≤ moffs.toInt ∧ moffs.toInt ≤ 60) ∧ (0 ≤ mrates.toInt ∧ mrates.toInt ≤ 60) ∧ (0 ≤ mtaped.toInt ∧ mtaped.toInt ≤ 120) ∧ (0 ≤ mlisted.toInt ∧ mlisted.toInt ≤ 9) ∧ (0 ≤ mdealtMany.toInt ∧ mdealtMany.toInt ≤ 9)) (g0 : 0 ≤ mwaits.toInt ∧ mwaits.toInt ≤ 130) : Met l yX9_opened (wl yX9_opened cX9_opened 3 (some .int)) (RM 0 0 0) (rd_P D E [.ref mh] [(mh, .inr (9, G9 ma mcode mtoday moffs mmany msumW msumA msumR msumWW msumWA msumAA msumWR msumAR mupper mlower mrates mtaped mlaid mat mtk mtkAt mtkNumber mwaits mlisted mdealtMany)), ((ma 43), .inl (E 0, 130, .inl mf43))]) (rd_Q (fun r => True)) 0 0 (fun _ => False) := by
  refine Met.ofW (cc := cX9_opened) (maxL := 3) (ret := (some .int)) (by decide) rfl ?_
  intro p e s m args below meth c s₁ B hml hv
  obtain ⟨rfl, hP, hK⟩ := hv
  have hx := B.exec; have hb := B.bytes; have hr := B.returns
  have hts := atoms_spec (ws := wl yX9_opened cX9_opened 3 (some .int)) B.pre
  have htb : ∀ w ∈ tb, w.before _ s = true := fun w h => hts w (List.mem_cons_of_mem _ h)
  have hown : s.vm.findClass RX9 = some m.cls := findClass_of_methodNamed B.named
  have hlocks := B.notSynchronized
  have hP : va_P D vwCl [(mh, .inr (9, G9 ma mcode mtoday moffs mmany msumW msumA msumR msumWW msumWA msumAA msumWR msumAR mupper mlower mrates mtaped mlaid mat mtk mtkAt mtkNumber mwaits mlisted mdealtMany)), ((ma 43), .inl (E 0, 130, .inl mf43))] s.heap := hP
  have hl := lv_entry ([.ref mh]) (n := 3) (Nat.le_of_ble_eq_true rfl)
  rw [lg_entry_eq]
  generalize (lg_sl ([.ref mh]) ++ List.replicate (3 - (lg_sl ([.ref mh])).length) Slot.unset).toArray = ls at hl ⊢
  have hl : lv_has ls 3 [(0, .ref mh)] := hl
  refine lv_iconst (v := 0) hx hb dX9_opened_0 (by decide) ?_
  refine lv_istore_n (lv' := [(1, .int 0), (0, .ref mh)]) hx hb dX9_opened_1 rfl hl (by decide) rfl (fun ls hl => ?_)
  refine lv_iconst (v := 0) hx hb dX9_opened_2 (by decide) ?_
  refine lv_istore_n (lv' := [(2, .int 0), (1, .int 0), (0, .ref mh)]) hx hb dX9_opened_3 rfl hl (by decide) rfl (fun ls hl => ?_)
  have loop_1 : ∀ (N_3 : Nat) (L2_4 : Int32) (L1_4 : Int32)  (ls : Array Slot), mwaits.toInt - L2_4.toInt < (N_3 : Int) → (0 ≤ L2_4.toInt ∧ L2_4.toInt ≤ mwaits.toInt) → lv_has ls 3 [(2, .int L2_4), (1, .int L1_4), (0, .ref mh)] → W p l e (headSpec (wl yX9_opened cX9_opened 3 (some .int)) (RM 0 0 0)).room s m [Value.ref mh].toArray below meth c s.heap [] 0 0 (MQ below (rd_Q (fun r => True)) [Value.ref mh].toArray s 0 0 (fun _ => False)) (F0 m 4 ls []) := by
    intro N_3
    induction N_3 with
    | zero => intro L2_4 L1_4  ls hm v0_4 _; exfalso; omega
    | succ N_3 ih_2 =>
      intro L2_4 L1_4 ls hm v0_4 hl
      have lo_L2_4 := i_lo L2_4; have hi_L2_4 := i_hi L2_4
      have lo_L1_4 := i_lo L1_4; have hi_L1_4 := i_hi L1_4
      refine lv_iload_n hx hb dX9_opened_4 rfl (lv_at hl 0 rfl) ?_
      refine lv_aload_n hx hb dX9_opened_5 rfl (lv_at hl 2 rfl) ?_
      refine va_get (D := D) (ci := 9) (v := .int mwaits) (C := RX9) (T := TX9) (N := 68) hx hb htb iX9 hown hK.1 hP 0 rfl rfl 44 (by decide) (htb _ k_1002) (fun _ h9 => h9) rfl dX9_opened_6 ?_
      refine lv_icmp_ge (tgt := 69) hx hb dX9_opened_9 (by decide) (fun c_4 => ?_) (fun c_4 => ?_)
      ·
        have ic_4 : mwaits.toInt ≤ L2_4.toInt := by first | exact (g_le rfl rfl).mp c_4 | (have h := mt (g_lt rfl rfl).mpr c_4; omega)
        clear c_4
        refine lv_iload_n hx hb dX9_opened_69 rfl (lv_at hl 1 rfl) ?_
        exact W.iret (v := L1_4) hx hb hr (fun t ht hW => ⟨L1_4, rfl, trivial, ht⟩) (fun q h => by cases h) dX9_opened_70
      ·
        have ic_4 : L2_4.toInt < mwaits.toInt := by first | exact (g_lt rfl rfl).mp c_4 | (have h := mt (g_le rfl rfl).mpr c_4; omega)
        clear c_4
        refine lv_iload_n hx hb dX9_opened_12 rfl (lv_at hl 1 rfl) ?_
        refine lv_aload_n hx hb dX9_opened_13 rfl (lv_at hl 2 rfl) ?_
        refine va_get (D := D) (ci := 9) (v := .ref (ma 43)) (C := RX9) (T := TX9) (N := 68) hx hb htb iX9 hown hK.1 hP 0 rfl rfl 43 (by decide) (htb _ k_1001) (fun _ h9 => h9) rfl dX9_opened_14 ?_
        refine lv_iload_n hx hb dX9_opened_17 rfl (lv_at hl 0 rfl) ?_
        refine va_iald hx hb hK.1 hP 1 0 rfl rfl (g_in rfl (by omega) (by omega)) dX9_opened_18 ?_
        refine lv_topi (fun z_5 ez_5 => ?_)
        have kz_5 := congrArg Int32.toInt ez_5
        refine lv_iconst (v := 5) hx hb dX9_opened_19 (by decide) ?_
        refine lv_icmp_eq (tgt := 56) hx hb dX9_opened_20 (by decide) (fun c_6 => ?_) (fun c_6 => ?_)
        ·
          have ic_6 : z_5.toInt = 5 := (g_eq rfl t_5).mp c_6
          clear c_6
          refine lv_iconst (v := 1) hx hb dX9_opened_56 (by decide) ?_
          refine lv_goto (tgt := 61) hx hb dX9_opened_57 (by decide) ?_
          refine lv_iadd hx hb dX9_opened_61 ?_
          refine lv_topi (fun z_7 ez_7 => ?_)
          refine lv_istore_n (lv' := [(1, .int z_7), (2, .int L2_4), (0, .ref mh)]) hx hb dX9_opened_62 rfl hl (by decide) rfl (fun ls hl => ?_)
          obtain ⟨z_8, ez_8⟩ : ∃ y : Int32, y = L2_4 + 1 := ⟨_, rfl⟩
          have jz_8 : z_8.toInt = L2_4.toInt + 1 := by rw [ez_8]; exact g_add rfl t_1 (by omega) (by omega)
          refine lv_iinc (v := z_8) (lv' := [(2, .int z_8), (1, .int z_7), (0, .ref mh)]) hx hb dX9_opened_63 hl (k := 1) rfl (by rw [ez_8]; rfl) (by decide) rfl (fun ls hl => ?_)
          refine lv_goto (tgt := 4) hx hb dX9_opened_66 (by decide) ?_
          exact ih_2 z_8 z_7 _ (by (try dsimp only); omega) (by (try dsimp only); omega) (lv_sub hl [0, 1, 2] rfl)
        ·
          have ic_6 : z_5.toInt ≠ 5 := mt (g_eq rfl t_5).mpr c_6
          clear c_6
          refine lv_aload_n hx hb dX9_opened_23 rfl (lv_at hl 2 rfl) ?_
          refine va_get (D := D) (ci := 9) (v := .ref (ma 43)) (C := RX9) (T := TX9) (N := 68) hx hb htb iX9 hown hK.1 hP 0 rfl rfl 43 (by decide) (htb _ k_1001) (fun _ h9 => h9) rfl dX9_opened_24 ?_
          refine lv_iload_n hx hb dX9_opened_27 rfl (lv_at hl 0 rfl) ?_
          refine va_iald hx hb hK.1 hP 1 0 rfl rfl (g_in rfl (by omega) (by omega)) dX9_opened_28 ?_
          refine lv_topi (fun z_9 ez_9 => ?_)
          have kz_9 := congrArg Int32.toInt ez_9
          refine lv_bipush (v := 30) hx hb dX9_opened_29 (by decide) ?_
          refine lv_icmp_eq (tgt := 56) hx hb dX9_opened_31 (by decide) (fun c_10 => ?_) (fun c_10 => ?_)
          ·
            have ic_10 : z_9.toInt = 30 := (g_eq rfl t_30).mp c_10
            clear c_10
            refine lv_iconst (v := 1) hx hb dX9_opened_56 (by decide) ?_
            refine lv_goto (tgt := 61) hx hb dX9_opened_57 (by decide) ?_
            refine lv_iadd hx hb dX9_opened_61 ?_
            refine lv_topi (fun z_11 ez_11 => ?_)
            refine lv_istore_n (lv' := [(1, .int z_11), (2, .int L2_4), (0, .ref mh)]) hx hb dX9_opened_62 rfl hl (by decide) rfl (fun ls hl => ?_)
            obtain ⟨z_12, ez_12⟩ : ∃ y : Int32, y = L2_4 + 1 := ⟨_, rfl⟩
            have jz_12 : z_12.toInt = L2_4.toInt + 1 := by rw [ez_12]; exact g_add rfl t_1 (by omega) (by omega)
            refine lv_iinc (v := z_12) (lv' := [(2, .int z_12), (1, .int z_11), (0, .ref mh)]) hx hb dX9_opened_63 hl (k := 1) rfl (by rw [ez_12]; rfl) (by decide) rfl (fun ls hl => ?_)
            refine lv_goto (tgt := 4) hx hb dX9_opened_66 (by decide) ?_
            exact ih_2 z_12 z_11 _ (by (try dsimp only); omega) (by (try dsimp only); omega) (lv_sub hl [0, 1, 2] rfl)
          ·
            have ic_10 : z_9.toInt ≠ 30 := mt (g_eq rfl t_30).mpr c_10
            clear c_10
            refine lv_aload_n hx hb dX9_opened_34 rfl (lv_at hl 2 rfl) ?_
            refine va_get (D := D) (ci := 9) (v := .ref (ma 43)) (C := RX9) (T := TX9) (N := 68) hx hb htb iX9 hown hK.1 hP 0 rfl rfl 43 (by decide) (htb _ k_1001) (fun _ h9 => h9) rfl dX9_opened_35 ?_
            refine lv_iload_n hx hb dX9_opened_38 rfl (lv_at hl 0 rfl) ?_
            refine va_iald hx hb hK.1 hP 1 0 rfl rfl (g_in rfl (by omega) (by omega)) dX9_opened_39 ?_
            refine lv_topi (fun z_13 ez_13 => ?_)
            have kz_13 := congrArg Int32.toInt ez_13
            refine lv_bipush (v := 70) hx hb dX9_opened_40 (by decide) ?_
            refine lv_icmp_eq (tgt := 56) hx hb dX9_opened_42 (by decide) (fun c_14 => ?_) (fun c_14 => ?_)
            ·
              have ic_14 : z_13.toInt = 70 := (g_eq rfl t_70).mp c_14
              clear c_14
              refine lv_iconst (v := 1) hx hb dX9_opened_56 (by decide) ?_
              refine lv_goto (tgt := 61) hx hb dX9_opened_57 (by decide) ?_
              refine lv_iadd hx hb dX9_opened_61 ?_
              refine lv_topi (fun z_15 ez_15 => ?_)
              refine lv_istore_n (lv' := [(1, .int z_15), (2, .int L2_4), (0, .ref mh)]) hx hb dX9_opened_62 rfl hl (by decide) rfl (fun ls hl => ?_)
              obtain ⟨z_16, ez_16⟩ : ∃ y : Int32, y = L2_4 + 1 := ⟨_, rfl⟩
              have jz_16 : z_16.toInt = L2_4.toInt + 1 := by rw [ez_16]; exact g_add rfl t_1 (by omega) (by omega)
              refine lv_iinc (v := z_16) (lv' := [(2, .int z_16), (1, .int z_15), (0, .ref mh)]) hx hb dX9_opened_63 hl (k := 1) rfl (by rw [ez_16]; rfl) (by decide) rfl (fun ls hl => ?_)
              refine lv_goto (tgt := 4) hx hb dX9_opened_66 (by decide) ?_
              exact ih_2 z_16 z_15 _ (by (try dsimp only); omega) (by (try dsimp only); omega) (lv_sub hl [0, 1, 2] rfl)
            ·
              have ic_14 : z_13.toInt ≠ 70 := mt (g_eq rfl t_70).mpr c_14
              clear c_14
              refine lv_aload_n hx hb dX9_opened_45 rfl (lv_at hl 2 rfl) ?_
              refine va_get (D := D) (ci := 9) (v := .ref (ma 43)) (C := RX9) (T := TX9) (N := 68) hx hb htb iX9 hown hK.1 hP 0 rfl rfl 43 (by decide) (htb _ k_1001) (fun _ h9 => h9) rfl dX9_opened_46 ?_
              refine lv_iload_n hx hb dX9_opened_49 rfl (lv_at hl 0 rfl) ?_
              refine va_iald hx hb hK.1 hP 1 0 rfl rfl (g_in rfl (by omega) (by omega)) dX9_opened_50 ?_
              refine lv_topi (fun z_17 ez_17 => ?_)
              have kz_17 := congrArg Int32.toInt ez_17
              refine lv_bipush (v := 71) hx hb dX9_opened_51 (by decide) ?_
              refine lv_icmp_ne (tgt := 60) hx hb dX9_opened_53 (by decide) (fun c_18 => ?_) (fun c_18 => ?_)
              ·
                have ic_18 : z_17.toInt ≠ 71 := mt (g_eq rfl t_71).mpr c_18
                clear c_18
                refine lv_iconst (v := 0) hx hb dX9_opened_60 (by decide) ?_
                refine lv_iadd hx hb dX9_opened_61 ?_
                refine lv_topi (fun z_19 ez_19 => ?_)
                have jz_19 : z_19.toInt = L1_4.toInt + 0 := by rw [ez_19]; exact g_add rfl t_0 (by omega) (by omega)
                refine lv_istore_n (lv' := [(1, .int z_19), (2, .int L2_4), (0, .ref mh)]) hx hb dX9_opened_62 rfl hl (by decide) rfl (fun ls hl => ?_)
                obtain ⟨z_20, ez_20⟩ : ∃ y : Int32, y = L2_4 + 1 := ⟨_, rfl⟩
                have jz_20 : z_20.toInt = L2_4.toInt + 1 := by rw [ez_20]; exact g_add rfl t_1 (by omega) (by omega)
                refine lv_iinc (v := z_20) (lv' := [(2, .int z_20), (1, .int z_19), (0, .ref mh)]) hx hb dX9_opened_63 hl (k := 1) rfl (by rw [ez_20]; rfl) (by decide) rfl (fun ls hl => ?_)
                refine lv_goto (tgt := 4) hx hb dX9_opened_66 (by decide) ?_
                exact ih_2 z_20 z_19 _ (by (try dsimp only); omega) (by (try dsimp only); omega) (lv_sub hl [0, 1, 2] rfl)
              ·
                have ic_18 : z_17.toInt = 71 := (g_eq rfl t_71).mp c_18
                clear c_18
                refine lv_iconst (v := 1) hx hb dX9_opened_56 (by decide) ?_
                refine lv_goto (tgt := 61) hx hb dX9_opened_57 (by decide) ?_
                refine lv_iadd hx hb dX9_opened_61 ?_
                refine lv_topi (fun z_21 ez_21 => ?_)
                refine lv_istore_n (lv' := [(1, .int z_21), (2, .int L2_4), (0, .ref mh)]) hx hb dX9_opened_62 rfl hl (by decide) rfl (fun ls hl => ?_)
                obtain ⟨z_22, ez_22⟩ : ∃ y : Int32, y = L2_4 + 1 := ⟨_, rfl⟩
                have jz_22 : z_22.toInt = L2_4.toInt + 1 := by rw [ez_22]; exact g_add rfl t_1 (by omega) (by omega)
                refine lv_iinc (v := z_22) (lv' := [(2, .int z_22), (1, .int z_21), (0, .ref mh)]) hx hb dX9_opened_63 hl (k := 1) rfl (by rw [ez_22]; rfl) (by decide) rfl (fun ls hl => ?_)
                refine lv_goto (tgt := 4) hx hb dX9_opened_66 (by decide) ?_
                exact ih_2 z_22 z_21 _ (by (try dsimp only); omega) (by (try dsimp only); omega) (lv_sub hl [0, 1, 2] rfl)
  exact loop_1 131 0 0 _ (by have h0 := t_0; (try dsimp only); omega) (by have h0 := t_0; (try dsimp only); omega)  (lv_sub hl [0, 1, 2] rfl)
set_option maxHeartbeats 4000000 in
set_option maxRecDepth 100000 in
theorem g_X9_done (l : Launch) (D : va_G) (E : Nat → Nat) (mh : Nat) (ma : Nat → Nat) (mcode : Int32) (mtoday : Int32) (moffs : Int32) (mmany : Int64) (msumW : Int64) (msumA : Int64) (msumR : Int64) (msumWW : Int64) (msumWA : Int64) (msumAA : Int64) (msumWR : Int64) (msumAR : Int64) (mupper : Int64) (mlower : Int64) (mrates : Int32) (mtaped : Int32) (mlaid : Int32) (mat : Int32) (mtk : Int32) (mtkAt : Int32) (mtkNumber : Int32) (mwaits : Int32) (mlisted : Int32) (mdealtMany : Int32) (mf36 : Nat → Int32) (mf37 : Nat → Int32) (mf43 : Nat → Int32) (p0 : Int32) (sz : Nat) (hi_m : (0 ≤ mtoday.toInt ∧ mtoday.toInt ≤ 399) ∧ (0 ≤ moffs.toInt ∧ moffs.toInt ≤ 60) ∧ (0 ≤ mrates.toInt ∧ mrates.toInt ≤ 60) ∧ (0 ≤ mtaped.toInt ∧ mtaped.toInt ≤ 120) ∧ (0 ≤ mlisted.toInt ∧ mlisted.toInt ≤ 9) ∧ (0 ≤ mdealtMany.toInt ∧ mdealtMany.toInt ≤ 9)) (g0 : 1 ≤ p0.toInt ∧ 0 ≤ mlaid.toInt ∧ 0 ≤ mwaits.toInt ∧ mlaid.toInt + mwaits.toInt ≤ 120) (gpi : PI mf36 mf43 mlaid mwaits 1) : Met l yX9_done (wl yX9_done cX9_done 2 none) (RM 1 0 0) (mu_P D E [.ref mh, .int p0] [(mh, .inr (9, G9 ma mcode mtoday moffs mmany msumW msumA msumR msumWW msumWA msumAA msumWR msumAR mupper mlower mrates mtaped mlaid mat mtk mtkAt mtkNumber mwaits mlisted mdealtMany)), ((ma 36), .inl (E 0, 384, .inl mf36)), ((ma 37), .inl (E 0, 384, .inl mf37)), ((ma 43), .inl (E 0, 130, .inl mf43))] sz) (va_Qv (fun (u : (Nat → Int32) × (Nat → Int32) × (Int32) × (Int32)) => (PI u.1 mf43 u.2.2.1 u.2.2.2 1) ∧ (LOW mf36 u.1) ∧ (0 ≤ u.2.2.1.toInt ∧ 0 ≤ u.2.2.2.toInt ∧ u.2.2.2.toInt ≤ mwaits.toInt ∧ u.2.2.1.toInt + u.2.2.2.toInt = mlaid.toInt + mwaits.toInt) ∧ (u.2.2.2.toInt = 0 ∨ (mf43 (u.2.2.2.toInt - 1).toNat).toInt = 5 ∨ (mf43 (u.2.2.2.toInt - 1).toNat).toInt / 10 < p0.toInt)) (mu_B D (va_A [(mh, .inr (9, G9 ma mcode mtoday moffs mmany msumW msumA msumR msumWW msumWA msumAA msumWR msumAR mupper mlower mrates mtaped mlaid mat mtk mtkAt mtkNumber mwaits mlisted mdealtMany)), ((ma 36), .inl (E 0, 384, .inl mf36)), ((ma 37), .inl (E 0, 384, .inl mf37)), ((ma 43), .inl (E 0, 130, .inl mf43))] sz) (fun (u : (Nat → Int32) × (Nat → Int32) × (Int32) × (Int32)) => [(mh, .inr (9, G9 ma mcode mtoday moffs mmany msumW msumA msumR msumWW msumWA msumAA msumWR msumAR mupper mlower mrates mtaped u.2.2.1 mat mtk mtkAt mtkNumber u.2.2.2 mlisted mdealtMany)), ((ma 36), .inl (E 0, 384, .inl u.1)), ((ma 37), .inl (E 0, 384, .inl u.2.1)), ((ma 43), .inl (E 0, 130, .inl mf43))])) (va_A [(mh, .inr (9, G9 ma mcode mtoday moffs mmany msumW msumA msumR msumWW msumWA msumAA msumWR msumAR mupper mlower mrates mtaped mlaid mat mtk mtkAt mtkNumber mwaits mlisted mdealtMany)), ((ma 36), .inl (E 0, 384, .inl mf36)), ((ma 37), .inl (E 0, 384, .inl mf37)), ((ma 43), .inl (E 0, 130, .inl mf43))] sz)) 0 0 (va_A [(mh, .inr (9, G9 ma mcode mtoday moffs mmany msumW msumA msumR msumWW msumWA msumAA msumWR msumAR mupper mlower mrates mtaped mlaid mat mtk mtkAt mtkNumber mwaits mlisted mdealtMany)), ((ma 36), .inl (E 0, 384, .inl mf36)), ((ma 37), .inl (E 0, 384, .inl mf37)), ((ma 43), .inl (E 0, 130, .inl mf43))] sz) := by
  refine Met.ofW (cc := cX9_done) (maxL := 2) (ret := none) (by decide) rfl ?_
  intro p e s m args below meth c s₁ B hml hv
  obtain ⟨rfl, hsz, hP, hK, hD0⟩ := hv
  have hx := B.exec; have hb := B.bytes; have hr := B.returns
  have hts := atoms_spec (ws := wl yX9_done cX9_done 2 none) B.pre
  have htb : ∀ w ∈ tb, w.before _ s = true := fun w h => hts w (List.mem_cons_of_mem _ h)
  have hown : s.vm.findClass RX9 = some m.cls := findClass_of_methodNamed B.named
  have hlocks := B.notSynchronized
  subst hsz
  have hD := hD0.self (sz := s.heap.size)
  generalize hAe : va_A [(mh, .inr (9, G9 ma mcode mtoday moffs mmany msumW msumA msumR msumWW msumWA msumAA msumWR msumAR mupper mlower mrates mtaped mlaid mat mtk mtkAt mtkNumber mwaits mlisted mdealtMany)), ((ma 36), .inl (E 0, 384, .inl mf36)), ((ma 37), .inl (E 0, 384, .inl mf37)), ((ma 43), .inl (E 0, 130, .inl mf43))] s.heap.size = A at hD ⊢
  have hA : ∀ q : Nat, s.heap.size ≤ q → A q := fun q h => by rw [← hAe]; exact Or.inr h
  have hS : va_S A s.heap s.heap [] := va_S.rf
  have hP : va_P D vwCl [(mh, .inr (9, G9 ma mcode mtoday moffs mmany msumW msumA msumR msumWW msumWA msumAA msumWR msumAR mupper mlower mrates mtaped mlaid mat mtk mtkAt mtkNumber mwaits mlisted mdealtMany)), ((ma 36), .inl (E 0, 384, .inl mf36)), ((ma 37), .inl (E 0, 384, .inl mf37)), ((ma 43), .inl (E 0, 130, .inl mf43))] s.heap := hP
  have hl := lv_entry ([.ref mh, .int p0]) (n := 2) (Nat.le_of_ble_eq_true rfl)
  rw [lg_entry_eq]
  generalize (lg_sl ([.ref mh, .int p0]) ++ List.replicate (2 - (lg_sl ([.ref mh, .int p0])).length) Slot.unset).toArray = ls at hl ⊢
  have hl : lv_has ls 2 [(0, .ref mh), (1, .int p0)] := hl
  have lo_p0 := i_lo p0; have hi_p0 := i_hi p0
  have loop_1 : ∀ (N_3 : Nat) (mlaid_0 : Int32) (mwaits_0 : Int32) (mf36_0 : Nat → Int32) (mf37_0 : Nat → Int32) (H : Heap) (locs : List Loc) (ls : Array Slot), mwaits_0.toInt < (N_3 : Int) → (0 ≤ mlaid_0.toInt ∧ 0 ≤ mwaits_0.toInt ∧ mwaits_0.toInt ≤ mwaits.toInt ∧ mlaid_0.toInt + mwaits_0.toInt = mlaid.toInt + mwaits.toInt) → (PI mf36_0 mf43 mlaid_0 mwaits_0 1) → (LOW mf36 mf36_0) → va_P D vwCl [(mh, .inr (9, G9 ma mcode mtoday moffs mmany msumW msumA msumR msumWW msumWA msumAA msumWR msumAR mupper mlower mrates mtaped mlaid_0 mat mtk mtkAt mtkNumber mwaits_0 mlisted mdealtMany)), ((ma 36), .inl (E 0, 384, .inl mf36_0)), ((ma 37), .inl (E 0, 384, .inl mf37_0)), ((ma 43), .inl (E 0, 130, .inl mf43))] H → va_D A [(mh, .inr (9, G9 ma mcode mtoday moffs mmany msumW msumA msumR msumWW msumWA msumAA msumWR msumAR mupper mlower mrates mtaped mlaid_0 mat mtk mtkAt mtkNumber mwaits_0 mlisted mdealtMany)), ((ma 36), .inl (E 0, 384, .inl mf36_0)), ((ma 37), .inl (E 0, 384, .inl mf37_0)), ((ma 43), .inl (E 0, 130, .inl mf43))] → va_S A s.heap H locs → lv_has ls 2 [(0, .ref mh), (1, .int p0)] → W p l e (headSpec (wl yX9_done cX9_done 2 none) (RM 1 0 0)).room s m [Value.ref mh, .int p0].toArray below meth c H locs 0 0 (MQ below (va_Qv (fun (u : (Nat → Int32) × (Nat → Int32) × (Int32) × (Int32)) => (PI u.1 mf43 u.2.2.1 u.2.2.2 1) ∧ (LOW mf36 u.1) ∧ (0 ≤ u.2.2.1.toInt ∧ 0 ≤ u.2.2.2.toInt ∧ u.2.2.2.toInt ≤ mwaits.toInt ∧ u.2.2.1.toInt + u.2.2.2.toInt = mlaid.toInt + mwaits.toInt) ∧ (u.2.2.2.toInt = 0 ∨ (mf43 (u.2.2.2.toInt - 1).toNat).toInt = 5 ∨ (mf43 (u.2.2.2.toInt - 1).toNat).toInt / 10 < p0.toInt)) (mu_B D A (fun (u : (Nat → Int32) × (Nat → Int32) × (Int32) × (Int32)) => [(mh, .inr (9, G9 ma mcode mtoday moffs mmany msumW msumA msumR msumWW msumWA msumAA msumWR msumAR mupper mlower mrates mtaped u.2.2.1 mat mtk mtkAt mtkNumber u.2.2.2 mlisted mdealtMany)), ((ma 36), .inl (E 0, 384, .inl u.1)), ((ma 37), .inl (E 0, 384, .inl u.2.1)), ((ma 43), .inl (E 0, 130, .inl mf43))])) A) [Value.ref mh, .int p0].toArray s 0 0 A) (F0 m 0 ls []) := by
    intro N_3
    induction N_3 with
    | zero => intro mlaid_0 mwaits_0 mf36_0 mf37_0 H locs ls hm v0_0 v1_0 v2_0 _ _ _ _; exfalso; omega
    | succ N_3 ih_2 =>
      intro mlaid_0 mwaits_0 mf36_0 mf37_0 H locs ls hm v0_0 v1_0 v2_0 hP hD hS hl
      have lo_mlaid_0 := i_lo mlaid_0; have hi_mlaid_0 := i_hi mlaid_0
      have lo_mwaits_0 := i_lo mwaits_0; have hi_mwaits_0 := i_hi mwaits_0
      refine lv_aload_n hx hb dX9_done_0 rfl (lv_at hl 0 rfl) ?_
      refine va_get (D := D) (ci := 9) (v := .int mwaits_0) (C := RX9) (T := TX9) (N := 68) hx hb htb iX9 hown hK.1 hP 0 rfl rfl 44 (by decide) (htb _ k_1002) (fun _ h9 => h9) rfl dX9_done_1 ?_
      refine lv_if_le (tgt := 52) hx hb dX9_done_4 (by decide) (fun c_4 => ?_) (fun c_4 => ?_)
      ·
        have ic_4 : mwaits_0.toInt ≤ 0 := by first | exact (g_le rfl t_0).mp c_4 | (have h := mt (g_lt t_0 rfl).mpr c_4; omega)
        clear c_4
        have hP9 := hP.sub (ws' := [(mh, .inr (9, G9 ma mcode mtoday moffs mmany msumW msumA msumR msumWW msumWA msumAA msumWR msumAR mupper mlower mrates mtaped mlaid_0 mat mtk mtkAt mtkNumber mwaits_0 mlisted mdealtMany)), ((ma 36), .inl (E 0, 384, .inl mf36_0)), ((ma 37), .inl (E 0, 384, .inl mf37_0)), ((ma 43), .inl (E 0, 130, .inl mf43))]) [0, 1, 2, 3] rfl
        have hD9 := hD.sub (ws' := [(mh, .inr (9, G9 ma mcode mtoday moffs mmany msumW msumA msumR msumWW msumWA msumAA msumWR msumAR mupper mlower mrates mtaped mlaid_0 mat mtk mtkAt mtkNumber mwaits_0 mlisted mdealtMany)), ((ma 36), .inl (E 0, 384, .inl mf36_0)), ((ma 37), .inl (E 0, 384, .inl mf37_0)), ((ma 43), .inl (E 0, 130, .inl mf43))]) [0, 1, 2, 3] (by decide) rfl
        exact W.vret hx hb hr (fun t ht hW => ⟨⟨(mf36_0, mf37_0, mlaid_0, mwaits_0), rfl, ⟨v1_0, v2_0, (by (try dsimp only); omega), (by (try dsimp only); omega)⟩, by rw [ht]; exact hP9, hD9⟩, hS.F ht⟩) hS.2.2 dX9_done_52
      ·
        have ic_4 : 0 < mwaits_0.toInt := by first | exact (g_lt t_0 rfl).mp c_4 | (have h := mt (g_le rfl t_0).mpr c_4; omega)
        clear c_4
        refine lv_aload_n hx hb dX9_done_7 rfl (lv_at hl 0 rfl) ?_
        refine va_get (D := D) (ci := 9) (v := .ref (ma 43)) (C := RX9) (T := TX9) (N := 68) hx hb htb iX9 hown hK.1 hP 0 rfl rfl 43 (by decide) (htb _ k_1001) (fun _ h9 => h9) rfl dX9_done_8 ?_
        refine lv_aload_n hx hb dX9_done_11 rfl (lv_at hl 0 rfl) ?_
        refine va_get (D := D) (ci := 9) (v := .int mwaits_0) (C := RX9) (T := TX9) (N := 68) hx hb htb iX9 hown hK.1 hP 0 rfl rfl 44 (by decide) (htb _ k_1002) (fun _ h9 => h9) rfl dX9_done_12 ?_
        refine lv_iconst (v := 1) hx hb dX9_done_15 (by decide) ?_
        refine lv_isub hx hb dX9_done_16 ?_
        refine lv_topi (fun z_5 ez_5 => ?_)
        have jz_5 : z_5.toInt = mwaits_0.toInt - 1 := by rw [ez_5]; exact g_sub rfl t_1 (by omega) (by omega)
        refine va_iald hx hb hK.1 hP 3 0 rfl rfl (g_in rfl (by omega) (by omega)) dX9_done_17 ?_
        refine lv_topi (fun z_6 ez_6 => ?_)
        have kz_6 := congrArg Int32.toInt ez_6
        have qz_6 : z_6.toInt = 5 ∨ (10 ≤ z_6.toInt ∧ z_6.toInt ≤ 71) := by rw [ez_6]; exact v1_0.2.2 _ (by have hc := i_clamp0 (x := z_5) (by omega); omega)
        refine callRS (rest := []) (As := [.int z_6]) hx hb hml hown htb hK (g_X9_tight l D E z_6 (by (try dsimp only); omega)) ok_X9_tight k_1384 k_1385 k_9 k_1386 ⟨(Nat.le_of_ble_eq_true rfl), (Nat.le_of_ble_eq_true rfl)⟩ ⟨(Nat.le_of_ble_eq_true rfl), (Nat.le_of_ble_eq_true rfl)⟩ hl.1 (Nat.le_of_ble_eq_true rfl) rfl rfl dX9_done_18 (hP.sub (ws' := ([] : va_W)) [] rfl) (fun r_7 hw_8 => ?_)
        refine lv_iload_n hx hb dX9_done_21 rfl (lv_at hl 1 rfl) ?_
        refine lv_icmp_lt (tgt := 52) hx hb dX9_done_22 (by decide) (fun c_10 => ?_) (fun c_10 => ?_)
        ·
          have ic_10 : r_7.toInt < p0.toInt := by first | exact (g_lt rfl rfl).mp c_10 | (have h := mt (g_le rfl rfl).mpr c_10; omega)
          clear c_10
          have hP9 := hP.sub (ws' := [(mh, .inr (9, G9 ma mcode mtoday moffs mmany msumW msumA msumR msumWW msumWA msumAA msumWR msumAR mupper mlower mrates mtaped mlaid_0 mat mtk mtkAt mtkNumber mwaits_0 mlisted mdealtMany)), ((ma 36), .inl (E 0, 384, .inl mf36_0)), ((ma 37), .inl (E 0, 384, .inl mf37_0)), ((ma 43), .inl (E 0, 130, .inl mf43))]) [0, 1, 2, 3] rfl
          have hD9 := hD.sub (ws' := [(mh, .inr (9, G9 ma mcode mtoday moffs mmany msumW msumA msumR msumWW msumWA msumAA msumWR msumAR mupper mlower mrates mtaped mlaid_0 mat mtk mtkAt mtkNumber mwaits_0 mlisted mdealtMany)), ((ma 36), .inl (E 0, 384, .inl mf36_0)), ((ma 37), .inl (E 0, 384, .inl mf37_0)), ((ma 43), .inl (E 0, 130, .inl mf43))]) [0, 1, 2, 3] (by decide) rfl
          exact W.vret hx hb hr (fun t ht hW => ⟨⟨(mf36_0, mf37_0, mlaid_0, mwaits_0), rfl, ⟨v1_0, v2_0, (by (try dsimp only); omega), (by (try dsimp only); rw [show (mwaits_0.toInt - 1).toNat = z_5.toNatClampNeg by have hq := i_clamp0 (x := z_5) (by omega); omega, ← ez_6]; omega)⟩, by rw [ht]; exact hP9, hD9⟩, hS.F ht⟩) hS.2.2 dX9_done_52
        ·
          have ic_10 : p0.toInt ≤ r_7.toInt := by first | exact (g_le rfl rfl).mp c_10 | (have h := mt (g_lt rfl rfl).mpr c_10; omega)
          clear c_10
          refine lv_aload_n hx hb dX9_done_25 rfl (lv_at hl 0 rfl) ?_
          refine lv_dup hx hb dX9_done_26 rfl ?_
          refine va_get (D := D) (ci := 9) (v := .int mwaits_0) (C := RX9) (T := TX9) (N := 68) hx hb htb iX9 hown hK.1 hP 0 rfl rfl 44 (by decide) (htb _ k_1002) (fun _ h9 => h9) rfl dX9_done_27 ?_
          refine lv_iconst (v := 1) hx hb dX9_done_30 (by decide) ?_
          refine lv_isub hx hb dX9_done_31 ?_
          refine lv_topi (fun z_11 ez_11 => ?_)
          have jz_11 : z_11.toInt = mwaits_0.toInt - 1 := by rw [ez_11]; exact g_sub rfl t_1 (by omega) (by omega)
          refine va_put (D := D) (ci := 9) (v := .int z_11) (ty := .int) (C := RX9) (T := TX9) (N := 68) hx hb htb iX9 tyX9 tyX9_ok nmX9 hown hK.1 hP hD hS 0 rfl rfl 44 (by decide) (htb _ k_1002) (fun _ h9 => h9) rfl (by decide +kernel) rfl rfl (Nat.le_of_ble_eq_true rfl) dX9_done_32 (fun H locs hP hD hS => ?_)
          have hP : va_P D vwCl [(mh, .inr (9, G9 ma mcode mtoday moffs mmany msumW msumA msumR msumWW msumWA msumAA msumWR msumAR mupper mlower mrates mtaped mlaid_0 mat mtk mtkAt mtkNumber z_11 mlisted mdealtMany)), ((ma 36), .inl (E 0, 384, .inl mf36_0)), ((ma 37), .inl (E 0, 384, .inl mf37_0)), ((ma 43), .inl (E 0, 130, .inl mf43))] H := hP
          have hD := toW hP hD rfl
          refine lv_aload_n hx hb dX9_done_35 rfl (lv_at hl 0 rfl) ?_
          refine lv_aload_n hx hb dX9_done_36 rfl (lv_at hl 0 rfl) ?_
          refine va_get (D := D) (ci := 9) (v := .ref (ma 43)) (C := RX9) (T := TX9) (N := 68) hx hb htb iX9 hown hK.1 hP 0 rfl rfl 43 (by decide) (htb _ k_1001) (fun _ h9 => h9) rfl dX9_done_37 ?_
          refine lv_aload_n hx hb dX9_done_40 rfl (lv_at hl 0 rfl) ?_
          refine va_get (D := D) (ci := 9) (v := .int z_11) (C := RX9) (T := TX9) (N := 68) hx hb htb iX9 hown hK.1 hP 0 rfl rfl 44 (by decide) (htb _ k_1002) (fun _ h9 => h9) rfl dX9_done_41 ?_
          refine va_iald hx hb hK.1 hP 3 0 rfl rfl (g_in rfl (by omega) (by omega)) dX9_done_44 ?_
          refine lv_topi (fun z_12 ez_12 => ?_)
          have kz_12 := congrArg Int32.toInt ez_12
          have qz_12 : z_12.toInt = 5 ∨ (10 ≤ z_12.toInt ∧ z_12.toInt ≤ 71) := by rw [ez_12]; exact v1_0.2.2 _ (by have hc := i_clamp0 (x := z_11) (by omega); omega)
          have qqz_12 : z_12.toInt = z_6.toInt := by rw [ez_12, ez_6, clampE (i := z_5) (j := z_11) (by omega) (by omega)]
          refine lv_iconst (v := 0) hx hb dX9_done_45 (by decide) ?_
          have hPc := hP.sub (ws' := [(mh, .inr (9, G9 ma mcode mtoday moffs mmany msumW msumA msumR msumWW msumWA msumAA msumWR msumAR mupper mlower mrates mtaped mlaid_0 mat mtk mtkAt mtkNumber z_11 mlisted mdealtMany)), ((ma 36), .inl (E 0, 384, .inl mf36_0)), ((ma 37), .inl (E 0, 384, .inl mf37_0))]) [0, 1, 2] rfl
          have hDc := hD.sub (ws' := [(mh, .inr (9, G9 ma mcode mtoday moffs mmany msumW msumA msumR msumWW msumWA msumAA msumWR msumAR mupper mlower mrates mtaped mlaid_0 mat mtk mtkAt mtkNumber z_11 mlisted mdealtMany)), ((ma 36), .inl (E 0, 384, .inl mf36_0)), ((ma 37), .inl (E 0, 384, .inl mf37_0))]) [0, 1, 2] (by decide) rfl
          refine aft_v (runMV (rest := []) (As := [.int z_12, .int 0]) hx hb hml hown htb hK (g_X9_lay l D E mh ma mcode mtoday moffs mmany msumW msumA msumR msumWW msumWA msumAA msumWR msumAR mupper mlower mrates mtaped mlaid_0 mat mtk mtkAt mtkNumber z_11 mlisted mdealtMany mf36_0 mf37_0 z_12 0 _ (by (try dsimp only); omega) (by (try dsimp only); omega)) ok_X9_lay k_1376 k_1378 ks_57 k_9 k_1379 ⟨(Nat.le_of_ble_eq_true rfl), (Nat.le_of_ble_eq_true rfl)⟩ ⟨(Nat.le_of_ble_eq_true rfl), (Nat.le_of_ble_eq_true rfl)⟩ hl.1 (Nat.le_of_ble_eq_true rfl) rfl rfl dX9_done_46 hPc hDc rfl rfl 0 rfl) hP hD hS hA [0, 1, 2] [3] (wr := [((ma 43), .inl (E 0, 130, .inl mf43))]) rfl rfl (by decide) (by decide) (fun u_15 H locs hw_14 hP hD hS => ?_)
          clear hPc hDc
          obtain ⟨w_16, w_17, w_18⟩ := u_15
          try dsimp only at hw_14
          have hP : va_P D vwCl [((ma 43), .inl (E 0, 130, .inl mf43)), (mh, .inr (9, G9 ma mcode mtoday moffs mmany msumW msumA msumR msumWW msumWA msumAA msumWR msumAR mupper mlower mrates mtaped w_18 mat mtk mtkAt mtkNumber z_11 mlisted mdealtMany)), ((ma 36), .inl (E 0, 384, .inl w_16)), ((ma 37), .inl (E 0, 384, .inl w_17))] H := hP
          have hD := toW hP hD rfl
          obtain ⟨hw_14_0, hw_14_1⟩ := hw_14
          try simp only [t_0] at hw_14_0
          try simp only [t_0] at hw_14_1
          rw [ix256 (a := mlaid_0) (g_add t_256 rfl (by omega) (by omega)) (by omega)] at hw_14_0
          have low_20 : LOW mf36 w_16 := LOW_u v2_0 hw_14_0
          have pi_19 : PI w_16 mf43 w_18 z_11 1 := PI_pop v1_0 (by omega) (by omega) (by omega) ez_12 (by omega) hw_14_1 hw_14_0
          refine lv_goto (tgt := 0) hx hb dX9_done_49 (by decide) ?_
          have hP := hP.sub (ws' := [(mh, .inr (9, G9 ma mcode mtoday moffs mmany msumW msumA msumR msumWW msumWA msumAA msumWR msumAR mupper mlower mrates mtaped w_18 mat mtk mtkAt mtkNumber z_11 mlisted mdealtMany)), ((ma 36), .inl (E 0, 384, .inl w_16)), ((ma 37), .inl (E 0, 384, .inl w_17)), ((ma 43), .inl (E 0, 130, .inl mf43))]) [1, 2, 3, 0] rfl
          have hD := hD.sub (ws' := [(mh, .inr (9, G9 ma mcode mtoday moffs mmany msumW msumA msumR msumWW msumWA msumAA msumWR msumAR mupper mlower mrates mtaped w_18 mat mtk mtkAt mtkNumber z_11 mlisted mdealtMany)), ((ma 36), .inl (E 0, 384, .inl w_16)), ((ma 37), .inl (E 0, 384, .inl w_17)), ((ma 43), .inl (E 0, 130, .inl mf43))]) [1, 2, 3, 0] (by decide) rfl
          exact ih_2 w_18 z_11 w_16 w_17 _ _ _ (by (try dsimp only); omega) (by (try dsimp only); omega) pi_19 low_20 hP hD hS (lv_sub hl [0, 1] rfl)
  exact loop_1 131 mlaid mwaits mf36 mf37 _ _ _ (by (try dsimp only); omega) (by (try dsimp only); omega) gpi LOW_r hP hD hS (lv_sub hl [0, 1] rfl)
set_option maxHeartbeats 4000000 in
set_option maxRecDepth 100000 in
theorem g_X9_advance (l : Launch) (D : va_G) (E : Nat → Nat) (mh : Nat) (ma : Nat → Nat) (mcode : Int32) (mtoday : Int32) (moffs : Int32) (mmany : Int64) (msumW : Int64) (msumA : Int64) (msumR : Int64) (msumWW : Int64) (msumWA : Int64) (msumAA : Int64) (msumWR : Int64) (msumAR : Int64) (mupper : Int64) (mlower : Int64) (mrates : Int32) (mtaped : Int32) (mlaid : Int32) (mat : Int32) (mtk : Int32) (mtkAt : Int32) (mtkNumber : Int32) (mwaits : Int32) (mlisted : Int32) (mdealtMany : Int32) (mf32 : Nat → Int32) (p0 : Int32) (sz : Nat) (hi_m : (0 ≤ mtoday.toInt ∧ mtoday.toInt ≤ 399) ∧ (0 ≤ moffs.toInt ∧ moffs.toInt ≤ 60) ∧ (0 ≤ mrates.toInt ∧ mrates.toInt ≤ 60) ∧ (0 ≤ mtaped.toInt ∧ mtaped.toInt ≤ 120) ∧ (0 ≤ mlisted.toInt ∧ mlisted.toInt ≤ 9) ∧ (0 ≤ mdealtMany.toInt ∧ mdealtMany.toInt ≤ 9)) (g0 : 0 ≤ mat.toInt ∧ mat.toInt ≤ mtaped.toInt) : Met l yX9_advance (wl yX9_advance cX9_advance 6 none) (RM 1 0 0) (mu_P D E [.ref mh, .int p0] [(mh, .inr (9, G9 ma mcode mtoday moffs mmany msumW msumA msumR msumWW msumWA msumAA msumWR msumAR mupper mlower mrates mtaped mlaid mat mtk mtkAt mtkNumber mwaits mlisted mdealtMany)), ((ma 32), .inl (E 2, 120, .inl mf32))] sz) (va_Qv (fun (u : (Int32) × (Int32) × (Int32) × (Int32)) => (mat.toInt ≤ u.2.2.1.toInt ∧ u.2.2.1.toInt ≤ u.1.toInt ∧ u.1.toInt ≤ mtaped.toInt ∧ (u.2.1.toInt = 0 ∨ u.2.2.1.toInt + 1 ≤ u.1.toInt) ∧ 0 ≤ u.2.1.toInt ∧ u.2.1.toInt ≤ 123)) (mu_B D (va_A [(mh, .inr (9, G9 ma mcode mtoday moffs mmany msumW msumA msumR msumWW msumWA msumAA msumWR msumAR mupper mlower mrates mtaped mlaid mat mtk mtkAt mtkNumber mwaits mlisted mdealtMany)), ((ma 32), .inl (E 2, 120, .inl mf32))] sz) (fun (u : (Int32) × (Int32) × (Int32) × (Int32)) => [(mh, .inr (9, G9 ma mcode mtoday moffs mmany msumW msumA msumR msumWW msumWA msumAA msumWR msumAR mupper mlower mrates mtaped mlaid u.1 u.2.1 u.2.2.1 u.2.2.2 mwaits mlisted mdealtMany)), ((ma 32), .inl (E 2, 120, .inl mf32))])) (va_A [(mh, .inr (9, G9 ma mcode mtoday moffs mmany msumW msumA msumR msumWW msumWA msumAA msumWR msumAR mupper mlower mrates mtaped mlaid mat mtk mtkAt mtkNumber mwaits mlisted mdealtMany)), ((ma 32), .inl (E 2, 120, .inl mf32))] sz)) 0 0 (va_A [(mh, .inr (9, G9 ma mcode mtoday moffs mmany msumW msumA msumR msumWW msumWA msumAA msumWR msumAR mupper mlower mrates mtaped mlaid mat mtk mtkAt mtkNumber mwaits mlisted mdealtMany)), ((ma 32), .inl (E 2, 120, .inl mf32))] sz) := by
  refine Met.ofW (cc := cX9_advance) (maxL := 6) (ret := none) (by decide) rfl ?_
  intro p e s m args below meth c s₁ B hml hv
  obtain ⟨rfl, hsz, hP, hK, hD0⟩ := hv
  have hx := B.exec; have hb := B.bytes; have hr := B.returns
  have hts := atoms_spec (ws := wl yX9_advance cX9_advance 6 none) B.pre
  have htb : ∀ w ∈ tb, w.before _ s = true := fun w h => hts w (List.mem_cons_of_mem _ h)
  have hown : s.vm.findClass RX9 = some m.cls := findClass_of_methodNamed B.named
  have hlocks := B.notSynchronized
  subst hsz
  have hD := hD0.self (sz := s.heap.size)
  generalize hAe : va_A [(mh, .inr (9, G9 ma mcode mtoday moffs mmany msumW msumA msumR msumWW msumWA msumAA msumWR msumAR mupper mlower mrates mtaped mlaid mat mtk mtkAt mtkNumber mwaits mlisted mdealtMany)), ((ma 32), .inl (E 2, 120, .inl mf32))] s.heap.size = A at hD ⊢
  have hA : ∀ q : Nat, s.heap.size ≤ q → A q := fun q h => by rw [← hAe]; exact Or.inr h
  have hS : va_S A s.heap s.heap [] := va_S.rf
  have hP : va_P D vwCl [(mh, .inr (9, G9 ma mcode mtoday moffs mmany msumW msumA msumR msumWW msumWA msumAA msumWR msumAR mupper mlower mrates mtaped mlaid mat mtk mtkAt mtkNumber mwaits mlisted mdealtMany)), ((ma 32), .inl (E 2, 120, .inl mf32))] s.heap := hP
  have hl := lv_entry ([.ref mh, .int p0]) (n := 6) (Nat.le_of_ble_eq_true rfl)
  rw [lg_entry_eq]
  generalize (lg_sl ([.ref mh, .int p0]) ++ List.replicate (6 - (lg_sl ([.ref mh, .int p0])).length) Slot.unset).toArray = ls at hl ⊢
  have hl : lv_has ls 6 [(0, .ref mh), (1, .int p0)] := hl
  have lo_p0 := i_lo p0; have hi_p0 := i_hi p0
  have loop_1 : ∀ (N_3 : Nat) (mat_0 : Int32) (H : Heap) (locs : List Loc) (ls : Array Slot), mtaped.toInt - mat_0.toInt < (N_3 : Int) → (mat.toInt ≤ mat_0.toInt ∧ mat_0.toInt ≤ mtaped.toInt) → va_P D vwCl [(mh, .inr (9, G9 ma mcode mtoday moffs mmany msumW msumA msumR msumWW msumWA msumAA msumWR msumAR mupper mlower mrates mtaped mlaid mat_0 mtk mtkAt mtkNumber mwaits mlisted mdealtMany)), ((ma 32), .inl (E 2, 120, .inl mf32))] H → va_D A [(mh, .inr (9, G9 ma mcode mtoday moffs mmany msumW msumA msumR msumWW msumWA msumAA msumWR msumAR mupper mlower mrates mtaped mlaid mat_0 mtk mtkAt mtkNumber mwaits mlisted mdealtMany)), ((ma 32), .inl (E 2, 120, .inl mf32))] → va_S A s.heap H locs → lv_has ls 6 [(0, .ref mh), (1, .int p0)] → W p l e (headSpec (wl yX9_advance cX9_advance 6 none) (RM 1 0 0)).room s m [Value.ref mh, .int p0].toArray below meth c H locs 0 0 (MQ below (va_Qv (fun (u : (Int32) × (Int32) × (Int32) × (Int32)) => (mat.toInt ≤ u.2.2.1.toInt ∧ u.2.2.1.toInt ≤ u.1.toInt ∧ u.1.toInt ≤ mtaped.toInt ∧ (u.2.1.toInt = 0 ∨ u.2.2.1.toInt + 1 ≤ u.1.toInt) ∧ 0 ≤ u.2.1.toInt ∧ u.2.1.toInt ≤ 123)) (mu_B D A (fun (u : (Int32) × (Int32) × (Int32) × (Int32)) => [(mh, .inr (9, G9 ma mcode mtoday moffs mmany msumW msumA msumR msumWW msumWA msumAA msumWR msumAR mupper mlower mrates mtaped mlaid u.1 u.2.1 u.2.2.1 u.2.2.2 mwaits mlisted mdealtMany)), ((ma 32), .inl (E 2, 120, .inl mf32))])) A) [Value.ref mh, .int p0].toArray s 0 0 A) (F0 m 0 ls []) := by
    intro N_3
    induction N_3 with
    | zero => intro mat_0 H locs ls hm v0_0 _ _ _ _; exfalso; omega
    | succ N_3 ih_2 =>
      intro mat_0 H locs ls hm v0_0 hP hD hS hl
      have lo_mat_0 := i_lo mat_0; have hi_mat_0 := i_hi mat_0
      refine lv_aload_n hx hb dX9_advance_0 rfl (lv_at hl 0 rfl) ?_
      refine va_get (D := D) (ci := 9) (v := .int mat_0) (C := RX9) (T := TX9) (N := 68) hx hb htb iX9 hown hK.1 hP 0 rfl rfl 39 (by decide) (htb _ k_997) (fun _ h9 => h9) rfl dX9_advance_1 ?_
      refine lv_aload_n hx hb dX9_advance_4 rfl (lv_at hl 0 rfl) ?_
      refine va_get (D := D) (ci := 9) (v := .int mtaped) (C := RX9) (T := TX9) (N := 68) hx hb htb iX9 hown hK.1 hP 0 rfl rfl 33 (by decide) (htb _ k_991) (fun _ h9 => h9) rfl dX9_advance_5 ?_
      refine lv_icmp_ge (tgt := 38) hx hb dX9_advance_8 (by decide) (fun c_4 => ?_) (fun c_4 => ?_)
      ·
        have ic_4 : mtaped.toInt ≤ mat_0.toInt := by first | exact (g_le rfl rfl).mp c_4 | (have h := mt (g_lt rfl rfl).mpr c_4; omega)
        clear c_4
        refine lv_aload_n hx hb dX9_advance_38 rfl (lv_at hl 0 rfl) ?_
        refine lv_aload_n hx hb dX9_advance_39 rfl (lv_at hl 0 rfl) ?_
        refine va_get (D := D) (ci := 9) (v := .int mat_0) (C := RX9) (T := TX9) (N := 68) hx hb htb iX9 hown hK.1 hP 0 rfl rfl 39 (by decide) (htb _ k_997) (fun _ h9 => h9) rfl dX9_advance_40 ?_
        refine va_put (D := D) (ci := 9) (v := .int mat_0) (ty := .int) (C := RX9) (T := TX9) (N := 68) hx hb htb iX9 tyX9 tyX9_ok nmX9 hown hK.1 hP hD hS 0 rfl rfl 41 (by decide) (htb _ k_999) (fun _ h9 => h9) rfl (by decide +kernel) rfl rfl (Nat.le_of_ble_eq_true rfl) dX9_advance_43 (fun H locs hP hD hS => ?_)
        have hP : va_P D vwCl [(mh, .inr (9, G9 ma mcode mtoday moffs mmany msumW msumA msumR msumWW msumWA msumAA msumWR msumAR mupper mlower mrates mtaped mlaid mat_0 mtk mat_0 mtkNumber mwaits mlisted mdealtMany)), ((ma 32), .inl (E 2, 120, .inl mf32))] H := hP
        have hD := toW hP hD rfl
        refine lv_aload_n hx hb dX9_advance_46 rfl (lv_at hl 0 rfl) ?_
        refine va_get (D := D) (ci := 9) (v := .int mat_0) (C := RX9) (T := TX9) (N := 68) hx hb htb iX9 hown hK.1 hP 0 rfl rfl 39 (by decide) (htb _ k_997) (fun _ h9 => h9) rfl dX9_advance_47 ?_
        refine lv_aload_n hx hb dX9_advance_50 rfl (lv_at hl 0 rfl) ?_
        refine va_get (D := D) (ci := 9) (v := .int mtaped) (C := RX9) (T := TX9) (N := 68) hx hb htb iX9 hown hK.1 hP 0 rfl rfl 33 (by decide) (htb _ k_991) (fun _ h9 => h9) rfl dX9_advance_51 ?_
        refine lv_icmp_ne (tgt := 63) hx hb dX9_advance_54 (by decide) (fun c_5 => ?_) (fun c_5 => ?_)
        ·
          have ic_5 : mat_0.toInt ≠ mtaped.toInt := mt (g_eq rfl rfl).mpr c_5
          clear c_5
          refine lv_aload_n hx hb dX9_advance_63 rfl (lv_at hl 0 rfl) ?_
          refine va_get (D := D) (ci := 9) (v := .ref (ma 32)) (C := RX9) (T := TX9) (N := 68) hx hb htb iX9 hown hK.1 hP 0 rfl rfl 32 (by decide) (htb _ k_990) (fun _ h9 => h9) rfl dX9_advance_64 ?_
          refine lv_aload_n hx hb dX9_advance_67 rfl (lv_at hl 0 rfl) ?_
          refine va_get (D := D) (ci := 9) (v := .int mat_0) (C := RX9) (T := TX9) (N := 68) hx hb htb iX9 hown hK.1 hP 0 rfl rfl 39 (by decide) (htb _ k_997) (fun _ h9 => h9) rfl dX9_advance_68 ?_
          refine va_bald hx hb hK.1 hP 1 2 rfl rfl (g_in rfl (by omega) (by omega)) dX9_advance_71 ?_
          refine lv_topi (fun z_6 ez_6 => ?_)
          have kz_6 := congrArg Int32.toInt ez_6
          refine lv_istore_n (lv' := [(2, .int z_6), (0, .ref mh), (1, .int p0)]) hx hb dX9_advance_72 rfl hl (by decide) rfl (fun ls hl => ?_)
          refine lv_iload_n hx hb dX9_advance_73 rfl (lv_at hl 0 rfl) ?_
          refine callRS (rest := []) (As := [.int z_6]) hx hb hml hown htb hK (g_X9_isLetter l D E z_6 ) ok_X9_isLetter k_1342 k_1343 k_9 k_1344 ⟨(Nat.le_of_ble_eq_true rfl), (Nat.le_of_ble_eq_true rfl)⟩ ⟨(Nat.le_of_ble_eq_true rfl), (Nat.le_of_ble_eq_true rfl)⟩ hl.1 (Nat.le_of_ble_eq_true rfl) rfl rfl dX9_advance_74 (hP.sub (ws' := ([] : va_W)) [] rfl) (fun r_7 hw_8 => ?_)
          rcases hw_8 with ⟨hr_7, hw_8⟩ | ⟨hr_7, hw_8⟩
          ·
            refine W_top (y := .int 1) (by rw [hr_7]) ?_
            refine lv_if_eq (tgt := 180) hx hb dX9_advance_77 (by decide) (fun c_10 => absurd c_10 (by decide)) (fun c_10 => ?_)
            refine lv_lconst (v := 0) hx hb dX9_advance_80 (by decide) ?_
            refine lv_lstore_n (lv' := [(3, .long 0), (2, .int z_6), (0, .ref mh), (1, .int p0)]) hx hb dX9_advance_81 rfl hl (by decide) rfl (fun ls hl => ?_)
            refine lv_iconst (v := 0) hx hb dX9_advance_82 (by decide) ?_
            refine lv_istore (lv' := [(5, .int 0), (3, .long 0), (2, .int z_6), (0, .ref mh), (1, .int p0)]) hx hb dX9_advance_83 hl (by decide) rfl (fun ls hl => ?_)
            have loop_11 : ∀ (N_13 : Nat) (L5_85 : Int32) (mat_85 : Int32) (L3_85 : Int64) (H : Heap) (locs : List Loc) (ls : Array Slot), mtaped.toInt - mat_85.toInt < (N_13 : Int) → (mat_0.toInt ≤ mat_85.toInt ∧ mat_85.toInt ≤ mtaped.toInt ∧ mat_0.toInt < mtaped.toInt ∧ mat.toInt ≤ mat_0.toInt ∧ (mat_0.toInt + 1 ≤ mat_85.toInt ∨ (97 ≤ (mf32 (mat_85).toNatClampNeg).toInt ∧ (mf32 (mat_85).toNatClampNeg).toInt ≤ 122))) → (0 ≤ L5_85.toInt ∧ L5_85.toInt ≤ mat_85.toInt) → va_P D vwCl [(mh, .inr (9, G9 ma mcode mtoday moffs mmany msumW msumA msumR msumWW msumWA msumAA msumWR msumAR mupper mlower mrates mtaped mlaid mat_85 mtk mat_0 mtkNumber mwaits mlisted mdealtMany)), ((ma 32), .inl (E 2, 120, .inl mf32))] H → va_D A [(mh, .inr (9, G9 ma mcode mtoday moffs mmany msumW msumA msumR msumWW msumWA msumAA msumWR msumAR mupper mlower mrates mtaped mlaid mat_85 mtk mat_0 mtkNumber mwaits mlisted mdealtMany)), ((ma 32), .inl (E 2, 120, .inl mf32))] → va_S A s.heap H locs → lv_has ls 6 [(5, .int L5_85), (3, .long L3_85), (2, .int z_6), (0, .ref mh), (1, .int p0)] → W p l e (headSpec (wl yX9_advance cX9_advance 6 none) (RM 1 0 0)).room s m [Value.ref mh, .int p0].toArray below meth c H locs 0 0 (MQ below (va_Qv (fun (u : (Int32) × (Int32) × (Int32) × (Int32)) => (mat.toInt ≤ u.2.2.1.toInt ∧ u.2.2.1.toInt ≤ u.1.toInt ∧ u.1.toInt ≤ mtaped.toInt ∧ (u.2.1.toInt = 0 ∨ u.2.2.1.toInt + 1 ≤ u.1.toInt) ∧ 0 ≤ u.2.1.toInt ∧ u.2.1.toInt ≤ 123)) (mu_B D A (fun (u : (Int32) × (Int32) × (Int32) × (Int32)) => [(mh, .inr (9, G9 ma mcode mtoday moffs mmany msumW msumA msumR msumWW msumWA msumAA msumWR msumAR mupper mlower mrates mtaped mlaid u.1 u.2.1 u.2.2.1 u.2.2.2 mwaits mlisted mdealtMany)), ((ma 32), .inl (E 2, 120, .inl mf32))])) A) [Value.ref mh, .int p0].toArray s 0 0 A) (F0 m 85 ls []) := by
              intro N_13
              induction N_13 with
              | zero => intro L5_85 mat_85 L3_85 H locs ls hm v0_85 v1_85 _ _ _ _; exfalso; omega
              | succ N_13 ih_12 =>
                intro L5_85 mat_85 L3_85 H locs ls hm v0_85 v1_85 hP hD hS hl
                have lo_L5_85 := i_lo L5_85; have hi_L5_85 := i_hi L5_85
                have lo_mat_85 := i_lo mat_85; have hi_mat_85 := i_hi mat_85
                refine lv_aload_n hx hb dX9_advance_85 rfl (lv_at hl 3 rfl) ?_
                refine va_get (D := D) (ci := 9) (v := .int mat_85) (C := RX9) (T := TX9) (N := 68) hx hb htb iX9 hown hK.1 hP 0 rfl rfl 39 (by decide) (htb _ k_997) (fun _ h9 => h9) rfl dX9_advance_86 ?_
                refine lv_aload_n hx hb dX9_advance_89 rfl (lv_at hl 3 rfl) ?_
                refine va_get (D := D) (ci := 9) (v := .int mtaped) (C := RX9) (T := TX9) (N := 68) hx hb htb iX9 hown hK.1 hP 0 rfl rfl 33 (by decide) (htb _ k_991) (fun _ h9 => h9) rfl dX9_advance_90 ?_
                refine lv_icmp_ge (tgt := 159) hx hb dX9_advance_93 (by decide) (fun c_14 => ?_) (fun c_14 => ?_)
                ·
                  have ic_14 : mtaped.toInt ≤ mat_85.toInt := by first | exact (g_le rfl rfl).mp c_14 | (have h := mt (g_lt rfl rfl).mpr c_14; omega)
                  clear c_14
                  refine lv_aload_n hx hb dX9_advance_159 rfl (lv_at hl 3 rfl) ?_
                  refine lv_iload hx hb dX9_advance_160 (lv_at hl 0 rfl) ?_
                  refine lv_bipush (v := 6) hx hb dX9_advance_162 (by decide) ?_
                  refine lv_icmp_le (tgt := 171) hx hb dX9_advance_164 (by decide) (fun c_15 => ?_) (fun c_15 => ?_)
                  ·
                    have ic_15 : L5_85.toInt ≤ 6 := by first | exact (g_le rfl t_6).mp c_15 | (have h := mt (g_lt t_6 rfl).mpr c_15; omega)
                    clear c_15
                    refine lv_lload_n hx hb dX9_advance_171 rfl (lv_at hl 1 rfl) ?_
                    refine lv_iload_n hx hb dX9_advance_172 rfl (lv_at hl 4 rfl) ?_
                    refine callRS (rest := [.ref mh]) (As := [.long L3_85, .int p0]) hx hb hml hown htb hK (g_X9_wordOf l D E L3_85 p0 ) ok_X9_wordOf k_1347 k_1348 k_9 k_1349 ⟨(Nat.le_of_ble_eq_true rfl), (Nat.le_of_ble_eq_true rfl)⟩ ⟨(Nat.le_of_ble_eq_true rfl), (Nat.le_of_ble_eq_true rfl)⟩ hl.1 (Nat.le_of_ble_eq_true rfl) rfl rfl dX9_advance_173 (hP.sub (ws' := ([] : va_W)) [] rfl) (fun r_16 hw_17 => ?_)
                    refine va_put (D := D) (ci := 9) (v := .int r_16) (ty := .int) (C := RX9) (T := TX9) (N := 68) hx hb htb iX9 tyX9 tyX9_ok nmX9 hown hK.1 hP hD hS 0 rfl rfl 40 (by decide) (htb _ k_998) (fun _ h9 => h9) rfl (by decide +kernel) rfl rfl (Nat.le_of_ble_eq_true rfl) dX9_advance_176 (fun H locs hP hD hS => ?_)
                    have hP : va_P D vwCl [(mh, .inr (9, G9 ma mcode mtoday moffs mmany msumW msumA msumR msumWW msumWA msumAA msumWR msumAR mupper mlower mrates mtaped mlaid mat_85 r_16 mat_0 mtkNumber mwaits mlisted mdealtMany)), ((ma 32), .inl (E 2, 120, .inl mf32))] H := hP
                    have hD := toW hP hD rfl
                    have hP9 := hP.sub (ws' := [(mh, .inr (9, G9 ma mcode mtoday moffs mmany msumW msumA msumR msumWW msumWA msumAA msumWR msumAR mupper mlower mrates mtaped mlaid mat_85 r_16 mat_0 mtkNumber mwaits mlisted mdealtMany)), ((ma 32), .inl (E 2, 120, .inl mf32))]) [0, 1] rfl
                    have hD9 := hD.sub (ws' := [(mh, .inr (9, G9 ma mcode mtoday moffs mmany msumW msumA msumR msumWW msumWA msumAA msumWR msumAR mupper mlower mrates mtaped mlaid mat_85 r_16 mat_0 mtkNumber mwaits mlisted mdealtMany)), ((ma 32), .inl (E 2, 120, .inl mf32))]) [0, 1] (by decide) rfl
                    exact W.vret hx hb hr (fun t ht hW => ⟨⟨(mat_85, r_16, mat_0, mtkNumber), rfl, (by (try dsimp only); omega), by rw [ht]; exact hP9, hD9⟩, hS.F ht⟩) hS.2.2 dX9_advance_179
                  ·
                    have ic_15 : 6 < L5_85.toInt := by first | exact (g_lt t_6 rfl).mp c_15 | (have h := mt (g_le rfl t_6).mpr c_15; omega)
                    clear c_15
                    refine lv_iconst (v := 2) hx hb dX9_advance_167 (by decide) ?_
                    refine lv_goto (tgt := 176) hx hb dX9_advance_168 (by decide) ?_
                    refine va_put (D := D) (ci := 9) (v := .int 2) (ty := .int) (C := RX9) (T := TX9) (N := 68) hx hb htb iX9 tyX9 tyX9_ok nmX9 hown hK.1 hP hD hS 0 rfl rfl 40 (by decide) (htb _ k_998) (fun _ h9 => h9) rfl (by decide +kernel) rfl rfl (Nat.le_of_ble_eq_true rfl) dX9_advance_176 (fun H locs hP hD hS => ?_)
                    have hP : va_P D vwCl [(mh, .inr (9, G9 ma mcode mtoday moffs mmany msumW msumA msumR msumWW msumWA msumAA msumWR msumAR mupper mlower mrates mtaped mlaid mat_85 2 mat_0 mtkNumber mwaits mlisted mdealtMany)), ((ma 32), .inl (E 2, 120, .inl mf32))] H := hP
                    have hD := toW hP hD rfl
                    have hP9 := hP.sub (ws' := [(mh, .inr (9, G9 ma mcode mtoday moffs mmany msumW msumA msumR msumWW msumWA msumAA msumWR msumAR mupper mlower mrates mtaped mlaid mat_85 2 mat_0 mtkNumber mwaits mlisted mdealtMany)), ((ma 32), .inl (E 2, 120, .inl mf32))]) [0, 1] rfl
                    have hD9 := hD.sub (ws' := [(mh, .inr (9, G9 ma mcode mtoday moffs mmany msumW msumA msumR msumWW msumWA msumAA msumWR msumAR mupper mlower mrates mtaped mlaid mat_85 2 mat_0 mtkNumber mwaits mlisted mdealtMany)), ((ma 32), .inl (E 2, 120, .inl mf32))]) [0, 1] (by decide) rfl
                    exact W.vret hx hb hr (fun t ht hW => ⟨⟨(mat_85, (2 : Int32), mat_0, mtkNumber), rfl, (by have h0 := t_2; (try dsimp only); omega), by rw [ht]; exact hP9, hD9⟩, hS.F ht⟩) hS.2.2 dX9_advance_179
                ·
                  have ic_14 : mat_85.toInt < mtaped.toInt := by first | exact (g_lt rfl rfl).mp c_14 | (have h := mt (g_le rfl rfl).mpr c_14; omega)
                  clear c_14
                  refine lv_aload_n hx hb dX9_advance_96 rfl (lv_at hl 3 rfl) ?_
                  refine va_get (D := D) (ci := 9) (v := .ref (ma 32)) (C := RX9) (T := TX9) (N := 68) hx hb htb iX9 hown hK.1 hP 0 rfl rfl 32 (by decide) (htb _ k_990) (fun _ h9 => h9) rfl dX9_advance_97 ?_
                  refine lv_aload_n hx hb dX9_advance_100 rfl (lv_at hl 3 rfl) ?_
                  refine va_get (D := D) (ci := 9) (v := .int mat_85) (C := RX9) (T := TX9) (N := 68) hx hb htb iX9 hown hK.1 hP 0 rfl rfl 39 (by decide) (htb _ k_997) (fun _ h9 => h9) rfl dX9_advance_101 ?_
                  refine va_bald hx hb hK.1 hP 1 2 rfl rfl (g_in rfl (by omega) (by omega)) dX9_advance_104 ?_
                  refine lv_topi (fun z_19 ez_19 => ?_)
                  have kz_19 := congrArg Int32.toInt ez_19
                  refine callRS (rest := []) (As := [.int z_19]) hx hb hml hown htb hK (g_X9_isLetter l D E z_19 ) ok_X9_isLetter k_1342 k_1343 k_9 k_1344 ⟨(Nat.le_of_ble_eq_true rfl), (Nat.le_of_ble_eq_true rfl)⟩ ⟨(Nat.le_of_ble_eq_true rfl), (Nat.le_of_ble_eq_true rfl)⟩ hl.1 (Nat.le_of_ble_eq_true rfl) rfl rfl dX9_advance_105 (hP.sub (ws' := ([] : va_W)) [] rfl) (fun r_20 hw_21 => ?_)
                  rcases hw_21 with ⟨hr_20, hw_21⟩ | ⟨hr_20, hw_21⟩
                  ·
                    refine W_top (y := .int 1) (by rw [hr_20]) ?_
                    refine lv_if_eq (tgt := 159) hx hb dX9_advance_108 (by decide) (fun c_23 => absurd c_23 (by decide)) (fun c_23 => ?_)
                    refine lv_iload hx hb dX9_advance_111 (lv_at hl 0 rfl) ?_
                    refine lv_bipush (v := 7) hx hb dX9_advance_113 (by decide) ?_
                    refine lv_icmp_ge (tgt := 141) hx hb dX9_advance_115 (by decide) (fun c_24 => ?_) (fun c_24 => ?_)
                    ·
                      have ic_24 : 7 ≤ L5_85.toInt := by first | exact (g_le t_7 rfl).mp c_24 | (have h := mt (g_lt rfl t_7).mpr c_24; omega)
                      clear c_24
                      refine lv_lload_n hx hb dX9_advance_141 rfl (lv_at hl 1 rfl) ?_
                      refine lv_lstore_n (lv' := [(3, .long L3_85), (5, .int L5_85), (2, .int z_6), (0, .ref mh), (1, .int p0)]) hx hb dX9_advance_142 rfl hl (by decide) rfl (fun ls hl => ?_)
                      refine lv_aload_n hx hb dX9_advance_143 rfl (lv_at hl 3 rfl) ?_
                      refine lv_dup hx hb dX9_advance_144 rfl ?_
                      refine va_get (D := D) (ci := 9) (v := .int mat_85) (C := RX9) (T := TX9) (N := 68) hx hb htb iX9 hown hK.1 hP 0 rfl rfl 39 (by decide) (htb _ k_997) (fun _ h9 => h9) rfl dX9_advance_145 ?_
                      refine lv_iconst (v := 1) hx hb dX9_advance_148 (by decide) ?_
                      refine lv_iadd hx hb dX9_advance_149 ?_
                      refine lv_topi (fun z_25 ez_25 => ?_)
                      have jz_25 : z_25.toInt = mat_85.toInt + 1 := by rw [ez_25]; exact g_add rfl t_1 (by omega) (by omega)
                      refine va_put (D := D) (ci := 9) (v := .int z_25) (ty := .int) (C := RX9) (T := TX9) (N := 68) hx hb htb iX9 tyX9 tyX9_ok nmX9 hown hK.1 hP hD hS 0 rfl rfl 39 (by decide) (htb _ k_997) (fun _ h9 => h9) rfl (by decide +kernel) rfl rfl (Nat.le_of_ble_eq_true rfl) dX9_advance_150 (fun H locs hP hD hS => ?_)
                      have hP : va_P D vwCl [(mh, .inr (9, G9 ma mcode mtoday moffs mmany msumW msumA msumR msumWW msumWA msumAA msumWR msumAR mupper mlower mrates mtaped mlaid z_25 mtk mat_0 mtkNumber mwaits mlisted mdealtMany)), ((ma 32), .inl (E 2, 120, .inl mf32))] H := hP
                      have hD := toW hP hD rfl
                      obtain ⟨z_26, ez_26⟩ : ∃ y : Int32, y = L5_85 + 1 := ⟨_, rfl⟩
                      have jz_26 : z_26.toInt = L5_85.toInt + 1 := by rw [ez_26]; exact g_add rfl t_1 (by omega) (by omega)
                      refine lv_iinc (v := z_26) (lv' := [(5, .int z_26), (3, .long L3_85), (2, .int z_6), (0, .ref mh), (1, .int p0)]) hx hb dX9_advance_153 hl (k := 1) rfl (by rw [ez_26]; rfl) (by decide) rfl (fun ls hl => ?_)
                      refine lv_goto (tgt := 85) hx hb dX9_advance_156 (by decide) ?_
                      exact ih_12 z_26 z_25 L3_85 _ _ _ (by (try dsimp only); omega) (by (try dsimp only); omega) (by (try dsimp only); omega) hP hD hS (lv_sub hl [0, 1, 2, 3, 4] rfl)
                    ·
                      have ic_24 : L5_85.toInt < 7 := by first | exact (g_lt rfl t_7).mp c_24 | (have h := mt (g_le t_7 rfl).mpr c_24; omega)
                      clear c_24
                      refine lv_lload_n hx hb dX9_advance_118 rfl (lv_at hl 1 rfl) ?_
                      refine lv_ldc2 hx hb hown (htb _ k_1345) dX9_advance_119 ?_
                      refine lv_lmul hx hb dX9_advance_122 ?_
                      refine lv_topl (fun z_27 ez_27 => ?_)
                      refine lv_aload_n hx hb dX9_advance_123 rfl (lv_at hl 3 rfl) ?_
                      refine va_get (D := D) (ci := 9) (v := .ref (ma 32)) (C := RX9) (T := TX9) (N := 68) hx hb htb iX9 hown hK.1 hP 0 rfl rfl 32 (by decide) (htb _ k_990) (fun _ h9 => h9) rfl dX9_advance_124 ?_
                      refine lv_aload_n hx hb dX9_advance_127 rfl (lv_at hl 3 rfl) ?_
                      refine va_get (D := D) (ci := 9) (v := .int mat_85) (C := RX9) (T := TX9) (N := 68) hx hb htb iX9 hown hK.1 hP 0 rfl rfl 39 (by decide) (htb _ k_997) (fun _ h9 => h9) rfl dX9_advance_128 ?_
                      refine va_bald hx hb hK.1 hP 1 2 rfl rfl (g_in rfl (by omega) (by omega)) dX9_advance_131 ?_
                      refine lv_topi (fun z_28 ez_28 => ?_)
                      have kz_28 := congrArg Int32.toInt ez_28
                      obtain ⟨z_29, ez_29⟩ : ∃ y : Int64, (z_28 : Int32).toInt64 = y := ⟨_, rfl⟩
                      refine lv_i2l hx hb dX9_advance_132 ez_29 ?_
                      refine lv_ladd hx hb dX9_advance_133 ?_
                      refine lv_topl (fun z_30 ez_30 => ?_)
                      refine lv_ldc2 hx hb hown (htb _ k_1346) dX9_advance_134 ?_
                      refine lv_lsub hx hb dX9_advance_137 ?_
                      refine lv_topl (fun z_31 ez_31 => ?_)
                      refine lv_goto (tgt := 142) hx hb dX9_advance_138 (by decide) ?_
                      refine lv_lstore_n (lv' := [(3, .long z_31), (5, .int L5_85), (2, .int z_6), (0, .ref mh), (1, .int p0)]) hx hb dX9_advance_142 rfl hl (by decide) rfl (fun ls hl => ?_)
                      refine lv_aload_n hx hb dX9_advance_143 rfl (lv_at hl 3 rfl) ?_
                      refine lv_dup hx hb dX9_advance_144 rfl ?_
                      refine va_get (D := D) (ci := 9) (v := .int mat_85) (C := RX9) (T := TX9) (N := 68) hx hb htb iX9 hown hK.1 hP 0 rfl rfl 39 (by decide) (htb _ k_997) (fun _ h9 => h9) rfl dX9_advance_145 ?_
                      refine lv_iconst (v := 1) hx hb dX9_advance_148 (by decide) ?_
                      refine lv_iadd hx hb dX9_advance_149 ?_
                      refine lv_topi (fun z_32 ez_32 => ?_)
                      have jz_32 : z_32.toInt = mat_85.toInt + 1 := by rw [ez_32]; exact g_add rfl t_1 (by omega) (by omega)
                      refine va_put (D := D) (ci := 9) (v := .int z_32) (ty := .int) (C := RX9) (T := TX9) (N := 68) hx hb htb iX9 tyX9 tyX9_ok nmX9 hown hK.1 hP hD hS 0 rfl rfl 39 (by decide) (htb _ k_997) (fun _ h9 => h9) rfl (by decide +kernel) rfl rfl (Nat.le_of_ble_eq_true rfl) dX9_advance_150 (fun H locs hP hD hS => ?_)
                      have hP : va_P D vwCl [(mh, .inr (9, G9 ma mcode mtoday moffs mmany msumW msumA msumR msumWW msumWA msumAA msumWR msumAR mupper mlower mrates mtaped mlaid z_32 mtk mat_0 mtkNumber mwaits mlisted mdealtMany)), ((ma 32), .inl (E 2, 120, .inl mf32))] H := hP
                      have hD := toW hP hD rfl
                      obtain ⟨z_33, ez_33⟩ : ∃ y : Int32, y = L5_85 + 1 := ⟨_, rfl⟩
                      have jz_33 : z_33.toInt = L5_85.toInt + 1 := by rw [ez_33]; exact g_add rfl t_1 (by omega) (by omega)
                      refine lv_iinc (v := z_33) (lv' := [(5, .int z_33), (3, .long z_31), (2, .int z_6), (0, .ref mh), (1, .int p0)]) hx hb dX9_advance_153 hl (k := 1) rfl (by rw [ez_33]; rfl) (by decide) rfl (fun ls hl => ?_)
                      refine lv_goto (tgt := 85) hx hb dX9_advance_156 (by decide) ?_
                      exact ih_12 z_33 z_32 z_31 _ _ _ (by (try dsimp only); omega) (by (try dsimp only); omega) (by (try dsimp only); omega) hP hD hS (lv_sub hl [0, 1, 2, 3, 4] rfl)
                  ·
                    refine W_top (y := .int 0) (by rw [hr_20]) ?_
                    refine lv_if_eq (tgt := 159) hx hb dX9_advance_108 (by decide) (fun c_34 => ?_) (fun c_34 => absurd (by decide) c_34)
                    refine lv_aload_n hx hb dX9_advance_159 rfl (lv_at hl 3 rfl) ?_
                    refine lv_iload hx hb dX9_advance_160 (lv_at hl 0 rfl) ?_
                    refine lv_bipush (v := 6) hx hb dX9_advance_162 (by decide) ?_
                    refine lv_icmp_le (tgt := 171) hx hb dX9_advance_164 (by decide) (fun c_35 => ?_) (fun c_35 => ?_)
                    ·
                      have ic_35 : L5_85.toInt ≤ 6 := by first | exact (g_le rfl t_6).mp c_35 | (have h := mt (g_lt t_6 rfl).mpr c_35; omega)
                      clear c_35
                      refine lv_lload_n hx hb dX9_advance_171 rfl (lv_at hl 1 rfl) ?_
                      refine lv_iload_n hx hb dX9_advance_172 rfl (lv_at hl 4 rfl) ?_
                      refine callRS (rest := [.ref mh]) (As := [.long L3_85, .int p0]) hx hb hml hown htb hK (g_X9_wordOf l D E L3_85 p0 ) ok_X9_wordOf k_1347 k_1348 k_9 k_1349 ⟨(Nat.le_of_ble_eq_true rfl), (Nat.le_of_ble_eq_true rfl)⟩ ⟨(Nat.le_of_ble_eq_true rfl), (Nat.le_of_ble_eq_true rfl)⟩ hl.1 (Nat.le_of_ble_eq_true rfl) rfl rfl dX9_advance_173 (hP.sub (ws' := ([] : va_W)) [] rfl) (fun r_36 hw_37 => ?_)
                      refine va_put (D := D) (ci := 9) (v := .int r_36) (ty := .int) (C := RX9) (T := TX9) (N := 68) hx hb htb iX9 tyX9 tyX9_ok nmX9 hown hK.1 hP hD hS 0 rfl rfl 40 (by decide) (htb _ k_998) (fun _ h9 => h9) rfl (by decide +kernel) rfl rfl (Nat.le_of_ble_eq_true rfl) dX9_advance_176 (fun H locs hP hD hS => ?_)
                      have hP : va_P D vwCl [(mh, .inr (9, G9 ma mcode mtoday moffs mmany msumW msumA msumR msumWW msumWA msumAA msumWR msumAR mupper mlower mrates mtaped mlaid mat_85 r_36 mat_0 mtkNumber mwaits mlisted mdealtMany)), ((ma 32), .inl (E 2, 120, .inl mf32))] H := hP
                      have hD := toW hP hD rfl
                      have hP9 := hP.sub (ws' := [(mh, .inr (9, G9 ma mcode mtoday moffs mmany msumW msumA msumR msumWW msumWA msumAA msumWR msumAR mupper mlower mrates mtaped mlaid mat_85 r_36 mat_0 mtkNumber mwaits mlisted mdealtMany)), ((ma 32), .inl (E 2, 120, .inl mf32))]) [0, 1] rfl
                      have hD9 := hD.sub (ws' := [(mh, .inr (9, G9 ma mcode mtoday moffs mmany msumW msumA msumR msumWW msumWA msumAA msumWR msumAR mupper mlower mrates mtaped mlaid mat_85 r_36 mat_0 mtkNumber mwaits mlisted mdealtMany)), ((ma 32), .inl (E 2, 120, .inl mf32))]) [0, 1] (by decide) rfl
                      exact W.vret hx hb hr (fun t ht hW => ⟨⟨(mat_85, r_36, mat_0, mtkNumber), rfl, (by (try dsimp only); omega), by rw [ht]; exact hP9, hD9⟩, hS.F ht⟩) hS.2.2 dX9_advance_179
                    ·
                      have ic_35 : 6 < L5_85.toInt := by first | exact (g_lt t_6 rfl).mp c_35 | (have h := mt (g_le rfl t_6).mpr c_35; omega)
                      clear c_35
                      refine lv_iconst (v := 2) hx hb dX9_advance_167 (by decide) ?_
                      refine lv_goto (tgt := 176) hx hb dX9_advance_168 (by decide) ?_
                      refine va_put (D := D) (ci := 9) (v := .int 2) (ty := .int) (C := RX9) (T := TX9) (N := 68) hx hb htb iX9 tyX9 tyX9_ok nmX9 hown hK.1 hP hD hS 0 rfl rfl 40 (by decide) (htb _ k_998) (fun _ h9 => h9) rfl (by decide +kernel) rfl rfl (Nat.le_of_ble_eq_true rfl) dX9_advance_176 (fun H locs hP hD hS => ?_)
                      have hP : va_P D vwCl [(mh, .inr (9, G9 ma mcode mtoday moffs mmany msumW msumA msumR msumWW msumWA msumAA msumWR msumAR mupper mlower mrates mtaped mlaid mat_85 2 mat_0 mtkNumber mwaits mlisted mdealtMany)), ((ma 32), .inl (E 2, 120, .inl mf32))] H := hP
                      have hD := toW hP hD rfl
                      have hP9 := hP.sub (ws' := [(mh, .inr (9, G9 ma mcode mtoday moffs mmany msumW msumA msumR msumWW msumWA msumAA msumWR msumAR mupper mlower mrates mtaped mlaid mat_85 2 mat_0 mtkNumber mwaits mlisted mdealtMany)), ((ma 32), .inl (E 2, 120, .inl mf32))]) [0, 1] rfl
                      have hD9 := hD.sub (ws' := [(mh, .inr (9, G9 ma mcode mtoday moffs mmany msumW msumA msumR msumWW msumWA msumAA msumWR msumAR mupper mlower mrates mtaped mlaid mat_85 2 mat_0 mtkNumber mwaits mlisted mdealtMany)), ((ma 32), .inl (E 2, 120, .inl mf32))]) [0, 1] (by decide) rfl
                      exact W.vret hx hb hr (fun t ht hW => ⟨⟨(mat_85, (2 : Int32), mat_0, mtkNumber), rfl, (by have h0 := t_2; (try dsimp only); omega), by rw [ht]; exact hP9, hD9⟩, hS.F ht⟩) hS.2.2 dX9_advance_179
            exact loop_11 121 0 mat_0 0 _ _ _ (by have h0 := t_0; (try dsimp only); omega) (by have h0 := t_0; (try dsimp only); omega) (by have h0 := t_0; (try dsimp only); omega) hP hD hS (lv_sub hl [0, 1, 2, 3, 4] rfl)
          ·
            refine W_top (y := .int 0) (by rw [hr_7]) ?_
            refine lv_if_eq (tgt := 180) hx hb dX9_advance_77 (by decide) (fun c_39 => ?_) (fun c_39 => absurd (by decide) c_39)
            refine lv_iload_n hx hb dX9_advance_180 rfl (lv_at hl 0 rfl) ?_
            refine callRS (rest := []) (As := [.int z_6]) hx hb hml hown htb hK (g_X9_isDigit l D E z_6 ) ok_X9_isDigit k_1366 k_1367 k_9 k_1368 ⟨(Nat.le_of_ble_eq_true rfl), (Nat.le_of_ble_eq_true rfl)⟩ ⟨(Nat.le_of_ble_eq_true rfl), (Nat.le_of_ble_eq_true rfl)⟩ hl.1 (Nat.le_of_ble_eq_true rfl) rfl rfl dX9_advance_181 (hP.sub (ws' := ([] : va_W)) [] rfl) (fun r_40 hw_41 => ?_)
            rcases hw_41 with ⟨hr_40, hw_41⟩ | ⟨hr_40, hw_41⟩
            ·
              refine W_top (y := .int 1) (by rw [hr_40]) ?_
              refine lv_if_eq (tgt := 287) hx hb dX9_advance_184 (by decide) (fun c_43 => absurd c_43 (by decide)) (fun c_43 => ?_)
              refine lv_iconst (v := 0) hx hb dX9_advance_187 (by decide) ?_
              refine lv_istore_n (lv' := [(3, .int 0), (2, .int z_6), (0, .ref mh), (1, .int p0)]) hx hb dX9_advance_188 rfl hl (by decide) rfl (fun ls hl => ?_)
              refine lv_aload_n hx hb dX9_advance_189 rfl (lv_at hl 2 rfl) ?_
              refine lv_iconst (v := 0) hx hb dX9_advance_190 (by decide) ?_
              refine va_put (D := D) (ci := 9) (v := .int 0) (ty := .int) (C := RX9) (T := TX9) (N := 68) hx hb htb iX9 tyX9 tyX9_ok nmX9 hown hK.1 hP hD hS 0 rfl rfl 42 (by decide) (htb _ k_1000) (fun _ h9 => h9) rfl (by decide +kernel) rfl rfl (Nat.le_of_ble_eq_true rfl) dX9_advance_191 (fun H locs hP hD hS => ?_)
              have hP : va_P D vwCl [(mh, .inr (9, G9 ma mcode mtoday moffs mmany msumW msumA msumR msumWW msumWA msumAA msumWR msumAR mupper mlower mrates mtaped mlaid mat_0 mtk mat_0 0 mwaits mlisted mdealtMany)), ((ma 32), .inl (E 2, 120, .inl mf32))] H := hP
              have hD := toW hP hD rfl
              have loop_44 : ∀ (N_46 : Nat) (L3_194 : Int32) (mat_194 : Int32) (mtkNumber_194 : Int32) (H : Heap) (locs : List Loc) (ls : Array Slot), mtaped.toInt - mat_194.toInt < (N_46 : Int) → (mat_0.toInt ≤ mat_194.toInt ∧ mat_194.toInt ≤ mtaped.toInt ∧ mat_0.toInt < mtaped.toInt ∧ mat.toInt ≤ mat_0.toInt ∧ (mat_0.toInt + 1 ≤ mat_194.toInt ∨ (48 ≤ (mf32 (mat_194).toNatClampNeg).toInt ∧ (mf32 (mat_194).toNatClampNeg).toInt ≤ 57))) → (0 ≤ L3_194.toInt ∧ L3_194.toInt ≤ mat_194.toInt) → va_P D vwCl [(mh, .inr (9, G9 ma mcode mtoday moffs mmany msumW msumA msumR msumWW msumWA msumAA msumWR msumAR mupper mlower mrates mtaped mlaid mat_194 mtk mat_0 mtkNumber_194 mwaits mlisted mdealtMany)), ((ma 32), .inl (E 2, 120, .inl mf32))] H → va_D A [(mh, .inr (9, G9 ma mcode mtoday moffs mmany msumW msumA msumR msumWW msumWA msumAA msumWR msumAR mupper mlower mrates mtaped mlaid mat_194 mtk mat_0 mtkNumber_194 mwaits mlisted mdealtMany)), ((ma 32), .inl (E 2, 120, .inl mf32))] → va_S A s.heap H locs → lv_has ls 6 [(3, .int L3_194), (2, .int z_6), (0, .ref mh), (1, .int p0)] → W p l e (headSpec (wl yX9_advance cX9_advance 6 none) (RM 1 0 0)).room s m [Value.ref mh, .int p0].toArray below meth c H locs 0 0 (MQ below (va_Qv (fun (u : (Int32) × (Int32) × (Int32) × (Int32)) => (mat.toInt ≤ u.2.2.1.toInt ∧ u.2.2.1.toInt ≤ u.1.toInt ∧ u.1.toInt ≤ mtaped.toInt ∧ (u.2.1.toInt = 0 ∨ u.2.2.1.toInt + 1 ≤ u.1.toInt) ∧ 0 ≤ u.2.1.toInt ∧ u.2.1.toInt ≤ 123)) (mu_B D A (fun (u : (Int32) × (Int32) × (Int32) × (Int32)) => [(mh, .inr (9, G9 ma mcode mtoday moffs mmany msumW msumA msumR msumWW msumWA msumAA msumWR msumAR mupper mlower mrates mtaped mlaid u.1 u.2.1 u.2.2.1 u.2.2.2 mwaits mlisted mdealtMany)), ((ma 32), .inl (E 2, 120, .inl mf32))])) A) [Value.ref mh, .int p0].toArray s 0 0 A) (F0 m 194 ls []) := by
                intro N_46
                induction N_46 with
                | zero => intro L3_194 mat_194 mtkNumber_194 H locs ls hm v0_194 v1_194 _ _ _ _; exfalso; omega
                | succ N_46 ih_45 =>
                  intro L3_194 mat_194 mtkNumber_194 H locs ls hm v0_194 v1_194 hP hD hS hl
                  have lo_L3_194 := i_lo L3_194; have hi_L3_194 := i_hi L3_194
                  have lo_mat_194 := i_lo mat_194; have hi_mat_194 := i_hi mat_194
                  have lo_mtkNumber_194 := i_lo mtkNumber_194; have hi_mtkNumber_194 := i_hi mtkNumber_194
                  refine lv_aload_n hx hb dX9_advance_194 rfl (lv_at hl 2 rfl) ?_
                  refine va_get (D := D) (ci := 9) (v := .int mat_194) (C := RX9) (T := TX9) (N := 68) hx hb htb iX9 hown hK.1 hP 0 rfl rfl 39 (by decide) (htb _ k_997) (fun _ h9 => h9) rfl dX9_advance_195 ?_
                  refine lv_aload_n hx hb dX9_advance_198 rfl (lv_at hl 2 rfl) ?_
                  refine va_get (D := D) (ci := 9) (v := .int mtaped) (C := RX9) (T := TX9) (N := 68) hx hb htb iX9 hown hK.1 hP 0 rfl rfl 33 (by decide) (htb _ k_991) (fun _ h9 => h9) rfl dX9_advance_199 ?_
                  refine lv_icmp_ge (tgt := 272) hx hb dX9_advance_202 (by decide) (fun c_47 => ?_) (fun c_47 => ?_)
                  ·
                    have ic_47 : mtaped.toInt ≤ mat_194.toInt := by first | exact (g_le rfl rfl).mp c_47 | (have h := mt (g_lt rfl rfl).mpr c_47; omega)
                    clear c_47
                    refine lv_aload_n hx hb dX9_advance_272 rfl (lv_at hl 2 rfl) ?_
                    refine lv_iload_n hx hb dX9_advance_273 rfl (lv_at hl 0 rfl) ?_
                    refine lv_iconst (v := 5) hx hb dX9_advance_274 (by decide) ?_
                    refine lv_icmp_le (tgt := 282) hx hb dX9_advance_275 (by decide) (fun c_48 => ?_) (fun c_48 => ?_)
                    ·
                      have ic_48 : L3_194.toInt ≤ 5 := by first | exact (g_le rfl t_5).mp c_48 | (have h := mt (g_lt t_5 rfl).mpr c_48; omega)
                      clear c_48
                      refine lv_iconst (v := 1) hx hb dX9_advance_282 (by decide) ?_
                      refine va_put (D := D) (ci := 9) (v := .int 1) (ty := .int) (C := RX9) (T := TX9) (N := 68) hx hb htb iX9 tyX9 tyX9_ok nmX9 hown hK.1 hP hD hS 0 rfl rfl 40 (by decide) (htb _ k_998) (fun _ h9 => h9) rfl (by decide +kernel) rfl rfl (Nat.le_of_ble_eq_true rfl) dX9_advance_283 (fun H locs hP hD hS => ?_)
                      have hP : va_P D vwCl [(mh, .inr (9, G9 ma mcode mtoday moffs mmany msumW msumA msumR msumWW msumWA msumAA msumWR msumAR mupper mlower mrates mtaped mlaid mat_194 1 mat_0 mtkNumber_194 mwaits mlisted mdealtMany)), ((ma 32), .inl (E 2, 120, .inl mf32))] H := hP
                      have hD := toW hP hD rfl
                      have hP9 := hP.sub (ws' := [(mh, .inr (9, G9 ma mcode mtoday moffs mmany msumW msumA msumR msumWW msumWA msumAA msumWR msumAR mupper mlower mrates mtaped mlaid mat_194 1 mat_0 mtkNumber_194 mwaits mlisted mdealtMany)), ((ma 32), .inl (E 2, 120, .inl mf32))]) [0, 1] rfl
                      have hD9 := hD.sub (ws' := [(mh, .inr (9, G9 ma mcode mtoday moffs mmany msumW msumA msumR msumWW msumWA msumAA msumWR msumAR mupper mlower mrates mtaped mlaid mat_194 1 mat_0 mtkNumber_194 mwaits mlisted mdealtMany)), ((ma 32), .inl (E 2, 120, .inl mf32))]) [0, 1] (by decide) rfl
                      exact W.vret hx hb hr (fun t ht hW => ⟨⟨(mat_194, (1 : Int32), mat_0, mtkNumber_194), rfl, (by have h0 := t_1; (try dsimp only); omega), by rw [ht]; exact hP9, hD9⟩, hS.F ht⟩) hS.2.2 dX9_advance_286
                    ·
                      have ic_48 : 5 < L3_194.toInt := by first | exact (g_lt t_5 rfl).mp c_48 | (have h := mt (g_le rfl t_5).mpr c_48; omega)
                      clear c_48
                      refine lv_iconst (v := 2) hx hb dX9_advance_278 (by decide) ?_
                      refine lv_goto (tgt := 283) hx hb dX9_advance_279 (by decide) ?_
                      refine va_put (D := D) (ci := 9) (v := .int 2) (ty := .int) (C := RX9) (T := TX9) (N := 68) hx hb htb iX9 tyX9 tyX9_ok nmX9 hown hK.1 hP hD hS 0 rfl rfl 40 (by decide) (htb _ k_998) (fun _ h9 => h9) rfl (by decide +kernel) rfl rfl (Nat.le_of_ble_eq_true rfl) dX9_advance_283 (fun H locs hP hD hS => ?_)
                      have hP : va_P D vwCl [(mh, .inr (9, G9 ma mcode mtoday moffs mmany msumW msumA msumR msumWW msumWA msumAA msumWR msumAR mupper mlower mrates mtaped mlaid mat_194 2 mat_0 mtkNumber_194 mwaits mlisted mdealtMany)), ((ma 32), .inl (E 2, 120, .inl mf32))] H := hP
                      have hD := toW hP hD rfl
                      have hP9 := hP.sub (ws' := [(mh, .inr (9, G9 ma mcode mtoday moffs mmany msumW msumA msumR msumWW msumWA msumAA msumWR msumAR mupper mlower mrates mtaped mlaid mat_194 2 mat_0 mtkNumber_194 mwaits mlisted mdealtMany)), ((ma 32), .inl (E 2, 120, .inl mf32))]) [0, 1] rfl
                      have hD9 := hD.sub (ws' := [(mh, .inr (9, G9 ma mcode mtoday moffs mmany msumW msumA msumR msumWW msumWA msumAA msumWR msumAR mupper mlower mrates mtaped mlaid mat_194 2 mat_0 mtkNumber_194 mwaits mlisted mdealtMany)), ((ma 32), .inl (E 2, 120, .inl mf32))]) [0, 1] (by decide) rfl
                      exact W.vret hx hb hr (fun t ht hW => ⟨⟨(mat_194, (2 : Int32), mat_0, mtkNumber_194), rfl, (by have h0 := t_2; (try dsimp only); omega), by rw [ht]; exact hP9, hD9⟩, hS.F ht⟩) hS.2.2 dX9_advance_286
                  ·
                    have ic_47 : mat_194.toInt < mtaped.toInt := by first | exact (g_lt rfl rfl).mp c_47 | (have h := mt (g_le rfl rfl).mpr c_47; omega)
                    clear c_47
                    refine lv_aload_n hx hb dX9_advance_205 rfl (lv_at hl 2 rfl) ?_
                    refine va_get (D := D) (ci := 9) (v := .ref (ma 32)) (C := RX9) (T := TX9) (N := 68) hx hb htb iX9 hown hK.1 hP 0 rfl rfl 32 (by decide) (htb _ k_990) (fun _ h9 => h9) rfl dX9_advance_206 ?_
                    refine lv_aload_n hx hb dX9_advance_209 rfl (lv_at hl 2 rfl) ?_
                    refine va_get (D := D) (ci := 9) (v := .int mat_194) (C := RX9) (T := TX9) (N := 68) hx hb htb iX9 hown hK.1 hP 0 rfl rfl 39 (by decide) (htb _ k_997) (fun _ h9 => h9) rfl dX9_advance_210 ?_
                    refine va_bald hx hb hK.1 hP 1 2 rfl rfl (g_in rfl (by omega) (by omega)) dX9_advance_213 ?_
                    refine lv_topi (fun z_49 ez_49 => ?_)
                    have kz_49 := congrArg Int32.toInt ez_49
                    refine callRS (rest := []) (As := [.int z_49]) hx hb hml hown htb hK (g_X9_isDigit l D E z_49 ) ok_X9_isDigit k_1366 k_1367 k_9 k_1368 ⟨(Nat.le_of_ble_eq_true rfl), (Nat.le_of_ble_eq_true rfl)⟩ ⟨(Nat.le_of_ble_eq_true rfl), (Nat.le_of_ble_eq_true rfl)⟩ hl.1 (Nat.le_of_ble_eq_true rfl) rfl rfl dX9_advance_214 (hP.sub (ws' := ([] : va_W)) [] rfl) (fun r_50 hw_51 => ?_)
                    rcases hw_51 with ⟨hr_50, hw_51⟩ | ⟨hr_50, hw_51⟩
                    ·
                      refine W_top (y := .int 1) (by rw [hr_50]) ?_
                      refine lv_if_eq (tgt := 272) hx hb dX9_advance_217 (by decide) (fun c_53 => absurd c_53 (by decide)) (fun c_53 => ?_)
                      refine lv_aload_n hx hb dX9_advance_220 rfl (lv_at hl 2 rfl) ?_
                      refine lv_iload_n hx hb dX9_advance_221 rfl (lv_at hl 0 rfl) ?_
                      refine lv_iconst (v := 5) hx hb dX9_advance_222 (by decide) ?_
                      refine lv_icmp_ge (tgt := 249) hx hb dX9_advance_223 (by decide) (fun c_54 => ?_) (fun c_54 => ?_)
                      ·
                        have ic_54 : 5 ≤ L3_194.toInt := by first | exact (g_le t_5 rfl).mp c_54 | (have h := mt (g_lt rfl t_5).mpr c_54; omega)
                        clear c_54
                        refine lv_aload_n hx hb dX9_advance_249 rfl (lv_at hl 2 rfl) ?_
                        refine va_get (D := D) (ci := 9) (v := .int mtkNumber_194) (C := RX9) (T := TX9) (N := 68) hx hb htb iX9 hown hK.1 hP 0 rfl rfl 42 (by decide) (htb _ k_1000) (fun _ h9 => h9) rfl dX9_advance_250 ?_
                        refine va_put (D := D) (ci := 9) (v := .int mtkNumber_194) (ty := .int) (C := RX9) (T := TX9) (N := 68) hx hb htb iX9 tyX9 tyX9_ok nmX9 hown hK.1 hP hD hS 0 rfl rfl 42 (by decide) (htb _ k_1000) (fun _ h9 => h9) rfl (by decide +kernel) rfl rfl (Nat.le_of_ble_eq_true rfl) dX9_advance_253 (fun H locs hP hD hS => ?_)
                        have hP : va_P D vwCl [(mh, .inr (9, G9 ma mcode mtoday moffs mmany msumW msumA msumR msumWW msumWA msumAA msumWR msumAR mupper mlower mrates mtaped mlaid mat_194 mtk mat_0 mtkNumber_194 mwaits mlisted mdealtMany)), ((ma 32), .inl (E 2, 120, .inl mf32))] H := hP
                        have hD := toW hP hD rfl
                        refine lv_aload_n hx hb dX9_advance_256 rfl (lv_at hl 2 rfl) ?_
                        refine lv_dup hx hb dX9_advance_257 rfl ?_
                        refine va_get (D := D) (ci := 9) (v := .int mat_194) (C := RX9) (T := TX9) (N := 68) hx hb htb iX9 hown hK.1 hP 0 rfl rfl 39 (by decide) (htb _ k_997) (fun _ h9 => h9) rfl dX9_advance_258 ?_
                        refine lv_iconst (v := 1) hx hb dX9_advance_261 (by decide) ?_
                        refine lv_iadd hx hb dX9_advance_262 ?_
                        refine lv_topi (fun z_55 ez_55 => ?_)
                        have jz_55 : z_55.toInt = mat_194.toInt + 1 := by rw [ez_55]; exact g_add rfl t_1 (by omega) (by omega)
                        refine va_put (D := D) (ci := 9) (v := .int z_55) (ty := .int) (C := RX9) (T := TX9) (N := 68) hx hb htb iX9 tyX9 tyX9_ok nmX9 hown hK.1 hP hD hS 0 rfl rfl 39 (by decide) (htb _ k_997) (fun _ h9 => h9) rfl (by decide +kernel) rfl rfl (Nat.le_of_ble_eq_true rfl) dX9_advance_263 (fun H locs hP hD hS => ?_)
                        have hP : va_P D vwCl [(mh, .inr (9, G9 ma mcode mtoday moffs mmany msumW msumA msumR msumWW msumWA msumAA msumWR msumAR mupper mlower mrates mtaped mlaid z_55 mtk mat_0 mtkNumber_194 mwaits mlisted mdealtMany)), ((ma 32), .inl (E 2, 120, .inl mf32))] H := hP
                        have hD := toW hP hD rfl
                        obtain ⟨z_56, ez_56⟩ : ∃ y : Int32, y = L3_194 + 1 := ⟨_, rfl⟩
                        have jz_56 : z_56.toInt = L3_194.toInt + 1 := by rw [ez_56]; exact g_add rfl t_1 (by omega) (by omega)
                        refine lv_iinc (v := z_56) (lv' := [(3, .int z_56), (2, .int z_6), (0, .ref mh), (1, .int p0)]) hx hb dX9_advance_266 hl (k := 0) rfl (by rw [ez_56]; rfl) (by decide) rfl (fun ls hl => ?_)
                        refine lv_goto (tgt := 194) hx hb dX9_advance_269 (by decide) ?_
                        exact ih_45 z_56 z_55 mtkNumber_194 _ _ _ (by (try dsimp only); omega) (by (try dsimp only); omega) (by (try dsimp only); omega) hP hD hS (lv_sub hl [0, 1, 2, 3] rfl)
                      ·
                        have ic_54 : L3_194.toInt < 5 := by first | exact (g_lt rfl t_5).mp c_54 | (have h := mt (g_le t_5 rfl).mpr c_54; omega)
                        clear c_54
                        refine lv_bipush (v := 10) hx hb dX9_advance_226 (by decide) ?_
                        refine lv_aload_n hx hb dX9_advance_228 rfl (lv_at hl 2 rfl) ?_
                        refine va_get (D := D) (ci := 9) (v := .int mtkNumber_194) (C := RX9) (T := TX9) (N := 68) hx hb htb iX9 hown hK.1 hP 0 rfl rfl 42 (by decide) (htb _ k_1000) (fun _ h9 => h9) rfl dX9_advance_229 ?_
                        refine lv_imul hx hb dX9_advance_232 ?_
                        refine lv_topi (fun z_57 ez_57 => ?_)
                        refine lv_aload_n hx hb dX9_advance_233 rfl (lv_at hl 2 rfl) ?_
                        refine va_get (D := D) (ci := 9) (v := .ref (ma 32)) (C := RX9) (T := TX9) (N := 68) hx hb htb iX9 hown hK.1 hP 0 rfl rfl 32 (by decide) (htb _ k_990) (fun _ h9 => h9) rfl dX9_advance_234 ?_
                        refine lv_aload_n hx hb dX9_advance_237 rfl (lv_at hl 2 rfl) ?_
                        refine va_get (D := D) (ci := 9) (v := .int mat_194) (C := RX9) (T := TX9) (N := 68) hx hb htb iX9 hown hK.1 hP 0 rfl rfl 39 (by decide) (htb _ k_997) (fun _ h9 => h9) rfl dX9_advance_238 ?_
                        refine va_bald hx hb hK.1 hP 1 2 rfl rfl (g_in rfl (by omega) (by omega)) dX9_advance_241 ?_
                        refine lv_topi (fun z_58 ez_58 => ?_)
                        have kz_58 := congrArg Int32.toInt ez_58
                        refine lv_iadd hx hb dX9_advance_242 ?_
                        refine lv_topi (fun z_59 ez_59 => ?_)
                        refine lv_bipush (v := 48) hx hb dX9_advance_243 (by decide) ?_
                        refine lv_isub hx hb dX9_advance_245 ?_
                        refine lv_topi (fun z_60 ez_60 => ?_)
                        refine lv_goto (tgt := 253) hx hb dX9_advance_246 (by decide) ?_
                        refine va_put (D := D) (ci := 9) (v := .int z_60) (ty := .int) (C := RX9) (T := TX9) (N := 68) hx hb htb iX9 tyX9 tyX9_ok nmX9 hown hK.1 hP hD hS 0 rfl rfl 42 (by decide) (htb _ k_1000) (fun _ h9 => h9) rfl (by decide +kernel) rfl rfl (Nat.le_of_ble_eq_true rfl) dX9_advance_253 (fun H locs hP hD hS => ?_)
                        have hP : va_P D vwCl [(mh, .inr (9, G9 ma mcode mtoday moffs mmany msumW msumA msumR msumWW msumWA msumAA msumWR msumAR mupper mlower mrates mtaped mlaid mat_194 mtk mat_0 z_60 mwaits mlisted mdealtMany)), ((ma 32), .inl (E 2, 120, .inl mf32))] H := hP
                        have hD := toW hP hD rfl
                        refine lv_aload_n hx hb dX9_advance_256 rfl (lv_at hl 2 rfl) ?_
                        refine lv_dup hx hb dX9_advance_257 rfl ?_
                        refine va_get (D := D) (ci := 9) (v := .int mat_194) (C := RX9) (T := TX9) (N := 68) hx hb htb iX9 hown hK.1 hP 0 rfl rfl 39 (by decide) (htb _ k_997) (fun _ h9 => h9) rfl dX9_advance_258 ?_
                        refine lv_iconst (v := 1) hx hb dX9_advance_261 (by decide) ?_
                        refine lv_iadd hx hb dX9_advance_262 ?_
                        refine lv_topi (fun z_61 ez_61 => ?_)
                        have jz_61 : z_61.toInt = mat_194.toInt + 1 := by rw [ez_61]; exact g_add rfl t_1 (by omega) (by omega)
                        refine va_put (D := D) (ci := 9) (v := .int z_61) (ty := .int) (C := RX9) (T := TX9) (N := 68) hx hb htb iX9 tyX9 tyX9_ok nmX9 hown hK.1 hP hD hS 0 rfl rfl 39 (by decide) (htb _ k_997) (fun _ h9 => h9) rfl (by decide +kernel) rfl rfl (Nat.le_of_ble_eq_true rfl) dX9_advance_263 (fun H locs hP hD hS => ?_)
                        have hP : va_P D vwCl [(mh, .inr (9, G9 ma mcode mtoday moffs mmany msumW msumA msumR msumWW msumWA msumAA msumWR msumAR mupper mlower mrates mtaped mlaid z_61 mtk mat_0 z_60 mwaits mlisted mdealtMany)), ((ma 32), .inl (E 2, 120, .inl mf32))] H := hP
                        have hD := toW hP hD rfl
                        obtain ⟨z_62, ez_62⟩ : ∃ y : Int32, y = L3_194 + 1 := ⟨_, rfl⟩
                        have jz_62 : z_62.toInt = L3_194.toInt + 1 := by rw [ez_62]; exact g_add rfl t_1 (by omega) (by omega)
                        refine lv_iinc (v := z_62) (lv' := [(3, .int z_62), (2, .int z_6), (0, .ref mh), (1, .int p0)]) hx hb dX9_advance_266 hl (k := 0) rfl (by rw [ez_62]; rfl) (by decide) rfl (fun ls hl => ?_)
                        refine lv_goto (tgt := 194) hx hb dX9_advance_269 (by decide) ?_
                        exact ih_45 z_62 z_61 z_60 _ _ _ (by (try dsimp only); omega) (by (try dsimp only); omega) (by (try dsimp only); omega) hP hD hS (lv_sub hl [0, 1, 2, 3] rfl)
                    ·
                      refine W_top (y := .int 0) (by rw [hr_50]) ?_
                      refine lv_if_eq (tgt := 272) hx hb dX9_advance_217 (by decide) (fun c_63 => ?_) (fun c_63 => absurd (by decide) c_63)
                      refine lv_aload_n hx hb dX9_advance_272 rfl (lv_at hl 2 rfl) ?_
                      refine lv_iload_n hx hb dX9_advance_273 rfl (lv_at hl 0 rfl) ?_
                      refine lv_iconst (v := 5) hx hb dX9_advance_274 (by decide) ?_
                      refine lv_icmp_le (tgt := 282) hx hb dX9_advance_275 (by decide) (fun c_64 => ?_) (fun c_64 => ?_)
                      ·
                        have ic_64 : L3_194.toInt ≤ 5 := by first | exact (g_le rfl t_5).mp c_64 | (have h := mt (g_lt t_5 rfl).mpr c_64; omega)
                        clear c_64
                        refine lv_iconst (v := 1) hx hb dX9_advance_282 (by decide) ?_
                        refine va_put (D := D) (ci := 9) (v := .int 1) (ty := .int) (C := RX9) (T := TX9) (N := 68) hx hb htb iX9 tyX9 tyX9_ok nmX9 hown hK.1 hP hD hS 0 rfl rfl 40 (by decide) (htb _ k_998) (fun _ h9 => h9) rfl (by decide +kernel) rfl rfl (Nat.le_of_ble_eq_true rfl) dX9_advance_283 (fun H locs hP hD hS => ?_)
                        have hP : va_P D vwCl [(mh, .inr (9, G9 ma mcode mtoday moffs mmany msumW msumA msumR msumWW msumWA msumAA msumWR msumAR mupper mlower mrates mtaped mlaid mat_194 1 mat_0 mtkNumber_194 mwaits mlisted mdealtMany)), ((ma 32), .inl (E 2, 120, .inl mf32))] H := hP
                        have hD := toW hP hD rfl
                        have hP9 := hP.sub (ws' := [(mh, .inr (9, G9 ma mcode mtoday moffs mmany msumW msumA msumR msumWW msumWA msumAA msumWR msumAR mupper mlower mrates mtaped mlaid mat_194 1 mat_0 mtkNumber_194 mwaits mlisted mdealtMany)), ((ma 32), .inl (E 2, 120, .inl mf32))]) [0, 1] rfl
                        have hD9 := hD.sub (ws' := [(mh, .inr (9, G9 ma mcode mtoday moffs mmany msumW msumA msumR msumWW msumWA msumAA msumWR msumAR mupper mlower mrates mtaped mlaid mat_194 1 mat_0 mtkNumber_194 mwaits mlisted mdealtMany)), ((ma 32), .inl (E 2, 120, .inl mf32))]) [0, 1] (by decide) rfl
                        exact W.vret hx hb hr (fun t ht hW => ⟨⟨(mat_194, (1 : Int32), mat_0, mtkNumber_194), rfl, (by have h0 := t_1; (try dsimp only); omega), by rw [ht]; exact hP9, hD9⟩, hS.F ht⟩) hS.2.2 dX9_advance_286
                      ·
                        have ic_64 : 5 < L3_194.toInt := by first | exact (g_lt t_5 rfl).mp c_64 | (have h := mt (g_le rfl t_5).mpr c_64; omega)
                        clear c_64
                        refine lv_iconst (v := 2) hx hb dX9_advance_278 (by decide) ?_
                        refine lv_goto (tgt := 283) hx hb dX9_advance_279 (by decide) ?_
                        refine va_put (D := D) (ci := 9) (v := .int 2) (ty := .int) (C := RX9) (T := TX9) (N := 68) hx hb htb iX9 tyX9 tyX9_ok nmX9 hown hK.1 hP hD hS 0 rfl rfl 40 (by decide) (htb _ k_998) (fun _ h9 => h9) rfl (by decide +kernel) rfl rfl (Nat.le_of_ble_eq_true rfl) dX9_advance_283 (fun H locs hP hD hS => ?_)
                        have hP : va_P D vwCl [(mh, .inr (9, G9 ma mcode mtoday moffs mmany msumW msumA msumR msumWW msumWA msumAA msumWR msumAR mupper mlower mrates mtaped mlaid mat_194 2 mat_0 mtkNumber_194 mwaits mlisted mdealtMany)), ((ma 32), .inl (E 2, 120, .inl mf32))] H := hP
                        have hD := toW hP hD rfl
                        have hP9 := hP.sub (ws' := [(mh, .inr (9, G9 ma mcode mtoday moffs mmany msumW msumA msumR msumWW msumWA msumAA msumWR msumAR mupper mlower mrates mtaped mlaid mat_194 2 mat_0 mtkNumber_194 mwaits mlisted mdealtMany)), ((ma 32), .inl (E 2, 120, .inl mf32))]) [0, 1] rfl
                        have hD9 := hD.sub (ws' := [(mh, .inr (9, G9 ma mcode mtoday moffs mmany msumW msumA msumR msumWW msumWA msumAA msumWR msumAR mupper mlower mrates mtaped mlaid mat_194 2 mat_0 mtkNumber_194 mwaits mlisted mdealtMany)), ((ma 32), .inl (E 2, 120, .inl mf32))]) [0, 1] (by decide) rfl
                        exact W.vret hx hb hr (fun t ht hW => ⟨⟨(mat_194, (2 : Int32), mat_0, mtkNumber_194), rfl, (by have h0 := t_2; (try dsimp only); omega), by rw [ht]; exact hP9, hD9⟩, hS.F ht⟩) hS.2.2 dX9_advance_286
              exact loop_44 121 0 mat_0 0 _ _ _ (by have h0 := t_0; (try dsimp only); omega) (by have h0 := t_0; (try dsimp only); omega) (by have h0 := t_0; (try dsimp only); omega) hP hD hS (lv_sub hl [0, 1, 2, 3] rfl)
            ·
              refine W_top (y := .int 0) (by rw [hr_40]) ?_
              refine lv_if_eq (tgt := 287) hx hb dX9_advance_184 (by decide) (fun c_65 => ?_) (fun c_65 => absurd (by decide) c_65)
              refine lv_aload_n hx hb dX9_advance_287 rfl (lv_at hl 1 rfl) ?_
              refine lv_dup hx hb dX9_advance_288 rfl ?_
              refine va_get (D := D) (ci := 9) (v := .int mat_0) (C := RX9) (T := TX9) (N := 68) hx hb htb iX9 hown hK.1 hP 0 rfl rfl 39 (by decide) (htb _ k_997) (fun _ h9 => h9) rfl dX9_advance_289 ?_
              refine lv_iconst (v := 1) hx hb dX9_advance_292 (by decide) ?_
              refine lv_iadd hx hb dX9_advance_293 ?_
              refine lv_topi (fun z_66 ez_66 => ?_)
              have jz_66 : z_66.toInt = mat_0.toInt + 1 := by rw [ez_66]; exact g_add rfl t_1 (by omega) (by omega)
              refine va_put (D := D) (ci := 9) (v := .int z_66) (ty := .int) (C := RX9) (T := TX9) (N := 68) hx hb htb iX9 tyX9 tyX9_ok nmX9 hown hK.1 hP hD hS 0 rfl rfl 39 (by decide) (htb _ k_997) (fun _ h9 => h9) rfl (by decide +kernel) rfl rfl (Nat.le_of_ble_eq_true rfl) dX9_advance_294 (fun H locs hP hD hS => ?_)
              have hP : va_P D vwCl [(mh, .inr (9, G9 ma mcode mtoday moffs mmany msumW msumA msumR msumWW msumWA msumAA msumWR msumAR mupper mlower mrates mtaped mlaid z_66 mtk mat_0 mtkNumber mwaits mlisted mdealtMany)), ((ma 32), .inl (E 2, 120, .inl mf32))] H := hP
              have hD := toW hP hD rfl
              refine lv_aload_n hx hb dX9_advance_297 rfl (lv_at hl 1 rfl) ?_
              refine lv_iload_n hx hb dX9_advance_298 rfl (lv_at hl 0 rfl) ?_
              refine callRS (rest := [.ref mh]) (As := [.int z_6]) hx hb hml hown htb hK (g_X9_signOf l D E z_6 ) ok_X9_signOf k_1369 k_1370 k_9 k_1371 ⟨(Nat.le_of_ble_eq_true rfl), (Nat.le_of_ble_eq_true rfl)⟩ ⟨(Nat.le_of_ble_eq_true rfl), (Nat.le_of_ble_eq_true rfl)⟩ hl.1 (Nat.le_of_ble_eq_true rfl) rfl rfl dX9_advance_299 (hP.sub (ws' := ([] : va_W)) [] rfl) (fun r_67 hw_68 => ?_)
              refine va_put (D := D) (ci := 9) (v := .int r_67) (ty := .int) (C := RX9) (T := TX9) (N := 68) hx hb htb iX9 tyX9 tyX9_ok nmX9 hown hK.1 hP hD hS 0 rfl rfl 40 (by decide) (htb _ k_998) (fun _ h9 => h9) rfl (by decide +kernel) rfl rfl (Nat.le_of_ble_eq_true rfl) dX9_advance_302 (fun H locs hP hD hS => ?_)
              have hP : va_P D vwCl [(mh, .inr (9, G9 ma mcode mtoday moffs mmany msumW msumA msumR msumWW msumWA msumAA msumWR msumAR mupper mlower mrates mtaped mlaid z_66 r_67 mat_0 mtkNumber mwaits mlisted mdealtMany)), ((ma 32), .inl (E 2, 120, .inl mf32))] H := hP
              have hD := toW hP hD rfl
              have hP9 := hP.sub (ws' := [(mh, .inr (9, G9 ma mcode mtoday moffs mmany msumW msumA msumR msumWW msumWA msumAA msumWR msumAR mupper mlower mrates mtaped mlaid z_66 r_67 mat_0 mtkNumber mwaits mlisted mdealtMany)), ((ma 32), .inl (E 2, 120, .inl mf32))]) [0, 1] rfl
              have hD9 := hD.sub (ws' := [(mh, .inr (9, G9 ma mcode mtoday moffs mmany msumW msumA msumR msumWW msumWA msumAA msumWR msumAR mupper mlower mrates mtaped mlaid z_66 r_67 mat_0 mtkNumber mwaits mlisted mdealtMany)), ((ma 32), .inl (E 2, 120, .inl mf32))]) [0, 1] (by decide) rfl
              exact W.vret hx hb hr (fun t ht hW => ⟨⟨(z_66, r_67, mat_0, mtkNumber), rfl, (by (try dsimp only); omega), by rw [ht]; exact hP9, hD9⟩, hS.F ht⟩) hS.2.2 dX9_advance_305
        ·
          have ic_5 : mat_0.toInt = mtaped.toInt := (g_eq rfl rfl).mp c_5
          clear c_5
          refine lv_aload_n hx hb dX9_advance_57 rfl (lv_at hl 0 rfl) ?_
          refine lv_iconst (v := 0) hx hb dX9_advance_58 (by decide) ?_
          refine va_put (D := D) (ci := 9) (v := .int 0) (ty := .int) (C := RX9) (T := TX9) (N := 68) hx hb htb iX9 tyX9 tyX9_ok nmX9 hown hK.1 hP hD hS 0 rfl rfl 40 (by decide) (htb _ k_998) (fun _ h9 => h9) rfl (by decide +kernel) rfl rfl (Nat.le_of_ble_eq_true rfl) dX9_advance_59 (fun H locs hP hD hS => ?_)
          have hP : va_P D vwCl [(mh, .inr (9, G9 ma mcode mtoday moffs mmany msumW msumA msumR msumWW msumWA msumAA msumWR msumAR mupper mlower mrates mtaped mlaid mat_0 0 mat_0 mtkNumber mwaits mlisted mdealtMany)), ((ma 32), .inl (E 2, 120, .inl mf32))] H := hP
          have hD := toW hP hD rfl
          have hP9 := hP.sub (ws' := [(mh, .inr (9, G9 ma mcode mtoday moffs mmany msumW msumA msumR msumWW msumWA msumAA msumWR msumAR mupper mlower mrates mtaped mlaid mat_0 0 mat_0 mtkNumber mwaits mlisted mdealtMany)), ((ma 32), .inl (E 2, 120, .inl mf32))]) [0, 1] rfl
          have hD9 := hD.sub (ws' := [(mh, .inr (9, G9 ma mcode mtoday moffs mmany msumW msumA msumR msumWW msumWA msumAA msumWR msumAR mupper mlower mrates mtaped mlaid mat_0 0 mat_0 mtkNumber mwaits mlisted mdealtMany)), ((ma 32), .inl (E 2, 120, .inl mf32))]) [0, 1] (by decide) rfl
          exact W.vret hx hb hr (fun t ht hW => ⟨⟨(mat_0, (0 : Int32), mat_0, mtkNumber), rfl, (by have h0 := t_0; (try dsimp only); omega), by rw [ht]; exact hP9, hD9⟩, hS.F ht⟩) hS.2.2 dX9_advance_62
      ·
        have ic_4 : mat_0.toInt < mtaped.toInt := by first | exact (g_lt rfl rfl).mp c_4 | (have h := mt (g_le rfl rfl).mpr c_4; omega)
        clear c_4
        refine lv_aload_n hx hb dX9_advance_11 rfl (lv_at hl 0 rfl) ?_
        refine va_get (D := D) (ci := 9) (v := .ref (ma 32)) (C := RX9) (T := TX9) (N := 68) hx hb htb iX9 hown hK.1 hP 0 rfl rfl 32 (by decide) (htb _ k_990) (fun _ h9 => h9) rfl dX9_advance_12 ?_
        refine lv_aload_n hx hb dX9_advance_15 rfl (lv_at hl 0 rfl) ?_
        refine va_get (D := D) (ci := 9) (v := .int mat_0) (C := RX9) (T := TX9) (N := 68) hx hb htb iX9 hown hK.1 hP 0 rfl rfl 39 (by decide) (htb _ k_997) (fun _ h9 => h9) rfl dX9_advance_16 ?_
        refine va_bald hx hb hK.1 hP 1 2 rfl rfl (g_in rfl (by omega) (by omega)) dX9_advance_19 ?_
        refine lv_topi (fun z_70 ez_70 => ?_)
        have kz_70 := congrArg Int32.toInt ez_70
        refine lv_bipush (v := 32) hx hb dX9_advance_20 (by decide) ?_
        refine lv_icmp_ne (tgt := 38) hx hb dX9_advance_22 (by decide) (fun c_71 => ?_) (fun c_71 => ?_)
        ·
          have ic_71 : z_70.toInt ≠ 32 := mt (g_eq rfl t_32).mpr c_71
          clear c_71
          refine lv_aload_n hx hb dX9_advance_38 rfl (lv_at hl 0 rfl) ?_
          refine lv_aload_n hx hb dX9_advance_39 rfl (lv_at hl 0 rfl) ?_
          refine va_get (D := D) (ci := 9) (v := .int mat_0) (C := RX9) (T := TX9) (N := 68) hx hb htb iX9 hown hK.1 hP 0 rfl rfl 39 (by decide) (htb _ k_997) (fun _ h9 => h9) rfl dX9_advance_40 ?_
          refine va_put (D := D) (ci := 9) (v := .int mat_0) (ty := .int) (C := RX9) (T := TX9) (N := 68) hx hb htb iX9 tyX9 tyX9_ok nmX9 hown hK.1 hP hD hS 0 rfl rfl 41 (by decide) (htb _ k_999) (fun _ h9 => h9) rfl (by decide +kernel) rfl rfl (Nat.le_of_ble_eq_true rfl) dX9_advance_43 (fun H locs hP hD hS => ?_)
          have hP : va_P D vwCl [(mh, .inr (9, G9 ma mcode mtoday moffs mmany msumW msumA msumR msumWW msumWA msumAA msumWR msumAR mupper mlower mrates mtaped mlaid mat_0 mtk mat_0 mtkNumber mwaits mlisted mdealtMany)), ((ma 32), .inl (E 2, 120, .inl mf32))] H := hP
          have hD := toW hP hD rfl
          refine lv_aload_n hx hb dX9_advance_46 rfl (lv_at hl 0 rfl) ?_
          refine va_get (D := D) (ci := 9) (v := .int mat_0) (C := RX9) (T := TX9) (N := 68) hx hb htb iX9 hown hK.1 hP 0 rfl rfl 39 (by decide) (htb _ k_997) (fun _ h9 => h9) rfl dX9_advance_47 ?_
          refine lv_aload_n hx hb dX9_advance_50 rfl (lv_at hl 0 rfl) ?_
          refine va_get (D := D) (ci := 9) (v := .int mtaped) (C := RX9) (T := TX9) (N := 68) hx hb htb iX9 hown hK.1 hP 0 rfl rfl 33 (by decide) (htb _ k_991) (fun _ h9 => h9) rfl dX9_advance_51 ?_
          refine lv_icmp_ne (tgt := 63) hx hb dX9_advance_54 (by decide) (fun c_72 => ?_) (fun c_72 => ?_)
          ·
            have ic_72 : mat_0.toInt ≠ mtaped.toInt := mt (g_eq rfl rfl).mpr c_72
            clear c_72
            refine lv_aload_n hx hb dX9_advance_63 rfl (lv_at hl 0 rfl) ?_
            refine va_get (D := D) (ci := 9) (v := .ref (ma 32)) (C := RX9) (T := TX9) (N := 68) hx hb htb iX9 hown hK.1 hP 0 rfl rfl 32 (by decide) (htb _ k_990) (fun _ h9 => h9) rfl dX9_advance_64 ?_
            refine lv_aload_n hx hb dX9_advance_67 rfl (lv_at hl 0 rfl) ?_
            refine va_get (D := D) (ci := 9) (v := .int mat_0) (C := RX9) (T := TX9) (N := 68) hx hb htb iX9 hown hK.1 hP 0 rfl rfl 39 (by decide) (htb _ k_997) (fun _ h9 => h9) rfl dX9_advance_68 ?_
            refine va_bald hx hb hK.1 hP 1 2 rfl rfl (g_in rfl (by omega) (by omega)) dX9_advance_71 ?_
            refine lv_topi (fun z_73 ez_73 => ?_)
            have kz_73 := congrArg Int32.toInt ez_73
            refine lv_istore_n (lv' := [(2, .int z_73), (0, .ref mh), (1, .int p0)]) hx hb dX9_advance_72 rfl hl (by decide) rfl (fun ls hl => ?_)
            refine lv_iload_n hx hb dX9_advance_73 rfl (lv_at hl 0 rfl) ?_
            refine callRS (rest := []) (As := [.int z_73]) hx hb hml hown htb hK (g_X9_isLetter l D E z_73 ) ok_X9_isLetter k_1342 k_1343 k_9 k_1344 ⟨(Nat.le_of_ble_eq_true rfl), (Nat.le_of_ble_eq_true rfl)⟩ ⟨(Nat.le_of_ble_eq_true rfl), (Nat.le_of_ble_eq_true rfl)⟩ hl.1 (Nat.le_of_ble_eq_true rfl) rfl rfl dX9_advance_74 (hP.sub (ws' := ([] : va_W)) [] rfl) (fun r_74 hw_75 => ?_)
            rcases hw_75 with ⟨hr_74, hw_75⟩ | ⟨hr_74, hw_75⟩
            ·
              refine W_top (y := .int 1) (by rw [hr_74]) ?_
              refine lv_if_eq (tgt := 180) hx hb dX9_advance_77 (by decide) (fun c_77 => absurd c_77 (by decide)) (fun c_77 => ?_)
              refine lv_lconst (v := 0) hx hb dX9_advance_80 (by decide) ?_
              refine lv_lstore_n (lv' := [(3, .long 0), (2, .int z_73), (0, .ref mh), (1, .int p0)]) hx hb dX9_advance_81 rfl hl (by decide) rfl (fun ls hl => ?_)
              refine lv_iconst (v := 0) hx hb dX9_advance_82 (by decide) ?_
              refine lv_istore (lv' := [(5, .int 0), (3, .long 0), (2, .int z_73), (0, .ref mh), (1, .int p0)]) hx hb dX9_advance_83 hl (by decide) rfl (fun ls hl => ?_)
              have loop_78 : ∀ (N_80 : Nat) (L5_85 : Int32) (mat_85 : Int32) (L3_85 : Int64) (H : Heap) (locs : List Loc) (ls : Array Slot), mtaped.toInt - mat_85.toInt < (N_80 : Int) → (mat_0.toInt ≤ mat_85.toInt ∧ mat_85.toInt ≤ mtaped.toInt ∧ mat_0.toInt < mtaped.toInt ∧ mat.toInt ≤ mat_0.toInt ∧ (mat_0.toInt + 1 ≤ mat_85.toInt ∨ (97 ≤ (mf32 (mat_85).toNatClampNeg).toInt ∧ (mf32 (mat_85).toNatClampNeg).toInt ≤ 122))) → (0 ≤ L5_85.toInt ∧ L5_85.toInt ≤ mat_85.toInt) → va_P D vwCl [(mh, .inr (9, G9 ma mcode mtoday moffs mmany msumW msumA msumR msumWW msumWA msumAA msumWR msumAR mupper mlower mrates mtaped mlaid mat_85 mtk mat_0 mtkNumber mwaits mlisted mdealtMany)), ((ma 32), .inl (E 2, 120, .inl mf32))] H → va_D A [(mh, .inr (9, G9 ma mcode mtoday moffs mmany msumW msumA msumR msumWW msumWA msumAA msumWR msumAR mupper mlower mrates mtaped mlaid mat_85 mtk mat_0 mtkNumber mwaits mlisted mdealtMany)), ((ma 32), .inl (E 2, 120, .inl mf32))] → va_S A s.heap H locs → lv_has ls 6 [(5, .int L5_85), (3, .long L3_85), (2, .int z_73), (0, .ref mh), (1, .int p0)] → W p l e (headSpec (wl yX9_advance cX9_advance 6 none) (RM 1 0 0)).room s m [Value.ref mh, .int p0].toArray below meth c H locs 0 0 (MQ below (va_Qv (fun (u : (Int32) × (Int32) × (Int32) × (Int32)) => (mat.toInt ≤ u.2.2.1.toInt ∧ u.2.2.1.toInt ≤ u.1.toInt ∧ u.1.toInt ≤ mtaped.toInt ∧ (u.2.1.toInt = 0 ∨ u.2.2.1.toInt + 1 ≤ u.1.toInt) ∧ 0 ≤ u.2.1.toInt ∧ u.2.1.toInt ≤ 123)) (mu_B D A (fun (u : (Int32) × (Int32) × (Int32) × (Int32)) => [(mh, .inr (9, G9 ma mcode mtoday moffs mmany msumW msumA msumR msumWW msumWA msumAA msumWR msumAR mupper mlower mrates mtaped mlaid u.1 u.2.1 u.2.2.1 u.2.2.2 mwaits mlisted mdealtMany)), ((ma 32), .inl (E 2, 120, .inl mf32))])) A) [Value.ref mh, .int p0].toArray s 0 0 A) (F0 m 85 ls []) := by
                intro N_80
                induction N_80 with
                | zero => intro L5_85 mat_85 L3_85 H locs ls hm v0_85 v1_85 _ _ _ _; exfalso; omega
                | succ N_80 ih_79 =>
                  intro L5_85 mat_85 L3_85 H locs ls hm v0_85 v1_85 hP hD hS hl
                  have lo_L5_85 := i_lo L5_85; have hi_L5_85 := i_hi L5_85
                  have lo_mat_85 := i_lo mat_85; have hi_mat_85 := i_hi mat_85
                  refine lv_aload_n hx hb dX9_advance_85 rfl (lv_at hl 3 rfl) ?_
                  refine va_get (D := D) (ci := 9) (v := .int mat_85) (C := RX9) (T := TX9) (N := 68) hx hb htb iX9 hown hK.1 hP 0 rfl rfl 39 (by decide) (htb _ k_997) (fun _ h9 => h9) rfl dX9_advance_86 ?_
                  refine lv_aload_n hx hb dX9_advance_89 rfl (lv_at hl 3 rfl) ?_
                  refine va_get (D := D) (ci := 9) (v := .int mtaped) (C := RX9) (T := TX9) (N := 68) hx hb htb iX9 hown hK.1 hP 0 rfl rfl 33 (by decide) (htb _ k_991) (fun _ h9 => h9) rfl dX9_advance_90 ?_
                  refine lv_icmp_ge (tgt := 159) hx hb dX9_advance_93 (by decide) (fun c_81 => ?_) (fun c_81 => ?_)
                  ·
                    have ic_81 : mtaped.toInt ≤ mat_85.toInt := by first | exact (g_le rfl rfl).mp c_81 | (have h := mt (g_lt rfl rfl).mpr c_81; omega)
                    clear c_81
                    refine lv_aload_n hx hb dX9_advance_159 rfl (lv_at hl 3 rfl) ?_
                    refine lv_iload hx hb dX9_advance_160 (lv_at hl 0 rfl) ?_
                    refine lv_bipush (v := 6) hx hb dX9_advance_162 (by decide) ?_
                    refine lv_icmp_le (tgt := 171) hx hb dX9_advance_164 (by decide) (fun c_82 => ?_) (fun c_82 => ?_)
                    ·
                      have ic_82 : L5_85.toInt ≤ 6 := by first | exact (g_le rfl t_6).mp c_82 | (have h := mt (g_lt t_6 rfl).mpr c_82; omega)
                      clear c_82
                      refine lv_lload_n hx hb dX9_advance_171 rfl (lv_at hl 1 rfl) ?_
                      refine lv_iload_n hx hb dX9_advance_172 rfl (lv_at hl 4 rfl) ?_
                      refine callRS (rest := [.ref mh]) (As := [.long L3_85, .int p0]) hx hb hml hown htb hK (g_X9_wordOf l D E L3_85 p0 ) ok_X9_wordOf k_1347 k_1348 k_9 k_1349 ⟨(Nat.le_of_ble_eq_true rfl), (Nat.le_of_ble_eq_true rfl)⟩ ⟨(Nat.le_of_ble_eq_true rfl), (Nat.le_of_ble_eq_true rfl)⟩ hl.1 (Nat.le_of_ble_eq_true rfl) rfl rfl dX9_advance_173 (hP.sub (ws' := ([] : va_W)) [] rfl) (fun r_83 hw_84 => ?_)
                      refine va_put (D := D) (ci := 9) (v := .int r_83) (ty := .int) (C := RX9) (T := TX9) (N := 68) hx hb htb iX9 tyX9 tyX9_ok nmX9 hown hK.1 hP hD hS 0 rfl rfl 40 (by decide) (htb _ k_998) (fun _ h9 => h9) rfl (by decide +kernel) rfl rfl (Nat.le_of_ble_eq_true rfl) dX9_advance_176 (fun H locs hP hD hS => ?_)
                      have hP : va_P D vwCl [(mh, .inr (9, G9 ma mcode mtoday moffs mmany msumW msumA msumR msumWW msumWA msumAA msumWR msumAR mupper mlower mrates mtaped mlaid mat_85 r_83 mat_0 mtkNumber mwaits mlisted mdealtMany)), ((ma 32), .inl (E 2, 120, .inl mf32))] H := hP
                      have hD := toW hP hD rfl
                      have hP9 := hP.sub (ws' := [(mh, .inr (9, G9 ma mcode mtoday moffs mmany msumW msumA msumR msumWW msumWA msumAA msumWR msumAR mupper mlower mrates mtaped mlaid mat_85 r_83 mat_0 mtkNumber mwaits mlisted mdealtMany)), ((ma 32), .inl (E 2, 120, .inl mf32))]) [0, 1] rfl
                      have hD9 := hD.sub (ws' := [(mh, .inr (9, G9 ma mcode mtoday moffs mmany msumW msumA msumR msumWW msumWA msumAA msumWR msumAR mupper mlower mrates mtaped mlaid mat_85 r_83 mat_0 mtkNumber mwaits mlisted mdealtMany)), ((ma 32), .inl (E 2, 120, .inl mf32))]) [0, 1] (by decide) rfl
                      exact W.vret hx hb hr (fun t ht hW => ⟨⟨(mat_85, r_83, mat_0, mtkNumber), rfl, (by (try dsimp only); omega), by rw [ht]; exact hP9, hD9⟩, hS.F ht⟩) hS.2.2 dX9_advance_179
                    ·
                      have ic_82 : 6 < L5_85.toInt := by first | exact (g_lt t_6 rfl).mp c_82 | (have h := mt (g_le rfl t_6).mpr c_82; omega)
                      clear c_82
                      refine lv_iconst (v := 2) hx hb dX9_advance_167 (by decide) ?_
                      refine lv_goto (tgt := 176) hx hb dX9_advance_168 (by decide) ?_
                      refine va_put (D := D) (ci := 9) (v := .int 2) (ty := .int) (C := RX9) (T := TX9) (N := 68) hx hb htb iX9 tyX9 tyX9_ok nmX9 hown hK.1 hP hD hS 0 rfl rfl 40 (by decide) (htb _ k_998) (fun _ h9 => h9) rfl (by decide +kernel) rfl rfl (Nat.le_of_ble_eq_true rfl) dX9_advance_176 (fun H locs hP hD hS => ?_)
                      have hP : va_P D vwCl [(mh, .inr (9, G9 ma mcode mtoday moffs mmany msumW msumA msumR msumWW msumWA msumAA msumWR msumAR mupper mlower mrates mtaped mlaid mat_85 2 mat_0 mtkNumber mwaits mlisted mdealtMany)), ((ma 32), .inl (E 2, 120, .inl mf32))] H := hP
                      have hD := toW hP hD rfl
                      have hP9 := hP.sub (ws' := [(mh, .inr (9, G9 ma mcode mtoday moffs mmany msumW msumA msumR msumWW msumWA msumAA msumWR msumAR mupper mlower mrates mtaped mlaid mat_85 2 mat_0 mtkNumber mwaits mlisted mdealtMany)), ((ma 32), .inl (E 2, 120, .inl mf32))]) [0, 1] rfl
                      have hD9 := hD.sub (ws' := [(mh, .inr (9, G9 ma mcode mtoday moffs mmany msumW msumA msumR msumWW msumWA msumAA msumWR msumAR mupper mlower mrates mtaped mlaid mat_85 2 mat_0 mtkNumber mwaits mlisted mdealtMany)), ((ma 32), .inl (E 2, 120, .inl mf32))]) [0, 1] (by decide) rfl
                      exact W.vret hx hb hr (fun t ht hW => ⟨⟨(mat_85, (2 : Int32), mat_0, mtkNumber), rfl, (by have h0 := t_2; (try dsimp only); omega), by rw [ht]; exact hP9, hD9⟩, hS.F ht⟩) hS.2.2 dX9_advance_179
                  ·
                    have ic_81 : mat_85.toInt < mtaped.toInt := by first | exact (g_lt rfl rfl).mp c_81 | (have h := mt (g_le rfl rfl).mpr c_81; omega)
                    clear c_81
                    refine lv_aload_n hx hb dX9_advance_96 rfl (lv_at hl 3 rfl) ?_
                    refine va_get (D := D) (ci := 9) (v := .ref (ma 32)) (C := RX9) (T := TX9) (N := 68) hx hb htb iX9 hown hK.1 hP 0 rfl rfl 32 (by decide) (htb _ k_990) (fun _ h9 => h9) rfl dX9_advance_97 ?_
                    refine lv_aload_n hx hb dX9_advance_100 rfl (lv_at hl 3 rfl) ?_
                    refine va_get (D := D) (ci := 9) (v := .int mat_85) (C := RX9) (T := TX9) (N := 68) hx hb htb iX9 hown hK.1 hP 0 rfl rfl 39 (by decide) (htb _ k_997) (fun _ h9 => h9) rfl dX9_advance_101 ?_
                    refine va_bald hx hb hK.1 hP 1 2 rfl rfl (g_in rfl (by omega) (by omega)) dX9_advance_104 ?_
                    refine lv_topi (fun z_86 ez_86 => ?_)
                    have kz_86 := congrArg Int32.toInt ez_86
                    refine callRS (rest := []) (As := [.int z_86]) hx hb hml hown htb hK (g_X9_isLetter l D E z_86 ) ok_X9_isLetter k_1342 k_1343 k_9 k_1344 ⟨(Nat.le_of_ble_eq_true rfl), (Nat.le_of_ble_eq_true rfl)⟩ ⟨(Nat.le_of_ble_eq_true rfl), (Nat.le_of_ble_eq_true rfl)⟩ hl.1 (Nat.le_of_ble_eq_true rfl) rfl rfl dX9_advance_105 (hP.sub (ws' := ([] : va_W)) [] rfl) (fun r_87 hw_88 => ?_)
                    rcases hw_88 with ⟨hr_87, hw_88⟩ | ⟨hr_87, hw_88⟩
                    ·
                      refine W_top (y := .int 1) (by rw [hr_87]) ?_
                      refine lv_if_eq (tgt := 159) hx hb dX9_advance_108 (by decide) (fun c_90 => absurd c_90 (by decide)) (fun c_90 => ?_)
                      refine lv_iload hx hb dX9_advance_111 (lv_at hl 0 rfl) ?_
                      refine lv_bipush (v := 7) hx hb dX9_advance_113 (by decide) ?_
                      refine lv_icmp_ge (tgt := 141) hx hb dX9_advance_115 (by decide) (fun c_91 => ?_) (fun c_91 => ?_)
                      ·
                        have ic_91 : 7 ≤ L5_85.toInt := by first | exact (g_le t_7 rfl).mp c_91 | (have h := mt (g_lt rfl t_7).mpr c_91; omega)
                        clear c_91
                        refine lv_lload_n hx hb dX9_advance_141 rfl (lv_at hl 1 rfl) ?_
                        refine lv_lstore_n (lv' := [(3, .long L3_85), (5, .int L5_85), (2, .int z_73), (0, .ref mh), (1, .int p0)]) hx hb dX9_advance_142 rfl hl (by decide) rfl (fun ls hl => ?_)
                        refine lv_aload_n hx hb dX9_advance_143 rfl (lv_at hl 3 rfl) ?_
                        refine lv_dup hx hb dX9_advance_144 rfl ?_
                        refine va_get (D := D) (ci := 9) (v := .int mat_85) (C := RX9) (T := TX9) (N := 68) hx hb htb iX9 hown hK.1 hP 0 rfl rfl 39 (by decide) (htb _ k_997) (fun _ h9 => h9) rfl dX9_advance_145 ?_
                        refine lv_iconst (v := 1) hx hb dX9_advance_148 (by decide) ?_
                        refine lv_iadd hx hb dX9_advance_149 ?_
                        refine lv_topi (fun z_92 ez_92 => ?_)
                        have jz_92 : z_92.toInt = mat_85.toInt + 1 := by rw [ez_92]; exact g_add rfl t_1 (by omega) (by omega)
                        refine va_put (D := D) (ci := 9) (v := .int z_92) (ty := .int) (C := RX9) (T := TX9) (N := 68) hx hb htb iX9 tyX9 tyX9_ok nmX9 hown hK.1 hP hD hS 0 rfl rfl 39 (by decide) (htb _ k_997) (fun _ h9 => h9) rfl (by decide +kernel) rfl rfl (Nat.le_of_ble_eq_true rfl) dX9_advance_150 (fun H locs hP hD hS => ?_)
                        have hP : va_P D vwCl [(mh, .inr (9, G9 ma mcode mtoday moffs mmany msumW msumA msumR msumWW msumWA msumAA msumWR msumAR mupper mlower mrates mtaped mlaid z_92 mtk mat_0 mtkNumber mwaits mlisted mdealtMany)), ((ma 32), .inl (E 2, 120, .inl mf32))] H := hP
                        have hD := toW hP hD rfl
                        obtain ⟨z_93, ez_93⟩ : ∃ y : Int32, y = L5_85 + 1 := ⟨_, rfl⟩
                        have jz_93 : z_93.toInt = L5_85.toInt + 1 := by rw [ez_93]; exact g_add rfl t_1 (by omega) (by omega)
                        refine lv_iinc (v := z_93) (lv' := [(5, .int z_93), (3, .long L3_85), (2, .int z_73), (0, .ref mh), (1, .int p0)]) hx hb dX9_advance_153 hl (k := 1) rfl (by rw [ez_93]; rfl) (by decide) rfl (fun ls hl => ?_)
                        refine lv_goto (tgt := 85) hx hb dX9_advance_156 (by decide) ?_
                        exact ih_79 z_93 z_92 L3_85 _ _ _ (by (try dsimp only); omega) (by (try dsimp only); omega) (by (try dsimp only); omega) hP hD hS (lv_sub hl [0, 1, 2, 3, 4] rfl)
                      ·
                        have ic_91 : L5_85.toInt < 7 := by first | exact (g_lt rfl t_7).mp c_91 | (have h := mt (g_le t_7 rfl).mpr c_91; omega)
                        clear c_91
                        refine lv_lload_n hx hb dX9_advance_118 rfl (lv_at hl 1 rfl) ?_
                        refine lv_ldc2 hx hb hown (htb _ k_1345) dX9_advance_119 ?_
                        refine lv_lmul hx hb dX9_advance_122 ?_
                        refine lv_topl (fun z_94 ez_94 => ?_)
                        refine lv_aload_n hx hb dX9_advance_123 rfl (lv_at hl 3 rfl) ?_
                        refine va_get (D := D) (ci := 9) (v := .ref (ma 32)) (C := RX9) (T := TX9) (N := 68) hx hb htb iX9 hown hK.1 hP 0 rfl rfl 32 (by decide) (htb _ k_990) (fun _ h9 => h9) rfl dX9_advance_124 ?_
                        refine lv_aload_n hx hb dX9_advance_127 rfl (lv_at hl 3 rfl) ?_
                        refine va_get (D := D) (ci := 9) (v := .int mat_85) (C := RX9) (T := TX9) (N := 68) hx hb htb iX9 hown hK.1 hP 0 rfl rfl 39 (by decide) (htb _ k_997) (fun _ h9 => h9) rfl dX9_advance_128 ?_
                        refine va_bald hx hb hK.1 hP 1 2 rfl rfl (g_in rfl (by omega) (by omega)) dX9_advance_131 ?_
                        refine lv_topi (fun z_95 ez_95 => ?_)
                        have kz_95 := congrArg Int32.toInt ez_95
                        obtain ⟨z_96, ez_96⟩ : ∃ y : Int64, (z_95 : Int32).toInt64 = y := ⟨_, rfl⟩
                        refine lv_i2l hx hb dX9_advance_132 ez_96 ?_
                        refine lv_ladd hx hb dX9_advance_133 ?_
                        refine lv_topl (fun z_97 ez_97 => ?_)
                        refine lv_ldc2 hx hb hown (htb _ k_1346) dX9_advance_134 ?_
                        refine lv_lsub hx hb dX9_advance_137 ?_
                        refine lv_topl (fun z_98 ez_98 => ?_)
                        refine lv_goto (tgt := 142) hx hb dX9_advance_138 (by decide) ?_
                        refine lv_lstore_n (lv' := [(3, .long z_98), (5, .int L5_85), (2, .int z_73), (0, .ref mh), (1, .int p0)]) hx hb dX9_advance_142 rfl hl (by decide) rfl (fun ls hl => ?_)
                        refine lv_aload_n hx hb dX9_advance_143 rfl (lv_at hl 3 rfl) ?_
                        refine lv_dup hx hb dX9_advance_144 rfl ?_
                        refine va_get (D := D) (ci := 9) (v := .int mat_85) (C := RX9) (T := TX9) (N := 68) hx hb htb iX9 hown hK.1 hP 0 rfl rfl 39 (by decide) (htb _ k_997) (fun _ h9 => h9) rfl dX9_advance_145 ?_
                        refine lv_iconst (v := 1) hx hb dX9_advance_148 (by decide) ?_
                        refine lv_iadd hx hb dX9_advance_149 ?_
                        refine lv_topi (fun z_99 ez_99 => ?_)
                        have jz_99 : z_99.toInt = mat_85.toInt + 1 := by rw [ez_99]; exact g_add rfl t_1 (by omega) (by omega)
                        refine va_put (D := D) (ci := 9) (v := .int z_99) (ty := .int) (C := RX9) (T := TX9) (N := 68) hx hb htb iX9 tyX9 tyX9_ok nmX9 hown hK.1 hP hD hS 0 rfl rfl 39 (by decide) (htb _ k_997) (fun _ h9 => h9) rfl (by decide +kernel) rfl rfl (Nat.le_of_ble_eq_true rfl) dX9_advance_150 (fun H locs hP hD hS => ?_)
                        have hP : va_P D vwCl [(mh, .inr (9, G9 ma mcode mtoday moffs mmany msumW msumA msumR msumWW msumWA msumAA msumWR msumAR mupper mlower mrates mtaped mlaid z_99 mtk mat_0 mtkNumber mwaits mlisted mdealtMany)), ((ma 32), .inl (E 2, 120, .inl mf32))] H := hP
                        have hD := toW hP hD rfl
                        obtain ⟨z_100, ez_100⟩ : ∃ y : Int32, y = L5_85 + 1 := ⟨_, rfl⟩
                        have jz_100 : z_100.toInt = L5_85.toInt + 1 := by rw [ez_100]; exact g_add rfl t_1 (by omega) (by omega)
                        refine lv_iinc (v := z_100) (lv' := [(5, .int z_100), (3, .long z_98), (2, .int z_73), (0, .ref mh), (1, .int p0)]) hx hb dX9_advance_153 hl (k := 1) rfl (by rw [ez_100]; rfl) (by decide) rfl (fun ls hl => ?_)
                        refine lv_goto (tgt := 85) hx hb dX9_advance_156 (by decide) ?_
                        exact ih_79 z_100 z_99 z_98 _ _ _ (by (try dsimp only); omega) (by (try dsimp only); omega) (by (try dsimp only); omega) hP hD hS (lv_sub hl [0, 1, 2, 3, 4] rfl)
                    ·
                      refine W_top (y := .int 0) (by rw [hr_87]) ?_
                      refine lv_if_eq (tgt := 159) hx hb dX9_advance_108 (by decide) (fun c_101 => ?_) (fun c_101 => absurd (by decide) c_101)
                      refine lv_aload_n hx hb dX9_advance_159 rfl (lv_at hl 3 rfl) ?_
                      refine lv_iload hx hb dX9_advance_160 (lv_at hl 0 rfl) ?_
                      refine lv_bipush (v := 6) hx hb dX9_advance_162 (by decide) ?_
                      refine lv_icmp_le (tgt := 171) hx hb dX9_advance_164 (by decide) (fun c_102 => ?_) (fun c_102 => ?_)
                      ·
                        have ic_102 : L5_85.toInt ≤ 6 := by first | exact (g_le rfl t_6).mp c_102 | (have h := mt (g_lt t_6 rfl).mpr c_102; omega)
                        clear c_102
                        refine lv_lload_n hx hb dX9_advance_171 rfl (lv_at hl 1 rfl) ?_
                        refine lv_iload_n hx hb dX9_advance_172 rfl (lv_at hl 4 rfl) ?_
                        refine callRS (rest := [.ref mh]) (As := [.long L3_85, .int p0]) hx hb hml hown htb hK (g_X9_wordOf l D E L3_85 p0 ) ok_X9_wordOf k_1347 k_1348 k_9 k_1349 ⟨(Nat.le_of_ble_eq_true rfl), (Nat.le_of_ble_eq_true rfl)⟩ ⟨(Nat.le_of_ble_eq_true rfl), (Nat.le_of_ble_eq_true rfl)⟩ hl.1 (Nat.le_of_ble_eq_true rfl) rfl rfl dX9_advance_173 (hP.sub (ws' := ([] : va_W)) [] rfl) (fun r_103 hw_104 => ?_)
                        refine va_put (D := D) (ci := 9) (v := .int r_103) (ty := .int) (C := RX9) (T := TX9) (N := 68) hx hb htb iX9 tyX9 tyX9_ok nmX9 hown hK.1 hP hD hS 0 rfl rfl 40 (by decide) (htb _ k_998) (fun _ h9 => h9) rfl (by decide +kernel) rfl rfl (Nat.le_of_ble_eq_true rfl) dX9_advance_176 (fun H locs hP hD hS => ?_)
                        have hP : va_P D vwCl [(mh, .inr (9, G9 ma mcode mtoday moffs mmany msumW msumA msumR msumWW msumWA msumAA msumWR msumAR mupper mlower mrates mtaped mlaid mat_85 r_103 mat_0 mtkNumber mwaits mlisted mdealtMany)), ((ma 32), .inl (E 2, 120, .inl mf32))] H := hP
                        have hD := toW hP hD rfl
                        have hP9 := hP.sub (ws' := [(mh, .inr (9, G9 ma mcode mtoday moffs mmany msumW msumA msumR msumWW msumWA msumAA msumWR msumAR mupper mlower mrates mtaped mlaid mat_85 r_103 mat_0 mtkNumber mwaits mlisted mdealtMany)), ((ma 32), .inl (E 2, 120, .inl mf32))]) [0, 1] rfl
                        have hD9 := hD.sub (ws' := [(mh, .inr (9, G9 ma mcode mtoday moffs mmany msumW msumA msumR msumWW msumWA msumAA msumWR msumAR mupper mlower mrates mtaped mlaid mat_85 r_103 mat_0 mtkNumber mwaits mlisted mdealtMany)), ((ma 32), .inl (E 2, 120, .inl mf32))]) [0, 1] (by decide) rfl
                        exact W.vret hx hb hr (fun t ht hW => ⟨⟨(mat_85, r_103, mat_0, mtkNumber), rfl, (by (try dsimp only); omega), by rw [ht]; exact hP9, hD9⟩, hS.F ht⟩) hS.2.2 dX9_advance_179
                      ·
                        have ic_102 : 6 < L5_85.toInt := by first | exact (g_lt t_6 rfl).mp c_102 | (have h := mt (g_le rfl t_6).mpr c_102; omega)
                        clear c_102
                        refine lv_iconst (v := 2) hx hb dX9_advance_167 (by decide) ?_
                        refine lv_goto (tgt := 176) hx hb dX9_advance_168 (by decide) ?_
                        refine va_put (D := D) (ci := 9) (v := .int 2) (ty := .int) (C := RX9) (T := TX9) (N := 68) hx hb htb iX9 tyX9 tyX9_ok nmX9 hown hK.1 hP hD hS 0 rfl rfl 40 (by decide) (htb _ k_998) (fun _ h9 => h9) rfl (by decide +kernel) rfl rfl (Nat.le_of_ble_eq_true rfl) dX9_advance_176 (fun H locs hP hD hS => ?_)
                        have hP : va_P D vwCl [(mh, .inr (9, G9 ma mcode mtoday moffs mmany msumW msumA msumR msumWW msumWA msumAA msumWR msumAR mupper mlower mrates mtaped mlaid mat_85 2 mat_0 mtkNumber mwaits mlisted mdealtMany)), ((ma 32), .inl (E 2, 120, .inl mf32))] H := hP
                        have hD := toW hP hD rfl
                        have hP9 := hP.sub (ws' := [(mh, .inr (9, G9 ma mcode mtoday moffs mmany msumW msumA msumR msumWW msumWA msumAA msumWR msumAR mupper mlower mrates mtaped mlaid mat_85 2 mat_0 mtkNumber mwaits mlisted mdealtMany)), ((ma 32), .inl (E 2, 120, .inl mf32))]) [0, 1] rfl
                        have hD9 := hD.sub (ws' := [(mh, .inr (9, G9 ma mcode mtoday moffs mmany msumW msumA msumR msumWW msumWA msumAA msumWR msumAR mupper mlower mrates mtaped mlaid mat_85 2 mat_0 mtkNumber mwaits mlisted mdealtMany)), ((ma 32), .inl (E 2, 120, .inl mf32))]) [0, 1] (by decide) rfl
                        exact W.vret hx hb hr (fun t ht hW => ⟨⟨(mat_85, (2 : Int32), mat_0, mtkNumber), rfl, (by have h0 := t_2; (try dsimp only); omega), by rw [ht]; exact hP9, hD9⟩, hS.F ht⟩) hS.2.2 dX9_advance_179
              exact loop_78 121 0 mat_0 0 _ _ _ (by have h0 := t_0; (try dsimp only); omega) (by have h0 := t_0; (try dsimp only); omega) (by have h0 := t_0; (try dsimp only); omega) hP hD hS (lv_sub hl [0, 1, 2, 3, 4] rfl)
            ·
              refine W_top (y := .int 0) (by rw [hr_74]) ?_
              refine lv_if_eq (tgt := 180) hx hb dX9_advance_77 (by decide) (fun c_106 => ?_) (fun c_106 => absurd (by decide) c_106)
              refine lv_iload_n hx hb dX9_advance_180 rfl (lv_at hl 0 rfl) ?_
              refine callRS (rest := []) (As := [.int z_73]) hx hb hml hown htb hK (g_X9_isDigit l D E z_73 ) ok_X9_isDigit k_1366 k_1367 k_9 k_1368 ⟨(Nat.le_of_ble_eq_true rfl), (Nat.le_of_ble_eq_true rfl)⟩ ⟨(Nat.le_of_ble_eq_true rfl), (Nat.le_of_ble_eq_true rfl)⟩ hl.1 (Nat.le_of_ble_eq_true rfl) rfl rfl dX9_advance_181 (hP.sub (ws' := ([] : va_W)) [] rfl) (fun r_107 hw_108 => ?_)
              rcases hw_108 with ⟨hr_107, hw_108⟩ | ⟨hr_107, hw_108⟩
              ·
                refine W_top (y := .int 1) (by rw [hr_107]) ?_
                refine lv_if_eq (tgt := 287) hx hb dX9_advance_184 (by decide) (fun c_110 => absurd c_110 (by decide)) (fun c_110 => ?_)
                refine lv_iconst (v := 0) hx hb dX9_advance_187 (by decide) ?_
                refine lv_istore_n (lv' := [(3, .int 0), (2, .int z_73), (0, .ref mh), (1, .int p0)]) hx hb dX9_advance_188 rfl hl (by decide) rfl (fun ls hl => ?_)
                refine lv_aload_n hx hb dX9_advance_189 rfl (lv_at hl 2 rfl) ?_
                refine lv_iconst (v := 0) hx hb dX9_advance_190 (by decide) ?_
                refine va_put (D := D) (ci := 9) (v := .int 0) (ty := .int) (C := RX9) (T := TX9) (N := 68) hx hb htb iX9 tyX9 tyX9_ok nmX9 hown hK.1 hP hD hS 0 rfl rfl 42 (by decide) (htb _ k_1000) (fun _ h9 => h9) rfl (by decide +kernel) rfl rfl (Nat.le_of_ble_eq_true rfl) dX9_advance_191 (fun H locs hP hD hS => ?_)
                have hP : va_P D vwCl [(mh, .inr (9, G9 ma mcode mtoday moffs mmany msumW msumA msumR msumWW msumWA msumAA msumWR msumAR mupper mlower mrates mtaped mlaid mat_0 mtk mat_0 0 mwaits mlisted mdealtMany)), ((ma 32), .inl (E 2, 120, .inl mf32))] H := hP
                have hD := toW hP hD rfl
                have loop_111 : ∀ (N_113 : Nat) (L3_194 : Int32) (mat_194 : Int32) (mtkNumber_194 : Int32) (H : Heap) (locs : List Loc) (ls : Array Slot), mtaped.toInt - mat_194.toInt < (N_113 : Int) → (mat_0.toInt ≤ mat_194.toInt ∧ mat_194.toInt ≤ mtaped.toInt ∧ mat_0.toInt < mtaped.toInt ∧ mat.toInt ≤ mat_0.toInt ∧ (mat_0.toInt + 1 ≤ mat_194.toInt ∨ (48 ≤ (mf32 (mat_194).toNatClampNeg).toInt ∧ (mf32 (mat_194).toNatClampNeg).toInt ≤ 57))) → (0 ≤ L3_194.toInt ∧ L3_194.toInt ≤ mat_194.toInt) → va_P D vwCl [(mh, .inr (9, G9 ma mcode mtoday moffs mmany msumW msumA msumR msumWW msumWA msumAA msumWR msumAR mupper mlower mrates mtaped mlaid mat_194 mtk mat_0 mtkNumber_194 mwaits mlisted mdealtMany)), ((ma 32), .inl (E 2, 120, .inl mf32))] H → va_D A [(mh, .inr (9, G9 ma mcode mtoday moffs mmany msumW msumA msumR msumWW msumWA msumAA msumWR msumAR mupper mlower mrates mtaped mlaid mat_194 mtk mat_0 mtkNumber_194 mwaits mlisted mdealtMany)), ((ma 32), .inl (E 2, 120, .inl mf32))] → va_S A s.heap H locs → lv_has ls 6 [(3, .int L3_194), (2, .int z_73), (0, .ref mh), (1, .int p0)] → W p l e (headSpec (wl yX9_advance cX9_advance 6 none) (RM 1 0 0)).room s m [Value.ref mh, .int p0].toArray below meth c H locs 0 0 (MQ below (va_Qv (fun (u : (Int32) × (Int32) × (Int32) × (Int32)) => (mat.toInt ≤ u.2.2.1.toInt ∧ u.2.2.1.toInt ≤ u.1.toInt ∧ u.1.toInt ≤ mtaped.toInt ∧ (u.2.1.toInt = 0 ∨ u.2.2.1.toInt + 1 ≤ u.1.toInt) ∧ 0 ≤ u.2.1.toInt ∧ u.2.1.toInt ≤ 123)) (mu_B D A (fun (u : (Int32) × (Int32) × (Int32) × (Int32)) => [(mh, .inr (9, G9 ma mcode mtoday moffs mmany msumW msumA msumR msumWW msumWA msumAA msumWR msumAR mupper mlower mrates mtaped mlaid u.1 u.2.1 u.2.2.1 u.2.2.2 mwaits mlisted mdealtMany)), ((ma 32), .inl (E 2, 120, .inl mf32))])) A) [Value.ref mh, .int p0].toArray s 0 0 A) (F0 m 194 ls []) := by
                  intro N_113
                  induction N_113 with
                  | zero => intro L3_194 mat_194 mtkNumber_194 H locs ls hm v0_194 v1_194 _ _ _ _; exfalso; omega
                  | succ N_113 ih_112 =>
                    intro L3_194 mat_194 mtkNumber_194 H locs ls hm v0_194 v1_194 hP hD hS hl
                    have lo_L3_194 := i_lo L3_194; have hi_L3_194 := i_hi L3_194
                    have lo_mat_194 := i_lo mat_194; have hi_mat_194 := i_hi mat_194
                    have lo_mtkNumber_194 := i_lo mtkNumber_194; have hi_mtkNumber_194 := i_hi mtkNumber_194
                    refine lv_aload_n hx hb dX9_advance_194 rfl (lv_at hl 2 rfl) ?_
                    refine va_get (D := D) (ci := 9) (v := .int mat_194) (C := RX9) (T := TX9) (N := 68) hx hb htb iX9 hown hK.1 hP 0 rfl rfl 39 (by decide) (htb _ k_997) (fun _ h9 => h9) rfl dX9_advance_195 ?_
                    refine lv_aload_n hx hb dX9_advance_198 rfl (lv_at hl 2 rfl) ?_
                    refine va_get (D := D) (ci := 9) (v := .int mtaped) (C := RX9) (T := TX9) (N := 68) hx hb htb iX9 hown hK.1 hP 0 rfl rfl 33 (by decide) (htb _ k_991) (fun _ h9 => h9) rfl dX9_advance_199 ?_
                    refine lv_icmp_ge (tgt := 272) hx hb dX9_advance_202 (by decide) (fun c_114 => ?_) (fun c_114 => ?_)
                    ·
                      have ic_114 : mtaped.toInt ≤ mat_194.toInt := by first | exact (g_le rfl rfl).mp c_114 | (have h := mt (g_lt rfl rfl).mpr c_114; omega)
                      clear c_114
                      refine lv_aload_n hx hb dX9_advance_272 rfl (lv_at hl 2 rfl) ?_
                      refine lv_iload_n hx hb dX9_advance_273 rfl (lv_at hl 0 rfl) ?_
                      refine lv_iconst (v := 5) hx hb dX9_advance_274 (by decide) ?_
                      refine lv_icmp_le (tgt := 282) hx hb dX9_advance_275 (by decide) (fun c_115 => ?_) (fun c_115 => ?_)
                      ·
                        have ic_115 : L3_194.toInt ≤ 5 := by first | exact (g_le rfl t_5).mp c_115 | (have h := mt (g_lt t_5 rfl).mpr c_115; omega)
                        clear c_115
                        refine lv_iconst (v := 1) hx hb dX9_advance_282 (by decide) ?_
                        refine va_put (D := D) (ci := 9) (v := .int 1) (ty := .int) (C := RX9) (T := TX9) (N := 68) hx hb htb iX9 tyX9 tyX9_ok nmX9 hown hK.1 hP hD hS 0 rfl rfl 40 (by decide) (htb _ k_998) (fun _ h9 => h9) rfl (by decide +kernel) rfl rfl (Nat.le_of_ble_eq_true rfl) dX9_advance_283 (fun H locs hP hD hS => ?_)
                        have hP : va_P D vwCl [(mh, .inr (9, G9 ma mcode mtoday moffs mmany msumW msumA msumR msumWW msumWA msumAA msumWR msumAR mupper mlower mrates mtaped mlaid mat_194 1 mat_0 mtkNumber_194 mwaits mlisted mdealtMany)), ((ma 32), .inl (E 2, 120, .inl mf32))] H := hP
                        have hD := toW hP hD rfl
                        have hP9 := hP.sub (ws' := [(mh, .inr (9, G9 ma mcode mtoday moffs mmany msumW msumA msumR msumWW msumWA msumAA msumWR msumAR mupper mlower mrates mtaped mlaid mat_194 1 mat_0 mtkNumber_194 mwaits mlisted mdealtMany)), ((ma 32), .inl (E 2, 120, .inl mf32))]) [0, 1] rfl
                        have hD9 := hD.sub (ws' := [(mh, .inr (9, G9 ma mcode mtoday moffs mmany msumW msumA msumR msumWW msumWA msumAA msumWR msumAR mupper mlower mrates mtaped mlaid mat_194 1 mat_0 mtkNumber_194 mwaits mlisted mdealtMany)), ((ma 32), .inl (E 2, 120, .inl mf32))]) [0, 1] (by decide) rfl
                        exact W.vret hx hb hr (fun t ht hW => ⟨⟨(mat_194, (1 : Int32), mat_0, mtkNumber_194), rfl, (by have h0 := t_1; (try dsimp only); omega), by rw [ht]; exact hP9, hD9⟩, hS.F ht⟩) hS.2.2 dX9_advance_286
                      ·
                        have ic_115 : 5 < L3_194.toInt := by first | exact (g_lt t_5 rfl).mp c_115 | (have h := mt (g_le rfl t_5).mpr c_115; omega)
                        clear c_115
                        refine lv_iconst (v := 2) hx hb dX9_advance_278 (by decide) ?_
                        refine lv_goto (tgt := 283) hx hb dX9_advance_279 (by decide) ?_
                        refine va_put (D := D) (ci := 9) (v := .int 2) (ty := .int) (C := RX9) (T := TX9) (N := 68) hx hb htb iX9 tyX9 tyX9_ok nmX9 hown hK.1 hP hD hS 0 rfl rfl 40 (by decide) (htb _ k_998) (fun _ h9 => h9) rfl (by decide +kernel) rfl rfl (Nat.le_of_ble_eq_true rfl) dX9_advance_283 (fun H locs hP hD hS => ?_)
                        have hP : va_P D vwCl [(mh, .inr (9, G9 ma mcode mtoday moffs mmany msumW msumA msumR msumWW msumWA msumAA msumWR msumAR mupper mlower mrates mtaped mlaid mat_194 2 mat_0 mtkNumber_194 mwaits mlisted mdealtMany)), ((ma 32), .inl (E 2, 120, .inl mf32))] H := hP
                        have hD := toW hP hD rfl
                        have hP9 := hP.sub (ws' := [(mh, .inr (9, G9 ma mcode mtoday moffs mmany msumW msumA msumR msumWW msumWA msumAA msumWR msumAR mupper mlower mrates mtaped mlaid mat_194 2 mat_0 mtkNumber_194 mwaits mlisted mdealtMany)), ((ma 32), .inl (E 2, 120, .inl mf32))]) [0, 1] rfl
                        have hD9 := hD.sub (ws' := [(mh, .inr (9, G9 ma mcode mtoday moffs mmany msumW msumA msumR msumWW msumWA msumAA msumWR msumAR mupper mlower mrates mtaped mlaid mat_194 2 mat_0 mtkNumber_194 mwaits mlisted mdealtMany)), ((ma 32), .inl (E 2, 120, .inl mf32))]) [0, 1] (by decide) rfl
                        exact W.vret hx hb hr (fun t ht hW => ⟨⟨(mat_194, (2 : Int32), mat_0, mtkNumber_194), rfl, (by have h0 := t_2; (try dsimp only); omega), by rw [ht]; exact hP9, hD9⟩, hS.F ht⟩) hS.2.2 dX9_advance_286
                    ·
                      have ic_114 : mat_194.toInt < mtaped.toInt := by first | exact (g_lt rfl rfl).mp c_114 | (have h := mt (g_le rfl rfl).mpr c_114; omega)
                      clear c_114
                      refine lv_aload_n hx hb dX9_advance_205 rfl (lv_at hl 2 rfl) ?_
                      refine va_get (D := D) (ci := 9) (v := .ref (ma 32)) (C := RX9) (T := TX9) (N := 68) hx hb htb iX9 hown hK.1 hP 0 rfl rfl 32 (by decide) (htb _ k_990) (fun _ h9 => h9) rfl dX9_advance_206 ?_
                      refine lv_aload_n hx hb dX9_advance_209 rfl (lv_at hl 2 rfl) ?_
                      refine va_get (D := D) (ci := 9) (v := .int mat_194) (C := RX9) (T := TX9) (N := 68) hx hb htb iX9 hown hK.1 hP 0 rfl rfl 39 (by decide) (htb _ k_997) (fun _ h9 => h9) rfl dX9_advance_210 ?_
                      refine va_bald hx hb hK.1 hP 1 2 rfl rfl (g_in rfl (by omega) (by omega)) dX9_advance_213 ?_
                      refine lv_topi (fun z_116 ez_116 => ?_)
                      have kz_116 := congrArg Int32.toInt ez_116
                      refine callRS (rest := []) (As := [.int z_116]) hx hb hml hown htb hK (g_X9_isDigit l D E z_116 ) ok_X9_isDigit k_1366 k_1367 k_9 k_1368 ⟨(Nat.le_of_ble_eq_true rfl), (Nat.le_of_ble_eq_true rfl)⟩ ⟨(Nat.le_of_ble_eq_true rfl), (Nat.le_of_ble_eq_true rfl)⟩ hl.1 (Nat.le_of_ble_eq_true rfl) rfl rfl dX9_advance_214 (hP.sub (ws' := ([] : va_W)) [] rfl) (fun r_117 hw_118 => ?_)
                      rcases hw_118 with ⟨hr_117, hw_118⟩ | ⟨hr_117, hw_118⟩
                      ·
                        refine W_top (y := .int 1) (by rw [hr_117]) ?_
                        refine lv_if_eq (tgt := 272) hx hb dX9_advance_217 (by decide) (fun c_120 => absurd c_120 (by decide)) (fun c_120 => ?_)
                        refine lv_aload_n hx hb dX9_advance_220 rfl (lv_at hl 2 rfl) ?_
                        refine lv_iload_n hx hb dX9_advance_221 rfl (lv_at hl 0 rfl) ?_
                        refine lv_iconst (v := 5) hx hb dX9_advance_222 (by decide) ?_
                        refine lv_icmp_ge (tgt := 249) hx hb dX9_advance_223 (by decide) (fun c_121 => ?_) (fun c_121 => ?_)
                        ·
                          have ic_121 : 5 ≤ L3_194.toInt := by first | exact (g_le t_5 rfl).mp c_121 | (have h := mt (g_lt rfl t_5).mpr c_121; omega)
                          clear c_121
                          refine lv_aload_n hx hb dX9_advance_249 rfl (lv_at hl 2 rfl) ?_
                          refine va_get (D := D) (ci := 9) (v := .int mtkNumber_194) (C := RX9) (T := TX9) (N := 68) hx hb htb iX9 hown hK.1 hP 0 rfl rfl 42 (by decide) (htb _ k_1000) (fun _ h9 => h9) rfl dX9_advance_250 ?_
                          refine va_put (D := D) (ci := 9) (v := .int mtkNumber_194) (ty := .int) (C := RX9) (T := TX9) (N := 68) hx hb htb iX9 tyX9 tyX9_ok nmX9 hown hK.1 hP hD hS 0 rfl rfl 42 (by decide) (htb _ k_1000) (fun _ h9 => h9) rfl (by decide +kernel) rfl rfl (Nat.le_of_ble_eq_true rfl) dX9_advance_253 (fun H locs hP hD hS => ?_)
                          have hP : va_P D vwCl [(mh, .inr (9, G9 ma mcode mtoday moffs mmany msumW msumA msumR msumWW msumWA msumAA msumWR msumAR mupper mlower mrates mtaped mlaid mat_194 mtk mat_0 mtkNumber_194 mwaits mlisted mdealtMany)), ((ma 32), .inl (E 2, 120, .inl mf32))] H := hP
                          have hD := toW hP hD rfl
                          refine lv_aload_n hx hb dX9_advance_256 rfl (lv_at hl 2 rfl) ?_
                          refine lv_dup hx hb dX9_advance_257 rfl ?_
                          refine va_get (D := D) (ci := 9) (v := .int mat_194) (C := RX9) (T := TX9) (N := 68) hx hb htb iX9 hown hK.1 hP 0 rfl rfl 39 (by decide) (htb _ k_997) (fun _ h9 => h9) rfl dX9_advance_258 ?_
                          refine lv_iconst (v := 1) hx hb dX9_advance_261 (by decide) ?_
                          refine lv_iadd hx hb dX9_advance_262 ?_
                          refine lv_topi (fun z_122 ez_122 => ?_)
                          have jz_122 : z_122.toInt = mat_194.toInt + 1 := by rw [ez_122]; exact g_add rfl t_1 (by omega) (by omega)
                          refine va_put (D := D) (ci := 9) (v := .int z_122) (ty := .int) (C := RX9) (T := TX9) (N := 68) hx hb htb iX9 tyX9 tyX9_ok nmX9 hown hK.1 hP hD hS 0 rfl rfl 39 (by decide) (htb _ k_997) (fun _ h9 => h9) rfl (by decide +kernel) rfl rfl (Nat.le_of_ble_eq_true rfl) dX9_advance_263 (fun H locs hP hD hS => ?_)
                          have hP : va_P D vwCl [(mh, .inr (9, G9 ma mcode mtoday moffs mmany msumW msumA msumR msumWW msumWA msumAA msumWR msumAR mupper mlower mrates mtaped mlaid z_122 mtk mat_0 mtkNumber_194 mwaits mlisted mdealtMany)), ((ma 32), .inl (E 2, 120, .inl mf32))] H := hP
                          have hD := toW hP hD rfl
                          obtain ⟨z_123, ez_123⟩ : ∃ y : Int32, y = L3_194 + 1 := ⟨_, rfl⟩
                          have jz_123 : z_123.toInt = L3_194.toInt + 1 := by rw [ez_123]; exact g_add rfl t_1 (by omega) (by omega)
                          refine lv_iinc (v := z_123) (lv' := [(3, .int z_123), (2, .int z_73), (0, .ref mh), (1, .int p0)]) hx hb dX9_advance_266 hl (k := 0) rfl (by rw [ez_123]; rfl) (by decide) rfl (fun ls hl => ?_)
                          refine lv_goto (tgt := 194) hx hb dX9_advance_269 (by decide) ?_
                          exact ih_112 z_123 z_122 mtkNumber_194 _ _ _ (by (try dsimp only); omega) (by (try dsimp only); omega) (by (try dsimp only); omega) hP hD hS (lv_sub hl [0, 1, 2, 3] rfl)
                        ·
                          have ic_121 : L3_194.toInt < 5 := by first | exact (g_lt rfl t_5).mp c_121 | (have h := mt (g_le t_5 rfl).mpr c_121; omega)
                          clear c_121
                          refine lv_bipush (v := 10) hx hb dX9_advance_226 (by decide) ?_
                          refine lv_aload_n hx hb dX9_advance_228 rfl (lv_at hl 2 rfl) ?_
                          refine va_get (D := D) (ci := 9) (v := .int mtkNumber_194) (C := RX9) (T := TX9) (N := 68) hx hb htb iX9 hown hK.1 hP 0 rfl rfl 42 (by decide) (htb _ k_1000) (fun _ h9 => h9) rfl dX9_advance_229 ?_
                          refine lv_imul hx hb dX9_advance_232 ?_
                          refine lv_topi (fun z_124 ez_124 => ?_)
                          refine lv_aload_n hx hb dX9_advance_233 rfl (lv_at hl 2 rfl) ?_
                          refine va_get (D := D) (ci := 9) (v := .ref (ma 32)) (C := RX9) (T := TX9) (N := 68) hx hb htb iX9 hown hK.1 hP 0 rfl rfl 32 (by decide) (htb _ k_990) (fun _ h9 => h9) rfl dX9_advance_234 ?_
                          refine lv_aload_n hx hb dX9_advance_237 rfl (lv_at hl 2 rfl) ?_
                          refine va_get (D := D) (ci := 9) (v := .int mat_194) (C := RX9) (T := TX9) (N := 68) hx hb htb iX9 hown hK.1 hP 0 rfl rfl 39 (by decide) (htb _ k_997) (fun _ h9 => h9) rfl dX9_advance_238 ?_
                          refine va_bald hx hb hK.1 hP 1 2 rfl rfl (g_in rfl (by omega) (by omega)) dX9_advance_241 ?_
                          refine lv_topi (fun z_125 ez_125 => ?_)
                          have kz_125 := congrArg Int32.toInt ez_125
                          refine lv_iadd hx hb dX9_advance_242 ?_
                          refine lv_topi (fun z_126 ez_126 => ?_)
                          refine lv_bipush (v := 48) hx hb dX9_advance_243 (by decide) ?_
                          refine lv_isub hx hb dX9_advance_245 ?_
                          refine lv_topi (fun z_127 ez_127 => ?_)
                          refine lv_goto (tgt := 253) hx hb dX9_advance_246 (by decide) ?_
                          refine va_put (D := D) (ci := 9) (v := .int z_127) (ty := .int) (C := RX9) (T := TX9) (N := 68) hx hb htb iX9 tyX9 tyX9_ok nmX9 hown hK.1 hP hD hS 0 rfl rfl 42 (by decide) (htb _ k_1000) (fun _ h9 => h9) rfl (by decide +kernel) rfl rfl (Nat.le_of_ble_eq_true rfl) dX9_advance_253 (fun H locs hP hD hS => ?_)
                          have hP : va_P D vwCl [(mh, .inr (9, G9 ma mcode mtoday moffs mmany msumW msumA msumR msumWW msumWA msumAA msumWR msumAR mupper mlower mrates mtaped mlaid mat_194 mtk mat_0 z_127 mwaits mlisted mdealtMany)), ((ma 32), .inl (E 2, 120, .inl mf32))] H := hP
                          have hD := toW hP hD rfl
                          refine lv_aload_n hx hb dX9_advance_256 rfl (lv_at hl 2 rfl) ?_
                          refine lv_dup hx hb dX9_advance_257 rfl ?_
                          refine va_get (D := D) (ci := 9) (v := .int mat_194) (C := RX9) (T := TX9) (N := 68) hx hb htb iX9 hown hK.1 hP 0 rfl rfl 39 (by decide) (htb _ k_997) (fun _ h9 => h9) rfl dX9_advance_258 ?_
                          refine lv_iconst (v := 1) hx hb dX9_advance_261 (by decide) ?_
                          refine lv_iadd hx hb dX9_advance_262 ?_
                          refine lv_topi (fun z_128 ez_128 => ?_)
                          have jz_128 : z_128.toInt = mat_194.toInt + 1 := by rw [ez_128]; exact g_add rfl t_1 (by omega) (by omega)
                          refine va_put (D := D) (ci := 9) (v := .int z_128) (ty := .int) (C := RX9) (T := TX9) (N := 68) hx hb htb iX9 tyX9 tyX9_ok nmX9 hown hK.1 hP hD hS 0 rfl rfl 39 (by decide) (htb _ k_997) (fun _ h9 => h9) rfl (by decide +kernel) rfl rfl (Nat.le_of_ble_eq_true rfl) dX9_advance_263 (fun H locs hP hD hS => ?_)
                          have hP : va_P D vwCl [(mh, .inr (9, G9 ma mcode mtoday moffs mmany msumW msumA msumR msumWW msumWA msumAA msumWR msumAR mupper mlower mrates mtaped mlaid z_128 mtk mat_0 z_127 mwaits mlisted mdealtMany)), ((ma 32), .inl (E 2, 120, .inl mf32))] H := hP
                          have hD := toW hP hD rfl
                          obtain ⟨z_129, ez_129⟩ : ∃ y : Int32, y = L3_194 + 1 := ⟨_, rfl⟩
                          have jz_129 : z_129.toInt = L3_194.toInt + 1 := by rw [ez_129]; exact g_add rfl t_1 (by omega) (by omega)
                          refine lv_iinc (v := z_129) (lv' := [(3, .int z_129), (2, .int z_73), (0, .ref mh), (1, .int p0)]) hx hb dX9_advance_266 hl (k := 0) rfl (by rw [ez_129]; rfl) (by decide) rfl (fun ls hl => ?_)
                          refine lv_goto (tgt := 194) hx hb dX9_advance_269 (by decide) ?_
                          exact ih_112 z_129 z_128 z_127 _ _ _ (by (try dsimp only); omega) (by (try dsimp only); omega) (by (try dsimp only); omega) hP hD hS (lv_sub hl [0, 1, 2, 3] rfl)
                      ·
                        refine W_top (y := .int 0) (by rw [hr_117]) ?_
                        refine lv_if_eq (tgt := 272) hx hb dX9_advance_217 (by decide) (fun c_130 => ?_) (fun c_130 => absurd (by decide) c_130)
                        refine lv_aload_n hx hb dX9_advance_272 rfl (lv_at hl 2 rfl) ?_
                        refine lv_iload_n hx hb dX9_advance_273 rfl (lv_at hl 0 rfl) ?_
                        refine lv_iconst (v := 5) hx hb dX9_advance_274 (by decide) ?_
                        refine lv_icmp_le (tgt := 282) hx hb dX9_advance_275 (by decide) (fun c_131 => ?_) (fun c_131 => ?_)
                        ·
                          have ic_131 : L3_194.toInt ≤ 5 := by first | exact (g_le rfl t_5).mp c_131 | (have h := mt (g_lt t_5 rfl).mpr c_131; omega)
                          clear c_131
                          refine lv_iconst (v := 1) hx hb dX9_advance_282 (by decide) ?_
                          refine va_put (D := D) (ci := 9) (v := .int 1) (ty := .int) (C := RX9) (T := TX9) (N := 68) hx hb htb iX9 tyX9 tyX9_ok nmX9 hown hK.1 hP hD hS 0 rfl rfl 40 (by decide) (htb _ k_998) (fun _ h9 => h9) rfl (by decide +kernel) rfl rfl (Nat.le_of_ble_eq_true rfl) dX9_advance_283 (fun H locs hP hD hS => ?_)
                          have hP : va_P D vwCl [(mh, .inr (9, G9 ma mcode mtoday moffs mmany msumW msumA msumR msumWW msumWA msumAA msumWR msumAR mupper mlower mrates mtaped mlaid mat_194 1 mat_0 mtkNumber_194 mwaits mlisted mdealtMany)), ((ma 32), .inl (E 2, 120, .inl mf32))] H := hP
                          have hD := toW hP hD rfl
                          have hP9 := hP.sub (ws' := [(mh, .inr (9, G9 ma mcode mtoday moffs mmany msumW msumA msumR msumWW msumWA msumAA msumWR msumAR mupper mlower mrates mtaped mlaid mat_194 1 mat_0 mtkNumber_194 mwaits mlisted mdealtMany)), ((ma 32), .inl (E 2, 120, .inl mf32))]) [0, 1] rfl
                          have hD9 := hD.sub (ws' := [(mh, .inr (9, G9 ma mcode mtoday moffs mmany msumW msumA msumR msumWW msumWA msumAA msumWR msumAR mupper mlower mrates mtaped mlaid mat_194 1 mat_0 mtkNumber_194 mwaits mlisted mdealtMany)), ((ma 32), .inl (E 2, 120, .inl mf32))]) [0, 1] (by decide) rfl
                          exact W.vret hx hb hr (fun t ht hW => ⟨⟨(mat_194, (1 : Int32), mat_0, mtkNumber_194), rfl, (by have h0 := t_1; (try dsimp only); omega), by rw [ht]; exact hP9, hD9⟩, hS.F ht⟩) hS.2.2 dX9_advance_286
                        ·
                          have ic_131 : 5 < L3_194.toInt := by first | exact (g_lt t_5 rfl).mp c_131 | (have h := mt (g_le rfl t_5).mpr c_131; omega)
                          clear c_131
                          refine lv_iconst (v := 2) hx hb dX9_advance_278 (by decide) ?_
                          refine lv_goto (tgt := 283) hx hb dX9_advance_279 (by decide) ?_
                          refine va_put (D := D) (ci := 9) (v := .int 2) (ty := .int) (C := RX9) (T := TX9) (N := 68) hx hb htb iX9 tyX9 tyX9_ok nmX9 hown hK.1 hP hD hS 0 rfl rfl 40 (by decide) (htb _ k_998) (fun _ h9 => h9) rfl (by decide +kernel) rfl rfl (Nat.le_of_ble_eq_true rfl) dX9_advance_283 (fun H locs hP hD hS => ?_)
                          have hP : va_P D vwCl [(mh, .inr (9, G9 ma mcode mtoday moffs mmany msumW msumA msumR msumWW msumWA msumAA msumWR msumAR mupper mlower mrates mtaped mlaid mat_194 2 mat_0 mtkNumber_194 mwaits mlisted mdealtMany)), ((ma 32), .inl (E 2, 120, .inl mf32))] H := hP
                          have hD := toW hP hD rfl
                          have hP9 := hP.sub (ws' := [(mh, .inr (9, G9 ma mcode mtoday moffs mmany msumW msumA msumR msumWW msumWA msumAA msumWR msumAR mupper mlower mrates mtaped mlaid mat_194 2 mat_0 mtkNumber_194 mwaits mlisted mdealtMany)), ((ma 32), .inl (E 2, 120, .inl mf32))]) [0, 1] rfl
                          have hD9 := hD.sub (ws' := [(mh, .inr (9, G9 ma mcode mtoday moffs mmany msumW msumA msumR msumWW msumWA msumAA msumWR msumAR mupper mlower mrates mtaped mlaid mat_194 2 mat_0 mtkNumber_194 mwaits mlisted mdealtMany)), ((ma 32), .inl (E 2, 120, .inl mf32))]) [0, 1] (by decide) rfl
                          exact W.vret hx hb hr (fun t ht hW => ⟨⟨(mat_194, (2 : Int32), mat_0, mtkNumber_194), rfl, (by have h0 := t_2; (try dsimp only); omega), by rw [ht]; exact hP9, hD9⟩, hS.F ht⟩) hS.2.2 dX9_advance_286
                exact loop_111 121 0 mat_0 0 _ _ _ (by have h0 := t_0; (try dsimp only); omega) (by have h0 := t_0; (try dsimp only); omega) (by have h0 := t_0; (try dsimp only); omega) hP hD hS (lv_sub hl [0, 1, 2, 3] rfl)
              ·
                refine W_top (y := .int 0) (by rw [hr_107]) ?_
                refine lv_if_eq (tgt := 287) hx hb dX9_advance_184 (by decide) (fun c_132 => ?_) (fun c_132 => absurd (by decide) c_132)
                refine lv_aload_n hx hb dX9_advance_287 rfl (lv_at hl 1 rfl) ?_
                refine lv_dup hx hb dX9_advance_288 rfl ?_
                refine va_get (D := D) (ci := 9) (v := .int mat_0) (C := RX9) (T := TX9) (N := 68) hx hb htb iX9 hown hK.1 hP 0 rfl rfl 39 (by decide) (htb _ k_997) (fun _ h9 => h9) rfl dX9_advance_289 ?_
                refine lv_iconst (v := 1) hx hb dX9_advance_292 (by decide) ?_
                refine lv_iadd hx hb dX9_advance_293 ?_
                refine lv_topi (fun z_133 ez_133 => ?_)
                have jz_133 : z_133.toInt = mat_0.toInt + 1 := by rw [ez_133]; exact g_add rfl t_1 (by omega) (by omega)
                refine va_put (D := D) (ci := 9) (v := .int z_133) (ty := .int) (C := RX9) (T := TX9) (N := 68) hx hb htb iX9 tyX9 tyX9_ok nmX9 hown hK.1 hP hD hS 0 rfl rfl 39 (by decide) (htb _ k_997) (fun _ h9 => h9) rfl (by decide +kernel) rfl rfl (Nat.le_of_ble_eq_true rfl) dX9_advance_294 (fun H locs hP hD hS => ?_)
                have hP : va_P D vwCl [(mh, .inr (9, G9 ma mcode mtoday moffs mmany msumW msumA msumR msumWW msumWA msumAA msumWR msumAR mupper mlower mrates mtaped mlaid z_133 mtk mat_0 mtkNumber mwaits mlisted mdealtMany)), ((ma 32), .inl (E 2, 120, .inl mf32))] H := hP
                have hD := toW hP hD rfl
                refine lv_aload_n hx hb dX9_advance_297 rfl (lv_at hl 1 rfl) ?_
                refine lv_iload_n hx hb dX9_advance_298 rfl (lv_at hl 0 rfl) ?_
                refine callRS (rest := [.ref mh]) (As := [.int z_73]) hx hb hml hown htb hK (g_X9_signOf l D E z_73 ) ok_X9_signOf k_1369 k_1370 k_9 k_1371 ⟨(Nat.le_of_ble_eq_true rfl), (Nat.le_of_ble_eq_true rfl)⟩ ⟨(Nat.le_of_ble_eq_true rfl), (Nat.le_of_ble_eq_true rfl)⟩ hl.1 (Nat.le_of_ble_eq_true rfl) rfl rfl dX9_advance_299 (hP.sub (ws' := ([] : va_W)) [] rfl) (fun r_134 hw_135 => ?_)
                refine va_put (D := D) (ci := 9) (v := .int r_134) (ty := .int) (C := RX9) (T := TX9) (N := 68) hx hb htb iX9 tyX9 tyX9_ok nmX9 hown hK.1 hP hD hS 0 rfl rfl 40 (by decide) (htb _ k_998) (fun _ h9 => h9) rfl (by decide +kernel) rfl rfl (Nat.le_of_ble_eq_true rfl) dX9_advance_302 (fun H locs hP hD hS => ?_)
                have hP : va_P D vwCl [(mh, .inr (9, G9 ma mcode mtoday moffs mmany msumW msumA msumR msumWW msumWA msumAA msumWR msumAR mupper mlower mrates mtaped mlaid z_133 r_134 mat_0 mtkNumber mwaits mlisted mdealtMany)), ((ma 32), .inl (E 2, 120, .inl mf32))] H := hP
                have hD := toW hP hD rfl
                have hP9 := hP.sub (ws' := [(mh, .inr (9, G9 ma mcode mtoday moffs mmany msumW msumA msumR msumWW msumWA msumAA msumWR msumAR mupper mlower mrates mtaped mlaid z_133 r_134 mat_0 mtkNumber mwaits mlisted mdealtMany)), ((ma 32), .inl (E 2, 120, .inl mf32))]) [0, 1] rfl
                have hD9 := hD.sub (ws' := [(mh, .inr (9, G9 ma mcode mtoday moffs mmany msumW msumA msumR msumWW msumWA msumAA msumWR msumAR mupper mlower mrates mtaped mlaid z_133 r_134 mat_0 mtkNumber mwaits mlisted mdealtMany)), ((ma 32), .inl (E 2, 120, .inl mf32))]) [0, 1] (by decide) rfl
                exact W.vret hx hb hr (fun t ht hW => ⟨⟨(z_133, r_134, mat_0, mtkNumber), rfl, (by (try dsimp only); omega), by rw [ht]; exact hP9, hD9⟩, hS.F ht⟩) hS.2.2 dX9_advance_305
          ·
            have ic_72 : mat_0.toInt = mtaped.toInt := (g_eq rfl rfl).mp c_72
            clear c_72
            refine lv_aload_n hx hb dX9_advance_57 rfl (lv_at hl 0 rfl) ?_
            refine lv_iconst (v := 0) hx hb dX9_advance_58 (by decide) ?_
            refine va_put (D := D) (ci := 9) (v := .int 0) (ty := .int) (C := RX9) (T := TX9) (N := 68) hx hb htb iX9 tyX9 tyX9_ok nmX9 hown hK.1 hP hD hS 0 rfl rfl 40 (by decide) (htb _ k_998) (fun _ h9 => h9) rfl (by decide +kernel) rfl rfl (Nat.le_of_ble_eq_true rfl) dX9_advance_59 (fun H locs hP hD hS => ?_)
            have hP : va_P D vwCl [(mh, .inr (9, G9 ma mcode mtoday moffs mmany msumW msumA msumR msumWW msumWA msumAA msumWR msumAR mupper mlower mrates mtaped mlaid mat_0 0 mat_0 mtkNumber mwaits mlisted mdealtMany)), ((ma 32), .inl (E 2, 120, .inl mf32))] H := hP
            have hD := toW hP hD rfl
            have hP9 := hP.sub (ws' := [(mh, .inr (9, G9 ma mcode mtoday moffs mmany msumW msumA msumR msumWW msumWA msumAA msumWR msumAR mupper mlower mrates mtaped mlaid mat_0 0 mat_0 mtkNumber mwaits mlisted mdealtMany)), ((ma 32), .inl (E 2, 120, .inl mf32))]) [0, 1] rfl
            have hD9 := hD.sub (ws' := [(mh, .inr (9, G9 ma mcode mtoday moffs mmany msumW msumA msumR msumWW msumWA msumAA msumWR msumAR mupper mlower mrates mtaped mlaid mat_0 0 mat_0 mtkNumber mwaits mlisted mdealtMany)), ((ma 32), .inl (E 2, 120, .inl mf32))]) [0, 1] (by decide) rfl
            exact W.vret hx hb hr (fun t ht hW => ⟨⟨(mat_0, (0 : Int32), mat_0, mtkNumber), rfl, (by have h0 := t_0; (try dsimp only); omega), by rw [ht]; exact hP9, hD9⟩, hS.F ht⟩) hS.2.2 dX9_advance_62
        ·
          have ic_71 : z_70.toInt = 32 := (g_eq rfl t_32).mp c_71
          clear c_71
          refine lv_aload_n hx hb dX9_advance_25 rfl (lv_at hl 0 rfl) ?_
          refine lv_dup hx hb dX9_advance_26 rfl ?_
          refine va_get (D := D) (ci := 9) (v := .int mat_0) (C := RX9) (T := TX9) (N := 68) hx hb htb iX9 hown hK.1 hP 0 rfl rfl 39 (by decide) (htb _ k_997) (fun _ h9 => h9) rfl dX9_advance_27 ?_
          refine lv_iconst (v := 1) hx hb dX9_advance_30 (by decide) ?_
          refine lv_iadd hx hb dX9_advance_31 ?_
          refine lv_topi (fun z_137 ez_137 => ?_)
          have jz_137 : z_137.toInt = mat_0.toInt + 1 := by rw [ez_137]; exact g_add rfl t_1 (by omega) (by omega)
          refine va_put (D := D) (ci := 9) (v := .int z_137) (ty := .int) (C := RX9) (T := TX9) (N := 68) hx hb htb iX9 tyX9 tyX9_ok nmX9 hown hK.1 hP hD hS 0 rfl rfl 39 (by decide) (htb _ k_997) (fun _ h9 => h9) rfl (by decide +kernel) rfl rfl (Nat.le_of_ble_eq_true rfl) dX9_advance_32 (fun H locs hP hD hS => ?_)
          have hP : va_P D vwCl [(mh, .inr (9, G9 ma mcode mtoday moffs mmany msumW msumA msumR msumWW msumWA msumAA msumWR msumAR mupper mlower mrates mtaped mlaid z_137 mtk mtkAt mtkNumber mwaits mlisted mdealtMany)), ((ma 32), .inl (E 2, 120, .inl mf32))] H := hP
          have hD := toW hP hD rfl
          refine lv_goto (tgt := 0) hx hb dX9_advance_35 (by decide) ?_
          exact ih_2 z_137 _ _ _ (by (try dsimp only); omega) (by (try dsimp only); omega) hP hD hS (lv_sub hl [0, 1] rfl)
  exact loop_1 121 mat _ _ _ (by (try dsimp only); omega) (by (try dsimp only); omega) hP hD hS (lv_sub hl [0, 1] rfl)
end
