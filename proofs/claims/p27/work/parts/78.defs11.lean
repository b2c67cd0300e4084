/-! ===== for contracts over the whole object ===== -/
theorem wpool_newE {E : Nat → Nat} {Q R : Nat → Option Nat} {wa : Nat → Nat → Nat} {wf : Nat → Nat → Nat → Int32} {i h : Nat} {a : Nat → Nat} {f : Nat → Nat → Int32} (hi : i < 16) (hq : Q i = none) (hr : R = va_up Q i (some h)) : (wpool E R (va_up wa i a) (va_up wf i f)).Perm (WB E h a f ++ wpool E Q wa wf) := by
  rw [hr]; exact wpool_new hi hq
section UPS2
variable {l : Launch} {y : MethodName} {ws : List Cond} {d d' mc ms mc' ms' sz : Nat} {D : va_G} {E : Nat → Nat} {av : List Value} {wc W rest : va_W} {L : List (Nat × Nat × Nat × (Nat → Int32))}
theorem up_mE {S T : Type} {post : Int32 → S → Prop} {post2 : Int32 → T → Prop} {w1 : S → va_W} {w2 : T → va_W} (h : Met l y ws (RM d mc ms) (mu_P D E av wc sz) (va_Qi post (mu_B D (va_A wc sz) w1) (va_A wc sz)) mc ms (va_A wc sz)) (hd : d ≤ d') (hmc : mc ≤ mc') (hms : ms ≤ ms') (hp : W.Perm (wc ++ rest))
    (hg : ∀ r u, post r u → ∃ s', post2 r s' ∧ (w1 u ++ rest).Perm (w2 s')) : Met l y ws (RM d' mc' ms') (mu_P D E av W sz) (va_Qi post2 (mu_B D (va_A W sz) w2) (va_A W sz)) mc' ms' (va_A W sz) := by
  refine met_up h hd hmc hms (fun a s => mu_up hp) (fun a s o t hpre hq => ?_) (fun q h1 => vA_sub (pm_sub hp) h1)
  obtain ⟨⟨r, u, e, hpost, hP1, hD1⟩, hF⟩ := hq
  obtain ⟨s', g1, g2⟩ := hg r u hpost
  exact ⟨⟨r, s', e, g1, back_up hp hpre.2.1 hpre.2.2.1 hpre.2.2.2.2 hP1 hD1 hF g2⟩, F_up hp hF⟩
theorem up_mS {S T : Type} {post : Int32 → S → Prop} {post2 : Int32 → T → Prop} {w1 : S → va_W} {w2 : T → va_W} (h : Met l y ws (RM d mc ms) (muS_P D E av wc sz L) (va_Qi post (mu_B D (va_A wc sz) w1) (va_A wc sz)) mc ms (va_A wc sz)) (hd : d ≤ d') (hmc : mc ≤ mc') (hms : ms ≤ ms') (hp : W.Perm (wc ++ rest))
    (hg : ∀ r u, post r u → ∃ s', post2 r s' ∧ (w1 u ++ rest).Perm (w2 s')) : Met l y ws (RM d' mc' ms') (muS_P D E av W sz L) (va_Qi post2 (mu_B D (va_A W sz) w2) (va_A W sz)) mc' ms' (va_A W sz) := by
  refine met_up h hd hmc hms (fun a s hz => ⟨hz.1, hz.2.1, vP_mono hz.2.2.1 (pm_sub hp), hz.2.2.2.1, vD_left (vD_perm hp hz.2.2.2.2.1), fun q hq => (hz.2.2.2.2.2 q hq).narrow (fun _ h1 => vA_sub (pm_sub hp) h1)⟩) (fun a s o t hpre hq => ?_) (fun q h1 => vA_sub (pm_sub hp) h1)
  obtain ⟨⟨r, u, e, hpost, hP1, hD1⟩, hF⟩ := hq
  obtain ⟨s', g1, g2⟩ := hg r u hpost
  exact ⟨⟨r, s', e, g1, back_up hp hpre.2.1 hpre.2.2.1 hpre.2.2.2.2.1 hP1 hD1 hF g2⟩, F_up hp hF⟩
end UPS2
section CALLS5
variable {p : Program} {l : Launch} {e : Env} {R : Room} {s : State} {m : MethodId} {args : Array Value} {below : List Frame} {meth : Method} {c : Code} {H : Heap} {locs : List Loc} {cells slots : Nat} {Q : State → Prop}
variable {cc : ByteArray} {pc : Nat} {ls : Array Slot} {rest st : List Value} {D : va_G} {E : Nat → Nat}
variable {nL n idx d mc ms maxL : Nat} {own : String} {y : MethodName} {bytes : ByteArray} {ret : Option FieldType} {A : Nat → Prop}
theorem vA_in {A0 : Nat → Prop} {ZW wc rw : va_W} {H0 : Heap} (hp : ZW.Perm (wc ++ rw)) (hD : va_D A0 ZW) (hS : va_S A0 H0 H locs) (hA : ∀ q, H0.size ≤ q → A0 q) : ∀ q, va_A wc H.size q → A0 q := fun q h => by
  rw [vA_mem] at h
  rcases h with ⟨e, h⟩ | h
  · exact (vD_iff.mp hD).2 _ (pm_sub hp _ h)
  · exact hA q (Nat.le_trans hS.1 h)
/-- what the callee starts with: its cells stand in the world; the receiver among any cells of it -/
theorem pmU {b : Nat} {As : List Value} {ZW wc rw wb : va_W} {A0 : Nat → Prop} (hp : ZW.Perm (wc ++ rw)) (hP : va_P D vwCl ZW H) (hD : va_D A0 ZW) (hK : KX D E s) (hB : va_P D vwCl wb H) {ci : Nat} {q : vw_C} {fs : List Value} (hc : vwCl[ci]? = some q) (hq : q.1 = y.cls) (q0 : Nat) (he : wb[q0]? = some (b, .inr (ci, fs))) : PreV s H y.cls b (mu_P D E (.ref b :: As) wc H.size) As :=
  ⟨fun a U g mk z => ⟨z.1, z.2.1, z.2.2.1, z.2.2.2.1.calling g mk a, z.2.2.2.2⟩, by rw [← hq]; exact va_recv hK.1 hB hc he, fun U hU hW => ⟨rfl, by rw [hU], by rw [hU]; exact vP_mono hP (pm_sub hp), hK.warm hW, (vD_left (vD_perm hp hD)).weaken (fun _ _ _ _ => trivial)⟩⟩
theorem pmUS {b : Nat} {As : List Value} {ZW wc rw wb : va_W} {A0 : Nat → Prop} {L : List (Nat × Nat × Nat × (Nat → Int32))} (hp : ZW.Perm (wc ++ rw)) (hP : va_P D vwCl ZW H) (hD : va_D A0 ZW) (hK : KX D E s) (hB : va_P D vwCl wb H) {ci : Nat} {q : vw_C} {fs : List Value} (hc : vwCl[ci]? = some q) (hq : q.1 = y.cls) (q0 : Nat) (he : wb[q0]? = some (b, .inr (ci, fs))) (hG : SGs L A0 s s.heap) (hS : va_S A0 s.heap H locs) (hA : ∀ q, s.heap.size ≤ q → A0 q) : PreV s H y.cls b (muS_P D E (.ref b :: As) wc H.size L) As :=
  ⟨fun a U g mk z => ⟨z.1, z.2.1, z.2.2.1, z.2.2.2.1.calling g mk a, z.2.2.2.2.1, z.2.2.2.2.2.calling g mk a⟩, by rw [← hq]; exact va_recv hK.1 hB hc he, fun U hU hW => ⟨rfl, by rw [hU], by rw [hU]; exact vP_mono hP (pm_sub hp), hK.warm hW, (vD_left (vD_perm hp hD)).weaken (fun _ _ _ _ => trivial), hG.pass hS (vA_in hp hD hS hA) hW hU⟩⟩
theorem joinU {A0 : Nat → Prop} {ZW wc rw w1 : va_W} {H1 : Heap} (hp : ZW.Perm (wc ++ rw)) (hP : va_P D vwCl ZW H) (hD : va_D A0 ZW) (hk : ∀ q : Nat, q < H.size → ¬ va_A wc H.size q → H1[q]? = H[q]?) (hF : ∀ q, va_A wc H.size q → A0 q) (hP1 : va_P D vwCl w1 H1) (hD1 : va_D (va_A wc H.size) w1) : va_P D vwCl (w1 ++ rw) H1 ∧ va_D A0 (w1 ++ rw) := by
  have h := va_joinQ (cx := wc) (wr := []) (w1 := w1) (vP_perm hp hP) (vD_perm hp hD) (List.range wc.length) [] (ix_all wc) rfl rfl (fun i h => by cases h) hk hF hP1 hD1
  exact h
theorem aftU_i {S : Type} {A0 : Nat → Prop} {H0 : Heap} {ZW wc rw : va_W} {post : Int32 → S → Prop} {w1 : S → va_W} {a : Array Value}
    (hr : va_Run p l e R s m args below meth c H locs cells slots mc ms (F0 m pc ls st) rest (va_Qi post (mu_B D (va_A wc H.size) w1) (va_A wc H.size) a) (va_A wc H.size))
    (hp : ZW.Perm (wc ++ rw)) (hP : va_P D vwCl ZW H) (hD : va_D A0 ZW) (hS : va_S A0 H0 H locs) (hA : ∀ q, H0.size ≤ q → A0 q)
    (kk : ∀ (r : Int32) (u : S) (H1 : Heap) (locs1 : List Loc), post r u → va_P D vwCl (w1 u ++ rw) H1 → va_D A0 (w1 u ++ rw) → va_S A0 H0 H1 locs1 → W p l e R s m args below meth c H1 locs1 (cells + mc) (slots + ms) Q (F0 m (pc + 3) ls (.int r :: rest))) : W p l e R s m args below meth c H locs cells slots Q (F0 m pc ls st) := by
  have hFc := vA_in hp hD hS hA
  refine va_calli hr hS (fun q _ h => hFc q h) hFc (fun r u t H1 locs1 ht hvm hw hB hz1 hk1 hS => ?_)
  obtain ⟨hP1, hD1⟩ := hB
  rw [ht] at hP1
  obtain ⟨hP, hD⟩ := joinU hp hP hD hk1 hFc hP1 hD1
  exact kk r u H1 locs1 hw hP hD hS
theorem aftU_v {S : Type} {A0 : Nat → Prop} {H0 : Heap} {ZW wc rw : va_W} {post : S → Prop} {w1 : S → va_W} {a : Array Value}
    (hr : va_Run p l e R s m args below meth c H locs cells slots mc ms (F0 m pc ls st) rest (va_Qv post (mu_B D (va_A wc H.size) w1) (va_A wc H.size) a) (va_A wc H.size))
    (hp : ZW.Perm (wc ++ rw)) (hP : va_P D vwCl ZW H) (hD : va_D A0 ZW) (hS : va_S A0 H0 H locs) (hA : ∀ q, H0.size ≤ q → A0 q)
    (kk : ∀ (u : S) (H1 : Heap) (locs1 : List Loc), post u → va_P D vwCl (w1 u ++ rw) H1 → va_D A0 (w1 u ++ rw) → va_S A0 H0 H1 locs1 → W p l e R s m args below meth c H1 locs1 (cells + mc) (slots + ms) Q (F0 m (pc + 3) ls rest)) : W p l e R s m args below meth c H locs cells slots Q (F0 m pc ls st) := by
  have hFc := vA_in hp hD hS hA
  refine va_callv hr hS (fun q _ h => hFc q h) hFc (fun u t H1 locs1 ht hvm hw hB hz1 hk1 hS => ?_)
  obtain ⟨hP1, hD1⟩ := hB
  rw [ht] at hP1
  obtain ⟨hP, hD⟩ := joinU hp hP hD hk1 hFc hP1 hD1
  exact kk u H1 locs1 hw hP hD hS
end CALLS5
theorem nil_r {W : va_W} : W.Perm (W ++ []) := by rw [List.append_nil]
theorem nilP {D : va_G} {W : va_W} {H : Heap} (h : va_P D vwCl (W ++ []) H) : va_P D vwCl W H := by rw [List.append_nil] at h; exact h
theorem nilD {A : Nat → Prop} {W : va_W} (h : va_D A (W ++ [])) : va_D A W := by rw [List.append_nil] at h; exact h
/-- one ship's cells -/
theorem XW_y {D : va_G} {E : Nat → Nat} {q : Nat} {s : XS} {H : Heap} {i : Nat} (hi : i < 5) (h : va_P D vwCl (XW E q s) H) : va_P D vwCl (SB E (xya s) (xyv s) (xyf s) i) H :=
  vP_mono h (fun z hz => List.mem_append_right _ (List.mem_append_right _ (sp_mem hi hz)))
theorem XW_c {D : va_G} {E : Nat → Nat} {q : Nat} {s : XS} {H : Heap} (h : va_P D vwCl (XW E q s) H) : va_P D vwCl (XC E q s) H := vP_mono h (fun z hz => List.mem_append_left _ hz)
theorem XW_yy {D : va_G} {E : Nat → Nat} {q : Nat} {s : XS} {H : Heap} {i : Nat} {ya : Nat → Nat → Nat} (hi : i < 5) (hy : xya s = ya) (h : va_P D vwCl (XW E q s) H) : va_P D vwCl (SB E ya (xyv s) (xyf s) i) H := by
  rw [← hy]; exact XW_y hi h
