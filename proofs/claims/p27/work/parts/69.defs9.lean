/-! ===== worlds up to their order; contracts over larger worlds ===== -/
theorem vP_mem {D : va_G} {cl : List vw_C} {ws : va_W} {H : Heap} (h : va_P D cl ws H) {q : Nat × va_E} (hq : q ∈ ws) : va_at D cl q H := by
  obtain ⟨k, hk⟩ := List.getElem?_of_mem hq
  exact h k q hk
theorem vP_mono {D : va_G} {cl : List vw_C} {ws ws' : va_W} {H : Heap} (h : va_P D cl ws H) (hs : ∀ q ∈ ws', q ∈ ws) : va_P D cl ws' H := fun _ q hk => vP_mem h (hs q (List.mem_of_getElem? hk))
theorem vP_perm {D : va_G} {cl : List vw_C} {ws ws' : va_W} {H : Heap} (hp : ws.Perm ws') (h : va_P D cl ws H) : va_P D cl ws' H := vP_mono h (fun _ hq => hp.mem_iff.mpr hq)
theorem vD_iff {A : Nat → Prop} {ws : va_W} : va_D A ws ↔ (ws.map Prod.fst).Nodup ∧ ∀ q ∈ ws, A q.1 := by
  constructor
  · intro h
    refine ⟨List.pairwise_iff_getElem.mpr (fun i j hi hj hij e => ?_), fun q hq => ?_⟩
    · rw [List.length_map] at hi hj
      rw [List.getElem_map, List.getElem_map] at e
      have := h.1 i j ws[i] ws[j] (List.getElem?_eq_getElem hi) (List.getElem?_eq_getElem hj) e
      omega
    · obtain ⟨k, hk⟩ := List.getElem?_of_mem hq
      exact h.2 k q hk
  · intro h
    refine ⟨fun i j p q hp hq e => ?_, fun k q hk => h.2 q (List.mem_of_getElem? hk)⟩
    have hn := List.pairwise_iff_getElem.mp h.1
    obtain ⟨hi, ei⟩ := List.getElem?_eq_some_iff.mp hp
    obtain ⟨hj, ej⟩ := List.getElem?_eq_some_iff.mp hq
    rcases Nat.lt_trichotomy i j with h1 | h1 | h1
    · exact absurd (by rw [List.getElem_map, List.getElem_map, ei, ej]; exact e) (hn i j (by rw [List.length_map]; exact hi) (by rw [List.length_map]; exact hj) h1)
    · exact h1
    · exact absurd (by rw [List.getElem_map, List.getElem_map, ei, ej]; exact e.symm) (hn j i (by rw [List.length_map]; exact hj) (by rw [List.length_map]; exact hi) h1)
theorem vD_perm {A : Nat → Prop} {ws ws' : va_W} (hp : ws.Perm ws') (h : va_D A ws) : va_D A ws' := by
  rw [vD_iff] at h ⊢
  exact ⟨(hp.map Prod.fst).nodup h.1, fun q hq => h.2 q (hp.mem_iff.mpr hq)⟩
theorem vD_left {A : Nat → Prop} {w1 w2 : va_W} (h : va_D A (w1 ++ w2)) : va_D A w1 := by
  rw [vD_iff] at h ⊢
  rw [List.map_append, List.nodup_append] at h
  exact ⟨h.1.1, fun q hq => h.2 q (List.mem_append_left _ hq)⟩
theorem vA_mem {ws : va_W} {sz q : Nat} : va_A ws sz q ↔ (∃ e, (q, e) ∈ ws) ∨ sz ≤ q := by
  constructor
  · intro h
    rcases h with ⟨k, e, h⟩ | h
    · exact Or.inl ⟨e, List.mem_of_getElem? h⟩
    · exact Or.inr h
  · intro h
    rcases h with ⟨e, h⟩ | h
    · obtain ⟨k, hk⟩ := List.getElem?_of_mem h
      exact Or.inl ⟨k, e, hk⟩
    · exact Or.inr h
theorem vA_sub {ws ws' : va_W} {sz q : Nat} (hs : ∀ x ∈ ws, x ∈ ws') (h : va_A ws sz q) : va_A ws' sz q := by
  rw [vA_mem] at h ⊢
  rcases h with ⟨e, h⟩ | h
  · exact Or.inl ⟨e, hs _ h⟩
  · exact Or.inr h
theorem ix_all {α : Type} (l : List α) : (List.range l.length).map (fun i => l[i]?) = l.map some := by
  apply List.ext_getElem?
  intro i
  rw [List.getElem?_map, List.getElem?_map]
  rcases Nat.lt_or_ge i l.length with h | h
  · rw [List.getElem?_range h, List.getElem?_eq_getElem h]; simp [List.getElem?_eq_getElem h]
  · rw [List.getElem?_eq_none (by rw [List.length_range]; exact h), List.getElem?_eq_none h]; rfl
theorem pm_ix {ws w2 : va_W} (is : List Nat) (hs : is.map (fun i => ws[i]?) = w2.map some) (hn : is.Perm (List.range ws.length)) : ws.Perm w2 := by
  have h1 := hn.map (fun i => ws[i]?)
  rw [hs, ix_all] at h1
  have h2 := h1.filterMap id
  rw [List.filterMap_map, List.filterMap_map] at h2
  have e : ∀ l : va_W, List.filterMap (id ∘ some) l = l := fun l => by
    show List.filterMap some l = l
    exact List.filterMap_some
  rw [e, e] at h2
  exact h2.symm
theorem pm_tail {ws wc wr PL : va_W} (is : List Nat) (hs : is.map (fun i => ws[i]?) = (wc ++ wr).map some) (hn : is.Perm (List.range ws.length)) : (ws ++ PL).Perm (wc ++ (wr ++ PL)) := by
  rw [← List.append_assoc]
  exact (pm_ix is hs hn).append_right PL
theorem pm_pool {X B wc wr PL pr : va_W} (hp : PL.Perm (B ++ pr)) (is : List Nat) (hs : is.map (fun i => (X ++ B)[i]?) = (wc ++ wr).map some) (hn : is.Perm (List.range (X ++ B).length)) : (X ++ PL).Perm (wc ++ (wr ++ pr)) := by
  have h1 : (X ++ PL).Perm ((X ++ B) ++ pr) := by
    rw [List.append_assoc]
    exact hp.append_left X
  exact h1.trans (pm_tail is hs hn)
theorem mem_ix {ws wc : va_W} (is : List Nat) (hs : is.map (fun i => ws[i]?) = wc.map some) : ∀ q ∈ wc, q ∈ ws := by
  intro q hq
  have h1 : some q ∈ is.map (fun i => ws[i]?) := by rw [hs]; exact List.mem_map_of_mem hq
  obtain ⟨i, -, hi⟩ := List.mem_map.mp h1
  exact List.mem_of_getElem? hi
theorem pm_sub {W wc rest : va_W} (hp : W.Perm (wc ++ rest)) : ∀ q ∈ wc, q ∈ W := fun _ h => hp.mem_iff.mpr (List.mem_append_left _ h)
/-- a contract in a larger room, from more, to less -/
theorem met_up {l : Launch} {y : MethodName} {ws : List Cond} {d d' mc ms mc' ms' : Nat} {Pc Pc' : Array Value → State → Prop} {Qc Qc' : Array Value → State → Outcome → State → Prop} {free free' : Addr → Prop}
    (h : Met l y ws (RM d mc ms) Pc Qc mc ms free) (hd : d ≤ d') (hmc : mc ≤ mc') (hms : ms ≤ ms') (hP : ∀ a s, Pc' a s → Pc a s) (hQ : ∀ a s o t, Pc' a s → Qc a s o t → Qc' a s o t) (hf : ∀ q, free q → free' q) : Met l y ws (RM d' mc' ms') Pc' Qc' mc' ms' free' := by
  intro p e ha hc hk s m args below hfr happ hp hk'
  have happ2 : (headSpec ws (RM d mc ms)).appliesLoose y e.platform s = true := by
    rw [Spec.appliesLoose_iff hfr] at happ ⊢
    refine ⟨happ.1, happ.2.1, happ.2.2.1, happ.2.2.2.1, happ.2.2.2.2.1, happ.2.2.2.2.2.1, ?_, happ.2.2.2.2.2.2.2⟩
    have hr := happ.2.2.2.2.2.2.1
    unfold State.hasRoom at hr ⊢
    rw [Bool.and_eq_true, Bool.and_eq_true, Bool.and_eq_true, Bool.and_eq_true] at hr ⊢
    obtain ⟨⟨⟨⟨h1, h2⟩, h7⟩, h8⟩, h9⟩ := hr
    have k1 := of_decide_eq_true h1
    have k2 := of_decide_eq_true h2
    have k7 := of_decide_eq_true h7
    have k8 := of_decide_eq_true h8
    simp only [headSpec, RM] at k1 k2 k7 k8
    refine ⟨⟨⟨⟨decide_eq_true ?_, decide_eq_true ⟨?_, ?_, ?_, ?_, k2.2.2.2.2⟩⟩, decide_eq_true ?_⟩, decide_eq_true ?_⟩, h9⟩ <;> simp only [headSpec, RM] <;> omega
  obtain ⟨n, o, h1, h2, h3, hq, L, hF, hL⟩ := h p e ha hc hk s m args below hfr happ2 (hP _ _ hp) trivial
  refine ⟨n, o, h1, h2, h3, hQ _ _ _ _ hp hq, L, ⟨hF.1, hF.2.1, ?_⟩, fun q hq2 => hf _ (hL q hq2)⟩
  have h4 := hF.2.2
  unfold State.sameButNew at h4 ⊢
  exact ⟨h4.1, h4.2.1, Nat.le_trans h4.2.2.1 (Nat.add_le_add_left hmc _), h4.2.2.2.1, Nat.le_trans h4.2.2.2.2.1 hms, h4.2.2.2.2.2⟩
section UPS
variable {l : Launch} {y : MethodName} {ws : List Cond} {d d' mc ms mc' ms' sz : Nat} {D : va_G} {E : Nat → Nat} {av : List Value} {wc W rest : va_W}
theorem mu_up (hp : W.Perm (wc ++ rest)) {a : Array Value} {s : State} (h : mu_P D E av W sz a s) : mu_P D E av wc sz a s :=
  ⟨h.1, h.2.1, vP_mono h.2.2.1 (pm_sub hp), h.2.2.2.1, vD_left (vD_perm hp h.2.2.2.2)⟩
theorem rd_up (hs : ∀ q ∈ wc, q ∈ W) {a : Array Value} {s : State} (h : rd_P D E av W a s) : rd_P D E av wc a s := ⟨h.1, vP_mono h.2.1 hs, h.2.2⟩
/-- what stands behind it, in the larger world -/
theorem back_up (hp : W.Perm (wc ++ rest)) {s t : State} {w1 w2 : va_W} (hsz : s.heap.size = sz) (hP : va_P D vwCl W s.heap) (hD : va_D (fun _ => True) W) (hP1 : va_P D vwCl w1 t.heap) (hD1 : va_D (va_A wc sz) w1) (hF : va_F (va_A wc sz) s t) (h2 : (w1 ++ rest).Perm w2) :
    va_P D vwCl w2 t.heap ∧ va_D (va_A W sz) w2 := by
  subst hsz
  have hP' : va_P D vwCl (wc ++ rest) s.heap := vP_perm hp hP
  have hD' : va_D (va_A (wc ++ rest) s.heap.size) (wc ++ rest) := (vD_perm hp hD).self
  obtain ⟨j1, j2⟩ := va_joinQ (cx := wc) (wr := []) (w1 := w1) hP' hD' (List.range wc.length) [] (ix_all wc) rfl rfl (fun i h => by cases h) hF.2 (fun q h => vA_sub (fun x hx => List.mem_append_left _ hx) h) hP1 hD1
  have j2' := vD_perm (show (([] ++ w1) ++ rest).Perm w2 from h2) j2
  exact ⟨vP_perm (show (([] ++ w1) ++ rest).Perm w2 from h2) j1, j2'.weaken (fun _ q _ h => vA_sub (fun x hx => hp.mem_iff.mpr hx) h)⟩
theorem F_up (hp : W.Perm (wc ++ rest)) {s t : State} (h : va_F (va_A wc sz) s t) : va_F (va_A W sz) s t := ⟨h.1, fun q h1 h2 => h.2 q h1 (fun h3 => h2 (vA_sub (pm_sub hp) h3))⟩
theorem up_mi {S T : Type} {post : Int32 → S → Prop} {post2 : Int32 → T → Prop} {w1 : S → va_W} {w2 : T → va_W} (g : S → T) (h : Met l y ws (RM d mc ms) (mu_P D E av wc sz) (va_Qi post (mu_B D (va_A wc sz) w1) (va_A wc sz)) mc ms (va_A wc sz)) (hd : d ≤ d') (hmc : mc ≤ mc') (hms : ms ≤ ms') (hp : W.Perm (wc ++ rest))
    (hg : ∀ r u, post r u → post2 r (g u) ∧ (w1 u ++ rest).Perm (w2 (g u))) : Met l y ws (RM d' mc' ms') (mu_P D E av W sz) (va_Qi post2 (mu_B D (va_A W sz) w2) (va_A W sz)) mc' ms' (va_A W sz) := by
  refine met_up h hd hmc hms (fun a s => mu_up hp) (fun a s o t hpre hq => ?_) (fun q h1 => vA_sub (pm_sub hp) h1)
  obtain ⟨⟨r, u, e, hpost, hP1, hD1⟩, hF⟩ := hq
  obtain ⟨g1, g2⟩ := hg r u hpost
  exact ⟨⟨r, g u, e, g1, back_up hp hpre.2.1 hpre.2.2.1 hpre.2.2.2.2 hP1 hD1 hF g2⟩, F_up hp hF⟩
theorem up_mv {S T : Type} {post : S → Prop} {post2 : T → Prop} {w1 : S → va_W} {w2 : T → va_W} (g : S → T) (h : Met l y ws (RM d mc ms) (mu_P D E av wc sz) (va_Qv post (mu_B D (va_A wc sz) w1) (va_A wc sz)) mc ms (va_A wc sz)) (hd : d ≤ d') (hmc : mc ≤ mc') (hms : ms ≤ ms') (hp : W.Perm (wc ++ rest))
    (hg : ∀ u, post u → post2 (g u) ∧ (w1 u ++ rest).Perm (w2 (g u))) : Met l y ws (RM d' mc' ms') (mu_P D E av W sz) (va_Qv post2 (mu_B D (va_A W sz) w2) (va_A W sz)) mc' ms' (va_A W sz) := by
  refine met_up h hd hmc hms (fun a s => mu_up hp) (fun a s o t hpre hq => ?_) (fun q h1 => vA_sub (pm_sub hp) h1)
  obtain ⟨⟨u, e, hpost, hP1, hD1⟩, hF⟩ := hq
  obtain ⟨g1, g2⟩ := hg u hpost
  exact ⟨⟨g u, e, g1, back_up hp hpre.2.1 hpre.2.2.1 hpre.2.2.2.2 hP1 hD1 hF g2⟩, F_up hp hF⟩
theorem up_ri {T : Type} {post : Int32 → Prop} {post2 : Int32 → T → Prop} {w2 : T → va_W} (u0 : T) (h : Met l y ws (RM d 0 0) (rd_P D E av wc) (rd_Q post) 0 0 (fun _ => False)) (hd : d ≤ d') (hs : ∀ q ∈ wc, q ∈ W) (hw : w2 u0 = W) (hpost : ∀ r, post r → post2 r u0) : Met l y ws (RM d' mc' ms') (mu_P D E av W sz) (va_Qi post2 (mu_B D (va_A W sz) w2) (va_A W sz)) mc' ms' (va_A W sz) := by
  refine met_up h hd (Nat.zero_le _) (Nat.zero_le _) (fun a s hpre => ⟨hpre.1, vP_mono hpre.2.2.1 hs, hpre.2.2.2.1⟩) (fun a s o t hpre hq => ?_) (fun q h1 => h1.elim)
  obtain ⟨r, e, hp1, hh⟩ := hq
  exact ⟨⟨r, u0, e, hpost r hp1, by rw [hw, hh]; exact hpre.2.2.1, by rw [hw]; exact hpre.2.2.2.2.self⟩, Nat.le_of_eq (by rw [hh]), fun q _ _ => by rw [hh]⟩
theorem up_rd {post post2 : Int32 → Prop} (h : Met l y ws (RM d 0 0) (rd_P D E av wc) (rd_Q post) 0 0 (fun _ => False)) (hd : d ≤ d') (hs : ∀ q ∈ wc, q ∈ W) (hpost : ∀ r, post r → post2 r) : Met l y ws (RM d' 0 0) (rd_P D E av W) (rd_Q post2) 0 0 (fun _ => False) := by
  refine met_up h hd (Nat.le_refl _) (Nat.le_refl _) (fun a s => rd_up hs) (fun a s o t hpre hq => ?_) (fun q h1 => h1)
  obtain ⟨r, e, hp1, hh⟩ := hq
  exact ⟨r, e, hpost r hp1, hh⟩
theorem up_rv {T : Type} {post2 : T → Prop} {w2 : T → va_W} (u0 : T) (h : Met l y ws (RM d 0 0) (rd_P D E av wc) (rv_Q) 0 0 (fun _ => False)) (hd : d ≤ d') (hs : ∀ q ∈ wc, q ∈ W) (hw : w2 u0 = W) (hpost : post2 u0) : Met l y ws (RM d' mc' ms') (mu_P D E av W sz) (va_Qv post2 (mu_B D (va_A W sz) w2) (va_A W sz)) mc' ms' (va_A W sz) := by
  refine met_up h hd (Nat.zero_le _) (Nat.zero_le _) (fun a s hpre => ⟨hpre.1, vP_mono hpre.2.2.1 hs, hpre.2.2.2.1⟩) (fun a s o t hpre hq => ?_) (fun q h1 => h1.elim)
  obtain ⟨e, hh⟩ := hq
  exact ⟨⟨u0, e, hpost, by rw [hw, hh]; exact hpre.2.2.1, by rw [hw]; exact hpre.2.2.2.2.self⟩, Nat.le_of_eq (by rw [hh]), fun q _ _ => by rw [hh]⟩
end UPS
/-! ===== pools ===== -/
def pool (n : Nat) (B : Nat → va_W) : va_W := (List.range n).flatMap B
theorem pool_succ (n : Nat) (B : Nat → va_W) : pool (n + 1) B = pool n B ++ B n := by
  unfold pool
  rw [List.range_succ, List.flatMap_append]
  simp
theorem pool_congr {n : Nat} {B C : Nat → va_W} (h : ∀ k, k < n → B k = C k) : pool n B = pool n C := by
  induction n with
  | zero => rfl
  | succ n ih => rw [pool_succ, pool_succ, ih (fun k hk => h k (by omega)), h n (by omega)]
theorem pool_up {n i : Nat} (hi : i < n) (B : Nat → va_W) (x : va_W) : (pool n (va_up B i x)).Perm (x ++ pool n (va_up B i [])) := by
  induction n with
  | zero => omega
  | succ n ih =>
    rw [pool_succ, pool_succ]
    by_cases e : i = n
    · subst e
      have e1 : va_up B i x i = x := by simp [va_up]
      have e2 : va_up B i [] i = [] := by simp [va_up]
      rw [e1, e2, List.append_nil, pool_congr (C := va_up B i []) (fun k hk => by simp only [va_up]; rw [if_neg (by omega), if_neg (by omega)])]
      exact List.perm_append_comm
    · have e1 : va_up B i x n = B n := by simp only [va_up]; rw [if_neg (fun h => e h.symm)]
      have e2 : va_up B i [] n = B n := by simp only [va_up]; rw [if_neg (fun h => e h.symm)]
      rw [e1, e2, ← List.append_assoc]
      exact (ih (by omega)).append_right (B n)
def WB (E : Nat → Nat) (h : Nat) (a : Nat → Nat) (f : Nat → Nat → Int32) : va_W := [(h, .inr (7, G7 a)), (a 0, .inl (E 0, 400, .inl (f 0))), (a 1, .inl (E 0, 400, .inl (f 1))), (a 2, .inl (E 0, 400, .inl (f 2))), (a 3, .inl (E 0, 400, .inl (f 3)))]
def wB (E : Nat → Nat) (Q : Nat → Option Nat) (wa : Nat → Nat → Nat) (wf : Nat → Nat → Nat → Int32) (i : Nat) : va_W := match Q i with
  | none => []
  | some h => WB E h (wa i) (wf i)
def wpool (E : Nat → Nat) (Q : Nat → Option Nat) (wa : Nat → Nat → Nat) (wf : Nat → Nat → Nat → Int32) : va_W := pool 16 (wB E Q wa wf)
def wrest (E : Nat → Nat) (Q : Nat → Option Nat) (wa : Nat → Nat → Nat) (wf : Nat → Nat → Nat → Int32) (i : Nat) : va_W := pool 16 (va_up (wB E Q wa wf) i [])
theorem up_same {α : Type} {f : Nat → α} {i : Nat} {x : α} (h : f i = x) : va_up f i x = f := by
  funext j
  simp only [va_up]
  split
  · rename_i e; rw [e, h]
  · rfl
theorem wpool_ex {E : Nat → Nat} {Q : Nat → Option Nat} {wa : Nat → Nat → Nat} {wf : Nat → Nat → Nat → Int32} {i h : Nat} (hi : i < 16) (hq : Q i = some h) : (wpool E Q wa wf).Perm (WB E h (wa i) (wf i) ++ wrest E Q wa wf i) := by
  have e : va_up (wB E Q wa wf) i (WB E h (wa i) (wf i)) = wB E Q wa wf := up_same (by unfold wB; rw [hq])
  have := pool_up hi (wB E Q wa wf) (WB E h (wa i) (wf i))
  rw [e] at this
  exact this
/-- its contents have changed -/
theorem wpool_set {E : Nat → Nat} {Q : Nat → Option Nat} {wa : Nat → Nat → Nat} {wf : Nat → Nat → Nat → Int32} {i h : Nat} {f : Nat → Nat → Int32} (hi : i < 16) (hq : Q i = some h) : (wpool E Q wa (va_up wf i f)).Perm (WB E h (wa i) f ++ wrest E Q wa wf i) := by
  have e : wB E Q wa (va_up wf i f) = va_up (wB E Q wa wf) i (WB E h (wa i) f) := by
    funext j
    simp only [va_up, wB]
    by_cases e : j = i
    · subst e; simp [hq]
    · simp [e]
  unfold wpool
  rw [e]
  exact pool_up hi _ _
theorem wrest_none {E : Nat → Nat} {Q : Nat → Option Nat} {wa : Nat → Nat → Nat} {wf : Nat → Nat → Nat → Int32} {i : Nat} (hq : Q i = none) : wrest E Q wa wf i = wpool E Q wa wf := by
  unfold wrest wpool
  rw [up_same (by unfold wB; rw [hq])]
/-- a new one has come -/
theorem wpool_new {E : Nat → Nat} {Q : Nat → Option Nat} {wa : Nat → Nat → Nat} {wf : Nat → Nat → Nat → Int32} {i h : Nat} {a : Nat → Nat} {f : Nat → Nat → Int32} (hi : i < 16) (hq : Q i = none) : (wpool E (va_up Q i (some h)) (va_up wa i a) (va_up wf i f)).Perm (WB E h a f ++ wpool E Q wa wf) := by
  have e : wB E (va_up Q i (some h)) (va_up wa i a) (va_up wf i f) = va_up (wB E Q wa wf) i (WB E h a f) := by
    funext j
    simp only [va_up, wB]
    by_cases e : j = i
    · subst e; simp
    · simp [e]
  have h1 := pool_up hi (wB E Q wa wf) (WB E h a f)
  rw [← e] at h1
  have h2 : pool 16 (va_up (wB E Q wa wf) i []) = wpool E Q wa wf := wrest_none hq
  rw [h2] at h1
  exact h1
def JQ (K : Nat → Int32) (Q : Nat → Option Nat) : Prop := ∀ i : Nat, i < 16 → (K i).toInt = 0 ∨ (K i).toInt = 1 → ∃ h, Q i = some h
def K2 (f g : Nat → Int32) : Prop := ∀ k : Nat, g k = f k ∨ ((g k).toInt ≠ 0 ∧ (g k).toInt ≠ 1)
theorem K2_r {f : Nat → Int32} : K2 f f := fun _ => Or.inl rfl
theorem K2_u {f : Nat → Int32} {i : Nat} {v : Int32} (h : v.toInt ≠ 0 ∧ v.toInt ≠ 1) : K2 f (upd f i v) := fun k => by
  unfold upd
  split
  · exact Or.inr h
  · exact Or.inl rfl
theorem JQ_K2 {f g : Nat → Int32} {Q : Nat → Option Nat} (h : JQ f Q) (hk : K2 f g) : JQ g Q := fun i hi hg => by
  rcases hk i with e | e
  · exact h i hi (by rw [← e]; exact hg)
  · omega
theorem JQ_put {f g : Nat → Int32} {Q : Nat → Option Nat} {i h : Nat} {v : Int32} (hj : JQ f Q) (hq : Q i = some h) (hg : g = upd f i v) : JQ g Q := fun k hk hkk => by
  by_cases e : k = i
  · exact ⟨h, by rw [e]; exact hq⟩
  · refine hj k hk ?_
    rw [hg] at hkk
    unfold upd at hkk
    rw [if_neg e] at hkk
    exact hkk
theorem JQ_new {f g : Nat → Int32} {Q R : Nat → Option Nat} {i h : Nat} {v : Int32} (hj : JQ f Q) (hr : R = va_up Q i (some h)) (hg : g = upd f i v) : JQ g R := fun k hk hkk => by
  rw [hr]
  by_cases e : k = i
  · exact ⟨h, by simp [va_up, e]⟩
  · rw [hg] at hkk
    unfold upd at hkk
    rw [if_neg e] at hkk
    obtain ⟨z, hz⟩ := hj k hk hkk
    exact ⟨z, by simp [va_up, e, hz]⟩
def tw6 (k : Nat) : Int32 := ([111, 114, 32, 97, 110, 100, 32, 110, 111, 116, 32, 97, 98, 115, 32, 100, 97, 121, 115, 32, 108, 101, 97, 115, 116, 32, 109, 111, 115, 116, 32, 115, 112, 97, 110, 32, 103, 97, 112, 115, 32, 106, 117, 109, 112, 32, 100, 114, 105, 102, 116, 32, 115, 117, 109, 32, 119, 97, 114, 109] : List Int32).getD k 0
def tw7 (k : Nat) : Int32 := ([111, 114, 32, 97, 110, 100, 32, 110, 111, 116, 32, 97, 98, 115, 32, 111, 102, 102, 32, 100, 111, 117, 98, 116, 32, 100, 97, 121, 115, 32, 119, 104, 105, 99, 104] : List Int32).getD k 0
