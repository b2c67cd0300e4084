/-! ===== strings: their cells lie outside what a method writes ===== -/
def SG (t v n : Nat) (f : Nat → Int32) (A : Nat → Prop) (U : State) (H : Heap) : Prop :=
  va_Z "java/lang/String" "COMPACT_STRINGS" "Z" (.int 1) A U H ∧ va_Zq "jdk/internal/util/Preconditions" "SIOOBE_FORMATTER" "Ljava/util/function/BiFunction;" A U H ∧ va_O "java/lang/String" t A U H ∧ va_OF "java/lang/String" "coder" "B" (.int 0) t A U H ∧ va_OF "java/lang/String" "value" "[B" (.ref v) t A U H ∧ va_T .byte v n (fun j => .int (f j)) A U H
theorem SG.moved {t v n : Nat} {f : Nat → Int32} {A : Nat → Prop} {u U : State} {H : Heap} (hvm : u.vm.Alike U.vm) (h : SG t v n f A u H) : SG t v n f A U H :=
  ⟨va_Z.moved hvm h.1, va_Zq.moved hvm h.2.1, va_O.moved hvm h.2.2.1, va_OF.moved hvm h.2.2.2.1, va_OF.moved hvm h.2.2.2.2.1, va_T.moved hvm h.2.2.2.2.2⟩
theorem SG.kept {t v n : Nat} {f : Nat → Int32} {A : Nat → Prop} {U : State} {H H1 : Heap} (h : SG t v n f A U H) (hq : ∀ a : Nat, a < H.size → ¬ A a → H1[a]? = H[a]?) : SG t v n f A U H1 :=
  ⟨h.1.kept hq, h.2.1.kept hq, h.2.2.1.kept hq, h.2.2.2.1.kept hq, h.2.2.2.2.1.kept hq, h.2.2.2.2.2.kept hq⟩
theorem SG.narrow {t v n : Nat} {f : Nat → Int32} {A B : Nat → Prop} {U : State} {H : Heap} (h : SG t v n f A U H) (hAB : ∀ q, B q → A q) : SG t v n f B U H :=
  ⟨h.1.narrow hAB, h.2.1.narrow hAB, h.2.2.1.narrow hAB, h.2.2.2.1.narrow hAB, h.2.2.2.2.1.narrow hAB, h.2.2.2.2.2.narrow hAB⟩
def SGs (L : List (Nat × Nat × Nat × (Nat → Int32))) (A : Nat → Prop) (U : State) (H : Heap) : Prop := ∀ q ∈ L, SG q.1 q.2.1 q.2.2.1 q.2.2.2 A U H
theorem SGs.pass {L : List (Nat × Nat × Nat × (Nat → Int32))} {A B : Nat → Prop} {s U : State} {H : Heap} {locs : List Loc} (hG : SGs L A s s.heap) (hS : va_S A s.heap H locs) (hB : ∀ q, B q → A q) (hW : s.WarmedH U.vm) (hU : U.heap = H) : SGs L B U U.heap :=
  fun q hq => by rw [hU]; exact SG.moved hW.alike (((hG q hq).kept hS.2.1).narrow hB)
theorem SGs.one {L : List (Nat × Nat × Nat × (Nat → Int32))} {A : Nat → Prop} {s : State} {H : Heap} {x : Nat × Nat × Nat × (Nat → Int32)} (hG : SGs L A s H) (k : Nat) (hk : L[k]? = some x) : SGs [x] A s H :=
  fun q hq => by rw [List.mem_singleton.mp hq]; exact hG x (List.mem_of_getElem? hk)
theorem SGs.get {L : List (Nat × Nat × Nat × (Nat → Int32))} {A : Nat → Prop} {s : State} {H : Heap} {t v n : Nat} {f : Nat → Int32} (hG : SGs L A s H) (k : Nat) (hk : L[k]? = some (t, v, n, f)) : SG t v n f A s H := hG _ (List.mem_of_getElem? hk)
theorem SGs.calling {L : List (Nat × Nat × Nat × (Nat → Int32))} {A : Nat → Prop} {U : State} {H : Heap} (g : JFrame) (mk : MethodId) (a : Array Value) (h : SGs L A U H) : SGs L A (U.calling g mk a) H := fun q hq => SG.moved (u := U) (U := U.calling g mk a) (Vm.Alike.refl U.vm) (h q hq)
abbrev rdS_P (D : va_G) (E : Nat → Nat) (av : List Value) (wc : va_W) (L : List (Nat × Nat × Nat × (Nat → Int32))) : Array Value → State → Prop := va_Pc av (fun U => va_P D vwCl wc U.heap ∧ KX D E U ∧ SGs L (fun _ => False) U U.heap)
abbrev muS_P (D : va_G) (E : Nat → Nat) (av : List Value) (wc : va_W) (sz : Nat) (L : List (Nat × Nat × Nat × (Nat → Int32))) : Array Value → State → Prop := va_Pc av (fun U => U.heap.size = sz ∧ va_P D vwCl wc U.heap ∧ KX D E U ∧ va_D (fun _ => True) wc ∧ SGs L (va_A wc sz) U U.heap)
/-- a reading method that answers a reference -/
def rr_Q (a : Nat) : Array Value → State → Outcome → State → Prop := fun _ st oc t => oc = .returned (some (.ref a)) ∧ t.heap = st.heap
def ro_Q (post : Option Nat → Prop) : Array Value → State → Outcome → State → Prop := fun _ st oc t => ∃ r : Option Nat, oc = .returned (some (va_rf r)) ∧ post r ∧ t.heap = st.heap
theorem nI_len {n : Nat} {z : Int32} (h : n < 2147483647) (e : Int32.ofNat n = z) : z.toInt = n := by subst e; exact nI_toInt (by omega)
theorem shr_0 {n : Nat} {x z : Int32} (h : n < 2147483647) (e : Int32.ofNat n = x) (e2 : z = x >>> ((0 : Int32) &&& 31)) : z.toInt = n := by
  subst e2; subst e
  have := sc_shr0 (n := n) (by omega)
  have h3 : (Int32.ofNat n >>> ((0 : Int32) &&& 31)) = Int32.ofNat n := this
  rw [h3]; exact nI_len h rfl
theorem nar_z {v : Int32} (h0 : 0 ≤ v.toInt) (h1 : v.toInt ≤ 1) : narrow .boolean (.int v) = .int v := by
  rcases (show v.toInt = 0 ∨ v.toInt = 1 by omega) with h | h
  · have e : v = 0 := i_eq.mpr (by rw [h]; rfl)
    subst e; rfl
  · have e : v = 1 := i_eq.mpr (by rw [h]; rfl)
    subst e; rfl
section CALLS4
variable {p : Program} {l : Launch} {e : Env} {R : Room} {s : State} {m : MethodId} {args : Array Value} {below : List Frame} {meth : Method} {c : Code} {H : Heap} {locs : List Loc} {cells slots : Nat} {Q : State → Prop}
variable {cc : ByteArray} {pc : Nat} {ls : Array Slot} {rest st : List Value} {D : va_G} {E : Nat → Nat}
variable {nL n idx d mc ms maxL : Nat} {own : String} {y : MethodName} {bytes : ByteArray} {ret : Option FieldType} {L : List (Nat × Nat × Nat × (Nat → Int32))} {A : Nat → Prop}
theorem prVS {b : Nat} {As : List Value} {wc : va_W} (hP : va_P D vwCl wc H) (hK : KX D E s) {ci : Nat} {q : vw_C} {fs : List Value} (hc : vwCl[ci]? = some q) (hq : q.1 = y.cls) (q0 : Nat) (he : wc[q0]? = some (b, .inr (ci, fs))) (hG : SGs L A s s.heap) (hS : va_S A s.heap H locs) : PreV s H y.cls b (rdS_P D E (.ref b :: As) wc L) As :=
  ⟨fun a U g mk z => ⟨z.1, z.2.1, z.2.2.1.calling g mk a, z.2.2.2.calling g mk a⟩, by rw [← hq]; exact va_recv hK.1 hP hc he, fun U hU hW => ⟨rfl, by rw [hU]; exact hP, hK.warm hW, hG.pass hS (fun _ h => h.elim) hW hU⟩⟩
/-- the receiver is the text -/
theorem prVT {t v n : Nat} {f : Nat → Int32} {As : List Value} (hK : KX D E s) (k : Nat) (hk : L[k]? = some (t, v, n, f)) (hG : SGs L A s s.heap) (hS : va_S A s.heap H locs) : PreV s H "java/lang/String" t (rdS_P D E (.ref t :: As) [] L) As :=
  ⟨fun a U g mk z => ⟨z.1, z.2.1, z.2.2.1.calling g mk a, z.2.2.2.calling g mk a⟩, by obtain ⟨cell, h1, h2, h3, -⟩ := (hG.get k hk).2.2.1.kept hS.2.1; exact ⟨cell, h1, h2, h3⟩, fun U hU hW => ⟨rfl, (show va_P D vwCl [] U.heap from fun k q h => by simp at h), hK.warm hW, hG.pass hS (fun _ h => h.elim) hW hU⟩⟩
theorem prSS {As : List Value} {wc : va_W} (hP : va_P D vwCl wc H) (hK : KX D E s) (hG : SGs L A s s.heap) (hS : va_S A s.heap H locs) : PreS s H (rdS_P D E As wc L) As :=
  ⟨fun a U g mk z => ⟨z.1, z.2.1, z.2.2.1.calling g mk a, z.2.2.2.calling g mk a⟩, fun U hU hW => ⟨rfl, by rw [hU]; exact hP, hK.warm hW, hG.pass hS (fun _ h => h.elim) hW hU⟩⟩
theorem pmVS {b : Nat} {As : List Value} {wc : va_W} {A0 : Nat → Prop} (hP : va_P D vwCl wc H) (hD : va_D A0 wc) (hK : KX D E s) {ci : Nat} {q : vw_C} {fs : List Value} (hc : vwCl[ci]? = some q) (hq : q.1 = y.cls) (q0 : Nat) (he : wc[q0]? = some (b, .inr (ci, fs))) (hG : SGs L A s s.heap) (hS : va_S A s.heap H locs) (hB : ∀ q, va_A wc H.size q → A q) : PreV s H y.cls b (muS_P D E (.ref b :: As) wc H.size L) As :=
  ⟨fun a U g mk z => ⟨z.1, z.2.1, z.2.2.1, z.2.2.2.1.calling g mk a, z.2.2.2.2.1, z.2.2.2.2.2.calling g mk a⟩, by rw [← hq]; exact va_recv hK.1 hP hc he, fun U hU hW => ⟨rfl, by rw [hU], by rw [hU]; exact hP, hK.warm hW, hD.weaken (fun _ _ _ _ => trivial), hG.pass hS hB hW hU⟩⟩
theorem pmV2 {b : Nat} {As : List Value} {wc : va_W} {A0 : Nat → Prop} (hP : va_P D vwCl wc H) (hD : va_D A0 wc) (hK : KX D E s) {ci : Nat} {q : vw_C} {fs : List Value} (hc : vwCl[ci]? = some q) (hq : q.1 = y.cls) (q0 : Nat) (he : wc[q0]? = some (b, .inr (ci, fs))) : PreV s H y.cls b (mu_P D E (.ref b :: As) wc H.size) As := pmV hP hD hK hc hq q0 he
theorem rv_call {a : Array Value} (hr : CallRun p l e R s m args below meth c H locs cells slots 0 0 (F0 m pc ls st) rest (rv_Q a) (fun _ => False))
    (kk : W p l e R s m args below meth c H locs cells slots Q (F0 m (pc + 3) ls rest)) : W p l e R s m args below meth c H locs cells slots Q (F0 m pc ls st) := by
  intro T hT X
  obtain ⟨v, st₀, t, T', L, h0, X', hL, e1, ⟨hv, hh⟩, st⟩ := hr T hT X
  cases hv
  obtain ⟨t2, a1, b1⟩ := kk T' (by rw [e1, hh, h0]) (Stand.forget X' (fun q h => (hL q h).elim))
  exact ⟨t2, st t2 a1, b1⟩
theorem rr_call {b : Nat} {a : Array Value} (hr : CallRun p l e R s m args below meth c H locs cells slots 0 0 (F0 m pc ls st) rest (rr_Q b a) (fun _ => False))
    (kk : W p l e R s m args below meth c H locs cells slots Q (F0 m (pc + 3) ls (.ref b :: rest))) : W p l e R s m args below meth c H locs cells slots Q (F0 m pc ls st) := by
  intro T hT X
  obtain ⟨v, st₀, t, T', L, h0, X', hL, e1, ⟨hv, hh⟩, st⟩ := hr T hT X
  cases hv
  obtain ⟨t2, a1, b1⟩ := kk T' (by rw [e1, hh, h0]) (Stand.forget X' (fun q h => (hL q h).elim))
  exact ⟨t2, st t2 a1, b1⟩
theorem ro_call {post : Option Nat → Prop} {a : Array Value} (hr : CallRun p l e R s m args below meth c H locs cells slots 0 0 (F0 m pc ls st) rest (ro_Q post a) (fun _ => False))
    (kn : post none → W p l e R s m args below meth c H locs cells slots Q (F0 m (pc + 3) ls (.null :: rest))) (ks : ∀ b : Nat, post (some b) → W p l e R s m args below meth c H locs cells slots Q (F0 m (pc + 3) ls (.ref b :: rest))) : W p l e R s m args below meth c H locs cells slots Q (F0 m pc ls st) := by
  intro T hT X
  obtain ⟨v, st₀, t, T', L, h0, X', hL, e1, ⟨r, hv, hp, hh⟩, st⟩ := hr T hT X
  cases hv
  cases r with
  | none =>
    obtain ⟨t2, a1, b1⟩ := kn hp T' (by rw [e1, hh, h0]) (Stand.forget X' (fun q h => (hL q h).elim))
    exact ⟨t2, st t2 a1, b1⟩
  | some b =>
    obtain ⟨t2, a1, b1⟩ := ks b hp T' (by rw [e1, hh, h0]) (Stand.forget X' (fun q h => (hL q h).elim))
    exact ⟨t2, st t2 a1, b1⟩
/-- calls in general form: what the callee starts with is given as a whole -/
theorem runRV {b : Nat} {As : List Value} {Pc : Array Value → State → Prop} {Qc : Array Value → State → Outcome → State → Prop} (hx : p.tables.exec = Jvm.exec) (hb : c.code = cc) (hml : c.maxLocals = nL) (hown : s.vm.findClass own = some m.cls) (htb : ∀ w ∈ tb, w.before args s = true)
    (hM : Met l y (wl y bytes maxL ret) (RM d 0 0) Pc Qc 0 0 (fun _ => False)) (hy : yOk y n)
    (k1 : Cond.methodLink own idx y ∈ tb) (k2 : Cond.instanceMethod y ∈ tb) (k3 : Cond.selects y.cls y y ∈ tb) (k4 : Cond.initialized y.cls ∈ tb) (k5 : Cond.code y bytes maxL ret ∈ tb)
    (hR : d + 1 ≤ R.frames ∧ 8 + (maxL + 11) + 40 * d ≤ R.locals) (hf : cells ≤ R.cells ∧ slots ≤ R.slots) (hls : ls.size = nL) (hroom : (rest.map fun v => v.category).sum ≤ 8) (hn : As.length = n) (hst : st = As.reverse ++ .ref b :: rest) (hdg : decode cc pc = .ok (.invokevirtual idx, 3)) (hp : PreV s H y.cls b Pc As) :
    CallRun p l e R s m args below meth c H locs cells slots 0 0 (F0 m pc ls st) rest (Qc (Value.ref b :: As).toArray) (fun _ => False) :=
  W.runV (As := As) (rest := rest) (b := b) (C := y.cls) ⟨hx, hb, hml, hown, htb⟩ hM ⟨cB htb hy k1 k4 k5 hR, htb _ k2, htb _ k3⟩ hp rfl hn hls hst (l_room hroom) hdg hf
theorem runRS {As : List Value} {Pc : Array Value → State → Prop} {Qc : Array Value → State → Outcome → State → Prop} (hx : p.tables.exec = Jvm.exec) (hb : c.code = cc) (hml : c.maxLocals = nL) (hown : s.vm.findClass own = some m.cls) (htb : ∀ w ∈ tb, w.before args s = true)
    (hM : Met l y (wl y bytes maxL ret) (RM d 0 0) Pc Qc 0 0 (fun _ => False)) (hy : yOk y n)
    (k1 : Cond.methodLink own idx y ∈ tb) (k2 : Cond.static y ∈ tb) (k4 : Cond.initialized y.cls ∈ tb) (k5 : Cond.code y bytes maxL ret ∈ tb)
    (hR : d + 1 ≤ R.frames ∧ 8 + (maxL + 11) + 40 * d ≤ R.locals) (hf : cells ≤ R.cells ∧ slots ≤ R.slots) (hls : ls.size = nL) (hroom : (rest.map fun v => v.category).sum ≤ 8) (hn : As.length = n) (hst : st = As.reverse ++ rest) (hdg : decode cc pc = .ok (.invokestatic idx, 3)) (hp : PreS s H Pc As) :
    CallRun p l e R s m args below meth c H locs cells slots 0 0 (F0 m pc ls st) rest (Qc As.toArray) (fun _ => False) :=
  W.runS (As := As) (rest := rest) ⟨hx, hb, hml, hown, htb⟩ hM ⟨cB htb hy k1 k4 k5 hR, htb _ k2⟩ hp rfl hn hls hst (l_room hroom) hdg hf
theorem runMG {b : Nat} {As : List Value} {wc : va_W} {Pc : Array Value → State → Prop} {Qc : Array Value → State → Outcome → State → Prop} (hx : p.tables.exec = Jvm.exec) (hb : c.code = cc) (hml : c.maxLocals = nL) (hown : s.vm.findClass own = some m.cls) (htb : ∀ w ∈ tb, w.before args s = true)
    (hM : Met l y (wl y bytes maxL ret) (RM d mc ms) Pc Qc mc ms (va_A wc H.size)) (hy : yOk y n)
    (k1 : Cond.methodLink own idx y ∈ tb) (k2 : Cond.instanceMethod y ∈ tb) (k3 : Cond.selects y.cls y y ∈ tb) (k4 : Cond.initialized y.cls ∈ tb) (k5 : Cond.code y bytes maxL ret ∈ tb)
    (hR : d + 1 ≤ R.frames ∧ 8 + (maxL + 11) + 40 * d ≤ R.locals) (hf : cells + mc ≤ R.cells ∧ slots + ms ≤ R.slots) (hls : ls.size = nL) (hroom : (rest.map fun v => v.category).sum ≤ 8) (hn : As.length = n) (hst : st = As.reverse ++ .ref b :: rest) (hdg : decode cc pc = .ok (.invokevirtual idx, 3)) (hp : PreV s H y.cls b Pc As) :
    va_Run p l e R s m args below meth c H locs cells slots mc ms (F0 m pc ls st) rest (Qc (Value.ref b :: As).toArray) (va_A wc H.size) :=
  va_runV (As := As) (rest := rest) (b := b) (C := y.cls) ⟨hx, hb, hml, hown, htb⟩ hM ⟨cB htb hy k1 k4 k5 hR, htb _ k2, htb _ k3⟩ hp rfl hn hls hst (l_room hroom) hdg hf
/-- behind a method that writes and answers a known reference -/
theorem aft_r {S : Type} {A0 : Nat → Prop} {H0 : Heap} {ws wc : va_W} {ra : Nat} {post : S → Prop} {w1 : S → va_W} {a : Array Value}
    (hr : va_Run p l e R s m args below meth c H locs cells slots mc ms (F0 m pc ls st) rest (va_Qr post (fun u x t => x = ra ∧ mu_B D (va_A wc H.size) w1 u t) (va_A wc H.size) a) (va_A wc H.size))
    (hP : va_P D vwCl ws H) (hD : va_D A0 ws) (hS : va_S A0 H0 H locs) (hA : ∀ q, H0.size ≤ q → A0 q) (isC isR : List Nat) {wr : va_W} (hC : isC.map (fun i => ws[i]?) = wc.map some) (hR : isR.map (fun i => ws[i]?) = wr.map some) (hn : va_nd isR = true) (hdis : ∀ i ∈ isR, i ∉ isC)
    (kk : ∀ (u : S) (H1 : Heap) (locs1 : List Loc), post u → va_P D vwCl (wr ++ w1 u) H1 → va_D A0 (wr ++ w1 u) → va_S A0 H0 H1 locs1 → W p l e R s m args below meth c H1 locs1 (cells + mc) (slots + ms) Q (F0 m (pc + 3) ls (.ref ra :: rest))) : W p l e R s m args below meth c H locs cells slots Q (F0 m pc ls st) := by
  have hFc := va_free (wc := wc) hD hS hA isC hC
  refine va_callr hr hS (fun q _ h => hFc q h) hFc (fun u x t H1 locs1 ht hvm hw hB hz1 hk1 hS => ?_)
  obtain ⟨rfl, hP1, hD1⟩ := hB
  rw [ht] at hP1
  obtain ⟨hP, hD⟩ := va_join hP hD isC isR hC hR hn hdis hk1 hFc hP1 hD1
  exact kk u H1 locs1 hw hP hD hS
end CALLS4
def KM (f g : Nat → Int32) : Prop := ∀ k : Nat, g k = f k ∨ (g k).toInt = -5
theorem KM_r {f : Nat → Int32} : KM f f := fun _ => Or.inl rfl
theorem KM_u {f : Nat → Int32} {i : Nat} {v : Int32} (h : v.toInt = -5) : KM f (upd f i v) := fun k => by
  unfold upd
  split
  · exact Or.inr h
  · exact Or.inl rfl
