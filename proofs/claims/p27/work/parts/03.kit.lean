/-! ===== the context of all contracts: classes and array classes (E 0 int, E 1 boolean, E 2 byte, E 3 Watch, E 4 Ship), links between nest mates, strings (E 5, E 6, E 7) ===== -/
abbrev TY (E : Nat → Nat) : List (ClassId × FieldType) := [(E 0, .int), (E 1, .boolean), (E 2, .byte), (E 3, .object "SeaWatches$Watch"), (E 4, .object "SeaWatches$Ship")]
def nestW : List Cond := [.methodLinkNest RX8 36 yX2_init RX8, .fieldLinkNest RX8 142 "SeaWatches$Offs" "size" "I" "SeaWatches", .methodLinkNest RX8 43 yX3_init RX8, .fieldLinkNest RX8 312 "SeaWatches$Rates" "days" "[I" "SeaWatches", .fieldLinkNest RX8 318 "SeaWatches$Rates" "values" "[I" "SeaWatches", .fieldLinkNest RX8 311 "SeaWatches$Rates" "size" "I" "SeaWatches", .methodLinkNest RX8 50 yX1_init RX8, .methodLinkNest RX8 57 yX6_init RX8, .methodLinkNest RX6 21 yX4_init RX8, .fieldLinkNest RX6 44 "SeaWatches$Rule" "size" "I" "SeaWatches", .fieldLinkNest RX8 327 "SeaWatches$Rule" "size" "I" "SeaWatches", .fieldLinkNest RX8 179 "SeaWatches$Tape" "size" "I" "SeaWatches", .methodLinkNest RX8 64 yX0_init RX8, .fieldLinkNest RX8 285 "SeaWatches$Dealing" "best" "[I" "SeaWatches", .fieldLinkNest RX8 275 "SeaWatches$Dealing" "listed" "I" "SeaWatches", .fieldLinkNest RX8 282 "SeaWatches$Dealing" "shared" "I" "SeaWatches", .methodLinkNest RX8 71 yX4_init RX8, .methodLinkNest RX8 83 yX5_init RX8, .fieldLinkNest RX8 220 "SeaWatches$Ship" "places" "[I" "SeaWatches", .fieldLinkNest RX8 223 "SeaWatches$Ship" "starts" "[I" "SeaWatches", .fieldLinkNest RX8 226 "SeaWatches$Ship" "goings" "[I" "SeaWatches", .fieldLinkNest RX8 229 "SeaWatches$Ship" "doubts" "[I" "SeaWatches", .fieldLinkNest RX8 368 "SeaWatches$Ship" "ends" "[I" "SeaWatches", .fieldLinkNest RX8 243 "SeaWatches$Ship" "sightDays" "[I" "SeaWatches", .fieldLinkNest RX8 236 "SeaWatches$Ship" "sights" "I" "SeaWatches", .fieldLinkNest RX8 208 "SeaWatches$Ship" "stage" "I" "SeaWatches", .fieldLinkNest RX8 262 "SeaWatches$Ship" "sailed" "I" "SeaWatches", .fieldLinkNest RX8 272 "SeaWatches$Ship" "voyage" "I" "SeaWatches", .methodLinkNest RX8 301 yX7_init RX8, .methodLinkNest RX7 24 yX8_isDay RX8, .methodLinkNest RX7 45 yX8_isWithin RX8]
def isNw : Cond → Bool
  | .fieldLinkNest .. => true
  | .methodLinkNest .. => true
  | _ => false
theorem nestW_is : ∀ w ∈ nestW, isNw w = true := by decide +kernel
theorem nestW_in : ∀ w ∈ nestW, w ∈ lw_tbl := by
  intro w hw
  have hp : nestW = ([30, 40, 57, 62, 64, 67, 79, 131, 137, 145, 146, 159, 186, 193, 197, 199, 222, 224, 229, 231, 233, 235, 237, 239, 242, 244, 246, 248, 344, 377, 438] : List Nat).filterMap (fun i => tables_1[i]?) := by decide +kernel
  rw [hp] at hw
  obtain ⟨i, -, hi⟩ := List.mem_filterMap.mp hw
  exact lw_t i hi
theorem nw_warm {w : Cond} {s U : State} (h : isNw w = true) (hW : s.WarmedH U.vm) (hZ : va_Nw w s) : va_Nw w U := by
  cases w <;> first | exact va_Nw.warmF hW hZ | exact va_Nw.warmM hW hZ | cases h
theorem nw_tab {w : Cond} (h : isNw w = true) : w.onTables = true := by
  cases w <;> first | rfl | cases h
def KX (D : va_G) (E : Nat → Nat) (U : State) : Prop := va_K D vwCl (TY E) U ∧ (∀ w ∈ nestW, va_Nw w U) ∧ (va_AO "SeaWatches$Watch" U ∧ va_AO "SeaWatches$Ship" U) ∧ vk_R RX6 26 "" (E 5) U ∧ vk_R RX8 182 "or and not abs days least most span gaps jump drift sum warm" (E 6) U ∧ vk_R RX8 184 "or and not abs off doubt days which" (E 7) U
theorem KX.warm {D : va_G} {E : Nat → Nat} {s U : State} (hW : s.WarmedH U.vm) (h : KX D E s) : KX D E U :=
  ⟨va_K.moved hW.alike h.1, fun w hw => nw_warm (nestW_is w hw) hW (h.2.1 w hw), ⟨va_AO.moved hW.alike h.2.2.1.1, va_AO.moved hW.alike h.2.2.1.2⟩, vk_R.warm hW h.2.2.2.1, vk_R.warm hW h.2.2.2.2.1, vk_R.warm hW h.2.2.2.2.2⟩
theorem KX.calling {D : va_G} {E : Nat → Nat} {U : State} (g : JFrame) (mk : MethodId) (a : Array Value) (h : KX D E U) : KX D E (U.calling g mk a) :=
  ⟨va_K.moved (u := U) (U := U.calling g mk a) (Vm.Alike.refl U.vm) h.1, fun w hw => va_Nw.same (nw_tab (nestW_is w hw)) (u := U) rfl (h.2.1 w hw), ⟨va_AO.moved (u := U) (U := U.calling g mk a) (Vm.Alike.refl U.vm) h.2.2.1.1, va_AO.moved (u := U) (U := U.calling g mk a) (Vm.Alike.refl U.vm) h.2.2.1.2⟩, vk_R.same (u := U) rfl h.2.2.2.1, vk_R.same (u := U) rfl h.2.2.2.2.1, vk_R.same (u := U) rfl h.2.2.2.2.2⟩
/-! ===== numbers ===== -/
theorem i_lt {a b : Int32} : a < b ↔ a.toInt < b.toInt := Int32.lt_iff_toInt_lt
theorem i_le {a b : Int32} : a ≤ b ↔ a.toInt ≤ b.toInt := Int32.le_iff_toInt_le
theorem i_eq {a b : Int32} : a = b ↔ a.toInt = b.toInt := Int32.toInt_inj.symm
theorem i_lo (a : Int32) : -2147483648 ≤ a.toInt := by have := Int32.le_toInt a; simpa using this
theorem i_hi (a : Int32) : a.toInt ≤ 2147483647 := by have := Int32.toInt_lt a; have : a.toInt < 2147483648 := by simpa using this
                                                      omega
theorem i_bmod {x : Int} (h1 : -2147483648 ≤ x) (h2 : x ≤ 2147483647) : x.bmod (2 ^ 32) = x := by
  rw [Int.bmod_def]
  have : ((2 ^ 32 : Nat) : Int) = 4294967296 := by decide
  rw [this]
  split <;> omega
theorem i_add {a b : Int32} (h1 : -2147483648 ≤ a.toInt + b.toInt) (h2 : a.toInt + b.toInt ≤ 2147483647) : (a + b).toInt = a.toInt + b.toInt := by
  rw [Int32.toInt_add]; exact i_bmod h1 h2
theorem i_sub {a b : Int32} (h1 : -2147483648 ≤ a.toInt - b.toInt) (h2 : a.toInt - b.toInt ≤ 2147483647) : (a - b).toInt = a.toInt - b.toInt := by
  rw [Int32.toInt_sub]; exact i_bmod h1 h2
theorem i_mul {a b : Int32} (h1 : -2147483648 ≤ a.toInt * b.toInt) (h2 : a.toInt * b.toInt ≤ 2147483647) : (a * b).toInt = a.toInt * b.toInt := by
  rw [Int32.toInt_mul]; exact i_bmod h1 h2
theorem i_clamp0 {x : Int32} (h : 0 ≤ x.toInt) : (x.toNatClampNeg : Int) = x.toInt := by
  have h2 : x.toNatClampNeg = x.toInt.toNat := rfl
  rw [h2]; exact Int.toNat_of_nonneg h
theorem i_neg {a : Int32} (h : -2147483647 ≤ a.toInt) : (-a).toInt = -a.toInt := by
  have h2 := i_hi a
  rw [Int32.toInt_neg]; exact i_bmod (by omega) (by omega)
theorem fill_step {f : Nat → Int32} {i j : Int32} {v : Int32} (h0 : 0 ≤ i.toInt) (hi : j.toInt = i.toInt + 1) (h : ∀ k : Nat, (k : Int) < i.toInt → f k = v) : ∀ k : Nat, (k : Int) < j.toInt → upd f i.toNatClampNeg v k = v := by
  intro k hk
  have hc := i_clamp0 h0
  unfold upd
  split
  · rfl
  · exact h k (by omega)
theorem g_add {a b : Int32} {x y : Int} (ha : a.toInt = x) (hb : b.toInt = y) (h1 : -2147483648 ≤ x + y) (h2 : x + y ≤ 2147483647) : (a + b).toInt = x + y := by subst ha; subst hb; exact i_add h1 h2
theorem g_sub {a b : Int32} {x y : Int} (ha : a.toInt = x) (hb : b.toInt = y) (h1 : -2147483648 ≤ x - y) (h2 : x - y ≤ 2147483647) : (a - b).toInt = x - y := by subst ha; subst hb; exact i_sub h1 h2
theorem g_mul {a b : Int32} {x y : Int} (ha : a.toInt = x) (hb : b.toInt = y) (h1 : -2147483648 ≤ x * y) (h2 : x * y ≤ 2147483647) : (a * b).toInt = x * y := by subst ha; subst hb; exact i_mul h1 h2
theorem g_lt {a b : Int32} {x y : Int} (ha : a.toInt = x) (hb : b.toInt = y) : a < b ↔ x < y := by subst ha; subst hb; exact i_lt
theorem g_le {a b : Int32} {x y : Int} (ha : a.toInt = x) (hb : b.toInt = y) : a ≤ b ↔ x ≤ y := by subst ha; subst hb; exact i_le
theorem g_eq {a b : Int32} {x y : Int} (ha : a.toInt = x) (hb : b.toInt = y) : a = b ↔ x = y := by subst ha; subst hb; exact i_eq
theorem g_in {a : Int32} {x : Int} {n : Nat} (ha : a.toInt = x) (h1 : 0 ≤ x) (h2 : x < n) : vp_in a n := by subst ha; exact vp_in_iff.mpr ⟨h1, h2⟩
theorem i_in {x : Int32} {n : Nat} (h1 : 0 ≤ x.toInt) (h2 : x.toInt < n) : vp_in x n := vp_in_iff.mpr ⟨h1, h2⟩
theorem i_clamp {x : Int32} (h : 0 ≤ x.toInt) : (x.toNatClampNeg : Int) = x.toInt := by
  have h2 : x.toNatClampNeg = x.toInt.toNat := rfl
  rw [h2]; exact Int.toNat_of_nonneg h
/-! ===== methods: their words, room, contracts ===== -/
abbrev wl (y : MethodName) (b : ByteArray) (n : Nat) (r : Option FieldType) : List Cond := Cond.code y b n r :: tb
def RM (d mc ms : Nat) : Room := { frames := d, cells := mc, slots := ms, locals := 40 * d }
theorem gC {y : MethodName} {b : ByteArray} {n : Nat} {r : Option FieldType} (h : Cond.code y b n r ∈ tb) : GoodIn tb (wl y b n r) := gW (fun w hw => (List.mem_cons.mp hw).elim (fun e => by rw [e]; exact h) id)
def yOk (y : MethodName) (n : Nat) : Prop := y.cls ≠ "java/lang/invoke/MethodHandle" ∧ y.cls ≠ "java/lang/invoke/VarHandle" ∧ (parseMethodDescriptor y.desc).map (fun d => d.parameters.length) = some n
/-- a method that only reads: its answer, the heap as it was -/
def rd_Q (post : Int32 → Prop) : Array Value → State → Outcome → State → Prop := fun _ st oc t => ∃ r : Int32, oc = .returned (some (.int r)) ∧ post r ∧ t.heap = st.heap
/-- .. and answers null -/
def rn_Q : Array Value → State → Outcome → State → Prop := fun _ st oc t => oc = .returned (some .null) ∧ t.heap = st.heap
abbrev rd_P (D : va_G) (E : Nat → Nat) (av : List Value) (wc : va_W) : Array Value → State → Prop := va_Pc av (fun U => va_P D vwCl wc U.heap ∧ KX D E U)
abbrev mu_P (D : va_G) (E : Nat → Nat) (av : List Value) (wc : va_W) (sz : Nat) : Array Value → State → Prop := va_Pc av (fun U => U.heap.size = sz ∧ va_P D vwCl wc U.heap ∧ KX D E U ∧ va_D (fun _ => True) wc)
/-- what stands behind a method that writes -/
abbrev mu_B {S : Type} (D : va_G) (A : Nat → Prop) (w1 : S → va_W) : S → State → Prop := fun u t => va_P D vwCl (w1 u) t.heap ∧ va_D A (w1 u)
section CALLS
variable {p : Program} {l : Launch} {e : Env} {R : Room} {s : State} {m : MethodId} {args : Array Value} {below : List Frame} {meth : Method} {c : Code} {H : Heap} {locs : List Loc} {cells slots : Nat} {Q : State → Prop}
variable {cc : ByteArray} {pc : Nat} {ls : Array Slot} {rest st : List Value} {D : va_G} {E : Nat → Nat}
theorem W_top {x y : Value} (h : x = y) (k : W p l e R s m args below meth c H locs cells slots Q (F0 m pc ls (y :: rest))) : W p l e R s m args below meth c H locs cells slots Q (F0 m pc ls (x :: rest)) := by rw [h]; exact k
theorem rd_call {post : Int32 → Prop} {a : Array Value} (hr : CallRun p l e R s m args below meth c H locs cells slots 0 0 (F0 m pc ls st) rest (rd_Q post a) (fun _ => False))
    (kk : ∀ r : Int32, post r → W p l e R s m args below meth c H locs cells slots Q (F0 m (pc + 3) ls (.int r :: rest))) : W p l e R s m args below meth c H locs cells slots Q (F0 m pc ls st) := by
  intro T hT X
  obtain ⟨v, st₀, t, T', L, h0, X', hL, e1, ⟨r, hv, hp, hh⟩, st⟩ := hr T hT X
  cases hv
  obtain ⟨t2, a1, b1⟩ := kk r hp T' (by rw [e1, hh, h0]) (Stand.forget X' (fun q h => (hL q h).elim))
  exact ⟨t2, st t2 a1, b1⟩
theorem rn_call {a : Array Value} (hr : CallRun p l e R s m args below meth c H locs cells slots 0 0 (F0 m pc ls st) rest (rn_Q a) (fun _ => False))
    (kk : W p l e R s m args below meth c H locs cells slots Q (F0 m (pc + 3) ls (.null :: rest))) : W p l e R s m args below meth c H locs cells slots Q (F0 m pc ls st) := by
  intro T hT X
  obtain ⟨v, st₀, t, T', L, h0, X', hL, e1, ⟨hv, hh⟩, st⟩ := hr T hT X
  cases hv
  obtain ⟨t2, a1, b1⟩ := kk T' (by rw [e1, hh, h0]) (Stand.forget X' (fun q h => (hL q h).elim))
  exact ⟨t2, st t2 a1, b1⟩
theorem l_room {st : List Value} (h : (st.map fun v => v.category).sum ≤ 8) : 2 * (F0 m pc ls rest).monitorRoom + (st.map fun v => v.category).sum ≤ 8 := lv_room h
theorem prV {y : MethodName} {b : Nat} {As : List Value} {wc : va_W} (hP : va_P D vwCl wc H) (hK : KX D E s) {ci : Nat} {q : vw_C} {fs : List Value} (hc : vwCl[ci]? = some q) (hq : q.1 = y.cls) (q0 : Nat) (he : wc[q0]? = some (b, .inr (ci, fs))) : PreV s H y.cls b (rd_P D E (.ref b :: As) wc) As :=
  ⟨fun a U g mk z => ⟨z.1, z.2.1, z.2.2.calling g mk a⟩, by rw [← hq]; exact va_recv hK.1 hP hc he, fun U hU hW => ⟨rfl, by rw [hU]; exact hP, hK.warm hW⟩⟩
theorem prS {As : List Value} {wc : va_W} (hP : va_P D vwCl wc H) (hK : KX D E s) : PreS s H (rd_P D E As wc) As :=
  ⟨fun a U g mk z => ⟨z.1, z.2.1, z.2.2.calling g mk a⟩, fun U hU hW => ⟨rfl, by rw [hU]; exact hP, hK.warm hW⟩⟩
theorem pmV {y : MethodName} {b : Nat} {As : List Value} {wc : va_W} {A0 : Nat → Prop} (hP : va_P D vwCl wc H) (hD : va_D A0 wc) (hK : KX D E s) {ci : Nat} {q : vw_C} {fs : List Value} (hc : vwCl[ci]? = some q) (hq : q.1 = y.cls) (q0 : Nat) (he : wc[q0]? = some (b, .inr (ci, fs))) : PreV s H y.cls b (mu_P D E (.ref b :: As) wc H.size) As :=
  ⟨fun a U g mk z => ⟨z.1, z.2.1, z.2.2.1, z.2.2.2.1.calling g mk a, z.2.2.2.2⟩, by rw [← hq]; exact va_recv hK.1 hP hc he, fun U hU hW => ⟨rfl, by rw [hU], by rw [hU]; exact hP, hK.warm hW, hD.weaken (fun _ _ _ _ => trivial)⟩⟩
theorem pmS {As : List Value} {wc : va_W} {A0 : Nat → Prop} (hP : va_P D vwCl wc H) (hD : va_D A0 wc) (hK : KX D E s) : PreS s H (mu_P D E As wc H.size) As :=
  ⟨fun a U g mk z => ⟨z.1, z.2.1, z.2.2.1, z.2.2.2.1.calling g mk a, z.2.2.2.2⟩, fun U hU hW => ⟨rfl, by rw [hU], by rw [hU]; exact hP, hK.warm hW, hD.weaken (fun _ _ _ _ => trivial)⟩⟩
variable {nL n idx d mc ms maxL : Nat} {own : String} {y : MethodName} {bytes : ByteArray} {ret : Option FieldType}
theorem cB (htb : ∀ w ∈ tb, w.before args s = true) (hy : yOk y n) (k1 : Cond.methodLink own idx y ∈ tb) (k4 : Cond.initialized y.cls ∈ tb) (k5 : Cond.code y bytes maxL ret ∈ tb) (hR : d + 1 ≤ R.frames ∧ 8 + (maxL + 11) + 40 * d ≤ R.locals) : CallB R s args own idx y bytes maxL ret (wl y bytes maxL ret) (RM d mc ms) mc ms n :=
  callB_of n htb (gC k5) rfl rfl rfl (htb _ k4) (htb _ k1) hy hR
theorem cN {host : String} (htb : ∀ w ∈ tb, w.before args s = true) (hy : yOk y n) (hK : KX D E s) (k1 : Cond.methodLinkNest own idx y host ∈ nestW) (k4 : Cond.initialized y.cls ∈ tb) (k5 : Cond.code y bytes maxL ret ∈ tb) (hR : d + 1 ≤ R.frames ∧ 8 + (maxL + 11) + 40 * d ≤ R.locals) : va_CN R s args own idx y host bytes maxL ret (wl y bytes maxL ret) (RM d mc ms) mc ms n :=
  va_cnB n htb (gC k5) rfl rfl rfl (hK.2.1 _ k1) (htb _ k4) hy hR
/-- a reading method of an object -/
theorem callRV (hx : p.tables.exec = Jvm.exec) (hb : c.code = cc) (hml : c.maxLocals = nL) (hown : s.vm.findClass own = some m.cls) (htb : ∀ w ∈ tb, w.before args s = true) (hK : KX D E s)
    {b : Nat} {As : List Value} {wc : va_W} {post : Int32 → Prop} (hM : Met l y (wl y bytes maxL ret) (RM d 0 0) (rd_P D E (.ref b :: As) wc) (rd_Q post) 0 0 (fun _ => False)) (hy : yOk y n)
    (k1 : Cond.methodLink own idx y ∈ tb) (k2 : Cond.instanceMethod y ∈ tb) (k3 : Cond.selects y.cls y y ∈ tb) (k4 : Cond.initialized y.cls ∈ tb) (k5 : Cond.code y bytes maxL ret ∈ tb)
    (hR : d + 1 ≤ R.frames ∧ 8 + (maxL + 11) + 40 * d ≤ R.locals) (hf : cells ≤ R.cells ∧ slots ≤ R.slots) (hls : ls.size = nL) (hroom : (rest.map fun v => v.category).sum ≤ 8) (hn : As.length = n) (hst : st = As.reverse ++ .ref b :: rest) (hdg : decode cc pc = .ok (.invokevirtual idx, 3))
    (hP : va_P D vwCl wc H) {ci : Nat} {q : vw_C} {fs : List Value} (hc : vwCl[ci]? = some q) (hq : q.1 = y.cls) (q0 : Nat) (he : wc[q0]? = some (b, .inr (ci, fs)))
    (kk : ∀ r : Int32, post r → W p l e R s m args below meth c H locs cells slots Q (F0 m (pc + 3) ls (.int r :: rest))) : W p l e R s m args below meth c H locs cells slots Q (F0 m pc ls st) :=
  rd_call (W.runV (As := As) (rest := rest) (b := b) (C := y.cls) ⟨hx, hb, hml, hown, htb⟩ hM ⟨cB htb hy k1 k4 k5 hR, htb _ k2, htb _ k3⟩ (prV hP hK hc hq q0 he) rfl hn hls hst (l_room hroom) hdg hf) kk
theorem callRS (hx : p.tables.exec = Jvm.exec) (hb : c.code = cc) (hml : c.maxLocals = nL) (hown : s.vm.findClass own = some m.cls) (htb : ∀ w ∈ tb, w.before args s = true) (hK : KX D E s)
    {As : List Value} {wc : va_W} {post : Int32 → Prop} (hM : Met l y (wl y bytes maxL ret) (RM d 0 0) (rd_P D E As wc) (rd_Q post) 0 0 (fun _ => False)) (hy : yOk y n)
    (k1 : Cond.methodLink own idx y ∈ tb) (k2 : Cond.static y ∈ tb) (k4 : Cond.initialized y.cls ∈ tb) (k5 : Cond.code y bytes maxL ret ∈ tb)
    (hR : d + 1 ≤ R.frames ∧ 8 + (maxL + 11) + 40 * d ≤ R.locals) (hf : cells ≤ R.cells ∧ slots ≤ R.slots) (hls : ls.size = nL) (hroom : (rest.map fun v => v.category).sum ≤ 8) (hn : As.length = n) (hst : st = As.reverse ++ rest) (hdg : decode cc pc = .ok (.invokestatic idx, 3))
    (hP : va_P D vwCl wc H)
    (kk : ∀ r : Int32, post r → W p l e R s m args below meth c H locs cells slots Q (F0 m (pc + 3) ls (.int r :: rest))) : W p l e R s m args below meth c H locs cells slots Q (F0 m pc ls st) :=
  rd_call (W.runS (As := As) (rest := rest) ⟨hx, hb, hml, hown, htb⟩ hM ⟨cB htb hy k1 k4 k5 hR, htb _ k2⟩ (prS hP hK) rfl hn hls hst (l_room hroom) hdg hf) kk
theorem callNV (hx : p.tables.exec = Jvm.exec) (hb : c.code = cc) (hml : c.maxLocals = nL) (hown : s.vm.findClass own = some m.cls) (htb : ∀ w ∈ tb, w.before args s = true) (hK : KX D E s)
    {b : Nat} {As : List Value} {wc : va_W} (hM : Met l y (wl y bytes maxL ret) (RM d 0 0) (rd_P D E (.ref b :: As) wc) rn_Q 0 0 (fun _ => False)) (hy : yOk y n)
    (k1 : Cond.methodLink own idx y ∈ tb) (k2 : Cond.instanceMethod y ∈ tb) (k3 : Cond.selects y.cls y y ∈ tb) (k4 : Cond.initialized y.cls ∈ tb) (k5 : Cond.code y bytes maxL ret ∈ tb)
    (hR : d + 1 ≤ R.frames ∧ 8 + (maxL + 11) + 40 * d ≤ R.locals) (hf : cells ≤ R.cells ∧ slots ≤ R.slots) (hls : ls.size = nL) (hroom : (rest.map fun v => v.category).sum ≤ 8) (hn : As.length = n) (hst : st = As.reverse ++ .ref b :: rest) (hdg : decode cc pc = .ok (.invokevirtual idx, 3))
    (hP : va_P D vwCl wc H) {ci : Nat} {q : vw_C} {fs : List Value} (hc : vwCl[ci]? = some q) (hq : q.1 = y.cls) (q0 : Nat) (he : wc[q0]? = some (b, .inr (ci, fs)))
    (kk : W p l e R s m args below meth c H locs cells slots Q (F0 m (pc + 3) ls (.null :: rest))) : W p l e R s m args below meth c H locs cells slots Q (F0 m pc ls st) :=
  rn_call (W.runV (As := As) (rest := rest) (b := b) (C := y.cls) ⟨hx, hb, hml, hown, htb⟩ hM ⟨cB htb hy k1 k4 k5 hR, htb _ k2, htb _ k3⟩ (prV hP hK hc hq q0 he) rfl hn hls hst (l_room hroom) hdg hf) kk
/-- behind a method that writes: what it left, beside the rest -/
theorem aft_i {S : Type} {A0 : Nat → Prop} {H0 : Heap} {ws wc : va_W} {post : Int32 → S → Prop} {w1 : S → va_W} {a : Array Value}
    (hr : va_Run p l e R s m args below meth c H locs cells slots mc ms (F0 m pc ls st) rest (va_Qi post (mu_B D (va_A wc H.size) w1) (va_A wc H.size) a) (va_A wc H.size))
    (hP : va_P D vwCl ws H) (hD : va_D A0 ws) (hS : va_S A0 H0 H locs) (hA : ∀ q, H0.size ≤ q → A0 q) (isC isR : List Nat) {wr : va_W} (hC : isC.map (fun i => ws[i]?) = wc.map some) (hR : isR.map (fun i => ws[i]?) = wr.map some) (hn : va_nd isR = true) (hdis : ∀ i ∈ isR, i ∉ isC)
    (kk : ∀ (r : Int32) (u : S) (H1 : Heap) (locs1 : List Loc), post r u → va_P D vwCl (wr ++ w1 u) H1 → va_D A0 (wr ++ w1 u) → va_S A0 H0 H1 locs1 → W p l e R s m args below meth c H1 locs1 (cells + mc) (slots + ms) Q (F0 m (pc + 3) ls (.int r :: rest))) : W p l e R s m args below meth c H locs cells slots Q (F0 m pc ls st) := by
  have hFc := va_free (wc := wc) hD hS hA isC hC
  refine va_calli hr hS (fun q _ h => hFc q h) hFc (fun r u t H1 locs1 ht hvm hw hB hz1 hk1 hS => ?_)
  obtain ⟨hP1, hD1⟩ := hB
  rw [ht] at hP1
  obtain ⟨hP, hD⟩ := va_join hP hD isC isR hC hR hn hdis hk1 hFc hP1 hD1
  exact kk r u H1 locs1 hw hP hD hS
theorem aft_v {S : Type} {A0 : Nat → Prop} {H0 : Heap} {ws wc : va_W} {post : S → Prop} {w1 : S → va_W} {a : Array Value}
    (hr : va_Run p l e R s m args below meth c H locs cells slots mc ms (F0 m pc ls st) rest (va_Qv post (mu_B D (va_A wc H.size) w1) (va_A wc H.size) a) (va_A wc H.size))
    (hP : va_P D vwCl ws H) (hD : va_D A0 ws) (hS : va_S A0 H0 H locs) (hA : ∀ q, H0.size ≤ q → A0 q) (isC isR : List Nat) {wr : va_W} (hC : isC.map (fun i => ws[i]?) = wc.map some) (hR : isR.map (fun i => ws[i]?) = wr.map some) (hn : va_nd isR = true) (hdis : ∀ i ∈ isR, i ∉ isC)
    (kk : ∀ (u : S) (H1 : Heap) (locs1 : List Loc), post u → va_P D vwCl (wr ++ w1 u) H1 → va_D A0 (wr ++ w1 u) → va_S A0 H0 H1 locs1 → W p l e R s m args below meth c H1 locs1 (cells + mc) (slots + ms) Q (F0 m (pc + 3) ls rest)) : W p l e R s m args below meth c H locs cells slots Q (F0 m pc ls st) := by
  have hFc := va_free (wc := wc) hD hS hA isC hC
  refine va_callv hr hS (fun q _ h => hFc q h) hFc (fun u t H1 locs1 ht hvm hw hB hz1 hk1 hS => ?_)
  obtain ⟨hP1, hD1⟩ := hB
  rw [ht] at hP1
  obtain ⟨hP, hD⟩ := va_join hP hD isC isR hC hR hn hdis hk1 hFc hP1 hD1
  exact kk u H1 locs1 hw hP hD hS
/-- the runs of methods that write: of an object; a constructor (plain, of a nest mate) -/
theorem runMV {b : Nat} {As : List Value} {wc : va_W} {A0 : Nat → Prop} {Qc : Array Value → State → Outcome → State → Prop} (hx : p.tables.exec = Jvm.exec) (hb : c.code = cc) (hml : c.maxLocals = nL) (hown : s.vm.findClass own = some m.cls) (htb : ∀ w ∈ tb, w.before args s = true) (hK : KX D E s)
    (hM : Met l y (wl y bytes maxL ret) (RM d mc ms) (mu_P D E (.ref b :: As) wc H.size) Qc mc ms (va_A wc H.size)) (hy : yOk y n)
    (k1 : Cond.methodLink own idx y ∈ tb) (k2 : Cond.instanceMethod y ∈ tb) (k3 : Cond.selects y.cls y y ∈ tb) (k4 : Cond.initialized y.cls ∈ tb) (k5 : Cond.code y bytes maxL ret ∈ tb)
    (hR : d + 1 ≤ R.frames ∧ 8 + (maxL + 11) + 40 * d ≤ R.locals) (hf : cells + mc ≤ R.cells ∧ slots + ms ≤ R.slots) (hls : ls.size = nL) (hroom : (rest.map fun v => v.category).sum ≤ 8) (hn : As.length = n) (hst : st = As.reverse ++ .ref b :: rest) (hdg : decode cc pc = .ok (.invokevirtual idx, 3))
    (hP : va_P D vwCl wc H) (hD : va_D A0 wc) {ci : Nat} {q : vw_C} {fs : List Value} (hc : vwCl[ci]? = some q) (hq : q.1 = y.cls) (q0 : Nat) (he : wc[q0]? = some (b, .inr (ci, fs))) :
    va_Run p l e R s m args below meth c H locs cells slots mc ms (F0 m pc ls st) rest (Qc (Value.ref b :: As).toArray) (va_A wc H.size) :=
  va_runV (As := As) (rest := rest) (b := b) (C := y.cls) ⟨hx, hb, hml, hown, htb⟩ hM ⟨cB htb hy k1 k4 k5 hR, htb _ k2, htb _ k3⟩ (pmV hP hD hK hc hq q0 he) rfl hn hls hst (l_room hroom) hdg hf
theorem runMI {b : Nat} {As : List Value} {wc : va_W} {A0 : Nat → Prop} {Qc : Array Value → State → Outcome → State → Prop} (hx : p.tables.exec = Jvm.exec) (hb : c.code = cc) (hml : c.maxLocals = nL) (hown : s.vm.findClass own = some m.cls) (htb : ∀ w ∈ tb, w.before args s = true) (hK : KX D E s)
    (hM : Met l y (wl y bytes maxL none) (RM d mc ms) (mu_P D E (.ref b :: As) wc H.size) Qc mc ms (va_A wc H.size)) (hy : yOk y n) (hi : y.name = "<init>")
    (k1 : Cond.methodLink own idx y ∈ tb) (k2 : Cond.instanceMethod y ∈ tb) (k4 : Cond.initialized y.cls ∈ tb) (k5 : Cond.code y bytes maxL none ∈ tb)
    (hR : d + 1 ≤ R.frames ∧ 8 + (maxL + 11) + 40 * d ≤ R.locals) (hf : cells + mc ≤ R.cells ∧ slots + ms ≤ R.slots) (hls : ls.size = nL) (hroom : (rest.map fun v => v.category).sum ≤ 8) (hn : As.length = n) (hst : st = As.reverse ++ .ref b :: rest) (hdg : decode cc pc = .ok (.invokespecial idx, 3))
    (hP : va_P D vwCl wc H) (hD : va_D A0 wc) :
    va_Run p l e R s m args below meth c H locs cells slots mc ms (F0 m pc ls st) rest (Qc (Value.ref b :: As).toArray) (va_A wc H.size) :=
  va_runI (As := As) (rest := rest) (b := b) ⟨hx, hb, hml, hown, htb⟩ hM ⟨cB htb hy k1 k4 k5 hR, hi, htb _ k2⟩ (pmS hP hD hK) rfl hn hls hst (l_room hroom) hdg hf
theorem runMN {host : String} {b : Nat} {As : List Value} {wc : va_W} {A0 : Nat → Prop} {Qc : Array Value → State → Outcome → State → Prop} (hx : p.tables.exec = Jvm.exec) (hb : c.code = cc) (hml : c.maxLocals = nL) (hown : s.vm.findClass own = some m.cls) (htb : ∀ w ∈ tb, w.before args s = true) (hK : KX D E s)
    (hM : Met l y (wl y bytes maxL none) (RM d mc ms) (mu_P D E (.ref b :: As) wc H.size) Qc mc ms (va_A wc H.size)) (hy : yOk y n) (hi : y.name = "<init>")
    (k1 : Cond.methodLinkNest own idx y host ∈ nestW) (k2 : Cond.instanceMethod y ∈ tb) (k4 : Cond.initialized y.cls ∈ tb) (k5 : Cond.code y bytes maxL none ∈ tb)
    (hR : d + 1 ≤ R.frames ∧ 8 + (maxL + 11) + 40 * d ≤ R.locals) (hf : cells + mc ≤ R.cells ∧ slots + ms ≤ R.slots) (hls : ls.size = nL) (hroom : (rest.map fun v => v.category).sum ≤ 8) (hn : As.length = n) (hst : st = As.reverse ++ .ref b :: rest) (hdg : decode cc pc = .ok (.invokespecial idx, 3))
    (hP : va_P D vwCl wc H) (hD : va_D A0 wc) :
    va_Run p l e R s m args below meth c H locs cells slots mc ms (F0 m pc ls st) rest (Qc (Value.ref b :: As).toArray) (va_A wc H.size) :=
  va_runIN (As := As) (rest := rest) (b := b) ⟨hx, hb, hml, hown, htb⟩ hM ⟨cN htb hy hK k1 k4 k5 hR, hi, htb _ k2⟩ (pmS hP hD hK) rfl hn hls hst (l_room hroom) hdg hf
end CALLS
/-! ===== array classes are one for each kind; contents that agree; ===== -/
theorem ka_i {D : va_G} {cl : List vw_C} {tys : List (ClassId × FieldType)} {s : State} {cA cB : ClassId} {ty : FieldType} (hty : ∀ C, ty ≠ .object C) (h : va_K D cl (tys ++ [(cA, ty)]) s) (k : Nat) (hk : tys[k]? = some (cB, ty)) : cA = cB := by
  have h1 := (h.2 tys.length (cA, ty) (by simp)).2
  have h2 := (h.2 k (cB, ty) (by rw [List.getElem?_append_left (List.getElem?_eq_some_iff.mp hk).1]; exact hk)).2
  cases ty <;> first | exact Option.some.inj (h1.symm.trans h2) | exact absurd rfl (hty _)
theorem ka_o {D : va_G} {cl : List vw_C} {tys : List (ClassId × FieldType)} {s : State} {cA cB : ClassId} {C : String} (h : va_K D cl (tys ++ [(cA, .object C)]) s) (k : Nat) (hk : tys[k]? = some (cB, .object C)) : cA = cB := by
  obtain ⟨_, _, _, _, _, h1⟩ := (h.2 tys.length (cA, .object C) (by simp)).2
  obtain ⟨_, _, _, _, _, h2⟩ := (h.2 k (cB, .object C) (by rw [List.getElem?_append_left (List.getElem?_eq_some_iff.mp hk).1]; exact hk)).2
  exact Option.some.inj (h1.symm.trans h2)
theorem arrV_ext {cA : ClassId} {n : Nat} {f g : Nat → Value} (h : ∀ j, j < n → f j = g j) : arrV cA n f = arrV cA n g := by
  unfold arrV
  have : (fun j : Fin n => f j.val) = (fun j : Fin n => g j.val) := funext fun j => h j.val j.isLt
  rw [this]
theorem re_i {cA : ClassId} {n : Nat} {f g : Nat → Int32} (h : ∀ j, j < n → f j = g j) : vp_cell cA (n, .inl f) = vp_cell cA (n, .inl g) := by
  rw [vp_cell_i, vp_cell_i]; exact arrV_ext (fun j hj => by rw [h j hj])
theorem re_q {cA : ClassId} {n : Nat} {f g : Nat → Option Nat} (h : ∀ j, j < n → f j = g j) : vp_cell cA (n, .inr (.inr (.inr (.inr f)))) = vp_cell cA (n, .inr (.inr (.inr (.inr g)))) := by
  rw [vp_cell_q, vp_cell_q]; exact arrV_ext (fun j hj => by rw [h j hj])
theorem re_P {D : va_G} {cl : List vw_C} {ws : va_W} {H : Heap} {a : Nat} {cA : ClassId} {x y : vp_A} (h : va_P D cl ws H) (k : Nat) (hk : ws[k]? = some (a, .inl (cA, x))) (he : vp_cell cA x = vp_cell cA y) : va_P D cl (ws.set k (a, .inl (cA, y))) H := by
  have hl := (List.getElem?_eq_some_iff.mp hk).1
  intro i q hi
  by_cases hik : i = k
  · subst hik
    rw [List.getElem?_set_self hl] at hi
    cases hi
    have h1 := h i _ hk
    show H[a]? = some (vp_cell cA y)
    rw [← he]; exact h1
  · rw [List.getElem?_set_ne (Ne.symm hik)] at hi
    exact h i q hi
/-- new arrays of ints, booleans, bytes -/
theorem nw_i {N : Nat} (cA : ClassId) : vp_cell cA (N, .inl (fun _ => 0)) = arrV cA N (fun _ => defaultValue .int) := rfl
theorem nw_z {N : Nat} (cA : ClassId) : vp_cell cA (N, .inl (fun _ => 0)) = arrV cA N (fun _ => defaultValue .boolean) := rfl
theorem nw_b {N : Nat} (cA : ClassId) : vp_cell cA (N, .inl (fun _ => 0)) = arrV cA N (fun _ => defaultValue .byte) := rfl
/-! ===== the context holds at the law's start ===== -/
theorem sr_0 : Cond.stringRef RX6 26 "" ∈ lw_tbl := lw_t 156 (by decide +kernel)
theorem sr_1 : Cond.stringRef RX8 182 "or and not abs days least most span gaps jump drift sum warm" ∈ lw_tbl := lw_t 585 (by decide +kernel)
theorem sr_2 : Cond.stringRef RX8 184 "or and not abs off doubt days which" ∈ lw_tbl := lw_t 586 (by decide +kernel)
theorem ao_0 : Cond.arrayOver (.object "SeaWatches$Watch") ∈ lw_tbl := lw_t 25 (by decide +kernel)
theorem ao_1 : Cond.arrayOver (.object "SeaWatches$Ship") ∈ lw_tbl := lw_t 27 (by decide +kernel)
/-! ===== for methods in any state ===== -/
theorem g_div {a b : Int32} {x y : Int} (ha : a.toInt = x) (hb : b.toInt = y) (h1 : 0 ≤ x) (h2 : 0 < y) : (a / b).toInt = x / y := by
  subst ha; subst hb
  have hi := i_hi a
  rw [Int32.toInt_div]
  have e : a.toInt.tdiv b.toInt = a.toInt / b.toInt := Int.tdiv_eq_ediv_of_nonneg h1
  rw [e]
  have h3 : 0 ≤ a.toInt / b.toInt := Int.ediv_nonneg h1 (Int.le_of_lt h2)
  have h4 : a.toInt / b.toInt ≤ a.toInt := Int.ediv_le_self _ h1
  exact i_bmod (by omega) (by omega)
theorem g_rem {a b : Int32} {x y : Int} (ha : a.toInt = x) (hb : b.toInt = y) (h1 : 0 ≤ x) (h2 : 0 < y) : (a - a / b * b).toInt = x % y := by
  have hd := g_div ha hb h1 h2
  subst ha; subst hb
  have hi := i_hi a
  have h3 : 0 ≤ a.toInt / b.toInt := Int.ediv_nonneg h1 (Int.le_of_lt h2)
  have h5 := Int.emod_add_mul_ediv a.toInt b.toInt
  have h6 := Int.emod_nonneg a.toInt (Int.ne_of_gt h2)
  have h7 : 0 ≤ b.toInt * (a.toInt / b.toInt) := Int.mul_nonneg (Int.le_of_lt h2) h3
  have hm : (a / b * b).toInt = a.toInt / b.toInt * b.toInt := by
    refine g_mul hd rfl ?_ ?_
    · rw [Int.mul_comm]; omega
    · rw [Int.mul_comm]; omega
  have e2 : a.toInt / b.toInt * b.toInt = b.toInt * (a.toInt / b.toInt) := Int.mul_comm _ _
  rw [g_sub rfl hm (by rw [e2]; omega) (by rw [e2]; omega), e2]
  omega
theorem g_ix {a : Int32} {x : Int} {n : Nat} (ha : a.toInt = x) (h1 : 0 ≤ x) (h2 : x < n) : a.toNatClampNeg < n := by
  subst ha
  have := i_clamp0 h1
  omega
theorem upd_r {f : Nat → Int32} {n i : Nat} {v : Int32} {lo hi : Int} (h : ∀ k : Nat, k < n → lo ≤ (f k).toInt ∧ (f k).toInt ≤ hi) (hv : lo ≤ v.toInt ∧ v.toInt ≤ hi) : ∀ k : Nat, k < n → lo ≤ (upd f i v k).toInt ∧ (upd f i v k).toInt ≤ hi := by
  intro k hk
  unfold upd
  split
  · exact hv
  · exact h k hk
theorem lc_eq {x y : Int64} (h : lg_cmp x y = 0) : x = y := by
  unfold lg_cmp at h
  split at h
  · exact absurd h (by decide)
  · split at h
    · assumption
    · exact absurd h (by decide)
theorem lc_ne {x y : Int64} (h : ¬ lg_cmp x y = 0) : ¬ x = y := by
  intro e
  subst e
  apply h
  unfold lg_cmp
  simp
def rl_Q (post : Int64 → Prop) : Array Value → State → Outcome → State → Prop := fun _ st oc t => ∃ r : Int64, oc = .returned (some (.long r)) ∧ post r ∧ t.heap = st.heap
def rv_Q : Array Value → State → Outcome → State → Prop := fun _ st oc t => oc = .returned none ∧ t.heap = st.heap
section CALLS2
variable {p : Program} {l : Launch} {e : Env} {R : Room} {s : State} {m : MethodId} {args : Array Value} {below : List Frame} {meth : Method} {c : Code} {H : Heap} {locs : List Loc} {cells slots : Nat} {Q : State → Prop}
variable {cc : ByteArray} {pc : Nat} {ls : Array Slot} {rest st : List Value} {D : va_G} {E : Nat → Nat}
variable {nL n idx d mc ms maxL : Nat} {own : String} {y : MethodName} {bytes : ByteArray} {ret : Option FieldType}
theorem rl_call {post : Int64 → Prop} {a : Array Value} (hr : CallRun p l e R s m args below meth c H locs cells slots 0 0 (F0 m pc ls st) rest (rl_Q post a) (fun _ => False))
    (kk : ∀ r : Int64, post r → W p l e R s m args below meth c H locs cells slots Q (F0 m (pc + 3) ls (.long r :: rest))) : W p l e R s m args below meth c H locs cells slots Q (F0 m pc ls st) := by
  intro T hT X
  obtain ⟨v, st₀, t, T', L, h0, X', hL, e1, ⟨r, hv, hp, hh⟩, st⟩ := hr T hT X
  cases hv
  obtain ⟨t2, a1, b1⟩ := kk r hp T' (by rw [e1, hh, h0]) (Stand.forget X' (fun q h => (hL q h).elim))
  exact ⟨t2, st t2 a1, b1⟩
theorem callLV (hx : p.tables.exec = Jvm.exec) (hb : c.code = cc) (hml : c.maxLocals = nL) (hown : s.vm.findClass own = some m.cls) (htb : ∀ w ∈ tb, w.before args s = true) (hK : KX D E s)
    {b : Nat} {As : List Value} {wc : va_W} {post : Int64 → Prop} (hM : Met l y (wl y bytes maxL ret) (RM d 0 0) (rd_P D E (.ref b :: As) wc) (rl_Q post) 0 0 (fun _ => False)) (hy : yOk y n)
    (k1 : Cond.methodLink own idx y ∈ tb) (k2 : Cond.instanceMethod y ∈ tb) (k3 : Cond.selects y.cls y y ∈ tb) (k4 : Cond.initialized y.cls ∈ tb) (k5 : Cond.code y bytes maxL ret ∈ tb)
    (hR : d + 1 ≤ R.frames ∧ 8 + (maxL + 11) + 40 * d ≤ R.locals) (hf : cells ≤ R.cells ∧ slots ≤ R.slots) (hls : ls.size = nL) (hroom : (rest.map fun v => v.category).sum ≤ 8) (hn : As.length = n) (hst : st = As.reverse ++ .ref b :: rest) (hdg : decode cc pc = .ok (.invokevirtual idx, 3))
    (hP : va_P D vwCl wc H) {ci : Nat} {q : vw_C} {fs : List Value} (hc : vwCl[ci]? = some q) (hq : q.1 = y.cls) (q0 : Nat) (he : wc[q0]? = some (b, .inr (ci, fs)))
    (kk : ∀ r : Int64, post r → W p l e R s m args below meth c H locs cells slots Q (F0 m (pc + 3) ls (.long r :: rest))) : W p l e R s m args below meth c H locs cells slots Q (F0 m pc ls st) :=
  rl_call (W.runV (As := As) (rest := rest) (b := b) (C := y.cls) ⟨hx, hb, hml, hown, htb⟩ hM ⟨cB htb hy k1 k4 k5 hR, htb _ k2, htb _ k3⟩ (prV hP hK hc hq q0 he) rfl hn hls hst (l_room hroom) hdg hf) kk
theorem callLS (hx : p.tables.exec = Jvm.exec) (hb : c.code = cc) (hml : c.maxLocals = nL) (hown : s.vm.findClass own = some m.cls) (htb : ∀ w ∈ tb, w.before args s = true) (hK : KX D E s)
    {As : List Value} {wc : va_W} {post : Int64 → Prop} (hM : Met l y (wl y bytes maxL ret) (RM d 0 0) (rd_P D E As wc) (rl_Q post) 0 0 (fun _ => False)) (hy : yOk y n)
    (k1 : Cond.methodLink own idx y ∈ tb) (k2 : Cond.static y ∈ tb) (k4 : Cond.initialized y.cls ∈ tb) (k5 : Cond.code y bytes maxL ret ∈ tb)
    (hR : d + 1 ≤ R.frames ∧ 8 + (maxL + 11) + 40 * d ≤ R.locals) (hf : cells ≤ R.cells ∧ slots ≤ R.slots) (hls : ls.size = nL) (hroom : (rest.map fun v => v.category).sum ≤ 8) (hn : As.length = n) (hst : st = As.reverse ++ rest) (hdg : decode cc pc = .ok (.invokestatic idx, 3))
    (hP : va_P D vwCl wc H)
    (kk : ∀ r : Int64, post r → W p l e R s m args below meth c H locs cells slots Q (F0 m (pc + 3) ls (.long r :: rest))) : W p l e R s m args below meth c H locs cells slots Q (F0 m pc ls st) :=
  rl_call (W.runS (As := As) (rest := rest) ⟨hx, hb, hml, hown, htb⟩ hM ⟨cB htb hy k1 k4 k5 hR, htb _ k2⟩ (prS hP hK) rfl hn hls hst (l_room hroom) hdg hf) kk
theorem aft_l {S : Type} {A0 : Nat → Prop} {H0 : Heap} {ws wc : va_W} {post : Int64 → S → Prop} {w1 : S → va_W} {a : Array Value}
    (hr : va_Run p l e R s m args below meth c H locs cells slots mc ms (F0 m pc ls st) rest (va_Ql post (mu_B D (va_A wc H.size) w1) (va_A wc H.size) a) (va_A wc H.size))
    (hP : va_P D vwCl ws H) (hD : va_D A0 ws) (hS : va_S A0 H0 H locs) (hA : ∀ q, H0.size ≤ q → A0 q) (isC isR : List Nat) {wr : va_W} (hC : isC.map (fun i => ws[i]?) = wc.map some) (hR : isR.map (fun i => ws[i]?) = wr.map some) (hn : va_nd isR = true) (hdis : ∀ i ∈ isR, i ∉ isC)
    (kk : ∀ (r : Int64) (u : S) (H1 : Heap) (locs1 : List Loc), post r u → va_P D vwCl (wr ++ w1 u) H1 → va_D A0 (wr ++ w1 u) → va_S A0 H0 H1 locs1 → W p l e R s m args below meth c H1 locs1 (cells + mc) (slots + ms) Q (F0 m (pc + 3) ls (.long r :: rest))) : W p l e R s m args below meth c H locs cells slots Q (F0 m pc ls st) := by
  have hFc := va_free (wc := wc) hD hS hA isC hC
  refine va_calll hr hS (fun q _ h => hFc q h) hFc (fun r u t H1 locs1 ht hvm hw hB hz1 hk1 hS => ?_)
  obtain ⟨hP1, hD1⟩ := hB
  rw [ht] at hP1
  obtain ⟨hP, hD⟩ := va_join hP hD isC isR hC hR hn hdis hk1 hFc hP1 hD1
  exact kk r u H1 locs1 hw hP hD hS
end CALLS2
