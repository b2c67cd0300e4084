section CALLS3
variable {p : Program} {l : Launch} {e : Env} {R : Room} {s : State} {m : MethodId} {args : Array Value} {below : List Frame} {meth : Method} {c : Code} {H : Heap} {locs : List Loc} {cells slots : Nat} {Q : State → Prop}
variable {cc : ByteArray} {pc : Nat} {ls : Array Slot} {rest st : List Value} {D : va_G} {E : Nat → Nat}
variable {nL n idx d mc ms maxL : Nat} {own : String} {y : MethodName} {bytes : ByteArray} {ret : Option FieldType}
/-- a reading static method of a nest mate -/
theorem callRSN {host : String} (hx : p.tables.exec = Jvm.exec) (hb : c.code = cc) (hml : c.maxLocals = nL) (hown : s.vm.findClass own = some m.cls) (htb : ∀ w ∈ tb, w.before args s = true) (hK : KX D E s)
    {As : List Value} {wc : va_W} {post : Int32 → Prop} (hM : Met l y (wl y bytes maxL ret) (RM d 0 0) (rd_P D E As wc) (rd_Q post) 0 0 (fun _ => False)) (hy : yOk y n)
    (k1 : Cond.methodLinkNest own idx y host ∈ nestW) (k2 : Cond.static y ∈ tb) (k4 : Cond.initialized y.cls ∈ tb) (k5 : Cond.code y bytes maxL ret ∈ tb)
    (hR : d + 1 ≤ R.frames ∧ 8 + (maxL + 11) + 40 * d ≤ R.locals) (hf : cells ≤ R.cells ∧ slots ≤ R.slots) (hls : ls.size = nL) (hroom : (rest.map fun v => v.category).sum ≤ 8) (hn : As.length = n) (hst : st = As.reverse ++ rest) (hdg : decode cc pc = .ok (.invokestatic idx, 3))
    (hP : va_P D vwCl wc H)
    (kk : ∀ r : Int32, post r → W p l e R s m args below meth c H locs cells slots Q (F0 m (pc + 3) ls (.int r :: rest))) : W p l e R s m args below meth c H locs cells slots Q (F0 m pc ls st) := by
  refine rd_call (a := As.toArray) (fun T hT X => ?_) kk
  obtain ⟨v, st₀, t, T', L, h0, X', hL, e1, -, hq, hg⟩ := va_runSN (As := As) (rest := rest) (g := F0 m pc ls st) ⟨hx, hb, hml, hown, htb⟩ hM ⟨cN htb hy hK k1 k4 k5 hR, htb _ k2, trivial⟩ (prS hP hK) rfl hn hls hst (l_room hroom) hdg hf T hT X
  exact ⟨v, st₀, t, T', L, h0, X', hL, e1, hq, hg⟩
end CALLS3
theorem g_max {a b z : Int32} {x y : Int} (ha : a.toInt = x) (hb : b.toInt = y) (hz : z = if a < b then b else a) : x ≤ z.toInt ∧ y ≤ z.toInt ∧ (z.toInt = x ∨ z.toInt = y) := by
  subst ha; subst hb; subst hz
  split
  · rename_i h; rw [i_lt] at h; omega
  · rename_i h; rw [i_lt] at h; omega
theorem g_min {a b z : Int32} {x y : Int} (ha : a.toInt = x) (hb : b.toInt = y) (hz : z = if b < a then b else a) : z.toInt ≤ x ∧ z.toInt ≤ y ∧ (z.toInt = x ∨ z.toInt = y) := by
  subst ha; subst hb; subst hz
  split
  · rename_i h; rw [i_lt] at h; omega
  · rename_i h; rw [i_lt] at h; omega
