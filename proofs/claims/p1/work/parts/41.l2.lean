set_option maxHeartbeats 4000000 in
set_option maxRecDepth 100000 in
theorem law_0 {p : Program} {l : Launch} {e : Env} {s : State} {m : MethodId} {below : List Frame} {meth : Method} {c : Code} {D : va_G} {E : Nat → Nat} {b : Nat} {xs : Nat → Int32} {qx : Nat} {ax : Nat → Nat} {bx : Nat → Nat → Nat} {fw : Nat → Int32} {qm : Nat} {cm : Nat → Nat} {fm : Nat → Int32} {H : Heap} {locs : List Loc} {ls : Array Slot} (hx : p.tables.exec = Jvm.exec) (hb : c.code = code) (hr : meth.sig.returnType = ret) (hml : c.maxLocals = 4) (hown : s.vm.findClass R_law = some m.cls) (htb : ∀ w ∈ tb, w.before #[Value.ref b] s = true) (hK : KX D E s) (hX : va_X b 6 xs s s.heap) (hbl : b < s.heap.size) (hlocks : meth.locks = false) (hP : va_P D vwCl (LW E qx ax bx fw qm cm fm) H) (hD : va_D (fun q : Nat => s.heap.size ≤ q) (LW E qx ax bx fw qm cm fm)) (hS : va_S (fun q : Nat => s.heap.size ≤ q) s.heap H locs) (hl : lv_has ls 4 [(3, .int 0), (2, .ref qm), (1, .ref qx), (0, .ref b)]) : W p l e room_1 s m #[Value.ref b] below meth c H locs 123 44666 (lw_Z below #[Value.ref b] s) (F0 m 192 ls []) := by
  have hA : ∀ q : Nat, s.heap.size ≤ q → (fun q : Nat => s.heap.size ≤ q) q := fun _ h => h
  have hbA : ¬ (fun q : Nat => s.heap.size ≤ q) b := Nat.not_le.mpr hbl
  refine lv_aload_n hx hb dL_law_192 rfl (lv_at hl 2 rfl) ?_
  refine lv_aload_n hx hb dL_law_193 rfl (lv_at hl 3 rfl) ?_
  refine lv_iload_n hx hb dL_law_194 rfl (lv_at hl 0 rfl) ?_
  refine lv_iconst (v := 1) hx hb dL_law_195 (by decide) ?_
  refine lv_iadd hx hb dL_law_196 ?_
  refine W_top (y := .int 1) (by decide) ?_
  refine va_sld hx hb hX hbl hbA hS (g_in t_1 (by decide) (by decide)) dL_law_197 ?_
  refine W_top (y := .int (xs 1)) (congrArg (fun n => Value.int (xs n)) (by decide : (1 : Int32).toNatClampNeg = 1)) ?_
  have hPc := hP.sub (ws' := [(qx, .inr (8, xF ax 0))]) [0] rfl
  have hDc := hD.sub (ws' := [(qx, .inr (8, xF ax 0))]) [0] (by decide) rfl
  refine aft_i (runMV (rest := []) (As := [.int (xs 1)]) hx hb hml hown htb hK (c_X8_days l D E qx ax (xs 1) _ ) ok_X8_days k_315 k_316 k_317 k_1 k_318 ⟨(Nat.le_of_ble_eq_true rfl), (Nat.le_of_ble_eq_true rfl)⟩ ⟨(Nat.le_of_ble_eq_true rfl), (Nat.le_of_ble_eq_true rfl)⟩ hl.1 (Nat.le_of_ble_eq_true rfl) rfl rfl dL_law_198 hPc hDc rfl rfl 0 rfl) hP hD hS hA [0] [1, 2, 3, 4, 5, 6, 7, 8, 9, 10, 11, 12, 13, 14, 15, 16, 17, 18, 19, 20, 21, 22, 23, 24, 25, 26, 27, 28, 29, 30, 31, 32, 33, 34, 35, 36, 37, 38, 39] (wr := [((ax 0), .inl (E 0, 400, .inl fw)), ((ax 1), .inl (E 0, 16, .inl (fun _ => -5))), ((ax 2), .inl (E 0, 16, .inl (fun _ => 0))), ((ax 3), .inl (E 3, 16, .inr (.inr (.inr (.inr (fun _ => none)))))), ((ax 4), .inl (E 4, 5, .inr (.inr (.inr (.inr (fun j => some (ax (13 + j)))))))), ((ax 13), .inr (5, sF (bx 0))), ((ax 14), .inr (5, sF (bx 1))), ((ax 15), .inr (5, sF (bx 2))), ((ax 16), .inr (5, sF (bx 3))), ((ax 17), .inr (5, sF (bx 4))), ((ax 6), .inr (2, [.ref (ax 18), .ref (ax 19), .ref (ax 20), .ref (ax 21), .ref (ax 22), .int 0])), ((ax 18), .inl (E 0, 60, .inl (fun _ => 0))), ((ax 19), .inl (E 0, 60, .inl (fun _ => 0))), ((ax 20), .inl (E 0, 60, .inl (fun _ => 0))), ((ax 21), .inl (E 0, 60, .inl (fun _ => 0))), ((ax 22), .inl (E 0, 60, .inl (fun _ => 0))), ((ax 9), .inr (6, [.ref (ax 23), .int 0, .ref (ax 24), .ref (E 5), .int 0, .int 0, .int 0, .int 0])), ((ax 23), .inl (E 0, 120, .inl (fun _ => 0))), ((ax 24), .inr (4, [.ref (ax 25), .ref (ax 26), .ref (ax 27), .int 0])), ((ax 10), .inr (0, [.ref (ax 28), .ref (ax 29), .ref (ax 30), .ref (ax 31), .ref (ax 32), .int 0, .int 0, .int 0, .int 0])), ((ax 28), .inl (E 0, 9, .inl (fun _ => 0))), (qm, .inr (9, mF cm 0 0 0 0 0 0 0 0 0)), ((cm 2), .inl (E 0, 400, .inl fm)), ((cm 3), .inl (E 0, 16, .inl (fun _ => -5))), ((cm 4), .inl (E 0, 16, .inl (fun _ => 0))), ((cm 5), .inl (E 1, 6400, .inl (fun _ => 0))), ((cm 8), .inl (E 1, 6400, .inl (fun _ => 0))), ((cm 9), .inl (E 1, 6400, .inl (fun _ => 0))), ((cm 10), .inl (E 0, 6400, .inl (fun _ => 0))), ((cm 12), .inl (E 0, 60, .inl (fun _ => 0))), ((cm 13), .inl (E 0, 60, .inl (fun _ => 0))), ((cm 14), .inl (E 0, 60, .inl (fun _ => 0))), ((cm 15), .inl (E 0, 60, .inl (fun _ => 0))), ((cm 16), .inl (E 0, 60, .inl (fun _ => 0))), ((cm 32), .inl (E 2, 120, .inl (fun _ => 0))), ((cm 47), .inl (E 0, 5, .inl (fun _ => 0))), ((cm 55), .inl (E 0, 5, .inl (fun _ => 0))), ((cm 58), .inl (E 0, 3, .inl (fun _ => 0))), ((cm 62), .inl (E 0, 9, .inl (fun _ => 0)))]) rfl rfl (by decide) (by decide) (fun r_3 u_1 H locs hw_2 hP hD hS => ?_)
  clear hPc hDc
  have hP : va_P D vwCl [((ax 0), .inl (E 0, 400, .inl fw)), ((ax 1), .inl (E 0, 16, .inl (fun _ => -5))), ((ax 2), .inl (E 0, 16, .inl (fun _ => 0))), ((ax 3), .inl (E 3, 16, .inr (.inr (.inr (.inr (fun _ => none)))))), ((ax 4), .inl (E 4, 5, .inr (.inr (.inr (.inr (fun j => some (ax (13 + j)))))))), ((ax 13), .inr (5, sF (bx 0))), ((ax 14), .inr (5, sF (bx 1))), ((ax 15), .inr (5, sF (bx 2))), ((ax 16), .inr (5, sF (bx 3))), ((ax 17), .inr (5, sF (bx 4))), ((ax 6), .inr (2, [.ref (ax 18), .ref (ax 19), .ref (ax 20), .ref (ax 21), .ref (ax 22), .int 0])), ((ax 18), .inl (E 0, 60, .inl (fun _ => 0))), ((ax 19), .inl (E 0, 60, .inl (fun _ => 0))), ((ax 20), .inl (E 0, 60, .inl (fun _ => 0))), ((ax 21), .inl (E 0, 60, .inl (fun _ => 0))), ((ax 22), .inl (E 0, 60, .inl (fun _ => 0))), ((ax 9), .inr (6, [.ref (ax 23), .int 0, .ref (ax 24), .ref (E 5), .int 0, .int 0, .int 0, .int 0])), ((ax 23), .inl (E 0, 120, .inl (fun _ => 0))), ((ax 24), .inr (4, [.ref (ax 25), .ref (ax 26), .ref (ax 27), .int 0])), ((ax 10), .inr (0, [.ref (ax 28), .ref (ax 29), .ref (ax 30), .ref (ax 31), .ref (ax 32), .int 0, .int 0, .int 0, .int 0])), ((ax 28), .inl (E 0, 9, .inl (fun _ => 0))), (qm, .inr (9, mF cm 0 0 0 0 0 0 0 0 0)), ((cm 2), .inl (E 0, 400, .inl fm)), ((cm 3), .inl (E 0, 16, .inl (fun _ => -5))), ((cm 4), .inl (E 0, 16, .inl (fun _ => 0))), ((cm 5), .inl (E 1, 6400, .inl (fun _ => 0))), ((cm 8), .inl (E 1, 6400, .inl (fun _ => 0))), ((cm 9), .inl (E 1, 6400, .inl (fun _ => 0))), ((cm 10), .inl (E 0, 6400, .inl (fun _ => 0))), ((cm 12), .inl (E 0, 60, .inl (fun _ => 0))), ((cm 13), .inl (E 0, 60, .inl (fun _ => 0))), ((cm 14), .inl (E 0, 60, .inl (fun _ => 0))), ((cm 15), .inl (E 0, 60, .inl (fun _ => 0))), ((cm 16), .inl (E 0, 60, .inl (fun _ => 0))), ((cm 32), .inl (E 2, 120, .inl (fun _ => 0))), ((cm 47), .inl (E 0, 5, .inl (fun _ => 0))), ((cm 55), .inl (E 0, 5, .inl (fun _ => 0))), ((cm 58), .inl (E 0, 3, .inl (fun _ => 0))), ((cm 62), .inl (E 0, 9, .inl (fun _ => 0)))] H := hP
  have hD : va_D (fun q : Nat => s.heap.size ≤ q) [((ax 0), .inl (E 0, 400, .inl fw)), ((ax 1), .inl (E 0, 16, .inl (fun _ => -5))), ((ax 2), .inl (E 0, 16, .inl (fun _ => 0))), ((ax 3), .inl (E 3, 16, .inr (.inr (.inr (.inr (fun _ => none)))))), ((ax 4), .inl (E 4, 5, .inr (.inr (.inr (.inr (fun j => some (ax (13 + j)))))))), ((ax 13), .inr (5, sF (bx 0))), ((ax 14), .inr (5, sF (bx 1))), ((ax 15), .inr (5, sF (bx 2))), ((ax 16), .inr (5, sF (bx 3))), ((ax 17), .inr (5, sF (bx 4))), ((ax 6), .inr (2, [.ref (ax 18), .ref (ax 19), .ref (ax 20), .ref (ax 21), .ref (ax 22), .int 0])), ((ax 18), .inl (E 0, 60, .inl (fun _ => 0))), ((ax 19), .inl (E 0, 60, .inl (fun _ => 0))), ((ax 20), .inl (E 0, 60, .inl (fun _ => 0))), ((ax 21), .inl (E 0, 60, .inl (fun _ => 0))), ((ax 22), .inl (E 0, 60, .inl (fun _ => 0))), ((ax 9), .inr (6, [.ref (ax 23), .int 0, .ref (ax 24), .ref (E 5), .int 0, .int 0, .int 0, .int 0])), ((ax 23), .inl (E 0, 120, .inl (fun _ => 0))), ((ax 24), .inr (4, [.ref (ax 25), .ref (ax 26), .ref (ax 27), .int 0])), ((ax 10), .inr (0, [.ref (ax 28), .ref (ax 29), .ref (ax 30), .ref (ax 31), .ref (ax 32), .int 0, .int 0, .int 0, .int 0])), ((ax 28), .inl (E 0, 9, .inl (fun _ => 0))), (qm, .inr (9, mF cm 0 0 0 0 0 0 0 0 0)), ((cm 2), .inl (E 0, 400, .inl fm)), ((cm 3), .inl (E 0, 16, .inl (fun _ => -5))), ((cm 4), .inl (E 0, 16, .inl (fun _ => 0))), ((cm 5), .inl (E 1, 6400, .inl (fun _ => 0))), ((cm 8), .inl (E 1, 6400, .inl (fun _ => 0))), ((cm 9), .inl (E 1, 6400, .inl (fun _ => 0))), ((cm 10), .inl (E 0, 6400, .inl (fun _ => 0))), ((cm 12), .inl (E 0, 60, .inl (fun _ => 0))), ((cm 13), .inl (E 0, 60, .inl (fun _ => 0))), ((cm 14), .inl (E 0, 60, .inl (fun _ => 0))), ((cm 15), .inl (E 0, 60, .inl (fun _ => 0))), ((cm 16), .inl (E 0, 60, .inl (fun _ => 0))), ((cm 32), .inl (E 2, 120, .inl (fun _ => 0))), ((cm 47), .inl (E 0, 5, .inl (fun _ => 0))), ((cm 55), .inl (E 0, 5, .inl (fun _ => 0))), ((cm 58), .inl (E 0, 3, .inl (fun _ => 0))), ((cm 62), .inl (E 0, 9, .inl (fun _ => 0)))] := hD
  rcases hw_2 with ⟨hr_3, hw_2⟩ | ⟨hr_3, hw_2⟩
  ·
    refine W_top (y := .int (xs 1)) (by rw [hr_3]) ?_
    refine lv_aload_n hx hb dL_law_201 rfl (lv_at hl 1 rfl) ?_
    refine lv_aload_n hx hb dL_law_202 rfl (lv_at hl 3 rfl) ?_
    refine lv_iload_n hx hb dL_law_203 rfl (lv_at hl 0 rfl) ?_
    refine lv_iconst (v := 1) hx hb dL_law_204 (by decide) ?_
    refine lv_iadd hx hb dL_law_205 ?_
    refine W_top (y := .int 1) (by decide) ?_
    refine va_sld hx hb hX hbl hbA hS (g_in t_1 (by decide) (by decide)) dL_law_206 ?_
    refine W_top (y := .int (xs 1)) (congrArg (fun n => Value.int (xs n)) (by decide : (1 : Int32).toNatClampNeg = 1)) ?_
    have hPc := hP.sub (ws' := [(qm, .inr (9, mF cm 0 0 0 0 0 0 0 0 0)), ((cm 10), .inl (E 0, 6400, .inl (fun _ => 0)))]) [21, 28] rfl
    have hDc := hD.sub (ws' := [(qm, .inr (9, mF cm 0 0 0 0 0 0 0 0 0)), ((cm 10), .inl (E 0, 6400, .inl (fun _ => 0)))]) [21, 28] (by decide) rfl
    refine aft_i (runMV (rest := [.int (xs 1)]) (As := [.int (xs 1)]) hx hb hml hown htb hK (c_X9_days l D E qm cm (xs 1) _ ) ok_X9_days k_1164 k_1165 k_1166 k_9 k_1167 ⟨(Nat.le_of_ble_eq_true rfl), (Nat.le_of_ble_eq_true rfl)⟩ ⟨(Nat.le_of_ble_eq_true rfl), (Nat.le_of_ble_eq_true rfl)⟩ hl.1 (Nat.le_of_ble_eq_true rfl) rfl rfl dL_law_207 hPc hDc rfl rfl 0 rfl) hP hD hS hA [21, 28] [0, 1, 2, 3, 4, 5, 6, 7, 8, 9, 10, 11, 12, 13, 14, 15, 16, 17, 18, 19, 20, 22, 23, 24, 25, 26, 27, 29, 30, 31, 32, 33, 34, 35, 36, 37, 38] (wr := [((ax 0), .inl (E 0, 400, .inl fw)), ((ax 1), .inl (E 0, 16, .inl (fun _ => -5))), ((ax 2), .inl (E 0, 16, .inl (fun _ => 0))), ((ax 3), .inl (E 3, 16, .inr (.inr (.inr (.inr (fun _ => none)))))), ((ax 4), .inl (E 4, 5, .inr (.inr (.inr (.inr (fun j => some (ax (13 + j)))))))), ((ax 13), .inr (5, sF (bx 0))), ((ax 14), .inr (5, sF (bx 1))), ((ax 15), .inr (5, sF (bx 2))), ((ax 16), .inr (5, sF (bx 3))), ((ax 17), .inr (5, sF (bx 4))), ((ax 6), .inr (2, [.ref (ax 18), .ref (ax 19), .ref (ax 20), .ref (ax 21), .ref (ax 22), .int 0])), ((ax 18), .inl (E 0, 60, .inl (fun _ => 0))), ((ax 19), .inl (E 0, 60, .inl (fun _ => 0))), ((ax 20), .inl (E 0, 60, .inl (fun _ => 0))), ((ax 21), .inl (E 0, 60, .inl (fun _ => 0))), ((ax 22), .inl (E 0, 60, .inl (fun _ => 0))), ((ax 9), .inr (6, [.ref (ax 23), .int 0, .ref (ax 24), .ref (E 5), .int 0, .int 0, .int 0, .int 0])), ((ax 23), .inl (E 0, 120, .inl (fun _ => 0))), ((ax 24), .inr (4, [.ref (ax 25), .ref (ax 26), .ref (ax 27), .int 0])), ((ax 10), .inr (0, [.ref (ax 28), .ref (ax 29), .ref (ax 30), .ref (ax 31), .ref (ax 32), .int 0, .int 0, .int 0, .int 0])), ((ax 28), .inl (E 0, 9, .inl (fun _ => 0))), ((cm 2), .inl (E 0, 400, .inl fm)), ((cm 3), .inl (E 0, 16, .inl (fun _ => -5))), ((cm 4), .inl (E 0, 16, .inl (fun _ => 0))), ((cm 5), .inl (E 1, 6400, .inl (fun _ => 0))), ((cm 8), .inl (E 1, 6400, .inl (fun _ => 0))), ((cm 9), .inl (E 1, 6400, .inl (fun _ => 0))), ((cm 12), .inl (E 0, 60, .inl (fun _ => 0))), ((cm 13), .inl (E 0, 60, .inl (fun _ => 0))), ((cm 14), .inl (E 0, 60, .inl (fun _ => 0))), ((cm 15), .inl (E 0, 60, .inl (fun _ => 0))), ((cm 16), .inl (E 0, 60, .inl (fun _ => 0))), ((cm 32), .inl (E 2, 120, .inl (fun _ => 0))), ((cm 47), .inl (E 0, 5, .inl (fun _ => 0))), ((cm 55), .inl (E 0, 5, .inl (fun _ => 0))), ((cm 58), .inl (E 0, 3, .inl (fun _ => 0))), ((cm 62), .inl (E 0, 9, .inl (fun _ => 0)))]) rfl rfl (by decide) (by decide) (fun r_6 u_4 H locs hw_5 hP hD hS => ?_)
    clear hPc hDc
    have hP : va_P D vwCl [((ax 0), .inl (E 0, 400, .inl fw)), ((ax 1), .inl (E 0, 16, .inl (fun _ => -5))), ((ax 2), .inl (E 0, 16, .inl (fun _ => 0))), ((ax 3), .inl (E 3, 16, .inr (.inr (.inr (.inr (fun _ => none)))))), ((ax 4), .inl (E 4, 5, .inr (.inr (.inr (.inr (fun j => some (ax (13 + j)))))))), ((ax 13), .inr (5, sF (bx 0))), ((ax 14), .inr (5, sF (bx 1))), ((ax 15), .inr (5, sF (bx 2))), ((ax 16), .inr (5, sF (bx 3))), ((ax 17), .inr (5, sF (bx 4))), ((ax 6), .inr (2, [.ref (ax 18), .ref (ax 19), .ref (ax 20), .ref (ax 21), .ref (ax 22), .int 0])), ((ax 18), .inl (E 0, 60, .inl (fun _ => 0))), ((ax 19), .inl (E 0, 60, .inl (fun _ => 0))), ((ax 20), .inl (E 0, 60, .inl (fun _ => 0))), ((ax 21), .inl (E 0, 60, .inl (fun _ => 0))), ((ax 22), .inl (E 0, 60, .inl (fun _ => 0))), ((ax 9), .inr (6, [.ref (ax 23), .int 0, .ref (ax 24), .ref (E 5), .int 0, .int 0, .int 0, .int 0])), ((ax 23), .inl (E 0, 120, .inl (fun _ => 0))), ((ax 24), .inr (4, [.ref (ax 25), .ref (ax 26), .ref (ax 27), .int 0])), ((ax 10), .inr (0, [.ref (ax 28), .ref (ax 29), .ref (ax 30), .ref (ax 31), .ref (ax 32), .int 0, .int 0, .int 0, .int 0])), ((ax 28), .inl (E 0, 9, .inl (fun _ => 0))), ((cm 2), .inl (E 0, 400, .inl fm)), ((cm 3), .inl (E 0, 16, .inl (fun _ => -5))), ((cm 4), .inl (E 0, 16, .inl (fun _ => 0))), ((cm 5), .inl (E 1, 6400, .inl (fun _ => 0))), ((cm 8), .inl (E 1, 6400, .inl (fun _ => 0))), ((cm 9), .inl (E 1, 6400, .inl (fun _ => 0))), ((cm 12), .inl (E 0, 60, .inl (fun _ => 0))), ((cm 13), .inl (E 0, 60, .inl (fun _ => 0))), ((cm 14), .inl (E 0, 60, .inl (fun _ => 0))), ((cm 15), .inl (E 0, 60, .inl (fun _ => 0))), ((cm 16), .inl (E 0, 60, .inl (fun _ => 0))), ((cm 32), .inl (E 2, 120, .inl (fun _ => 0))), ((cm 47), .inl (E 0, 5, .inl (fun _ => 0))), ((cm 55), .inl (E 0, 5, .inl (fun _ => 0))), ((cm 58), .inl (E 0, 3, .inl (fun _ => 0))), ((cm 62), .inl (E 0, 9, .inl (fun _ => 0)))] H := hP
    have hD : va_D (fun q : Nat => s.heap.size ≤ q) [((ax 0), .inl (E 0, 400, .inl fw)), ((ax 1), .inl (E 0, 16, .inl (fun _ => -5))), ((ax 2), .inl (E 0, 16, .inl (fun _ => 0))), ((ax 3), .inl (E 3, 16, .inr (.inr (.inr (.inr (fun _ => none)))))), ((ax 4), .inl (E 4, 5, .inr (.inr (.inr (.inr (fun j => some (ax (13 + j)))))))), ((ax 13), .inr (5, sF (bx 0))), ((ax 14), .inr (5, sF (bx 1))), ((ax 15), .inr (5, sF (bx 2))), ((ax 16), .inr (5, sF (bx 3))), ((ax 17), .inr (5, sF (bx 4))), ((ax 6), .inr (2, [.ref (ax 18), .ref (ax 19), .ref (ax 20), .ref (ax 21), .ref (ax 22), .int 0])), ((ax 18), .inl (E 0, 60, .inl (fun _ => 0))), ((ax 19), .inl (E 0, 60, .inl (fun _ => 0))), ((ax 20), .inl (E 0, 60, .inl (fun _ => 0))), ((ax 21), .inl (E 0, 60, .inl (fun _ => 0))), ((ax 22), .inl (E 0, 60, .inl (fun _ => 0))), ((ax 9), .inr (6, [.ref (ax 23), .int 0, .ref (ax 24), .ref (E 5), .int 0, .int 0, .int 0, .int 0])), ((ax 23), .inl (E 0, 120, .inl (fun _ => 0))), ((ax 24), .inr (4, [.ref (ax 25), .ref (ax 26), .ref (ax 27), .int 0])), ((ax 10), .inr (0, [.ref (ax 28), .ref (ax 29), .ref (ax 30), .ref (ax 31), .ref (ax 32), .int 0, .int 0, .int 0, .int 0])), ((ax 28), .inl (E 0, 9, .inl (fun _ => 0))), ((cm 2), .inl (E 0, 400, .inl fm)), ((cm 3), .inl (E 0, 16, .inl (fun _ => -5))), ((cm 4), .inl (E 0, 16, .inl (fun _ => 0))), ((cm 5), .inl (E 1, 6400, .inl (fun _ => 0))), ((cm 8), .inl (E 1, 6400, .inl (fun _ => 0))), ((cm 9), .inl (E 1, 6400, .inl (fun _ => 0))), ((cm 12), .inl (E 0, 60, .inl (fun _ => 0))), ((cm 13), .inl (E 0, 60, .inl (fun _ => 0))), ((cm 14), .inl (E 0, 60, .inl (fun _ => 0))), ((cm 15), .inl (E 0, 60, .inl (fun _ => 0))), ((cm 16), .inl (E 0, 60, .inl (fun _ => 0))), ((cm 32), .inl (E 2, 120, .inl (fun _ => 0))), ((cm 47), .inl (E 0, 5, .inl (fun _ => 0))), ((cm 55), .inl (E 0, 5, .inl (fun _ => 0))), ((cm 58), .inl (E 0, 3, .inl (fun _ => 0))), ((cm 62), .inl (E 0, 9, .inl (fun _ => 0)))] := hD
    rcases hw_5 with ⟨hr_6, hw_5⟩ | ⟨hr_6, hw_5⟩
    ·
      refine W_top (y := .int (xs 1)) (by rw [hr_6]) ?_
      refine lv_icmp_eq (tgt := 1550) hx hb dL_law_210 (by decide) (fun c_7 => ?_) (fun c_7 => absurd rfl c_7)
      exact law_end hx hb hr hml hown htb hX hbl hlocks hS (lv_sub hl [0, 3] rfl) (Nat.le_of_ble_eq_true rfl) (Nat.le_of_ble_eq_true rfl)
    ·
      refine W_top (y := .int (-1)) (by rw [hr_6]) ?_
      exfalso; omega
  ·
    refine W_top (y := .int (-1)) (by rw [hr_3]) ?_
    refine lv_aload_n hx hb dL_law_201 rfl (lv_at hl 1 rfl) ?_
    refine lv_aload_n hx hb dL_law_202 rfl (lv_at hl 3 rfl) ?_
    refine lv_iload_n hx hb dL_law_203 rfl (lv_at hl 0 rfl) ?_
    refine lv_iconst (v := 1) hx hb dL_law_204 (by decide) ?_
    refine lv_iadd hx hb dL_law_205 ?_
    refine W_top (y := .int 1) (by decide) ?_
    refine va_sld hx hb hX hbl hbA hS (g_in t_1 (by decide) (by decide)) dL_law_206 ?_
    refine W_top (y := .int (xs 1)) (congrArg (fun n => Value.int (xs n)) (by decide : (1 : Int32).toNatClampNeg = 1)) ?_
    have hPc := hP.sub (ws' := [(qm, .inr (9, mF cm 0 0 0 0 0 0 0 0 0)), ((cm 10), .inl (E 0, 6400, .inl (fun _ => 0)))]) [21, 28] rfl
    have hDc := hD.sub (ws' := [(qm, .inr (9, mF cm 0 0 0 0 0 0 0 0 0)), ((cm 10), .inl (E 0, 6400, .inl (fun _ => 0)))]) [21, 28] (by decide) rfl
    refine aft_i (runMV (rest := [.int (-1)]) (As := [.int (xs 1)]) hx hb hml hown htb hK (c_X9_days l D E qm cm (xs 1) _ ) ok_X9_days k_1164 k_1165 k_1166 k_9 k_1167 ⟨(Nat.le_of_ble_eq_true rfl), (Nat.le_of_ble_eq_true rfl)⟩ ⟨(Nat.le_of_ble_eq_true rfl), (Nat.le_of_ble_eq_true rfl)⟩ hl.1 (Nat.le_of_ble_eq_true rfl) rfl rfl dL_law_207 hPc hDc rfl rfl 0 rfl) hP hD hS hA [21, 28] [0, 1, 2, 3, 4, 5, 6, 7, 8, 9, 10, 11, 12, 13, 14, 15, 16, 17, 18, 19, 20, 22, 23, 24, 25, 26, 27, 29, 30, 31, 32, 33, 34, 35, 36, 37, 38] (wr := [((ax 0), .inl (E 0, 400, .inl fw)), ((ax 1), .inl (E 0, 16, .inl (fun _ => -5))), ((ax 2), .inl (E 0, 16, .inl (fun _ => 0))), ((ax 3), .inl (E 3, 16, .inr (.inr (.inr (.inr (fun _ => none)))))), ((ax 4), .inl (E 4, 5, .inr (.inr (.inr (.inr (fun j => some (ax (13 + j)))))))), ((ax 13), .inr (5, sF (bx 0))), ((ax 14), .inr (5, sF (bx 1))), ((ax 15), .inr (5, sF (bx 2))), ((ax 16), .inr (5, sF (bx 3))), ((ax 17), .inr (5, sF (bx 4))), ((ax 6), .inr (2, [.ref (ax 18), .ref (ax 19), .ref (ax 20), .ref (ax 21), .ref (ax 22), .int 0])), ((ax 18), .inl (E 0, 60, .inl (fun _ => 0))), ((ax 19), .inl (E 0, 60, .inl (fun _ => 0))), ((ax 20), .inl (E 0, 60, .inl (fun _ => 0))), ((ax 21), .inl (E 0, 60, .inl (fun _ => 0))), ((ax 22), .inl (E 0, 60, .inl (fun _ => 0))), ((ax 9), .inr (6, [.ref (ax 23), .int 0, .ref (ax 24), .ref (E 5), .int 0, .int 0, .int 0, .int 0])), ((ax 23), .inl (E 0, 120, .inl (fun _ => 0))), ((ax 24), .inr (4, [.ref (ax 25), .ref (ax 26), .ref (ax 27), .int 0])), ((ax 10), .inr (0, [.ref (ax 28), .ref (ax 29), .ref (ax 30), .ref (ax 31), .ref (ax 32), .int 0, .int 0, .int 0, .int 0])), ((ax 28), .inl (E 0, 9, .inl (fun _ => 0))), ((cm 2), .inl (E 0, 400, .inl fm)), ((cm 3), .inl (E 0, 16, .inl (fun _ => -5))), ((cm 4), .inl (E 0, 16, .inl (fun _ => 0))), ((cm 5), .inl (E 1, 6400, .inl (fun _ => 0))), ((cm 8), .inl (E 1, 6400, .inl (fun _ => 0))), ((cm 9), .inl (E 1, 6400, .inl (fun _ => 0))), ((cm 12), .inl (E 0, 60, .inl (fun _ => 0))), ((cm 13), .inl (E 0, 60, .inl (fun _ => 0))), ((cm 14), .inl (E 0, 60, .inl (fun _ => 0))), ((cm 15), .inl (E 0, 60, .inl (fun _ => 0))), ((cm 16), .inl (E 0, 60, .inl (fun _ => 0))), ((cm 32), .inl (E 2, 120, .inl (fun _ => 0))), ((cm 47), .inl (E 0, 5, .inl (fun _ => 0))), ((cm 55), .inl (E 0, 5, .inl (fun _ => 0))), ((cm 58), .inl (E 0, 3, .inl (fun _ => 0))), ((cm 62), .inl (E 0, 9, .inl (fun _ => 0)))]) rfl rfl (by decide) (by decide) (fun r_10 u_8 H locs hw_9 hP hD hS => ?_)
    clear hPc hDc
    have hP : va_P D vwCl [((ax 0), .inl (E 0, 400, .inl fw)), ((ax 1), .inl (E 0, 16, .inl (fun _ => -5))), ((ax 2), .inl (E 0, 16, .inl (fun _ => 0))), ((ax 3), .inl (E 3, 16, .inr (.inr (.inr (.inr (fun _ => none)))))), ((ax 4), .inl (E 4, 5, .inr (.inr (.inr (.inr (fun j => some (ax (13 + j)))))))), ((ax 13), .inr (5, sF (bx 0))), ((ax 14), .inr (5, sF (bx 1))), ((ax 15), .inr (5, sF (bx 2))), ((ax 16), .inr (5, sF (bx 3))), ((ax 17), .inr (5, sF (bx 4))), ((ax 6), .inr (2, [.ref (ax 18), .ref (ax 19), .ref (ax 20), .ref (ax 21), .ref (ax 22), .int 0])), ((ax 18), .inl (E 0, 60, .inl (fun _ => 0))), ((ax 19), .inl (E 0, 60, .inl (fun _ => 0))), ((ax 20), .inl (E 0, 60, .inl (fun _ => 0))), ((ax 21), .inl (E 0, 60, .inl (fun _ => 0))), ((ax 22), .inl (E 0, 60, .inl (fun _ => 0))), ((ax 9), .inr (6, [.ref (ax 23), .int 0, .ref (ax 24), .ref (E 5), .int 0, .int 0, .int 0, .int 0])), ((ax 23), .inl (E 0, 120, .inl (fun _ => 0))), ((ax 24), .inr (4, [.ref (ax 25), .ref (ax 26), .ref (ax 27), .int 0])), ((ax 10), .inr (0, [.ref (ax 28), .ref (ax 29), .ref (ax 30), .ref (ax 31), .ref (ax 32), .int 0, .int 0, .int 0, .int 0])), ((ax 28), .inl (E 0, 9, .inl (fun _ => 0))), ((cm 2), .inl (E 0, 400, .inl fm)), ((cm 3), .inl (E 0, 16, .inl (fun _ => -5))), ((cm 4), .inl (E 0, 16, .inl (fun _ => 0))), ((cm 5), .inl (E 1, 6400, .inl (fun _ => 0))), ((cm 8), .inl (E 1, 6400, .inl (fun _ => 0))), ((cm 9), .inl (E 1, 6400, .inl (fun _ => 0))), ((cm 12), .inl (E 0, 60, .inl (fun _ => 0))), ((cm 13), .inl (E 0, 60, .inl (fun _ => 0))), ((cm 14), .inl (E 0, 60, .inl (fun _ => 0))), ((cm 15), .inl (E 0, 60, .inl (fun _ => 0))), ((cm 16), .inl (E 0, 60, .inl (fun _ => 0))), ((cm 32), .inl (E 2, 120, .inl (fun _ => 0))), ((cm 47), .inl (E 0, 5, .inl (fun _ => 0))), ((cm 55), .inl (E 0, 5, .inl (fun _ => 0))), ((cm 58), .inl (E 0, 3, .inl (fun _ => 0))), ((cm 62), .inl (E 0, 9, .inl (fun _ => 0)))] H := hP
    have hD : va_D (fun q : Nat => s.heap.size ≤ q) [((ax 0), .inl (E 0, 400, .inl fw)), ((ax 1), .inl (E 0, 16, .inl (fun _ => -5))), ((ax 2), .inl (E 0, 16, .inl (fun _ => 0))), ((ax 3), .inl (E 3, 16, .inr (.inr (.inr (.inr (fun _ => none)))))), ((ax 4), .inl (E 4, 5, .inr (.inr (.inr (.inr (fun j => some (ax (13 + j)))))))), ((ax 13), .inr (5, sF (bx 0))), ((ax 14), .inr (5, sF (bx 1))), ((ax 15), .inr (5, sF (bx 2))), ((ax 16), .inr (5, sF (bx 3))), ((ax 17), .inr (5, sF (bx 4))), ((ax 6), .inr (2, [.ref (ax 18), .ref (ax 19), .ref (ax 20), .ref (ax 21), .ref (ax 22), .int 0])), ((ax 18), .inl (E 0, 60, .inl (fun _ => 0))), ((ax 19), .inl (E 0, 60, .inl (fun _ => 0))), ((ax 20), .inl (E 0, 60, .inl (fun _ => 0))), ((ax 21), .inl (E 0, 60, .inl (fun _ => 0))), ((ax 22), .inl (E 0, 60, .inl (fun _ => 0))), ((ax 9), .inr (6, [.ref (ax 23), .int 0, .ref (ax 24), .ref (E 5), .int 0, .int 0, .int 0, .int 0])), ((ax 23), .inl (E 0, 120, .inl (fun _ => 0))), ((ax 24), .inr (4, [.ref (ax 25), .ref (ax 26), .ref (ax 27), .int 0])), ((ax 10), .inr (0, [.ref (ax 28), .ref (ax 29), .ref (ax 30), .ref (ax 31), .ref (ax 32), .int 0, .int 0, .int 0, .int 0])), ((ax 28), .inl (E 0, 9, .inl (fun _ => 0))), ((cm 2), .inl (E 0, 400, .inl fm)), ((cm 3), .inl (E 0, 16, .inl (fun _ => -5))), ((cm 4), .inl (E 0, 16, .inl (fun _ => 0))), ((cm 5), .inl (E 1, 6400, .inl (fun _ => 0))), ((cm 8), .inl (E 1, 6400, .inl (fun _ => 0))), ((cm 9), .inl (E 1, 6400, .inl (fun _ => 0))), ((cm 12), .inl (E 0, 60, .inl (fun _ => 0))), ((cm 13), .inl (E 0, 60, .inl (fun _ => 0))), ((cm 14), .inl (E 0, 60, .inl (fun _ => 0))), ((cm 15), .inl (E 0, 60, .inl (fun _ => 0))), ((cm 16), .inl (E 0, 60, .inl (fun _ => 0))), ((cm 32), .inl (E 2, 120, .inl (fun _ => 0))), ((cm 47), .inl (E 0, 5, .inl (fun _ => 0))), ((cm 55), .inl (E 0, 5, .inl (fun _ => 0))), ((cm 58), .inl (E 0, 3, .inl (fun _ => 0))), ((cm 62), .inl (E 0, 9, .inl (fun _ => 0)))] := hD
    rcases hw_9 with ⟨hr_10, hw_9⟩ | ⟨hr_10, hw_9⟩
    ·
      refine W_top (y := .int (xs 1)) (by rw [hr_10]) ?_
      exfalso; omega
    ·
      refine W_top (y := .int (-1)) (by rw [hr_10]) ?_
      refine lv_icmp_eq (tgt := 1550) hx hb dL_law_210 (by decide) (fun c_11 => ?_) (fun c_11 => absurd rfl c_11)
      exact law_end hx hb hr hml hown htb hX hbl hlocks hS (lv_sub hl [0, 3] rfl) (Nat.le_of_ble_eq_true rfl) (Nat.le_of_ble_eq_true rfl)
set_option maxHeartbeats 4000000 in
set_option maxRecDepth 100000 in
theorem law_1 {p : Program} {l : Launch} {e : Env} {s : State} {m : MethodId} {below : List Frame} {meth : Method} {c : Code} {D : va_G} {E : Nat → Nat} {b : Nat} {xs : Nat → Int32} {qx : Nat} {ax : Nat → Nat} {bx : Nat → Nat → Nat} {fw : Nat → Int32} {qm : Nat} {cm : Nat → Nat} {fm : Nat → Int32} {H : Heap} {locs : List Loc} {ls : Array Slot} (hx : p.tables.exec = Jvm.exec) (hb : c.code = code) (hr : meth.sig.returnType = ret) (hml : c.maxLocals = 4) (hown : s.vm.findClass R_law = some m.cls) (htb : ∀ w ∈ tb, w.before #[Value.ref b] s = true) (hK : KX D E s) (hX : va_X b 6 xs s s.heap) (hbl : b < s.heap.size) (hlocks : meth.locks = false) (hP : va_P D vwCl (LW E qx ax bx fw qm cm fm) H) (hD : va_D (fun q : Nat => s.heap.size ≤ q) (LW E qx ax bx fw qm cm fm)) (hS : va_S (fun q : Nat => s.heap.size ≤ q) s.heap H locs) (hl : lv_has ls 4 [(3, .int 0), (2, .ref qm), (1, .ref qx), (0, .ref b)]) : W p l e room_1 s m #[Value.ref b] below meth c H locs 123 44666 (lw_Z below #[Value.ref b] s) (F0 m 215 ls []) := by
  have hA : ∀ q : Nat, s.heap.size ≤ q → (fun q : Nat => s.heap.size ≤ q) q := fun _ h => h
  have hbA : ¬ (fun q : Nat => s.heap.size ≤ q) b := Nat.not_le.mpr hbl
  refine lv_aload_n hx hb dL_law_215 rfl (lv_at hl 2 rfl) ?_
  refine lv_aload_n hx hb dL_law_216 rfl (lv_at hl 3 rfl) ?_
  refine lv_iload_n hx hb dL_law_217 rfl (lv_at hl 0 rfl) ?_
  refine lv_iconst (v := 1) hx hb dL_law_218 (by decide) ?_
  refine lv_iadd hx hb dL_law_219 ?_
  refine W_top (y := .int 1) (by decide) ?_
  refine va_sld hx hb hX hbl hbA hS (g_in t_1 (by decide) (by decide)) dL_law_220 ?_
  refine W_top (y := .int (xs 1)) (congrArg (fun n => Value.int (xs n)) (by decide : (1 : Int32).toNatClampNeg = 1)) ?_
  refine lv_aload_n hx hb dL_law_221 rfl (lv_at hl 3 rfl) ?_
  refine lv_iload_n hx hb dL_law_222 rfl (lv_at hl 0 rfl) ?_
  refine lv_iconst (v := 2) hx hb dL_law_223 (by decide) ?_
  refine lv_iadd hx hb dL_law_224 ?_
  refine W_top (y := .int 2) (by decide) ?_
  refine va_sld hx hb hX hbl hbA hS (g_in t_2 (by decide) (by decide)) dL_law_225 ?_
  refine W_top (y := .int (xs 2)) (congrArg (fun n => Value.int (xs n)) (by decide : (2 : Int32).toNatClampNeg = 2)) ?_
  have hPc := hP.sub (ws' := [(qx, .inr (8, xF ax 0)), ((ax 0), .inl (E 0, 400, .inl fw))]) [0, 1] rfl
  have hDc := hD.sub (ws' := [(qx, .inr (8, xF ax 0)), ((ax 0), .inl (E 0, 400, .inl fw))]) [0, 1] (by decide) rfl
  refine aft_i (runMV (rest := []) (As := [.int (xs 1), .int (xs 2)]) hx hb hml hown htb hK (c_X8_warmth l D E qx ax fw (xs 1) (xs 2) _ ) ok_X8_warmth k_319 k_320 k_321 k_1 k_322 ⟨(Nat.le_of_ble_eq_true rfl), (Nat.le_of_ble_eq_true rfl)⟩ ⟨(Nat.le_of_ble_eq_true rfl), (Nat.le_of_ble_eq_true rfl)⟩ hl.1 (Nat.le_of_ble_eq_true rfl) rfl rfl dL_law_226 hPc hDc rfl rfl 0 rfl) hP hD hS hA [0, 1] [2, 3, 4, 5, 6, 7, 8, 9, 10, 11, 12, 13, 14, 15, 16, 17, 18, 19, 20, 21, 22, 23, 24, 25, 26, 27, 28, 29, 30, 31, 32, 33, 34, 35, 36, 37, 38, 39] (wr := [((ax 1), .inl (E 0, 16, .inl (fun _ => -5))), ((ax 2), .inl (E 0, 16, .inl (fun _ => 0))), ((ax 3), .inl (E 3, 16, .inr (.inr (.inr (.inr (fun _ => none)))))), ((ax 4), .inl (E 4, 5, .inr (.inr (.inr (.inr (fun j => some (ax (13 + j)))))))), ((ax 13), .inr (5, sF (bx 0))), ((ax 14), .inr (5, sF (bx 1))), ((ax 15), .inr (5, sF (bx 2))), ((ax 16), .inr (5, sF (bx 3))), ((ax 17), .inr (5, sF (bx 4))), ((ax 6), .inr (2, [.ref (ax 18), .ref (ax 19), .ref (ax 20), .ref (ax 21), .ref (ax 22), .int 0])), ((ax 18), .inl (E 0, 60, .inl (fun _ => 0))), ((ax 19), .inl (E 0, 60, .inl (fun _ => 0))), ((ax 20), .inl (E 0, 60, .inl (fun _ => 0))), ((ax 21), .inl (E 0, 60, .inl (fun _ => 0))), ((ax 22), .inl (E 0, 60, .inl (fun _ => 0))), ((ax 9), .inr (6, [.ref (ax 23), .int 0, .ref (ax 24), .ref (E 5), .int 0, .int 0, .int 0, .int 0])), ((ax 23), .inl (E 0, 120, .inl (fun _ => 0))), ((ax 24), .inr (4, [.ref (ax 25), .ref (ax 26), .ref (ax 27), .int 0])), ((ax 10), .inr (0, [.ref (ax 28), .ref (ax 29), .ref (ax 30), .ref (ax 31), .ref (ax 32), .int 0, .int 0, .int 0, .int 0])), ((ax 28), .inl (E 0, 9, .inl (fun _ => 0))), (qm, .inr (9, mF cm 0 0 0 0 0 0 0 0 0)), ((cm 2), .inl (E 0, 400, .inl fm)), ((cm 3), .inl (E 0, 16, .inl (fun _ => -5))), ((cm 4), .inl (E 0, 16, .inl (fun _ => 0))), ((cm 5), .inl (E 1, 6400, .inl (fun _ => 0))), ((cm 8), .inl (E 1, 6400, .inl (fun _ => 0))), ((cm 9), .inl (E 1, 6400, .inl (fun _ => 0))), ((cm 10), .inl (E 0, 6400, .inl (fun _ => 0))), ((cm 12), .inl (E 0, 60, .inl (fun _ => 0))), ((cm 13), .inl (E 0, 60, .inl (fun _ => 0))), ((cm 14), .inl (E 0, 60, .inl (fun _ => 0))), ((cm 15), .inl (E 0, 60, .inl (fun _ => 0))), ((cm 16), .inl (E 0, 60, .inl (fun _ => 0))), ((cm 32), .inl (E 2, 120, .inl (fun _ => 0))), ((cm 47), .inl (E 0, 5, .inl (fun _ => 0))), ((cm 55), .inl (E 0, 5, .inl (fun _ => 0))), ((cm 58), .inl (E 0, 3, .inl (fun _ => 0))), ((cm 62), .inl (E 0, 9, .inl (fun _ => 0)))]) rfl rfl (by decide) (by decide) (fun r_3 u_1 H locs hw_2 hP hD hS => ?_)
  clear hPc hDc
  have hP : va_P D vwCl [((ax 1), .inl (E 0, 16, .inl (fun _ => -5))), ((ax 2), .inl (E 0, 16, .inl (fun _ => 0))), ((ax 3), .inl (E 3, 16, .inr (.inr (.inr (.inr (fun _ => none)))))), ((ax 4), .inl (E 4, 5, .inr (.inr (.inr (.inr (fun j => some (ax (13 + j)))))))), ((ax 13), .inr (5, sF (bx 0))), ((ax 14), .inr (5, sF (bx 1))), ((ax 15), .inr (5, sF (bx 2))), ((ax 16), .inr (5, sF (bx 3))), ((ax 17), .inr (5, sF (bx 4))), ((ax 6), .inr (2, [.ref (ax 18), .ref (ax 19), .ref (ax 20), .ref (ax 21), .ref (ax 22), .int 0])), ((ax 18), .inl (E 0, 60, .inl (fun _ => 0))), ((ax 19), .inl (E 0, 60, .inl (fun _ => 0))), ((ax 20), .inl (E 0, 60, .inl (fun _ => 0))), ((ax 21), .inl (E 0, 60, .inl (fun _ => 0))), ((ax 22), .inl (E 0, 60, .inl (fun _ => 0))), ((ax 9), .inr (6, [.ref (ax 23), .int 0, .ref (ax 24), .ref (E 5), .int 0, .int 0, .int 0, .int 0])), ((ax 23), .inl (E 0, 120, .inl (fun _ => 0))), ((ax 24), .inr (4, [.ref (ax 25), .ref (ax 26), .ref (ax 27), .int 0])), ((ax 10), .inr (0, [.ref (ax 28), .ref (ax 29), .ref (ax 30), .ref (ax 31), .ref (ax 32), .int 0, .int 0, .int 0, .int 0])), ((ax 28), .inl (E 0, 9, .inl (fun _ => 0))), (qm, .inr (9, mF cm 0 0 0 0 0 0 0 0 0)), ((cm 2), .inl (E 0, 400, .inl fm)), ((cm 3), .inl (E 0, 16, .inl (fun _ => -5))), ((cm 4), .inl (E 0, 16, .inl (fun _ => 0))), ((cm 5), .inl (E 1, 6400, .inl (fun _ => 0))), ((cm 8), .inl (E 1, 6400, .inl (fun _ => 0))), ((cm 9), .inl (E 1, 6400, .inl (fun _ => 0))), ((cm 10), .inl (E 0, 6400, .inl (fun _ => 0))), ((cm 12), .inl (E 0, 60, .inl (fun _ => 0))), ((cm 13), .inl (E 0, 60, .inl (fun _ => 0))), ((cm 14), .inl (E 0, 60, .inl (fun _ => 0))), ((cm 15), .inl (E 0, 60, .inl (fun _ => 0))), ((cm 16), .inl (E 0, 60, .inl (fun _ => 0))), ((cm 32), .inl (E 2, 120, .inl (fun _ => 0))), ((cm 47), .inl (E 0, 5, .inl (fun _ => 0))), ((cm 55), .inl (E 0, 5, .inl (fun _ => 0))), ((cm 58), .inl (E 0, 3, .inl (fun _ => 0))), ((cm 62), .inl (E 0, 9, .inl (fun _ => 0)))] H := hP
  have hD : va_D (fun q : Nat => s.heap.size ≤ q) [((ax 1), .inl (E 0, 16, .inl (fun _ => -5))), ((ax 2), .inl (E 0, 16, .inl (fun _ => 0))), ((ax 3), .inl (E 3, 16, .inr (.inr (.inr (.inr (fun _ => none)))))), ((ax 4), .inl (E 4, 5, .inr (.inr (.inr (.inr (fun j => some (ax (13 + j)))))))), ((ax 13), .inr (5, sF (bx 0))), ((ax 14), .inr (5, sF (bx 1))), ((ax 15), .inr (5, sF (bx 2))), ((ax 16), .inr (5, sF (bx 3))), ((ax 17), .inr (5, sF (bx 4))), ((ax 6), .inr (2, [.ref (ax 18), .ref (ax 19), .ref (ax 20), .ref (ax 21), .ref (ax 22), .int 0])), ((ax 18), .inl (E 0, 60, .inl (fun _ => 0))), ((ax 19), .inl (E 0, 60, .inl (fun _ => 0))), ((ax 20), .inl (E 0, 60, .inl (fun _ => 0))), ((ax 21), .inl (E 0, 60, .inl (fun _ => 0))), ((ax 22), .inl (E 0, 60, .inl (fun _ => 0))), ((ax 9), .inr (6, [.ref (ax 23), .int 0, .ref (ax 24), .ref (E 5), .int 0, .int 0, .int 0, .int 0])), ((ax 23), .inl (E 0, 120, .inl (fun _ => 0))), ((ax 24), .inr (4, [.ref (ax 25), .ref (ax 26), .ref (ax 27), .int 0])), ((ax 10), .inr (0, [.ref (ax 28), .ref (ax 29), .ref (ax 30), .ref (ax 31), .ref (ax 32), .int 0, .int 0, .int 0, .int 0])), ((ax 28), .inl (E 0, 9, .inl (fun _ => 0))), (qm, .inr (9, mF cm 0 0 0 0 0 0 0 0 0)), ((cm 2), .inl (E 0, 400, .inl fm)), ((cm 3), .inl (E 0, 16, .inl (fun _ => -5))), ((cm 4), .inl (E 0, 16, .inl (fun _ => 0))), ((cm 5), .inl (E 1, 6400, .inl (fun _ => 0))), ((cm 8), .inl (E 1, 6400, .inl (fun _ => 0))), ((cm 9), .inl (E 1, 6400, .inl (fun _ => 0))), ((cm 10), .inl (E 0, 6400, .inl (fun _ => 0))), ((cm 12), .inl (E 0, 60, .inl (fun _ => 0))), ((cm 13), .inl (E 0, 60, .inl (fun _ => 0))), ((cm 14), .inl (E 0, 60, .inl (fun _ => 0))), ((cm 15), .inl (E 0, 60, .inl (fun _ => 0))), ((cm 16), .inl (E 0, 60, .inl (fun _ => 0))), ((cm 32), .inl (E 2, 120, .inl (fun _ => 0))), ((cm 47), .inl (E 0, 5, .inl (fun _ => 0))), ((cm 55), .inl (E 0, 5, .inl (fun _ => 0))), ((cm 58), .inl (E 0, 3, .inl (fun _ => 0))), ((cm 62), .inl (E 0, 9, .inl (fun _ => 0)))] := hD
  rcases hw_2 with ⟨hr_3, hw_2⟩ | ⟨hr_3, hw_2⟩
  ·
    refine W_top (y := .int 1) (by rw [hr_3]) ?_
    refine lv_aload_n hx hb dL_law_229 rfl (lv_at hl 1 rfl) ?_
    refine lv_aload_n hx hb dL_law_230 rfl (lv_at hl 3 rfl) ?_
    refine lv_iload_n hx hb dL_law_231 rfl (lv_at hl 0 rfl) ?_
    refine lv_iconst (v := 1) hx hb dL_law_232 (by decide) ?_
    refine lv_iadd hx hb dL_law_233 ?_
    refine W_top (y := .int 1) (by decide) ?_
    refine va_sld hx hb hX hbl hbA hS (g_in t_1 (by decide) (by decide)) dL_law_234 ?_
    refine W_top (y := .int (xs 1)) (congrArg (fun n => Value.int (xs n)) (by decide : (1 : Int32).toNatClampNeg = 1)) ?_
    refine lv_aload_n hx hb dL_law_235 rfl (lv_at hl 3 rfl) ?_
    refine lv_iload_n hx hb dL_law_236 rfl (lv_at hl 0 rfl) ?_
    refine lv_iconst (v := 2) hx hb dL_law_237 (by decide) ?_
    refine lv_iadd hx hb dL_law_238 ?_
    refine W_top (y := .int 2) (by decide) ?_
    refine va_sld hx hb hX hbl hbA hS (g_in t_2 (by decide) (by decide)) dL_law_239 ?_
    refine W_top (y := .int (xs 2)) (congrArg (fun n => Value.int (xs n)) (by decide : (2 : Int32).toNatClampNeg = 2)) ?_
    have hPc := hP.sub (ws' := [(qm, .inr (9, mF cm 0 0 0 0 0 0 0 0 0)), ((cm 2), .inl (E 0, 400, .inl fm))]) [20, 21] rfl
    have hDc := hD.sub (ws' := [(qm, .inr (9, mF cm 0 0 0 0 0 0 0 0 0)), ((cm 2), .inl (E 0, 400, .inl fm))]) [20, 21] (by decide) rfl
    refine aft_i (runMV (rest := [.int 1]) (As := [.int (xs 1), .int (xs 2)]) hx hb hml hown htb hK (c_X9_warmth l D E qm cm fm (xs 1) (xs 2) _ ) ok_X9_warmth k_1171 k_1172 k_1173 k_9 k_1174 ⟨(Nat.le_of_ble_eq_true rfl), (Nat.le_of_ble_eq_true rfl)⟩ ⟨(Nat.le_of_ble_eq_true rfl), (Nat.le_of_ble_eq_true rfl)⟩ hl.1 (Nat.le_of_ble_eq_true rfl) rfl rfl dL_law_240 hPc hDc rfl rfl 0 rfl) hP hD hS hA [20, 21] [0, 1, 2, 3, 4, 5, 6, 7, 8, 9, 10, 11, 12, 13, 14, 15, 16, 17, 18, 19, 22, 23, 24, 25, 26, 27, 28, 29, 30, 31, 32, 33, 34, 35, 36, 37] (wr := [((ax 1), .inl (E 0, 16, .inl (fun _ => -5))), ((ax 2), .inl (E 0, 16, .inl (fun _ => 0))), ((ax 3), .inl (E 3, 16, .inr (.inr (.inr (.inr (fun _ => none)))))), ((ax 4), .inl (E 4, 5, .inr (.inr (.inr (.inr (fun j => some (ax (13 + j)))))))), ((ax 13), .inr (5, sF (bx 0))), ((ax 14), .inr (5, sF (bx 1))), ((ax 15), .inr (5, sF (bx 2))), ((ax 16), .inr (5, sF (bx 3))), ((ax 17), .inr (5, sF (bx 4))), ((ax 6), .inr (2, [.ref (ax 18), .ref (ax 19), .ref (ax 20), .ref (ax 21), .ref (ax 22), .int 0])), ((ax 18), .inl (E 0, 60, .inl (fun _ => 0))), ((ax 19), .inl (E 0, 60, .inl (fun _ => 0))), ((ax 20), .inl (E 0, 60, .inl (fun _ => 0))), ((ax 21), .inl (E 0, 60, .inl (fun _ => 0))), ((ax 22), .inl (E 0, 60, .inl (fun _ => 0))), ((ax 9), .inr (6, [.ref (ax 23), .int 0, .ref (ax 24), .ref (E 5), .int 0, .int 0, .int 0, .int 0])), ((ax 23), .inl (E 0, 120, .inl (fun _ => 0))), ((ax 24), .inr (4, [.ref (ax 25), .ref (ax 26), .ref (ax 27), .int 0])), ((ax 10), .inr (0, [.ref (ax 28), .ref (ax 29), .ref (ax 30), .ref (ax 31), .ref (ax 32), .int 0, .int 0, .int 0, .int 0])), ((ax 28), .inl (E 0, 9, .inl (fun _ => 0))), ((cm 3), .inl (E 0, 16, .inl (fun _ => -5))), ((cm 4), .inl (E 0, 16, .inl (fun _ => 0))), ((cm 5), .inl (E 1, 6400, .inl (fun _ => 0))), ((cm 8), .inl (E 1, 6400, .inl (fun _ => 0))), ((cm 9), .inl (E 1, 6400, .inl (fun _ => 0))), ((cm 10), .inl (E 0, 6400, .inl (fun _ => 0))), ((cm 12), .inl (E 0, 60, .inl (fun _ => 0))), ((cm 13), .inl (E 0, 60, .inl (fun _ => 0))), ((cm 14), .inl (E 0, 60, .inl (fun _ => 0))), ((cm 15), .inl (E 0, 60, .inl (fun _ => 0))), ((cm 16), .inl (E 0, 60, .inl (fun _ => 0))), ((cm 32), .inl (E 2, 120, .inl (fun _ => 0))), ((cm 47), .inl (E 0, 5, .inl (fun _ => 0))), ((cm 55), .inl (E 0, 5, .inl (fun _ => 0))), ((cm 58), .inl (E 0, 3, .inl (fun _ => 0))), ((cm 62), .inl (E 0, 9, .inl (fun _ => 0)))]) rfl rfl (by decide) (by decide) (fun r_6 u_4 H locs hw_5 hP hD hS => ?_)
    clear hPc hDc
    have hP : va_P D vwCl [((ax 1), .inl (E 0, 16, .inl (fun _ => -5))), ((ax 2), .inl (E 0, 16, .inl (fun _ => 0))), ((ax 3), .inl (E 3, 16, .inr (.inr (.inr (.inr (fun _ => none)))))), ((ax 4), .inl (E 4, 5, .inr (.inr (.inr (.inr (fun j => some (ax (13 + j)))))))), ((ax 13), .inr (5, sF (bx 0))), ((ax 14), .inr (5, sF (bx 1))), ((ax 15), .inr (5, sF (bx 2))), ((ax 16), .inr (5, sF (bx 3))), ((ax 17), .inr (5, sF (bx 4))), ((ax 6), .inr (2, [.ref (ax 18), .ref (ax 19), .ref (ax 20), .ref (ax 21), .ref (ax 22), .int 0])), ((ax 18), .inl (E 0, 60, .inl (fun _ => 0))), ((ax 19), .inl (E 0, 60, .inl (fun _ => 0))), ((ax 20), .inl (E 0, 60, .inl (fun _ => 0))), ((ax 21), .inl (E 0, 60, .inl (fun _ => 0))), ((ax 22), .inl (E 0, 60, .inl (fun _ => 0))), ((ax 9), .inr (6, [.ref (ax 23), .int 0, .ref (ax 24), .ref (E 5), .int 0, .int 0, .int 0, .int 0])), ((ax 23), .inl (E 0, 120, .inl (fun _ => 0))), ((ax 24), .inr (4, [.ref (ax 25), .ref (ax 26), .ref (ax 27), .int 0])), ((ax 10), .inr (0, [.ref (ax 28), .ref (ax 29), .ref (ax 30), .ref (ax 31), .ref (ax 32), .int 0, .int 0, .int 0, .int 0])), ((ax 28), .inl (E 0, 9, .inl (fun _ => 0))), ((cm 3), .inl (E 0, 16, .inl (fun _ => -5))), ((cm 4), .inl (E 0, 16, .inl (fun _ => 0))), ((cm 5), .inl (E 1, 6400, .inl (fun _ => 0))), ((cm 8), .inl (E 1, 6400, .inl (fun _ => 0))), ((cm 9), .inl (E 1, 6400, .inl (fun _ => 0))), ((cm 10), .inl (E 0, 6400, .inl (fun _ => 0))), ((cm 12), .inl (E 0, 60, .inl (fun _ => 0))), ((cm 13), .inl (E 0, 60, .inl (fun _ => 0))), ((cm 14), .inl (E 0, 60, .inl (fun _ => 0))), ((cm 15), .inl (E 0, 60, .inl (fun _ => 0))), ((cm 16), .inl (E 0, 60, .inl (fun _ => 0))), ((cm 32), .inl (E 2, 120, .inl (fun _ => 0))), ((cm 47), .inl (E 0, 5, .inl (fun _ => 0))), ((cm 55), .inl (E 0, 5, .inl (fun _ => 0))), ((cm 58), .inl (E 0, 3, .inl (fun _ => 0))), ((cm 62), .inl (E 0, 9, .inl (fun _ => 0)))] H := hP
    have hD : va_D (fun q : Nat => s.heap.size ≤ q) [((ax 1), .inl (E 0, 16, .inl (fun _ => -5))), ((ax 2), .inl (E 0, 16, .inl (fun _ => 0))), ((ax 3), .inl (E 3, 16, .inr (.inr (.inr (.inr (fun _ => none)))))), ((ax 4), .inl (E 4, 5, .inr (.inr (.inr (.inr (fun j => some (ax (13 + j)))))))), ((ax 13), .inr (5, sF (bx 0))), ((ax 14), .inr (5, sF (bx 1))), ((ax 15), .inr (5, sF (bx 2))), ((ax 16), .inr (5, sF (bx 3))), ((ax 17), .inr (5, sF (bx 4))), ((ax 6), .inr (2, [.ref (ax 18), .ref (ax 19), .ref (ax 20), .ref (ax 21), .ref (ax 22), .int 0])), ((ax 18), .inl (E 0, 60, .inl (fun _ => 0))), ((ax 19), .inl (E 0, 60, .inl (fun _ => 0))), ((ax 20), .inl (E 0, 60, .inl (fun _ => 0))), ((ax 21), .inl (E 0, 60, .inl (fun _ => 0))), ((ax 22), .inl (E 0, 60, .inl (fun _ => 0))), ((ax 9), .inr (6, [.ref (ax 23), .int 0, .ref (ax 24), .ref (E 5), .int 0, .int 0, .int 0, .int 0])), ((ax 23), .inl (E 0, 120, .inl (fun _ => 0))), ((ax 24), .inr (4, [.ref (ax 25), .ref (ax 26), .ref (ax 27), .int 0])), ((ax 10), .inr (0, [.ref (ax 28), .ref (ax 29), .ref (ax 30), .ref (ax 31), .ref (ax 32), .int 0, .int 0, .int 0, .int 0])), ((ax 28), .inl (E 0, 9, .inl (fun _ => 0))), ((cm 3), .inl (E 0, 16, .inl (fun _ => -5))), ((cm 4), .inl (E 0, 16, .inl (fun _ => 0))), ((cm 5), .inl (E 1, 6400, .inl (fun _ => 0))), ((cm 8), .inl (E 1, 6400, .inl (fun _ => 0))), ((cm 9), .inl (E 1, 6400, .inl (fun _ => 0))), ((cm 10), .inl (E 0, 6400, .inl (fun _ => 0))), ((cm 12), .inl (E 0, 60, .inl (fun _ => 0))), ((cm 13), .inl (E 0, 60, .inl (fun _ => 0))), ((cm 14), .inl (E 0, 60, .inl (fun _ => 0))), ((cm 15), .inl (E 0, 60, .inl (fun _ => 0))), ((cm 16), .inl (E 0, 60, .inl (fun _ => 0))), ((cm 32), .inl (E 2, 120, .inl (fun _ => 0))), ((cm 47), .inl (E 0, 5, .inl (fun _ => 0))), ((cm 55), .inl (E 0, 5, .inl (fun _ => 0))), ((cm 58), .inl (E 0, 3, .inl (fun _ => 0))), ((cm 62), .inl (E 0, 9, .inl (fun _ => 0)))] := hD
    rcases hw_5 with ⟨hr_6, hw_5⟩ | ⟨hr_6, hw_5⟩
    ·
      refine W_top (y := .int 1) (by rw [hr_6]) ?_
      refine lv_icmp_eq (tgt := 1550) hx hb dL_law_243 (by decide) (fun c_7 => ?_) (fun c_7 => absurd rfl c_7)
      exact law_end hx hb hr hml hown htb hX hbl hlocks hS (lv_sub hl [0, 3] rfl) (Nat.le_of_ble_eq_true rfl) (Nat.le_of_ble_eq_true rfl)
    ·
      refine W_top (y := .int (-1)) (by rw [hr_6]) ?_
      exfalso; omega
  ·
    refine W_top (y := .int (-1)) (by rw [hr_3]) ?_
    refine lv_aload_n hx hb dL_law_229 rfl (lv_at hl 1 rfl) ?_
    refine lv_aload_n hx hb dL_law_230 rfl (lv_at hl 3 rfl) ?_
    refine lv_iload_n hx hb dL_law_231 rfl (lv_at hl 0 rfl) ?_
    refine lv_iconst (v := 1) hx hb dL_law_232 (by decide) ?_
    refine lv_iadd hx hb dL_law_233 ?_
    refine W_top (y := .int 1) (by decide) ?_
    refine va_sld hx hb hX hbl hbA hS (g_in t_1 (by decide) (by decide)) dL_law_234 ?_
    refine W_top (y := .int (xs 1)) (congrArg (fun n => Value.int (xs n)) (by decide : (1 : Int32).toNatClampNeg = 1)) ?_
    refine lv_aload_n hx hb dL_law_235 rfl (lv_at hl 3 rfl) ?_
    refine lv_iload_n hx hb dL_law_236 rfl (lv_at hl 0 rfl) ?_
    refine lv_iconst (v := 2) hx hb dL_law_237 (by decide) ?_
    refine lv_iadd hx hb dL_law_238 ?_
    refine W_top (y := .int 2) (by decide) ?_
    refine va_sld hx hb hX hbl hbA hS (g_in t_2 (by decide) (by decide)) dL_law_239 ?_
    refine W_top (y := .int (xs 2)) (congrArg (fun n => Value.int (xs n)) (by decide : (2 : Int32).toNatClampNeg = 2)) ?_
    have hPc := hP.sub (ws' := [(qm, .inr (9, mF cm 0 0 0 0 0 0 0 0 0)), ((cm 2), .inl (E 0, 400, .inl fm))]) [20, 21] rfl
    have hDc := hD.sub (ws' := [(qm, .inr (9, mF cm 0 0 0 0 0 0 0 0 0)), ((cm 2), .inl (E 0, 400, .inl fm))]) [20, 21] (by decide) rfl
    refine aft_i (runMV (rest := [.int (-1)]) (As := [.int (xs 1), .int (xs 2)]) hx hb hml hown htb hK (c_X9_warmth l D E qm cm fm (xs 1) (xs 2) _ ) ok_X9_warmth k_1171 k_1172 k_1173 k_9 k_1174 ⟨(Nat.le_of_ble_eq_true rfl), (Nat.le_of_ble_eq_true rfl)⟩ ⟨(Nat.le_of_ble_eq_true rfl), (Nat.le_of_ble_eq_true rfl)⟩ hl.1 (Nat.le_of_ble_eq_true rfl) rfl rfl dL_law_240 hPc hDc rfl rfl 0 rfl) hP hD hS hA [20, 21] [0, 1, 2, 3, 4, 5, 6, 7, 8, 9, 10, 11, 12, 13, 14, 15, 16, 17, 18, 19, 22, 23, 24, 25, 26, 27, 28, 29, 30, 31, 32, 33, 34, 35, 36, 37] (wr := [((ax 1), .inl (E 0, 16, .inl (fun _ => -5))), ((ax 2), .inl (E 0, 16, .inl (fun _ => 0))), ((ax 3), .inl (E 3, 16, .inr (.inr (.inr (.inr (fun _ => none)))))), ((ax 4), .inl (E 4, 5, .inr (.inr (.inr (.inr (fun j => some (ax (13 + j)))))))), ((ax 13), .inr (5, sF (bx 0))), ((ax 14), .inr (5, sF (bx 1))), ((ax 15), .inr (5, sF (bx 2))), ((ax 16), .inr (5, sF (bx 3))), ((ax 17), .inr (5, sF (bx 4))), ((ax 6), .inr (2, [.ref (ax 18), .ref (ax 19), .ref (ax 20), .ref (ax 21), .ref (ax 22), .int 0])), ((ax 18), .inl (E 0, 60, .inl (fun _ => 0))), ((ax 19), .inl (E 0, 60, .inl (fun _ => 0))), ((ax 20), .inl (E 0, 60, .inl (fun _ => 0))), ((ax 21), .inl (E 0, 60, .inl (fun _ => 0))), ((ax 22), .inl (E 0, 60, .inl (fun _ => 0))), ((ax 9), .inr (6, [.ref (ax 23), .int 0, .ref (ax 24), .ref (E 5), .int 0, .int 0, .int 0, .int 0])), ((ax 23), .inl (E 0, 120, .inl (fun _ => 0))), ((ax 24), .inr (4, [.ref (ax 25), .ref (ax 26), .ref (ax 27), .int 0])), ((ax 10), .inr (0, [.ref (ax 28), .ref (ax 29), .ref (ax 30), .ref (ax 31), .ref (ax 32), .int 0, .int 0, .int 0, .int 0])), ((ax 28), .inl (E 0, 9, .inl (fun _ => 0))), ((cm 3), .inl (E 0, 16, .inl (fun _ => -5))), ((cm 4), .inl (E 0, 16, .inl (fun _ => 0))), ((cm 5), .inl (E 1, 6400, .inl (fun _ => 0))), ((cm 8), .inl (E 1, 6400, .inl (fun _ => 0))), ((cm 9), .inl (E 1, 6400, .inl (fun _ => 0))), ((cm 10), .inl (E 0, 6400, .inl (fun _ => 0))), ((cm 12), .inl (E 0, 60, .inl (fun _ => 0))), ((cm 13), .inl (E 0, 60, .inl (fun _ => 0))), ((cm 14), .inl (E 0, 60, .inl (fun _ => 0))), ((cm 15), .inl (E 0, 60, .inl (fun _ => 0))), ((cm 16), .inl (E 0, 60, .inl (fun _ => 0))), ((cm 32), .inl (E 2, 120, .inl (fun _ => 0))), ((cm 47), .inl (E 0, 5, .inl (fun _ => 0))), ((cm 55), .inl (E 0, 5, .inl (fun _ => 0))), ((cm 58), .inl (E 0, 3, .inl (fun _ => 0))), ((cm 62), .inl (E 0, 9, .inl (fun _ => 0)))]) rfl rfl (by decide) (by decide) (fun r_10 u_8 H locs hw_9 hP hD hS => ?_)
    clear hPc hDc
    have hP : va_P D vwCl [((ax 1), .inl (E 0, 16, .inl (fun _ => -5))), ((ax 2), .inl (E 0, 16, .inl (fun _ => 0))), ((ax 3), .inl (E 3, 16, .inr (.inr (.inr (.inr (fun _ => none)))))), ((ax 4), .inl (E 4, 5, .inr (.inr (.inr (.inr (fun j => some (ax (13 + j)))))))), ((ax 13), .inr (5, sF (bx 0))), ((ax 14), .inr (5, sF (bx 1))), ((ax 15), .inr (5, sF (bx 2))), ((ax 16), .inr (5, sF (bx 3))), ((ax 17), .inr (5, sF (bx 4))), ((ax 6), .inr (2, [.ref (ax 18), .ref (ax 19), .ref (ax 20), .ref (ax 21), .ref (ax 22), .int 0])), ((ax 18), .inl (E 0, 60, .inl (fun _ => 0))), ((ax 19), .inl (E 0, 60, .inl (fun _ => 0))), ((ax 20), .inl (E 0, 60, .inl (fun _ => 0))), ((ax 21), .inl (E 0, 60, .inl (fun _ => 0))), ((ax 22), .inl (E 0, 60, .inl (fun _ => 0))), ((ax 9), .inr (6, [.ref (ax 23), .int 0, .ref (ax 24), .ref (E 5), .int 0, .int 0, .int 0, .int 0])), ((ax 23), .inl (E 0, 120, .inl (fun _ => 0))), ((ax 24), .inr (4, [.ref (ax 25), .ref (ax 26), .ref (ax 27), .int 0])), ((ax 10), .inr (0, [.ref (ax 28), .ref (ax 29), .ref (ax 30), .ref (ax 31), .ref (ax 32), .int 0, .int 0, .int 0, .int 0])), ((ax 28), .inl (E 0, 9, .inl (fun _ => 0))), ((cm 3), .inl (E 0, 16, .inl (fun _ => -5))), ((cm 4), .inl (E 0, 16, .inl (fun _ => 0))), ((cm 5), .inl (E 1, 6400, .inl (fun _ => 0))), ((cm 8), .inl (E 1, 6400, .inl (fun _ => 0))), ((cm 9), .inl (E 1, 6400, .inl (fun _ => 0))), ((cm 10), .inl (E 0, 6400, .inl (fun _ => 0))), ((cm 12), .inl (E 0, 60, .inl (fun _ => 0))), ((cm 13), .inl (E 0, 60, .inl (fun _ => 0))), ((cm 14), .inl (E 0, 60, .inl (fun _ => 0))), ((cm 15), .inl (E 0, 60, .inl (fun _ => 0))), ((cm 16), .inl (E 0, 60, .inl (fun _ => 0))), ((cm 32), .inl (E 2, 120, .inl (fun _ => 0))), ((cm 47), .inl (E 0, 5, .inl (fun _ => 0))), ((cm 55), .inl (E 0, 5, .inl (fun _ => 0))), ((cm 58), .inl (E 0, 3, .inl (fun _ => 0))), ((cm 62), .inl (E 0, 9, .inl (fun _ => 0)))] H := hP
    have hD : va_D (fun q : Nat => s.heap.size ≤ q) [((ax 1), .inl (E 0, 16, .inl (fun _ => -5))), ((ax 2), .inl (E 0, 16, .inl (fun _ => 0))), ((ax 3), .inl (E 3, 16, .inr (.inr (.inr (.inr (fun _ => none)))))), ((ax 4), .inl (E 4, 5, .inr (.inr (.inr (.inr (fun j => some (ax (13 + j)))))))), ((ax 13), .inr (5, sF (bx 0))), ((ax 14), .inr (5, sF (bx 1))), ((ax 15), .inr (5, sF (bx 2))), ((ax 16), .inr (5, sF (bx 3))), ((ax 17), .inr (5, sF (bx 4))), ((ax 6), .inr (2, [.ref (ax 18), .ref (ax 19), .ref (ax 20), .ref (ax 21), .ref (ax 22), .int 0])), ((ax 18), .inl (E 0, 60, .inl (fun _ => 0))), ((ax 19), .inl (E 0, 60, .inl (fun _ => 0))), ((ax 20), .inl (E 0, 60, .inl (fun _ => 0))), ((ax 21), .inl (E 0, 60, .inl (fun _ => 0))), ((ax 22), .inl (E 0, 60, .inl (fun _ => 0))), ((ax 9), .inr (6, [.ref (ax 23), .int 0, .ref (ax 24), .ref (E 5), .int 0, .int 0, .int 0, .int 0])), ((ax 23), .inl (E 0, 120, .inl (fun _ => 0))), ((ax 24), .inr (4, [.ref (ax 25), .ref (ax 26), .ref (ax 27), .int 0])), ((ax 10), .inr (0, [.ref (ax 28), .ref (ax 29), .ref (ax 30), .ref (ax 31), .ref (ax 32), .int 0, .int 0, .int 0, .int 0])), ((ax 28), .inl (E 0, 9, .inl (fun _ => 0))), ((cm 3), .inl (E 0, 16, .inl (fun _ => -5))), ((cm 4), .inl (E 0, 16, .inl (fun _ => 0))), ((cm 5), .inl (E 1, 6400, .inl (fun _ => 0))), ((cm 8), .inl (E 1, 6400, .inl (fun _ => 0))), ((cm 9), .inl (E 1, 6400, .inl (fun _ => 0))), ((cm 10), .inl (E 0, 6400, .inl (fun _ => 0))), ((cm 12), .inl (E 0, 60, .inl (fun _ => 0))), ((cm 13), .inl (E 0, 60, .inl (fun _ => 0))), ((cm 14), .inl (E 0, 60, .inl (fun _ => 0))), ((cm 15), .inl (E 0, 60, .inl (fun _ => 0))), ((cm 16), .inl (E 0, 60, .inl (fun _ => 0))), ((cm 32), .inl (E 2, 120, .inl (fun _ => 0))), ((cm 47), .inl (E 0, 5, .inl (fun _ => 0))), ((cm 55), .inl (E 0, 5, .inl (fun _ => 0))), ((cm 58), .inl (E 0, 3, .inl (fun _ => 0))), ((cm 62), .inl (E 0, 9, .inl (fun _ => 0)))] := hD
    rcases hw_9 with ⟨hr_10, hw_9⟩ | ⟨hr_10, hw_9⟩
    ·
      refine W_top (y := .int 1) (by rw [hr_10]) ?_
      exfalso; omega
    ·
      refine W_top (y := .int (-1)) (by rw [hr_10]) ?_
      refine lv_icmp_eq (tgt := 1550) hx hb dL_law_243 (by decide) (fun c_11 => ?_) (fun c_11 => absurd rfl c_11)
      exact law_end hx hb hr hml hown htb hX hbl hlocks hS (lv_sub hl [0, 3] rfl) (Nat.le_of_ble_eq_true rfl) (Nat.le_of_ble_eq_true rfl)
set_option maxHeartbeats 4000000 in
set_option maxRecDepth 100000 in
theorem law_2 {p : Program} {l : Launch} {e : Env} {s : State} {m : MethodId} {below : List Frame} {meth : Method} {c : Code} {D : va_G} {E : Nat → Nat} {b : Nat} {xs : Nat → Int32} {qx : Nat} {ax : Nat → Nat} {bx : Nat → Nat → Nat} {fw : Nat → Int32} {qm : Nat} {cm : Nat → Nat} {fm : Nat → Int32} {H : Heap} {locs : List Loc} {ls : Array Slot} (hx : p.tables.exec = Jvm.exec) (hb : c.code = code) (hr : meth.sig.returnType = ret) (hml : c.maxLocals = 4) (hown : s.vm.findClass R_law = some m.cls) (htb : ∀ w ∈ tb, w.before #[Value.ref b] s = true) (hK : KX D E s) (hX : va_X b 6 xs s s.heap) (hbl : b < s.heap.size) (hlocks : meth.locks = false) (hP : va_P D vwCl (LW E qx ax bx fw qm cm fm) H) (hD : va_D (fun q : Nat => s.heap.size ≤ q) (LW E qx ax bx fw qm cm fm)) (hS : va_S (fun q : Nat => s.heap.size ≤ q) s.heap H locs) (hl : lv_has ls 4 [(3, .int 0), (2, .ref qm), (1, .ref qx), (0, .ref b)]) : W p l e room_1 s m #[Value.ref b] below meth c H locs 123 44666 (lw_Z below #[Value.ref b] s) (F0 m 248 ls []) := by
  have hA : ∀ q : Nat, s.heap.size ≤ q → (fun q : Nat => s.heap.size ≤ q) q := fun _ h => h
  have hbA : ¬ (fun q : Nat => s.heap.size ≤ q) b := Nat.not_le.mpr hbl
  refine lv_aload_n hx hb dL_law_248 rfl (lv_at hl 2 rfl) ?_
  refine lv_aload_n hx hb dL_law_249 rfl (lv_at hl 3 rfl) ?_
  refine lv_iload_n hx hb dL_law_250 rfl (lv_at hl 0 rfl) ?_
  refine lv_iconst (v := 1) hx hb dL_law_251 (by decide) ?_
  refine lv_iadd hx hb dL_law_252 ?_
  refine W_top (y := .int 1) (by decide) ?_
  refine va_sld hx hb hX hbl hbA hS (g_in t_1 (by decide) (by decide)) dL_law_253 ?_
  refine W_top (y := .int (xs 1)) (congrArg (fun n => Value.int (xs n)) (by decide : (1 : Int32).toNatClampNeg = 1)) ?_
  refine lv_aload_n hx hb dL_law_254 rfl (lv_at hl 3 rfl) ?_
  refine lv_iload_n hx hb dL_law_255 rfl (lv_at hl 0 rfl) ?_
  refine lv_iconst (v := 2) hx hb dL_law_256 (by decide) ?_
  refine lv_iadd hx hb dL_law_257 ?_
  refine W_top (y := .int 2) (by decide) ?_
  refine va_sld hx hb hX hbl hbA hS (g_in t_2 (by decide) (by decide)) dL_law_258 ?_
  refine W_top (y := .int (xs 2)) (congrArg (fun n => Value.int (xs n)) (by decide : (2 : Int32).toNatClampNeg = 2)) ?_
  refine lv_aload_n hx hb dL_law_259 rfl (lv_at hl 3 rfl) ?_
  refine lv_iload_n hx hb dL_law_260 rfl (lv_at hl 0 rfl) ?_
  refine lv_iconst (v := 3) hx hb dL_law_261 (by decide) ?_
  refine lv_iadd hx hb dL_law_262 ?_
  refine W_top (y := .int 3) (by decide) ?_
  refine va_sld hx hb hX hbl hbA hS (g_in t_3 (by decide) (by decide)) dL_law_263 ?_
  refine W_top (y := .int (xs 3)) (congrArg (fun n => Value.int (xs n)) (by decide : (3 : Int32).toNatClampNeg = 3)) ?_
  have hPc := hP.sub (ws' := [(qx, .inr (8, xF ax 0)), ((ax 1), .inl (E 0, 16, .inl (fun _ => -5))), ((ax 2), .inl (E 0, 16, .inl (fun _ => 0))), ((ax 3), .inl (E 3, 16, .inr (.inr (.inr (.inr (fun _ => none))))))]) [0, 2, 3, 4] rfl
  have hDc := hD.sub (ws' := [(qx, .inr (8, xF ax 0)), ((ax 1), .inl (E 0, 16, .inl (fun _ => -5))), ((ax 2), .inl (E 0, 16, .inl (fun _ => 0))), ((ax 3), .inl (E 3, 16, .inr (.inr (.inr (.inr (fun _ => none))))))]) [0, 2, 3, 4] (by decide) rfl
  refine aft_i (runMV (rest := []) (As := [.int (xs 1), .int (xs 2), .int (xs 3)]) hx hb hml hown htb hK (c_X8_put l D E qx ax (xs 1) (xs 2) (xs 3) _ ) ok_X8_put k_329 k_330 k_331 k_1 k_332 ⟨(Nat.le_of_ble_eq_true rfl), (Nat.le_of_ble_eq_true rfl)⟩ ⟨(Nat.le_of_ble_eq_true rfl), (Nat.le_of_ble_eq_true rfl)⟩ hl.1 (Nat.le_of_ble_eq_true rfl) rfl rfl dL_law_264 hPc hDc rfl rfl 0 rfl) hP hD hS hA [0, 2, 3, 4] [1, 5, 6, 7, 8, 9, 10, 11, 12, 13, 14, 15, 16, 17, 18, 19, 20, 21, 22, 23, 24, 25, 26, 27, 28, 29, 30, 31, 32, 33, 34, 35, 36, 37, 38, 39] (wr := [((ax 0), .inl (E 0, 400, .inl fw)), ((ax 4), .inl (E 4, 5, .inr (.inr (.inr (.inr (fun j => some (ax (13 + j)))))))), ((ax 13), .inr (5, sF (bx 0))), ((ax 14), .inr (5, sF (bx 1))), ((ax 15), .inr (5, sF (bx 2))), ((ax 16), .inr (5, sF (bx 3))), ((ax 17), .inr (5, sF (bx 4))), ((ax 6), .inr (2, [.ref (ax 18), .ref (ax 19), .ref (ax 20), .ref (ax 21), .ref (ax 22), .int 0])), ((ax 18), .inl (E 0, 60, .inl (fun _ => 0))), ((ax 19), .inl (E 0, 60, .inl (fun _ => 0))), ((ax 20), .inl (E 0, 60, .inl (fun _ => 0))), ((ax 21), .inl (E 0, 60, .inl (fun _ => 0))), ((ax 22), .inl (E 0, 60, .inl (fun _ => 0))), ((ax 9), .inr (6, [.ref (ax 23), .int 0, .ref (ax 24), .ref (E 5), .int 0, .int 0, .int 0, .int 0])), ((ax 23), .inl (E 0, 120, .inl (fun _ => 0))), ((ax 24), .inr (4, [.ref (ax 25), .ref (ax 26), .ref (ax 27), .int 0])), ((ax 10), .inr (0, [.ref (ax 28), .ref (ax 29), .ref (ax 30), .ref (ax 31), .ref (ax 32), .int 0, .int 0, .int 0, .int 0])), ((ax 28), .inl (E 0, 9, .inl (fun _ => 0))), (qm, .inr (9, mF cm 0 0 0 0 0 0 0 0 0)), ((cm 2), .inl (E 0, 400, .inl fm)), ((cm 3), .inl (E 0, 16, .inl (fun _ => -5))), ((cm 4), .inl (E 0, 16, .inl (fun _ => 0))), ((cm 5), .inl (E 1, 6400, .inl (fun _ => 0))), ((cm 8), .inl (E 1, 6400, .inl (fun _ => 0))), ((cm 9), .inl (E 1, 6400, .inl (fun _ => 0))), ((cm 10), .inl (E 0, 6400, .inl (fun _ => 0))), ((cm 12), .inl (E 0, 60, .inl (fun _ => 0))), ((cm 13), .inl (E 0, 60, .inl (fun _ => 0))), ((cm 14), .inl (E 0, 60, .inl (fun _ => 0))), ((cm 15), .inl (E 0, 60, .inl (fun _ => 0))), ((cm 16), .inl (E 0, 60, .inl (fun _ => 0))), ((cm 32), .inl (E 2, 120, .inl (fun _ => 0))), ((cm 47), .inl (E 0, 5, .inl (fun _ => 0))), ((cm 55), .inl (E 0, 5, .inl (fun _ => 0))), ((cm 58), .inl (E 0, 3, .inl (fun _ => 0))), ((cm 62), .inl (E 0, 9, .inl (fun _ => 0)))]) rfl rfl (by decide) (by decide) (fun r_3 u_1 H locs hw_2 hP hD hS => ?_)
  clear hPc hDc
  have hP : va_P D vwCl [((ax 0), .inl (E 0, 400, .inl fw)), ((ax 4), .inl (E 4, 5, .inr (.inr (.inr (.inr (fun j => some (ax (13 + j)))))))), ((ax 13), .inr (5, sF (bx 0))), ((ax 14), .inr (5, sF (bx 1))), ((ax 15), .inr (5, sF (bx 2))), ((ax 16), .inr (5, sF (bx 3))), ((ax 17), .inr (5, sF (bx 4))), ((ax 6), .inr (2, [.ref (ax 18), .ref (ax 19), .ref (ax 20), .ref (ax 21), .ref (ax 22), .int 0])), ((ax 18), .inl (E 0, 60, .inl (fun _ => 0))), ((ax 19), .inl (E 0, 60, .inl (fun _ => 0))), ((ax 20), .inl (E 0, 60, .inl (fun _ => 0))), ((ax 21), .inl (E 0, 60, .inl (fun _ => 0))), ((ax 22), .inl (E 0, 60, .inl (fun _ => 0))), ((ax 9), .inr (6, [.ref (ax 23), .int 0, .ref (ax 24), .ref (E 5), .int 0, .int 0, .int 0, .int 0])), ((ax 23), .inl (E 0, 120, .inl (fun _ => 0))), ((ax 24), .inr (4, [.ref (ax 25), .ref (ax 26), .ref (ax 27), .int 0])), ((ax 10), .inr (0, [.ref (ax 28), .ref (ax 29), .ref (ax 30), .ref (ax 31), .ref (ax 32), .int 0, .int 0, .int 0, .int 0])), ((ax 28), .inl (E 0, 9, .inl (fun _ => 0))), (qm, .inr (9, mF cm 0 0 0 0 0 0 0 0 0)), ((cm 2), .inl (E 0, 400, .inl fm)), ((cm 3), .inl (E 0, 16, .inl (fun _ => -5))), ((cm 4), .inl (E 0, 16, .inl (fun _ => 0))), ((cm 5), .inl (E 1, 6400, .inl (fun _ => 0))), ((cm 8), .inl (E 1, 6400, .inl (fun _ => 0))), ((cm 9), .inl (E 1, 6400, .inl (fun _ => 0))), ((cm 10), .inl (E 0, 6400, .inl (fun _ => 0))), ((cm 12), .inl (E 0, 60, .inl (fun _ => 0))), ((cm 13), .inl (E 0, 60, .inl (fun _ => 0))), ((cm 14), .inl (E 0, 60, .inl (fun _ => 0))), ((cm 15), .inl (E 0, 60, .inl (fun _ => 0))), ((cm 16), .inl (E 0, 60, .inl (fun _ => 0))), ((cm 32), .inl (E 2, 120, .inl (fun _ => 0))), ((cm 47), .inl (E 0, 5, .inl (fun _ => 0))), ((cm 55), .inl (E 0, 5, .inl (fun _ => 0))), ((cm 58), .inl (E 0, 3, .inl (fun _ => 0))), ((cm 62), .inl (E 0, 9, .inl (fun _ => 0)))] H := hP
  have hD : va_D (fun q : Nat => s.heap.size ≤ q) [((ax 0), .inl (E 0, 400, .inl fw)), ((ax 4), .inl (E 4, 5, .inr (.inr (.inr (.inr (fun j => some (ax (13 + j)))))))), ((ax 13), .inr (5, sF (bx 0))), ((ax 14), .inr (5, sF (bx 1))), ((ax 15), .inr (5, sF (bx 2))), ((ax 16), .inr (5, sF (bx 3))), ((ax 17), .inr (5, sF (bx 4))), ((ax 6), .inr (2, [.ref (ax 18), .ref (ax 19), .ref (ax 20), .ref (ax 21), .ref (ax 22), .int 0])), ((ax 18), .inl (E 0, 60, .inl (fun _ => 0))), ((ax 19), .inl (E 0, 60, .inl (fun _ => 0))), ((ax 20), .inl (E 0, 60, .inl (fun _ => 0))), ((ax 21), .inl (E 0, 60, .inl (fun _ => 0))), ((ax 22), .inl (E 0, 60, .inl (fun _ => 0))), ((ax 9), .inr (6, [.ref (ax 23), .int 0, .ref (ax 24), .ref (E 5), .int 0, .int 0, .int 0, .int 0])), ((ax 23), .inl (E 0, 120, .inl (fun _ => 0))), ((ax 24), .inr (4, [.ref (ax 25), .ref (ax 26), .ref (ax 27), .int 0])), ((ax 10), .inr (0, [.ref (ax 28), .ref (ax 29), .ref (ax 30), .ref (ax 31), .ref (ax 32), .int 0, .int 0, .int 0, .int 0])), ((ax 28), .inl (E 0, 9, .inl (fun _ => 0))), (qm, .inr (9, mF cm 0 0 0 0 0 0 0 0 0)), ((cm 2), .inl (E 0, 400, .inl fm)), ((cm 3), .inl (E 0, 16, .inl (fun _ => -5))), ((cm 4), .inl (E 0, 16, .inl (fun _ => 0))), ((cm 5), .inl (E 1, 6400, .inl (fun _ => 0))), ((cm 8), .inl (E 1, 6400, .inl (fun _ => 0))), ((cm 9), .inl (E 1, 6400, .inl (fun _ => 0))), ((cm 10), .inl (E 0, 6400, .inl (fun _ => 0))), ((cm 12), .inl (E 0, 60, .inl (fun _ => 0))), ((cm 13), .inl (E 0, 60, .inl (fun _ => 0))), ((cm 14), .inl (E 0, 60, .inl (fun _ => 0))), ((cm 15), .inl (E 0, 60, .inl (fun _ => 0))), ((cm 16), .inl (E 0, 60, .inl (fun _ => 0))), ((cm 32), .inl (E 2, 120, .inl (fun _ => 0))), ((cm 47), .inl (E 0, 5, .inl (fun _ => 0))), ((cm 55), .inl (E 0, 5, .inl (fun _ => 0))), ((cm 58), .inl (E 0, 3, .inl (fun _ => 0))), ((cm 62), .inl (E 0, 9, .inl (fun _ => 0)))] := hD
  refine W.widen (k := 128) (n := 46270) (Nat.le_of_ble_eq_true rfl) (Nat.le_of_ble_eq_true rfl) ?_
  rcases hw_2 with ⟨hr_3, hw_2⟩ | ⟨hr_3, hw_2⟩
  ·
    refine W_top (y := .int 1) (by rw [hr_3]) ?_
    refine lv_aload_n hx hb dL_law_267 rfl (lv_at hl 1 rfl) ?_
    refine lv_aload_n hx hb dL_law_268 rfl (lv_at hl 3 rfl) ?_
    refine lv_iload_n hx hb dL_law_269 rfl (lv_at hl 0 rfl) ?_
    refine lv_iconst (v := 1) hx hb dL_law_270 (by decide) ?_
    refine lv_iadd hx hb dL_law_271 ?_
    refine W_top (y := .int 1) (by decide) ?_
    refine va_sld hx hb hX hbl hbA hS (g_in t_1 (by decide) (by decide)) dL_law_272 ?_
    refine W_top (y := .int (xs 1)) (congrArg (fun n => Value.int (xs n)) (by decide : (1 : Int32).toNatClampNeg = 1)) ?_
    refine lv_aload_n hx hb dL_law_273 rfl (lv_at hl 3 rfl) ?_
    refine lv_iload_n hx hb dL_law_274 rfl (lv_at hl 0 rfl) ?_
    refine lv_iconst (v := 2) hx hb dL_law_275 (by decide) ?_
    refine lv_iadd hx hb dL_law_276 ?_
    refine W_top (y := .int 2) (by decide) ?_
    refine va_sld hx hb hX hbl hbA hS (g_in t_2 (by decide) (by decide)) dL_law_277 ?_
    refine W_top (y := .int (xs 2)) (congrArg (fun n => Value.int (xs n)) (by decide : (2 : Int32).toNatClampNeg = 2)) ?_
    refine lv_aload_n hx hb dL_law_278 rfl (lv_at hl 3 rfl) ?_
    refine lv_iload_n hx hb dL_law_279 rfl (lv_at hl 0 rfl) ?_
    refine lv_iconst (v := 3) hx hb dL_law_280 (by decide) ?_
    refine lv_iadd hx hb dL_law_281 ?_
    refine W_top (y := .int 3) (by decide) ?_
    refine va_sld hx hb hX hbl hbA hS (g_in t_3 (by decide) (by decide)) dL_law_282 ?_
    refine W_top (y := .int (xs 3)) (congrArg (fun n => Value.int (xs n)) (by decide : (3 : Int32).toNatClampNeg = 3)) ?_
    have hPc := hP.sub (ws' := [(qm, .inr (9, mF cm 0 0 0 0 0 0 0 0 0)), ((cm 3), .inl (E 0, 16, .inl (fun _ => -5))), ((cm 4), .inl (E 0, 16, .inl (fun _ => 0))), ((cm 5), .inl (E 1, 6400, .inl (fun _ => 0))), ((cm 8), .inl (E 1, 6400, .inl (fun _ => 0))), ((cm 9), .inl (E 1, 6400, .inl (fun _ => 0))), ((cm 10), .inl (E 0, 6400, .inl (fun _ => 0)))]) [18, 20, 21, 22, 23, 24, 25] rfl
    have hDc := hD.sub (ws' := [(qm, .inr (9, mF cm 0 0 0 0 0 0 0 0 0)), ((cm 3), .inl (E 0, 16, .inl (fun _ => -5))), ((cm 4), .inl (E 0, 16, .inl (fun _ => 0))), ((cm 5), .inl (E 1, 6400, .inl (fun _ => 0))), ((cm 8), .inl (E 1, 6400, .inl (fun _ => 0))), ((cm 9), .inl (E 1, 6400, .inl (fun _ => 0))), ((cm 10), .inl (E 0, 6400, .inl (fun _ => 0)))]) [18, 20, 21, 22, 23, 24, 25] (by decide) rfl
    refine aft_i (runMV (rest := [.int 1]) (As := [.int (xs 1), .int (xs 2), .int (xs 3)]) hx hb hml hown htb hK (c_X9_put l D E qm cm (xs 1) (xs 2) (xs 3) _ ) ok_X9_put k_1178 k_1179 k_1180 k_9 k_1181 ⟨(Nat.le_of_ble_eq_true rfl), (Nat.le_of_ble_eq_true rfl)⟩ ⟨(Nat.le_of_ble_eq_true rfl), (Nat.le_of_ble_eq_true rfl)⟩ hl.1 (Nat.le_of_ble_eq_true rfl) rfl rfl dL_law_283 hPc hDc rfl rfl 0 rfl) hP hD hS hA [18, 20, 21, 22, 23, 24, 25] [0, 1, 2, 3, 4, 5, 6, 7, 8, 9, 10, 11, 12, 13, 14, 15, 16, 17, 19, 26, 27, 28, 29, 30, 31, 32, 33, 34, 35] (wr := [((ax 0), .inl (E 0, 400, .inl fw)), ((ax 4), .inl (E 4, 5, .inr (.inr (.inr (.inr (fun j => some (ax (13 + j)))))))), ((ax 13), .inr (5, sF (bx 0))), ((ax 14), .inr (5, sF (bx 1))), ((ax 15), .inr (5, sF (bx 2))), ((ax 16), .inr (5, sF (bx 3))), ((ax 17), .inr (5, sF (bx 4))), ((ax 6), .inr (2, [.ref (ax 18), .ref (ax 19), .ref (ax 20), .ref (ax 21), .ref (ax 22), .int 0])), ((ax 18), .inl (E 0, 60, .inl (fun _ => 0))), ((ax 19), .inl (E 0, 60, .inl (fun _ => 0))), ((ax 20), .inl (E 0, 60, .inl (fun _ => 0))), ((ax 21), .inl (E 0, 60, .inl (fun _ => 0))), ((ax 22), .inl (E 0, 60, .inl (fun _ => 0))), ((ax 9), .inr (6, [.ref (ax 23), .int 0, .ref (ax 24), .ref (E 5), .int 0, .int 0, .int 0, .int 0])), ((ax 23), .inl (E 0, 120, .inl (fun _ => 0))), ((ax 24), .inr (4, [.ref (ax 25), .ref (ax 26), .ref (ax 27), .int 0])), ((ax 10), .inr (0, [.ref (ax 28), .ref (ax 29), .ref (ax 30), .ref (ax 31), .ref (ax 32), .int 0, .int 0, .int 0, .int 0])), ((ax 28), .inl (E 0, 9, .inl (fun _ => 0))), ((cm 2), .inl (E 0, 400, .inl fm)), ((cm 12), .inl (E 0, 60, .inl (fun _ => 0))), ((cm 13), .inl (E 0, 60, .inl (fun _ => 0))), ((cm 14), .inl (E 0, 60, .inl (fun _ => 0))), ((cm 15), .inl (E 0, 60, .inl (fun _ => 0))), ((cm 16), .inl (E 0, 60, .inl (fun _ => 0))), ((cm 32), .inl (E 2, 120, .inl (fun _ => 0))), ((cm 47), .inl (E 0, 5, .inl (fun _ => 0))), ((cm 55), .inl (E 0, 5, .inl (fun _ => 0))), ((cm 58), .inl (E 0, 3, .inl (fun _ => 0))), ((cm 62), .inl (E 0, 9, .inl (fun _ => 0)))]) rfl rfl (by decide) (by decide) (fun r_6 u_4 H locs hw_5 hP hD hS => ?_)
    clear hPc hDc
    have hP : va_P D vwCl [((ax 0), .inl (E 0, 400, .inl fw)), ((ax 4), .inl (E 4, 5, .inr (.inr (.inr (.inr (fun j => some (ax (13 + j)))))))), ((ax 13), .inr (5, sF (bx 0))), ((ax 14), .inr (5, sF (bx 1))), ((ax 15), .inr (5, sF (bx 2))), ((ax 16), .inr (5, sF (bx 3))), ((ax 17), .inr (5, sF (bx 4))), ((ax 6), .inr (2, [.ref (ax 18), .ref (ax 19), .ref (ax 20), .ref (ax 21), .ref (ax 22), .int 0])), ((ax 18), .inl (E 0, 60, .inl (fun _ => 0))), ((ax 19), .inl (E 0, 60, .inl (fun _ => 0))), ((ax 20), .inl (E 0, 60, .inl (fun _ => 0))), ((ax 21), .inl (E 0, 60, .inl (fun _ => 0))), ((ax 22), .inl (E 0, 60, .inl (fun _ => 0))), ((ax 9), .inr (6, [.ref (ax 23), .int 0, .ref (ax 24), .ref (E 5), .int 0, .int 0, .int 0, .int 0])), ((ax 23), .inl (E 0, 120, .inl (fun _ => 0))), ((ax 24), .inr (4, [.ref (ax 25), .ref (ax 26), .ref (ax 27), .int 0])), ((ax 10), .inr (0, [.ref (ax 28), .ref (ax 29), .ref (ax 30), .ref (ax 31), .ref (ax 32), .int 0, .int 0, .int 0, .int 0])), ((ax 28), .inl (E 0, 9, .inl (fun _ => 0))), ((cm 2), .inl (E 0, 400, .inl fm)), ((cm 12), .inl (E 0, 60, .inl (fun _ => 0))), ((cm 13), .inl (E 0, 60, .inl (fun _ => 0))), ((cm 14), .inl (E 0, 60, .inl (fun _ => 0))), ((cm 15), .inl (E 0, 60, .inl (fun _ => 0))), ((cm 16), .inl (E 0, 60, .inl (fun _ => 0))), ((cm 32), .inl (E 2, 120, .inl (fun _ => 0))), ((cm 47), .inl (E 0, 5, .inl (fun _ => 0))), ((cm 55), .inl (E 0, 5, .inl (fun _ => 0))), ((cm 58), .inl (E 0, 3, .inl (fun _ => 0))), ((cm 62), .inl (E 0, 9, .inl (fun _ => 0)))] H := hP
    have hD : va_D (fun q : Nat => s.heap.size ≤ q) [((ax 0), .inl (E 0, 400, .inl fw)), ((ax 4), .inl (E 4, 5, .inr (.inr (.inr (.inr (fun j => some (ax (13 + j)))))))), ((ax 13), .inr (5, sF (bx 0))), ((ax 14), .inr (5, sF (bx 1))), ((ax 15), .inr (5, sF (bx 2))), ((ax 16), .inr (5, sF (bx 3))), ((ax 17), .inr (5, sF (bx 4))), ((ax 6), .inr (2, [.ref (ax 18), .ref (ax 19), .ref (ax 20), .ref (ax 21), .ref (ax 22), .int 0])), ((ax 18), .inl (E 0, 60, .inl (fun _ => 0))), ((ax 19), .inl (E 0, 60, .inl (fun _ => 0))), ((ax 20), .inl (E 0, 60, .inl (fun _ => 0))), ((ax 21), .inl (E 0, 60, .inl (fun _ => 0))), ((ax 22), .inl (E 0, 60, .inl (fun _ => 0))), ((ax 9), .inr (6, [.ref (ax 23), .int 0, .ref (ax 24), .ref (E 5), .int 0, .int 0, .int 0, .int 0])), ((ax 23), .inl (E 0, 120, .inl (fun _ => 0))), ((ax 24), .inr (4, [.ref (ax 25), .ref (ax 26), .ref (ax 27), .int 0])), ((ax 10), .inr (0, [.ref (ax 28), .ref (ax 29), .ref (ax 30), .ref (ax 31), .ref (ax 32), .int 0, .int 0, .int 0, .int 0])), ((ax 28), .inl (E 0, 9, .inl (fun _ => 0))), ((cm 2), .inl (E 0, 400, .inl fm)), ((cm 12), .inl (E 0, 60, .inl (fun _ => 0))), ((cm 13), .inl (E 0, 60, .inl (fun _ => 0))), ((cm 14), .inl (E 0, 60, .inl (fun _ => 0))), ((cm 15), .inl (E 0, 60, .inl (fun _ => 0))), ((cm 16), .inl (E 0, 60, .inl (fun _ => 0))), ((cm 32), .inl (E 2, 120, .inl (fun _ => 0))), ((cm 47), .inl (E 0, 5, .inl (fun _ => 0))), ((cm 55), .inl (E 0, 5, .inl (fun _ => 0))), ((cm 58), .inl (E 0, 3, .inl (fun _ => 0))), ((cm 62), .inl (E 0, 9, .inl (fun _ => 0)))] := hD
    rcases hw_5 with ⟨hr_6, hw_5⟩ | ⟨hr_6, hw_5⟩
    ·
      refine W_top (y := .int 1) (by rw [hr_6]) ?_
      refine lv_icmp_eq (tgt := 1550) hx hb dL_law_286 (by decide) (fun c_7 => ?_) (fun c_7 => absurd rfl c_7)
      exact law_end hx hb hr hml hown htb hX hbl hlocks hS (lv_sub hl [0, 3] rfl) (Nat.le_of_ble_eq_true rfl) (Nat.le_of_ble_eq_true rfl)
    ·
      refine W_top (y := .int (-1)) (by rw [hr_6]) ?_
      exfalso; omega
  ·
    refine W_top (y := .int (-1)) (by rw [hr_3]) ?_
    refine lv_aload_n hx hb dL_law_267 rfl (lv_at hl 1 rfl) ?_
    refine lv_aload_n hx hb dL_law_268 rfl (lv_at hl 3 rfl) ?_
    refine lv_iload_n hx hb dL_law_269 rfl (lv_at hl 0 rfl) ?_
    refine lv_iconst (v := 1) hx hb dL_law_270 (by decide) ?_
    refine lv_iadd hx hb dL_law_271 ?_
    refine W_top (y := .int 1) (by decide) ?_
    refine va_sld hx hb hX hbl hbA hS (g_in t_1 (by decide) (by decide)) dL_law_272 ?_
    refine W_top (y := .int (xs 1)) (congrArg (fun n => Value.int (xs n)) (by decide : (1 : Int32).toNatClampNeg = 1)) ?_
    refine lv_aload_n hx hb dL_law_273 rfl (lv_at hl 3 rfl) ?_
    refine lv_iload_n hx hb dL_law_274 rfl (lv_at hl 0 rfl) ?_
    refine lv_iconst (v := 2) hx hb dL_law_275 (by decide) ?_
    refine lv_iadd hx hb dL_law_276 ?_
    refine W_top (y := .int 2) (by decide) ?_
    refine va_sld hx hb hX hbl hbA hS (g_in t_2 (by decide) (by decide)) dL_law_277 ?_
    refine W_top (y := .int (xs 2)) (congrArg (fun n => Value.int (xs n)) (by decide : (2 : Int32).toNatClampNeg = 2)) ?_
    refine lv_aload_n hx hb dL_law_278 rfl (lv_at hl 3 rfl) ?_
    refine lv_iload_n hx hb dL_law_279 rfl (lv_at hl 0 rfl) ?_
    refine lv_iconst (v := 3) hx hb dL_law_280 (by decide) ?_
    refine lv_iadd hx hb dL_law_281 ?_
    refine W_top (y := .int 3) (by decide) ?_
    refine va_sld hx hb hX hbl hbA hS (g_in t_3 (by decide) (by decide)) dL_law_282 ?_
    refine W_top (y := .int (xs 3)) (congrArg (fun n => Value.int (xs n)) (by decide : (3 : Int32).toNatClampNeg = 3)) ?_
    have hPc := hP.sub (ws' := [(qm, .inr (9, mF cm 0 0 0 0 0 0 0 0 0)), ((cm 3), .inl (E 0, 16, .inl (fun _ => -5))), ((cm 4), .inl (E 0, 16, .inl (fun _ => 0))), ((cm 5), .inl (E 1, 6400, .inl (fun _ => 0))), ((cm 8), .inl (E 1, 6400, .inl (fun _ => 0))), ((cm 9), .inl (E 1, 6400, .inl (fun _ => 0))), ((cm 10), .inl (E 0, 6400, .inl (fun _ => 0)))]) [18, 20, 21, 22, 23, 24, 25] rfl
    have hDc := hD.sub (ws' := [(qm, .inr (9, mF cm 0 0 0 0 0 0 0 0 0)), ((cm 3), .inl (E 0, 16, .inl (fun _ => -5))), ((cm 4), .inl (E 0, 16, .inl (fun _ => 0))), ((cm 5), .inl (E 1, 6400, .inl (fun _ => 0))), ((cm 8), .inl (E 1, 6400, .inl (fun _ => 0))), ((cm 9), .inl (E 1, 6400, .inl (fun _ => 0))), ((cm 10), .inl (E 0, 6400, .inl (fun _ => 0)))]) [18, 20, 21, 22, 23, 24, 25] (by decide) rfl
    refine aft_i (runMV (rest := [.int (-1)]) (As := [.int (xs 1), .int (xs 2), .int (xs 3)]) hx hb hml hown htb hK (c_X9_put l D E qm cm (xs 1) (xs 2) (xs 3) _ ) ok_X9_put k_1178 k_1179 k_1180 k_9 k_1181 ⟨(Nat.le_of_ble_eq_true rfl), (Nat.le_of_ble_eq_true rfl)⟩ ⟨(Nat.le_of_ble_eq_true rfl), (Nat.le_of_ble_eq_true rfl)⟩ hl.1 (Nat.le_of_ble_eq_true rfl) rfl rfl dL_law_283 hPc hDc rfl rfl 0 rfl) hP hD hS hA [18, 20, 21, 22, 23, 24, 25] [0, 1, 2, 3, 4, 5, 6, 7, 8, 9, 10, 11, 12, 13, 14, 15, 16, 17, 19, 26, 27, 28, 29, 30, 31, 32, 33, 34, 35] (wr := [((ax 0), .inl (E 0, 400, .inl fw)), ((ax 4), .inl (E 4, 5, .inr (.inr (.inr (.inr (fun j => some (ax (13 + j)))))))), ((ax 13), .inr (5, sF (bx 0))), ((ax 14), .inr (5, sF (bx 1))), ((ax 15), .inr (5, sF (bx 2))), ((ax 16), .inr (5, sF (bx 3))), ((ax 17), .inr (5, sF (bx 4))), ((ax 6), .inr (2, [.ref (ax 18), .ref (ax 19), .ref (ax 20), .ref (ax 21), .ref (ax 22), .int 0])), ((ax 18), .inl (E 0, 60, .inl (fun _ => 0))), ((ax 19), .inl (E 0, 60, .inl (fun _ => 0))), ((ax 20), .inl (E 0, 60, .inl (fun _ => 0))), ((ax 21), .inl (E 0, 60, .inl (fun _ => 0))), ((ax 22), .inl (E 0, 60, .inl (fun _ => 0))), ((ax 9), .inr (6, [.ref (ax 23), .int 0, .ref (ax 24), .ref (E 5), .int 0, .int 0, .int 0, .int 0])), ((ax 23), .inl (E 0, 120, .inl (fun _ => 0))), ((ax 24), .inr (4, [.ref (ax 25), .ref (ax 26), .ref (ax 27), .int 0])), ((ax 10), .inr (0, [.ref (ax 28), .ref (ax 29), .ref (ax 30), .ref (ax 31), .ref (ax 32), .int 0, .int 0, .int 0, .int 0])), ((ax 28), .inl (E 0, 9, .inl (fun _ => 0))), ((cm 2), .inl (E 0, 400, .inl fm)), ((cm 12), .inl (E 0, 60, .inl (fun _ => 0))), ((cm 13), .inl (E 0, 60, .inl (fun _ => 0))), ((cm 14), .inl (E 0, 60, .inl (fun _ => 0))), ((cm 15), .inl (E 0, 60, .inl (fun _ => 0))), ((cm 16), .inl (E 0, 60, .inl (fun _ => 0))), ((cm 32), .inl (E 2, 120, .inl (fun _ => 0))), ((cm 47), .inl (E 0, 5, .inl (fun _ => 0))), ((cm 55), .inl (E 0, 5, .inl (fun _ => 0))), ((cm 58), .inl (E 0, 3, .inl (fun _ => 0))), ((cm 62), .inl (E 0, 9, .inl (fun _ => 0)))]) rfl rfl (by decide) (by decide) (fun r_10 u_8 H locs hw_9 hP hD hS => ?_)
    clear hPc hDc
    have hP : va_P D vwCl [((ax 0), .inl (E 0, 400, .inl fw)), ((ax 4), .inl (E 4, 5, .inr (.inr (.inr (.inr (fun j => some (ax (13 + j)))))))), ((ax 13), .inr (5, sF (bx 0))), ((ax 14), .inr (5, sF (bx 1))), ((ax 15), .inr (5, sF (bx 2))), ((ax 16), .inr (5, sF (bx 3))), ((ax 17), .inr (5, sF (bx 4))), ((ax 6), .inr (2, [.ref (ax 18), .ref (ax 19), .ref (ax 20), .ref (ax 21), .ref (ax 22), .int 0])), ((ax 18), .inl (E 0, 60, .inl (fun _ => 0))), ((ax 19), .inl (E 0, 60, .inl (fun _ => 0))), ((ax 20), .inl (E 0, 60, .inl (fun _ => 0))), ((ax 21), .inl (E 0, 60, .inl (fun _ => 0))), ((ax 22), .inl (E 0, 60, .inl (fun _ => 0))), ((ax 9), .inr (6, [.ref (ax 23), .int 0, .ref (ax 24), .ref (E 5), .int 0, .int 0, .int 0, .int 0])), ((ax 23), .inl (E 0, 120, .inl (fun _ => 0))), ((ax 24), .inr (4, [.ref (ax 25), .ref (ax 26), .ref (ax 27), .int 0])), ((ax 10), .inr (0, [.ref (ax 28), .ref (ax 29), .ref (ax 30), .ref (ax 31), .ref (ax 32), .int 0, .int 0, .int 0, .int 0])), ((ax 28), .inl (E 0, 9, .inl (fun _ => 0))), ((cm 2), .inl (E 0, 400, .inl fm)), ((cm 12), .inl (E 0, 60, .inl (fun _ => 0))), ((cm 13), .inl (E 0, 60, .inl (fun _ => 0))), ((cm 14), .inl (E 0, 60, .inl (fun _ => 0))), ((cm 15), .inl (E 0, 60, .inl (fun _ => 0))), ((cm 16), .inl (E 0, 60, .inl (fun _ => 0))), ((cm 32), .inl (E 2, 120, .inl (fun _ => 0))), ((cm 47), .inl (E 0, 5, .inl (fun _ => 0))), ((cm 55), .inl (E 0, 5, .inl (fun _ => 0))), ((cm 58), .inl (E 0, 3, .inl (fun _ => 0))), ((cm 62), .inl (E 0, 9, .inl (fun _ => 0)))] H := hP
    have hD : va_D (fun q : Nat => s.heap.size ≤ q) [((ax 0), .inl (E 0, 400, .inl fw)), ((ax 4), .inl (E 4, 5, .inr (.inr (.inr (.inr (fun j => some (ax (13 + j)))))))), ((ax 13), .inr (5, sF (bx 0))), ((ax 14), .inr (5, sF (bx 1))), ((ax 15), .inr (5, sF (bx 2))), ((ax 16), .inr (5, sF (bx 3))), ((ax 17), .inr (5, sF (bx 4))), ((ax 6), .inr (2, [.ref (ax 18), .ref (ax 19), .ref (ax 20), .ref (ax 21), .ref (ax 22), .int 0])), ((ax 18), .inl (E 0, 60, .inl (fun _ => 0))), ((ax 19), .inl (E 0, 60, .inl (fun _ => 0))), ((ax 20), .inl (E 0, 60, .inl (fun _ => 0))), ((ax 21), .inl (E 0, 60, .inl (fun _ => 0))), ((ax 22), .inl (E 0, 60, .inl (fun _ => 0))), ((ax 9), .inr (6, [.ref (ax 23), .int 0, .ref (ax 24), .ref (E 5), .int 0, .int 0, .int 0, .int 0])), ((ax 23), .inl (E 0, 120, .inl (fun _ => 0))), ((ax 24), .inr (4, [.ref (ax 25), .ref (ax 26), .ref (ax 27), .int 0])), ((ax 10), .inr (0, [.ref (ax 28), .ref (ax 29), .ref (ax 30), .ref (ax 31), .ref (ax 32), .int 0, .int 0, .int 0, .int 0])), ((ax 28), .inl (E 0, 9, .inl (fun _ => 0))), ((cm 2), .inl (E 0, 400, .inl fm)), ((cm 12), .inl (E 0, 60, .inl (fun _ => 0))), ((cm 13), .inl (E 0, 60, .inl (fun _ => 0))), ((cm 14), .inl (E 0, 60, .inl (fun _ => 0))), ((cm 15), .inl (E 0, 60, .inl (fun _ => 0))), ((cm 16), .inl (E 0, 60, .inl (fun _ => 0))), ((cm 32), .inl (E 2, 120, .inl (fun _ => 0))), ((cm 47), .inl (E 0, 5, .inl (fun _ => 0))), ((cm 55), .inl (E 0, 5, .inl (fun _ => 0))), ((cm 58), .inl (E 0, 3, .inl (fun _ => 0))), ((cm 62), .inl (E 0, 9, .inl (fun _ => 0)))] := hD
    rcases hw_9 with ⟨hr_10, hw_9⟩ | ⟨hr_10, hw_9⟩
    ·
      refine W_top (y := .int 1) (by rw [hr_10]) ?_
      exfalso; omega
    ·
      refine W_top (y := .int (-1)) (by rw [hr_10]) ?_
      refine lv_icmp_eq (tgt := 1550) hx hb dL_law_286 (by decide) (fun c_11 => ?_) (fun c_11 => absurd rfl c_11)
      exact law_end hx hb hr hml hown htb hX hbl hlocks hS (lv_sub hl [0, 3] rfl) (Nat.le_of_ble_eq_true rfl) (Nat.le_of_ble_eq_true rfl)
set_option maxHeartbeats 4000000 in
set_option maxRecDepth 100000 in
theorem law_3 {p : Program} {l : Launch} {e : Env} {s : State} {m : MethodId} {below : List Frame} {meth : Method} {c : Code} {D : va_G} {E : Nat → Nat} {b : Nat} {xs : Nat → Int32} {qx : Nat} {ax : Nat → Nat} {bx : Nat → Nat → Nat} {fw : Nat → Int32} {qm : Nat} {cm : Nat → Nat} {fm : Nat → Int32} {H : Heap} {locs : List Loc} {ls : Array Slot} (hx : p.tables.exec = Jvm.exec) (hb : c.code = code) (hr : meth.sig.returnType = ret) (hml : c.maxLocals = 4) (hown : s.vm.findClass R_law = some m.cls) (htb : ∀ w ∈ tb, w.before #[Value.ref b] s = true) (hK : KX D E s) (hX : va_X b 6 xs s s.heap) (hbl : b < s.heap.size) (hlocks : meth.locks = false) (hP : va_P D vwCl (LW E qx ax bx fw qm cm fm) H) (hD : va_D (fun q : Nat => s.heap.size ≤ q) (LW E qx ax bx fw qm cm fm)) (hS : va_S (fun q : Nat => s.heap.size ≤ q) s.heap H locs) (hl : lv_has ls 4 [(3, .int 0), (2, .ref qm), (1, .ref qx), (0, .ref b)]) : W p l e room_1 s m #[Value.ref b] below meth c H locs 123 44666 (lw_Z below #[Value.ref b] s) (F0 m 291 ls []) := by
  have hA : ∀ q : Nat, s.heap.size ≤ q → (fun q : Nat => s.heap.size ≤ q) q := fun _ h => h
  have hbA : ¬ (fun q : Nat => s.heap.size ≤ q) b := Nat.not_le.mpr hbl
  refine lv_aload_n hx hb dL_law_291 rfl (lv_at hl 2 rfl) ?_
  refine lv_aload_n hx hb dL_law_292 rfl (lv_at hl 3 rfl) ?_
  refine lv_iload_n hx hb dL_law_293 rfl (lv_at hl 0 rfl) ?_
  refine lv_iconst (v := 1) hx hb dL_law_294 (by decide) ?_
  refine lv_iadd hx hb dL_law_295 ?_
  refine W_top (y := .int 1) (by decide) ?_
  refine va_sld hx hb hX hbl hbA hS (g_in t_1 (by decide) (by decide)) dL_law_296 ?_
  refine W_top (y := .int (xs 1)) (congrArg (fun n => Value.int (xs n)) (by decide : (1 : Int32).toNatClampNeg = 1)) ?_
  refine callRV (rest := []) (As := [.int (xs 1)]) hx hb hml hown htb hK (c_X8_take l D E qx ax (xs 1) ) ok_X8_take k_365 k_366 k_367 k_1 k_368 ⟨(Nat.le_of_ble_eq_true rfl), (Nat.le_of_ble_eq_true rfl)⟩ ⟨(Nat.le_of_ble_eq_true rfl), (Nat.le_of_ble_eq_true rfl)⟩ hl.1 (Nat.le_of_ble_eq_true rfl) rfl rfl dL_law_297 (hP.sub (ws' := [(qx, .inr (8, xF ax 0)), ((ax 1), .inl (E 0, 16, .inl (fun _ => -5)))]) [0, 2] rfl) rfl rfl 0 rfl (fun r_2 hw_1 => ?_)
  rcases hw_1 with ⟨hr_2, hw_1⟩ | ⟨hr_2, hw_1⟩
  ·
    refine W_top (y := .int (-2)) (by rw [hr_2]) ?_
    refine lv_aload_n hx hb dL_law_300 rfl (lv_at hl 1 rfl) ?_
    refine lv_aload_n hx hb dL_law_301 rfl (lv_at hl 3 rfl) ?_
    refine lv_iload_n hx hb dL_law_302 rfl (lv_at hl 0 rfl) ?_
    refine lv_iconst (v := 1) hx hb dL_law_303 (by decide) ?_
    refine lv_iadd hx hb dL_law_304 ?_
    refine W_top (y := .int 1) (by decide) ?_
    refine va_sld hx hb hX hbl hbA hS (g_in t_1 (by decide) (by decide)) dL_law_305 ?_
    refine W_top (y := .int (xs 1)) (congrArg (fun n => Value.int (xs n)) (by decide : (1 : Int32).toNatClampNeg = 1)) ?_
    refine callRV (rest := [.int (-2)]) (As := [.int (xs 1)]) hx hb hml hown htb hK (c_X9_take l D E qm cm (xs 1) ) ok_X9_take k_1185 k_1186 k_1187 k_9 k_1188 ⟨(Nat.le_of_ble_eq_true rfl), (Nat.le_of_ble_eq_true rfl)⟩ ⟨(Nat.le_of_ble_eq_true rfl), (Nat.le_of_ble_eq_true rfl)⟩ hl.1 (Nat.le_of_ble_eq_true rfl) rfl rfl dL_law_306 (hP.sub (ws' := [(qm, .inr (9, mF cm 0 0 0 0 0 0 0 0 0)), ((cm 3), .inl (E 0, 16, .inl (fun _ => -5)))]) [22, 24] rfl) rfl rfl 0 rfl (fun r_4 hw_3 => ?_)
    rcases hw_3 with ⟨hr_4, hw_3⟩ | ⟨hr_4, hw_3⟩
    ·
      refine W_top (y := .int (-2)) (by rw [hr_4]) ?_
      refine lv_icmp_eq (tgt := 1550) hx hb dL_law_309 (by decide) (fun c_5 => ?_) (fun c_5 => absurd rfl c_5)
      exact law_end hx hb hr hml hown htb hX hbl hlocks hS (lv_sub hl [0, 3] rfl) (Nat.le_of_ble_eq_true rfl) (Nat.le_of_ble_eq_true rfl)
    ·
      refine W_top (y := .int (-1)) (by rw [hr_4]) ?_
      exfalso; omega
  ·
    refine W_top (y := .int (-1)) (by rw [hr_2]) ?_
    refine lv_aload_n hx hb dL_law_300 rfl (lv_at hl 1 rfl) ?_
    refine lv_aload_n hx hb dL_law_301 rfl (lv_at hl 3 rfl) ?_
    refine lv_iload_n hx hb dL_law_302 rfl (lv_at hl 0 rfl) ?_
    refine lv_iconst (v := 1) hx hb dL_law_303 (by decide) ?_
    refine lv_iadd hx hb dL_law_304 ?_
    refine W_top (y := .int 1) (by decide) ?_
    refine va_sld hx hb hX hbl hbA hS (g_in t_1 (by decide) (by decide)) dL_law_305 ?_
    refine W_top (y := .int (xs 1)) (congrArg (fun n => Value.int (xs n)) (by decide : (1 : Int32).toNatClampNeg = 1)) ?_
    refine callRV (rest := [.int (-1)]) (As := [.int (xs 1)]) hx hb hml hown htb hK (c_X9_take l D E qm cm (xs 1) ) ok_X9_take k_1185 k_1186 k_1187 k_9 k_1188 ⟨(Nat.le_of_ble_eq_true rfl), (Nat.le_of_ble_eq_true rfl)⟩ ⟨(Nat.le_of_ble_eq_true rfl), (Nat.le_of_ble_eq_true rfl)⟩ hl.1 (Nat.le_of_ble_eq_true rfl) rfl rfl dL_law_306 (hP.sub (ws' := [(qm, .inr (9, mF cm 0 0 0 0 0 0 0 0 0)), ((cm 3), .inl (E 0, 16, .inl (fun _ => -5)))]) [22, 24] rfl) rfl rfl 0 rfl (fun r_7 hw_6 => ?_)
    rcases hw_6 with ⟨hr_7, hw_6⟩ | ⟨hr_7, hw_6⟩
    ·
      refine W_top (y := .int (-2)) (by rw [hr_7]) ?_
      exfalso; omega
    ·
      refine W_top (y := .int (-1)) (by rw [hr_7]) ?_
      refine lv_icmp_eq (tgt := 1550) hx hb dL_law_309 (by decide) (fun c_8 => ?_) (fun c_8 => absurd rfl c_8)
      exact law_end hx hb hr hml hown htb hX hbl hlocks hS (lv_sub hl [0, 3] rfl) (Nat.le_of_ble_eq_true rfl) (Nat.le_of_ble_eq_true rfl)
set_option maxHeartbeats 4000000 in
set_option maxRecDepth 100000 in
theorem law_4 {p : Program} {l : Launch} {e : Env} {s : State} {m : MethodId} {below : List Frame} {meth : Method} {c : Code} {D : va_G} {E : Nat → Nat} {b : Nat} {xs : Nat → Int32} {qx : Nat} {ax : Nat → Nat} {bx : Nat → Nat → Nat} {fw : Nat → Int32} {qm : Nat} {cm : Nat → Nat} {fm : Nat → Int32} {H : Heap} {locs : List Loc} {ls : Array Slot} (hx : p.tables.exec = Jvm.exec) (hb : c.code = code) (hr : meth.sig.returnType = ret) (hml : c.maxLocals = 4) (hown : s.vm.findClass R_law = some m.cls) (htb : ∀ w ∈ tb, w.before #[Value.ref b] s = true) (hK : KX D E s) (hX : va_X b 6 xs s s.heap) (hbl : b < s.heap.size) (hlocks : meth.locks = false) (hP : va_P D vwCl (LW E qx ax bx fw qm cm fm) H) (hD : va_D (fun q : Nat => s.heap.size ≤ q) (LW E qx ax bx fw qm cm fm)) (hS : va_S (fun q : Nat => s.heap.size ≤ q) s.heap H locs) (hl : lv_has ls 4 [(3, .int 0), (2, .ref qm), (1, .ref qx), (0, .ref b)]) : W p l e room_1 s m #[Value.ref b] below meth c H locs 123 44666 (lw_Z below #[Value.ref b] s) (F0 m 314 ls []) := by
  have hA : ∀ q : Nat, s.heap.size ≤ q → (fun q : Nat => s.heap.size ≤ q) q := fun _ h => h
  have hbA : ¬ (fun q : Nat => s.heap.size ≤ q) b := Nat.not_le.mpr hbl
  refine lv_aload_n hx hb dL_law_314 rfl (lv_at hl 2 rfl) ?_
  refine lv_aload_n hx hb dL_law_315 rfl (lv_at hl 3 rfl) ?_
  refine lv_iload_n hx hb dL_law_316 rfl (lv_at hl 0 rfl) ?_
  refine lv_iconst (v := 1) hx hb dL_law_317 (by decide) ?_
  refine lv_iadd hx hb dL_law_318 ?_
  refine W_top (y := .int 1) (by decide) ?_
  refine va_sld hx hb hX hbl hbA hS (g_in t_1 (by decide) (by decide)) dL_law_319 ?_
  refine W_top (y := .int (xs 1)) (congrArg (fun n => Value.int (xs n)) (by decide : (1 : Int32).toNatClampNeg = 1)) ?_
  refine callRV (rest := []) (As := [.int (xs 1)]) hx hb hml hown htb hK (c_X8_holds l D E qx ax (xs 1) ) ok_X8_holds k_378 k_379 k_380 k_1 k_381 ⟨(Nat.le_of_ble_eq_true rfl), (Nat.le_of_ble_eq_true rfl)⟩ ⟨(Nat.le_of_ble_eq_true rfl), (Nat.le_of_ble_eq_true rfl)⟩ hl.1 (Nat.le_of_ble_eq_true rfl) rfl rfl dL_law_320 (hP.sub (ws' := [(qx, .inr (8, xF ax 0)), ((ax 1), .inl (E 0, 16, .inl (fun _ => -5)))]) [0, 2] rfl) rfl rfl 0 rfl (fun r_2 hw_1 => ?_)
  rcases hw_1 with ⟨hr_2, hw_1⟩ | ⟨hr_2, hw_1⟩
  ·
    refine W_top (y := .int (-5)) (by rw [hr_2]) ?_
    refine lv_aload_n hx hb dL_law_323 rfl (lv_at hl 1 rfl) ?_
    refine lv_aload_n hx hb dL_law_324 rfl (lv_at hl 3 rfl) ?_
    refine lv_iload_n hx hb dL_law_325 rfl (lv_at hl 0 rfl) ?_
    refine lv_iconst (v := 1) hx hb dL_law_326 (by decide) ?_
    refine lv_iadd hx hb dL_law_327 ?_
    refine W_top (y := .int 1) (by decide) ?_
    refine va_sld hx hb hX hbl hbA hS (g_in t_1 (by decide) (by decide)) dL_law_328 ?_
    refine W_top (y := .int (xs 1)) (congrArg (fun n => Value.int (xs n)) (by decide : (1 : Int32).toNatClampNeg = 1)) ?_
    refine callRV (rest := [.int (-5)]) (As := [.int (xs 1)]) hx hb hml hown htb hK (c_X9_holds l D E qm cm (xs 1) ) ok_X9_holds k_1197 k_1198 k_1199 k_9 k_1200 ⟨(Nat.le_of_ble_eq_true rfl), (Nat.le_of_ble_eq_true rfl)⟩ ⟨(Nat.le_of_ble_eq_true rfl), (Nat.le_of_ble_eq_true rfl)⟩ hl.1 (Nat.le_of_ble_eq_true rfl) rfl rfl dL_law_329 (hP.sub (ws' := [(qm, .inr (9, mF cm 0 0 0 0 0 0 0 0 0)), ((cm 3), .inl (E 0, 16, .inl (fun _ => -5)))]) [22, 24] rfl) rfl rfl 0 rfl (fun r_4 hw_3 => ?_)
    rcases hw_3 with ⟨hr_4, hw_3⟩ | ⟨hr_4, hw_3⟩
    ·
      refine W_top (y := .int (-5)) (by rw [hr_4]) ?_
      refine lv_icmp_eq (tgt := 1550) hx hb dL_law_332 (by decide) (fun c_5 => ?_) (fun c_5 => absurd rfl c_5)
      exact law_end hx hb hr hml hown htb hX hbl hlocks hS (lv_sub hl [0, 3] rfl) (Nat.le_of_ble_eq_true rfl) (Nat.le_of_ble_eq_true rfl)
    ·
      refine W_top (y := .int (-1)) (by rw [hr_4]) ?_
      exfalso; omega
  ·
    refine W_top (y := .int (-1)) (by rw [hr_2]) ?_
    refine lv_aload_n hx hb dL_law_323 rfl (lv_at hl 1 rfl) ?_
    refine lv_aload_n hx hb dL_law_324 rfl (lv_at hl 3 rfl) ?_
    refine lv_iload_n hx hb dL_law_325 rfl (lv_at hl 0 rfl) ?_
    refine lv_iconst (v := 1) hx hb dL_law_326 (by decide) ?_
    refine lv_iadd hx hb dL_law_327 ?_
    refine W_top (y := .int 1) (by decide) ?_
    refine va_sld hx hb hX hbl hbA hS (g_in t_1 (by decide) (by decide)) dL_law_328 ?_
    refine W_top (y := .int (xs 1)) (congrArg (fun n => Value.int (xs n)) (by decide : (1 : Int32).toNatClampNeg = 1)) ?_
    refine callRV (rest := [.int (-1)]) (As := [.int (xs 1)]) hx hb hml hown htb hK (c_X9_holds l D E qm cm (xs 1) ) ok_X9_holds k_1197 k_1198 k_1199 k_9 k_1200 ⟨(Nat.le_of_ble_eq_true rfl), (Nat.le_of_ble_eq_true rfl)⟩ ⟨(Nat.le_of_ble_eq_true rfl), (Nat.le_of_ble_eq_true rfl)⟩ hl.1 (Nat.le_of_ble_eq_true rfl) rfl rfl dL_law_329 (hP.sub (ws' := [(qm, .inr (9, mF cm 0 0 0 0 0 0 0 0 0)), ((cm 3), .inl (E 0, 16, .inl (fun _ => -5)))]) [22, 24] rfl) rfl rfl 0 rfl (fun r_7 hw_6 => ?_)
    rcases hw_6 with ⟨hr_7, hw_6⟩ | ⟨hr_7, hw_6⟩
    ·
      refine W_top (y := .int (-5)) (by rw [hr_7]) ?_
      exfalso; omega
    ·
      refine W_top (y := .int (-1)) (by rw [hr_7]) ?_
      refine lv_icmp_eq (tgt := 1550) hx hb dL_law_332 (by decide) (fun c_8 => ?_) (fun c_8 => absurd rfl c_8)
      exact law_end hx hb hr hml hown htb hX hbl hlocks hS (lv_sub hl [0, 3] rfl) (Nat.le_of_ble_eq_true rfl) (Nat.le_of_ble_eq_true rfl)
set_option maxHeartbeats 4000000 in
set_option maxRecDepth 100000 in
theorem law_5 {p : Program} {l : Launch} {e : Env} {s : State} {m : MethodId} {below : List Frame} {meth : Method} {c : Code} {D : va_G} {E : Nat → Nat} {b : Nat} {xs : Nat → Int32} {qx : Nat} {ax : Nat → Nat} {bx : Nat → Nat → Nat} {fw : Nat → Int32} {qm : Nat} {cm : Nat → Nat} {fm : Nat → Int32} {H : Heap} {locs : List Loc} {ls : Array Slot} (hx : p.tables.exec = Jvm.exec) (hb : c.code = code) (hr : meth.sig.returnType = ret) (hml : c.maxLocals = 4) (hown : s.vm.findClass R_law = some m.cls) (htb : ∀ w ∈ tb, w.before #[Value.ref b] s = true) (hK : KX D E s) (hX : va_X b 6 xs s s.heap) (hbl : b < s.heap.size) (hlocks : meth.locks = false) (hP : va_P D vwCl (LW E qx ax bx fw qm cm fm) H) (hD : va_D (fun q : Nat => s.heap.size ≤ q) (LW E qx ax bx fw qm cm fm)) (hS : va_S (fun q : Nat => s.heap.size ≤ q) s.heap H locs) (hl : lv_has ls 4 [(3, .int 0), (2, .ref qm), (1, .ref qx), (0, .ref b)]) : W p l e room_1 s m #[Value.ref b] below meth c H locs 123 44666 (lw_Z below #[Value.ref b] s) (F0 m 337 ls []) := by
  have hA : ∀ q : Nat, s.heap.size ≤ q → (fun q : Nat => s.heap.size ≤ q) q := fun _ h => h
  have hbA : ¬ (fun q : Nat => s.heap.size ≤ q) b := Nat.not_le.mpr hbl
  refine lv_aload_n hx hb dL_law_337 rfl (lv_at hl 2 rfl) ?_
  refine lv_aload_n hx hb dL_law_338 rfl (lv_at hl 3 rfl) ?_
  refine lv_iload_n hx hb dL_law_339 rfl (lv_at hl 0 rfl) ?_
  refine lv_iconst (v := 1) hx hb dL_law_340 (by decide) ?_
  refine lv_iadd hx hb dL_law_341 ?_
  refine W_top (y := .int 1) (by decide) ?_
  refine va_sld hx hb hX hbl hbA hS (g_in t_1 (by decide) (by decide)) dL_law_342 ?_
  refine W_top (y := .int (xs 1)) (congrArg (fun n => Value.int (xs n)) (by decide : (1 : Int32).toNatClampNeg = 1)) ?_
  refine callRV (rest := []) (As := [.int (xs 1)]) hx hb hml hown htb hK (c_X8_read l D E qx ax (xs 1) ) ok_X8_read k_382 k_383 k_384 k_1 k_385 ⟨(Nat.le_of_ble_eq_true rfl), (Nat.le_of_ble_eq_true rfl)⟩ ⟨(Nat.le_of_ble_eq_true rfl), (Nat.le_of_ble_eq_true rfl)⟩ hl.1 (Nat.le_of_ble_eq_true rfl) rfl rfl dL_law_343 (hP.sub (ws' := [(qx, .inr (8, xF ax 0)), ((ax 1), .inl (E 0, 16, .inl (fun _ => -5)))]) [0, 2] rfl) rfl rfl 0 rfl (fun r_2 hw_1 => ?_)
  obtain ⟨hr_2, hw_1⟩ := hw_1
  refine W_top (y := .int (-2000000000)) (by rw [hr_2]) ?_
  refine lv_aload_n hx hb dL_law_346 rfl (lv_at hl 1 rfl) ?_
  refine lv_aload_n hx hb dL_law_347 rfl (lv_at hl 3 rfl) ?_
  refine lv_iload_n hx hb dL_law_348 rfl (lv_at hl 0 rfl) ?_
  refine lv_iconst (v := 1) hx hb dL_law_349 (by decide) ?_
  refine lv_iadd hx hb dL_law_350 ?_
  refine W_top (y := .int 1) (by decide) ?_
  refine va_sld hx hb hX hbl hbA hS (g_in t_1 (by decide) (by decide)) dL_law_351 ?_
  refine W_top (y := .int (xs 1)) (congrArg (fun n => Value.int (xs n)) (by decide : (1 : Int32).toNatClampNeg = 1)) ?_
  refine callRV (rest := [.int (-2000000000)]) (As := [.int (xs 1)]) hx hb hml hown htb hK (c_X9_read l D E qm cm (xs 1) ) ok_X9_read k_1201 k_1202 k_1203 k_9 k_1204 ⟨(Nat.le_of_ble_eq_true rfl), (Nat.le_of_ble_eq_true rfl)⟩ ⟨(Nat.le_of_ble_eq_true rfl), (Nat.le_of_ble_eq_true rfl)⟩ hl.1 (Nat.le_of_ble_eq_true rfl) rfl rfl dL_law_352 (hP.sub (ws' := [(qm, .inr (9, mF cm 0 0 0 0 0 0 0 0 0)), ((cm 3), .inl (E 0, 16, .inl (fun _ => -5)))]) [22, 24] rfl) rfl rfl 0 rfl (fun r_4 hw_3 => ?_)
  obtain ⟨hr_4, hw_3⟩ := hw_3
  refine W_top (y := .int (-2000000000)) (by rw [hr_4]) ?_
  refine lv_icmp_eq (tgt := 1550) hx hb dL_law_355 (by decide) (fun c_5 => ?_) (fun c_5 => absurd rfl c_5)
  exact law_end hx hb hr hml hown htb hX hbl hlocks hS (lv_sub hl [0, 3] rfl) (Nat.le_of_ble_eq_true rfl) (Nat.le_of_ble_eq_true rfl)
set_option maxHeartbeats 4000000 in
set_option maxRecDepth 100000 in
theorem law_6 {p : Program} {l : Launch} {e : Env} {s : State} {m : MethodId} {below : List Frame} {meth : Method} {c : Code} {D : va_G} {E : Nat → Nat} {b : Nat} {xs : Nat → Int32} {qx : Nat} {ax : Nat → Nat} {bx : Nat → Nat → Nat} {fw : Nat → Int32} {qm : Nat} {cm : Nat → Nat} {fm : Nat → Int32} {H : Heap} {locs : List Loc} {ls : Array Slot} (hx : p.tables.exec = Jvm.exec) (hb : c.code = code) (hr : meth.sig.returnType = ret) (hml : c.maxLocals = 4) (hown : s.vm.findClass R_law = some m.cls) (htb : ∀ w ∈ tb, w.before #[Value.ref b] s = true) (hK : KX D E s) (hX : va_X b 6 xs s s.heap) (hbl : b < s.heap.size) (hlocks : meth.locks = false) (hP : va_P D vwCl (LW E qx ax bx fw qm cm fm) H) (hD : va_D (fun q : Nat => s.heap.size ≤ q) (LW E qx ax bx fw qm cm fm)) (hS : va_S (fun q : Nat => s.heap.size ≤ q) s.heap H locs) (hl : lv_has ls 4 [(3, .int 0), (2, .ref qm), (1, .ref qx), (0, .ref b)]) : W p l e room_1 s m #[Value.ref b] below meth c H locs 123 44666 (lw_Z below #[Value.ref b] s) (F0 m 360 ls []) := by
  have hA : ∀ q : Nat, s.heap.size ≤ q → (fun q : Nat => s.heap.size ≤ q) q := fun _ h => h
  have hbA : ¬ (fun q : Nat => s.heap.size ≤ q) b := Nat.not_le.mpr hbl
  refine lv_aload_n hx hb dL_law_360 rfl (lv_at hl 2 rfl) ?_
  refine lv_aload_n hx hb dL_law_361 rfl (lv_at hl 3 rfl) ?_
  refine lv_iload_n hx hb dL_law_362 rfl (lv_at hl 0 rfl) ?_
  refine lv_iconst (v := 1) hx hb dL_law_363 (by decide) ?_
  refine lv_iadd hx hb dL_law_364 ?_
  refine W_top (y := .int 1) (by decide) ?_
  refine va_sld hx hb hX hbl hbA hS (g_in t_1 (by decide) (by decide)) dL_law_365 ?_
  refine W_top (y := .int (xs 1)) (congrArg (fun n => Value.int (xs n)) (by decide : (1 : Int32).toNatClampNeg = 1)) ?_
  refine lv_aload_n hx hb dL_law_366 rfl (lv_at hl 3 rfl) ?_
  refine lv_iload_n hx hb dL_law_367 rfl (lv_at hl 0 rfl) ?_
  refine lv_iconst (v := 2) hx hb dL_law_368 (by decide) ?_
  refine lv_iadd hx hb dL_law_369 ?_
  refine W_top (y := .int 2) (by decide) ?_
  refine va_sld hx hb hX hbl hbA hS (g_in t_2 (by decide) (by decide)) dL_law_370 ?_
  refine W_top (y := .int (xs 2)) (congrArg (fun n => Value.int (xs n)) (by decide : (2 : Int32).toNatClampNeg = 2)) ?_
  refine lv_aload_n hx hb dL_law_371 rfl (lv_at hl 3 rfl) ?_
  refine lv_iload_n hx hb dL_law_372 rfl (lv_at hl 0 rfl) ?_
  refine lv_iconst (v := 3) hx hb dL_law_373 (by decide) ?_
  refine lv_iadd hx hb dL_law_374 ?_
  refine W_top (y := .int 3) (by decide) ?_
  refine va_sld hx hb hX hbl hbA hS (g_in t_3 (by decide) (by decide)) dL_law_375 ?_
  refine W_top (y := .int (xs 3)) (congrArg (fun n => Value.int (xs n)) (by decide : (3 : Int32).toNatClampNeg = 3)) ?_
  refine lv_aload_n hx hb dL_law_376 rfl (lv_at hl 3 rfl) ?_
  refine lv_iload_n hx hb dL_law_377 rfl (lv_at hl 0 rfl) ?_
  refine lv_iconst (v := 4) hx hb dL_law_378 (by decide) ?_
  refine lv_iadd hx hb dL_law_379 ?_
  refine W_top (y := .int 4) (by decide) ?_
  refine va_sld hx hb hX hbl hbA hS (g_in t_4 (by decide) (by decide)) dL_law_380 ?_
  refine W_top (y := .int (xs 4)) (congrArg (fun n => Value.int (xs n)) (by decide : (4 : Int32).toNatClampNeg = 4)) ?_
  refine callRV (rest := []) (As := [.int (xs 1), .int (xs 2), .int (xs 3), .int (xs 4)]) hx hb hml hown htb hK (c_X8_compare l D E qx ax (xs 1) (xs 2) (xs 3) (xs 4) ) ok_X8_compare k_387 k_388 k_389 k_1 k_390 ⟨(Nat.le_of_ble_eq_true rfl), (Nat.le_of_ble_eq_true rfl)⟩ ⟨(Nat.le_of_ble_eq_true rfl), (Nat.le_of_ble_eq_true rfl)⟩ hl.1 (Nat.le_of_ble_eq_true rfl) rfl rfl dL_law_381 (hP.sub (ws' := [(qx, .inr (8, xF ax 0)), ((ax 1), .inl (E 0, 16, .inl (fun _ => -5)))]) [0, 2] rfl) rfl rfl 0 rfl (fun r_2 hw_1 => ?_)
  rcases hw_1 with ⟨hr_2, hw_1⟩ | ⟨hr_2, hw_1⟩
  ·
    refine W_top (y := .int (-2)) (by rw [hr_2]) ?_
    refine lv_aload_n hx hb dL_law_384 rfl (lv_at hl 1 rfl) ?_
    refine lv_aload_n hx hb dL_law_385 rfl (lv_at hl 3 rfl) ?_
    refine lv_iload_n hx hb dL_law_386 rfl (lv_at hl 0 rfl) ?_
    refine lv_iconst (v := 1) hx hb dL_law_387 (by decide) ?_
    refine lv_iadd hx hb dL_law_388 ?_
    refine W_top (y := .int 1) (by decide) ?_
    refine va_sld hx hb hX hbl hbA hS (g_in t_1 (by decide) (by decide)) dL_law_389 ?_
    refine W_top (y := .int (xs 1)) (congrArg (fun n => Value.int (xs n)) (by decide : (1 : Int32).toNatClampNeg = 1)) ?_
    refine lv_aload_n hx hb dL_law_390 rfl (lv_at hl 3 rfl) ?_
    refine lv_iload_n hx hb dL_law_391 rfl (lv_at hl 0 rfl) ?_
    refine lv_iconst (v := 2) hx hb dL_law_392 (by decide) ?_
    refine lv_iadd hx hb dL_law_393 ?_
    refine W_top (y := .int 2) (by decide) ?_
    refine va_sld hx hb hX hbl hbA hS (g_in t_2 (by decide) (by decide)) dL_law_394 ?_
    refine W_top (y := .int (xs 2)) (congrArg (fun n => Value.int (xs n)) (by decide : (2 : Int32).toNatClampNeg = 2)) ?_
    refine lv_aload_n hx hb dL_law_395 rfl (lv_at hl 3 rfl) ?_
    refine lv_iload_n hx hb dL_law_396 rfl (lv_at hl 0 rfl) ?_
    refine lv_iconst (v := 3) hx hb dL_law_397 (by decide) ?_
    refine lv_iadd hx hb dL_law_398 ?_
    refine W_top (y := .int 3) (by decide) ?_
    refine va_sld hx hb hX hbl hbA hS (g_in t_3 (by decide) (by decide)) dL_law_399 ?_
    refine W_top (y := .int (xs 3)) (congrArg (fun n => Value.int (xs n)) (by decide : (3 : Int32).toNatClampNeg = 3)) ?_
    refine lv_aload_n hx hb dL_law_400 rfl (lv_at hl 3 rfl) ?_
    refine lv_iload_n hx hb dL_law_401 rfl (lv_at hl 0 rfl) ?_
    refine lv_iconst (v := 4) hx hb dL_law_402 (by decide) ?_
    refine lv_iadd hx hb dL_law_403 ?_
    refine W_top (y := .int 4) (by decide) ?_
    refine va_sld hx hb hX hbl hbA hS (g_in t_4 (by decide) (by decide)) dL_law_404 ?_
    refine W_top (y := .int (xs 4)) (congrArg (fun n => Value.int (xs n)) (by decide : (4 : Int32).toNatClampNeg = 4)) ?_
    refine callRV (rest := [.int (-2)]) (As := [.int (xs 1), .int (xs 2), .int (xs 3), .int (xs 4)]) hx hb hml hown htb hK (c_X9_compare l D E qm cm (xs 1) (xs 2) (xs 3) (xs 4) ) ok_X9_compare k_1206 k_1207 k_1208 k_9 k_1209 ⟨(Nat.le_of_ble_eq_true rfl), (Nat.le_of_ble_eq_true rfl)⟩ ⟨(Nat.le_of_ble_eq_true rfl), (Nat.le_of_ble_eq_true rfl)⟩ hl.1 (Nat.le_of_ble_eq_true rfl) rfl rfl dL_law_405 (hP.sub (ws' := [(qm, .inr (9, mF cm 0 0 0 0 0 0 0 0 0)), ((cm 3), .inl (E 0, 16, .inl (fun _ => -5)))]) [22, 24] rfl) rfl rfl 0 rfl (fun r_4 hw_3 => ?_)
    rcases hw_3 with ⟨hr_4, hw_3⟩ | ⟨hr_4, hw_3⟩
    ·
      refine W_top (y := .int (-2)) (by rw [hr_4]) ?_
      refine lv_icmp_eq (tgt := 1550) hx hb dL_law_408 (by decide) (fun c_5 => ?_) (fun c_5 => absurd rfl c_5)
      exact law_end hx hb hr hml hown htb hX hbl hlocks hS (lv_sub hl [0, 3] rfl) (Nat.le_of_ble_eq_true rfl) (Nat.le_of_ble_eq_true rfl)
    ·
      refine W_top (y := .int (-1)) (by rw [hr_4]) ?_
      exfalso; omega
  ·
    refine W_top (y := .int (-1)) (by rw [hr_2]) ?_
    refine lv_aload_n hx hb dL_law_384 rfl (lv_at hl 1 rfl) ?_
    refine lv_aload_n hx hb dL_law_385 rfl (lv_at hl 3 rfl) ?_
    refine lv_iload_n hx hb dL_law_386 rfl (lv_at hl 0 rfl) ?_
    refine lv_iconst (v := 1) hx hb dL_law_387 (by decide) ?_
    refine lv_iadd hx hb dL_law_388 ?_
    refine W_top (y := .int 1) (by decide) ?_
    refine va_sld hx hb hX hbl hbA hS (g_in t_1 (by decide) (by decide)) dL_law_389 ?_
    refine W_top (y := .int (xs 1)) (congrArg (fun n => Value.int (xs n)) (by decide : (1 : Int32).toNatClampNeg = 1)) ?_
    refine lv_aload_n hx hb dL_law_390 rfl (lv_at hl 3 rfl) ?_
    refine lv_iload_n hx hb dL_law_391 rfl (lv_at hl 0 rfl) ?_
    refine lv_iconst (v := 2) hx hb dL_law_392 (by decide) ?_
    refine lv_iadd hx hb dL_law_393 ?_
    refine W_top (y := .int 2) (by decide) ?_
    refine va_sld hx hb hX hbl hbA hS (g_in t_2 (by decide) (by decide)) dL_law_394 ?_
    refine W_top (y := .int (xs 2)) (congrArg (fun n => Value.int (xs n)) (by decide : (2 : Int32).toNatClampNeg = 2)) ?_
    refine lv_aload_n hx hb dL_law_395 rfl (lv_at hl 3 rfl) ?_
    refine lv_iload_n hx hb dL_law_396 rfl (lv_at hl 0 rfl) ?_
    refine lv_iconst (v := 3) hx hb dL_law_397 (by decide) ?_
    refine lv_iadd hx hb dL_law_398 ?_
    refine W_top (y := .int 3) (by decide) ?_
    refine va_sld hx hb hX hbl hbA hS (g_in t_3 (by decide) (by decide)) dL_law_399 ?_
    refine W_top (y := .int (xs 3)) (congrArg (fun n => Value.int (xs n)) (by decide : (3 : Int32).toNatClampNeg = 3)) ?_
    refine lv_aload_n hx hb dL_law_400 rfl (lv_at hl 3 rfl) ?_
    refine lv_iload_n hx hb dL_law_401 rfl (lv_at hl 0 rfl) ?_
    refine lv_iconst (v := 4) hx hb dL_law_402 (by decide) ?_
    refine lv_iadd hx hb dL_law_403 ?_
    refine W_top (y := .int 4) (by decide) ?_
    refine va_sld hx hb hX hbl hbA hS (g_in t_4 (by decide) (by decide)) dL_law_404 ?_
    refine W_top (y := .int (xs 4)) (congrArg (fun n => Value.int (xs n)) (by decide : (4 : Int32).toNatClampNeg = 4)) ?_
    refine callRV (rest := [.int (-1)]) (As := [.int (xs 1), .int (xs 2), .int (xs 3), .int (xs 4)]) hx hb hml hown htb hK (c_X9_compare l D E qm cm (xs 1) (xs 2) (xs 3) (xs 4) ) ok_X9_compare k_1206 k_1207 k_1208 k_9 k_1209 ⟨(Nat.le_of_ble_eq_true rfl), (Nat.le_of_ble_eq_true rfl)⟩ ⟨(Nat.le_of_ble_eq_true rfl), (Nat.le_of_ble_eq_true rfl)⟩ hl.1 (Nat.le_of_ble_eq_true rfl) rfl rfl dL_law_405 (hP.sub (ws' := [(qm, .inr (9, mF cm 0 0 0 0 0 0 0 0 0)), ((cm 3), .inl (E 0, 16, .inl (fun _ => -5)))]) [22, 24] rfl) rfl rfl 0 rfl (fun r_7 hw_6 => ?_)
    rcases hw_6 with ⟨hr_7, hw_6⟩ | ⟨hr_7, hw_6⟩
    ·
      refine W_top (y := .int (-2)) (by rw [hr_7]) ?_
      exfalso; omega
    ·
      refine W_top (y := .int (-1)) (by rw [hr_7]) ?_
      refine lv_icmp_eq (tgt := 1550) hx hb dL_law_408 (by decide) (fun c_8 => ?_) (fun c_8 => absurd rfl c_8)
      exact law_end hx hb hr hml hown htb hX hbl hlocks hS (lv_sub hl [0, 3] rfl) (Nat.le_of_ble_eq_true rfl) (Nat.le_of_ble_eq_true rfl)
set_option maxHeartbeats 4000000 in
set_option maxRecDepth 100000 in
theorem law_7 {p : Program} {l : Launch} {e : Env} {s : State} {m : MethodId} {below : List Frame} {meth : Method} {c : Code} {D : va_G} {E : Nat → Nat} {b : Nat} {xs : Nat → Int32} {qx : Nat} {ax : Nat → Nat} {bx : Nat → Nat → Nat} {fw : Nat → Int32} {qm : Nat} {cm : Nat → Nat} {fm : Nat → Int32} {H : Heap} {locs : List Loc} {ls : Array Slot} (hx : p.tables.exec = Jvm.exec) (hb : c.code = code) (hr : meth.sig.returnType = ret) (hml : c.maxLocals = 4) (hown : s.vm.findClass R_law = some m.cls) (htb : ∀ w ∈ tb, w.before #[Value.ref b] s = true) (hK : KX D E s) (hX : va_X b 6 xs s s.heap) (hbl : b < s.heap.size) (hlocks : meth.locks = false) (hP : va_P D vwCl (LW E qx ax bx fw qm cm fm) H) (hD : va_D (fun q : Nat => s.heap.size ≤ q) (LW E qx ax bx fw qm cm fm)) (hS : va_S (fun q : Nat => s.heap.size ≤ q) s.heap H locs) (hl : lv_has ls 4 [(3, .int 0), (2, .ref qm), (1, .ref qx), (0, .ref b)]) : W p l e room_1 s m #[Value.ref b] below meth c H locs 123 44666 (lw_Z below #[Value.ref b] s) (F0 m 413 ls []) := by
  have hA : ∀ q : Nat, s.heap.size ≤ q → (fun q : Nat => s.heap.size ≤ q) q := fun _ h => h
  have hbA : ¬ (fun q : Nat => s.heap.size ≤ q) b := Nat.not_le.mpr hbl
  refine lv_aload_n hx hb dL_law_413 rfl (lv_at hl 2 rfl) ?_
  refine lv_aload_n hx hb dL_law_414 rfl (lv_at hl 3 rfl) ?_
  refine lv_iload_n hx hb dL_law_415 rfl (lv_at hl 0 rfl) ?_
  refine lv_iconst (v := 1) hx hb dL_law_416 (by decide) ?_
  refine lv_iadd hx hb dL_law_417 ?_
  refine W_top (y := .int 1) (by decide) ?_
  refine va_sld hx hb hX hbl hbA hS (g_in t_1 (by decide) (by decide)) dL_law_418 ?_
  refine W_top (y := .int (xs 1)) (congrArg (fun n => Value.int (xs n)) (by decide : (1 : Int32).toNatClampNeg = 1)) ?_
  refine lv_aload_n hx hb dL_law_419 rfl (lv_at hl 3 rfl) ?_
  refine lv_iload_n hx hb dL_law_420 rfl (lv_at hl 0 rfl) ?_
  refine lv_iconst (v := 2) hx hb dL_law_421 (by decide) ?_
  refine lv_iadd hx hb dL_law_422 ?_
  refine W_top (y := .int 2) (by decide) ?_
  refine va_sld hx hb hX hbl hbA hS (g_in t_2 (by decide) (by decide)) dL_law_423 ?_
  refine W_top (y := .int (xs 2)) (congrArg (fun n => Value.int (xs n)) (by decide : (2 : Int32).toNatClampNeg = 2)) ?_
  refine lv_aload_n hx hb dL_law_424 rfl (lv_at hl 3 rfl) ?_
  refine lv_iload_n hx hb dL_law_425 rfl (lv_at hl 0 rfl) ?_
  refine lv_iconst (v := 3) hx hb dL_law_426 (by decide) ?_
  refine lv_iadd hx hb dL_law_427 ?_
  refine W_top (y := .int 3) (by decide) ?_
  refine va_sld hx hb hX hbl hbA hS (g_in t_3 (by decide) (by decide)) dL_law_428 ?_
  refine W_top (y := .int (xs 3)) (congrArg (fun n => Value.int (xs n)) (by decide : (3 : Int32).toNatClampNeg = 3)) ?_
  refine callRV (rest := []) (As := [.int (xs 1), .int (xs 2), .int (xs 3)]) hx hb hml hown htb hK (c_X8_error l D E qx ax (xs 1) (xs 2) (xs 3) ) ok_X8_error k_408 k_409 k_410 k_1 k_411 ⟨(Nat.le_of_ble_eq_true rfl), (Nat.le_of_ble_eq_true rfl)⟩ ⟨(Nat.le_of_ble_eq_true rfl), (Nat.le_of_ble_eq_true rfl)⟩ hl.1 (Nat.le_of_ble_eq_true rfl) rfl rfl dL_law_429 (hP.sub (ws' := [(qx, .inr (8, xF ax 0)), ((ax 1), .inl (E 0, 16, .inl (fun _ => -5)))]) [0, 2] rfl) rfl rfl 0 rfl (fun r_2 hw_1 => ?_)
  obtain ⟨hr_2, hw_1⟩ := hw_1
  refine W_top (y := .int (-2000000000)) (by rw [hr_2]) ?_
  refine lv_aload_n hx hb dL_law_432 rfl (lv_at hl 1 rfl) ?_
  refine lv_aload_n hx hb dL_law_433 rfl (lv_at hl 3 rfl) ?_
  refine lv_iload_n hx hb dL_law_434 rfl (lv_at hl 0 rfl) ?_
  refine lv_iconst (v := 1) hx hb dL_law_435 (by decide) ?_
  refine lv_iadd hx hb dL_law_436 ?_
  refine W_top (y := .int 1) (by decide) ?_
  refine va_sld hx hb hX hbl hbA hS (g_in t_1 (by decide) (by decide)) dL_law_437 ?_
  refine W_top (y := .int (xs 1)) (congrArg (fun n => Value.int (xs n)) (by decide : (1 : Int32).toNatClampNeg = 1)) ?_
  refine lv_aload_n hx hb dL_law_438 rfl (lv_at hl 3 rfl) ?_
  refine lv_iload_n hx hb dL_law_439 rfl (lv_at hl 0 rfl) ?_
  refine lv_iconst (v := 2) hx hb dL_law_440 (by decide) ?_
  refine lv_iadd hx hb dL_law_441 ?_
  refine W_top (y := .int 2) (by decide) ?_
  refine va_sld hx hb hX hbl hbA hS (g_in t_2 (by decide) (by decide)) dL_law_442 ?_
  refine W_top (y := .int (xs 2)) (congrArg (fun n => Value.int (xs n)) (by decide : (2 : Int32).toNatClampNeg = 2)) ?_
  refine lv_aload_n hx hb dL_law_443 rfl (lv_at hl 3 rfl) ?_
  refine lv_iload_n hx hb dL_law_444 rfl (lv_at hl 0 rfl) ?_
  refine lv_iconst (v := 3) hx hb dL_law_445 (by decide) ?_
  refine lv_iadd hx hb dL_law_446 ?_
  refine W_top (y := .int 3) (by decide) ?_
  refine va_sld hx hb hX hbl hbA hS (g_in t_3 (by decide) (by decide)) dL_law_447 ?_
  refine W_top (y := .int (xs 3)) (congrArg (fun n => Value.int (xs n)) (by decide : (3 : Int32).toNatClampNeg = 3)) ?_
  refine callRV (rest := [.int (-2000000000)]) (As := [.int (xs 1), .int (xs 2), .int (xs 3)]) hx hb hml hown htb hK (c_X9_error l D E qm cm (xs 1) (xs 2) (xs 3) ) ok_X9_error k_1216 k_1217 k_1218 k_9 k_1219 ⟨(Nat.le_of_ble_eq_true rfl), (Nat.le_of_ble_eq_true rfl)⟩ ⟨(Nat.le_of_ble_eq_true rfl), (Nat.le_of_ble_eq_true rfl)⟩ hl.1 (Nat.le_of_ble_eq_true rfl) rfl rfl dL_law_448 (hP.sub (ws' := [(qm, .inr (9, mF cm 0 0 0 0 0 0 0 0 0)), ((cm 3), .inl (E 0, 16, .inl (fun _ => -5)))]) [22, 24] rfl) rfl rfl 0 rfl (fun r_4 hw_3 => ?_)
  obtain ⟨hr_4, hw_3⟩ := hw_3
  refine W_top (y := .int (-2000000000)) (by rw [hr_4]) ?_
  refine lv_icmp_eq (tgt := 1550) hx hb dL_law_451 (by decide) (fun c_5 => ?_) (fun c_5 => absurd rfl c_5)
  exact law_end hx hb hr hml hown htb hX hbl hlocks hS (lv_sub hl [0, 3] rfl) (Nat.le_of_ble_eq_true rfl) (Nat.le_of_ble_eq_true rfl)
set_option maxHeartbeats 4000000 in
set_option maxRecDepth 100000 in
theorem law_8 {p : Program} {l : Launch} {e : Env} {s : State} {m : MethodId} {below : List Frame} {meth : Method} {c : Code} {D : va_G} {E : Nat → Nat} {b : Nat} {xs : Nat → Int32} {qx : Nat} {ax : Nat → Nat} {bx : Nat → Nat → Nat} {fw : Nat → Int32} {qm : Nat} {cm : Nat → Nat} {fm : Nat → Int32} {H : Heap} {locs : List Loc} {ls : Array Slot} (hx : p.tables.exec = Jvm.exec) (hb : c.code = code) (hr : meth.sig.returnType = ret) (hml : c.maxLocals = 4) (hown : s.vm.findClass R_law = some m.cls) (htb : ∀ w ∈ tb, w.before #[Value.ref b] s = true) (hK : KX D E s) (hX : va_X b 6 xs s s.heap) (hbl : b < s.heap.size) (hlocks : meth.locks = false) (hP : va_P D vwCl (LW E qx ax bx fw qm cm fm) H) (hD : va_D (fun q : Nat => s.heap.size ≤ q) (LW E qx ax bx fw qm cm fm)) (hS : va_S (fun q : Nat => s.heap.size ≤ q) s.heap H locs) (hl : lv_has ls 4 [(3, .int 0), (2, .ref qm), (1, .ref qx), (0, .ref b)]) : W p l e room_1 s m #[Value.ref b] below meth c H locs 123 44666 (lw_Z below #[Value.ref b] s) (F0 m 456 ls []) := by
  have hA : ∀ q : Nat, s.heap.size ≤ q → (fun q : Nat => s.heap.size ≤ q) q := fun _ h => h
  have hbA : ¬ (fun q : Nat => s.heap.size ≤ q) b := Nat.not_le.mpr hbl
  refine lv_aload_n hx hb dL_law_456 rfl (lv_at hl 2 rfl) ?_
  refine lv_aload_n hx hb dL_law_457 rfl (lv_at hl 3 rfl) ?_
  refine lv_iload_n hx hb dL_law_458 rfl (lv_at hl 0 rfl) ?_
  refine lv_iconst (v := 1) hx hb dL_law_459 (by decide) ?_
  refine lv_iadd hx hb dL_law_460 ?_
  refine W_top (y := .int 1) (by decide) ?_
  refine va_sld hx hb hX hbl hbA hS (g_in t_1 (by decide) (by decide)) dL_law_461 ?_
  refine W_top (y := .int (xs 1)) (congrArg (fun n => Value.int (xs n)) (by decide : (1 : Int32).toNatClampNeg = 1)) ?_
  refine lv_aload_n hx hb dL_law_462 rfl (lv_at hl 3 rfl) ?_
  refine lv_iload_n hx hb dL_law_463 rfl (lv_at hl 0 rfl) ?_
  refine lv_iconst (v := 2) hx hb dL_law_464 (by decide) ?_
  refine lv_iadd hx hb dL_law_465 ?_
  refine W_top (y := .int 2) (by decide) ?_
  refine va_sld hx hb hX hbl hbA hS (g_in t_2 (by decide) (by decide)) dL_law_466 ?_
  refine W_top (y := .int (xs 2)) (congrArg (fun n => Value.int (xs n)) (by decide : (2 : Int32).toNatClampNeg = 2)) ?_
  refine lv_aload_n hx hb dL_law_467 rfl (lv_at hl 3 rfl) ?_
  refine lv_iload_n hx hb dL_law_468 rfl (lv_at hl 0 rfl) ?_
  refine lv_iconst (v := 3) hx hb dL_law_469 (by decide) ?_
  refine lv_iadd hx hb dL_law_470 ?_
  refine W_top (y := .int 3) (by decide) ?_
  refine va_sld hx hb hX hbl hbA hS (g_in t_3 (by decide) (by decide)) dL_law_471 ?_
  refine W_top (y := .int (xs 3)) (congrArg (fun n => Value.int (xs n)) (by decide : (3 : Int32).toNatClampNeg = 3)) ?_
  refine callRV (rest := []) (As := [.int (xs 1), .int (xs 2), .int (xs 3)]) hx hb hml hown htb hK (c_X8_rate l D E qx ax (xs 1) (xs 2) (xs 3) ) ok_X8_rate k_425 k_426 k_427 k_1 k_428 ⟨(Nat.le_of_ble_eq_true rfl), (Nat.le_of_ble_eq_true rfl)⟩ ⟨(Nat.le_of_ble_eq_true rfl), (Nat.le_of_ble_eq_true rfl)⟩ hl.1 (Nat.le_of_ble_eq_true rfl) rfl rfl dL_law_472 (hP.sub (ws' := [(qx, .inr (8, xF ax 0)), ((ax 1), .inl (E 0, 16, .inl (fun _ => -5)))]) [0, 2] rfl) rfl rfl 0 rfl (fun r_2 hw_1 => ?_)
  obtain ⟨hr_2, hw_1⟩ := hw_1
  refine W_top (y := .int (-2000000000)) (by rw [hr_2]) ?_
  refine lv_aload_n hx hb dL_law_475 rfl (lv_at hl 1 rfl) ?_
  refine lv_aload_n hx hb dL_law_476 rfl (lv_at hl 3 rfl) ?_
  refine lv_iload_n hx hb dL_law_477 rfl (lv_at hl 0 rfl) ?_
  refine lv_iconst (v := 1) hx hb dL_law_478 (by decide) ?_
  refine lv_iadd hx hb dL_law_479 ?_
  refine W_top (y := .int 1) (by decide) ?_
  refine va_sld hx hb hX hbl hbA hS (g_in t_1 (by decide) (by decide)) dL_law_480 ?_
  refine W_top (y := .int (xs 1)) (congrArg (fun n => Value.int (xs n)) (by decide : (1 : Int32).toNatClampNeg = 1)) ?_
  refine lv_aload_n hx hb dL_law_481 rfl (lv_at hl 3 rfl) ?_
  refine lv_iload_n hx hb dL_law_482 rfl (lv_at hl 0 rfl) ?_
  refine lv_iconst (v := 2) hx hb dL_law_483 (by decide) ?_
  refine lv_iadd hx hb dL_law_484 ?_
  refine W_top (y := .int 2) (by decide) ?_
  refine va_sld hx hb hX hbl hbA hS (g_in t_2 (by decide) (by decide)) dL_law_485 ?_
  refine W_top (y := .int (xs 2)) (congrArg (fun n => Value.int (xs n)) (by decide : (2 : Int32).toNatClampNeg = 2)) ?_
  refine lv_aload_n hx hb dL_law_486 rfl (lv_at hl 3 rfl) ?_
  refine lv_iload_n hx hb dL_law_487 rfl (lv_at hl 0 rfl) ?_
  refine lv_iconst (v := 3) hx hb dL_law_488 (by decide) ?_
  refine lv_iadd hx hb dL_law_489 ?_
  refine W_top (y := .int 3) (by decide) ?_
  refine va_sld hx hb hX hbl hbA hS (g_in t_3 (by decide) (by decide)) dL_law_490 ?_
  refine W_top (y := .int (xs 3)) (congrArg (fun n => Value.int (xs n)) (by decide : (3 : Int32).toNatClampNeg = 3)) ?_
  refine callRV (rest := [.int (-2000000000)]) (As := [.int (xs 1), .int (xs 2), .int (xs 3)]) hx hb hml hown htb hK (c_X9_rate l D E qm cm (xs 1) (xs 2) (xs 3) ) ok_X9_rate k_1227 k_1228 k_1229 k_9 k_1230 ⟨(Nat.le_of_ble_eq_true rfl), (Nat.le_of_ble_eq_true rfl)⟩ ⟨(Nat.le_of_ble_eq_true rfl), (Nat.le_of_ble_eq_true rfl)⟩ hl.1 (Nat.le_of_ble_eq_true rfl) rfl rfl dL_law_491 (hP.sub (ws' := [(qm, .inr (9, mF cm 0 0 0 0 0 0 0 0 0)), ((cm 3), .inl (E 0, 16, .inl (fun _ => -5)))]) [22, 24] rfl) rfl rfl 0 rfl (fun r_4 hw_3 => ?_)
  obtain ⟨hr_4, hw_3⟩ := hw_3
  refine W_top (y := .int (-2000000000)) (by rw [hr_4]) ?_
  refine lv_icmp_eq (tgt := 1550) hx hb dL_law_494 (by decide) (fun c_5 => ?_) (fun c_5 => absurd rfl c_5)
  exact law_end hx hb hr hml hown htb hX hbl hlocks hS (lv_sub hl [0, 3] rfl) (Nat.le_of_ble_eq_true rfl) (Nat.le_of_ble_eq_true rfl)
set_option maxHeartbeats 4000000 in
set_option maxRecDepth 100000 in
theorem law_9 {p : Program} {l : Launch} {e : Env} {s : State} {m : MethodId} {below : List Frame} {meth : Method} {c : Code} {D : va_G} {E : Nat → Nat} {b : Nat} {xs : Nat → Int32} {qx : Nat} {ax : Nat → Nat} {bx : Nat → Nat → Nat} {fw : Nat → Int32} {qm : Nat} {cm : Nat → Nat} {fm : Nat → Int32} {H : Heap} {locs : List Loc} {ls : Array Slot} (hx : p.tables.exec = Jvm.exec) (hb : c.code = code) (hr : meth.sig.returnType = ret) (hml : c.maxLocals = 4) (hown : s.vm.findClass R_law = some m.cls) (htb : ∀ w ∈ tb, w.before #[Value.ref b] s = true) (hK : KX D E s) (hX : va_X b 6 xs s s.heap) (hbl : b < s.heap.size) (hlocks : meth.locks = false) (hP : va_P D vwCl (LW E qx ax bx fw qm cm fm) H) (hD : va_D (fun q : Nat => s.heap.size ≤ q) (LW E qx ax bx fw qm cm fm)) (hS : va_S (fun q : Nat => s.heap.size ≤ q) s.heap H locs) (hl : lv_has ls 4 [(3, .int 0), (2, .ref qm), (1, .ref qx), (0, .ref b)]) : W p l e room_1 s m #[Value.ref b] below meth c H locs 123 44666 (lw_Z below #[Value.ref b] s) (F0 m 499 ls []) := by
  have hA : ∀ q : Nat, s.heap.size ≤ q → (fun q : Nat => s.heap.size ≤ q) q := fun _ h => h
  have hbA : ¬ (fun q : Nat => s.heap.size ≤ q) b := Nat.not_le.mpr hbl
  refine lv_aload_n hx hb dL_law_499 rfl (lv_at hl 2 rfl) ?_
  refine lv_aload_n hx hb dL_law_500 rfl (lv_at hl 3 rfl) ?_
  refine lv_iload_n hx hb dL_law_501 rfl (lv_at hl 0 rfl) ?_
  refine lv_iconst (v := 1) hx hb dL_law_502 (by decide) ?_
  refine lv_iadd hx hb dL_law_503 ?_
  refine W_top (y := .int 1) (by decide) ?_
  refine va_sld hx hb hX hbl hbA hS (g_in t_1 (by decide) (by decide)) dL_law_504 ?_
  refine W_top (y := .int (xs 1)) (congrArg (fun n => Value.int (xs n)) (by decide : (1 : Int32).toNatClampNeg = 1)) ?_
  refine lv_aload_n hx hb dL_law_505 rfl (lv_at hl 3 rfl) ?_
  refine lv_iload_n hx hb dL_law_506 rfl (lv_at hl 0 rfl) ?_
  refine lv_iconst (v := 2) hx hb dL_law_507 (by decide) ?_
  refine lv_iadd hx hb dL_law_508 ?_
  refine W_top (y := .int 2) (by decide) ?_
  refine va_sld hx hb hX hbl hbA hS (g_in t_2 (by decide) (by decide)) dL_law_509 ?_
  refine W_top (y := .int (xs 2)) (congrArg (fun n => Value.int (xs n)) (by decide : (2 : Int32).toNatClampNeg = 2)) ?_
  refine callRV (rest := []) (As := [.int (xs 1), .int (xs 2)]) hx hb hml hown htb hK (c_X8_repair l D E qx ax (xs 1) (xs 2) ) ok_X8_repair k_443 k_444 k_445 k_1 k_446 ⟨(Nat.le_of_ble_eq_true rfl), (Nat.le_of_ble_eq_true rfl)⟩ ⟨(Nat.le_of_ble_eq_true rfl), (Nat.le_of_ble_eq_true rfl)⟩ hl.1 (Nat.le_of_ble_eq_true rfl) rfl rfl dL_law_510 (hP.sub (ws' := [(qx, .inr (8, xF ax 0)), ((ax 1), .inl (E 0, 16, .inl (fun _ => -5)))]) [0, 2] rfl) rfl rfl 0 rfl (fun r_2 hw_1 => ?_)
  rcases hw_1 with ⟨hr_2, hw_1⟩ | ⟨hr_2, hw_1⟩
  ·
    refine W_top (y := .int (-2)) (by rw [hr_2]) ?_
    refine lv_aload_n hx hb dL_law_513 rfl (lv_at hl 1 rfl) ?_
    refine lv_aload_n hx hb dL_law_514 rfl (lv_at hl 3 rfl) ?_
    refine lv_iload_n hx hb dL_law_515 rfl (lv_at hl 0 rfl) ?_
    refine lv_iconst (v := 1) hx hb dL_law_516 (by decide) ?_
    refine lv_iadd hx hb dL_law_517 ?_
    refine W_top (y := .int 1) (by decide) ?_
    refine va_sld hx hb hX hbl hbA hS (g_in t_1 (by decide) (by decide)) dL_law_518 ?_
    refine W_top (y := .int (xs 1)) (congrArg (fun n => Value.int (xs n)) (by decide : (1 : Int32).toNatClampNeg = 1)) ?_
    refine lv_aload_n hx hb dL_law_519 rfl (lv_at hl 3 rfl) ?_
    refine lv_iload_n hx hb dL_law_520 rfl (lv_at hl 0 rfl) ?_
    refine lv_iconst (v := 2) hx hb dL_law_521 (by decide) ?_
    refine lv_iadd hx hb dL_law_522 ?_
    refine W_top (y := .int 2) (by decide) ?_
    refine va_sld hx hb hX hbl hbA hS (g_in t_2 (by decide) (by decide)) dL_law_523 ?_
    refine W_top (y := .int (xs 2)) (congrArg (fun n => Value.int (xs n)) (by decide : (2 : Int32).toNatClampNeg = 2)) ?_
    refine callRV (rest := [.int (-2)]) (As := [.int (xs 1), .int (xs 2)]) hx hb hml hown htb hK (c_X9_repair l D E qm cm (xs 1) (xs 2) ) ok_X9_repair k_1238 k_1239 k_1240 k_9 k_1241 ⟨(Nat.le_of_ble_eq_true rfl), (Nat.le_of_ble_eq_true rfl)⟩ ⟨(Nat.le_of_ble_eq_true rfl), (Nat.le_of_ble_eq_true rfl)⟩ hl.1 (Nat.le_of_ble_eq_true rfl) rfl rfl dL_law_524 (hP.sub (ws' := [(qm, .inr (9, mF cm 0 0 0 0 0 0 0 0 0)), ((cm 3), .inl (E 0, 16, .inl (fun _ => -5)))]) [22, 24] rfl) rfl rfl 0 rfl (fun r_4 hw_3 => ?_)
    rcases hw_3 with ⟨hr_4, hw_3⟩ | ⟨hr_4, hw_3⟩
    ·
      refine W_top (y := .int (-2)) (by rw [hr_4]) ?_
      refine lv_icmp_eq (tgt := 1550) hx hb dL_law_527 (by decide) (fun c_5 => ?_) (fun c_5 => absurd rfl c_5)
      exact law_end hx hb hr hml hown htb hX hbl hlocks hS (lv_sub hl [0, 3] rfl) (Nat.le_of_ble_eq_true rfl) (Nat.le_of_ble_eq_true rfl)
    ·
      refine W_top (y := .int (-1)) (by rw [hr_4]) ?_
      exfalso; omega
  ·
    refine W_top (y := .int (-1)) (by rw [hr_2]) ?_
    refine lv_aload_n hx hb dL_law_513 rfl (lv_at hl 1 rfl) ?_
    refine lv_aload_n hx hb dL_law_514 rfl (lv_at hl 3 rfl) ?_
    refine lv_iload_n hx hb dL_law_515 rfl (lv_at hl 0 rfl) ?_
    refine lv_iconst (v := 1) hx hb dL_law_516 (by decide) ?_
    refine lv_iadd hx hb dL_law_517 ?_
    refine W_top (y := .int 1) (by decide) ?_
    refine va_sld hx hb hX hbl hbA hS (g_in t_1 (by decide) (by decide)) dL_law_518 ?_
    refine W_top (y := .int (xs 1)) (congrArg (fun n => Value.int (xs n)) (by decide : (1 : Int32).toNatClampNeg = 1)) ?_
    refine lv_aload_n hx hb dL_law_519 rfl (lv_at hl 3 rfl) ?_
    refine lv_iload_n hx hb dL_law_520 rfl (lv_at hl 0 rfl) ?_
    refine lv_iconst (v := 2) hx hb dL_law_521 (by decide) ?_
    refine lv_iadd hx hb dL_law_522 ?_
    refine W_top (y := .int 2) (by decide) ?_
    refine va_sld hx hb hX hbl hbA hS (g_in t_2 (by decide) (by decide)) dL_law_523 ?_
    refine W_top (y := .int (xs 2)) (congrArg (fun n => Value.int (xs n)) (by decide : (2 : Int32).toNatClampNeg = 2)) ?_
    refine callRV (rest := [.int (-1)]) (As := [.int (xs 1), .int (xs 2)]) hx hb hml hown htb hK (c_X9_repair l D E qm cm (xs 1) (xs 2) ) ok_X9_repair k_1238 k_1239 k_1240 k_9 k_1241 ⟨(Nat.le_of_ble_eq_true rfl), (Nat.le_of_ble_eq_true rfl)⟩ ⟨(Nat.le_of_ble_eq_true rfl), (Nat.le_of_ble_eq_true rfl)⟩ hl.1 (Nat.le_of_ble_eq_true rfl) rfl rfl dL_law_524 (hP.sub (ws' := [(qm, .inr (9, mF cm 0 0 0 0 0 0 0 0 0)), ((cm 3), .inl (E 0, 16, .inl (fun _ => -5)))]) [22, 24] rfl) rfl rfl 0 rfl (fun r_7 hw_6 => ?_)
    rcases hw_6 with ⟨hr_7, hw_6⟩ | ⟨hr_7, hw_6⟩
    ·
      refine W_top (y := .int (-2)) (by rw [hr_7]) ?_
      exfalso; omega
    ·
      refine W_top (y := .int (-1)) (by rw [hr_7]) ?_
      refine lv_icmp_eq (tgt := 1550) hx hb dL_law_527 (by decide) (fun c_8 => ?_) (fun c_8 => absurd rfl c_8)
      exact law_end hx hb hr hml hown htb hX hbl hlocks hS (lv_sub hl [0, 3] rfl) (Nat.le_of_ble_eq_true rfl) (Nat.le_of_ble_eq_true rfl)
set_option maxHeartbeats 4000000 in
set_option maxRecDepth 100000 in
theorem law_10 {p : Program} {l : Launch} {e : Env} {s : State} {m : MethodId} {below : List Frame} {meth : Method} {c : Code} {D : va_G} {E : Nat → Nat} {b : Nat} {xs : Nat → Int32} {qx : Nat} {ax : Nat → Nat} {bx : Nat → Nat → Nat} {fw : Nat → Int32} {qm : Nat} {cm : Nat → Nat} {fm : Nat → Int32} {H : Heap} {locs : List Loc} {ls : Array Slot} (hx : p.tables.exec = Jvm.exec) (hb : c.code = code) (hr : meth.sig.returnType = ret) (hml : c.maxLocals = 4) (hown : s.vm.findClass R_law = some m.cls) (htb : ∀ w ∈ tb, w.before #[Value.ref b] s = true) (hK : KX D E s) (hX : va_X b 6 xs s s.heap) (hbl : b < s.heap.size) (hlocks : meth.locks = false) (hP : va_P D vwCl (LW E qx ax bx fw qm cm fm) H) (hD : va_D (fun q : Nat => s.heap.size ≤ q) (LW E qx ax bx fw qm cm fm)) (hS : va_S (fun q : Nat => s.heap.size ≤ q) s.heap H locs) (hl : lv_has ls 4 [(3, .int 0), (2, .ref qm), (1, .ref qx), (0, .ref b)]) : W p l e room_1 s m #[Value.ref b] below meth c H locs 123 44666 (lw_Z below #[Value.ref b] s) (F0 m 532 ls []) := by
  have hA : ∀ q : Nat, s.heap.size ≤ q → (fun q : Nat => s.heap.size ≤ q) q := fun _ h => h
  have hbA : ¬ (fun q : Nat => s.heap.size ≤ q) b := Nat.not_le.mpr hbl
  refine lv_aload_n hx hb dL_law_532 rfl (lv_at hl 2 rfl) ?_
  refine lv_aload_n hx hb dL_law_533 rfl (lv_at hl 3 rfl) ?_
  refine lv_iload_n hx hb dL_law_534 rfl (lv_at hl 0 rfl) ?_
  refine lv_iconst (v := 1) hx hb dL_law_535 (by decide) ?_
  refine lv_iadd hx hb dL_law_536 ?_
  refine W_top (y := .int 1) (by decide) ?_
  refine va_sld hx hb hX hbl hbA hS (g_in t_1 (by decide) (by decide)) dL_law_537 ?_
  refine W_top (y := .int (xs 1)) (congrArg (fun n => Value.int (xs n)) (by decide : (1 : Int32).toNatClampNeg = 1)) ?_
  refine lv_aload_n hx hb dL_law_538 rfl (lv_at hl 3 rfl) ?_
  refine lv_iload_n hx hb dL_law_539 rfl (lv_at hl 0 rfl) ?_
  refine lv_iconst (v := 2) hx hb dL_law_540 (by decide) ?_
  refine lv_iadd hx hb dL_law_541 ?_
  refine W_top (y := .int 2) (by decide) ?_
  refine va_sld hx hb hX hbl hbA hS (g_in t_2 (by decide) (by decide)) dL_law_542 ?_
  refine W_top (y := .int (xs 2)) (congrArg (fun n => Value.int (xs n)) (by decide : (2 : Int32).toNatClampNeg = 2)) ?_
  refine callRV (rest := []) (As := [.int (xs 1), .int (xs 2)]) hx hb hml hown htb hK (c_X8_late l D E qx ax (xs 1) (xs 2) ) ok_X8_late k_455 k_456 k_457 k_1 k_458 ⟨(Nat.le_of_ble_eq_true rfl), (Nat.le_of_ble_eq_true rfl)⟩ ⟨(Nat.le_of_ble_eq_true rfl), (Nat.le_of_ble_eq_true rfl)⟩ hl.1 (Nat.le_of_ble_eq_true rfl) rfl rfl dL_law_543 (hP.sub (ws' := [(qx, .inr (8, xF ax 0)), ((ax 1), .inl (E 0, 16, .inl (fun _ => -5)))]) [0, 2] rfl) rfl rfl 0 rfl (fun r_2 hw_1 => ?_)
  rcases hw_1 with ⟨hr_2, hw_1⟩ | ⟨hr_2, hw_1⟩
  ·
    refine W_top (y := .int (-2)) (by rw [hr_2]) ?_
    refine lv_aload_n hx hb dL_law_546 rfl (lv_at hl 1 rfl) ?_
    refine lv_aload_n hx hb dL_law_547 rfl (lv_at hl 3 rfl) ?_
    refine lv_iload_n hx hb dL_law_548 rfl (lv_at hl 0 rfl) ?_
    refine lv_iconst (v := 1) hx hb dL_law_549 (by decide) ?_
    refine lv_iadd hx hb dL_law_550 ?_
    refine W_top (y := .int 1) (by decide) ?_
    refine va_sld hx hb hX hbl hbA hS (g_in t_1 (by decide) (by decide)) dL_law_551 ?_
    refine W_top (y := .int (xs 1)) (congrArg (fun n => Value.int (xs n)) (by decide : (1 : Int32).toNatClampNeg = 1)) ?_
    refine lv_aload_n hx hb dL_law_552 rfl (lv_at hl 3 rfl) ?_
    refine lv_iload_n hx hb dL_law_553 rfl (lv_at hl 0 rfl) ?_
    refine lv_iconst (v := 2) hx hb dL_law_554 (by decide) ?_
    refine lv_iadd hx hb dL_law_555 ?_
    refine W_top (y := .int 2) (by decide) ?_
    refine va_sld hx hb hX hbl hbA hS (g_in t_2 (by decide) (by decide)) dL_law_556 ?_
    refine W_top (y := .int (xs 2)) (congrArg (fun n => Value.int (xs n)) (by decide : (2 : Int32).toNatClampNeg = 2)) ?_
    refine callRV (rest := [.int (-2)]) (As := [.int (xs 1), .int (xs 2)]) hx hb hml hown htb hK (c_X9_late l D E qm cm (xs 1) (xs 2) ) ok_X9_late k_1242 k_1243 k_1244 k_9 k_1245 ⟨(Nat.le_of_ble_eq_true rfl), (Nat.le_of_ble_eq_true rfl)⟩ ⟨(Nat.le_of_ble_eq_true rfl), (Nat.le_of_ble_eq_true rfl)⟩ hl.1 (Nat.le_of_ble_eq_true rfl) rfl rfl dL_law_557 (hP.sub (ws' := [(qm, .inr (9, mF cm 0 0 0 0 0 0 0 0 0)), ((cm 3), .inl (E 0, 16, .inl (fun _ => -5)))]) [22, 24] rfl) rfl rfl 0 rfl (fun r_4 hw_3 => ?_)
    rcases hw_3 with ⟨hr_4, hw_3⟩ | ⟨hr_4, hw_3⟩
    ·
      refine W_top (y := .int (-2)) (by rw [hr_4]) ?_
      refine lv_icmp_eq (tgt := 1550) hx hb dL_law_560 (by decide) (fun c_5 => ?_) (fun c_5 => absurd rfl c_5)
      exact law_end hx hb hr hml hown htb hX hbl hlocks hS (lv_sub hl [0, 3] rfl) (Nat.le_of_ble_eq_true rfl) (Nat.le_of_ble_eq_true rfl)
    ·
      refine W_top (y := .int (-1)) (by rw [hr_4]) ?_
      exfalso; omega
  ·
    refine W_top (y := .int (-1)) (by rw [hr_2]) ?_
    refine lv_aload_n hx hb dL_law_546 rfl (lv_at hl 1 rfl) ?_
    refine lv_aload_n hx hb dL_law_547 rfl (lv_at hl 3 rfl) ?_
    refine lv_iload_n hx hb dL_law_548 rfl (lv_at hl 0 rfl) ?_
    refine lv_iconst (v := 1) hx hb dL_law_549 (by decide) ?_
    refine lv_iadd hx hb dL_law_550 ?_
    refine W_top (y := .int 1) (by decide) ?_
    refine va_sld hx hb hX hbl hbA hS (g_in t_1 (by decide) (by decide)) dL_law_551 ?_
    refine W_top (y := .int (xs 1)) (congrArg (fun n => Value.int (xs n)) (by decide : (1 : Int32).toNatClampNeg = 1)) ?_
    refine lv_aload_n hx hb dL_law_552 rfl (lv_at hl 3 rfl) ?_
    refine lv_iload_n hx hb dL_law_553 rfl (lv_at hl 0 rfl) ?_
    refine lv_iconst (v := 2) hx hb dL_law_554 (by decide) ?_
    refine lv_iadd hx hb dL_law_555 ?_
    refine W_top (y := .int 2) (by decide) ?_
    refine va_sld hx hb hX hbl hbA hS (g_in t_2 (by decide) (by decide)) dL_law_556 ?_
    refine W_top (y := .int (xs 2)) (congrArg (fun n => Value.int (xs n)) (by decide : (2 : Int32).toNatClampNeg = 2)) ?_
    refine callRV (rest := [.int (-1)]) (As := [.int (xs 1), .int (xs 2)]) hx hb hml hown htb hK (c_X9_late l D E qm cm (xs 1) (xs 2) ) ok_X9_late k_1242 k_1243 k_1244 k_9 k_1245 ⟨(Nat.le_of_ble_eq_true rfl), (Nat.le_of_ble_eq_true rfl)⟩ ⟨(Nat.le_of_ble_eq_true rfl), (Nat.le_of_ble_eq_true rfl)⟩ hl.1 (Nat.le_of_ble_eq_true rfl) rfl rfl dL_law_557 (hP.sub (ws' := [(qm, .inr (9, mF cm 0 0 0 0 0 0 0 0 0)), ((cm 3), .inl (E 0, 16, .inl (fun _ => -5)))]) [22, 24] rfl) rfl rfl 0 rfl (fun r_7 hw_6 => ?_)
    rcases hw_6 with ⟨hr_7, hw_6⟩ | ⟨hr_7, hw_6⟩
    ·
      refine W_top (y := .int (-2)) (by rw [hr_7]) ?_
      exfalso; omega
    ·
      refine W_top (y := .int (-1)) (by rw [hr_7]) ?_
      refine lv_icmp_eq (tgt := 1550) hx hb dL_law_560 (by decide) (fun c_8 => ?_) (fun c_8 => absurd rfl c_8)
      exact law_end hx hb hr hml hown htb hX hbl hlocks hS (lv_sub hl [0, 3] rfl) (Nat.le_of_ble_eq_true rfl) (Nat.le_of_ble_eq_true rfl)
set_option maxHeartbeats 4000000 in
set_option maxRecDepth 100000 in
theorem law_11 {p : Program} {l : Launch} {e : Env} {s : State} {m : MethodId} {below : List Frame} {meth : Method} {c : Code} {D : va_G} {E : Nat → Nat} {b : Nat} {xs : Nat → Int32} {qx : Nat} {ax : Nat → Nat} {bx : Nat → Nat → Nat} {fw : Nat → Int32} {qm : Nat} {cm : Nat → Nat} {fm : Nat → Int32} {H : Heap} {locs : List Loc} {ls : Array Slot} (hx : p.tables.exec = Jvm.exec) (hb : c.code = code) (hr : meth.sig.returnType = ret) (hml : c.maxLocals = 4) (hown : s.vm.findClass R_law = some m.cls) (htb : ∀ w ∈ tb, w.before #[Value.ref b] s = true) (hK : KX D E s) (hX : va_X b 6 xs s s.heap) (hbl : b < s.heap.size) (hlocks : meth.locks = false) (hP : va_P D vwCl (LW E qx ax bx fw qm cm fm) H) (hD : va_D (fun q : Nat => s.heap.size ≤ q) (LW E qx ax bx fw qm cm fm)) (hS : va_S (fun q : Nat => s.heap.size ≤ q) s.heap H locs) (hl : lv_has ls 4 [(3, .int 0), (2, .ref qm), (1, .ref qx), (0, .ref b)]) : W p l e room_1 s m #[Value.ref b] below meth c H locs 123 44666 (lw_Z below #[Value.ref b] s) (F0 m 565 ls []) := by
  have hA : ∀ q : Nat, s.heap.size ≤ q → (fun q : Nat => s.heap.size ≤ q) q := fun _ h => h
  have hbA : ¬ (fun q : Nat => s.heap.size ≤ q) b := Nat.not_le.mpr hbl
  refine lv_aload_n hx hb dL_law_565 rfl (lv_at hl 2 rfl) ?_
  refine lv_aload_n hx hb dL_law_566 rfl (lv_at hl 3 rfl) ?_
  refine lv_iload_n hx hb dL_law_567 rfl (lv_at hl 0 rfl) ?_
  refine lv_iconst (v := 1) hx hb dL_law_568 (by decide) ?_
  refine lv_iadd hx hb dL_law_569 ?_
  refine W_top (y := .int 1) (by decide) ?_
  refine va_sld hx hb hX hbl hbA hS (g_in t_1 (by decide) (by decide)) dL_law_570 ?_
  refine W_top (y := .int (xs 1)) (congrArg (fun n => Value.int (xs n)) (by decide : (1 : Int32).toNatClampNeg = 1)) ?_
  refine lv_aload_n hx hb dL_law_571 rfl (lv_at hl 3 rfl) ?_
  refine lv_iload_n hx hb dL_law_572 rfl (lv_at hl 0 rfl) ?_
  refine lv_iconst (v := 2) hx hb dL_law_573 (by decide) ?_
  refine lv_iadd hx hb dL_law_574 ?_
  refine W_top (y := .int 2) (by decide) ?_
  refine va_sld hx hb hX hbl hbA hS (g_in t_2 (by decide) (by decide)) dL_law_575 ?_
  refine W_top (y := .int (xs 2)) (congrArg (fun n => Value.int (xs n)) (by decide : (2 : Int32).toNatClampNeg = 2)) ?_
  refine callRV (rest := []) (As := [.int (xs 1), .int (xs 2)]) hx hb hml hown htb hK (c_X8_age l D E qx ax (xs 1) (xs 2) ) ok_X8_age k_459 k_460 k_461 k_1 k_462 ⟨(Nat.le_of_ble_eq_true rfl), (Nat.le_of_ble_eq_true rfl)⟩ ⟨(Nat.le_of_ble_eq_true rfl), (Nat.le_of_ble_eq_true rfl)⟩ hl.1 (Nat.le_of_ble_eq_true rfl) rfl rfl dL_law_576 (hP.sub (ws' := [(qx, .inr (8, xF ax 0)), ((ax 1), .inl (E 0, 16, .inl (fun _ => -5)))]) [0, 2] rfl) rfl rfl 0 rfl (fun r_2 hw_1 => ?_)
  rcases hw_1 with ⟨hr_2, hw_1⟩ | ⟨hr_2, hw_1⟩
  ·
    refine W_top (y := .int (-2)) (by rw [hr_2]) ?_
    refine lv_aload_n hx hb dL_law_579 rfl (lv_at hl 1 rfl) ?_
    refine lv_aload_n hx hb dL_law_580 rfl (lv_at hl 3 rfl) ?_
    refine lv_iload_n hx hb dL_law_581 rfl (lv_at hl 0 rfl) ?_
    refine lv_iconst (v := 1) hx hb dL_law_582 (by decide) ?_
    refine lv_iadd hx hb dL_law_583 ?_
    refine W_top (y := .int 1) (by decide) ?_
    refine va_sld hx hb hX hbl hbA hS (g_in t_1 (by decide) (by decide)) dL_law_584 ?_
    refine W_top (y := .int (xs 1)) (congrArg (fun n => Value.int (xs n)) (by decide : (1 : Int32).toNatClampNeg = 1)) ?_
    refine lv_aload_n hx hb dL_law_585 rfl (lv_at hl 3 rfl) ?_
    refine lv_iload_n hx hb dL_law_586 rfl (lv_at hl 0 rfl) ?_
    refine lv_iconst (v := 2) hx hb dL_law_587 (by decide) ?_
    refine lv_iadd hx hb dL_law_588 ?_
    refine W_top (y := .int 2) (by decide) ?_
    refine va_sld hx hb hX hbl hbA hS (g_in t_2 (by decide) (by decide)) dL_law_589 ?_
    refine W_top (y := .int (xs 2)) (congrArg (fun n => Value.int (xs n)) (by decide : (2 : Int32).toNatClampNeg = 2)) ?_
    refine callRV (rest := [.int (-2)]) (As := [.int (xs 1), .int (xs 2)]) hx hb hml hown htb hK (c_X9_age l D E qm cm (xs 1) (xs 2) ) ok_X9_age k_1246 k_1247 k_1248 k_9 k_1249 ⟨(Nat.le_of_ble_eq_true rfl), (Nat.le_of_ble_eq_true rfl)⟩ ⟨(Nat.le_of_ble_eq_true rfl), (Nat.le_of_ble_eq_true rfl)⟩ hl.1 (Nat.le_of_ble_eq_true rfl) rfl rfl dL_law_590 (hP.sub (ws' := [(qm, .inr (9, mF cm 0 0 0 0 0 0 0 0 0)), ((cm 3), .inl (E 0, 16, .inl (fun _ => -5)))]) [22, 24] rfl) rfl rfl 0 rfl (fun r_4 hw_3 => ?_)
    rcases hw_3 with ⟨hr_4, hw_3⟩ | ⟨hr_4, hw_3⟩
    ·
      refine W_top (y := .int (-2)) (by rw [hr_4]) ?_
      refine lv_icmp_eq (tgt := 1550) hx hb dL_law_593 (by decide) (fun c_5 => ?_) (fun c_5 => absurd rfl c_5)
      exact law_end hx hb hr hml hown htb hX hbl hlocks hS (lv_sub hl [0, 3] rfl) (Nat.le_of_ble_eq_true rfl) (Nat.le_of_ble_eq_true rfl)
    ·
      refine W_top (y := .int (-1)) (by rw [hr_4]) ?_
      exfalso; omega
  ·
    refine W_top (y := .int (-1)) (by rw [hr_2]) ?_
    refine lv_aload_n hx hb dL_law_579 rfl (lv_at hl 1 rfl) ?_
    refine lv_aload_n hx hb dL_law_580 rfl (lv_at hl 3 rfl) ?_
    refine lv_iload_n hx hb dL_law_581 rfl (lv_at hl 0 rfl) ?_
    refine lv_iconst (v := 1) hx hb dL_law_582 (by decide) ?_
    refine lv_iadd hx hb dL_law_583 ?_
    refine W_top (y := .int 1) (by decide) ?_
    refine va_sld hx hb hX hbl hbA hS (g_in t_1 (by decide) (by decide)) dL_law_584 ?_
    refine W_top (y := .int (xs 1)) (congrArg (fun n => Value.int (xs n)) (by decide : (1 : Int32).toNatClampNeg = 1)) ?_
    refine lv_aload_n hx hb dL_law_585 rfl (lv_at hl 3 rfl) ?_
    refine lv_iload_n hx hb dL_law_586 rfl (lv_at hl 0 rfl) ?_
    refine lv_iconst (v := 2) hx hb dL_law_587 (by decide) ?_
    refine lv_iadd hx hb dL_law_588 ?_
    refine W_top (y := .int 2) (by decide) ?_
    refine va_sld hx hb hX hbl hbA hS (g_in t_2 (by decide) (by decide)) dL_law_589 ?_
    refine W_top (y := .int (xs 2)) (congrArg (fun n => Value.int (xs n)) (by decide : (2 : Int32).toNatClampNeg = 2)) ?_
    refine callRV (rest := [.int (-1)]) (As := [.int (xs 1), .int (xs 2)]) hx hb hml hown htb hK (c_X9_age l D E qm cm (xs 1) (xs 2) ) ok_X9_age k_1246 k_1247 k_1248 k_9 k_1249 ⟨(Nat.le_of_ble_eq_true rfl), (Nat.le_of_ble_eq_true rfl)⟩ ⟨(Nat.le_of_ble_eq_true rfl), (Nat.le_of_ble_eq_true rfl)⟩ hl.1 (Nat.le_of_ble_eq_true rfl) rfl rfl dL_law_590 (hP.sub (ws' := [(qm, .inr (9, mF cm 0 0 0 0 0 0 0 0 0)), ((cm 3), .inl (E 0, 16, .inl (fun _ => -5)))]) [22, 24] rfl) rfl rfl 0 rfl (fun r_7 hw_6 => ?_)
    rcases hw_6 with ⟨hr_7, hw_6⟩ | ⟨hr_7, hw_6⟩
    ·
      refine W_top (y := .int (-2)) (by rw [hr_7]) ?_
      exfalso; omega
    ·
      refine W_top (y := .int (-1)) (by rw [hr_7]) ?_
      refine lv_icmp_eq (tgt := 1550) hx hb dL_law_593 (by decide) (fun c_8 => ?_) (fun c_8 => absurd rfl c_8)
      exact law_end hx hb hr hml hown htb hX hbl hlocks hS (lv_sub hl [0, 3] rfl) (Nat.le_of_ble_eq_true rfl) (Nat.le_of_ble_eq_true rfl)
